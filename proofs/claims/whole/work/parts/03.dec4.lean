theorem dX9_burnsAll_82 : decode cX9_burnsAll 82 = .ok (.getfield 316, 3) := by decide +kernel
theorem dX9_burnsAll_85 : decode cX9_burnsAll 85 = .ok (.getfield 260, 3) := by decide +kernel
theorem dX9_burnsAll_88 : decode cX9_burnsAll 88 = .ok (.iload_n 2, 1) := by decide +kernel
theorem dX9_burnsAll_89 : decode cX9_burnsAll 89 = .ok (.iaload, 1) := by decide +kernel
theorem dX9_burnsAll_90 : decode cX9_burnsAll 90 = .ok (.iaload, 1) := by decide +kernel
theorem dX9_burnsAll_91 : decode cX9_burnsAll 91 = .ok (.sipush 9999, 3) := by decide +kernel
theorem dX9_burnsAll_94 : decode cX9_burnsAll 94 = .ok (.if_icmp .ne 6, 3) := by decide +kernel
theorem dX9_burnsAll_97 : decode cX9_burnsAll 97 = .ok (.goto 65, 3) := by decide +kernel
theorem dX9_burnsAll_100 : decode cX9_burnsAll 100 = .ok (.aload_n 0, 1) := by decide +kernel
theorem dX9_burnsAll_101 : decode cX9_burnsAll 101 = .ok (.getfield 30, 3) := by decide +kernel
theorem dX9_burnsAll_104 : decode cX9_burnsAll 104 = .ok (.aload_n 0, 1) := by decide +kernel
theorem dX9_burnsAll_105 : decode cX9_burnsAll 105 = .ok (.getfield 316, 3) := by decide +kernel
theorem dX9_burnsAll_108 : decode cX9_burnsAll 108 = .ok (.getfield 260, 3) := by decide +kernel
theorem dX9_burnsAll_111 : decode cX9_burnsAll 111 = .ok (.iload_n 2, 1) := by decide +kernel
theorem dX9_burnsAll_112 : decode cX9_burnsAll 112 = .ok (.iaload, 1) := by decide +kernel
theorem dX9_burnsAll_113 : decode cX9_burnsAll 113 = .ok (.iaload, 1) := by decide +kernel
theorem dX9_burnsAll_114 : decode cX9_burnsAll 114 = .ok (.aload_n 0, 1) := by decide +kernel
theorem dX9_burnsAll_115 : decode cX9_burnsAll 115 = .ok (.getfield 316, 3) := by decide +kernel
theorem dX9_burnsAll_118 : decode cX9_burnsAll 118 = .ok (.iload_n 2, 1) := by decide +kernel
theorem dX9_burnsAll_119 : decode cX9_burnsAll 119 = .ok (.invokevirtual 327, 3) := by decide +kernel
theorem dX9_burnsAll_122 : decode cX9_burnsAll 122 = .ok (.iadd, 1) := by decide +kernel
theorem dX9_burnsAll_123 : decode cX9_burnsAll 123 = .ok (.istore_n 3, 1) := by decide +kernel
theorem dX9_burnsAll_124 : decode cX9_burnsAll 124 = .ok (.iload_n 3, 1) := by decide +kernel
theorem dX9_burnsAll_125 : decode cX9_burnsAll 125 = .ok (.aload_n 0, 1) := by decide +kernel
theorem dX9_burnsAll_126 : decode cX9_burnsAll 126 = .ok (.getfield 30, 3) := by decide +kernel
theorem dX9_burnsAll_129 : decode cX9_burnsAll 129 = .ok (.aload_n 0, 1) := by decide +kernel
theorem dX9_burnsAll_130 : decode cX9_burnsAll 130 = .ok (.getfield 316, 3) := by decide +kernel
theorem dX9_burnsAll_133 : decode cX9_burnsAll 133 = .ok (.getfield 263, 3) := by decide +kernel
theorem dX9_burnsAll_136 : decode cX9_burnsAll 136 = .ok (.iload_n 2, 1) := by decide +kernel
theorem dX9_burnsAll_137 : decode cX9_burnsAll 137 = .ok (.iaload, 1) := by decide +kernel
theorem dX9_burnsAll_138 : decode cX9_burnsAll 138 = .ok (.iaload, 1) := by decide +kernel
theorem dX9_burnsAll_139 : decode cX9_burnsAll 139 = .ok (.if_icmp .lt 6, 3) := by decide +kernel
theorem dX9_burnsAll_142 : decode cX9_burnsAll 142 = .ok (.goto 20, 3) := by decide +kernel
theorem dX9_burnsAll_145 : decode cX9_burnsAll 145 = .ok (.aload_n 0, 1) := by decide +kernel
theorem dX9_burnsAll_146 : decode cX9_burnsAll 146 = .ok (.getfield 30, 3) := by decide +kernel
theorem dX9_burnsAll_149 : decode cX9_burnsAll 149 = .ok (.aload_n 0, 1) := by decide +kernel
theorem dX9_burnsAll_150 : decode cX9_burnsAll 150 = .ok (.getfield 316, 3) := by decide +kernel
theorem dX9_burnsAll_153 : decode cX9_burnsAll 153 = .ok (.getfield 263, 3) := by decide +kernel
theorem dX9_burnsAll_156 : decode cX9_burnsAll 156 = .ok (.iload_n 2, 1) := by decide +kernel
theorem dX9_burnsAll_157 : decode cX9_burnsAll 157 = .ok (.iaload, 1) := by decide +kernel
theorem dX9_burnsAll_158 : decode cX9_burnsAll 158 = .ok (.iload_n 3, 1) := by decide +kernel
theorem dX9_burnsAll_159 : decode cX9_burnsAll 159 = .ok (.iastore, 1) := by decide +kernel
theorem dX9_burnsAll_160 : decode cX9_burnsAll 160 = .ok (.iconst 1, 1) := by decide +kernel
theorem dX9_burnsAll_161 : decode cX9_burnsAll 161 = .ok (.istore_n 1, 1) := by decide +kernel
theorem dX9_burnsAll_162 : decode cX9_burnsAll 162 = .ok (.iinc 2 1, 3) := by decide +kernel
theorem dX9_burnsAll_165 : decode cX9_burnsAll 165 = .ok (.goto (-107), 3) := by decide +kernel
theorem dX9_burnsAll_168 : decode cX9_burnsAll 168 = .ok (.goto (-118), 3) := by decide +kernel
theorem dX9_burnsAll_171 : decode cX9_burnsAll 171 = .ok (.return_, 1) := by decide +kernel
theorem dX9_nextOn_0 : decode cX9_nextOn 0 = .ok (.bipush (-2), 2) := by decide +kernel
theorem dX9_nextOn_2 : decode cX9_nextOn 2 = .ok (.istore_n 2, 1) := by decide +kernel
theorem dX9_nextOn_3 : decode cX9_nextOn 3 = .ok (.iconst 0, 1) := by decide +kernel
theorem dX9_nextOn_4 : decode cX9_nextOn 4 = .ok (.istore_n 3, 1) := by decide +kernel
theorem dX9_nextOn_5 : decode cX9_nextOn 5 = .ok (.iload_n 3, 1) := by decide +kernel
theorem dX9_nextOn_6 : decode cX9_nextOn 6 = .ok (.aload_n 0, 1) := by decide +kernel
theorem dX9_nextOn_7 : decode cX9_nextOn 7 = .ok (.getfield 316, 3) := by decide +kernel
theorem dX9_nextOn_10 : decode cX9_nextOn 10 = .ok (.getfield 187, 3) := by decide +kernel
theorem dX9_nextOn_13 : decode cX9_nextOn 13 = .ok (.if_icmp .ge 68, 3) := by decide +kernel
theorem dX9_nextOn_16 : decode cX9_nextOn 16 = .ok (.aload_n 0, 1) := by decide +kernel
theorem dX9_nextOn_17 : decode cX9_nextOn 17 = .ok (.getfield 21, 3) := by decide +kernel
theorem dX9_nextOn_20 : decode cX9_nextOn 20 = .ok (.bipush 8, 2) := by decide +kernel
theorem dX9_nextOn_22 : decode cX9_nextOn 22 = .ok (.iaload, 1) := by decide +kernel
theorem dX9_nextOn_23 : decode cX9_nextOn 23 = .ok (.iload_n 3, 1) := by decide +kernel
theorem dX9_nextOn_24 : decode cX9_nextOn 24 = .ok (.invokestatic 281, 3) := by decide +kernel
theorem dX9_nextOn_27 : decode cX9_nextOn 27 = .ok (.ifCond .ne 48, 3) := by decide +kernel
theorem dX9_nextOn_30 : decode cX9_nextOn 30 = .ok (.aload_n 0, 1) := by decide +kernel
theorem dX9_nextOn_31 : decode cX9_nextOn 31 = .ok (.getfield 30, 3) := by decide +kernel
theorem dX9_nextOn_34 : decode cX9_nextOn 34 = .ok (.iload_n 3, 1) := by decide +kernel
theorem dX9_nextOn_35 : decode cX9_nextOn 35 = .ok (.iaload, 1) := by decide +kernel
theorem dX9_nextOn_36 : decode cX9_nextOn 36 = .ok (.iload_n 1, 1) := by decide +kernel
theorem dX9_nextOn_37 : decode cX9_nextOn 37 = .ok (.if_icmp .le 38, 3) := by decide +kernel
theorem dX9_nextOn_40 : decode cX9_nextOn 40 = .ok (.aload_n 0, 1) := by decide +kernel
theorem dX9_nextOn_41 : decode cX9_nextOn 41 = .ok (.getfield 30, 3) := by decide +kernel
theorem dX9_nextOn_44 : decode cX9_nextOn 44 = .ok (.iload_n 3, 1) := by decide +kernel
theorem dX9_nextOn_45 : decode cX9_nextOn 45 = .ok (.iaload, 1) := by decide +kernel
theorem dX9_nextOn_46 : decode cX9_nextOn 46 = .ok (.sipush 9999, 3) := by decide +kernel
theorem dX9_nextOn_49 : decode cX9_nextOn 49 = .ok (.if_icmp .ge 26, 3) := by decide +kernel
theorem dX9_nextOn_52 : decode cX9_nextOn 52 = .ok (.iload_n 2, 1) := by decide +kernel
theorem dX9_nextOn_53 : decode cX9_nextOn 53 = .ok (.bipush (-2), 2) := by decide +kernel
theorem dX9_nextOn_55 : decode cX9_nextOn 55 = .ok (.if_icmp .eq 18, 3) := by decide +kernel
theorem dX9_nextOn_58 : decode cX9_nextOn 58 = .ok (.aload_n 0, 1) := by decide +kernel
theorem dX9_nextOn_59 : decode cX9_nextOn 59 = .ok (.getfield 30, 3) := by decide +kernel
theorem dX9_nextOn_62 : decode cX9_nextOn 62 = .ok (.iload_n 3, 1) := by decide +kernel
theorem dX9_nextOn_63 : decode cX9_nextOn 63 = .ok (.iaload, 1) := by decide +kernel
theorem dX9_nextOn_64 : decode cX9_nextOn 64 = .ok (.aload_n 0, 1) := by decide +kernel
theorem dX9_nextOn_65 : decode cX9_nextOn 65 = .ok (.getfield 30, 3) := by decide +kernel
theorem dX9_nextOn_68 : decode cX9_nextOn 68 = .ok (.iload_n 2, 1) := by decide +kernel
theorem dX9_nextOn_69 : decode cX9_nextOn 69 = .ok (.iaload, 1) := by decide +kernel
theorem dX9_nextOn_70 : decode cX9_nextOn 70 = .ok (.if_icmp .ge 5, 3) := by decide +kernel
theorem dX9_nextOn_73 : decode cX9_nextOn 73 = .ok (.iload_n 3, 1) := by decide +kernel
theorem dX9_nextOn_74 : decode cX9_nextOn 74 = .ok (.istore_n 2, 1) := by decide +kernel
theorem dX9_nextOn_75 : decode cX9_nextOn 75 = .ok (.iinc 3 1, 3) := by decide +kernel
theorem dX9_nextOn_78 : decode cX9_nextOn 78 = .ok (.goto (-73), 3) := by decide +kernel
theorem dX9_nextOn_81 : decode cX9_nextOn 81 = .ok (.iload_n 2, 1) := by decide +kernel
theorem dX9_nextOn_82 : decode cX9_nextOn 82 = .ok (.ireturn, 1) := by decide +kernel
theorem dX9_burntBy_0 : decode cX9_burntBy 0 = .ok (.iconst 0, 1) := by decide +kernel
theorem dX9_burntBy_1 : decode cX9_burntBy 1 = .ok (.istore_n 2, 1) := by decide +kernel
theorem dX9_burntBy_2 : decode cX9_burntBy 2 = .ok (.iconst 0, 1) := by decide +kernel
theorem dX9_burntBy_3 : decode cX9_burntBy 3 = .ok (.istore_n 3, 1) := by decide +kernel
theorem dX9_burntBy_4 : decode cX9_burntBy 4 = .ok (.iload_n 3, 1) := by decide +kernel
theorem dX9_burntBy_5 : decode cX9_burntBy 5 = .ok (.aload_n 0, 1) := by decide +kernel
theorem dX9_burntBy_6 : decode cX9_burntBy 6 = .ok (.getfield 316, 3) := by decide +kernel
theorem dX9_burntBy_9 : decode cX9_burntBy 9 = .ok (.getfield 187, 3) := by decide +kernel
theorem dX9_burntBy_12 : decode cX9_burntBy 12 = .ok (.if_icmp .ge 29, 3) := by decide +kernel
theorem dX9_burntBy_15 : decode cX9_burntBy 15 = .ok (.iload_n 2, 1) := by decide +kernel
theorem dX9_burntBy_16 : decode cX9_burntBy 16 = .ok (.aload_n 0, 1) := by decide +kernel
theorem dX9_burntBy_17 : decode cX9_burntBy 17 = .ok (.getfield 30, 3) := by decide +kernel
theorem dX9_burntBy_20 : decode cX9_burntBy 20 = .ok (.iload_n 3, 1) := by decide +kernel
theorem dX9_burntBy_21 : decode cX9_burntBy 21 = .ok (.iaload, 1) := by decide +kernel
theorem dX9_burntBy_22 : decode cX9_burntBy 22 = .ok (.iload_n 1, 1) := by decide +kernel
theorem dX9_burntBy_23 : decode cX9_burntBy 23 = .ok (.if_icmp .gt 9, 3) := by decide +kernel
theorem dX9_burntBy_26 : decode cX9_burntBy 26 = .ok (.iconst 1, 1) := by decide +kernel
theorem dX9_burntBy_27 : decode cX9_burntBy 27 = .ok (.iload_n 3, 1) := by decide +kernel
theorem dX9_burntBy_28 : decode cX9_burntBy 28 = .ok (.ishl, 1) := by decide +kernel
theorem dX9_burntBy_29 : decode cX9_burntBy 29 = .ok (.goto 4, 3) := by decide +kernel
theorem dX9_burntBy_32 : decode cX9_burntBy 32 = .ok (.iconst 0, 1) := by decide +kernel
theorem dX9_burntBy_33 : decode cX9_burntBy 33 = .ok (.ior, 1) := by decide +kernel
theorem dX9_burntBy_34 : decode cX9_burntBy 34 = .ok (.istore_n 2, 1) := by decide +kernel
theorem dX9_burntBy_35 : decode cX9_burntBy 35 = .ok (.iinc 3 1, 3) := by decide +kernel
theorem dX9_burntBy_38 : decode cX9_burntBy 38 = .ok (.goto (-34), 3) := by decide +kernel
theorem dX9_burntBy_41 : decode cX9_burntBy 41 = .ok (.iload_n 2, 1) := by decide +kernel
theorem dX9_burntBy_42 : decode cX9_burntBy 42 = .ok (.ireturn, 1) := by decide +kernel
theorem dX9_everBurnt_0 : decode cX9_everBurnt 0 = .ok (.aload_n 0, 1) := by decide +kernel
theorem dX9_everBurnt_1 : decode cX9_everBurnt 1 = .ok (.sipush 9998, 3) := by decide +kernel
theorem dX9_everBurnt_4 : decode cX9_everBurnt 4 = .ok (.invokevirtual 333, 3) := by decide +kernel
theorem dX9_everBurnt_7 : decode cX9_everBurnt 7 = .ok (.invokestatic 336, 3) := by decide +kernel
theorem dX9_everBurnt_10 : decode cX9_everBurnt 10 = .ok (.ireturn, 1) := by decide +kernel
theorem dX9_tells_0 : decode cX9_tells 0 = .ok (.aload_n 0, 1) := by decide +kernel
theorem dX9_tells_1 : decode cX9_tells 1 = .ok (.getfield 21, 3) := by decide +kernel
theorem dX9_tells_4 : decode cX9_tells 4 = .ok (.bipush 7, 2) := by decide +kernel
theorem dX9_tells_6 : decode cX9_tells 6 = .ok (.iaload, 1) := by decide +kernel
theorem dX9_tells_7 : decode cX9_tells 7 = .ok (.iload_n 1, 1) := by decide +kernel
theorem dX9_tells_8 : decode cX9_tells 8 = .ok (.invokestatic 281, 3) := by decide +kernel
theorem dX9_tells_11 : decode cX9_tells 11 = .ok (.ifCond .ne 13, 3) := by decide +kernel
theorem dX9_tells_14 : decode cX9_tells 14 = .ok (.aload_n 0, 1) := by decide +kernel
theorem dX9_tells_15 : decode cX9_tells 15 = .ok (.getfield 30, 3) := by decide +kernel
theorem dX9_tells_18 : decode cX9_tells 18 = .ok (.iload_n 1, 1) := by decide +kernel
theorem dX9_tells_19 : decode cX9_tells 19 = .ok (.iaload, 1) := by decide +kernel
theorem dX9_tells_20 : decode cX9_tells 20 = .ok (.iload_n 2, 1) := by decide +kernel
theorem dX9_tells_21 : decode cX9_tells 21 = .ok (.if_icmp .gt 4, 3) := by decide +kernel
theorem dX9_tells_24 : decode cX9_tells 24 = .ok (.return_, 1) := by decide +kernel
theorem dX9_tells_25 : decode cX9_tells 25 = .ok (.aload_n 0, 1) := by decide +kernel
theorem dX9_tells_26 : decode cX9_tells 26 = .ok (.getfield 21, 3) := by decide +kernel
theorem dX9_tells_29 : decode cX9_tells 29 = .ok (.bipush 7, 2) := by decide +kernel
theorem dX9_tells_31 : decode cX9_tells 31 = .ok (.dup2, 1) := by decide +kernel
theorem dX9_tells_32 : decode cX9_tells 32 = .ok (.iaload, 1) := by decide +kernel
theorem dX9_tells_33 : decode cX9_tells 33 = .ok (.iconst 1, 1) := by decide +kernel
theorem dX9_tells_34 : decode cX9_tells 34 = .ok (.iload_n 1, 1) := by decide +kernel
theorem dX9_tells_35 : decode cX9_tells 35 = .ok (.ishl, 1) := by decide +kernel
theorem dX9_tells_36 : decode cX9_tells 36 = .ok (.ior, 1) := by decide +kernel
theorem dX9_tells_37 : decode cX9_tells 37 = .ok (.iastore, 1) := by decide +kernel
theorem dX9_tells_38 : decode cX9_tells 38 = .ok (.aload_n 0, 1) := by decide +kernel
theorem dX9_tells_39 : decode cX9_tells 39 = .ok (.getfield 316, 3) := by decide +kernel
theorem dX9_tells_42 : decode cX9_tells 42 = .ok (.getfield 268, 3) := by decide +kernel
theorem dX9_tells_45 : decode cX9_tells 45 = .ok (.iload_n 1, 1) := by decide +kernel
theorem dX9_tells_46 : decode cX9_tells 46 = .ok (.iaload, 1) := by decide +kernel
theorem dX9_tells_47 : decode cX9_tells 47 = .ok (.iconst 1, 1) := by decide +kernel
theorem dX9_tells_48 : decode cX9_tells 48 = .ok (.if_icmp .ne 11, 3) := by decide +kernel
theorem dX9_tells_51 : decode cX9_tells 51 = .ok (.aload_n 0, 1) := by decide +kernel
theorem dX9_tells_52 : decode cX9_tells 52 = .ok (.getfield 21, 3) := by decide +kernel
theorem dX9_tells_55 : decode cX9_tells 55 = .ok (.iload_n 1, 1) := by decide +kernel
theorem dX9_tells_56 : decode cX9_tells 56 = .ok (.bipush (-2), 2) := by decide +kernel
theorem dX9_tells_58 : decode cX9_tells 58 = .ok (.iastore, 1) := by decide +kernel
theorem dX9_tells_59 : decode cX9_tells 59 = .ok (.aload_n 0, 1) := by decide +kernel
theorem dX9_tells_60 : decode cX9_tells 60 = .ok (.getfield 316, 3) := by decide +kernel
theorem dX9_tells_63 : decode cX9_tells 63 = .ok (.getfield 268, 3) := by decide +kernel
theorem dX9_tells_66 : decode cX9_tells 66 = .ok (.iload_n 1, 1) := by decide +kernel
theorem dX9_tells_67 : decode cX9_tells 67 = .ok (.iaload, 1) := by decide +kernel
theorem dX9_tells_68 : decode cX9_tells 68 = .ok (.iconst 2, 1) := by decide +kernel
theorem dX9_tells_69 : decode cX9_tells 69 = .ok (.if_icmp .ne 16, 3) := by decide +kernel
theorem dX9_tells_72 : decode cX9_tells 72 = .ok (.aload_n 0, 1) := by decide +kernel
theorem dX9_tells_73 : decode cX9_tells 73 = .ok (.getfield 21, 3) := by decide +kernel
theorem dX9_tells_76 : decode cX9_tells 76 = .ok (.bipush 6, 2) := by decide +kernel
theorem dX9_tells_78 : decode cX9_tells 78 = .ok (.dup2, 1) := by decide +kernel
theorem dX9_tells_79 : decode cX9_tells 79 = .ok (.iaload, 1) := by decide +kernel
theorem dX9_tells_80 : decode cX9_tells 80 = .ok (.iconst 1, 1) := by decide +kernel
theorem dX9_tells_81 : decode cX9_tells 81 = .ok (.iload_n 1, 1) := by decide +kernel
theorem dX9_tells_82 : decode cX9_tells 82 = .ok (.ishl, 1) := by decide +kernel
theorem dX9_tells_83 : decode cX9_tells 83 = .ok (.ior, 1) := by decide +kernel
theorem dX9_tells_84 : decode cX9_tells 84 = .ok (.iastore, 1) := by decide +kernel
theorem dX9_tells_85 : decode cX9_tells 85 = .ok (.aload_n 0, 1) := by decide +kernel
theorem dX9_tells_86 : decode cX9_tells 86 = .ok (.getfield 316, 3) := by decide +kernel
theorem dX9_tells_89 : decode cX9_tells 89 = .ok (.getfield 268, 3) := by decide +kernel
theorem dX9_tells_92 : decode cX9_tells 92 = .ok (.iload_n 1, 1) := by decide +kernel
theorem dX9_tells_93 : decode cX9_tells 93 = .ok (.iaload, 1) := by decide +kernel
theorem dX9_tells_94 : decode cX9_tells 94 = .ok (.iconst 3, 1) := by decide +kernel
theorem dX9_tells_95 : decode cX9_tells 95 = .ok (.if_icmp .ne 22, 3) := by decide +kernel
theorem dX9_tells_98 : decode cX9_tells 98 = .ok (.aload_n 0, 1) := by decide +kernel
theorem dX9_tells_99 : decode cX9_tells 99 = .ok (.getfield 21, 3) := by decide +kernel
theorem dX9_tells_102 : decode cX9_tells 102 = .ok (.iload_n 1, 1) := by decide +kernel
theorem dX9_tells_103 : decode cX9_tells 103 = .ok (.iaload, 1) := by decide +kernel
theorem dX9_tells_104 : decode cX9_tells 104 = .ok (.ifCond .le 13, 3) := by decide +kernel
theorem dX9_tells_107 : decode cX9_tells 107 = .ok (.aload_n 0, 1) := by decide +kernel
theorem dX9_tells_108 : decode cX9_tells 108 = .ok (.getfield 21, 3) := by decide +kernel
theorem dX9_tells_111 : decode cX9_tells 111 = .ok (.iload_n 1, 1) := by decide +kernel
theorem dX9_tells_112 : decode cX9_tells 112 = .ok (.dup2, 1) := by decide +kernel
theorem dX9_tells_113 : decode cX9_tells 113 = .ok (.iaload, 1) := by decide +kernel
theorem dX9_tells_114 : decode cX9_tells 114 = .ok (.iconst 1, 1) := by decide +kernel
theorem dX9_tells_115 : decode cX9_tells 115 = .ok (.isub, 1) := by decide +kernel
theorem dX9_tells_116 : decode cX9_tells 116 = .ok (.iastore, 1) := by decide +kernel
theorem dX9_tells_117 : decode cX9_tells 117 = .ok (.aload_n 0, 1) := by decide +kernel
theorem dX9_tells_118 : decode cX9_tells 118 = .ok (.invokevirtual 339, 3) := by decide +kernel
theorem dX9_tells_121 : decode cX9_tells 121 = .ok (.return_, 1) := by decide +kernel
theorem dX9_finds_0 : decode cX9_finds 0 = .ok (.aload_n 0, 1) := by decide +kernel
theorem dX9_finds_1 : decode cX9_finds 1 = .ok (.invokevirtual 342, 3) := by decide +kernel
theorem dX9_finds_4 : decode cX9_finds 4 = .ok (.aload_n 0, 1) := by decide +kernel
theorem dX9_finds_5 : decode cX9_finds 5 = .ok (.invokevirtual 339, 3) := by decide +kernel
theorem dX9_finds_8 : decode cX9_finds 8 = .ok (.return_, 1) := by decide +kernel
theorem dX9_orNobody_0 : decode cX9_orNobody 0 = .ok (.iload_n 0, 1) := by decide +kernel
theorem dX9_orNobody_1 : decode cX9_orNobody 1 = .ok (.sipush 9999, 3) := by decide +kernel
theorem dX9_orNobody_4 : decode cX9_orNobody 4 = .ok (.if_icmp .lt 8, 3) := by decide +kernel
theorem dX9_orNobody_7 : decode cX9_orNobody 7 = .ok (.bipush (-2), 2) := by decide +kernel
theorem dX9_orNobody_9 : decode cX9_orNobody 9 = .ok (.goto 4, 3) := by decide +kernel
theorem dX9_orNobody_12 : decode cX9_orNobody 12 = .ok (.iload_n 0, 1) := by decide +kernel
theorem dX9_orNobody_13 : decode cX9_orNobody 13 = .ok (.ireturn, 1) := by decide +kernel
theorem dX9_house_0 : decode cX9_house 0 = .ok (.aload_n 0, 1) := by decide +kernel
theorem dX9_house_1 : decode cX9_house 1 = .ok (.iconst 0, 1) := by decide +kernel
theorem dX9_house_2 : decode cX9_house 2 = .ok (.putfield 52, 3) := by decide +kernel
theorem dX9_house_5 : decode cX9_house 5 = .ok (.aload_n 0, 1) := by decide +kernel
theorem dX9_house_6 : decode cX9_house 6 = .ok (.iload_n 1, 1) := by decide +kernel
theorem dX9_house_7 : decode cX9_house 7 = .ok (.invokevirtual 345, 3) := by decide +kernel
theorem dX9_house_10 : decode cX9_house 10 = .ok (.ifCond .eq 12, 3) := by decide +kernel
theorem dX9_house_13 : decode cX9_house 13 = .ok (.iload_n 2, 1) := by decide +kernel
theorem dX9_house_14 : decode cX9_house 14 = .ok (.iconst 0, 1) := by decide +kernel
theorem dX9_house_15 : decode cX9_house 15 = .ok (.iconst 5, 1) := by decide +kernel
theorem dX9_house_16 : decode cX9_house 16 = .ok (.invokestatic 131, 3) := by decide +kernel
theorem dX9_house_19 : decode cX9_house 19 = .ok (.ifCond .ne 9, 3) := by decide +kernel
theorem dX9_house_22 : decode cX9_house 22 = .ok (.aload_n 0, 1) := by decide +kernel
theorem dX9_house_23 : decode cX9_house 23 = .ok (.iconst 1, 1) := by decide +kernel
theorem dX9_house_24 : decode cX9_house 24 = .ok (.invokevirtual 58, 3) := by decide +kernel
theorem dX9_house_27 : decode cX9_house 27 = .ok (.ireturn, 1) := by decide +kernel
theorem dX9_house_28 : decode cX9_house 28 = .ok (.iload_n 2, 1) := by decide +kernel
theorem dX9_house_29 : decode cX9_house 29 = .ok (.tableswitch 112 0 4 #[35, 49, 60, 74, 88], 35) := by decide +kernel
theorem dX9_house_64 : decode cX9_house 64 = .ok (.aload_n 0, 1) := by decide +kernel
theorem dX9_house_65 : decode cX9_house 65 = .ok (.aload_n 0, 1) := by decide +kernel
theorem dX9_house_66 : decode cX9_house 66 = .ok (.getfield 316, 3) := by decide +kernel
theorem dX9_house_69 : decode cX9_house 69 = .ok (.getfield 240, 3) := by decide +kernel
theorem dX9_house_72 : decode cX9_house 72 = .ok (.iload_n 1, 1) := by decide +kernel
theorem dX9_house_73 : decode cX9_house 73 = .ok (.iaload, 1) := by decide +kernel
theorem dX9_house_74 : decode cX9_house 74 = .ok (.invokevirtual 62, 3) := by decide +kernel
theorem dX9_house_77 : decode cX9_house 77 = .ok (.ireturn, 1) := by decide +kernel
theorem dX9_house_78 : decode cX9_house 78 = .ok (.aload_n 0, 1) := by decide +kernel
theorem dX9_house_79 : decode cX9_house 79 = .ok (.aload_n 0, 1) := by decide +kernel
theorem dX9_house_80 : decode cX9_house 80 = .ok (.getfield 17, 3) := by decide +kernel
theorem dX9_house_83 : decode cX9_house 83 = .ok (.iload_n 1, 1) := by decide +kernel
theorem dX9_house_84 : decode cX9_house 84 = .ok (.iaload, 1) := by decide +kernel
theorem dX9_house_85 : decode cX9_house 85 = .ok (.invokevirtual 62, 3) := by decide +kernel
theorem dX9_house_88 : decode cX9_house 88 = .ok (.ireturn, 1) := by decide +kernel
theorem dX9_house_89 : decode cX9_house 89 = .ok (.aload_n 0, 1) := by decide +kernel
theorem dX9_house_90 : decode cX9_house 90 = .ok (.aload_n 0, 1) := by decide +kernel
theorem dX9_house_91 : decode cX9_house 91 = .ok (.getfield 316, 3) := by decide +kernel
theorem dX9_house_94 : decode cX9_house 94 = .ok (.getfield 246, 3) := by decide +kernel
theorem dX9_house_97 : decode cX9_house 97 = .ok (.iload_n 1, 1) := by decide +kernel
theorem dX9_house_98 : decode cX9_house 98 = .ok (.iaload, 1) := by decide +kernel
theorem dX9_house_99 : decode cX9_house 99 = .ok (.invokevirtual 62, 3) := by decide +kernel
theorem dX9_house_102 : decode cX9_house 102 = .ok (.ireturn, 1) := by decide +kernel
theorem dX9_house_103 : decode cX9_house 103 = .ok (.aload_n 0, 1) := by decide +kernel
theorem dX9_house_104 : decode cX9_house 104 = .ok (.aload_n 0, 1) := by decide +kernel
theorem dX9_house_105 : decode cX9_house 105 = .ok (.getfield 316, 3) := by decide +kernel
theorem dX9_house_108 : decode cX9_house 108 = .ok (.getfield 268, 3) := by decide +kernel
theorem dX9_house_111 : decode cX9_house 111 = .ok (.iload_n 1, 1) := by decide +kernel
theorem dX9_house_112 : decode cX9_house 112 = .ok (.iaload, 1) := by decide +kernel
theorem dX9_house_113 : decode cX9_house 113 = .ok (.invokevirtual 62, 3) := by decide +kernel
theorem dX9_house_116 : decode cX9_house 116 = .ok (.ireturn, 1) := by decide +kernel
theorem dX9_house_117 : decode cX9_house 117 = .ok (.aload_n 0, 1) := by decide +kernel
theorem dX9_house_118 : decode cX9_house 118 = .ok (.aload_n 0, 1) := by decide +kernel
theorem dX9_house_119 : decode cX9_house 119 = .ok (.getfield 17, 3) := by decide +kernel
theorem dX9_house_122 : decode cX9_house 122 = .ok (.bipush 7, 2) := by decide +kernel
theorem dX9_house_124 : decode cX9_house 124 = .ok (.iaload, 1) := by decide +kernel
theorem dX9_house_125 : decode cX9_house 125 = .ok (.iload_n 1, 1) := by decide +kernel
theorem dX9_house_126 : decode cX9_house 126 = .ok (.invokestatic 281, 3) := by decide +kernel
theorem dX9_house_129 : decode cX9_house 129 = .ok (.ifCond .eq 7, 3) := by decide +kernel
theorem dX9_house_132 : decode cX9_house 132 = .ok (.iconst 1, 1) := by decide +kernel
theorem dX9_house_133 : decode cX9_house 133 = .ok (.goto 4, 3) := by decide +kernel
theorem dX9_house_136 : decode cX9_house 136 = .ok (.iconst 0, 1) := by decide +kernel
theorem dX9_house_137 : decode cX9_house 137 = .ok (.invokevirtual 62, 3) := by decide +kernel
theorem dX9_house_140 : decode cX9_house 140 = .ok (.ireturn, 1) := by decide +kernel
theorem dX9_house_141 : decode cX9_house 141 = .ok (.aload_n 0, 1) := by decide +kernel
theorem dX9_house_142 : decode cX9_house 142 = .ok (.aload_n 0, 1) := by decide +kernel
theorem dX9_house_143 : decode cX9_house 143 = .ok (.getfield 17, 3) := by decide +kernel
theorem dX9_house_146 : decode cX9_house 146 = .ok (.bipush 8, 2) := by decide +kernel
theorem dX9_house_148 : decode cX9_house 148 = .ok (.iaload, 1) := by decide +kernel
theorem dX9_house_149 : decode cX9_house 149 = .ok (.iload_n 1, 1) := by decide +kernel
theorem dX9_house_150 : decode cX9_house 150 = .ok (.invokestatic 281, 3) := by decide +kernel
theorem dX9_house_153 : decode cX9_house 153 = .ok (.ifCond .eq 7, 3) := by decide +kernel
theorem dX9_house_156 : decode cX9_house 156 = .ok (.iconst 1, 1) := by decide +kernel
theorem dX9_house_157 : decode cX9_house 157 = .ok (.goto 4, 3) := by decide +kernel
theorem dX9_house_160 : decode cX9_house 160 = .ok (.iconst 0, 1) := by decide +kernel
theorem dX9_house_161 : decode cX9_house 161 = .ok (.invokevirtual 62, 3) := by decide +kernel
theorem dX9_house_164 : decode cX9_house 164 = .ok (.ireturn, 1) := by decide +kernel
theorem dX9_spark_0 : decode cX9_spark 0 = .ok (.aload_n 0, 1) := by decide +kernel
theorem dX9_spark_1 : decode cX9_spark 1 = .ok (.iconst 0, 1) := by decide +kernel
theorem dX9_spark_2 : decode cX9_spark 2 = .ok (.putfield 52, 3) := by decide +kernel
theorem dX9_spark_5 : decode cX9_spark 5 = .ok (.aload_n 0, 1) := by decide +kernel
theorem dX9_spark_6 : decode cX9_spark 6 = .ok (.iload_n 1, 1) := by decide +kernel
theorem dX9_spark_7 : decode cX9_spark 7 = .ok (.invokevirtual 345, 3) := by decide +kernel
theorem dX9_spark_10 : decode cX9_spark 10 = .ok (.ifCond .eq 16, 3) := by decide +kernel
theorem dX9_spark_13 : decode cX9_spark 13 = .ok (.aload_n 0, 1) := by decide +kernel
theorem dX9_spark_14 : decode cX9_spark 14 = .ok (.iload_n 2, 1) := by decide +kernel
theorem dX9_spark_15 : decode cX9_spark 15 = .ok (.invokevirtual 345, 3) := by decide +kernel
theorem dX9_spark_18 : decode cX9_spark 18 = .ok (.ifCond .eq 8, 3) := by decide +kernel
theorem dX9_spark_21 : decode cX9_spark 21 = .ok (.iload_n 1, 1) := by decide +kernel
theorem dX9_spark_22 : decode cX9_spark 22 = .ok (.iload_n 2, 1) := by decide +kernel
theorem dX9_spark_23 : decode cX9_spark 23 = .ok (.if_icmp .ne 9, 3) := by decide +kernel
theorem dX9_spark_26 : decode cX9_spark 26 = .ok (.aload_n 0, 1) := by decide +kernel
theorem dX9_spark_27 : decode cX9_spark 27 = .ok (.iconst 1, 1) := by decide +kernel
theorem dX9_spark_28 : decode cX9_spark 28 = .ok (.invokevirtual 58, 3) := by decide +kernel
theorem dX9_spark_31 : decode cX9_spark 31 = .ok (.ireturn, 1) := by decide +kernel
theorem dX9_spark_32 : decode cX9_spark 32 = .ok (.aload_n 0, 1) := by decide +kernel
theorem dX9_spark_33 : decode cX9_spark 33 = .ok (.invokevirtual 342, 3) := by decide +kernel
theorem dX9_spark_36 : decode cX9_spark 36 = .ok (.iconst 0, 1) := by decide +kernel
theorem dX9_spark_37 : decode cX9_spark 37 = .ok (.istore_n 3, 1) := by decide +kernel
theorem dX9_spark_38 : decode cX9_spark 38 = .ok (.iload_n 3, 1) := by decide +kernel
theorem dX9_spark_39 : decode cX9_spark 39 = .ok (.aload_n 0, 1) := by decide +kernel
theorem dX9_spark_40 : decode cX9_spark 40 = .ok (.getfield 316, 3) := by decide +kernel
theorem dX9_spark_43 : decode cX9_spark 43 = .ok (.getfield 248, 3) := by decide +kernel
theorem dX9_spark_46 : decode cX9_spark 46 = .ok (.if_icmp .ge 56, 3) := by decide +kernel
theorem dX9_spark_49 : decode cX9_spark 49 = .ok (.aload_n 0, 1) := by decide +kernel
theorem dX9_spark_50 : decode cX9_spark 50 = .ok (.getfield 316, 3) := by decide +kernel
theorem dX9_spark_53 : decode cX9_spark 53 = .ok (.getfield 260, 3) := by decide +kernel
theorem dX9_spark_56 : decode cX9_spark 56 = .ok (.iload_n 3, 1) := by decide +kernel
theorem dX9_spark_57 : decode cX9_spark 57 = .ok (.iaload, 1) := by decide +kernel
theorem dX9_spark_58 : decode cX9_spark 58 = .ok (.iload_n 1, 1) := by decide +kernel
theorem dX9_spark_59 : decode cX9_spark 59 = .ok (.if_icmp .ne 37, 3) := by decide +kernel
theorem dX9_spark_62 : decode cX9_spark 62 = .ok (.aload_n 0, 1) := by decide +kernel
theorem dX9_spark_63 : decode cX9_spark 63 = .ok (.getfield 316, 3) := by decide +kernel
theorem dX9_spark_66 : decode cX9_spark 66 = .ok (.getfield 263, 3) := by decide +kernel
theorem dX9_spark_69 : decode cX9_spark 69 = .ok (.iload_n 3, 1) := by decide +kernel
theorem dX9_spark_70 : decode cX9_spark 70 = .ok (.iaload, 1) := by decide +kernel
theorem dX9_spark_71 : decode cX9_spark 71 = .ok (.iload_n 2, 1) := by decide +kernel
theorem dX9_spark_72 : decode cX9_spark 72 = .ok (.if_icmp .ne 24, 3) := by decide +kernel
theorem dX9_spark_75 : decode cX9_spark 75 = .ok (.aload_n 0, 1) := by decide +kernel
theorem dX9_spark_76 : decode cX9_spark 76 = .ok (.iload_n 3, 1) := by decide +kernel
theorem dX9_spark_77 : decode cX9_spark 77 = .ok (.invokevirtual 330, 3) := by decide +kernel
theorem dX9_spark_80 : decode cX9_spark 80 = .ok (.ifCond .eq 16, 3) := by decide +kernel
theorem dX9_spark_83 : decode cX9_spark 83 = .ok (.aload_n 0, 1) := by decide +kernel
theorem dX9_spark_84 : decode cX9_spark 84 = .ok (.aload_n 0, 1) := by decide +kernel
theorem dX9_spark_85 : decode cX9_spark 85 = .ok (.getfield 316, 3) := by decide +kernel
theorem dX9_spark_88 : decode cX9_spark 88 = .ok (.iload_n 3, 1) := by decide +kernel
theorem dX9_spark_89 : decode cX9_spark 89 = .ok (.invokevirtual 327, 3) := by decide +kernel
theorem dX9_spark_92 : decode cX9_spark 92 = .ok (.invokevirtual 62, 3) := by decide +kernel
theorem dX9_spark_95 : decode cX9_spark 95 = .ok (.ireturn, 1) := by decide +kernel
theorem dX9_spark_96 : decode cX9_spark 96 = .ok (.iinc 3 1, 3) := by decide +kernel
theorem dX9_spark_99 : decode cX9_spark 99 = .ok (.goto (-61), 3) := by decide +kernel
theorem dX9_spark_102 : decode cX9_spark 102 = .ok (.aload_n 0, 1) := by decide +kernel
theorem dX9_spark_103 : decode cX9_spark 103 = .ok (.bipush (-2), 2) := by decide +kernel
theorem dX9_spark_105 : decode cX9_spark 105 = .ok (.invokevirtual 62, 3) := by decide +kernel
theorem dX9_spark_108 : decode cX9_spark 108 = .ok (.ireturn, 1) := by decide +kernel
theorem dX9_burns_0 : decode cX9_burns 0 = .ok (.aload_n 0, 1) := by decide +kernel
theorem dX9_burns_1 : decode cX9_burns 1 = .ok (.iconst 0, 1) := by decide +kernel
theorem dX9_burns_2 : decode cX9_burns 2 = .ok (.putfield 52, 3) := by decide +kernel
theorem dX9_burns_5 : decode cX9_burns 5 = .ok (.aload_n 0, 1) := by decide +kernel
theorem dX9_burns_6 : decode cX9_burns 6 = .ok (.iload_n 1, 1) := by decide +kernel
theorem dX9_burns_7 : decode cX9_burns 7 = .ok (.invokevirtual 345, 3) := by decide +kernel
theorem dX9_burns_10 : decode cX9_burns 10 = .ok (.ifCond .ne 9, 3) := by decide +kernel
theorem dX9_burns_13 : decode cX9_burns 13 = .ok (.aload_n 0, 1) := by decide +kernel
theorem dX9_burns_14 : decode cX9_burns 14 = .ok (.iconst 1, 1) := by decide +kernel
theorem dX9_burns_15 : decode cX9_burns 15 = .ok (.invokevirtual 58, 3) := by decide +kernel
theorem dX9_burns_18 : decode cX9_burns 18 = .ok (.ireturn, 1) := by decide +kernel
theorem dX9_burns_19 : decode cX9_burns 19 = .ok (.aload_n 0, 1) := by decide +kernel
theorem dX9_burns_20 : decode cX9_burns 20 = .ok (.invokevirtual 348, 3) := by decide +kernel
theorem dX9_burns_23 : decode cX9_burns 23 = .ok (.aload_n 0, 1) := by decide +kernel
theorem dX9_burns_24 : decode cX9_burns 24 = .ok (.aload_n 0, 1) := by decide +kernel
theorem dX9_burns_25 : decode cX9_burns 25 = .ok (.getfield 30, 3) := by decide +kernel
theorem dX9_burns_28 : decode cX9_burns 28 = .ok (.iload_n 1, 1) := by decide +kernel
theorem dX9_burns_29 : decode cX9_burns 29 = .ok (.iaload, 1) := by decide +kernel
theorem dX9_burns_30 : decode cX9_burns 30 = .ok (.invokestatic 351, 3) := by decide +kernel
theorem dX9_burns_33 : decode cX9_burns 33 = .ok (.invokevirtual 62, 3) := by decide +kernel
theorem dX9_burns_36 : decode cX9_burns 36 = .ok (.ireturn, 1) := by decide +kernel
theorem dX9_litBy_0 : decode cX9_litBy 0 = .ok (.aload_n 0, 1) := by decide +kernel
theorem dX9_litBy_1 : decode cX9_litBy 1 = .ok (.iconst 0, 1) := by decide +kernel
theorem dX9_litBy_2 : decode cX9_litBy 2 = .ok (.putfield 52, 3) := by decide +kernel
theorem dX9_litBy_5 : decode cX9_litBy 5 = .ok (.aload_n 0, 1) := by decide +kernel
theorem dX9_litBy_6 : decode cX9_litBy 6 = .ok (.iload_n 1, 1) := by decide +kernel
theorem dX9_litBy_7 : decode cX9_litBy 7 = .ok (.invokevirtual 345, 3) := by decide +kernel
theorem dX9_litBy_10 : decode cX9_litBy 10 = .ok (.ifCond .ne 9, 3) := by decide +kernel
theorem dX9_litBy_13 : decode cX9_litBy 13 = .ok (.aload_n 0, 1) := by decide +kernel
theorem dX9_litBy_14 : decode cX9_litBy 14 = .ok (.iconst 1, 1) := by decide +kernel
theorem dX9_litBy_15 : decode cX9_litBy 15 = .ok (.invokevirtual 58, 3) := by decide +kernel
theorem dX9_litBy_18 : decode cX9_litBy 18 = .ok (.ireturn, 1) := by decide +kernel
theorem dX9_litBy_19 : decode cX9_litBy 19 = .ok (.aload_n 0, 1) := by decide +kernel
theorem dX9_litBy_20 : decode cX9_litBy 20 = .ok (.invokevirtual 348, 3) := by decide +kernel
theorem dX9_litBy_23 : decode cX9_litBy 23 = .ok (.bipush (-2), 2) := by decide +kernel
theorem dX9_litBy_25 : decode cX9_litBy 25 = .ok (.istore_n 2, 1) := by decide +kernel
theorem dX9_litBy_26 : decode cX9_litBy 26 = .ok (.aload_n 0, 1) := by decide +kernel
theorem dX9_litBy_27 : decode cX9_litBy 27 = .ok (.getfield 30, 3) := by decide +kernel
theorem dX9_litBy_30 : decode cX9_litBy 30 = .ok (.iload_n 1, 1) := by decide +kernel
theorem dX9_litBy_31 : decode cX9_litBy 31 = .ok (.iaload, 1) := by decide +kernel
theorem dX9_litBy_32 : decode cX9_litBy 32 = .ok (.sipush 9999, 3) := by decide +kernel
theorem dX9_litBy_35 : decode cX9_litBy 35 = .ok (.if_icmp .eq 18, 3) := by decide +kernel
theorem dX9_litBy_38 : decode cX9_litBy 38 = .ok (.aload_n 0, 1) := by decide +kernel
theorem dX9_litBy_39 : decode cX9_litBy 39 = .ok (.getfield 21, 3) := by decide +kernel
theorem dX9_litBy_42 : decode cX9_litBy 42 = .ok (.iload_n 1, 1) := by decide +kernel
theorem dX9_litBy_43 : decode cX9_litBy 43 = .ok (.iaload, 1) := by decide +kernel
theorem dX9_litBy_44 : decode cX9_litBy 44 = .ok (.aload_n 0, 1) := by decide +kernel
theorem dX9_litBy_45 : decode cX9_litBy 45 = .ok (.getfield 30, 3) := by decide +kernel
theorem dX9_litBy_48 : decode cX9_litBy 48 = .ok (.iload_n 1, 1) := by decide +kernel
theorem dX9_litBy_49 : decode cX9_litBy 49 = .ok (.iaload, 1) := by decide +kernel
theorem dX9_litBy_50 : decode cX9_litBy 50 = .ok (.if_icmp .ne 10, 3) := by decide +kernel
theorem dX9_litBy_53 : decode cX9_litBy 53 = .ok (.aload_n 0, 1) := by decide +kernel
theorem dX9_litBy_54 : decode cX9_litBy 54 = .ok (.bipush (-2), 2) := by decide +kernel
theorem dX9_litBy_56 : decode cX9_litBy 56 = .ok (.invokevirtual 62, 3) := by decide +kernel
theorem dX9_litBy_59 : decode cX9_litBy 59 = .ok (.ireturn, 1) := by decide +kernel
theorem dX9_litBy_60 : decode cX9_litBy 60 = .ok (.iconst 0, 1) := by decide +kernel
theorem dX9_litBy_61 : decode cX9_litBy 61 = .ok (.istore_n 3, 1) := by decide +kernel
theorem dX9_litBy_62 : decode cX9_litBy 62 = .ok (.iload_n 3, 1) := by decide +kernel
theorem dX9_litBy_63 : decode cX9_litBy 63 = .ok (.aload_n 0, 1) := by decide +kernel
theorem dX9_litBy_64 : decode cX9_litBy 64 = .ok (.getfield 316, 3) := by decide +kernel
theorem dX9_litBy_67 : decode cX9_litBy 67 = .ok (.getfield 248, 3) := by decide +kernel
theorem dX9_litBy_70 : decode cX9_litBy 70 = .ok (.if_icmp .ge 94, 3) := by decide +kernel
theorem dX9_litBy_73 : decode cX9_litBy 73 = .ok (.aload_n 0, 1) := by decide +kernel
theorem dX9_litBy_74 : decode cX9_litBy 74 = .ok (.getfield 316, 3) := by decide +kernel
theorem dX9_litBy_77 : decode cX9_litBy 77 = .ok (.getfield 263, 3) := by decide +kernel
theorem dX9_litBy_80 : decode cX9_litBy 80 = .ok (.iload_n 3, 1) := by decide +kernel
theorem dX9_litBy_81 : decode cX9_litBy 81 = .ok (.iaload, 1) := by decide +kernel
theorem dX9_litBy_82 : decode cX9_litBy 82 = .ok (.iload_n 1, 1) := by decide +kernel
theorem dX9_litBy_83 : decode cX9_litBy 83 = .ok (.if_icmp .ne 75, 3) := by decide +kernel
theorem dX9_litBy_86 : decode cX9_litBy 86 = .ok (.aload_n 0, 1) := by decide +kernel
theorem dX9_litBy_87 : decode cX9_litBy 87 = .ok (.iload_n 3, 1) := by decide +kernel
theorem dX9_litBy_88 : decode cX9_litBy 88 = .ok (.invokevirtual 330, 3) := by decide +kernel
theorem dX9_litBy_91 : decode cX9_litBy 91 = .ok (.ifCond .eq 67, 3) := by decide +kernel
theorem dX9_litBy_94 : decode cX9_litBy 94 = .ok (.aload_n 0, 1) := by decide +kernel
theorem dX9_litBy_95 : decode cX9_litBy 95 = .ok (.getfield 30, 3) := by decide +kernel
theorem dX9_litBy_98 : decode cX9_litBy 98 = .ok (.aload_n 0, 1) := by decide +kernel
theorem dX9_litBy_99 : decode cX9_litBy 99 = .ok (.getfield 316, 3) := by decide +kernel
theorem dX9_litBy_102 : decode cX9_litBy 102 = .ok (.getfield 260, 3) := by decide +kernel
theorem dX9_litBy_105 : decode cX9_litBy 105 = .ok (.iload_n 3, 1) := by decide +kernel
theorem dX9_litBy_106 : decode cX9_litBy 106 = .ok (.iaload, 1) := by decide +kernel
theorem dX9_litBy_107 : decode cX9_litBy 107 = .ok (.iaload, 1) := by decide +kernel
theorem dX9_litBy_108 : decode cX9_litBy 108 = .ok (.aload_n 0, 1) := by decide +kernel
theorem dX9_litBy_109 : decode cX9_litBy 109 = .ok (.getfield 316, 3) := by decide +kernel
theorem dX9_litBy_112 : decode cX9_litBy 112 = .ok (.iload_n 3, 1) := by decide +kernel
theorem dX9_litBy_113 : decode cX9_litBy 113 = .ok (.invokevirtual 327, 3) := by decide +kernel
theorem dX9_litBy_116 : decode cX9_litBy 116 = .ok (.iadd, 1) := by decide +kernel
theorem dX9_litBy_117 : decode cX9_litBy 117 = .ok (.aload_n 0, 1) := by decide +kernel
theorem dX9_litBy_118 : decode cX9_litBy 118 = .ok (.getfield 30, 3) := by decide +kernel
theorem dX9_litBy_121 : decode cX9_litBy 121 = .ok (.iload_n 1, 1) := by decide +kernel
theorem dX9_litBy_122 : decode cX9_litBy 122 = .ok (.iaload, 1) := by decide +kernel
theorem dX9_litBy_123 : decode cX9_litBy 123 = .ok (.if_icmp .eq 6, 3) := by decide +kernel
theorem dX9_litBy_126 : decode cX9_litBy 126 = .ok (.goto 32, 3) := by decide +kernel
theorem dX9_litBy_129 : decode cX9_litBy 129 = .ok (.iload_n 2, 1) := by decide +kernel
theorem dX9_litBy_130 : decode cX9_litBy 130 = .ok (.bipush (-2), 2) := by decide +kernel
theorem dX9_litBy_132 : decode cX9_litBy 132 = .ok (.if_icmp .eq 16, 3) := by decide +kernel
theorem dX9_litBy_135 : decode cX9_litBy 135 = .ok (.aload_n 0, 1) := by decide +kernel
theorem dX9_litBy_136 : decode cX9_litBy 136 = .ok (.getfield 316, 3) := by decide +kernel
theorem dX9_litBy_139 : decode cX9_litBy 139 = .ok (.getfield 260, 3) := by decide +kernel
theorem dX9_litBy_142 : decode cX9_litBy 142 = .ok (.iload_n 3, 1) := by decide +kernel
theorem dX9_litBy_143 : decode cX9_litBy 143 = .ok (.iaload, 1) := by decide +kernel
theorem dX9_litBy_144 : decode cX9_litBy 144 = .ok (.iload_n 2, 1) := by decide +kernel
theorem dX9_litBy_145 : decode cX9_litBy 145 = .ok (.if_icmp .ge 13, 3) := by decide +kernel
theorem dX9_litBy_148 : decode cX9_litBy 148 = .ok (.aload_n 0, 1) := by decide +kernel
theorem dX9_litBy_149 : decode cX9_litBy 149 = .ok (.getfield 316, 3) := by decide +kernel
theorem dX9_litBy_152 : decode cX9_litBy 152 = .ok (.getfield 260, 3) := by decide +kernel
theorem dX9_litBy_155 : decode cX9_litBy 155 = .ok (.iload_n 3, 1) := by decide +kernel
theorem dX9_litBy_156 : decode cX9_litBy 156 = .ok (.iaload, 1) := by decide +kernel
theorem dX9_litBy_157 : decode cX9_litBy 157 = .ok (.istore_n 2, 1) := by decide +kernel
theorem dX9_litBy_158 : decode cX9_litBy 158 = .ok (.iinc 3 1, 3) := by decide +kernel
theorem dX9_litBy_161 : decode cX9_litBy 161 = .ok (.goto (-99), 3) := by decide +kernel
theorem dX9_litBy_164 : decode cX9_litBy 164 = .ok (.aload_n 0, 1) := by decide +kernel
theorem dX9_litBy_165 : decode cX9_litBy 165 = .ok (.iload_n 2, 1) := by decide +kernel
theorem dX9_litBy_166 : decode cX9_litBy 166 = .ok (.invokevirtual 62, 3) := by decide +kernel
theorem dX9_litBy_169 : decode cX9_litBy 169 = .ok (.ireturn, 1) := by decide +kernel
theorem dX9_refusesDay_0 : decode cX9_refusesDay 0 = .ok (.iload_n 1, 1) := by decide +kernel
theorem dX9_refusesDay_1 : decode cX9_refusesDay 1 = .ok (.ifCond .ne 7, 3) := by decide +kernel
theorem dX9_refusesDay_4 : decode cX9_refusesDay 4 = .ok (.iconst 1, 1) := by decide +kernel
theorem dX9_refusesDay_5 : decode cX9_refusesDay 5 = .ok (.goto 18, 3) := by decide +kernel
theorem dX9_refusesDay_8 : decode cX9_refusesDay 8 = .ok (.iload_n 2, 1) := by decide +kernel
theorem dX9_refusesDay_9 : decode cX9_refusesDay 9 = .ok (.iload_n 3, 1) := by decide +kernel
theorem dX9_refusesDay_10 : decode cX9_refusesDay 10 = .ok (.bipush 90, 2) := by decide +kernel
theorem dX9_refusesDay_12 : decode cX9_refusesDay 12 = .ok (.invokestatic 131, 3) := by decide +kernel
theorem dX9_refusesDay_15 : decode cX9_refusesDay 15 = .ok (.ifCond .eq 7, 3) := by decide +kernel
theorem dX9_refusesDay_18 : decode cX9_refusesDay 18 = .ok (.iconst 0, 1) := by decide +kernel
theorem dX9_refusesDay_19 : decode cX9_refusesDay 19 = .ok (.goto 4, 3) := by decide +kernel
theorem dX9_refusesDay_22 : decode cX9_refusesDay 22 = .ok (.iconst 2, 1) := by decide +kernel
theorem dX9_refusesDay_23 : decode cX9_refusesDay 23 = .ok (.ireturn, 1) := by decide +kernel
theorem dX9_burnt_0 : decode cX9_burnt 0 = .ok (.aload_n 0, 1) := by decide +kernel
theorem dX9_burnt_1 : decode cX9_burnt 1 = .ok (.iconst 0, 1) := by decide +kernel
theorem dX9_burnt_2 : decode cX9_burnt 2 = .ok (.putfield 52, 3) := by decide +kernel
theorem dX9_burnt_5 : decode cX9_burnt 5 = .ok (.aload_n 0, 1) := by decide +kernel
theorem dX9_burnt_6 : decode cX9_burnt 6 = .ok (.aload_n 0, 1) := by decide +kernel
theorem dX9_burnt_7 : decode cX9_burnt 7 = .ok (.getfield 316, 3) := by decide +kernel
theorem dX9_burnt_10 : decode cX9_burnt 10 = .ok (.ifnull 7, 3) := by decide +kernel
theorem dX9_burnt_13 : decode cX9_burnt 13 = .ok (.iconst 1, 1) := by decide +kernel
theorem dX9_burnt_14 : decode cX9_burnt 14 = .ok (.goto 4, 3) := by decide +kernel
theorem dX9_burnt_17 : decode cX9_burnt 17 = .ok (.iconst 0, 1) := by decide +kernel
theorem dX9_burnt_18 : decode cX9_burnt 18 = .ok (.iload_n 1, 1) := by decide +kernel
theorem dX9_burnt_19 : decode cX9_burnt 19 = .ok (.iconst 0, 1) := by decide +kernel
theorem dX9_burnt_20 : decode cX9_burnt 20 = .ok (.invokevirtual 354, 3) := by decide +kernel
theorem dX9_burnt_23 : decode cX9_burnt 23 = .ok (.istore_n 2, 1) := by decide +kernel
theorem dX9_burnt_24 : decode cX9_burnt 24 = .ok (.iload_n 2, 1) := by decide +kernel
theorem dX9_burnt_25 : decode cX9_burnt 25 = .ok (.ifCond .le 9, 3) := by decide +kernel
theorem dX9_burnt_28 : decode cX9_burnt 28 = .ok (.aload_n 0, 1) := by decide +kernel
theorem dX9_burnt_29 : decode cX9_burnt 29 = .ok (.iload_n 2, 1) := by decide +kernel
theorem dX9_burnt_30 : decode cX9_burnt 30 = .ok (.invokevirtual 58, 3) := by decide +kernel
theorem dX9_burnt_33 : decode cX9_burnt 33 = .ok (.ireturn, 1) := by decide +kernel
theorem dX9_burnt_34 : decode cX9_burnt 34 = .ok (.aload_n 0, 1) := by decide +kernel
theorem dX9_burnt_35 : decode cX9_burnt 35 = .ok (.invokevirtual 348, 3) := by decide +kernel
theorem dX9_burnt_38 : decode cX9_burnt 38 = .ok (.aload_n 0, 1) := by decide +kernel
theorem dX9_burnt_39 : decode cX9_burnt 39 = .ok (.aload_n 0, 1) := by decide +kernel
theorem dX9_burnt_40 : decode cX9_burnt 40 = .ok (.iload_n 1, 1) := by decide +kernel
theorem dX9_burnt_41 : decode cX9_burnt 41 = .ok (.invokevirtual 333, 3) := by decide +kernel
theorem dX9_burnt_44 : decode cX9_burnt 44 = .ok (.invokevirtual 62, 3) := by decide +kernel
theorem dX9_burnt_47 : decode cX9_burnt 47 = .ok (.ireturn, 1) := by decide +kernel
theorem dX9_lastDay_0 : decode cX9_lastDay 0 = .ok (.aload_n 0, 1) := by decide +kernel
theorem dX9_lastDay_1 : decode cX9_lastDay 1 = .ok (.iconst 0, 1) := by decide +kernel
theorem dX9_lastDay_2 : decode cX9_lastDay 2 = .ok (.putfield 52, 3) := by decide +kernel
theorem dX9_lastDay_5 : decode cX9_lastDay 5 = .ok (.aload_n 0, 1) := by decide +kernel
theorem dX9_lastDay_6 : decode cX9_lastDay 6 = .ok (.getfield 316, 3) := by decide +kernel
theorem dX9_lastDay_9 : decode cX9_lastDay 9 = .ok (.ifnonnull 9, 3) := by decide +kernel
theorem dX9_lastDay_12 : decode cX9_lastDay 12 = .ok (.aload_n 0, 1) := by decide +kernel
theorem dX9_lastDay_13 : decode cX9_lastDay 13 = .ok (.iconst 1, 1) := by decide +kernel
theorem dX9_lastDay_14 : decode cX9_lastDay 14 = .ok (.invokevirtual 58, 3) := by decide +kernel
theorem dX9_lastDay_17 : decode cX9_lastDay 17 = .ok (.ireturn, 1) := by decide +kernel
theorem dX9_lastDay_18 : decode cX9_lastDay 18 = .ok (.aload_n 0, 1) := by decide +kernel
theorem dX9_lastDay_19 : decode cX9_lastDay 19 = .ok (.invokevirtual 348, 3) := by decide +kernel
theorem dX9_lastDay_22 : decode cX9_lastDay 22 = .ok (.bipush (-2), 2) := by decide +kernel
theorem dX9_lastDay_24 : decode cX9_lastDay 24 = .ok (.istore_n 1, 1) := by decide +kernel
theorem dX9_lastDay_25 : decode cX9_lastDay 25 = .ok (.iconst 0, 1) := by decide +kernel
theorem dX9_lastDay_26 : decode cX9_lastDay 26 = .ok (.istore_n 2, 1) := by decide +kernel
theorem dX9_lastDay_27 : decode cX9_lastDay 27 = .ok (.iload_n 2, 1) := by decide +kernel
theorem dX9_lastDay_28 : decode cX9_lastDay 28 = .ok (.aload_n 0, 1) := by decide +kernel
theorem dX9_lastDay_29 : decode cX9_lastDay 29 = .ok (.getfield 316, 3) := by decide +kernel
theorem dX9_lastDay_32 : decode cX9_lastDay 32 = .ok (.getfield 187, 3) := by decide +kernel
theorem dX9_lastDay_35 : decode cX9_lastDay 35 = .ok (.if_icmp .ge 38, 3) := by decide +kernel
theorem dX9_lastDay_38 : decode cX9_lastDay 38 = .ok (.aload_n 0, 1) := by decide +kernel
theorem dX9_lastDay_39 : decode cX9_lastDay 39 = .ok (.getfield 30, 3) := by decide +kernel
theorem dX9_lastDay_42 : decode cX9_lastDay 42 = .ok (.iload_n 2, 1) := by decide +kernel
theorem dX9_lastDay_43 : decode cX9_lastDay 43 = .ok (.iaload, 1) := by decide +kernel
theorem dX9_lastDay_44 : decode cX9_lastDay 44 = .ok (.sipush 9999, 3) := by decide +kernel
theorem dX9_lastDay_47 : decode cX9_lastDay 47 = .ok (.if_icmp .ge 20, 3) := by decide +kernel
theorem dX9_lastDay_50 : decode cX9_lastDay 50 = .ok (.aload_n 0, 1) := by decide +kernel
theorem dX9_lastDay_51 : decode cX9_lastDay 51 = .ok (.getfield 30, 3) := by decide +kernel
theorem dX9_lastDay_54 : decode cX9_lastDay 54 = .ok (.iload_n 2, 1) := by decide +kernel
theorem dX9_lastDay_55 : decode cX9_lastDay 55 = .ok (.iaload, 1) := by decide +kernel
theorem dX9_lastDay_56 : decode cX9_lastDay 56 = .ok (.iload_n 1, 1) := by decide +kernel
theorem dX9_lastDay_57 : decode cX9_lastDay 57 = .ok (.if_icmp .le 10, 3) := by decide +kernel
theorem dX9_lastDay_60 : decode cX9_lastDay 60 = .ok (.aload_n 0, 1) := by decide +kernel
theorem dX9_lastDay_61 : decode cX9_lastDay 61 = .ok (.getfield 30, 3) := by decide +kernel
theorem dX9_lastDay_64 : decode cX9_lastDay 64 = .ok (.iload_n 2, 1) := by decide +kernel
theorem dX9_lastDay_65 : decode cX9_lastDay 65 = .ok (.iaload, 1) := by decide +kernel
theorem dX9_lastDay_66 : decode cX9_lastDay 66 = .ok (.istore_n 1, 1) := by decide +kernel
theorem dX9_lastDay_67 : decode cX9_lastDay 67 = .ok (.iinc 2 1, 3) := by decide +kernel
theorem dX9_lastDay_70 : decode cX9_lastDay 70 = .ok (.goto (-43), 3) := by decide +kernel
theorem dX9_lastDay_73 : decode cX9_lastDay 73 = .ok (.aload_n 0, 1) := by decide +kernel
theorem dX9_lastDay_74 : decode cX9_lastDay 74 = .ok (.iload_n 1, 1) := by decide +kernel
theorem dX9_lastDay_75 : decode cX9_lastDay 75 = .ok (.invokevirtual 62, 3) := by decide +kernel
theorem dX9_lastDay_78 : decode cX9_lastDay 78 = .ok (.ireturn, 1) := by decide +kernel
theorem dX9_next_0 : decode cX9_next 0 = .ok (.aload_n 0, 1) := by decide +kernel
theorem dX9_next_1 : decode cX9_next 1 = .ok (.iconst 0, 1) := by decide +kernel
theorem dX9_next_2 : decode cX9_next 2 = .ok (.putfield 52, 3) := by decide +kernel
theorem dX9_next_5 : decode cX9_next 5 = .ok (.aload_n 0, 1) := by decide +kernel
theorem dX9_next_6 : decode cX9_next 6 = .ok (.aload_n 0, 1) := by decide +kernel
theorem dX9_next_7 : decode cX9_next 7 = .ok (.getfield 316, 3) := by decide +kernel
theorem dX9_next_10 : decode cX9_next 10 = .ok (.ifnull 7, 3) := by decide +kernel
theorem dX9_next_13 : decode cX9_next 13 = .ok (.iconst 1, 1) := by decide +kernel
theorem dX9_next_14 : decode cX9_next 14 = .ok (.goto 4, 3) := by decide +kernel
theorem dX9_next_17 : decode cX9_next 17 = .ok (.iconst 0, 1) := by decide +kernel
theorem dX9_next_18 : decode cX9_next 18 = .ok (.iload_n 1, 1) := by decide +kernel
theorem dX9_next_19 : decode cX9_next 19 = .ok (.iconst 0, 1) := by decide +kernel
theorem dX9_next_20 : decode cX9_next 20 = .ok (.invokevirtual 354, 3) := by decide +kernel
theorem dX9_next_23 : decode cX9_next 23 = .ok (.istore_n 2, 1) := by decide +kernel
theorem dX9_next_24 : decode cX9_next 24 = .ok (.iload_n 2, 1) := by decide +kernel
theorem dX9_next_25 : decode cX9_next 25 = .ok (.ifCond .le 9, 3) := by decide +kernel
theorem dX9_next_28 : decode cX9_next 28 = .ok (.aload_n 0, 1) := by decide +kernel
theorem dX9_next_29 : decode cX9_next 29 = .ok (.iload_n 2, 1) := by decide +kernel
theorem dX9_next_30 : decode cX9_next 30 = .ok (.invokevirtual 58, 3) := by decide +kernel
theorem dX9_next_33 : decode cX9_next 33 = .ok (.ireturn, 1) := by decide +kernel
theorem dX9_next_34 : decode cX9_next 34 = .ok (.aload_n 0, 1) := by decide +kernel
theorem dX9_next_35 : decode cX9_next 35 = .ok (.invokevirtual 348, 3) := by decide +kernel
theorem dX9_next_38 : decode cX9_next 38 = .ok (.aload_n 0, 1) := by decide +kernel
theorem dX9_next_39 : decode cX9_next 39 = .ok (.aload_n 0, 1) := by decide +kernel
theorem dX9_next_40 : decode cX9_next 40 = .ok (.iload_n 1, 1) := by decide +kernel
theorem dX9_next_41 : decode cX9_next 41 = .ok (.invokevirtual 358, 3) := by decide +kernel
theorem dX9_next_44 : decode cX9_next 44 = .ok (.invokevirtual 62, 3) := by decide +kernel
theorem dX9_next_47 : decode cX9_next 47 = .ok (.ireturn, 1) := by decide +kernel
theorem dX9_holds_0 : decode cX9_holds 0 = .ok (.iconst 0, 1) := by decide +kernel
theorem dX9_holds_1 : decode cX9_holds 1 = .ok (.istore_n 1, 1) := by decide +kernel
theorem dX9_holds_2 : decode cX9_holds 2 = .ok (.iload_n 1, 1) := by decide +kernel
theorem dX9_holds_3 : decode cX9_holds 3 = .ok (.bipush 10, 2) := by decide +kernel
theorem dX9_holds_5 : decode cX9_holds 5 = .ok (.if_icmp .ge 21, 3) := by decide +kernel
theorem dX9_holds_8 : decode cX9_holds 8 = .ok (.aload_n 0, 1) := by decide +kernel
theorem dX9_holds_9 : decode cX9_holds 9 = .ok (.getfield 36, 3) := by decide +kernel
theorem dX9_holds_12 : decode cX9_holds 12 = .ok (.iload_n 1, 1) := by decide +kernel
theorem dX9_holds_13 : decode cX9_holds 13 = .ok (.aload_n 0, 1) := by decide +kernel
theorem dX9_holds_14 : decode cX9_holds 14 = .ok (.getfield 21, 3) := by decide +kernel
theorem dX9_holds_17 : decode cX9_holds 17 = .ok (.iload_n 1, 1) := by decide +kernel
theorem dX9_holds_18 : decode cX9_holds 18 = .ok (.iaload, 1) := by decide +kernel
theorem dX9_holds_19 : decode cX9_holds 19 = .ok (.iastore, 1) := by decide +kernel
theorem dX9_holds_20 : decode cX9_holds 20 = .ok (.iinc 1 1, 3) := by decide +kernel
theorem dX9_holds_23 : decode cX9_holds 23 = .ok (.goto (-21), 3) := by decide +kernel
theorem dX9_holds_26 : decode cX9_holds 26 = .ok (.return_, 1) := by decide +kernel
theorem dX9_letsGo_0 : decode cX9_letsGo 0 = .ok (.iconst 0, 1) := by decide +kernel
theorem dX9_letsGo_1 : decode cX9_letsGo 1 = .ok (.istore_n 1, 1) := by decide +kernel
theorem dX9_letsGo_2 : decode cX9_letsGo 2 = .ok (.iload_n 1, 1) := by decide +kernel
theorem dX9_letsGo_3 : decode cX9_letsGo 3 = .ok (.bipush 10, 2) := by decide +kernel
theorem dX9_letsGo_5 : decode cX9_letsGo 5 = .ok (.if_icmp .ge 21, 3) := by decide +kernel
theorem dX9_letsGo_8 : decode cX9_letsGo 8 = .ok (.aload_n 0, 1) := by decide +kernel
theorem dX9_letsGo_9 : decode cX9_letsGo 9 = .ok (.getfield 21, 3) := by decide +kernel
theorem dX9_letsGo_12 : decode cX9_letsGo 12 = .ok (.iload_n 1, 1) := by decide +kernel
theorem dX9_letsGo_13 : decode cX9_letsGo 13 = .ok (.aload_n 0, 1) := by decide +kernel
theorem dX9_letsGo_14 : decode cX9_letsGo 14 = .ok (.getfield 36, 3) := by decide +kernel
theorem dX9_letsGo_17 : decode cX9_letsGo 17 = .ok (.iload_n 1, 1) := by decide +kernel
theorem dX9_letsGo_18 : decode cX9_letsGo 18 = .ok (.iaload, 1) := by decide +kernel
theorem dX9_letsGo_19 : decode cX9_letsGo 19 = .ok (.iastore, 1) := by decide +kernel
theorem dX9_letsGo_20 : decode cX9_letsGo 20 = .ok (.iinc 1 1, 3) := by decide +kernel
theorem dX9_letsGo_23 : decode cX9_letsGo 23 = .ok (.goto (-21), 3) := by decide +kernel
theorem dX9_letsGo_26 : decode cX9_letsGo 26 = .ok (.aload_n 0, 1) := by decide +kernel
theorem dX9_letsGo_27 : decode cX9_letsGo 27 = .ok (.invokevirtual 339, 3) := by decide +kernel
theorem dX9_letsGo_30 : decode cX9_letsGo 30 = .ok (.return_, 1) := by decide +kernel
theorem dX9_agreeing_0 : decode cX9_agreeing 0 = .ok (.iconst 0, 1) := by decide +kernel
theorem dX9_agreeing_1 : decode cX9_agreeing 1 = .ok (.istore_n 2, 1) := by decide +kernel
theorem dX9_agreeing_2 : decode cX9_agreeing 2 = .ok (.aload_n 0, 1) := by decide +kernel
theorem dX9_agreeing_3 : decode cX9_agreeing 3 = .ok (.invokevirtual 361, 3) := by decide +kernel
theorem dX9_agreeing_6 : decode cX9_agreeing 6 = .ok (.iconst 0, 1) := by decide +kernel
theorem dX9_agreeing_7 : decode cX9_agreeing 7 = .ok (.istore_n 3, 1) := by decide +kernel
theorem dX9_agreeing_8 : decode cX9_agreeing 8 = .ok (.iload_n 3, 1) := by decide +kernel
theorem dX9_agreeing_9 : decode cX9_agreeing 9 = .ok (.aload_n 0, 1) := by decide +kernel
theorem dX9_agreeing_10 : decode cX9_agreeing 10 = .ok (.getfield 316, 3) := by decide +kernel
theorem dX9_agreeing_13 : decode cX9_agreeing 13 = .ok (.getfield 187, 3) := by decide +kernel
theorem dX9_agreeing_16 : decode cX9_agreeing 16 = .ok (.if_icmp .ge 38, 3) := by decide +kernel
theorem dX9_agreeing_19 : decode cX9_agreeing 19 = .ok (.aload_n 0, 1) := by decide +kernel
theorem dX9_agreeing_20 : decode cX9_agreeing 20 = .ok (.iload_n 3, 1) := by decide +kernel
theorem dX9_agreeing_21 : decode cX9_agreeing 21 = .ok (.iload_n 1, 1) := by decide +kernel
theorem dX9_agreeing_22 : decode cX9_agreeing 22 = .ok (.invokevirtual 364, 3) := by decide +kernel
theorem dX9_agreeing_25 : decode cX9_agreeing 25 = .ok (.iload_n 2, 1) := by decide +kernel
theorem dX9_agreeing_26 : decode cX9_agreeing 26 = .ok (.aload_n 0, 1) := by decide +kernel
theorem dX9_agreeing_27 : decode cX9_agreeing 27 = .ok (.iload_n 1, 1) := by decide +kernel
theorem dX9_agreeing_28 : decode cX9_agreeing 28 = .ok (.invokevirtual 358, 3) := by decide +kernel
theorem dX9_agreeing_31 : decode cX9_agreeing 31 = .ok (.iload_n 3, 1) := by decide +kernel
theorem dX9_agreeing_32 : decode cX9_agreeing 32 = .ok (.if_icmp .ne 9, 3) := by decide +kernel
theorem dX9_agreeing_35 : decode cX9_agreeing 35 = .ok (.iconst 1, 1) := by decide +kernel
theorem dX9_agreeing_36 : decode cX9_agreeing 36 = .ok (.iload_n 3, 1) := by decide +kernel
theorem dX9_agreeing_37 : decode cX9_agreeing 37 = .ok (.ishl, 1) := by decide +kernel
theorem dX9_agreeing_38 : decode cX9_agreeing 38 = .ok (.goto 4, 3) := by decide +kernel
theorem dX9_agreeing_41 : decode cX9_agreeing 41 = .ok (.iconst 0, 1) := by decide +kernel
theorem dX9_agreeing_42 : decode cX9_agreeing 42 = .ok (.ior, 1) := by decide +kernel
theorem dX9_agreeing_43 : decode cX9_agreeing 43 = .ok (.istore_n 2, 1) := by decide +kernel
theorem dX9_agreeing_44 : decode cX9_agreeing 44 = .ok (.aload_n 0, 1) := by decide +kernel
theorem dX9_agreeing_45 : decode cX9_agreeing 45 = .ok (.invokevirtual 367, 3) := by decide +kernel
theorem dX9_agreeing_48 : decode cX9_agreeing 48 = .ok (.iinc 3 1, 3) := by decide +kernel
theorem dX9_agreeing_51 : decode cX9_agreeing 51 = .ok (.goto (-43), 3) := by decide +kernel
theorem dX9_agreeing_54 : decode cX9_agreeing 54 = .ok (.iload_n 2, 1) := by decide +kernel
theorem dX9_agreeing_55 : decode cX9_agreeing 55 = .ok (.ireturn, 1) := by decide +kernel
theorem dX9_agrees_0 : decode cX9_agrees 0 = .ok (.aload_n 0, 1) := by decide +kernel
theorem dX9_agrees_1 : decode cX9_agrees 1 = .ok (.iconst 0, 1) := by decide +kernel
theorem dX9_agrees_2 : decode cX9_agrees 2 = .ok (.putfield 52, 3) := by decide +kernel
theorem dX9_agrees_5 : decode cX9_agrees 5 = .ok (.aload_n 0, 1) := by decide +kernel
theorem dX9_agrees_6 : decode cX9_agrees 6 = .ok (.aload_n 0, 1) := by decide +kernel
theorem dX9_agrees_7 : decode cX9_agrees 7 = .ok (.getfield 316, 3) := by decide +kernel
theorem dX9_agrees_10 : decode cX9_agrees 10 = .ok (.ifnull 7, 3) := by decide +kernel
theorem dX9_agrees_13 : decode cX9_agrees 13 = .ok (.iconst 1, 1) := by decide +kernel
theorem dX9_agrees_14 : decode cX9_agrees 14 = .ok (.goto 4, 3) := by decide +kernel
theorem dX9_agrees_17 : decode cX9_agrees 17 = .ok (.iconst 0, 1) := by decide +kernel
theorem dX9_agrees_18 : decode cX9_agrees 18 = .ok (.iload_n 1, 1) := by decide +kernel
theorem dX9_agrees_19 : decode cX9_agrees 19 = .ok (.aload_n 0, 1) := by decide +kernel
theorem dX9_agrees_20 : decode cX9_agrees 20 = .ok (.getfield 316, 3) := by decide +kernel
theorem dX9_agrees_23 : decode cX9_agrees 23 = .ok (.ifnonnull 7, 3) := by decide +kernel
theorem dX9_agrees_26 : decode cX9_agrees 26 = .ok (.iconst 0, 1) := by decide +kernel
theorem dX9_agrees_27 : decode cX9_agrees 27 = .ok (.goto 10, 3) := by decide +kernel
theorem dX9_agrees_30 : decode cX9_agrees 30 = .ok (.aload_n 0, 1) := by decide +kernel
theorem dX9_agrees_31 : decode cX9_agrees 31 = .ok (.getfield 17, 3) := by decide +kernel
theorem dX9_agrees_34 : decode cX9_agrees 34 = .ok (.bipush 9, 2) := by decide +kernel
theorem dX9_agrees_36 : decode cX9_agrees 36 = .ok (.iaload, 1) := by decide +kernel
theorem dX9_agrees_37 : decode cX9_agrees 37 = .ok (.invokevirtual 354, 3) := by decide +kernel
theorem dX9_agrees_40 : decode cX9_agrees 40 = .ok (.istore_n 2, 1) := by decide +kernel
theorem dX9_agrees_41 : decode cX9_agrees 41 = .ok (.iload_n 2, 1) := by decide +kernel
theorem dX9_agrees_42 : decode cX9_agrees 42 = .ok (.ifCond .le 9, 3) := by decide +kernel
theorem dX9_agrees_45 : decode cX9_agrees 45 = .ok (.aload_n 0, 1) := by decide +kernel
theorem dX9_agrees_46 : decode cX9_agrees 46 = .ok (.iload_n 2, 1) := by decide +kernel
theorem dX9_agrees_47 : decode cX9_agrees 47 = .ok (.invokevirtual 58, 3) := by decide +kernel
theorem dX9_agrees_50 : decode cX9_agrees 50 = .ok (.ireturn, 1) := by decide +kernel
theorem dX9_agrees_51 : decode cX9_agrees 51 = .ok (.aload_n 0, 1) := by decide +kernel
theorem dX9_agrees_52 : decode cX9_agrees 52 = .ok (.invokevirtual 348, 3) := by decide +kernel
theorem dX9_agrees_55 : decode cX9_agrees 55 = .ok (.aload_n 0, 1) := by decide +kernel
theorem dX9_agrees_56 : decode cX9_agrees 56 = .ok (.aload_n 0, 1) := by decide +kernel
theorem dX9_agrees_57 : decode cX9_agrees 57 = .ok (.iload_n 1, 1) := by decide +kernel
theorem dX9_agrees_58 : decode cX9_agrees 58 = .ok (.invokevirtual 370, 3) := by decide +kernel
theorem dX9_agrees_61 : decode cX9_agrees 61 = .ok (.invokevirtual 62, 3) := by decide +kernel
theorem dX9_agrees_64 : decode cX9_agrees 64 = .ok (.ireturn, 1) := by decide +kernel
theorem dX9_refusesTold_0 : decode cX9_refusesTold 0 = .ok (.aload_n 0, 1) := by decide +kernel
theorem dX9_refusesTold_1 : decode cX9_refusesTold 1 = .ok (.iload_n 1, 1) := by decide +kernel
theorem dX9_refusesTold_2 : decode cX9_refusesTold 2 = .ok (.invokevirtual 345, 3) := by decide +kernel
theorem dX9_refusesTold_5 : decode cX9_refusesTold 5 = .ok (.ifCond .ne 5, 3) := by decide +kernel
theorem dX9_refusesTold_8 : decode cX9_refusesTold 8 = .ok (.iconst 1, 1) := by decide +kernel
theorem dX9_refusesTold_9 : decode cX9_refusesTold 9 = .ok (.ireturn, 1) := by decide +kernel
theorem dX9_refusesTold_10 : decode cX9_refusesTold 10 = .ok (.aload_n 0, 1) := by decide +kernel
theorem dX9_refusesTold_11 : decode cX9_refusesTold 11 = .ok (.invokevirtual 348, 3) := by decide +kernel
theorem dX9_refusesTold_14 : decode cX9_refusesTold 14 = .ok (.aload_n 0, 1) := by decide +kernel
theorem dX9_refusesTold_15 : decode cX9_refusesTold 15 = .ok (.getfield 30, 3) := by decide +kernel
theorem dX9_refusesTold_18 : decode cX9_refusesTold 18 = .ok (.iload_n 1, 1) := by decide +kernel
theorem dX9_refusesTold_19 : decode cX9_refusesTold 19 = .ok (.iaload, 1) := by decide +kernel
theorem dX9_refusesTold_20 : decode cX9_refusesTold 20 = .ok (.aload_n 0, 1) := by decide +kernel
theorem dX9_refusesTold_21 : decode cX9_refusesTold 21 = .ok (.getfield 21, 3) := by decide +kernel
theorem dX9_refusesTold_24 : decode cX9_refusesTold 24 = .ok (.bipush 9, 2) := by decide +kernel
theorem dX9_refusesTold_26 : decode cX9_refusesTold 26 = .ok (.iaload, 1) := by decide +kernel
theorem dX9_refusesTold_27 : decode cX9_refusesTold 27 = .ok (.if_icmp .gt 7, 3) := by decide +kernel
theorem dX9_refusesTold_30 : decode cX9_refusesTold 30 = .ok (.iconst 5, 1) := by decide +kernel
theorem dX9_refusesTold_31 : decode cX9_refusesTold 31 = .ok (.goto 4, 3) := by decide +kernel
theorem dX9_refusesTold_34 : decode cX9_refusesTold 34 = .ok (.iconst 0, 1) := by decide +kernel
theorem dX9_refusesTold_35 : decode cX9_refusesTold 35 = .ok (.ireturn, 1) := by decide +kernel
theorem dX9_burnsIf_0 : decode cX9_burnsIf 0 = .ok (.aload_n 0, 1) := by decide +kernel
theorem dX9_burnsIf_1 : decode cX9_burnsIf 1 = .ok (.iconst 0, 1) := by decide +kernel
theorem dX9_burnsIf_2 : decode cX9_burnsIf 2 = .ok (.putfield 52, 3) := by decide +kernel
theorem dX9_burnsIf_5 : decode cX9_burnsIf 5 = .ok (.aload_n 0, 1) := by decide +kernel
theorem dX9_burnsIf_6 : decode cX9_burnsIf 6 = .ok (.iload_n 1, 1) := by decide +kernel
theorem dX9_burnsIf_7 : decode cX9_burnsIf 7 = .ok (.invokevirtual 345, 3) := by decide +kernel
theorem dX9_burnsIf_10 : decode cX9_burnsIf 10 = .ok (.ifCond .eq 11, 3) := by decide +kernel
theorem dX9_burnsIf_13 : decode cX9_burnsIf 13 = .ok (.aload_n 0, 1) := by decide +kernel
theorem dX9_burnsIf_14 : decode cX9_burnsIf 14 = .ok (.iload_n 2, 1) := by decide +kernel
theorem dX9_burnsIf_15 : decode cX9_burnsIf 15 = .ok (.invokevirtual 373, 3) := by decide +kernel
theorem dX9_burnsIf_18 : decode cX9_burnsIf 18 = .ok (.goto 4, 3) := by decide +kernel
theorem dX9_burnsIf_21 : decode cX9_burnsIf 21 = .ok (.iconst 1, 1) := by decide +kernel
theorem dX9_burnsIf_22 : decode cX9_burnsIf 22 = .ok (.istore_n 3, 1) := by decide +kernel
theorem dX9_burnsIf_23 : decode cX9_burnsIf 23 = .ok (.iload_n 3, 1) := by decide +kernel
theorem dX9_burnsIf_24 : decode cX9_burnsIf 24 = .ok (.ifCond .le 9, 3) := by decide +kernel
theorem dX9_burnsIf_27 : decode cX9_burnsIf 27 = .ok (.aload_n 0, 1) := by decide +kernel
theorem dX9_burnsIf_28 : decode cX9_burnsIf 28 = .ok (.iload_n 3, 1) := by decide +kernel
theorem dX9_burnsIf_29 : decode cX9_burnsIf 29 = .ok (.invokevirtual 58, 3) := by decide +kernel
theorem dX9_burnsIf_32 : decode cX9_burnsIf 32 = .ok (.ireturn, 1) := by decide +kernel
theorem dX9_burnsIf_33 : decode cX9_burnsIf 33 = .ok (.aload_n 0, 1) := by decide +kernel
theorem dX9_burnsIf_34 : decode cX9_burnsIf 34 = .ok (.iload_n 2, 1) := by decide +kernel
theorem dX9_burnsIf_35 : decode cX9_burnsIf 35 = .ok (.aload_n 0, 1) := by decide +kernel
theorem dX9_burnsIf_36 : decode cX9_burnsIf 36 = .ok (.getfield 21, 3) := by decide +kernel
theorem dX9_burnsIf_39 : decode cX9_burnsIf 39 = .ok (.bipush 9, 2) := by decide +kernel
theorem dX9_burnsIf_41 : decode cX9_burnsIf 41 = .ok (.iaload, 1) := by decide +kernel
theorem dX9_burnsIf_42 : decode cX9_burnsIf 42 = .ok (.invokevirtual 364, 3) := by decide +kernel
theorem dX9_burnsIf_45 : decode cX9_burnsIf 45 = .ok (.aload_n 0, 1) := by decide +kernel
theorem dX9_burnsIf_46 : decode cX9_burnsIf 46 = .ok (.aload_n 0, 1) := by decide +kernel
theorem dX9_burnsIf_47 : decode cX9_burnsIf 47 = .ok (.getfield 30, 3) := by decide +kernel
theorem dX9_burnsIf_50 : decode cX9_burnsIf 50 = .ok (.iload_n 1, 1) := by decide +kernel
theorem dX9_burnsIf_51 : decode cX9_burnsIf 51 = .ok (.iaload, 1) := by decide +kernel
theorem dX9_burnsIf_52 : decode cX9_burnsIf 52 = .ok (.invokestatic 351, 3) := by decide +kernel
theorem dX9_burnsIf_55 : decode cX9_burnsIf 55 = .ok (.invokevirtual 62, 3) := by decide +kernel
theorem dX9_burnsIf_58 : decode cX9_burnsIf 58 = .ok (.ireturn, 1) := by decide +kernel
theorem dX9_saves_0 : decode cX9_saves 0 = .ok (.aload_n 0, 1) := by decide +kernel
theorem dX9_saves_1 : decode cX9_saves 1 = .ok (.iconst 0, 1) := by decide +kernel
theorem dX9_saves_2 : decode cX9_saves 2 = .ok (.putfield 52, 3) := by decide +kernel
theorem dX9_saves_5 : decode cX9_saves 5 = .ok (.aload_n 0, 1) := by decide +kernel
theorem dX9_saves_6 : decode cX9_saves 6 = .ok (.iload_n 1, 1) := by decide +kernel
theorem dX9_saves_7 : decode cX9_saves 7 = .ok (.invokevirtual 373, 3) := by decide +kernel
theorem dX9_saves_10 : decode cX9_saves 10 = .ok (.istore_n 2, 1) := by decide +kernel
theorem dX9_saves_11 : decode cX9_saves 11 = .ok (.iload_n 2, 1) := by decide +kernel
theorem dX9_saves_12 : decode cX9_saves 12 = .ok (.ifCond .le 9, 3) := by decide +kernel
theorem dX9_saves_15 : decode cX9_saves 15 = .ok (.aload_n 0, 1) := by decide +kernel
theorem dX9_saves_16 : decode cX9_saves 16 = .ok (.iload_n 2, 1) := by decide +kernel
theorem dX9_saves_17 : decode cX9_saves 17 = .ok (.invokevirtual 58, 3) := by decide +kernel
theorem dX9_saves_20 : decode cX9_saves 20 = .ok (.ireturn, 1) := by decide +kernel
theorem dX9_saves_21 : decode cX9_saves 21 = .ok (.aload_n 0, 1) := by decide +kernel
theorem dX9_saves_22 : decode cX9_saves 22 = .ok (.invokevirtual 376, 3) := by decide +kernel
theorem dX9_saves_25 : decode cX9_saves 25 = .ok (.istore_n 3, 1) := by decide +kernel
theorem dX9_saves_26 : decode cX9_saves 26 = .ok (.aload_n 0, 1) := by decide +kernel
theorem dX9_saves_27 : decode cX9_saves 27 = .ok (.iload_n 1, 1) := by decide +kernel
theorem dX9_saves_28 : decode cX9_saves 28 = .ok (.aload_n 0, 1) := by decide +kernel
theorem dX9_saves_29 : decode cX9_saves 29 = .ok (.getfield 21, 3) := by decide +kernel
theorem dX9_saves_32 : decode cX9_saves 32 = .ok (.bipush 9, 2) := by decide +kernel
theorem dX9_saves_34 : decode cX9_saves 34 = .ok (.iaload, 1) := by decide +kernel
theorem dX9_saves_35 : decode cX9_saves 35 = .ok (.invokevirtual 364, 3) := by decide +kernel
theorem dX9_saves_38 : decode cX9_saves 38 = .ok (.aload_n 0, 1) := by decide +kernel
theorem dX9_saves_39 : decode cX9_saves 39 = .ok (.bipush 100, 2) := by decide +kernel
theorem dX9_saves_41 : decode cX9_saves 41 = .ok (.iload_n 3, 1) := by decide +kernel
theorem dX9_saves_42 : decode cX9_saves 42 = .ok (.iadd, 1) := by decide +kernel
theorem dX9_saves_43 : decode cX9_saves 43 = .ok (.aload_n 0, 1) := by decide +kernel
theorem dX9_saves_44 : decode cX9_saves 44 = .ok (.invokevirtual 376, 3) := by decide +kernel
theorem dX9_saves_47 : decode cX9_saves 47 = .ok (.isub, 1) := by decide +kernel
theorem dX9_saves_48 : decode cX9_saves 48 = .ok (.invokevirtual 62, 3) := by decide +kernel
theorem dX9_saves_51 : decode cX9_saves 51 = .ok (.ireturn, 1) := by decide +kernel
theorem dX9_bestTold_0 : decode cX9_bestTold 0 = .ok (.aload_n 0, 1) := by decide +kernel
theorem dX9_bestTold_1 : decode cX9_bestTold 1 = .ok (.iconst 0, 1) := by decide +kernel
theorem dX9_bestTold_2 : decode cX9_bestTold 2 = .ok (.putfield 52, 3) := by decide +kernel
theorem dX9_bestTold_5 : decode cX9_bestTold 5 = .ok (.aload_n 0, 1) := by decide +kernel
theorem dX9_bestTold_6 : decode cX9_bestTold 6 = .ok (.getfield 316, 3) := by decide +kernel
theorem dX9_bestTold_9 : decode cX9_bestTold 9 = .ok (.ifnonnull 9, 3) := by decide +kernel
theorem dX9_bestTold_12 : decode cX9_bestTold 12 = .ok (.aload_n 0, 1) := by decide +kernel
theorem dX9_bestTold_13 : decode cX9_bestTold 13 = .ok (.iconst 1, 1) := by decide +kernel
theorem dX9_bestTold_14 : decode cX9_bestTold 14 = .ok (.invokevirtual 58, 3) := by decide +kernel
theorem dX9_bestTold_17 : decode cX9_bestTold 17 = .ok (.ireturn, 1) := by decide +kernel
theorem dX9_bestTold_18 : decode cX9_bestTold 18 = .ok (.aload_n 0, 1) := by decide +kernel
theorem dX9_bestTold_19 : decode cX9_bestTold 19 = .ok (.invokevirtual 348, 3) := by decide +kernel
theorem dX9_bestTold_22 : decode cX9_bestTold 22 = .ok (.aload_n 0, 1) := by decide +kernel
theorem dX9_bestTold_23 : decode cX9_bestTold 23 = .ok (.invokevirtual 376, 3) := by decide +kernel
theorem dX9_bestTold_26 : decode cX9_bestTold 26 = .ok (.istore_n 1, 1) := by decide +kernel
theorem dX9_bestTold_27 : decode cX9_bestTold 27 = .ok (.bipush (-2), 2) := by decide +kernel
theorem dX9_bestTold_29 : decode cX9_bestTold 29 = .ok (.istore_n 2, 1) := by decide +kernel
theorem dX9_bestTold_30 : decode cX9_bestTold 30 = .ok (.iconst 0, 1) := by decide +kernel
theorem dX9_bestTold_31 : decode cX9_bestTold 31 = .ok (.istore_n 3, 1) := by decide +kernel
theorem dX9_bestTold_32 : decode cX9_bestTold 32 = .ok (.iload_n 3, 1) := by decide +kernel
theorem dX9_bestTold_33 : decode cX9_bestTold 33 = .ok (.aload_n 0, 1) := by decide +kernel
theorem dX9_bestTold_34 : decode cX9_bestTold 34 = .ok (.getfield 316, 3) := by decide +kernel
theorem dX9_bestTold_37 : decode cX9_bestTold 37 = .ok (.getfield 187, 3) := by decide +kernel
theorem dX9_bestTold_40 : decode cX9_bestTold 40 = .ok (.if_icmp .ge 43, 3) := by decide +kernel
theorem dX9_bestTold_43 : decode cX9_bestTold 43 = .ok (.aload_n 0, 1) := by decide +kernel
theorem dX9_bestTold_44 : decode cX9_bestTold 44 = .ok (.invokevirtual 348, 3) := by decide +kernel
theorem dX9_bestTold_47 : decode cX9_bestTold 47 = .ok (.aload_n 0, 1) := by decide +kernel
theorem dX9_bestTold_48 : decode cX9_bestTold 48 = .ok (.iload_n 3, 1) := by decide +kernel
theorem dX9_bestTold_49 : decode cX9_bestTold 49 = .ok (.aload_n 0, 1) := by decide +kernel
theorem dX9_bestTold_50 : decode cX9_bestTold 50 = .ok (.getfield 21, 3) := by decide +kernel
theorem dX9_bestTold_53 : decode cX9_bestTold 53 = .ok (.bipush 9, 2) := by decide +kernel
theorem dX9_bestTold_55 : decode cX9_bestTold 55 = .ok (.iaload, 1) := by decide +kernel
theorem dX9_bestTold_56 : decode cX9_bestTold 56 = .ok (.invokevirtual 364, 3) := by decide +kernel
theorem dX9_bestTold_59 : decode cX9_bestTold 59 = .ok (.aload_n 0, 1) := by decide +kernel
theorem dX9_bestTold_60 : decode cX9_bestTold 60 = .ok (.invokevirtual 376, 3) := by decide +kernel
theorem dX9_bestTold_63 : decode cX9_bestTold 63 = .ok (.iload_n 1, 1) := by decide +kernel
theorem dX9_bestTold_64 : decode cX9_bestTold 64 = .ok (.if_icmp .lt 6, 3) := by decide +kernel
theorem dX9_bestTold_67 : decode cX9_bestTold 67 = .ok (.goto 10, 3) := by decide +kernel
theorem dX9_bestTold_70 : decode cX9_bestTold 70 = .ok (.aload_n 0, 1) := by decide +kernel
theorem dX9_bestTold_71 : decode cX9_bestTold 71 = .ok (.invokevirtual 376, 3) := by decide +kernel
theorem dX9_bestTold_74 : decode cX9_bestTold 74 = .ok (.istore_n 1, 1) := by decide +kernel
theorem dX9_bestTold_75 : decode cX9_bestTold 75 = .ok (.iload_n 3, 1) := by decide +kernel
theorem dX9_bestTold_76 : decode cX9_bestTold 76 = .ok (.istore_n 2, 1) := by decide +kernel
theorem dX9_bestTold_77 : decode cX9_bestTold 77 = .ok (.iinc 3 1, 3) := by decide +kernel
theorem dX9_bestTold_80 : decode cX9_bestTold 80 = .ok (.goto (-48), 3) := by decide +kernel
theorem dX9_bestTold_83 : decode cX9_bestTold 83 = .ok (.aload_n 0, 1) := by decide +kernel
theorem dX9_bestTold_84 : decode cX9_bestTold 84 = .ok (.iload_n 2, 1) := by decide +kernel
theorem dX9_bestTold_85 : decode cX9_bestTold 85 = .ok (.invokevirtual 62, 3) := by decide +kernel
theorem dX9_bestTold_88 : decode cX9_bestTold 88 = .ok (.ireturn, 1) := by decide +kernel
theorem dX9_dumbDay_0 : decode cX9_dumbDay 0 = .ok (.aload_n 0, 1) := by decide +kernel
theorem dX9_dumbDay_1 : decode cX9_dumbDay 1 = .ok (.iconst 0, 1) := by decide +kernel
theorem dX9_dumbDay_2 : decode cX9_dumbDay 2 = .ok (.putfield 52, 3) := by decide +kernel
theorem dX9_dumbDay_5 : decode cX9_dumbDay 5 = .ok (.aload_n 0, 1) := by decide +kernel
theorem dX9_dumbDay_6 : decode cX9_dumbDay 6 = .ok (.getfield 316, 3) := by decide +kernel
theorem dX9_dumbDay_9 : decode cX9_dumbDay 9 = .ok (.ifnonnull 9, 3) := by decide +kernel
theorem dX9_dumbDay_12 : decode cX9_dumbDay 12 = .ok (.aload_n 0, 1) := by decide +kernel
theorem dX9_dumbDay_13 : decode cX9_dumbDay 13 = .ok (.iconst 1, 1) := by decide +kernel
theorem dX9_dumbDay_14 : decode cX9_dumbDay 14 = .ok (.invokevirtual 58, 3) := by decide +kernel
theorem dX9_dumbDay_17 : decode cX9_dumbDay 17 = .ok (.ireturn, 1) := by decide +kernel
theorem dX9_dumbDay_18 : decode cX9_dumbDay 18 = .ok (.aload_n 0, 1) := by decide +kernel
theorem dX9_dumbDay_19 : decode cX9_dumbDay 19 = .ok (.invokevirtual 348, 3) := by decide +kernel
theorem dX9_dumbDay_22 : decode cX9_dumbDay 22 = .ok (.aload_n 0, 1) := by decide +kernel
theorem dX9_dumbDay_23 : decode cX9_dumbDay 23 = .ok (.getfield 17, 3) := by decide +kernel
theorem dX9_dumbDay_26 : decode cX9_dumbDay 26 = .ok (.bipush 9, 2) := by decide +kernel
theorem dX9_dumbDay_28 : decode cX9_dumbDay 28 = .ok (.iaload, 1) := by decide +kernel
theorem dX9_dumbDay_29 : decode cX9_dumbDay 29 = .ok (.istore_n 1, 1) := by decide +kernel
theorem dX9_dumbDay_30 : decode cX9_dumbDay 30 = .ok (.iload_n 1, 1) := by decide +kernel
theorem dX9_dumbDay_31 : decode cX9_dumbDay 31 = .ok (.bipush 90, 2) := by decide +kernel
theorem dX9_dumbDay_33 : decode cX9_dumbDay 33 = .ok (.if_icmp .gt 33, 3) := by decide +kernel
theorem dX9_dumbDay_36 : decode cX9_dumbDay 36 = .ok (.aload_n 0, 1) := by decide +kernel
theorem dX9_dumbDay_37 : decode cX9_dumbDay 37 = .ok (.iload_n 1, 1) := by decide +kernel
theorem dX9_dumbDay_38 : decode cX9_dumbDay 38 = .ok (.invokevirtual 358, 3) := by decide +kernel
theorem dX9_dumbDay_41 : decode cX9_dumbDay 41 = .ok (.bipush (-2), 2) := by decide +kernel
theorem dX9_dumbDay_43 : decode cX9_dumbDay 43 = .ok (.if_icmp .eq 17, 3) := by decide +kernel
theorem dX9_dumbDay_46 : decode cX9_dumbDay 46 = .ok (.aload_n 0, 1) := by decide +kernel
theorem dX9_dumbDay_47 : decode cX9_dumbDay 47 = .ok (.iload_n 1, 1) := by decide +kernel
theorem dX9_dumbDay_48 : decode cX9_dumbDay 48 = .ok (.invokevirtual 370, 3) := by decide +kernel
theorem dX9_dumbDay_51 : decode cX9_dumbDay 51 = .ok (.ifCond .ne 9, 3) := by decide +kernel
theorem dX9_dumbDay_54 : decode cX9_dumbDay 54 = .ok (.aload_n 0, 1) := by decide +kernel
theorem dX9_dumbDay_55 : decode cX9_dumbDay 55 = .ok (.iload_n 1, 1) := by decide +kernel
theorem dX9_dumbDay_56 : decode cX9_dumbDay 56 = .ok (.invokevirtual 62, 3) := by decide +kernel
theorem dX9_dumbDay_59 : decode cX9_dumbDay 59 = .ok (.ireturn, 1) := by decide +kernel
theorem dX9_dumbDay_60 : decode cX9_dumbDay 60 = .ok (.iinc 1 1, 3) := by decide +kernel
theorem dX9_dumbDay_63 : decode cX9_dumbDay 63 = .ok (.goto (-33), 3) := by decide +kernel
theorem dX9_dumbDay_66 : decode cX9_dumbDay 66 = .ok (.aload_n 0, 1) := by decide +kernel
theorem dX9_dumbDay_67 : decode cX9_dumbDay 67 = .ok (.bipush (-2), 2) := by decide +kernel
theorem dX9_dumbDay_69 : decode cX9_dumbDay 69 = .ok (.invokevirtual 62, 3) := by decide +kernel
theorem dX9_dumbDay_72 : decode cX9_dumbDay 72 = .ok (.ireturn, 1) := by decide +kernel
theorem dX9_glassesToCome_0 : decode cX9_glassesToCome 0 = .ok (.iconst 0, 1) := by decide +kernel
theorem dX9_glassesToCome_1 : decode cX9_glassesToCome 1 = .ok (.istore_n 1, 1) := by decide +kernel
theorem dX9_glassesToCome_2 : decode cX9_glassesToCome 2 = .ok (.iconst 0, 1) := by decide +kernel
theorem dX9_glassesToCome_3 : decode cX9_glassesToCome 3 = .ok (.istore_n 2, 1) := by decide +kernel
theorem dX9_glassesToCome_4 : decode cX9_glassesToCome 4 = .ok (.iload_n 2, 1) := by decide +kernel
theorem dX9_glassesToCome_5 : decode cX9_glassesToCome 5 = .ok (.aload_n 0, 1) := by decide +kernel
theorem dX9_glassesToCome_6 : decode cX9_glassesToCome 6 = .ok (.getfield 316, 3) := by decide +kernel
theorem dX9_glassesToCome_9 : decode cX9_glassesToCome 9 = .ok (.getfield 287, 3) := by decide +kernel
theorem dX9_glassesToCome_12 : decode cX9_glassesToCome 12 = .ok (.if_icmp .ge 36, 3) := by decide +kernel
theorem dX9_glassesToCome_15 : decode cX9_glassesToCome 15 = .ok (.iload_n 1, 1) := by decide +kernel
theorem dX9_glassesToCome_16 : decode cX9_glassesToCome 16 = .ok (.aload_n 0, 1) := by decide +kernel
theorem dX9_glassesToCome_17 : decode cX9_glassesToCome 17 = .ok (.getfield 316, 3) := by decide +kernel
theorem dX9_glassesToCome_20 : decode cX9_glassesToCome 20 = .ok (.getfield 290, 3) := by decide +kernel
theorem dX9_glassesToCome_23 : decode cX9_glassesToCome 23 = .ok (.iload_n 2, 1) := by decide +kernel
theorem dX9_glassesToCome_24 : decode cX9_glassesToCome 24 = .ok (.iaload, 1) := by decide +kernel
theorem dX9_glassesToCome_25 : decode cX9_glassesToCome 25 = .ok (.aload_n 0, 1) := by decide +kernel
theorem dX9_glassesToCome_26 : decode cX9_glassesToCome 26 = .ok (.getfield 17, 3) := by decide +kernel
theorem dX9_glassesToCome_29 : decode cX9_glassesToCome 29 = .ok (.bipush 9, 2) := by decide +kernel
theorem dX9_glassesToCome_31 : decode cX9_glassesToCome 31 = .ok (.iaload, 1) := by decide +kernel
theorem dX9_glassesToCome_32 : decode cX9_glassesToCome 32 = .ok (.if_icmp .lt 7, 3) := by decide +kernel
theorem dX9_glassesToCome_35 : decode cX9_glassesToCome 35 = .ok (.iconst 1, 1) := by decide +kernel
theorem dX9_glassesToCome_36 : decode cX9_glassesToCome 36 = .ok (.goto 4, 3) := by decide +kernel
theorem dX9_glassesToCome_39 : decode cX9_glassesToCome 39 = .ok (.iconst 0, 1) := by decide +kernel
theorem dX9_glassesToCome_40 : decode cX9_glassesToCome 40 = .ok (.iadd, 1) := by decide +kernel
theorem dX9_glassesToCome_41 : decode cX9_glassesToCome 41 = .ok (.istore_n 1, 1) := by decide +kernel
theorem dX9_glassesToCome_42 : decode cX9_glassesToCome 42 = .ok (.iinc 2 1, 3) := by decide +kernel
theorem dX9_glassesToCome_45 : decode cX9_glassesToCome 45 = .ok (.goto (-41), 3) := by decide +kernel
theorem dX9_glassesToCome_48 : decode cX9_glassesToCome 48 = .ok (.iload_n 1, 1) := by decide +kernel
theorem dX9_glassesToCome_49 : decode cX9_glassesToCome 49 = .ok (.ireturn, 1) := by decide +kernel
theorem dX9_codes_0 : decode cX9_codes 0 = .ok (.iconst 1, 1) := by decide +kernel
theorem dX9_codes_1 : decode cX9_codes 1 = .ok (.istore_n 1, 1) := by decide +kernel
theorem dX9_codes_2 : decode cX9_codes 2 = .ok (.iconst 0, 1) := by decide +kernel
theorem dX9_codes_3 : decode cX9_codes 3 = .ok (.istore_n 2, 1) := by decide +kernel
theorem dX9_codes_4 : decode cX9_codes 4 = .ok (.iload_n 2, 1) := by decide +kernel
theorem dX9_codes_5 : decode cX9_codes 5 = .ok (.aload_n 0, 1) := by decide +kernel
theorem dX9_codes_6 : decode cX9_codes 6 = .ok (.invokevirtual 379, 3) := by decide +kernel
theorem dX9_codes_9 : decode cX9_codes 9 = .ok (.if_icmp .ge 19, 3) := by decide +kernel
theorem dX9_codes_12 : decode cX9_codes 12 = .ok (.iload_n 1, 1) := by decide +kernel
theorem dX9_codes_13 : decode cX9_codes 13 = .ok (.aload_n 0, 1) := by decide +kernel
theorem dX9_codes_14 : decode cX9_codes 14 = .ok (.getfield 316, 3) := by decide +kernel
theorem dX9_codes_17 : decode cX9_codes 17 = .ok (.getfield 187, 3) := by decide +kernel
theorem dX9_codes_20 : decode cX9_codes 20 = .ok (.imul, 1) := by decide +kernel
theorem dX9_codes_21 : decode cX9_codes 21 = .ok (.istore_n 1, 1) := by decide +kernel
theorem dX9_codes_22 : decode cX9_codes 22 = .ok (.iinc 2 1, 3) := by decide +kernel
theorem dX9_codes_25 : decode cX9_codes 25 = .ok (.goto (-21), 3) := by decide +kernel
theorem dX9_codes_28 : decode cX9_codes 28 = .ok (.iload_n 1, 1) := by decide +kernel
theorem dX9_codes_29 : decode cX9_codes 29 = .ok (.ireturn, 1) := by decide +kernel
theorem dX9_isWay_0 : decode cX9_isWay 0 = .ok (.aload_n 0, 1) := by decide +kernel
theorem dX9_isWay_1 : decode cX9_isWay 1 = .ok (.invokevirtual 379, 3) := by decide +kernel
theorem dX9_isWay_4 : decode cX9_isWay 4 = .ok (.istore_n 2, 1) := by decide +kernel
theorem dX9_isWay_5 : decode cX9_isWay 5 = .ok (.aload_n 0, 1) := by decide +kernel
theorem dX9_isWay_6 : decode cX9_isWay 6 = .ok (.invokevirtual 382, 3) := by decide +kernel
theorem dX9_isWay_9 : decode cX9_isWay 9 = .ok (.istore_n 3, 1) := by decide +kernel
theorem dX9_isWay_10 : decode cX9_isWay 10 = .ok (.aload_n 0, 1) := by decide +kernel
theorem dX9_isWay_11 : decode cX9_isWay 11 = .ok (.invokevirtual 348, 3) := by decide +kernel
theorem dX9_isWay_14 : decode cX9_isWay 14 = .ok (.iconst 0, 1) := by decide +kernel
theorem dX9_isWay_15 : decode cX9_isWay 15 = .ok (.istore 4, 2) := by decide +kernel
theorem dX9_isWay_17 : decode cX9_isWay 17 = .ok (.iload 4, 2) := by decide +kernel
theorem dX9_isWay_19 : decode cX9_isWay 19 = .ok (.iload_n 2, 1) := by decide +kernel
theorem dX9_isWay_20 : decode cX9_isWay 20 = .ok (.if_icmp .ge 119, 3) := by decide +kernel
theorem dX9_isWay_23 : decode cX9_isWay 23 = .ok (.iload_n 3, 1) := by decide +kernel
theorem dX9_isWay_24 : decode cX9_isWay 24 = .ok (.aload_n 0, 1) := by decide +kernel
theorem dX9_isWay_25 : decode cX9_isWay 25 = .ok (.getfield 316, 3) := by decide +kernel
theorem dX9_isWay_28 : decode cX9_isWay 28 = .ok (.getfield 187, 3) := by decide +kernel
theorem dX9_isWay_31 : decode cX9_isWay 31 = .ok (.idiv, 1) := by decide +kernel
theorem dX9_isWay_32 : decode cX9_isWay 32 = .ok (.istore_n 3, 1) := by decide +kernel
theorem dX9_isWay_33 : decode cX9_isWay 33 = .ok (.iload_n 1, 1) := by decide +kernel
theorem dX9_isWay_34 : decode cX9_isWay 34 = .ok (.iload_n 3, 1) := by decide +kernel
theorem dX9_isWay_35 : decode cX9_isWay 35 = .ok (.idiv, 1) := by decide +kernel
theorem dX9_isWay_36 : decode cX9_isWay 36 = .ok (.aload_n 0, 1) := by decide +kernel
theorem dX9_isWay_37 : decode cX9_isWay 37 = .ok (.getfield 316, 3) := by decide +kernel
theorem dX9_isWay_40 : decode cX9_isWay 40 = .ok (.getfield 187, 3) := by decide +kernel
theorem dX9_isWay_43 : decode cX9_isWay 43 = .ok (.irem, 1) := by decide +kernel
theorem dX9_isWay_44 : decode cX9_isWay 44 = .ok (.istore 5, 2) := by decide +kernel
theorem dX9_isWay_46 : decode cX9_isWay 46 = .ok (.aload_n 0, 1) := by decide +kernel
theorem dX9_isWay_47 : decode cX9_isWay 47 = .ok (.getfield 316, 3) := by decide +kernel
theorem dX9_isWay_50 : decode cX9_isWay 50 = .ok (.getfield 290, 3) := by decide +kernel
theorem dX9_isWay_53 : decode cX9_isWay 53 = .ok (.aload_n 0, 1) := by decide +kernel
theorem dX9_isWay_54 : decode cX9_isWay 54 = .ok (.getfield 316, 3) := by decide +kernel
theorem dX9_isWay_57 : decode cX9_isWay 57 = .ok (.getfield 287, 3) := by decide +kernel
theorem dX9_isWay_60 : decode cX9_isWay 60 = .ok (.iload_n 2, 1) := by decide +kernel
theorem dX9_isWay_61 : decode cX9_isWay 61 = .ok (.isub, 1) := by decide +kernel
theorem dX9_isWay_62 : decode cX9_isWay 62 = .ok (.iload 4, 2) := by decide +kernel
theorem dX9_isWay_64 : decode cX9_isWay 64 = .ok (.iadd, 1) := by decide +kernel
theorem dX9_isWay_65 : decode cX9_isWay 65 = .ok (.iaload, 1) := by decide +kernel
theorem dX9_isWay_66 : decode cX9_isWay 66 = .ok (.istore 6, 2) := by decide +kernel
theorem dX9_isWay_68 : decode cX9_isWay 68 = .ok (.aload_n 0, 1) := by decide +kernel
theorem dX9_isWay_69 : decode cX9_isWay 69 = .ok (.iload 6, 2) := by decide +kernel
theorem dX9_isWay_71 : decode cX9_isWay 71 = .ok (.invokevirtual 370, 3) := by decide +kernel
theorem dX9_isWay_74 : decode cX9_isWay 74 = .ok (.istore 7, 2) := by decide +kernel
theorem dX9_isWay_76 : decode cX9_isWay 76 = .ok (.iload 7, 2) := by decide +kernel
theorem dX9_isWay_78 : decode cX9_isWay 78 = .ok (.ifCond .ne 11, 3) := by decide +kernel
theorem dX9_isWay_81 : decode cX9_isWay 81 = .ok (.iload 5, 2) := by decide +kernel
theorem dX9_isWay_83 : decode cX9_isWay 83 = .ok (.ifCond .eq 18, 3) := by decide +kernel
theorem dX9_isWay_86 : decode cX9_isWay 86 = .ok (.goto 13, 3) := by decide +kernel
theorem dX9_isWay_89 : decode cX9_isWay 89 = .ok (.iload 7, 2) := by decide +kernel
theorem dX9_isWay_91 : decode cX9_isWay 91 = .ok (.iload 5, 2) := by decide +kernel
theorem dX9_isWay_93 : decode cX9_isWay 93 = .ok (.invokestatic 281, 3) := by decide +kernel
theorem dX9_isWay_96 : decode cX9_isWay 96 = .ok (.ifCond .ne 5, 3) := by decide +kernel
theorem dX9_isWay_99 : decode cX9_isWay 99 = .ok (.iconst 0, 1) := by decide +kernel
theorem dX9_isWay_100 : decode cX9_isWay 100 = .ok (.ireturn, 1) := by decide +kernel
theorem dX9_isWay_101 : decode cX9_isWay 101 = .ok (.aload_n 0, 1) := by decide +kernel
theorem dX9_isWay_102 : decode cX9_isWay 102 = .ok (.getfield 39, 3) := by decide +kernel
theorem dX9_isWay_105 : decode cX9_isWay 105 = .ok (.iload 4, 2) := by decide +kernel
theorem dX9_isWay_107 : decode cX9_isWay 107 = .ok (.iload 7, 2) := by decide +kernel
theorem dX9_isWay_109 : decode cX9_isWay 109 = .ok (.ifCond .ne 8, 3) := by decide +kernel
theorem dX9_isWay_112 : decode cX9_isWay 112 = .ok (.bipush (-2), 2) := by decide +kernel
theorem dX9_isWay_114 : decode cX9_isWay 114 = .ok (.goto 5, 3) := by decide +kernel
theorem dX9_isWay_117 : decode cX9_isWay 117 = .ok (.iload 5, 2) := by decide +kernel
theorem dX9_isWay_119 : decode cX9_isWay 119 = .ok (.iastore, 1) := by decide +kernel
theorem dX9_isWay_120 : decode cX9_isWay 120 = .ok (.iload 7, 2) := by decide +kernel
theorem dX9_isWay_122 : decode cX9_isWay 122 = .ok (.ifCond .eq 11, 3) := by decide +kernel
theorem dX9_isWay_125 : decode cX9_isWay 125 = .ok (.aload_n 0, 1) := by decide +kernel
theorem dX9_isWay_126 : decode cX9_isWay 126 = .ok (.iload 5, 2) := by decide +kernel
theorem dX9_isWay_128 : decode cX9_isWay 128 = .ok (.iload 6, 2) := by decide +kernel
theorem dX9_isWay_130 : decode cX9_isWay 130 = .ok (.invokevirtual 364, 3) := by decide +kernel
theorem dX9_isWay_133 : decode cX9_isWay 133 = .ok (.iinc 4 1, 3) := by decide +kernel
theorem dX9_isWay_136 : decode cX9_isWay 136 = .ok (.goto (-119), 3) := by decide +kernel
theorem dX9_isWay_139 : decode cX9_isWay 139 = .ok (.iconst 1, 1) := by decide +kernel
theorem dX9_isWay_140 : decode cX9_isWay 140 = .ok (.ireturn, 1) := by decide +kernel
theorem dX9_ways_0 : decode cX9_ways 0 = .ok (.aload_n 0, 1) := by decide +kernel
theorem dX9_ways_1 : decode cX9_ways 1 = .ok (.iconst 0, 1) := by decide +kernel
theorem dX9_ways_2 : decode cX9_ways 2 = .ok (.putfield 52, 3) := by decide +kernel
theorem dX9_ways_5 : decode cX9_ways 5 = .ok (.aload_n 0, 1) := by decide +kernel
theorem dX9_ways_6 : decode cX9_ways 6 = .ok (.getfield 316, 3) := by decide +kernel
theorem dX9_ways_9 : decode cX9_ways 9 = .ok (.ifnonnull 9, 3) := by decide +kernel
theorem dX9_ways_12 : decode cX9_ways 12 = .ok (.aload_n 0, 1) := by decide +kernel
theorem dX9_ways_13 : decode cX9_ways 13 = .ok (.iconst 1, 1) := by decide +kernel
theorem dX9_ways_14 : decode cX9_ways 14 = .ok (.invokevirtual 58, 3) := by decide +kernel
theorem dX9_ways_17 : decode cX9_ways 17 = .ok (.ireturn, 1) := by decide +kernel
theorem dX9_ways_18 : decode cX9_ways 18 = .ok (.iconst 0, 1) := by decide +kernel
theorem dX9_ways_19 : decode cX9_ways 19 = .ok (.istore_n 1, 1) := by decide +kernel
theorem dX9_ways_20 : decode cX9_ways 20 = .ok (.iconst 0, 1) := by decide +kernel
theorem dX9_ways_21 : decode cX9_ways 21 = .ok (.istore_n 2, 1) := by decide +kernel
theorem dX9_ways_22 : decode cX9_ways 22 = .ok (.iload_n 2, 1) := by decide +kernel
theorem dX9_ways_23 : decode cX9_ways 23 = .ok (.aload_n 0, 1) := by decide +kernel
theorem dX9_ways_24 : decode cX9_ways 24 = .ok (.invokevirtual 382, 3) := by decide +kernel
theorem dX9_ways_27 : decode cX9_ways 27 = .ok (.if_icmp .ge 25, 3) := by decide +kernel
theorem dX9_ways_30 : decode cX9_ways 30 = .ok (.iload_n 1, 1) := by decide +kernel
theorem dX9_ways_31 : decode cX9_ways 31 = .ok (.aload_n 0, 1) := by decide +kernel
theorem dX9_ways_32 : decode cX9_ways 32 = .ok (.iload_n 2, 1) := by decide +kernel
theorem dX9_ways_33 : decode cX9_ways 33 = .ok (.invokevirtual 385, 3) := by decide +kernel
theorem dX9_ways_36 : decode cX9_ways 36 = .ok (.ifCond .eq 7, 3) := by decide +kernel
theorem dX9_ways_39 : decode cX9_ways 39 = .ok (.iconst 1, 1) := by decide +kernel
theorem dX9_ways_40 : decode cX9_ways 40 = .ok (.goto 4, 3) := by decide +kernel
theorem dX9_ways_43 : decode cX9_ways 43 = .ok (.iconst 0, 1) := by decide +kernel
theorem dX9_ways_44 : decode cX9_ways 44 = .ok (.iadd, 1) := by decide +kernel
theorem dX9_ways_45 : decode cX9_ways 45 = .ok (.istore_n 1, 1) := by decide +kernel
theorem dX9_ways_46 : decode cX9_ways 46 = .ok (.iinc 2 1, 3) := by decide +kernel
theorem dX9_ways_49 : decode cX9_ways 49 = .ok (.goto (-27), 3) := by decide +kernel
theorem dX9_ways_52 : decode cX9_ways 52 = .ok (.aload_n 0, 1) := by decide +kernel
theorem dX9_ways_53 : decode cX9_ways 53 = .ok (.iload_n 1, 1) := by decide +kernel
theorem dX9_ways_54 : decode cX9_ways 54 = .ok (.invokevirtual 62, 3) := by decide +kernel
theorem dX9_ways_57 : decode cX9_ways 57 = .ok (.ireturn, 1) := by decide +kernel
theorem dX9_isWorked_0 : decode cX9_isWorked 0 = .ok (.iconst 0, 1) := by decide +kernel
theorem dX9_isWorked_1 : decode cX9_isWorked 1 = .ok (.istore_n 2, 1) := by decide +kernel
theorem dX9_isWorked_2 : decode cX9_isWorked 2 = .ok (.iconst 0, 1) := by decide +kernel
theorem dX9_isWorked_3 : decode cX9_isWorked 3 = .ok (.istore_n 3, 1) := by decide +kernel
theorem dX9_isWorked_4 : decode cX9_isWorked 4 = .ok (.iload_n 3, 1) := by decide +kernel
theorem dX9_isWorked_5 : decode cX9_isWorked 5 = .ok (.aload_n 0, 1) := by decide +kernel
theorem dX9_isWorked_6 : decode cX9_isWorked 6 = .ok (.invokevirtual 382, 3) := by decide +kernel
theorem dX9_isWorked_9 : decode cX9_isWorked 9 = .ok (.if_icmp .ge 34, 3) := by decide +kernel
theorem dX9_isWorked_12 : decode cX9_isWorked 12 = .ok (.iload_n 1, 1) := by decide +kernel
theorem dX9_isWorked_13 : decode cX9_isWorked 13 = .ok (.ifCond .lt 30, 3) := by decide +kernel
theorem dX9_isWorked_16 : decode cX9_isWorked 16 = .ok (.aload_n 0, 1) := by decide +kernel
theorem dX9_isWorked_17 : decode cX9_isWorked 17 = .ok (.iload_n 3, 1) := by decide +kernel
theorem dX9_isWorked_18 : decode cX9_isWorked 18 = .ok (.invokevirtual 385, 3) := by decide +kernel
theorem dX9_isWorked_21 : decode cX9_isWorked 21 = .ok (.ifCond .ne 6, 3) := by decide +kernel
theorem dX9_isWorked_24 : decode cX9_isWorked 24 = .ok (.goto 13, 3) := by decide +kernel
theorem dX9_isWorked_27 : decode cX9_isWorked 27 = .ok (.iload_n 2, 1) := by decide +kernel
theorem dX9_isWorked_28 : decode cX9_isWorked 28 = .ok (.iload_n 1, 1) := by decide +kernel
theorem dX9_isWorked_29 : decode cX9_isWorked 29 = .ok (.if_icmp .ne 5, 3) := by decide +kernel
theorem dX9_isWorked_32 : decode cX9_isWorked 32 = .ok (.iconst 1, 1) := by decide +kernel
theorem dX9_isWorked_33 : decode cX9_isWorked 33 = .ok (.ireturn, 1) := by decide +kernel
theorem dX9_isWorked_34 : decode cX9_isWorked 34 = .ok (.iinc 2 1, 3) := by decide +kernel
theorem dX9_isWorked_37 : decode cX9_isWorked 37 = .ok (.iinc 3 1, 3) := by decide +kernel
theorem dX9_isWorked_40 : decode cX9_isWorked 40 = .ok (.goto (-36), 3) := by decide +kernel
theorem dX9_isWorked_43 : decode cX9_isWorked 43 = .ok (.iconst 0, 1) := by decide +kernel
theorem dX9_isWorked_44 : decode cX9_isWorked 44 = .ok (.ireturn, 1) := by decide +kernel
theorem dX9_wayAt_0 : decode cX9_wayAt 0 = .ok (.aload_n 0, 1) := by decide +kernel
theorem dX9_wayAt_1 : decode cX9_wayAt 1 = .ok (.iconst 0, 1) := by decide +kernel
theorem dX9_wayAt_2 : decode cX9_wayAt 2 = .ok (.putfield 52, 3) := by decide +kernel
theorem dX9_wayAt_5 : decode cX9_wayAt 5 = .ok (.aload_n 0, 1) := by decide +kernel
theorem dX9_wayAt_6 : decode cX9_wayAt 6 = .ok (.getfield 316, 3) := by decide +kernel
theorem dX9_wayAt_9 : decode cX9_wayAt 9 = .ok (.ifnull 23, 3) := by decide +kernel
theorem dX9_wayAt_12 : decode cX9_wayAt 12 = .ok (.iload_n 2, 1) := by decide +kernel
theorem dX9_wayAt_13 : decode cX9_wayAt 13 = .ok (.ifCond .lt 19, 3) := by decide +kernel
theorem dX9_wayAt_16 : decode cX9_wayAt 16 = .ok (.iload_n 2, 1) := by decide +kernel
theorem dX9_wayAt_17 : decode cX9_wayAt 17 = .ok (.aload_n 0, 1) := by decide +kernel
theorem dX9_wayAt_18 : decode cX9_wayAt 18 = .ok (.invokevirtual 379, 3) := by decide +kernel
theorem dX9_wayAt_21 : decode cX9_wayAt 21 = .ok (.if_icmp .ge 11, 3) := by decide +kernel
theorem dX9_wayAt_24 : decode cX9_wayAt 24 = .ok (.aload_n 0, 1) := by decide +kernel
theorem dX9_wayAt_25 : decode cX9_wayAt 25 = .ok (.iload_n 1, 1) := by decide +kernel
theorem dX9_wayAt_26 : decode cX9_wayAt 26 = .ok (.invokevirtual 388, 3) := by decide +kernel
theorem dX9_wayAt_29 : decode cX9_wayAt 29 = .ok (.ifCond .ne 9, 3) := by decide +kernel
theorem dX9_wayAt_32 : decode cX9_wayAt 32 = .ok (.aload_n 0, 1) := by decide +kernel
theorem dX9_wayAt_33 : decode cX9_wayAt 33 = .ok (.iconst 1, 1) := by decide +kernel
theorem dX9_wayAt_34 : decode cX9_wayAt 34 = .ok (.invokevirtual 58, 3) := by decide +kernel
theorem dX9_wayAt_37 : decode cX9_wayAt 37 = .ok (.ireturn, 1) := by decide +kernel
theorem dX9_wayAt_38 : decode cX9_wayAt 38 = .ok (.aload_n 0, 1) := by decide +kernel
theorem dX9_wayAt_39 : decode cX9_wayAt 39 = .ok (.aload_n 0, 1) := by decide +kernel
theorem dX9_wayAt_40 : decode cX9_wayAt 40 = .ok (.getfield 39, 3) := by decide +kernel
theorem dX9_wayAt_43 : decode cX9_wayAt 43 = .ok (.iload_n 2, 1) := by decide +kernel
theorem dX9_wayAt_44 : decode cX9_wayAt 44 = .ok (.iaload, 1) := by decide +kernel
theorem dX9_wayAt_45 : decode cX9_wayAt 45 = .ok (.invokevirtual 62, 3) := by decide +kernel
theorem dX9_wayAt_48 : decode cX9_wayAt 48 = .ok (.ireturn, 1) := by decide +kernel
theorem dX9_bestWay_0 : decode cX9_bestWay 0 = .ok (.aload_n 0, 1) := by decide +kernel
theorem dX9_bestWay_1 : decode cX9_bestWay 1 = .ok (.iconst 0, 1) := by decide +kernel
theorem dX9_bestWay_2 : decode cX9_bestWay 2 = .ok (.putfield 52, 3) := by decide +kernel
theorem dX9_bestWay_5 : decode cX9_bestWay 5 = .ok (.aload_n 0, 1) := by decide +kernel
theorem dX9_bestWay_6 : decode cX9_bestWay 6 = .ok (.getfield 316, 3) := by decide +kernel
theorem dX9_bestWay_9 : decode cX9_bestWay 9 = .ok (.ifnonnull 9, 3) := by decide +kernel
theorem dX9_bestWay_12 : decode cX9_bestWay 12 = .ok (.aload_n 0, 1) := by decide +kernel
theorem dX9_bestWay_13 : decode cX9_bestWay 13 = .ok (.iconst 1, 1) := by decide +kernel
theorem dX9_bestWay_14 : decode cX9_bestWay 14 = .ok (.invokevirtual 58, 3) := by decide +kernel
theorem dX9_bestWay_17 : decode cX9_bestWay 17 = .ok (.ireturn, 1) := by decide +kernel
theorem dX9_bestWay_18 : decode cX9_bestWay 18 = .ok (.iconst 0, 1) := by decide +kernel
theorem dX9_bestWay_19 : decode cX9_bestWay 19 = .ok (.istore_n 1, 1) := by decide +kernel
theorem dX9_bestWay_20 : decode cX9_bestWay 20 = .ok (.iconst 0, 1) := by decide +kernel
theorem dX9_bestWay_21 : decode cX9_bestWay 21 = .ok (.istore_n 2, 1) := by decide +kernel
theorem dX9_bestWay_22 : decode cX9_bestWay 22 = .ok (.sipush 9999, 3) := by decide +kernel
theorem dX9_bestWay_25 : decode cX9_bestWay 25 = .ok (.istore_n 3, 1) := by decide +kernel
theorem dX9_bestWay_26 : decode cX9_bestWay 26 = .ok (.iconst 0, 1) := by decide +kernel
theorem dX9_bestWay_27 : decode cX9_bestWay 27 = .ok (.istore 4, 2) := by decide +kernel
theorem dX9_bestWay_29 : decode cX9_bestWay 29 = .ok (.iload 4, 2) := by decide +kernel
theorem dX9_bestWay_31 : decode cX9_bestWay 31 = .ok (.aload_n 0, 1) := by decide +kernel
theorem dX9_bestWay_32 : decode cX9_bestWay 32 = .ok (.invokevirtual 382, 3) := by decide +kernel
theorem dX9_bestWay_35 : decode cX9_bestWay 35 = .ok (.if_icmp .ge 46, 3) := by decide +kernel
theorem dX9_bestWay_38 : decode cX9_bestWay 38 = .ok (.aload_n 0, 1) := by decide +kernel
theorem dX9_bestWay_39 : decode cX9_bestWay 39 = .ok (.iload 4, 2) := by decide +kernel
theorem dX9_bestWay_41 : decode cX9_bestWay 41 = .ok (.invokevirtual 385, 3) := by decide +kernel
theorem dX9_bestWay_44 : decode cX9_bestWay 44 = .ok (.ifCond .ne 6, 3) := by decide +kernel
theorem dX9_bestWay_47 : decode cX9_bestWay 47 = .ok (.goto 28, 3) := by decide +kernel
theorem dX9_bestWay_50 : decode cX9_bestWay 50 = .ok (.aload_n 0, 1) := by decide +kernel
theorem dX9_bestWay_51 : decode cX9_bestWay 51 = .ok (.bipush 60, 2) := by decide +kernel
theorem dX9_bestWay_53 : decode cX9_bestWay 53 = .ok (.invokevirtual 333, 3) := by decide +kernel
theorem dX9_bestWay_56 : decode cX9_bestWay 56 = .ok (.invokestatic 336, 3) := by decide +kernel
theorem dX9_bestWay_59 : decode cX9_bestWay 59 = .ok (.istore 5, 2) := by decide +kernel
theorem dX9_bestWay_61 : decode cX9_bestWay 61 = .ok (.iload 5, 2) := by decide +kernel
theorem dX9_bestWay_63 : decode cX9_bestWay 63 = .ok (.iload_n 3, 1) := by decide +kernel
theorem dX9_bestWay_64 : decode cX9_bestWay 64 = .ok (.if_icmp .ge 8, 3) := by decide +kernel
theorem dX9_bestWay_67 : decode cX9_bestWay 67 = .ok (.iload 5, 2) := by decide +kernel
theorem dX9_bestWay_69 : decode cX9_bestWay 69 = .ok (.istore_n 3, 1) := by decide +kernel
theorem dX9_bestWay_70 : decode cX9_bestWay 70 = .ok (.iload_n 1, 1) := by decide +kernel
theorem dX9_bestWay_71 : decode cX9_bestWay 71 = .ok (.istore_n 2, 1) := by decide +kernel
theorem dX9_bestWay_72 : decode cX9_bestWay 72 = .ok (.iinc 1 1, 3) := by decide +kernel
theorem dX9_bestWay_75 : decode cX9_bestWay 75 = .ok (.iinc 4 1, 3) := by decide +kernel
theorem dX9_bestWay_78 : decode cX9_bestWay 78 = .ok (.goto (-49), 3) := by decide +kernel
theorem dX9_bestWay_81 : decode cX9_bestWay 81 = .ok (.aload_n 0, 1) := by decide +kernel
theorem dX9_bestWay_82 : decode cX9_bestWay 82 = .ok (.iload_n 2, 1) := by decide +kernel
theorem dX9_bestWay_83 : decode cX9_bestWay 83 = .ok (.invokevirtual 62, 3) := by decide +kernel
theorem dX9_bestWay_86 : decode cX9_bestWay 86 = .ok (.ireturn, 1) := by decide +kernel
theorem dX9_wayBurnt_0 : decode cX9_wayBurnt 0 = .ok (.aload_n 0, 1) := by decide +kernel
theorem dX9_wayBurnt_1 : decode cX9_wayBurnt 1 = .ok (.iconst 0, 1) := by decide +kernel
theorem dX9_wayBurnt_2 : decode cX9_wayBurnt 2 = .ok (.putfield 52, 3) := by decide +kernel
theorem dX9_wayBurnt_5 : decode cX9_wayBurnt 5 = .ok (.aload_n 0, 1) := by decide +kernel
theorem dX9_wayBurnt_6 : decode cX9_wayBurnt 6 = .ok (.getfield 316, 3) := by decide +kernel
theorem dX9_wayBurnt_9 : decode cX9_wayBurnt 9 = .ok (.ifnull 11, 3) := by decide +kernel
theorem dX9_wayBurnt_12 : decode cX9_wayBurnt 12 = .ok (.aload_n 0, 1) := by decide +kernel
theorem dX9_wayBurnt_13 : decode cX9_wayBurnt 13 = .ok (.iload_n 1, 1) := by decide +kernel
theorem dX9_wayBurnt_14 : decode cX9_wayBurnt 14 = .ok (.invokevirtual 388, 3) := by decide +kernel
theorem dX9_wayBurnt_17 : decode cX9_wayBurnt 17 = .ok (.ifCond .ne 9, 3) := by decide +kernel
theorem dX9_wayBurnt_20 : decode cX9_wayBurnt 20 = .ok (.aload_n 0, 1) := by decide +kernel
theorem dX9_wayBurnt_21 : decode cX9_wayBurnt 21 = .ok (.iconst 1, 1) := by decide +kernel
theorem dX9_wayBurnt_22 : decode cX9_wayBurnt 22 = .ok (.invokevirtual 58, 3) := by decide +kernel
theorem dX9_wayBurnt_25 : decode cX9_wayBurnt 25 = .ok (.ireturn, 1) := by decide +kernel
theorem dX9_wayBurnt_26 : decode cX9_wayBurnt 26 = .ok (.aload_n 0, 1) := by decide +kernel
theorem dX9_wayBurnt_27 : decode cX9_wayBurnt 27 = .ok (.aload_n 0, 1) := by decide +kernel
theorem dX9_wayBurnt_28 : decode cX9_wayBurnt 28 = .ok (.bipush 60, 2) := by decide +kernel
theorem dX9_wayBurnt_30 : decode cX9_wayBurnt 30 = .ok (.invokevirtual 333, 3) := by decide +kernel
theorem dX9_wayBurnt_33 : decode cX9_wayBurnt 33 = .ok (.invokestatic 336, 3) := by decide +kernel
theorem dX9_wayBurnt_36 : decode cX9_wayBurnt 36 = .ok (.invokevirtual 62, 3) := by decide +kernel
theorem dX9_wayBurnt_39 : decode cX9_wayBurnt 39 = .ok (.ireturn, 1) := by decide +kernel
theorem dX9_couldRing_0 : decode cX9_couldRing 0 = .ok (.aload_n 0, 1) := by decide +kernel
theorem dX9_couldRing_1 : decode cX9_couldRing 1 = .ok (.iconst 0, 1) := by decide +kernel
theorem dX9_couldRing_2 : decode cX9_couldRing 2 = .ok (.putfield 52, 3) := by decide +kernel
theorem dX9_couldRing_5 : decode cX9_couldRing 5 = .ok (.aload_n 0, 1) := by decide +kernel
theorem dX9_couldRing_6 : decode cX9_couldRing 6 = .ok (.getfield 316, 3) := by decide +kernel
theorem dX9_couldRing_9 : decode cX9_couldRing 9 = .ok (.ifnonnull 9, 3) := by decide +kernel
theorem dX9_couldRing_12 : decode cX9_couldRing 12 = .ok (.aload_n 0, 1) := by decide +kernel
theorem dX9_couldRing_13 : decode cX9_couldRing 13 = .ok (.iconst 1, 1) := by decide +kernel
theorem dX9_couldRing_14 : decode cX9_couldRing 14 = .ok (.invokevirtual 58, 3) := by decide +kernel
theorem dX9_couldRing_17 : decode cX9_couldRing 17 = .ok (.ireturn, 1) := by decide +kernel
theorem dX9_couldRing_18 : decode cX9_couldRing 18 = .ok (.iconst 0, 1) := by decide +kernel
theorem dX9_couldRing_19 : decode cX9_couldRing 19 = .ok (.istore_n 1, 1) := by decide +kernel
theorem dX9_couldRing_20 : decode cX9_couldRing 20 = .ok (.iconst 0, 1) := by decide +kernel
theorem dX9_couldRing_21 : decode cX9_couldRing 21 = .ok (.istore_n 2, 1) := by decide +kernel
theorem dX9_couldRing_22 : decode cX9_couldRing 22 = .ok (.iload_n 2, 1) := by decide +kernel
theorem dX9_couldRing_23 : decode cX9_couldRing 23 = .ok (.aload_n 0, 1) := by decide +kernel
theorem dX9_couldRing_24 : decode cX9_couldRing 24 = .ok (.invokevirtual 382, 3) := by decide +kernel
theorem dX9_couldRing_27 : decode cX9_couldRing 27 = .ok (.if_icmp .ge 62, 3) := by decide +kernel
theorem dX9_couldRing_30 : decode cX9_couldRing 30 = .ok (.aload_n 0, 1) := by decide +kernel
theorem dX9_couldRing_31 : decode cX9_couldRing 31 = .ok (.iload_n 2, 1) := by decide +kernel
theorem dX9_couldRing_32 : decode cX9_couldRing 32 = .ok (.invokevirtual 385, 3) := by decide +kernel
theorem dX9_couldRing_35 : decode cX9_couldRing 35 = .ok (.ifCond .ne 6, 3) := by decide +kernel
theorem dX9_couldRing_38 : decode cX9_couldRing 38 = .ok (.goto 45, 3) := by decide +kernel
theorem dX9_couldRing_41 : decode cX9_couldRing 41 = .ok (.iconst 0, 1) := by decide +kernel
theorem dX9_couldRing_42 : decode cX9_couldRing 42 = .ok (.istore_n 3, 1) := by decide +kernel
theorem dX9_couldRing_43 : decode cX9_couldRing 43 = .ok (.iload_n 3, 1) := by decide +kernel
theorem dX9_couldRing_44 : decode cX9_couldRing 44 = .ok (.aload_n 0, 1) := by decide +kernel
theorem dX9_couldRing_45 : decode cX9_couldRing 45 = .ok (.invokevirtual 379, 3) := by decide +kernel
theorem dX9_couldRing_48 : decode cX9_couldRing 48 = .ok (.if_icmp .ge 35, 3) := by decide +kernel
theorem dX9_couldRing_51 : decode cX9_couldRing 51 = .ok (.iload_n 1, 1) := by decide +kernel
theorem dX9_couldRing_52 : decode cX9_couldRing 52 = .ok (.aload_n 0, 1) := by decide +kernel
theorem dX9_couldRing_53 : decode cX9_couldRing 53 = .ok (.getfield 39, 3) := by decide +kernel
theorem dX9_couldRing_56 : decode cX9_couldRing 56 = .ok (.iload_n 3, 1) := by decide +kernel
theorem dX9_couldRing_57 : decode cX9_couldRing 57 = .ok (.iaload, 1) := by decide +kernel
theorem dX9_couldRing_58 : decode cX9_couldRing 58 = .ok (.bipush (-2), 2) := by decide +kernel
theorem dX9_couldRing_60 : decode cX9_couldRing 60 = .ok (.if_icmp .ne 7, 3) := by decide +kernel
theorem dX9_couldRing_63 : decode cX9_couldRing 63 = .ok (.iconst 0, 1) := by decide +kernel
theorem dX9_couldRing_64 : decode cX9_couldRing 64 = .ok (.goto 11, 3) := by decide +kernel
theorem dX9_couldRing_67 : decode cX9_couldRing 67 = .ok (.iconst 1, 1) := by decide +kernel
theorem dX9_couldRing_68 : decode cX9_couldRing 68 = .ok (.aload_n 0, 1) := by decide +kernel
theorem dX9_couldRing_69 : decode cX9_couldRing 69 = .ok (.getfield 39, 3) := by decide +kernel
theorem dX9_couldRing_72 : decode cX9_couldRing 72 = .ok (.iload_n 3, 1) := by decide +kernel
theorem dX9_couldRing_73 : decode cX9_couldRing 73 = .ok (.iaload, 1) := by decide +kernel
theorem dX9_couldRing_74 : decode cX9_couldRing 74 = .ok (.ishl, 1) := by decide +kernel
theorem dX9_couldRing_75 : decode cX9_couldRing 75 = .ok (.ior, 1) := by decide +kernel
theorem dX9_couldRing_76 : decode cX9_couldRing 76 = .ok (.istore_n 1, 1) := by decide +kernel
theorem dX9_couldRing_77 : decode cX9_couldRing 77 = .ok (.iinc 3 1, 3) := by decide +kernel
theorem dX9_couldRing_80 : decode cX9_couldRing 80 = .ok (.goto (-37), 3) := by decide +kernel
theorem dX9_couldRing_83 : decode cX9_couldRing 83 = .ok (.iinc 2 1, 3) := by decide +kernel
theorem dX9_couldRing_86 : decode cX9_couldRing 86 = .ok (.goto (-64), 3) := by decide +kernel
theorem dX9_couldRing_89 : decode cX9_couldRing 89 = .ok (.aload_n 0, 1) := by decide +kernel
theorem dX9_couldRing_90 : decode cX9_couldRing 90 = .ok (.iload_n 1, 1) := by decide +kernel
theorem dX9_couldRing_91 : decode cX9_couldRing 91 = .ok (.invokevirtual 62, 3) := by decide +kernel
theorem dX9_couldRing_94 : decode cX9_couldRing 94 = .ok (.ireturn, 1) := by decide +kernel
theorem dX9_safe_0 : decode cX9_safe 0 = .ok (.aload_n 0, 1) := by decide +kernel
theorem dX9_safe_1 : decode cX9_safe 1 = .ok (.iconst 0, 1) := by decide +kernel
theorem dX9_safe_2 : decode cX9_safe 2 = .ok (.putfield 52, 3) := by decide +kernel
theorem dX9_safe_5 : decode cX9_safe 5 = .ok (.aload_n 0, 1) := by decide +kernel
theorem dX9_safe_6 : decode cX9_safe 6 = .ok (.aload_n 0, 1) := by decide +kernel
theorem dX9_safe_7 : decode cX9_safe 7 = .ok (.getfield 316, 3) := by decide +kernel
theorem dX9_safe_10 : decode cX9_safe 10 = .ok (.ifnull 7, 3) := by decide +kernel
theorem dX9_safe_13 : decode cX9_safe 13 = .ok (.iconst 1, 1) := by decide +kernel
theorem dX9_safe_14 : decode cX9_safe 14 = .ok (.goto 4, 3) := by decide +kernel
theorem dX9_safe_17 : decode cX9_safe 17 = .ok (.iconst 0, 1) := by decide +kernel
theorem dX9_safe_18 : decode cX9_safe 18 = .ok (.iload_n 1, 1) := by decide +kernel
theorem dX9_safe_19 : decode cX9_safe 19 = .ok (.iconst 0, 1) := by decide +kernel
theorem dX9_safe_20 : decode cX9_safe 20 = .ok (.invokevirtual 354, 3) := by decide +kernel
theorem dX9_safe_23 : decode cX9_safe 23 = .ok (.istore_n 2, 1) := by decide +kernel
theorem dX9_safe_24 : decode cX9_safe 24 = .ok (.iload_n 2, 1) := by decide +kernel
theorem dX9_safe_25 : decode cX9_safe 25 = .ok (.ifCond .le 9, 3) := by decide +kernel
theorem dX9_safe_28 : decode cX9_safe 28 = .ok (.aload_n 0, 1) := by decide +kernel
theorem dX9_safe_29 : decode cX9_safe 29 = .ok (.iload_n 2, 1) := by decide +kernel
theorem dX9_safe_30 : decode cX9_safe 30 = .ok (.invokevirtual 58, 3) := by decide +kernel
theorem dX9_safe_33 : decode cX9_safe 33 = .ok (.ireturn, 1) := by decide +kernel
theorem dX9_safe_34 : decode cX9_safe 34 = .ok (.aload_n 0, 1) := by decide +kernel
theorem dX9_safe_35 : decode cX9_safe 35 = .ok (.invokevirtual 348, 3) := by decide +kernel
theorem dX9_safe_38 : decode cX9_safe 38 = .ok (.aload_n 0, 1) := by decide +kernel
theorem dX9_safe_39 : decode cX9_safe 39 = .ok (.aload_n 0, 1) := by decide +kernel
theorem dX9_safe_40 : decode cX9_safe 40 = .ok (.getfield 17, 3) := by decide +kernel
theorem dX9_safe_43 : decode cX9_safe 43 = .ok (.bipush 9, 2) := by decide +kernel
theorem dX9_safe_45 : decode cX9_safe 45 = .ok (.iaload, 1) := by decide +kernel
theorem dX9_safe_46 : decode cX9_safe 46 = .ok (.invokevirtual 333, 3) := by decide +kernel
theorem dX9_safe_49 : decode cX9_safe 49 = .ok (.istore_n 3, 1) := by decide +kernel
theorem dX9_safe_50 : decode cX9_safe 50 = .ok (.bipush (-2), 2) := by decide +kernel
theorem dX9_safe_52 : decode cX9_safe 52 = .ok (.istore 4, 2) := by decide +kernel
theorem dX9_safe_54 : decode cX9_safe 54 = .ok (.iconst 0, 1) := by decide +kernel
theorem dX9_safe_55 : decode cX9_safe 55 = .ok (.istore 5, 2) := by decide +kernel
theorem dX9_safe_57 : decode cX9_safe 57 = .ok (.iload 5, 2) := by decide +kernel
theorem dX9_safe_59 : decode cX9_safe 59 = .ok (.iconst 1, 1) := by decide +kernel
theorem dX9_safe_60 : decode cX9_safe 60 = .ok (.aload_n 0, 1) := by decide +kernel
theorem dX9_safe_61 : decode cX9_safe 61 = .ok (.getfield 316, 3) := by decide +kernel
theorem dX9_safe_64 : decode cX9_safe 64 = .ok (.getfield 187, 3) := by decide +kernel
theorem dX9_safe_67 : decode cX9_safe 67 = .ok (.ishl, 1) := by decide +kernel
theorem dX9_safe_68 : decode cX9_safe 68 = .ok (.if_icmp .ge 65, 3) := by decide +kernel
theorem dX9_safe_71 : decode cX9_safe 71 = .ok (.iload 5, 2) := by decide +kernel
theorem dX9_safe_73 : decode cX9_safe 73 = .ok (.iload_n 3, 1) := by decide +kernel
theorem dX9_safe_74 : decode cX9_safe 74 = .ok (.iand, 1) := by decide +kernel
theorem dX9_safe_75 : decode cX9_safe 75 = .ok (.ifCond .ne 52, 3) := by decide +kernel
theorem dX9_safe_78 : decode cX9_safe 78 = .ok (.iload 4, 2) := by decide +kernel
theorem dX9_safe_80 : decode cX9_safe 80 = .ok (.bipush (-2), 2) := by decide +kernel
theorem dX9_safe_82 : decode cX9_safe 82 = .ok (.if_icmp .eq 19, 3) := by decide +kernel
theorem dX9_safe_85 : decode cX9_safe 85 = .ok (.iload 5, 2) := by decide +kernel
theorem dX9_safe_87 : decode cX9_safe 87 = .ok (.invokestatic 336, 3) := by decide +kernel
theorem dX9_safe_90 : decode cX9_safe 90 = .ok (.iload 4, 2) := by decide +kernel
theorem dX9_safe_92 : decode cX9_safe 92 = .ok (.invokestatic 336, 3) := by decide +kernel
theorem dX9_safe_95 : decode cX9_safe 95 = .ok (.if_icmp .lt 6, 3) := by decide +kernel
theorem dX9_safe_98 : decode cX9_safe 98 = .ok (.goto 29, 3) := by decide +kernel
theorem dX9_safe_101 : decode cX9_safe 101 = .ok (.aload_n 0, 1) := by decide +kernel
theorem dX9_safe_102 : decode cX9_safe 102 = .ok (.invokevirtual 348, 3) := by decide +kernel
theorem dX9_safe_105 : decode cX9_safe 105 = .ok (.aload_n 0, 1) := by decide +kernel
theorem dX9_safe_106 : decode cX9_safe 106 = .ok (.iload 5, 2) := by decide +kernel
theorem dX9_safe_108 : decode cX9_safe 108 = .ok (.invokevirtual 391, 3) := by decide +kernel
theorem dX9_safe_111 : decode cX9_safe 111 = .ok (.aload_n 0, 1) := by decide +kernel
theorem dX9_safe_112 : decode cX9_safe 112 = .ok (.iload_n 1, 1) := by decide +kernel
theorem dX9_safe_113 : decode cX9_safe 113 = .ok (.invokevirtual 333, 3) := by decide +kernel
theorem dX9_safe_116 : decode cX9_safe 116 = .ok (.iload_n 3, 1) := by decide +kernel
theorem dX9_safe_117 : decode cX9_safe 117 = .ok (.iconst (-1), 1) := by decide +kernel
theorem dX9_safe_118 : decode cX9_safe 118 = .ok (.ixor, 1) := by decide +kernel
theorem dX9_safe_119 : decode cX9_safe 119 = .ok (.iand, 1) := by decide +kernel
theorem dX9_safe_120 : decode cX9_safe 120 = .ok (.ifCond .ne 7, 3) := by decide +kernel
theorem dX9_safe_123 : decode cX9_safe 123 = .ok (.iload 5, 2) := by decide +kernel
theorem dX9_safe_125 : decode cX9_safe 125 = .ok (.istore 4, 2) := by decide +kernel
theorem dX9_safe_127 : decode cX9_safe 127 = .ok (.iinc 5 1, 3) := by decide +kernel
theorem dX9_safe_130 : decode cX9_safe 130 = .ok (.goto (-73), 3) := by decide +kernel
theorem dX9_safe_133 : decode cX9_safe 133 = .ok (.aload_n 0, 1) := by decide +kernel
theorem dX9_safe_134 : decode cX9_safe 134 = .ok (.iload 4, 2) := by decide +kernel
theorem dX9_safe_136 : decode cX9_safe 136 = .ok (.invokevirtual 62, 3) := by decide +kernel
theorem dX9_safe_139 : decode cX9_safe 139 = .ok (.ireturn, 1) := by decide +kernel
theorem dX9_tellsAll_0 : decode cX9_tellsAll 0 = .ok (.iconst 0, 1) := by decide +kernel
theorem dX9_tellsAll_1 : decode cX9_tellsAll 1 = .ok (.istore_n 2, 1) := by decide +kernel
theorem dX9_tellsAll_2 : decode cX9_tellsAll 2 = .ok (.iload_n 2, 1) := by decide +kernel
theorem dX9_tellsAll_3 : decode cX9_tellsAll 3 = .ok (.aload_n 0, 1) := by decide +kernel
theorem dX9_tellsAll_4 : decode cX9_tellsAll 4 = .ok (.getfield 316, 3) := by decide +kernel
theorem dX9_tellsAll_7 : decode cX9_tellsAll 7 = .ok (.getfield 187, 3) := by decide +kernel
theorem dX9_tellsAll_10 : decode cX9_tellsAll 10 = .ok (.if_icmp .ge 126, 3) := by decide +kernel
theorem dX9_tellsAll_13 : decode cX9_tellsAll 13 = .ok (.iload_n 1, 1) := by decide +kernel
theorem dX9_tellsAll_14 : decode cX9_tellsAll 14 = .ok (.iload_n 2, 1) := by decide +kernel
theorem dX9_tellsAll_15 : decode cX9_tellsAll 15 = .ok (.invokestatic 281, 3) := by decide +kernel
theorem dX9_tellsAll_18 : decode cX9_tellsAll 18 = .ok (.ifCond .eq 112, 3) := by decide +kernel
theorem dX9_tellsAll_21 : decode cX9_tellsAll 21 = .ok (.aload_n 0, 1) := by decide +kernel
theorem dX9_tellsAll_22 : decode cX9_tellsAll 22 = .ok (.getfield 21, 3) := by decide +kernel
theorem dX9_tellsAll_25 : decode cX9_tellsAll 25 = .ok (.bipush 7, 2) := by decide +kernel
theorem dX9_tellsAll_27 : decode cX9_tellsAll 27 = .ok (.iaload, 1) := by decide +kernel
theorem dX9_tellsAll_28 : decode cX9_tellsAll 28 = .ok (.iload_n 2, 1) := by decide +kernel
theorem dX9_tellsAll_29 : decode cX9_tellsAll 29 = .ok (.invokestatic 281, 3) := by decide +kernel
theorem dX9_tellsAll_32 : decode cX9_tellsAll 32 = .ok (.ifCond .eq 6, 3) := by decide +kernel
theorem dX9_tellsAll_35 : decode cX9_tellsAll 35 = .ok (.goto 95, 3) := by decide +kernel
theorem dX9_tellsAll_38 : decode cX9_tellsAll 38 = .ok (.aload_n 0, 1) := by decide +kernel
theorem dX9_tellsAll_39 : decode cX9_tellsAll 39 = .ok (.getfield 21, 3) := by decide +kernel
theorem dX9_tellsAll_42 : decode cX9_tellsAll 42 = .ok (.bipush 7, 2) := by decide +kernel
theorem dX9_tellsAll_44 : decode cX9_tellsAll 44 = .ok (.dup2, 1) := by decide +kernel
theorem dX9_tellsAll_45 : decode cX9_tellsAll 45 = .ok (.iaload, 1) := by decide +kernel
theorem dX9_tellsAll_46 : decode cX9_tellsAll 46 = .ok (.iconst 1, 1) := by decide +kernel
theorem dX9_tellsAll_47 : decode cX9_tellsAll 47 = .ok (.iload_n 2, 1) := by decide +kernel
theorem dX9_tellsAll_48 : decode cX9_tellsAll 48 = .ok (.ishl, 1) := by decide +kernel
theorem dX9_tellsAll_49 : decode cX9_tellsAll 49 = .ok (.ior, 1) := by decide +kernel
theorem dX9_tellsAll_50 : decode cX9_tellsAll 50 = .ok (.iastore, 1) := by decide +kernel
theorem dX9_tellsAll_51 : decode cX9_tellsAll 51 = .ok (.aload_n 0, 1) := by decide +kernel
theorem dX9_tellsAll_52 : decode cX9_tellsAll 52 = .ok (.getfield 316, 3) := by decide +kernel
theorem dX9_tellsAll_55 : decode cX9_tellsAll 55 = .ok (.getfield 268, 3) := by decide +kernel
theorem dX9_tellsAll_58 : decode cX9_tellsAll 58 = .ok (.iload_n 2, 1) := by decide +kernel
theorem dX9_tellsAll_59 : decode cX9_tellsAll 59 = .ok (.iaload, 1) := by decide +kernel
theorem dX9_tellsAll_60 : decode cX9_tellsAll 60 = .ok (.iconst 1, 1) := by decide +kernel
theorem dX9_tellsAll_61 : decode cX9_tellsAll 61 = .ok (.if_icmp .ne 11, 3) := by decide +kernel
theorem dX9_tellsAll_64 : decode cX9_tellsAll 64 = .ok (.aload_n 0, 1) := by decide +kernel
theorem dX9_tellsAll_65 : decode cX9_tellsAll 65 = .ok (.getfield 21, 3) := by decide +kernel
theorem dX9_tellsAll_68 : decode cX9_tellsAll 68 = .ok (.iload_n 2, 1) := by decide +kernel
theorem dX9_tellsAll_69 : decode cX9_tellsAll 69 = .ok (.bipush (-2), 2) := by decide +kernel
theorem dX9_tellsAll_71 : decode cX9_tellsAll 71 = .ok (.iastore, 1) := by decide +kernel
theorem dX9_tellsAll_72 : decode cX9_tellsAll 72 = .ok (.aload_n 0, 1) := by decide +kernel
theorem dX9_tellsAll_73 : decode cX9_tellsAll 73 = .ok (.getfield 316, 3) := by decide +kernel
theorem dX9_tellsAll_76 : decode cX9_tellsAll 76 = .ok (.getfield 268, 3) := by decide +kernel
theorem dX9_tellsAll_79 : decode cX9_tellsAll 79 = .ok (.iload_n 2, 1) := by decide +kernel
theorem dX9_tellsAll_80 : decode cX9_tellsAll 80 = .ok (.iaload, 1) := by decide +kernel
theorem dX9_tellsAll_81 : decode cX9_tellsAll 81 = .ok (.iconst 2, 1) := by decide +kernel
theorem dX9_tellsAll_82 : decode cX9_tellsAll 82 = .ok (.if_icmp .ne 16, 3) := by decide +kernel
theorem dX9_tellsAll_85 : decode cX9_tellsAll 85 = .ok (.aload_n 0, 1) := by decide +kernel
theorem dX9_tellsAll_86 : decode cX9_tellsAll 86 = .ok (.getfield 21, 3) := by decide +kernel
theorem dX9_tellsAll_89 : decode cX9_tellsAll 89 = .ok (.bipush 6, 2) := by decide +kernel
theorem dX9_tellsAll_91 : decode cX9_tellsAll 91 = .ok (.dup2, 1) := by decide +kernel
theorem dX9_tellsAll_92 : decode cX9_tellsAll 92 = .ok (.iaload, 1) := by decide +kernel
theorem dX9_tellsAll_93 : decode cX9_tellsAll 93 = .ok (.iconst 1, 1) := by decide +kernel
theorem dX9_tellsAll_94 : decode cX9_tellsAll 94 = .ok (.iload_n 2, 1) := by decide +kernel
theorem dX9_tellsAll_95 : decode cX9_tellsAll 95 = .ok (.ishl, 1) := by decide +kernel
theorem dX9_tellsAll_96 : decode cX9_tellsAll 96 = .ok (.ior, 1) := by decide +kernel
theorem dX9_tellsAll_97 : decode cX9_tellsAll 97 = .ok (.iastore, 1) := by decide +kernel
theorem dX9_tellsAll_98 : decode cX9_tellsAll 98 = .ok (.aload_n 0, 1) := by decide +kernel
theorem dX9_tellsAll_99 : decode cX9_tellsAll 99 = .ok (.getfield 316, 3) := by decide +kernel
theorem dX9_tellsAll_102 : decode cX9_tellsAll 102 = .ok (.getfield 268, 3) := by decide +kernel
theorem dX9_tellsAll_105 : decode cX9_tellsAll 105 = .ok (.iload_n 2, 1) := by decide +kernel
theorem dX9_tellsAll_106 : decode cX9_tellsAll 106 = .ok (.iaload, 1) := by decide +kernel
theorem dX9_tellsAll_107 : decode cX9_tellsAll 107 = .ok (.iconst 3, 1) := by decide +kernel
theorem dX9_tellsAll_108 : decode cX9_tellsAll 108 = .ok (.if_icmp .ne 22, 3) := by decide +kernel
theorem dX9_tellsAll_111 : decode cX9_tellsAll 111 = .ok (.aload_n 0, 1) := by decide +kernel
theorem dX9_tellsAll_112 : decode cX9_tellsAll 112 = .ok (.getfield 21, 3) := by decide +kernel
theorem dX9_tellsAll_115 : decode cX9_tellsAll 115 = .ok (.iload_n 2, 1) := by decide +kernel
theorem dX9_tellsAll_116 : decode cX9_tellsAll 116 = .ok (.iaload, 1) := by decide +kernel
theorem dX9_tellsAll_117 : decode cX9_tellsAll 117 = .ok (.ifCond .le 13, 3) := by decide +kernel
theorem dX9_tellsAll_120 : decode cX9_tellsAll 120 = .ok (.aload_n 0, 1) := by decide +kernel
theorem dX9_tellsAll_121 : decode cX9_tellsAll 121 = .ok (.getfield 21, 3) := by decide +kernel
theorem dX9_tellsAll_124 : decode cX9_tellsAll 124 = .ok (.iload_n 2, 1) := by decide +kernel
theorem dX9_tellsAll_125 : decode cX9_tellsAll 125 = .ok (.dup2, 1) := by decide +kernel
theorem dX9_tellsAll_126 : decode cX9_tellsAll 126 = .ok (.iaload, 1) := by decide +kernel
theorem dX9_tellsAll_127 : decode cX9_tellsAll 127 = .ok (.iconst 1, 1) := by decide +kernel
theorem dX9_tellsAll_128 : decode cX9_tellsAll 128 = .ok (.isub, 1) := by decide +kernel
theorem dX9_tellsAll_129 : decode cX9_tellsAll 129 = .ok (.iastore, 1) := by decide +kernel
theorem dX9_tellsAll_130 : decode cX9_tellsAll 130 = .ok (.iinc 2 1, 3) := by decide +kernel
theorem dX9_tellsAll_133 : decode cX9_tellsAll 133 = .ok (.goto (-131), 3) := by decide +kernel
theorem dX9_tellsAll_136 : decode cX9_tellsAll 136 = .ok (.aload_n 0, 1) := by decide +kernel
theorem dX9_tellsAll_137 : decode cX9_tellsAll 137 = .ok (.invokevirtual 339, 3) := by decide +kernel
theorem dX9_tellsAll_140 : decode cX9_tellsAll 140 = .ok (.return_, 1) := by decide +kernel
theorem dX9_bestCut_0 : decode cX9_bestCut 0 = .ok (.aload_n 0, 1) := by decide +kernel
theorem dX9_bestCut_1 : decode cX9_bestCut 1 = .ok (.iconst 0, 1) := by decide +kernel
theorem dX9_bestCut_2 : decode cX9_bestCut 2 = .ok (.putfield 52, 3) := by decide +kernel
theorem dX9_bestCut_5 : decode cX9_bestCut 5 = .ok (.aload_n 0, 1) := by decide +kernel
theorem dX9_bestCut_6 : decode cX9_bestCut 6 = .ok (.getfield 316, 3) := by decide +kernel
theorem dX9_bestCut_9 : decode cX9_bestCut 9 = .ok (.ifnonnull 9, 3) := by decide +kernel
theorem dX9_bestCut_12 : decode cX9_bestCut 12 = .ok (.aload_n 0, 1) := by decide +kernel
theorem dX9_bestCut_13 : decode cX9_bestCut 13 = .ok (.iconst 1, 1) := by decide +kernel
theorem dX9_bestCut_14 : decode cX9_bestCut 14 = .ok (.invokevirtual 58, 3) := by decide +kernel
theorem dX9_bestCut_17 : decode cX9_bestCut 17 = .ok (.ireturn, 1) := by decide +kernel
theorem dX9_bestCut_18 : decode cX9_bestCut 18 = .ok (.aload_n 0, 1) := by decide +kernel
theorem dX9_bestCut_19 : decode cX9_bestCut 19 = .ok (.invokevirtual 348, 3) := by decide +kernel
theorem dX9_bestCut_22 : decode cX9_bestCut 22 = .ok (.aload_n 0, 1) := by decide +kernel
theorem dX9_bestCut_23 : decode cX9_bestCut 23 = .ok (.invokevirtual 376, 3) := by decide +kernel
theorem dX9_bestCut_26 : decode cX9_bestCut 26 = .ok (.istore_n 1, 1) := by decide +kernel
theorem dX9_bestCut_27 : decode cX9_bestCut 27 = .ok (.bipush (-2), 2) := by decide +kernel
theorem dX9_bestCut_29 : decode cX9_bestCut 29 = .ok (.istore_n 2, 1) := by decide +kernel
theorem dX9_bestCut_30 : decode cX9_bestCut 30 = .ok (.iconst 0, 1) := by decide +kernel
theorem dX9_bestCut_31 : decode cX9_bestCut 31 = .ok (.istore_n 3, 1) := by decide +kernel
theorem dX9_bestCut_32 : decode cX9_bestCut 32 = .ok (.iload_n 3, 1) := by decide +kernel
theorem dX9_bestCut_33 : decode cX9_bestCut 33 = .ok (.aload_n 0, 1) := by decide +kernel
theorem dX9_bestCut_34 : decode cX9_bestCut 34 = .ok (.getfield 316, 3) := by decide +kernel
theorem dX9_bestCut_37 : decode cX9_bestCut 37 = .ok (.getfield 248, 3) := by decide +kernel
theorem dX9_bestCut_40 : decode cX9_bestCut 40 = .ok (.if_icmp .ge 33, 3) := by decide +kernel
theorem dX9_bestCut_43 : decode cX9_bestCut 43 = .ok (.aload_n 0, 1) := by decide +kernel
theorem dX9_bestCut_44 : decode cX9_bestCut 44 = .ok (.iload_n 3, 1) := by decide +kernel
theorem dX9_bestCut_45 : decode cX9_bestCut 45 = .ok (.putfield 33, 3) := by decide +kernel
theorem dX9_bestCut_48 : decode cX9_bestCut 48 = .ok (.aload_n 0, 1) := by decide +kernel
theorem dX9_bestCut_49 : decode cX9_bestCut 49 = .ok (.invokevirtual 348, 3) := by decide +kernel
theorem dX9_bestCut_52 : decode cX9_bestCut 52 = .ok (.aload_n 0, 1) := by decide +kernel
theorem dX9_bestCut_53 : decode cX9_bestCut 53 = .ok (.invokevirtual 376, 3) := by decide +kernel
theorem dX9_bestCut_56 : decode cX9_bestCut 56 = .ok (.iload_n 1, 1) := by decide +kernel
theorem dX9_bestCut_57 : decode cX9_bestCut 57 = .ok (.if_icmp .ge 10, 3) := by decide +kernel
theorem dX9_bestCut_60 : decode cX9_bestCut 60 = .ok (.aload_n 0, 1) := by decide +kernel
theorem dX9_bestCut_61 : decode cX9_bestCut 61 = .ok (.invokevirtual 376, 3) := by decide +kernel
theorem dX9_bestCut_64 : decode cX9_bestCut 64 = .ok (.istore_n 1, 1) := by decide +kernel
theorem dX9_bestCut_65 : decode cX9_bestCut 65 = .ok (.iload_n 3, 1) := by decide +kernel
theorem dX9_bestCut_66 : decode cX9_bestCut 66 = .ok (.istore_n 2, 1) := by decide +kernel
theorem dX9_bestCut_67 : decode cX9_bestCut 67 = .ok (.iinc 3 1, 3) := by decide +kernel
theorem dX9_bestCut_70 : decode cX9_bestCut 70 = .ok (.goto (-38), 3) := by decide +kernel
theorem dX9_bestCut_73 : decode cX9_bestCut 73 = .ok (.aload_n 0, 1) := by decide +kernel
theorem dX9_bestCut_74 : decode cX9_bestCut 74 = .ok (.iconst (-1), 1) := by decide +kernel
theorem dX9_bestCut_75 : decode cX9_bestCut 75 = .ok (.putfield 33, 3) := by decide +kernel
theorem dX9_bestCut_78 : decode cX9_bestCut 78 = .ok (.aload_n 0, 1) := by decide +kernel
theorem dX9_bestCut_79 : decode cX9_bestCut 79 = .ok (.iload_n 2, 1) := by decide +kernel
theorem dX9_bestCut_80 : decode cX9_bestCut 80 = .ok (.invokevirtual 62, 3) := by decide +kernel
theorem dX9_bestCut_83 : decode cX9_bestCut 83 = .ok (.ireturn, 1) := by decide +kernel
theorem dX9_fitCodes_0 : decode cX9_fitCodes 0 = .ok (.iconst 1, 1) := by decide +kernel
theorem dX9_fitCodes_1 : decode cX9_fitCodes 1 = .ok (.istore_n 1, 1) := by decide +kernel
theorem dX9_fitCodes_2 : decode cX9_fitCodes 2 = .ok (.iconst 0, 1) := by decide +kernel
theorem dX9_fitCodes_3 : decode cX9_fitCodes 3 = .ok (.istore_n 2, 1) := by decide +kernel
theorem dX9_fitCodes_4 : decode cX9_fitCodes 4 = .ok (.iload_n 2, 1) := by decide +kernel
theorem dX9_fitCodes_5 : decode cX9_fitCodes 5 = .ok (.aload_n 0, 1) := by decide +kernel
theorem dX9_fitCodes_6 : decode cX9_fitCodes 6 = .ok (.getfield 316, 3) := by decide +kernel
theorem dX9_fitCodes_9 : decode cX9_fitCodes 9 = .ok (.getfield 292, 3) := by decide +kernel
theorem dX9_fitCodes_12 : decode cX9_fitCodes 12 = .ok (.if_icmp .ge 14, 3) := by decide +kernel
theorem dX9_fitCodes_15 : decode cX9_fitCodes 15 = .ok (.iload_n 1, 1) := by decide +kernel
theorem dX9_fitCodes_16 : decode cX9_fitCodes 16 = .ok (.bipush 11, 2) := by decide +kernel
theorem dX9_fitCodes_18 : decode cX9_fitCodes 18 = .ok (.imul, 1) := by decide +kernel
theorem dX9_fitCodes_19 : decode cX9_fitCodes 19 = .ok (.istore_n 1, 1) := by decide +kernel
theorem dX9_fitCodes_20 : decode cX9_fitCodes 20 = .ok (.iinc 2 1, 3) := by decide +kernel
theorem dX9_fitCodes_23 : decode cX9_fitCodes 23 = .ok (.goto (-19), 3) := by decide +kernel
theorem dX9_fitCodes_26 : decode cX9_fitCodes 26 = .ok (.iload_n 1, 1) := by decide +kernel
theorem dX9_fitCodes_27 : decode cX9_fitCodes 27 = .ok (.ireturn, 1) := by decide +kernel
theorem dX9_fitDay_0 : decode cX9_fitDay 0 = .ok (.iload_n 1, 1) := by decide +kernel
theorem dX9_fitDay_1 : decode cX9_fitDay 1 = .ok (.istore_n 3, 1) := by decide +kernel
theorem dX9_fitDay_2 : decode cX9_fitDay 2 = .ok (.aload_n 0, 1) := by decide +kernel
theorem dX9_fitDay_3 : decode cX9_fitDay 3 = .ok (.getfield 316, 3) := by decide +kernel
theorem dX9_fitDay_6 : decode cX9_fitDay 6 = .ok (.getfield 292, 3) := by decide +kernel
theorem dX9_fitDay_9 : decode cX9_fitDay 9 = .ok (.iconst 1, 1) := by decide +kernel
theorem dX9_fitDay_10 : decode cX9_fitDay 10 = .ok (.isub, 1) := by decide +kernel
theorem dX9_fitDay_11 : decode cX9_fitDay 11 = .ok (.istore 4, 2) := by decide +kernel
theorem dX9_fitDay_13 : decode cX9_fitDay 13 = .ok (.iload 4, 2) := by decide +kernel
theorem dX9_fitDay_15 : decode cX9_fitDay 15 = .ok (.iload_n 2, 1) := by decide +kernel
theorem dX9_fitDay_16 : decode cX9_fitDay 16 = .ok (.if_icmp .le 14, 3) := by decide +kernel
theorem dX9_fitDay_19 : decode cX9_fitDay 19 = .ok (.iload_n 3, 1) := by decide +kernel
theorem dX9_fitDay_20 : decode cX9_fitDay 20 = .ok (.bipush 11, 2) := by decide +kernel
theorem dX9_fitDay_22 : decode cX9_fitDay 22 = .ok (.idiv, 1) := by decide +kernel
theorem dX9_fitDay_23 : decode cX9_fitDay 23 = .ok (.istore_n 3, 1) := by decide +kernel
theorem dX9_fitDay_24 : decode cX9_fitDay 24 = .ok (.iinc 4 (-1), 3) := by decide +kernel
theorem dX9_fitDay_27 : decode cX9_fitDay 27 = .ok (.goto (-14), 3) := by decide +kernel
theorem dX9_fitDay_30 : decode cX9_fitDay 30 = .ok (.iload_n 3, 1) := by decide +kernel
theorem dX9_fitDay_31 : decode cX9_fitDay 31 = .ok (.bipush 11, 2) := by decide +kernel
theorem dX9_fitDay_33 : decode cX9_fitDay 33 = .ok (.irem, 1) := by decide +kernel
theorem dX9_fitDay_34 : decode cX9_fitDay 34 = .ok (.bipush 10, 2) := by decide +kernel
theorem dX9_fitDay_36 : decode cX9_fitDay 36 = .ok (.if_icmp .ne 8, 3) := by decide +kernel
theorem dX9_fitDay_39 : decode cX9_fitDay 39 = .ok (.bipush (-2), 2) := by decide +kernel
theorem dX9_fitDay_41 : decode cX9_fitDay 41 = .ok (.goto 7, 3) := by decide +kernel
theorem dX9_fitDay_44 : decode cX9_fitDay 44 = .ok (.iload_n 3, 1) := by decide +kernel
theorem dX9_fitDay_45 : decode cX9_fitDay 45 = .ok (.bipush 11, 2) := by decide +kernel
theorem dX9_fitDay_47 : decode cX9_fitDay 47 = .ok (.irem, 1) := by decide +kernel
theorem dX9_fitDay_48 : decode cX9_fitDay 48 = .ok (.ireturn, 1) := by decide +kernel
theorem dX9_wrong_0 : decode cX9_wrong 0 = .ok (.aload_n 0, 1) := by decide +kernel
theorem dX9_wrong_1 : decode cX9_wrong 1 = .ok (.invokevirtual 339, 3) := by decide +kernel
theorem dX9_wrong_4 : decode cX9_wrong 4 = .ok (.iconst 0, 1) := by decide +kernel
theorem dX9_wrong_5 : decode cX9_wrong 5 = .ok (.istore_n 1, 1) := by decide +kernel
theorem dX9_wrong_6 : decode cX9_wrong 6 = .ok (.iload_n 1, 1) := by decide +kernel
theorem dX9_wrong_7 : decode cX9_wrong 7 = .ok (.aload_n 0, 1) := by decide +kernel
theorem dX9_wrong_8 : decode cX9_wrong 8 = .ok (.getfield 316, 3) := by decide +kernel
theorem dX9_wrong_11 : decode cX9_wrong 11 = .ok (.getfield 300, 3) := by decide +kernel
theorem dX9_wrong_14 : decode cX9_wrong 14 = .ok (.if_icmp .ge 36, 3) := by decide +kernel
theorem dX9_wrong_17 : decode cX9_wrong 17 = .ok (.aload_n 0, 1) := by decide +kernel
theorem dX9_wrong_18 : decode cX9_wrong 18 = .ok (.aload_n 0, 1) := by decide +kernel
theorem dX9_wrong_19 : decode cX9_wrong 19 = .ok (.getfield 316, 3) := by decide +kernel
theorem dX9_wrong_22 : decode cX9_wrong 22 = .ok (.getfield 303, 3) := by decide +kernel
theorem dX9_wrong_25 : decode cX9_wrong 25 = .ok (.iload_n 1, 1) := by decide +kernel
theorem dX9_wrong_26 : decode cX9_wrong 26 = .ok (.iaload, 1) := by decide +kernel
theorem dX9_wrong_27 : decode cX9_wrong 27 = .ok (.invokevirtual 358, 3) := by decide +kernel
theorem dX9_wrong_30 : decode cX9_wrong 30 = .ok (.aload_n 0, 1) := by decide +kernel
theorem dX9_wrong_31 : decode cX9_wrong 31 = .ok (.getfield 316, 3) := by decide +kernel
theorem dX9_wrong_34 : decode cX9_wrong 34 = .ok (.getfield 306, 3) := by decide +kernel
theorem dX9_wrong_37 : decode cX9_wrong 37 = .ok (.iload_n 1, 1) := by decide +kernel
theorem dX9_wrong_38 : decode cX9_wrong 38 = .ok (.iaload, 1) := by decide +kernel
theorem dX9_wrong_39 : decode cX9_wrong 39 = .ok (.if_icmp .eq 5, 3) := by decide +kernel
theorem dX9_wrong_42 : decode cX9_wrong 42 = .ok (.iload_n 1, 1) := by decide +kernel
theorem dX9_wrong_43 : decode cX9_wrong 43 = .ok (.ireturn, 1) := by decide +kernel
theorem dX9_wrong_44 : decode cX9_wrong 44 = .ok (.iinc 1 1, 3) := by decide +kernel
theorem dX9_wrong_47 : decode cX9_wrong 47 = .ok (.goto (-41), 3) := by decide +kernel
theorem dX9_wrong_50 : decode cX9_wrong 50 = .ok (.bipush (-2), 2) := by decide +kernel
theorem dX9_wrong_52 : decode cX9_wrong 52 = .ok (.ireturn, 1) := by decide +kernel
theorem dX9_fitting_0 : decode cX9_fitting 0 = .ok (.aload_n 0, 1) := by decide +kernel
theorem dX9_fitting_1 : decode cX9_fitting 1 = .ok (.iconst 0, 1) := by decide +kernel
theorem dX9_fitting_2 : decode cX9_fitting 2 = .ok (.putfield 394, 3) := by decide +kernel
theorem dX9_fitting_5 : decode cX9_fitting 5 = .ok (.aload_n 0, 1) := by decide +kernel
theorem dX9_fitting_6 : decode cX9_fitting 6 = .ok (.iconst (-1), 1) := by decide +kernel
theorem dX9_fitting_7 : decode cX9_fitting 7 = .ok (.putfield 397, 3) := by decide +kernel
theorem dX9_fitting_10 : decode cX9_fitting 10 = .ok (.iconst 0, 1) := by decide +kernel
theorem dX9_fitting_11 : decode cX9_fitting 11 = .ok (.istore_n 2, 1) := by decide +kernel
theorem dX9_fitting_12 : decode cX9_fitting 12 = .ok (.iload_n 2, 1) := by decide +kernel
theorem dX9_fitting_13 : decode cX9_fitting 13 = .ok (.sipush 637, 3) := by decide +kernel
theorem dX9_fitting_16 : decode cX9_fitting 16 = .ok (.if_icmp .ge 16, 3) := by decide +kernel
theorem dX9_fitting_19 : decode cX9_fitting 19 = .ok (.aload_n 0, 1) := by decide +kernel
theorem dX9_fitting_20 : decode cX9_fitting 20 = .ok (.getfield 42, 3) := by decide +kernel
theorem dX9_fitting_23 : decode cX9_fitting 23 = .ok (.iload_n 2, 1) := by decide +kernel
theorem dX9_fitting_24 : decode cX9_fitting 24 = .ok (.iconst 0, 1) := by decide +kernel
theorem dX9_fitting_25 : decode cX9_fitting 25 = .ok (.iastore, 1) := by decide +kernel
theorem dX9_fitting_26 : decode cX9_fitting 26 = .ok (.iinc 2 1, 3) := by decide +kernel
theorem dX9_fitting_29 : decode cX9_fitting 29 = .ok (.goto (-17), 3) := by decide +kernel
theorem dX9_fitting_32 : decode cX9_fitting 32 = .ok (.iconst 0, 1) := by decide +kernel
theorem dX9_fitting_33 : decode cX9_fitting 33 = .ok (.istore_n 2, 1) := by decide +kernel
theorem dX9_fitting_34 : decode cX9_fitting 34 = .ok (.iload_n 2, 1) := by decide +kernel
theorem dX9_fitting_35 : decode cX9_fitting 35 = .ok (.aload_n 0, 1) := by decide +kernel
theorem dX9_fitting_36 : decode cX9_fitting 36 = .ok (.invokevirtual 400, 3) := by decide +kernel
theorem dX9_fitting_39 : decode cX9_fitting 39 = .ok (.if_icmp .ge 136, 3) := by decide +kernel
theorem dX9_fitting_42 : decode cX9_fitting 42 = .ok (.aload_n 0, 1) := by decide +kernel
theorem dX9_fitting_43 : decode cX9_fitting 43 = .ok (.invokevirtual 318, 3) := by decide +kernel
theorem dX9_fitting_46 : decode cX9_fitting 46 = .ok (.iconst 0, 1) := by decide +kernel
theorem dX9_fitting_47 : decode cX9_fitting 47 = .ok (.istore_n 3, 1) := by decide +kernel
theorem dX9_fitting_48 : decode cX9_fitting 48 = .ok (.iload_n 3, 1) := by decide +kernel
theorem dX9_fitting_49 : decode cX9_fitting 49 = .ok (.aload_n 0, 1) := by decide +kernel
theorem dX9_fitting_50 : decode cX9_fitting 50 = .ok (.getfield 316, 3) := by decide +kernel
theorem dX9_fitting_53 : decode cX9_fitting 53 = .ok (.getfield 292, 3) := by decide +kernel
theorem dX9_fitting_56 : decode cX9_fitting 56 = .ok (.if_icmp .ge 29, 3) := by decide +kernel
theorem dX9_fitting_59 : decode cX9_fitting 59 = .ok (.aload_n 0, 1) := by decide +kernel
theorem dX9_fitting_60 : decode cX9_fitting 60 = .ok (.getfield 21, 3) := by decide +kernel
theorem dX9_fitting_63 : decode cX9_fitting 63 = .ok (.aload_n 0, 1) := by decide +kernel
theorem dX9_fitting_64 : decode cX9_fitting 64 = .ok (.getfield 316, 3) := by decide +kernel
theorem dX9_fitting_67 : decode cX9_fitting 67 = .ok (.getfield 298, 3) := by decide +kernel
theorem dX9_fitting_70 : decode cX9_fitting 70 = .ok (.iload_n 3, 1) := by decide +kernel
theorem dX9_fitting_71 : decode cX9_fitting 71 = .ok (.iaload, 1) := by decide +kernel
theorem dX9_fitting_72 : decode cX9_fitting 72 = .ok (.aload_n 0, 1) := by decide +kernel
theorem dX9_fitting_73 : decode cX9_fitting 73 = .ok (.iload_n 2, 1) := by decide +kernel
theorem dX9_fitting_74 : decode cX9_fitting 74 = .ok (.iload_n 3, 1) := by decide +kernel
theorem dX9_fitting_75 : decode cX9_fitting 75 = .ok (.invokevirtual 403, 3) := by decide +kernel
theorem dX9_fitting_78 : decode cX9_fitting 78 = .ok (.iastore, 1) := by decide +kernel
theorem dX9_fitting_79 : decode cX9_fitting 79 = .ok (.iinc 3 1, 3) := by decide +kernel
theorem dX9_fitting_82 : decode cX9_fitting 82 = .ok (.goto (-34), 3) := by decide +kernel
theorem dX9_fitting_85 : decode cX9_fitting 85 = .ok (.aload_n 0, 1) := by decide +kernel
theorem dX9_fitting_86 : decode cX9_fitting 86 = .ok (.invokevirtual 406, 3) := by decide +kernel
theorem dX9_fitting_89 : decode cX9_fitting 89 = .ok (.bipush (-2), 2) := by decide +kernel
theorem dX9_fitting_91 : decode cX9_fitting 91 = .ok (.if_icmp .eq 6, 3) := by decide +kernel
theorem dX9_fitting_94 : decode cX9_fitting 94 = .ok (.goto 75, 3) := by decide +kernel
theorem dX9_fitting_97 : decode cX9_fitting 97 = .ok (.aload_n 0, 1) := by decide +kernel
theorem dX9_fitting_98 : decode cX9_fitting 98 = .ok (.getfield 394, 3) := by decide +kernel
theorem dX9_fitting_101 : decode cX9_fitting 101 = .ok (.iload_n 1, 1) := by decide +kernel
theorem dX9_fitting_102 : decode cX9_fitting 102 = .ok (.if_icmp .ne 8, 3) := by decide +kernel
theorem dX9_fitting_105 : decode cX9_fitting 105 = .ok (.aload_n 0, 1) := by decide +kernel
theorem dX9_fitting_106 : decode cX9_fitting 106 = .ok (.iload_n 2, 1) := by decide +kernel
theorem dX9_fitting_107 : decode cX9_fitting 107 = .ok (.putfield 397, 3) := by decide +kernel
theorem dX9_fitting_110 : decode cX9_fitting 110 = .ok (.aload_n 0, 1) := by decide +kernel
theorem dX9_fitting_111 : decode cX9_fitting 111 = .ok (.dup, 1) := by decide +kernel
theorem dX9_fitting_112 : decode cX9_fitting 112 = .ok (.getfield 394, 3) := by decide +kernel
theorem dX9_fitting_115 : decode cX9_fitting 115 = .ok (.iconst 1, 1) := by decide +kernel
theorem dX9_fitting_116 : decode cX9_fitting 116 = .ok (.iadd, 1) := by decide +kernel
theorem dX9_fitting_117 : decode cX9_fitting 117 = .ok (.putfield 394, 3) := by decide +kernel
theorem dX9_fitting_120 : decode cX9_fitting 120 = .ok (.iconst 0, 1) := by decide +kernel
theorem dX9_fitting_121 : decode cX9_fitting 121 = .ok (.istore_n 3, 1) := by decide +kernel
theorem dX9_fitting_122 : decode cX9_fitting 122 = .ok (.iload_n 3, 1) := by decide +kernel
theorem dX9_fitting_123 : decode cX9_fitting 123 = .ok (.bipush 90, 2) := by decide +kernel
theorem dX9_fitting_125 : decode cX9_fitting 125 = .ok (.if_icmp .gt 44, 3) := by decide +kernel
theorem dX9_fitting_128 : decode cX9_fitting 128 = .ok (.aload_n 0, 1) := by decide +kernel
theorem dX9_fitting_129 : decode cX9_fitting 129 = .ok (.iload_n 3, 1) := by decide +kernel
theorem dX9_fitting_130 : decode cX9_fitting 130 = .ok (.invokevirtual 358, 3) := by decide +kernel
theorem dX9_fitting_133 : decode cX9_fitting 133 = .ok (.istore 4, 2) := by decide +kernel
theorem dX9_fitting_135 : decode cX9_fitting 135 = .ok (.aload_n 0, 1) := by decide +kernel
theorem dX9_fitting_136 : decode cX9_fitting 136 = .ok (.getfield 42, 3) := by decide +kernel
theorem dX9_fitting_139 : decode cX9_fitting 139 = .ok (.bipush 7, 2) := by decide +kernel
theorem dX9_fitting_141 : decode cX9_fitting 141 = .ok (.iload_n 3, 1) := by decide +kernel
theorem dX9_fitting_142 : decode cX9_fitting 142 = .ok (.imul, 1) := by decide +kernel
theorem dX9_fitting_143 : decode cX9_fitting 143 = .ok (.iload 4, 2) := by decide +kernel
theorem dX9_fitting_145 : decode cX9_fitting 145 = .ok (.bipush (-2), 2) := by decide +kernel
theorem dX9_fitting_147 : decode cX9_fitting 147 = .ok (.if_icmp .ne 8, 3) := by decide +kernel
theorem dX9_fitting_150 : decode cX9_fitting 150 = .ok (.bipush 6, 2) := by decide +kernel
theorem dX9_fitting_152 : decode cX9_fitting 152 = .ok (.goto 5, 3) := by decide +kernel
theorem dX9_fitting_155 : decode cX9_fitting 155 = .ok (.iload 4, 2) := by decide +kernel
theorem dX9_fitting_157 : decode cX9_fitting 157 = .ok (.iadd, 1) := by decide +kernel
theorem dX9_fitting_158 : decode cX9_fitting 158 = .ok (.dup2, 1) := by decide +kernel
theorem dX9_fitting_159 : decode cX9_fitting 159 = .ok (.iaload, 1) := by decide +kernel
theorem dX9_fitting_160 : decode cX9_fitting 160 = .ok (.iconst 1, 1) := by decide +kernel
theorem dX9_fitting_161 : decode cX9_fitting 161 = .ok (.iadd, 1) := by decide +kernel
theorem dX9_fitting_162 : decode cX9_fitting 162 = .ok (.iastore, 1) := by decide +kernel
theorem dX9_fitting_163 : decode cX9_fitting 163 = .ok (.iinc 3 1, 3) := by decide +kernel
theorem dX9_fitting_166 : decode cX9_fitting 166 = .ok (.goto (-44), 3) := by decide +kernel
theorem dX9_fitting_169 : decode cX9_fitting 169 = .ok (.iinc 2 1, 3) := by decide +kernel
theorem dX9_fitting_172 : decode cX9_fitting 172 = .ok (.goto (-138), 3) := by decide +kernel
theorem dX9_fitting_175 : decode cX9_fitting 175 = .ok (.return_, 1) := by decide +kernel
theorem dX9_fits_0 : decode cX9_fits 0 = .ok (.aload_n 0, 1) := by decide +kernel
theorem dX9_fits_1 : decode cX9_fits 1 = .ok (.iconst 0, 1) := by decide +kernel
theorem dX9_fits_2 : decode cX9_fits 2 = .ok (.putfield 52, 3) := by decide +kernel
theorem dX9_fits_5 : decode cX9_fits 5 = .ok (.aload_n 0, 1) := by decide +kernel
theorem dX9_fits_6 : decode cX9_fits 6 = .ok (.getfield 316, 3) := by decide +kernel
theorem dX9_fits_9 : decode cX9_fits 9 = .ok (.ifnonnull 9, 3) := by decide +kernel
theorem dX9_fits_12 : decode cX9_fits 12 = .ok (.aload_n 0, 1) := by decide +kernel
theorem dX9_fits_13 : decode cX9_fits 13 = .ok (.iconst 1, 1) := by decide +kernel
theorem dX9_fits_14 : decode cX9_fits 14 = .ok (.invokevirtual 58, 3) := by decide +kernel
theorem dX9_fits_17 : decode cX9_fits 17 = .ok (.ireturn, 1) := by decide +kernel
theorem dX9_fits_18 : decode cX9_fits 18 = .ok (.aload_n 0, 1) := by decide +kernel
theorem dX9_fits_19 : decode cX9_fits 19 = .ok (.iconst (-1), 1) := by decide +kernel
theorem dX9_fits_20 : decode cX9_fits 20 = .ok (.invokevirtual 409, 3) := by decide +kernel
theorem dX9_fits_23 : decode cX9_fits 23 = .ok (.aload_n 0, 1) := by decide +kernel
theorem dX9_fits_24 : decode cX9_fits 24 = .ok (.aload_n 0, 1) := by decide +kernel
theorem dX9_fits_25 : decode cX9_fits 25 = .ok (.getfield 394, 3) := by decide +kernel
theorem dX9_fits_28 : decode cX9_fits 28 = .ok (.invokevirtual 62, 3) := by decide +kernel
theorem dX9_fits_31 : decode cX9_fits 31 = .ok (.ireturn, 1) := by decide +kernel
theorem dX9_fitAt_0 : decode cX9_fitAt 0 = .ok (.aload_n 0, 1) := by decide +kernel
theorem dX9_fitAt_1 : decode cX9_fitAt 1 = .ok (.iconst 0, 1) := by decide +kernel
theorem dX9_fitAt_2 : decode cX9_fitAt 2 = .ok (.putfield 52, 3) := by decide +kernel
theorem dX9_fitAt_5 : decode cX9_fitAt 5 = .ok (.aload_n 0, 1) := by decide +kernel
theorem dX9_fitAt_6 : decode cX9_fitAt 6 = .ok (.getfield 316, 3) := by decide +kernel
theorem dX9_fitAt_9 : decode cX9_fitAt 9 = .ok (.ifnull 22, 3) := by decide +kernel
theorem dX9_fitAt_12 : decode cX9_fitAt 12 = .ok (.iload_n 1, 1) := by decide +kernel
theorem dX9_fitAt_13 : decode cX9_fitAt 13 = .ok (.ifCond .lt 18, 3) := by decide +kernel
theorem dX9_fitAt_16 : decode cX9_fitAt 16 = .ok (.iload_n 2, 1) := by decide +kernel
theorem dX9_fitAt_17 : decode cX9_fitAt 17 = .ok (.ifCond .lt 14, 3) := by decide +kernel
theorem dX9_fitAt_20 : decode cX9_fitAt 20 = .ok (.iload_n 2, 1) := by decide +kernel
theorem dX9_fitAt_21 : decode cX9_fitAt 21 = .ok (.aload_n 0, 1) := by decide +kernel
theorem dX9_fitAt_22 : decode cX9_fitAt 22 = .ok (.getfield 316, 3) := by decide +kernel
theorem dX9_fitAt_25 : decode cX9_fitAt 25 = .ok (.getfield 292, 3) := by decide +kernel
theorem dX9_fitAt_28 : decode cX9_fitAt 28 = .ok (.if_icmp .lt 9, 3) := by decide +kernel
theorem dX9_fitAt_31 : decode cX9_fitAt 31 = .ok (.aload_n 0, 1) := by decide +kernel
theorem dX9_fitAt_32 : decode cX9_fitAt 32 = .ok (.iconst 1, 1) := by decide +kernel
theorem dX9_fitAt_33 : decode cX9_fitAt 33 = .ok (.invokevirtual 58, 3) := by decide +kernel
theorem dX9_fitAt_36 : decode cX9_fitAt 36 = .ok (.ireturn, 1) := by decide +kernel
theorem dX9_fitAt_37 : decode cX9_fitAt 37 = .ok (.aload_n 0, 1) := by decide +kernel
theorem dX9_fitAt_38 : decode cX9_fitAt 38 = .ok (.iload_n 1, 1) := by decide +kernel
theorem dX9_fitAt_39 : decode cX9_fitAt 39 = .ok (.invokevirtual 409, 3) := by decide +kernel
theorem dX9_fitAt_42 : decode cX9_fitAt 42 = .ok (.aload_n 0, 1) := by decide +kernel
theorem dX9_fitAt_43 : decode cX9_fitAt 43 = .ok (.getfield 397, 3) := by decide +kernel
theorem dX9_fitAt_46 : decode cX9_fitAt 46 = .ok (.iconst (-1), 1) := by decide +kernel
theorem dX9_fitAt_47 : decode cX9_fitAt 47 = .ok (.if_icmp .ne 11, 3) := by decide +kernel
theorem dX9_fitAt_50 : decode cX9_fitAt 50 = .ok (.aload_n 0, 1) := by decide +kernel
theorem dX9_fitAt_51 : decode cX9_fitAt 51 = .ok (.iconst 1, 1) := by decide +kernel
theorem dX9_fitAt_52 : decode cX9_fitAt 52 = .ok (.invokevirtual 58, 3) := by decide +kernel
theorem dX9_fitAt_55 : decode cX9_fitAt 55 = .ok (.goto 16, 3) := by decide +kernel
theorem dX9_fitAt_58 : decode cX9_fitAt 58 = .ok (.aload_n 0, 1) := by decide +kernel
theorem dX9_fitAt_59 : decode cX9_fitAt 59 = .ok (.aload_n 0, 1) := by decide +kernel
theorem dX9_fitAt_60 : decode cX9_fitAt 60 = .ok (.aload_n 0, 1) := by decide +kernel
theorem dX9_fitAt_61 : decode cX9_fitAt 61 = .ok (.getfield 397, 3) := by decide +kernel
theorem dX9_fitAt_64 : decode cX9_fitAt 64 = .ok (.iload_n 2, 1) := by decide +kernel
theorem dX9_fitAt_65 : decode cX9_fitAt 65 = .ok (.invokevirtual 403, 3) := by decide +kernel
theorem dX9_fitAt_68 : decode cX9_fitAt 68 = .ok (.invokevirtual 62, 3) := by decide +kernel
theorem dX9_fitAt_71 : decode cX9_fitAt 71 = .ok (.ireturn, 1) := by decide +kernel
theorem dX9_nextBy_0 : decode cX9_nextBy 0 = .ok (.aload_n 0, 1) := by decide +kernel
theorem dX9_nextBy_1 : decode cX9_nextBy 1 = .ok (.iconst 0, 1) := by decide +kernel
theorem dX9_nextBy_2 : decode cX9_nextBy 2 = .ok (.putfield 52, 3) := by decide +kernel
theorem dX9_nextBy_5 : decode cX9_nextBy 5 = .ok (.aload_n 0, 1) := by decide +kernel
theorem dX9_nextBy_6 : decode cX9_nextBy 6 = .ok (.aload_n 0, 1) := by decide +kernel
theorem dX9_nextBy_7 : decode cX9_nextBy 7 = .ok (.iload_n 1, 1) := by decide +kernel
theorem dX9_nextBy_8 : decode cX9_nextBy 8 = .ok (.invokevirtual 345, 3) := by decide +kernel
theorem dX9_nextBy_11 : decode cX9_nextBy 11 = .ok (.iload_n 2, 1) := by decide +kernel
theorem dX9_nextBy_12 : decode cX9_nextBy 12 = .ok (.iconst 0, 1) := by decide +kernel
theorem dX9_nextBy_13 : decode cX9_nextBy 13 = .ok (.invokevirtual 354, 3) := by decide +kernel
theorem dX9_nextBy_16 : decode cX9_nextBy 16 = .ok (.istore_n 3, 1) := by decide +kernel
theorem dX9_nextBy_17 : decode cX9_nextBy 17 = .ok (.iload_n 3, 1) := by decide +kernel
theorem dX9_nextBy_18 : decode cX9_nextBy 18 = .ok (.ifCond .le 9, 3) := by decide +kernel
theorem dX9_nextBy_21 : decode cX9_nextBy 21 = .ok (.aload_n 0, 1) := by decide +kernel
theorem dX9_nextBy_22 : decode cX9_nextBy 22 = .ok (.iload_n 3, 1) := by decide +kernel
theorem dX9_nextBy_23 : decode cX9_nextBy 23 = .ok (.invokevirtual 58, 3) := by decide +kernel
theorem dX9_nextBy_26 : decode cX9_nextBy 26 = .ok (.ireturn, 1) := by decide +kernel
theorem dX9_nextBy_27 : decode cX9_nextBy 27 = .ok (.aload_n 0, 1) := by decide +kernel
theorem dX9_nextBy_28 : decode cX9_nextBy 28 = .ok (.iconst (-1), 1) := by decide +kernel
theorem dX9_nextBy_29 : decode cX9_nextBy 29 = .ok (.invokevirtual 409, 3) := by decide +kernel
theorem dX9_nextBy_32 : decode cX9_nextBy 32 = .ok (.aload_n 0, 1) := by decide +kernel
theorem dX9_nextBy_33 : decode cX9_nextBy 33 = .ok (.aload_n 0, 1) := by decide +kernel
theorem dX9_nextBy_34 : decode cX9_nextBy 34 = .ok (.getfield 42, 3) := by decide +kernel
theorem dX9_nextBy_37 : decode cX9_nextBy 37 = .ok (.bipush 7, 2) := by decide +kernel
theorem dX9_nextBy_39 : decode cX9_nextBy 39 = .ok (.iload_n 2, 1) := by decide +kernel
theorem dX9_nextBy_40 : decode cX9_nextBy 40 = .ok (.imul, 1) := by decide +kernel
theorem dX9_nextBy_41 : decode cX9_nextBy 41 = .ok (.iload_n 1, 1) := by decide +kernel
theorem dX9_nextBy_42 : decode cX9_nextBy 42 = .ok (.iadd, 1) := by decide +kernel
theorem dX9_nextBy_43 : decode cX9_nextBy 43 = .ok (.iaload, 1) := by decide +kernel
theorem dX9_nextBy_44 : decode cX9_nextBy 44 = .ok (.invokevirtual 62, 3) := by decide +kernel
theorem dX9_nextBy_47 : decode cX9_nextBy 47 = .ok (.ireturn, 1) := by decide +kernel
theorem dX9_tries_0 : decode cX9_tries 0 = .ok (.aload_n 0, 1) := by decide +kernel
theorem dX9_tries_1 : decode cX9_tries 1 = .ok (.iconst (-1), 1) := by decide +kernel
theorem dX9_tries_2 : decode cX9_tries 2 = .ok (.invokevirtual 409, 3) := by decide +kernel
theorem dX9_tries_5 : decode cX9_tries 5 = .ok (.bipush (-2), 2) := by decide +kernel
theorem dX9_tries_7 : decode cX9_tries 7 = .ok (.istore_n 1, 1) := by decide +kernel
theorem dX9_tries_8 : decode cX9_tries 8 = .ok (.aload_n 0, 1) := by decide +kernel
theorem dX9_tries_9 : decode cX9_tries 9 = .ok (.bipush (-2), 2) := by decide +kernel
theorem dX9_tries_11 : decode cX9_tries 11 = .ok (.putfield 412, 3) := by decide +kernel
theorem dX9_tries_14 : decode cX9_tries 14 = .ok (.iconst 0, 1) := by decide +kernel
theorem dX9_tries_15 : decode cX9_tries 15 = .ok (.istore_n 2, 1) := by decide +kernel
theorem dX9_tries_16 : decode cX9_tries 16 = .ok (.iload_n 2, 1) := by decide +kernel
theorem dX9_tries_17 : decode cX9_tries 17 = .ok (.bipush 20, 2) := by decide +kernel
theorem dX9_tries_19 : decode cX9_tries 19 = .ok (.if_icmp .gt 87, 3) := by decide +kernel
theorem dX9_tries_22 : decode cX9_tries 22 = .ok (.aload_n 0, 1) := by decide +kernel
theorem dX9_tries_23 : decode cX9_tries 23 = .ok (.getfield 394, 3) := by decide +kernel
theorem dX9_tries_26 : decode cX9_tries 26 = .ok (.ifCond .le 80, 3) := by decide +kernel
theorem dX9_tries_29 : decode cX9_tries 29 = .ok (.iconst 0, 1) := by decide +kernel
theorem dX9_tries_30 : decode cX9_tries 30 = .ok (.istore_n 3, 1) := by decide +kernel
theorem dX9_tries_31 : decode cX9_tries 31 = .ok (.iconst 0, 1) := by decide +kernel
theorem dX9_tries_32 : decode cX9_tries 32 = .ok (.istore 4, 2) := by decide +kernel
theorem dX9_tries_34 : decode cX9_tries 34 = .ok (.iload 4, 2) := by decide +kernel
theorem dX9_tries_36 : decode cX9_tries 36 = .ok (.bipush 6, 2) := by decide +kernel
theorem dX9_tries_38 : decode cX9_tries 38 = .ok (.if_icmp .gt 38, 3) := by decide +kernel
theorem dX9_tries_41 : decode cX9_tries 41 = .ok (.aload_n 0, 1) := by decide +kernel
theorem dX9_tries_42 : decode cX9_tries 42 = .ok (.getfield 42, 3) := by decide +kernel
theorem dX9_tries_45 : decode cX9_tries 45 = .ok (.bipush 7, 2) := by decide +kernel
theorem dX9_tries_47 : decode cX9_tries 47 = .ok (.iload_n 2, 1) := by decide +kernel
theorem dX9_tries_48 : decode cX9_tries 48 = .ok (.imul, 1) := by decide +kernel
theorem dX9_tries_49 : decode cX9_tries 49 = .ok (.iload 4, 2) := by decide +kernel
theorem dX9_tries_51 : decode cX9_tries 51 = .ok (.iadd, 1) := by decide +kernel
theorem dX9_tries_52 : decode cX9_tries 52 = .ok (.iaload, 1) := by decide +kernel
theorem dX9_tries_53 : decode cX9_tries 53 = .ok (.iload_n 3, 1) := by decide +kernel
theorem dX9_tries_54 : decode cX9_tries 54 = .ok (.if_icmp .le 16, 3) := by decide +kernel
theorem dX9_tries_57 : decode cX9_tries 57 = .ok (.aload_n 0, 1) := by decide +kernel
theorem dX9_tries_58 : decode cX9_tries 58 = .ok (.getfield 42, 3) := by decide +kernel
theorem dX9_tries_61 : decode cX9_tries 61 = .ok (.bipush 7, 2) := by decide +kernel
theorem dX9_tries_63 : decode cX9_tries 63 = .ok (.iload_n 2, 1) := by decide +kernel
theorem dX9_tries_64 : decode cX9_tries 64 = .ok (.imul, 1) := by decide +kernel
theorem dX9_tries_65 : decode cX9_tries 65 = .ok (.iload 4, 2) := by decide +kernel
theorem dX9_tries_67 : decode cX9_tries 67 = .ok (.iadd, 1) := by decide +kernel
theorem dX9_tries_68 : decode cX9_tries 68 = .ok (.iaload, 1) := by decide +kernel
theorem dX9_tries_69 : decode cX9_tries 69 = .ok (.istore_n 3, 1) := by decide +kernel
theorem dX9_tries_70 : decode cX9_tries 70 = .ok (.iinc 4 1, 3) := by decide +kernel
theorem dX9_tries_73 : decode cX9_tries 73 = .ok (.goto (-39), 3) := by decide +kernel
theorem dX9_tries_76 : decode cX9_tries 76 = .ok (.iload_n 1, 1) := by decide +kernel
theorem dX9_tries_77 : decode cX9_tries 77 = .ok (.bipush (-2), 2) := by decide +kernel
theorem dX9_tries_79 : decode cX9_tries 79 = .ok (.if_icmp .eq 14, 3) := by decide +kernel
theorem dX9_tries_82 : decode cX9_tries 82 = .ok (.iload_n 3, 1) := by decide +kernel
theorem dX9_tries_83 : decode cX9_tries 83 = .ok (.aload_n 0, 1) := by decide +kernel
theorem dX9_tries_84 : decode cX9_tries 84 = .ok (.getfield 412, 3) := by decide +kernel
theorem dX9_tries_87 : decode cX9_tries 87 = .ok (.if_icmp .lt 6, 3) := by decide +kernel
theorem dX9_tries_90 : decode cX9_tries 90 = .ok (.goto 10, 3) := by decide +kernel
theorem dX9_tries_93 : decode cX9_tries 93 = .ok (.iload_n 2, 1) := by decide +kernel
theorem dX9_tries_94 : decode cX9_tries 94 = .ok (.istore_n 1, 1) := by decide +kernel
theorem dX9_tries_95 : decode cX9_tries 95 = .ok (.aload_n 0, 1) := by decide +kernel
theorem dX9_tries_96 : decode cX9_tries 96 = .ok (.iload_n 3, 1) := by decide +kernel
theorem dX9_tries_97 : decode cX9_tries 97 = .ok (.putfield 412, 3) := by decide +kernel
theorem dX9_tries_100 : decode cX9_tries 100 = .ok (.iinc 2 1, 3) := by decide +kernel
theorem dX9_tries_103 : decode cX9_tries 103 = .ok (.goto (-87), 3) := by decide +kernel
theorem dX9_tries_106 : decode cX9_tries 106 = .ok (.iload_n 1, 1) := by decide +kernel
theorem dX9_tries_107 : decode cX9_tries 107 = .ok (.ireturn, 1) := by decide +kernel
theorem dX9_tryDay_0 : decode cX9_tryDay 0 = .ok (.aload_n 0, 1) := by decide +kernel
theorem dX9_tryDay_1 : decode cX9_tryDay 1 = .ok (.iconst 0, 1) := by decide +kernel
theorem dX9_tryDay_2 : decode cX9_tryDay 2 = .ok (.putfield 52, 3) := by decide +kernel
theorem dX9_tryDay_5 : decode cX9_tryDay 5 = .ok (.aload_n 0, 1) := by decide +kernel
theorem dX9_tryDay_6 : decode cX9_tryDay 6 = .ok (.getfield 316, 3) := by decide +kernel
theorem dX9_tryDay_9 : decode cX9_tryDay 9 = .ok (.ifnonnull 11, 3) := by decide +kernel
theorem dX9_tryDay_12 : decode cX9_tryDay 12 = .ok (.aload_n 0, 1) := by decide +kernel
theorem dX9_tryDay_13 : decode cX9_tryDay 13 = .ok (.iconst 1, 1) := by decide +kernel
theorem dX9_tryDay_14 : decode cX9_tryDay 14 = .ok (.invokevirtual 58, 3) := by decide +kernel
theorem dX9_tryDay_17 : decode cX9_tryDay 17 = .ok (.goto 11, 3) := by decide +kernel
theorem dX9_tryDay_20 : decode cX9_tryDay 20 = .ok (.aload_n 0, 1) := by decide +kernel
theorem dX9_tryDay_21 : decode cX9_tryDay 21 = .ok (.aload_n 0, 1) := by decide +kernel
theorem dX9_tryDay_22 : decode cX9_tryDay 22 = .ok (.invokevirtual 415, 3) := by decide +kernel
theorem dX9_tryDay_25 : decode cX9_tryDay 25 = .ok (.invokevirtual 62, 3) := by decide +kernel
theorem dX9_tryDay_28 : decode cX9_tryDay 28 = .ok (.ireturn, 1) := by decide +kernel
theorem dX9_tryLeaves_0 : decode cX9_tryLeaves 0 = .ok (.aload_n 0, 1) := by decide +kernel
theorem dX9_tryLeaves_1 : decode cX9_tryLeaves 1 = .ok (.iconst 0, 1) := by decide +kernel
theorem dX9_tryLeaves_2 : decode cX9_tryLeaves 2 = .ok (.putfield 52, 3) := by decide +kernel
theorem dX9_tryLeaves_5 : decode cX9_tryLeaves 5 = .ok (.aload_n 0, 1) := by decide +kernel
theorem dX9_tryLeaves_6 : decode cX9_tryLeaves 6 = .ok (.getfield 316, 3) := by decide +kernel
theorem dX9_tryLeaves_9 : decode cX9_tryLeaves 9 = .ok (.ifnonnull 9, 3) := by decide +kernel
theorem dX9_tryLeaves_12 : decode cX9_tryLeaves 12 = .ok (.aload_n 0, 1) := by decide +kernel
theorem dX9_tryLeaves_13 : decode cX9_tryLeaves 13 = .ok (.iconst 1, 1) := by decide +kernel
theorem dX9_tryLeaves_14 : decode cX9_tryLeaves 14 = .ok (.invokevirtual 58, 3) := by decide +kernel
theorem dX9_tryLeaves_17 : decode cX9_tryLeaves 17 = .ok (.ireturn, 1) := by decide +kernel
theorem dX9_tryLeaves_18 : decode cX9_tryLeaves 18 = .ok (.aload_n 0, 1) := by decide +kernel
theorem dX9_tryLeaves_19 : decode cX9_tryLeaves 19 = .ok (.invokevirtual 415, 3) := by decide +kernel
theorem dX9_tryLeaves_22 : decode cX9_tryLeaves 22 = .ok (.pop, 1) := by decide +kernel
theorem dX9_tryLeaves_23 : decode cX9_tryLeaves 23 = .ok (.aload_n 0, 1) := by decide +kernel
theorem dX9_tryLeaves_24 : decode cX9_tryLeaves 24 = .ok (.aload_n 0, 1) := by decide +kernel
theorem dX9_tryLeaves_25 : decode cX9_tryLeaves 25 = .ok (.getfield 412, 3) := by decide +kernel
theorem dX9_tryLeaves_28 : decode cX9_tryLeaves 28 = .ok (.invokevirtual 62, 3) := by decide +kernel
theorem dX9_tryLeaves_31 : decode cX9_tryLeaves 31 = .ok (.ireturn, 1) := by decide +kernel
theorem dX9_judge_0 : decode cX9_judge 0 = .ok (.aload_n 0, 1) := by decide +kernel
theorem dX9_judge_1 : decode cX9_judge 1 = .ok (.iconst 0, 1) := by decide +kernel
theorem dX9_judge_2 : decode cX9_judge 2 = .ok (.putfield 52, 3) := by decide +kernel
theorem dX9_judge_5 : decode cX9_judge 5 = .ok (.aload_n 0, 1) := by decide +kernel
theorem dX9_judge_6 : decode cX9_judge 6 = .ok (.getfield 316, 3) := by decide +kernel
theorem dX9_judge_9 : decode cX9_judge 9 = .ok (.ifnonnull 9, 3) := by decide +kernel
theorem dX9_judge_12 : decode cX9_judge 12 = .ok (.aload_n 0, 1) := by decide +kernel
theorem dX9_judge_13 : decode cX9_judge 13 = .ok (.iconst 1, 1) := by decide +kernel
theorem dX9_judge_14 : decode cX9_judge 14 = .ok (.invokevirtual 58, 3) := by decide +kernel
theorem dX9_judge_17 : decode cX9_judge 17 = .ok (.ireturn, 1) := by decide +kernel
theorem dX9_judge_18 : decode cX9_judge 18 = .ok (.aload_n 0, 1) := by decide +kernel
theorem dX9_judge_19 : decode cX9_judge 19 = .ok (.invokevirtual 318, 3) := by decide +kernel
theorem dX9_judge_22 : decode cX9_judge 22 = .ok (.aload_n 0, 1) := by decide +kernel
theorem dX9_judge_23 : decode cX9_judge 23 = .ok (.aload_n 0, 1) := by decide +kernel
theorem dX9_judge_24 : decode cX9_judge 24 = .ok (.invokevirtual 406, 3) := by decide +kernel
theorem dX9_judge_27 : decode cX9_judge 27 = .ok (.invokevirtual 62, 3) := by decide +kernel
theorem dX9_judge_30 : decode cX9_judge 30 = .ok (.ireturn, 1) := by decide +kernel
theorem dX9_gets_0 : decode cX9_gets 0 = .ok (.iload_n 1, 1) := by decide +kernel
theorem dX9_gets_1 : decode cX9_gets 1 = .ok (.ifCond .eq 23, 3) := by decide +kernel
theorem dX9_gets_4 : decode cX9_gets 4 = .ok (.iload_n 2, 1) := by decide +kernel
theorem dX9_gets_5 : decode cX9_gets 5 = .ok (.ifCond .eq 7, 3) := by decide +kernel
theorem dX9_gets_8 : decode cX9_gets 8 = .ok (.iconst 1, 1) := by decide +kernel
theorem dX9_gets_9 : decode cX9_gets 9 = .ok (.goto 4, 3) := by decide +kernel
theorem dX9_gets_12 : decode cX9_gets 12 = .ok (.iconst 4, 1) := by decide +kernel
theorem dX9_gets_13 : decode cX9_gets 13 = .ok (.aload_n 0, 1) := by decide +kernel
theorem dX9_gets_14 : decode cX9_gets 14 = .ok (.getfield 316, 3) := by decide +kernel
theorem dX9_gets_17 : decode cX9_gets 17 = .ok (.getfield 165, 3) := by decide +kernel
theorem dX9_gets_20 : decode cX9_gets 20 = .ok (.isub, 1) := by decide +kernel
theorem dX9_gets_21 : decode cX9_gets 21 = .ok (.goto 12, 3) := by decide +kernel
theorem dX9_gets_24 : decode cX9_gets 24 = .ok (.iload_n 2, 1) := by decide +kernel
theorem dX9_gets_25 : decode cX9_gets 25 = .ok (.ifCond .eq 7, 3) := by decide +kernel
theorem dX9_gets_28 : decode cX9_gets 28 = .ok (.iconst 3, 1) := by decide +kernel
theorem dX9_gets_29 : decode cX9_gets 29 = .ok (.goto 4, 3) := by decide +kernel
theorem dX9_gets_32 : decode cX9_gets 32 = .ok (.iconst 0, 1) := by decide +kernel
theorem dX9_gets_33 : decode cX9_gets 33 = .ok (.ireturn, 1) := by decide +kernel
theorem dX9_rings_0 : decode cX9_rings 0 = .ok (.aload_n 0, 1) := by decide +kernel
theorem dX9_rings_1 : decode cX9_rings 1 = .ok (.iconst 0, 1) := by decide +kernel
theorem dX9_rings_2 : decode cX9_rings 2 = .ok (.putfield 52, 3) := by decide +kernel
theorem dX9_rings_5 : decode cX9_rings 5 = .ok (.aload_n 0, 1) := by decide +kernel
theorem dX9_rings_6 : decode cX9_rings 6 = .ok (.getfield 316, 3) := by decide +kernel
theorem dX9_rings_9 : decode cX9_rings 9 = .ok (.ifnonnull 11, 3) := by decide +kernel
theorem dX9_rings_12 : decode cX9_rings 12 = .ok (.aload_n 0, 1) := by decide +kernel
theorem dX9_rings_13 : decode cX9_rings 13 = .ok (.iconst 1, 1) := by decide +kernel
theorem dX9_rings_14 : decode cX9_rings 14 = .ok (.invokevirtual 418, 3) := by decide +kernel
theorem dX9_rings_17 : decode cX9_rings 17 = .ok (.goto 26, 3) := by decide +kernel
theorem dX9_rings_20 : decode cX9_rings 20 = .ok (.aload_n 0, 1) := by decide +kernel
theorem dX9_rings_21 : decode cX9_rings 21 = .ok (.iload_n 3, 1) := by decide +kernel
theorem dX9_rings_22 : decode cX9_rings 22 = .ok (.ifCond .eq 12, 3) := by decide +kernel
theorem dX9_rings_25 : decode cX9_rings 25 = .ok (.aload_n 0, 1) := by decide +kernel
theorem dX9_rings_26 : decode cX9_rings 26 = .ok (.iload_n 2, 1) := by decide +kernel
theorem dX9_rings_27 : decode cX9_rings 27 = .ok (.iload_n 1, 1) := by decide +kernel
theorem dX9_rings_28 : decode cX9_rings 28 = .ok (.invokevirtual 421, 3) := by decide +kernel
theorem dX9_rings_31 : decode cX9_rings 31 = .ok (.goto 9, 3) := by decide +kernel
theorem dX9_rings_34 : decode cX9_rings 34 = .ok (.aload_n 0, 1) := by decide +kernel
theorem dX9_rings_35 : decode cX9_rings 35 = .ok (.iload_n 1, 1) := by decide +kernel
theorem dX9_rings_36 : decode cX9_rings 36 = .ok (.iload_n 2, 1) := by decide +kernel
theorem dX9_rings_37 : decode cX9_rings 37 = .ok (.invokevirtual 421, 3) := by decide +kernel
theorem dX9_rings_40 : decode cX9_rings 40 = .ok (.invokevirtual 62, 3) := by decide +kernel
theorem dX9_rings_43 : decode cX9_rings 43 = .ok (.ireturn, 1) := by decide +kernel
theorem dX9_isRest_0 : decode cX9_isRest 0 = .ok (.iload_n 1, 1) := by decide +kernel
theorem dX9_isRest_1 : decode cX9_isRest 1 = .ok (.iconst 1, 1) := by decide +kernel
theorem dX9_isRest_2 : decode cX9_isRest 2 = .ok (.if_icmp .le 7, 3) := by decide +kernel
theorem dX9_isRest_5 : decode cX9_isRest 5 = .ok (.iconst 1, 1) := by decide +kernel
theorem dX9_isRest_6 : decode cX9_isRest 6 = .ok (.goto 4, 3) := by decide +kernel
theorem dX9_isRest_9 : decode cX9_isRest 9 = .ok (.iconst 0, 1) := by decide +kernel
theorem dX9_isRest_10 : decode cX9_isRest 10 = .ok (.istore_n 2, 1) := by decide +kernel
theorem dX9_isRest_11 : decode cX9_isRest 11 = .ok (.iload_n 1, 1) := by decide +kernel
theorem dX9_isRest_12 : decode cX9_isRest 12 = .ok (.iconst 2, 1) := by decide +kernel
theorem dX9_isRest_13 : decode cX9_isRest 13 = .ok (.irem, 1) := by decide +kernel
theorem dX9_isRest_14 : decode cX9_isRest 14 = .ok (.iconst 1, 1) := by decide +kernel
theorem dX9_isRest_15 : decode cX9_isRest 15 = .ok (.if_icmp .ne 7, 3) := by decide +kernel
theorem dX9_isRest_18 : decode cX9_isRest 18 = .ok (.iconst 1, 1) := by decide +kernel
theorem dX9_isRest_19 : decode cX9_isRest 19 = .ok (.goto 4, 3) := by decide +kernel
theorem dX9_isRest_22 : decode cX9_isRest 22 = .ok (.iconst 0, 1) := by decide +kernel
theorem dX9_isRest_23 : decode cX9_isRest 23 = .ok (.istore_n 3, 1) := by decide +kernel
theorem dX9_isRest_24 : decode cX9_isRest 24 = .ok (.aload_n 0, 1) := by decide +kernel
theorem dX9_isRest_25 : decode cX9_isRest 25 = .ok (.iload_n 2, 1) := by decide +kernel
theorem dX9_isRest_26 : decode cX9_isRest 26 = .ok (.ifCond .ne 7, 3) := by decide +kernel
theorem dX9_isRest_29 : decode cX9_isRest 29 = .ok (.iconst 1, 1) := by decide +kernel
theorem dX9_isRest_30 : decode cX9_isRest 30 = .ok (.goto 4, 3) := by decide +kernel
theorem dX9_isRest_33 : decode cX9_isRest 33 = .ok (.iconst 0, 1) := by decide +kernel
theorem dX9_isRest_34 : decode cX9_isRest 34 = .ok (.iload_n 3, 1) := by decide +kernel
theorem dX9_isRest_35 : decode cX9_isRest 35 = .ok (.invokevirtual 421, 3) := by decide +kernel
theorem dX9_isRest_38 : decode cX9_isRest 38 = .ok (.aload_n 0, 1) := by decide +kernel
theorem dX9_isRest_39 : decode cX9_isRest 39 = .ok (.iload_n 2, 1) := by decide +kernel
theorem dX9_isRest_40 : decode cX9_isRest 40 = .ok (.iload_n 3, 1) := by decide +kernel
theorem dX9_isRest_41 : decode cX9_isRest 41 = .ok (.invokevirtual 421, 3) := by decide +kernel
theorem dX9_isRest_44 : decode cX9_isRest 44 = .ok (.if_icmp .gt 30, 3) := by decide +kernel
theorem dX9_isRest_47 : decode cX9_isRest 47 = .ok (.aload_n 0, 1) := by decide +kernel
theorem dX9_isRest_48 : decode cX9_isRest 48 = .ok (.iload_n 3, 1) := by decide +kernel
theorem dX9_isRest_49 : decode cX9_isRest 49 = .ok (.ifCond .ne 7, 3) := by decide +kernel
theorem dX9_isRest_52 : decode cX9_isRest 52 = .ok (.iconst 1, 1) := by decide +kernel
theorem dX9_isRest_53 : decode cX9_isRest 53 = .ok (.goto 4, 3) := by decide +kernel
theorem dX9_isRest_56 : decode cX9_isRest 56 = .ok (.iconst 0, 1) := by decide +kernel
theorem dX9_isRest_57 : decode cX9_isRest 57 = .ok (.iload_n 2, 1) := by decide +kernel
theorem dX9_isRest_58 : decode cX9_isRest 58 = .ok (.invokevirtual 421, 3) := by decide +kernel
theorem dX9_isRest_61 : decode cX9_isRest 61 = .ok (.aload_n 0, 1) := by decide +kernel
theorem dX9_isRest_62 : decode cX9_isRest 62 = .ok (.iload_n 3, 1) := by decide +kernel
theorem dX9_isRest_63 : decode cX9_isRest 63 = .ok (.iload_n 2, 1) := by decide +kernel
theorem dX9_isRest_64 : decode cX9_isRest 64 = .ok (.invokevirtual 421, 3) := by decide +kernel
theorem dX9_isRest_67 : decode cX9_isRest 67 = .ok (.if_icmp .gt 7, 3) := by decide +kernel
theorem dX9_isRest_70 : decode cX9_isRest 70 = .ok (.iconst 1, 1) := by decide +kernel
theorem dX9_isRest_71 : decode cX9_isRest 71 = .ok (.goto 4, 3) := by decide +kernel
theorem dX9_isRest_74 : decode cX9_isRest 74 = .ok (.iconst 0, 1) := by decide +kernel
theorem dX9_isRest_75 : decode cX9_isRest 75 = .ok (.ireturn, 1) := by decide +kernel
theorem dX9_rests_0 : decode cX9_rests 0 = .ok (.aload_n 0, 1) := by decide +kernel
theorem dX9_rests_1 : decode cX9_rests 1 = .ok (.iconst 0, 1) := by decide +kernel
theorem dX9_rests_2 : decode cX9_rests 2 = .ok (.putfield 52, 3) := by decide +kernel
theorem dX9_rests_5 : decode cX9_rests 5 = .ok (.aload_n 0, 1) := by decide +kernel
theorem dX9_rests_6 : decode cX9_rests 6 = .ok (.getfield 316, 3) := by decide +kernel
theorem dX9_rests_9 : decode cX9_rests 9 = .ok (.ifnonnull 9, 3) := by decide +kernel
theorem dX9_rests_12 : decode cX9_rests 12 = .ok (.aload_n 0, 1) := by decide +kernel
theorem dX9_rests_13 : decode cX9_rests 13 = .ok (.iconst 1, 1) := by decide +kernel
theorem dX9_rests_14 : decode cX9_rests 14 = .ok (.invokevirtual 58, 3) := by decide +kernel
theorem dX9_rests_17 : decode cX9_rests 17 = .ok (.ireturn, 1) := by decide +kernel
theorem dX9_rests_18 : decode cX9_rests 18 = .ok (.iconst 0, 1) := by decide +kernel
theorem dX9_rests_19 : decode cX9_rests 19 = .ok (.istore_n 1, 1) := by decide +kernel
theorem dX9_rests_20 : decode cX9_rests 20 = .ok (.iconst 0, 1) := by decide +kernel
theorem dX9_rests_21 : decode cX9_rests 21 = .ok (.istore_n 2, 1) := by decide +kernel
theorem dX9_rests_22 : decode cX9_rests 22 = .ok (.iload_n 2, 1) := by decide +kernel
theorem dX9_rests_23 : decode cX9_rests 23 = .ok (.iconst 4, 1) := by decide +kernel
theorem dX9_rests_24 : decode cX9_rests 24 = .ok (.if_icmp .ge 25, 3) := by decide +kernel
theorem dX9_rests_27 : decode cX9_rests 27 = .ok (.iload_n 1, 1) := by decide +kernel
theorem dX9_rests_28 : decode cX9_rests 28 = .ok (.aload_n 0, 1) := by decide +kernel
theorem dX9_rests_29 : decode cX9_rests 29 = .ok (.iload_n 2, 1) := by decide +kernel
theorem dX9_rests_30 : decode cX9_rests 30 = .ok (.invokevirtual 425, 3) := by decide +kernel
theorem dX9_rests_33 : decode cX9_rests 33 = .ok (.ifCond .eq 7, 3) := by decide +kernel
theorem dX9_rests_36 : decode cX9_rests 36 = .ok (.iconst 1, 1) := by decide +kernel
theorem dX9_rests_37 : decode cX9_rests 37 = .ok (.goto 4, 3) := by decide +kernel
theorem dX9_rests_40 : decode cX9_rests 40 = .ok (.iconst 0, 1) := by decide +kernel
theorem dX9_rests_41 : decode cX9_rests 41 = .ok (.iadd, 1) := by decide +kernel
theorem dX9_rests_42 : decode cX9_rests 42 = .ok (.istore_n 1, 1) := by decide +kernel
theorem dX9_rests_43 : decode cX9_rests 43 = .ok (.iinc 2 1, 3) := by decide +kernel
theorem dX9_rests_46 : decode cX9_rests 46 = .ok (.goto (-24), 3) := by decide +kernel
theorem dX9_rests_49 : decode cX9_rests 49 = .ok (.aload_n 0, 1) := by decide +kernel
theorem dX9_rests_50 : decode cX9_rests 50 = .ok (.iload_n 1, 1) := by decide +kernel
theorem dX9_rests_51 : decode cX9_rests 51 = .ok (.invokevirtual 62, 3) := by decide +kernel
theorem dX9_rests_54 : decode cX9_rests 54 = .ok (.ireturn, 1) := by decide +kernel
theorem dX9_rest_0 : decode cX9_rest 0 = .ok (.aload_n 0, 1) := by decide +kernel
theorem dX9_rest_1 : decode cX9_rest 1 = .ok (.iconst 0, 1) := by decide +kernel
theorem dX9_rest_2 : decode cX9_rest 2 = .ok (.putfield 52, 3) := by decide +kernel
theorem dX9_rest_5 : decode cX9_rest 5 = .ok (.aload_n 0, 1) := by decide +kernel
theorem dX9_rest_6 : decode cX9_rest 6 = .ok (.getfield 316, 3) := by decide +kernel
theorem dX9_rest_9 : decode cX9_rest 9 = .ok (.ifnonnull 9, 3) := by decide +kernel
theorem dX9_rest_12 : decode cX9_rest 12 = .ok (.aload_n 0, 1) := by decide +kernel
theorem dX9_rest_13 : decode cX9_rest 13 = .ok (.iconst 1, 1) := by decide +kernel
theorem dX9_rest_14 : decode cX9_rest 14 = .ok (.invokevirtual 58, 3) := by decide +kernel
theorem dX9_rest_17 : decode cX9_rest 17 = .ok (.ireturn, 1) := by decide +kernel
theorem dX9_rest_18 : decode cX9_rest 18 = .ok (.iconst 0, 1) := by decide +kernel
theorem dX9_rest_19 : decode cX9_rest 19 = .ok (.istore_n 1, 1) := by decide +kernel
theorem dX9_rest_20 : decode cX9_rest 20 = .ok (.iload_n 1, 1) := by decide +kernel
theorem dX9_rest_21 : decode cX9_rest 21 = .ok (.iconst 4, 1) := by decide +kernel
theorem dX9_rest_22 : decode cX9_rest 22 = .ok (.if_icmp .ge 32, 3) := by decide +kernel
theorem dX9_rest_25 : decode cX9_rest 25 = .ok (.aload_n 0, 1) := by decide +kernel
theorem dX9_rest_26 : decode cX9_rest 26 = .ok (.iload_n 1, 1) := by decide +kernel
theorem dX9_rest_27 : decode cX9_rest 27 = .ok (.invokevirtual 425, 3) := by decide +kernel
theorem dX9_rest_30 : decode cX9_rest 30 = .ok (.ifCond .eq 18, 3) := by decide +kernel
theorem dX9_rest_33 : decode cX9_rest 33 = .ok (.aload_n 0, 1) := by decide +kernel
theorem dX9_rest_34 : decode cX9_rest 34 = .ok (.bipush 10, 2) := by decide +kernel
theorem dX9_rest_36 : decode cX9_rest 36 = .ok (.iload_n 1, 1) := by decide +kernel
theorem dX9_rest_37 : decode cX9_rest 37 = .ok (.iconst 2, 1) := by decide +kernel
theorem dX9_rest_38 : decode cX9_rest 38 = .ok (.idiv, 1) := by decide +kernel
theorem dX9_rest_39 : decode cX9_rest 39 = .ok (.imul, 1) := by decide +kernel
theorem dX9_rest_40 : decode cX9_rest 40 = .ok (.iload_n 1, 1) := by decide +kernel
theorem dX9_rest_41 : decode cX9_rest 41 = .ok (.iconst 2, 1) := by decide +kernel
theorem dX9_rest_42 : decode cX9_rest 42 = .ok (.irem, 1) := by decide +kernel
theorem dX9_rest_43 : decode cX9_rest 43 = .ok (.iadd, 1) := by decide +kernel
theorem dX9_rest_44 : decode cX9_rest 44 = .ok (.invokevirtual 62, 3) := by decide +kernel
theorem dX9_rest_47 : decode cX9_rest 47 = .ok (.ireturn, 1) := by decide +kernel
theorem dX9_rest_48 : decode cX9_rest 48 = .ok (.iinc 1 1, 3) := by decide +kernel
theorem dX9_rest_51 : decode cX9_rest 51 = .ok (.goto (-31), 3) := by decide +kernel
theorem dX9_rest_54 : decode cX9_rest 54 = .ok (.aload_n 0, 1) := by decide +kernel
theorem dX9_rest_55 : decode cX9_rest 55 = .ok (.bipush (-2), 2) := by decide +kernel
theorem dX9_rest_57 : decode cX9_rest 57 = .ok (.invokevirtual 62, 3) := by decide +kernel
theorem dX9_rest_60 : decode cX9_rest 60 = .ok (.ireturn, 1) := by decide +kernel
theorem dX9_chances_0 : decode cX9_chances 0 = .ok (.aload_n 0, 1) := by decide +kernel
theorem dX9_chances_1 : decode cX9_chances 1 = .ok (.lconst 1, 1) := by decide +kernel
theorem dX9_chances_2 : decode cX9_chances 2 = .ok (.putfield 428, 3) := by decide +kernel
theorem dX9_chances_5 : decode cX9_chances 5 = .ok (.aload_n 0, 1) := by decide +kernel
theorem dX9_chances_6 : decode cX9_chances 6 = .ok (.lconst 0, 1) := by decide +kernel
theorem dX9_chances_7 : decode cX9_chances 7 = .ok (.putfield 431, 3) := by decide +kernel
theorem dX9_chances_10 : decode cX9_chances 10 = .ok (.aload_n 0, 1) := by decide +kernel
theorem dX9_chances_11 : decode cX9_chances 11 = .ok (.lconst 0, 1) := by decide +kernel
theorem dX9_chances_12 : decode cX9_chances 12 = .ok (.putfield 434, 3) := by decide +kernel
theorem dX9_chances_15 : decode cX9_chances 15 = .ok (.iconst 0, 1) := by decide +kernel
theorem dX9_chances_16 : decode cX9_chances 16 = .ok (.istore_n 2, 1) := by decide +kernel
theorem dX9_chances_17 : decode cX9_chances 17 = .ok (.iload_n 2, 1) := by decide +kernel
theorem dX9_chances_18 : decode cX9_chances 18 = .ok (.bipush 6, 2) := by decide +kernel
theorem dX9_chances_20 : decode cX9_chances 20 = .ok (.if_icmp .ge 16, 3) := by decide +kernel
theorem dX9_chances_23 : decode cX9_chances 23 = .ok (.aload_n 0, 1) := by decide +kernel
theorem dX9_chances_24 : decode cX9_chances 24 = .ok (.getfield 45, 3) := by decide +kernel
theorem dX9_chances_27 : decode cX9_chances 27 = .ok (.iload_n 2, 1) := by decide +kernel
theorem dX9_chances_28 : decode cX9_chances 28 = .ok (.lconst 0, 1) := by decide +kernel
theorem dX9_chances_29 : decode cX9_chances 29 = .ok (.lastore, 1) := by decide +kernel
theorem dX9_chances_30 : decode cX9_chances 30 = .ok (.iinc 2 1, 3) := by decide +kernel
theorem dX9_chances_33 : decode cX9_chances 33 = .ok (.goto (-16), 3) := by decide +kernel
theorem dX9_chances_36 : decode cX9_chances 36 = .ok (.iconst 0, 1) := by decide +kernel
theorem dX9_chances_37 : decode cX9_chances 37 = .ok (.istore_n 2, 1) := by decide +kernel
theorem dX9_chances_38 : decode cX9_chances 38 = .ok (.iload_n 2, 1) := by decide +kernel
theorem dX9_chances_39 : decode cX9_chances 39 = .ok (.aload_n 0, 1) := by decide +kernel
theorem dX9_chances_40 : decode cX9_chances 40 = .ok (.getfield 316, 3) := by decide +kernel
theorem dX9_chances_43 : decode cX9_chances 43 = .ok (.getfield 187, 3) := by decide +kernel
theorem dX9_chances_46 : decode cX9_chances 46 = .ok (.if_icmp .ge 36, 3) := by decide +kernel
theorem dX9_chances_49 : decode cX9_chances 49 = .ok (.aload_n 0, 1) := by decide +kernel
theorem dX9_chances_50 : decode cX9_chances 50 = .ok (.dup, 1) := by decide +kernel
theorem dX9_chances_51 : decode cX9_chances 51 = .ok (.getfield 428, 3) := by decide +kernel
theorem dX9_chances_54 : decode cX9_chances 54 = .ok (.aload_n 0, 1) := by decide +kernel
theorem dX9_chances_55 : decode cX9_chances 55 = .ok (.getfield 17, 3) := by decide +kernel
theorem dX9_chances_58 : decode cX9_chances 58 = .ok (.iload_n 2, 1) := by decide +kernel
theorem dX9_chances_59 : decode cX9_chances 59 = .ok (.iaload, 1) := by decide +kernel
theorem dX9_chances_60 : decode cX9_chances 60 = .ok (.bipush (-2), 2) := by decide +kernel
theorem dX9_chances_62 : decode cX9_chances 62 = .ok (.if_icmp .ne 7, 3) := by decide +kernel
theorem dX9_chances_65 : decode cX9_chances 65 = .ok (.lconst 1, 1) := by decide +kernel
theorem dX9_chances_66 : decode cX9_chances 66 = .ok (.goto 6, 3) := by decide +kernel
theorem dX9_chances_69 : decode cX9_chances 69 = .ok (.ldc2_w 437, 3) := by decide +kernel
