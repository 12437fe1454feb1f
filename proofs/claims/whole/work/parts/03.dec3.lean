theorem dX7_led_45 : decode cX7_led 45 = .ok (.iinc 3 1, 3) := by decide +kernel
theorem dX7_led_48 : decode cX7_led 48 = .ok (.goto (-44), 3) := by decide +kernel
theorem dX7_led_51 : decode cX7_led 51 = .ok (.new 282, 3) := by decide +kernel
theorem dX7_led_54 : decode cX7_led 54 = .ok (.dup, 1) := by decide +kernel
theorem dX7_led_55 : decode cX7_led 55 = .ok (.ldc_w 284, 3) := by decide +kernel
theorem dX7_led_58 : decode cX7_led 58 = .ok (.invokespecial 286, 3) := by decide +kernel
theorem dX7_led_61 : decode cX7_led 61 = .ok (.athrow, 1) := by decide +kernel
theorem dX7_size_0 : decode cX7_size 0 = .ok (.iload_n 1, 1) := by decide +kernel
theorem dX7_size_1 : decode cX7_size 1 = .ok (.tableswitch 162 0 11 #[63, 71, 79, 87, 95, 106, 114, 122, 130, 138, 146, 154], 63) := by decide +kernel
theorem dX7_size_64 : decode cX7_size 64 = .ok (.aload_n 0, 1) := by decide +kernel
theorem dX7_size_65 : decode cX7_size 65 = .ok (.getfield 10, 3) := by decide +kernel
theorem dX7_size_68 : decode cX7_size 68 = .ok (.getfield 289, 3) := by decide +kernel
theorem dX7_size_71 : decode cX7_size 71 = .ok (.ireturn, 1) := by decide +kernel
theorem dX7_size_72 : decode cX7_size 72 = .ok (.aload_n 0, 1) := by decide +kernel
theorem dX7_size_73 : decode cX7_size 73 = .ok (.getfield 10, 3) := by decide +kernel
theorem dX7_size_76 : decode cX7_size 76 = .ok (.getfield 104, 3) := by decide +kernel
theorem dX7_size_79 : decode cX7_size 79 = .ok (.ireturn, 1) := by decide +kernel
theorem dX7_size_80 : decode cX7_size 80 = .ok (.aload_n 0, 1) := by decide +kernel
theorem dX7_size_81 : decode cX7_size 81 = .ok (.getfield 10, 3) := by decide +kernel
theorem dX7_size_84 : decode cX7_size 84 = .ok (.getfield 205, 3) := by decide +kernel
theorem dX7_size_87 : decode cX7_size 87 = .ok (.ireturn, 1) := by decide +kernel
theorem dX7_size_88 : decode cX7_size 88 = .ok (.aload_n 0, 1) := by decide +kernel
theorem dX7_size_89 : decode cX7_size 89 = .ok (.getfield 10, 3) := by decide +kernel
theorem dX7_size_92 : decode cX7_size 92 = .ok (.invokevirtual 292, 3) := by decide +kernel
theorem dX7_size_95 : decode cX7_size 95 = .ok (.ireturn, 1) := by decide +kernel
theorem dX7_size_96 : decode cX7_size 96 = .ok (.aload_n 0, 1) := by decide +kernel
theorem dX7_size_97 : decode cX7_size 97 = .ok (.getfield 10, 3) := by decide +kernel
theorem dX7_size_100 : decode cX7_size 100 = .ok (.getfield 94, 3) := by decide +kernel
theorem dX7_size_103 : decode cX7_size 103 = .ok (.invokestatic 200, 3) := by decide +kernel
theorem dX7_size_106 : decode cX7_size 106 = .ok (.ireturn, 1) := by decide +kernel
theorem dX7_size_107 : decode cX7_size 107 = .ok (.aload_n 0, 1) := by decide +kernel
theorem dX7_size_108 : decode cX7_size 108 = .ok (.getfield 10, 3) := by decide +kernel
theorem dX7_size_111 : decode cX7_size 111 = .ok (.getfield 295, 3) := by decide +kernel
theorem dX7_size_114 : decode cX7_size 114 = .ok (.ireturn, 1) := by decide +kernel
theorem dX7_size_115 : decode cX7_size 115 = .ok (.aload_n 0, 1) := by decide +kernel
theorem dX7_size_116 : decode cX7_size 116 = .ok (.getfield 10, 3) := by decide +kernel
theorem dX7_size_119 : decode cX7_size 119 = .ok (.getfield 214, 3) := by decide +kernel
theorem dX7_size_122 : decode cX7_size 122 = .ok (.ireturn, 1) := by decide +kernel
theorem dX7_size_123 : decode cX7_size 123 = .ok (.aload_n 0, 1) := by decide +kernel
theorem dX7_size_124 : decode cX7_size 124 = .ok (.getfield 10, 3) := by decide +kernel
theorem dX7_size_127 : decode cX7_size 127 = .ok (.getfield 231, 3) := by decide +kernel
theorem dX7_size_130 : decode cX7_size 130 = .ok (.ireturn, 1) := by decide +kernel
theorem dX7_size_131 : decode cX7_size 131 = .ok (.aload_n 0, 1) := by decide +kernel
theorem dX7_size_132 : decode cX7_size 132 = .ok (.getfield 38, 3) := by decide +kernel
theorem dX7_size_135 : decode cX7_size 135 = .ok (.getfield 166, 3) := by decide +kernel
theorem dX7_size_138 : decode cX7_size 138 = .ok (.ireturn, 1) := by decide +kernel
theorem dX7_size_139 : decode cX7_size 139 = .ok (.aload_n 0, 1) := by decide +kernel
theorem dX7_size_140 : decode cX7_size 140 = .ok (.getfield 38, 3) := by decide +kernel
theorem dX7_size_143 : decode cX7_size 143 = .ok (.getfield 298, 3) := by decide +kernel
theorem dX7_size_146 : decode cX7_size 146 = .ok (.ireturn, 1) := by decide +kernel
theorem dX7_size_147 : decode cX7_size 147 = .ok (.aload_n 0, 1) := by decide +kernel
theorem dX7_size_148 : decode cX7_size 148 = .ok (.getfield 38, 3) := by decide +kernel
theorem dX7_size_151 : decode cX7_size 151 = .ok (.getfield 301, 3) := by decide +kernel
theorem dX7_size_154 : decode cX7_size 154 = .ok (.ireturn, 1) := by decide +kernel
theorem dX7_size_155 : decode cX7_size 155 = .ok (.aload_n 0, 1) := by decide +kernel
theorem dX7_size_156 : decode cX7_size 156 = .ok (.getfield 22, 3) := by decide +kernel
theorem dX7_size_159 : decode cX7_size 159 = .ok (.getfield 67, 3) := by decide +kernel
theorem dX7_size_162 : decode cX7_size 162 = .ok (.ireturn, 1) := by decide +kernel
theorem dX7_size_163 : decode cX7_size 163 = .ok (.iconst (-1), 1) := by decide +kernel
theorem dX7_size_164 : decode cX7_size 164 = .ok (.ireturn, 1) := by decide +kernel
theorem dX7_trouble_0 : decode cX7_trouble 0 = .ok (.aload_n 0, 1) := by decide +kernel
theorem dX7_trouble_1 : decode cX7_trouble 1 = .ok (.getfield 107, 3) := by decide +kernel
theorem dX7_trouble_4 : decode cX7_trouble 4 = .ok (.ireturn, 1) := by decide +kernel
theorem dX7_refuse_0 : decode cX7_refuse 0 = .ok (.aload_n 0, 1) := by decide +kernel
theorem dX7_refuse_1 : decode cX7_refuse 1 = .ok (.iload_n 1, 1) := by decide +kernel
theorem dX7_refuse_2 : decode cX7_refuse 2 = .ok (.putfield 107, 3) := by decide +kernel
theorem dX7_refuse_5 : decode cX7_refuse 5 = .ok (.iconst (-1), 1) := by decide +kernel
theorem dX7_refuse_6 : decode cX7_refuse 6 = .ok (.ireturn, 1) := by decide +kernel
theorem dX7_refusedIf_0 : decode cX7_refusedIf 0 = .ok (.aload_n 0, 1) := by decide +kernel
theorem dX7_refusedIf_1 : decode cX7_refusedIf 1 = .ok (.iload_n 1, 1) := by decide +kernel
theorem dX7_refusedIf_2 : decode cX7_refusedIf 2 = .ok (.ifCond .eq 7, 3) := by decide +kernel
theorem dX7_refusedIf_5 : decode cX7_refusedIf 5 = .ok (.iload_n 2, 1) := by decide +kernel
theorem dX7_refusedIf_6 : decode cX7_refusedIf 6 = .ok (.goto 4, 3) := by decide +kernel
theorem dX7_refusedIf_9 : decode cX7_refusedIf 9 = .ok (.iconst 0, 1) := by decide +kernel
theorem dX7_refusedIf_10 : decode cX7_refusedIf 10 = .ok (.putfield 107, 3) := by decide +kernel
theorem dX7_refusedIf_13 : decode cX7_refusedIf 13 = .ok (.iload_n 1, 1) := by decide +kernel
theorem dX7_refusedIf_14 : decode cX7_refusedIf 14 = .ok (.ireturn, 1) := by decide +kernel
theorem dX7_noStreet_0 : decode cX7_noStreet 0 = .ok (.aload_n 0, 1) := by decide +kernel
theorem dX7_noStreet_1 : decode cX7_noStreet 1 = .ok (.aload_n 0, 1) := by decide +kernel
theorem dX7_noStreet_2 : decode cX7_noStreet 2 = .ok (.getfield 10, 3) := by decide +kernel
theorem dX7_noStreet_5 : decode cX7_noStreet 5 = .ok (.getfield 104, 3) := by decide +kernel
theorem dX7_noStreet_8 : decode cX7_noStreet 8 = .ok (.ifCond .ne 7, 3) := by decide +kernel
theorem dX7_noStreet_11 : decode cX7_noStreet 11 = .ok (.iconst 1, 1) := by decide +kernel
theorem dX7_noStreet_12 : decode cX7_noStreet 12 = .ok (.goto 4, 3) := by decide +kernel
theorem dX7_noStreet_15 : decode cX7_noStreet 15 = .ok (.iconst 0, 1) := by decide +kernel
theorem dX7_noStreet_16 : decode cX7_noStreet 16 = .ok (.iconst 1, 1) := by decide +kernel
theorem dX7_noStreet_17 : decode cX7_noStreet 17 = .ok (.invokevirtual 304, 3) := by decide +kernel
theorem dX7_noStreet_20 : decode cX7_noStreet 20 = .ok (.ireturn, 1) := by decide +kernel
theorem dX7_noHouse_0 : decode cX7_noHouse 0 = .ok (.aload_n 0, 1) := by decide +kernel
theorem dX7_noHouse_1 : decode cX7_noHouse 1 = .ok (.iload_n 1, 1) := by decide +kernel
theorem dX7_noHouse_2 : decode cX7_noHouse 2 = .ok (.ifCond .lt 14, 3) := by decide +kernel
theorem dX7_noHouse_5 : decode cX7_noHouse 5 = .ok (.iload_n 1, 1) := by decide +kernel
theorem dX7_noHouse_6 : decode cX7_noHouse 6 = .ok (.aload_n 0, 1) := by decide +kernel
theorem dX7_noHouse_7 : decode cX7_noHouse 7 = .ok (.getfield 10, 3) := by decide +kernel
theorem dX7_noHouse_10 : decode cX7_noHouse 10 = .ok (.getfield 104, 3) := by decide +kernel
theorem dX7_noHouse_13 : decode cX7_noHouse 13 = .ok (.if_icmp .lt 7, 3) := by decide +kernel
theorem dX7_noHouse_16 : decode cX7_noHouse 16 = .ok (.iconst 1, 1) := by decide +kernel
theorem dX7_noHouse_17 : decode cX7_noHouse 17 = .ok (.goto 4, 3) := by decide +kernel
theorem dX7_noHouse_20 : decode cX7_noHouse 20 = .ok (.iconst 0, 1) := by decide +kernel
theorem dX7_noHouse_21 : decode cX7_noHouse 21 = .ok (.iconst 1, 1) := by decide +kernel
theorem dX7_noHouse_22 : decode cX7_noHouse 22 = .ok (.invokevirtual 304, 3) := by decide +kernel
theorem dX7_noHouse_25 : decode cX7_noHouse 25 = .ok (.ireturn, 1) := by decide +kernel
theorem dX7_outside_0 : decode cX7_outside 0 = .ok (.aload_n 0, 1) := by decide +kernel
theorem dX7_outside_1 : decode cX7_outside 1 = .ok (.iload_n 1, 1) := by decide +kernel
theorem dX7_outside_2 : decode cX7_outside 2 = .ok (.iload_n 2, 1) := by decide +kernel
theorem dX7_outside_3 : decode cX7_outside 3 = .ok (.if_icmp .lt 8, 3) := by decide +kernel
theorem dX7_outside_6 : decode cX7_outside 6 = .ok (.iload_n 1, 1) := by decide +kernel
theorem dX7_outside_7 : decode cX7_outside 7 = .ok (.iload_n 3, 1) := by decide +kernel
theorem dX7_outside_8 : decode cX7_outside 8 = .ok (.if_icmp .le 7, 3) := by decide +kernel
theorem dX7_outside_11 : decode cX7_outside 11 = .ok (.iconst 1, 1) := by decide +kernel
theorem dX7_outside_12 : decode cX7_outside 12 = .ok (.goto 4, 3) := by decide +kernel
theorem dX7_outside_15 : decode cX7_outside 15 = .ok (.iconst 0, 1) := by decide +kernel
theorem dX7_outside_16 : decode cX7_outside 16 = .ok (.iconst 2, 1) := by decide +kernel
theorem dX7_outside_17 : decode cX7_outside 17 = .ok (.invokevirtual 304, 3) := by decide +kernel
theorem dX7_outside_20 : decode cX7_outside 20 = .ok (.ireturn, 1) := by decide +kernel
theorem dX7_noYears_0 : decode cX7_noYears 0 = .ok (.aload_n 0, 1) := by decide +kernel
theorem dX7_noYears_1 : decode cX7_noYears 1 = .ok (.iload_n 1, 1) := by decide +kernel
theorem dX7_noYears_2 : decode cX7_noYears 2 = .ok (.iconst 0, 1) := by decide +kernel
theorem dX7_noYears_3 : decode cX7_noYears 3 = .ok (.ldc_w 308, 3) := by decide +kernel
theorem dX7_noYears_6 : decode cX7_noYears 6 = .ok (.invokevirtual 75, 3) := by decide +kernel
theorem dX7_noYears_9 : decode cX7_noYears 9 = .ok (.ifCond .ne 14, 3) := by decide +kernel
theorem dX7_noYears_12 : decode cX7_noYears 12 = .ok (.aload_n 0, 1) := by decide +kernel
theorem dX7_noYears_13 : decode cX7_noYears 13 = .ok (.iload_n 2, 1) := by decide +kernel
theorem dX7_noYears_14 : decode cX7_noYears 14 = .ok (.iconst 0, 1) := by decide +kernel
theorem dX7_noYears_15 : decode cX7_noYears 15 = .ok (.bipush 60, 2) := by decide +kernel
theorem dX7_noYears_17 : decode cX7_noYears 17 = .ok (.invokevirtual 75, 3) := by decide +kernel
theorem dX7_noYears_20 : decode cX7_noYears 20 = .ok (.ifCond .eq 7, 3) := by decide +kernel
theorem dX7_noYears_23 : decode cX7_noYears 23 = .ok (.iconst 1, 1) := by decide +kernel
theorem dX7_noYears_24 : decode cX7_noYears 24 = .ok (.goto 4, 3) := by decide +kernel
theorem dX7_noYears_27 : decode cX7_noYears 27 = .ok (.iconst 0, 1) := by decide +kernel
theorem dX7_noYears_28 : decode cX7_noYears 28 = .ok (.ireturn, 1) := by decide +kernel
theorem dX7_burnsAlready_0 : decode cX7_burnsAlready 0 = .ok (.aload_n 0, 1) := by decide +kernel
theorem dX7_burnsAlready_1 : decode cX7_burnsAlready 1 = .ok (.aload_n 0, 1) := by decide +kernel
theorem dX7_burnsAlready_2 : decode cX7_burnsAlready 2 = .ok (.getfield 47, 3) := by decide +kernel
theorem dX7_burnsAlready_5 : decode cX7_burnsAlready 5 = .ok (.aload_n 0, 1) := by decide +kernel
theorem dX7_burnsAlready_6 : decode cX7_burnsAlready 6 = .ok (.getfield 38, 3) := by decide +kernel
theorem dX7_burnsAlready_9 : decode cX7_burnsAlready 9 = .ok (.getfield 121, 3) := by decide +kernel
theorem dX7_burnsAlready_12 : decode cX7_burnsAlready 12 = .ok (.iload_n 1, 1) := by decide +kernel
theorem dX7_burnsAlready_13 : decode cX7_burnsAlready 13 = .ok (.invokevirtual 142, 3) := by decide +kernel
theorem dX7_burnsAlready_16 : decode cX7_burnsAlready 16 = .ok (.aload_n 0, 1) := by decide +kernel
theorem dX7_burnsAlready_17 : decode cX7_burnsAlready 17 = .ok (.getfield 38, 3) := by decide +kernel
theorem dX7_burnsAlready_20 : decode cX7_burnsAlready 20 = .ok (.getfield 166, 3) := by decide +kernel
theorem dX7_burnsAlready_23 : decode cX7_burnsAlready 23 = .ok (.if_icmp .gt 7, 3) := by decide +kernel
theorem dX7_burnsAlready_26 : decode cX7_burnsAlready 26 = .ok (.iconst 1, 1) := by decide +kernel
theorem dX7_burnsAlready_27 : decode cX7_burnsAlready 27 = .ok (.goto 4, 3) := by decide +kernel
theorem dX7_burnsAlready_30 : decode cX7_burnsAlready 30 = .ok (.iconst 0, 1) := by decide +kernel
theorem dX7_burnsAlready_31 : decode cX7_burnsAlready 31 = .ok (.iconst 5, 1) := by decide +kernel
theorem dX7_burnsAlready_32 : decode cX7_burnsAlready 32 = .ok (.invokevirtual 304, 3) := by decide +kernel
theorem dX7_burnsAlready_35 : decode cX7_burnsAlready 35 = .ok (.ireturn, 1) := by decide +kernel
theorem dX7_noWay_0 : decode cX7_noWay 0 = .ok (.aload_n 0, 1) := by decide +kernel
theorem dX7_noWay_1 : decode cX7_noWay 1 = .ok (.invokevirtual 151, 3) := by decide +kernel
theorem dX7_noWay_4 : decode cX7_noWay 4 = .ok (.ifCond .eq 5, 3) := by decide +kernel
theorem dX7_noWay_7 : decode cX7_noWay 7 = .ok (.iconst 1, 1) := by decide +kernel
theorem dX7_noWay_8 : decode cX7_noWay 8 = .ok (.ireturn, 1) := by decide +kernel
theorem dX7_noWay_9 : decode cX7_noWay 9 = .ok (.aload_n 0, 1) := by decide +kernel
theorem dX7_noWay_10 : decode cX7_noWay 10 = .ok (.getfield 56, 3) := by decide +kernel
theorem dX7_noWay_13 : decode cX7_noWay 13 = .ok (.aload_n 0, 1) := by decide +kernel
theorem dX7_noWay_14 : decode cX7_noWay 14 = .ok (.getfield 38, 3) := by decide +kernel
theorem dX7_noWay_17 : decode cX7_noWay 17 = .ok (.invokevirtual 178, 3) := by decide +kernel
theorem dX7_noWay_20 : decode cX7_noWay 20 = .ok (.aload_n 0, 1) := by decide +kernel
theorem dX7_noWay_21 : decode cX7_noWay 21 = .ok (.iload_n 1, 1) := by decide +kernel
theorem dX7_noWay_22 : decode cX7_noWay 22 = .ok (.ifCond .lt 14, 3) := by decide +kernel
theorem dX7_noWay_25 : decode cX7_noWay 25 = .ok (.iload_n 1, 1) := by decide +kernel
theorem dX7_noWay_26 : decode cX7_noWay 26 = .ok (.aload_n 0, 1) := by decide +kernel
theorem dX7_noWay_27 : decode cX7_noWay 27 = .ok (.getfield 56, 3) := by decide +kernel
theorem dX7_noWay_30 : decode cX7_noWay 30 = .ok (.getfield 182, 3) := by decide +kernel
theorem dX7_noWay_33 : decode cX7_noWay 33 = .ok (.if_icmp .lt 7, 3) := by decide +kernel
theorem dX7_noWay_36 : decode cX7_noWay 36 = .ok (.iconst 1, 1) := by decide +kernel
theorem dX7_noWay_37 : decode cX7_noWay 37 = .ok (.goto 4, 3) := by decide +kernel
theorem dX7_noWay_40 : decode cX7_noWay 40 = .ok (.iconst 0, 1) := by decide +kernel
theorem dX7_noWay_41 : decode cX7_noWay 41 = .ok (.iconst 1, 1) := by decide +kernel
theorem dX7_noWay_42 : decode cX7_noWay 42 = .ok (.invokevirtual 304, 3) := by decide +kernel
theorem dX7_noWay_45 : decode cX7_noWay 45 = .ok (.ireturn, 1) := by decide +kernel
theorem dX7_shown_0 : decode cX7_shown 0 = .ok (.iload_n 0, 1) := by decide +kernel
theorem dX7_shown_1 : decode cX7_shown 1 = .ok (.sipush 1000, 3) := by decide +kernel
theorem dX7_shown_4 : decode cX7_shown 4 = .ok (.if_icmp .lt 8, 3) := by decide +kernel
theorem dX7_shown_7 : decode cX7_shown 7 = .ok (.bipush (-2), 2) := by decide +kernel
theorem dX7_shown_9 : decode cX7_shown 9 = .ok (.goto 4, 3) := by decide +kernel
theorem dX7_shown_12 : decode cX7_shown 12 = .ok (.iload_n 0, 1) := by decide +kernel
theorem dX7_shown_13 : decode cX7_shown 13 = .ok (.ireturn, 1) := by decide +kernel
theorem dX7_burnEver_0 : decode cX7_burnEver 0 = .ok (.aload_n 0, 1) := by decide +kernel
theorem dX7_burnEver_1 : decode cX7_burnEver 1 = .ok (.getfield 47, 3) := by decide +kernel
theorem dX7_burnEver_4 : decode cX7_burnEver 4 = .ok (.iload_n 1, 1) := by decide +kernel
theorem dX7_burnEver_5 : decode cX7_burnEver 5 = .ok (.sipush 999, 3) := by decide +kernel
theorem dX7_burnEver_8 : decode cX7_burnEver 8 = .ok (.invokevirtual 155, 3) := by decide +kernel
theorem dX7_burnEver_11 : decode cX7_burnEver 11 = .ok (.invokestatic 200, 3) := by decide +kernel
theorem dX7_burnEver_14 : decode cX7_burnEver 14 = .ok (.ireturn, 1) := by decide +kernel
theorem dX7_turnWire_0 : decode cX7_turnWire 0 = .ok (.aload_n 0, 1) := by decide +kernel
theorem dX7_turnWire_1 : decode cX7_turnWire 1 = .ok (.iload_n 1, 1) := by decide +kernel
theorem dX7_turnWire_2 : decode cX7_turnWire 2 = .ok (.invokevirtual 113, 3) := by decide +kernel
theorem dX7_turnWire_5 : decode cX7_turnWire 5 = .ok (.ifCond .ne 31, 3) := by decide +kernel
theorem dX7_turnWire_8 : decode cX7_turnWire 8 = .ok (.aload_n 0, 1) := by decide +kernel
theorem dX7_turnWire_9 : decode cX7_turnWire 9 = .ok (.aload_n 0, 1) := by decide +kernel
theorem dX7_turnWire_10 : decode cX7_turnWire 10 = .ok (.getfield 38, 3) := by decide +kernel
theorem dX7_turnWire_13 : decode cX7_turnWire 13 = .ok (.getfield 134, 3) := by decide +kernel
theorem dX7_turnWire_16 : decode cX7_turnWire 16 = .ok (.iload_n 1, 1) := by decide +kernel
theorem dX7_turnWire_17 : decode cX7_turnWire 17 = .ok (.ishr, 1) := by decide +kernel
theorem dX7_turnWire_18 : decode cX7_turnWire 18 = .ok (.iconst 1, 1) := by decide +kernel
theorem dX7_turnWire_19 : decode cX7_turnWire 19 = .ok (.iand, 1) := by decide +kernel
theorem dX7_turnWire_20 : decode cX7_turnWire 20 = .ok (.iload_n 2, 1) := by decide +kernel
theorem dX7_turnWire_21 : decode cX7_turnWire 21 = .ok (.if_icmp .ne 7, 3) := by decide +kernel
theorem dX7_turnWire_24 : decode cX7_turnWire 24 = .ok (.iconst 1, 1) := by decide +kernel
theorem dX7_turnWire_25 : decode cX7_turnWire 25 = .ok (.goto 4, 3) := by decide +kernel
theorem dX7_turnWire_28 : decode cX7_turnWire 28 = .ok (.iconst 0, 1) := by decide +kernel
theorem dX7_turnWire_29 : decode cX7_turnWire 29 = .ok (.iconst 5, 1) := by decide +kernel
theorem dX7_turnWire_30 : decode cX7_turnWire 30 = .ok (.invokevirtual 304, 3) := by decide +kernel
theorem dX7_turnWire_33 : decode cX7_turnWire 33 = .ok (.ifCond .eq 5, 3) := by decide +kernel
theorem dX7_turnWire_36 : decode cX7_turnWire 36 = .ok (.iconst 0, 1) := by decide +kernel
theorem dX7_turnWire_37 : decode cX7_turnWire 37 = .ok (.ireturn, 1) := by decide +kernel
theorem dX7_turnWire_38 : decode cX7_turnWire 38 = .ok (.aload_n 0, 1) := by decide +kernel
theorem dX7_turnWire_39 : decode cX7_turnWire 39 = .ok (.getfield 38, 3) := by decide +kernel
theorem dX7_turnWire_42 : decode cX7_turnWire 42 = .ok (.invokevirtual 266, 3) := by decide +kernel
theorem dX7_turnWire_45 : decode cX7_turnWire 45 = .ok (.aload_n 0, 1) := by decide +kernel
theorem dX7_turnWire_46 : decode cX7_turnWire 46 = .ok (.getfield 38, 3) := by decide +kernel
theorem dX7_turnWire_49 : decode cX7_turnWire 49 = .ok (.dup, 1) := by decide +kernel
theorem dX7_turnWire_50 : decode cX7_turnWire 50 = .ok (.getfield 134, 3) := by decide +kernel
theorem dX7_turnWire_53 : decode cX7_turnWire 53 = .ok (.iconst 1, 1) := by decide +kernel
theorem dX7_turnWire_54 : decode cX7_turnWire 54 = .ok (.iload_n 1, 1) := by decide +kernel
theorem dX7_turnWire_55 : decode cX7_turnWire 55 = .ok (.ishl, 1) := by decide +kernel
theorem dX7_turnWire_56 : decode cX7_turnWire 56 = .ok (.ixor, 1) := by decide +kernel
theorem dX7_turnWire_57 : decode cX7_turnWire 57 = .ok (.putfield 134, 3) := by decide +kernel
theorem dX7_turnWire_60 : decode cX7_turnWire 60 = .ok (.iconst 1, 1) := by decide +kernel
theorem dX7_turnWire_61 : decode cX7_turnWire 61 = .ok (.ireturn, 1) := by decide +kernel
theorem dX7_has_0 : decode cX7_has 0 = .ok (.iload_n 1, 1) := by decide +kernel
theorem dX7_has_1 : decode cX7_has 1 = .ok (.ifCond .eq 21, 3) := by decide +kernel
theorem dX7_has_4 : decode cX7_has 4 = .ok (.iload_n 2, 1) := by decide +kernel
theorem dX7_has_5 : decode cX7_has 5 = .ok (.ifCond .eq 7, 3) := by decide +kernel
theorem dX7_has_8 : decode cX7_has 8 = .ok (.iconst 1, 1) := by decide +kernel
theorem dX7_has_9 : decode cX7_has 9 = .ok (.goto 4, 3) := by decide +kernel
theorem dX7_has_12 : decode cX7_has 12 = .ok (.iconst 4, 1) := by decide +kernel
theorem dX7_has_13 : decode cX7_has 13 = .ok (.aload_n 0, 1) := by decide +kernel
theorem dX7_has_14 : decode cX7_has 14 = .ok (.getfield 10, 3) := by decide +kernel
theorem dX7_has_17 : decode cX7_has 17 = .ok (.getfield 289, 3) := by decide +kernel
theorem dX7_has_20 : decode cX7_has 20 = .ok (.isub, 1) := by decide +kernel
theorem dX7_has_21 : decode cX7_has 21 = .ok (.ireturn, 1) := by decide +kernel
theorem dX7_has_22 : decode cX7_has 22 = .ok (.iload_n 2, 1) := by decide +kernel
theorem dX7_has_23 : decode cX7_has 23 = .ok (.ifCond .eq 7, 3) := by decide +kernel
theorem dX7_has_26 : decode cX7_has 26 = .ok (.iconst 3, 1) := by decide +kernel
theorem dX7_has_27 : decode cX7_has 27 = .ok (.goto 4, 3) := by decide +kernel
theorem dX7_has_30 : decode cX7_has 30 = .ok (.iconst 0, 1) := by decide +kernel
theorem dX7_has_31 : decode cX7_has 31 = .ok (.ireturn, 1) := by decide +kernel
theorem dX7_stays_0 : decode cX7_stays 0 = .ok (.aload_n 0, 1) := by decide +kernel
theorem dX7_stays_1 : decode cX7_stays 1 = .ok (.iload_n 1, 1) := by decide +kernel
theorem dX7_stays_2 : decode cX7_stays 2 = .ok (.iload_n 2, 1) := by decide +kernel
theorem dX7_stays_3 : decode cX7_stays 3 = .ok (.invokevirtual 239, 3) := by decide +kernel
theorem dX7_stays_6 : decode cX7_stays 6 = .ok (.aload_n 0, 1) := by decide +kernel
theorem dX7_stays_7 : decode cX7_stays 7 = .ok (.iload_n 1, 1) := by decide +kernel
theorem dX7_stays_8 : decode cX7_stays 8 = .ok (.ifCond .ne 7, 3) := by decide +kernel
theorem dX7_stays_11 : decode cX7_stays 11 = .ok (.iconst 1, 1) := by decide +kernel
theorem dX7_stays_12 : decode cX7_stays 12 = .ok (.goto 4, 3) := by decide +kernel
theorem dX7_stays_15 : decode cX7_stays 15 = .ok (.iconst 0, 1) := by decide +kernel
theorem dX7_stays_16 : decode cX7_stays 16 = .ok (.iload_n 2, 1) := by decide +kernel
theorem dX7_stays_17 : decode cX7_stays 17 = .ok (.invokevirtual 239, 3) := by decide +kernel
theorem dX7_stays_20 : decode cX7_stays 20 = .ok (.if_icmp .lt 30, 3) := by decide +kernel
theorem dX7_stays_23 : decode cX7_stays 23 = .ok (.aload_n 0, 1) := by decide +kernel
theorem dX7_stays_24 : decode cX7_stays 24 = .ok (.iload_n 2, 1) := by decide +kernel
theorem dX7_stays_25 : decode cX7_stays 25 = .ok (.iload_n 1, 1) := by decide +kernel
theorem dX7_stays_26 : decode cX7_stays 26 = .ok (.invokevirtual 239, 3) := by decide +kernel
theorem dX7_stays_29 : decode cX7_stays 29 = .ok (.aload_n 0, 1) := by decide +kernel
theorem dX7_stays_30 : decode cX7_stays 30 = .ok (.iload_n 2, 1) := by decide +kernel
theorem dX7_stays_31 : decode cX7_stays 31 = .ok (.ifCond .ne 7, 3) := by decide +kernel
theorem dX7_stays_34 : decode cX7_stays 34 = .ok (.iconst 1, 1) := by decide +kernel
theorem dX7_stays_35 : decode cX7_stays 35 = .ok (.goto 4, 3) := by decide +kernel
theorem dX7_stays_38 : decode cX7_stays 38 = .ok (.iconst 0, 1) := by decide +kernel
theorem dX7_stays_39 : decode cX7_stays 39 = .ok (.iload_n 1, 1) := by decide +kernel
theorem dX7_stays_40 : decode cX7_stays 40 = .ok (.invokevirtual 239, 3) := by decide +kernel
theorem dX7_stays_43 : decode cX7_stays 43 = .ok (.if_icmp .lt 7, 3) := by decide +kernel
theorem dX7_stays_46 : decode cX7_stays 46 = .ok (.iconst 1, 1) := by decide +kernel
theorem dX7_stays_47 : decode cX7_stays 47 = .ok (.goto 4, 3) := by decide +kernel
theorem dX7_stays_50 : decode cX7_stays 50 = .ok (.iconst 0, 1) := by decide +kernel
theorem dX7_stays_51 : decode cX7_stays 51 = .ok (.ireturn, 1) := by decide +kernel
theorem dX7_overAll_0 : decode cX7_overAll 0 = .ok (.lconst 0, 1) := by decide +kernel
theorem dX7_overAll_1 : decode cX7_overAll 1 = .ok (.lstore 5, 2) := by decide +kernel
theorem dX7_overAll_3 : decode cX7_overAll 3 = .ok (.iconst 0, 1) := by decide +kernel
theorem dX7_overAll_4 : decode cX7_overAll 4 = .ok (.istore 7, 2) := by decide +kernel
theorem dX7_overAll_6 : decode cX7_overAll 6 = .ok (.iload 7, 2) := by decide +kernel
theorem dX7_overAll_8 : decode cX7_overAll 8 = .ok (.bipush 64, 2) := by decide +kernel
theorem dX7_overAll_10 : decode cX7_overAll 10 = .ok (.if_icmp .ge 65, 3) := by decide +kernel
theorem dX7_overAll_13 : decode cX7_overAll 13 = .ok (.aload_n 0, 1) := by decide +kernel
theorem dX7_overAll_14 : decode cX7_overAll 14 = .ok (.getfield 47, 3) := by decide +kernel
theorem dX7_overAll_17 : decode cX7_overAll 17 = .ok (.iload 7, 2) := by decide +kernel
theorem dX7_overAll_19 : decode cX7_overAll 19 = .ok (.aload_n 0, 1) := by decide +kernel
theorem dX7_overAll_20 : decode cX7_overAll 20 = .ok (.getfield 38, 3) := by decide +kernel
theorem dX7_overAll_23 : decode cX7_overAll 23 = .ok (.getfield 121, 3) := by decide +kernel
theorem dX7_overAll_26 : decode cX7_overAll 26 = .ok (.invokevirtual 309, 3) := by decide +kernel
theorem dX7_overAll_29 : decode cX7_overAll 29 = .ok (.lstore 8, 2) := by decide +kernel
theorem dX7_overAll_31 : decode cX7_overAll 31 = .ok (.lload 8, 2) := by decide +kernel
theorem dX7_overAll_33 : decode cX7_overAll 33 = .ok (.lconst 0, 1) := by decide +kernel
theorem dX7_overAll_34 : decode cX7_overAll 34 = .ok (.lcmp, 1) := by decide +kernel
theorem dX7_overAll_35 : decode cX7_overAll 35 = .ok (.ifCond .le 34, 3) := by decide +kernel
theorem dX7_overAll_38 : decode cX7_overAll 38 = .ok (.lload 5, 2) := by decide +kernel
theorem dX7_overAll_40 : decode cX7_overAll 40 = .ok (.lload 8, 2) := by decide +kernel
theorem dX7_overAll_42 : decode cX7_overAll 42 = .ok (.iload_n 1, 1) := by decide +kernel
theorem dX7_overAll_43 : decode cX7_overAll 43 = .ok (.iload_n 2, 1) := by decide +kernel
theorem dX7_overAll_44 : decode cX7_overAll 44 = .ok (.aload_n 0, 1) := by decide +kernel
theorem dX7_overAll_45 : decode cX7_overAll 45 = .ok (.getfield 47, 3) := by decide +kernel
theorem dX7_overAll_48 : decode cX7_overAll 48 = .ok (.iload 7, 2) := by decide +kernel
theorem dX7_overAll_50 : decode cX7_overAll 50 = .ok (.aload_n 0, 1) := by decide +kernel
theorem dX7_overAll_51 : decode cX7_overAll 51 = .ok (.getfield 38, 3) := by decide +kernel
theorem dX7_overAll_54 : decode cX7_overAll 54 = .ok (.getfield 121, 3) := by decide +kernel
theorem dX7_overAll_57 : decode cX7_overAll 57 = .ok (.iload_n 3, 1) := by decide +kernel
theorem dX7_overAll_58 : decode cX7_overAll 58 = .ok (.invokevirtual 263, 3) := by decide +kernel
theorem dX7_overAll_61 : decode cX7_overAll 61 = .ok (.invokestatic 313, 3) := by decide +kernel
theorem dX7_overAll_64 : decode cX7_overAll 64 = .ok (.i2l, 1) := by decide +kernel
theorem dX7_overAll_65 : decode cX7_overAll 65 = .ok (.lmul, 1) := by decide +kernel
theorem dX7_overAll_66 : decode cX7_overAll 66 = .ok (.ladd, 1) := by decide +kernel
theorem dX7_overAll_67 : decode cX7_overAll 67 = .ok (.lstore 5, 2) := by decide +kernel
theorem dX7_overAll_69 : decode cX7_overAll 69 = .ok (.iinc 7 1, 3) := by decide +kernel
theorem dX7_overAll_72 : decode cX7_overAll 72 = .ok (.goto (-66), 3) := by decide +kernel
theorem dX7_overAll_75 : decode cX7_overAll 75 = .ok (.lload 5, 2) := by decide +kernel
theorem dX7_overAll_77 : decode cX7_overAll 77 = .ok (.aload_n 0, 1) := by decide +kernel
theorem dX7_overAll_78 : decode cX7_overAll 78 = .ok (.getfield 47, 3) := by decide +kernel
theorem dX7_overAll_81 : decode cX7_overAll 81 = .ok (.aload_n 0, 1) := by decide +kernel
theorem dX7_overAll_82 : decode cX7_overAll 82 = .ok (.getfield 38, 3) := by decide +kernel
theorem dX7_overAll_85 : decode cX7_overAll 85 = .ok (.getfield 121, 3) := by decide +kernel
theorem dX7_overAll_88 : decode cX7_overAll 88 = .ok (.invokevirtual 316, 3) := by decide +kernel
theorem dX7_overAll_91 : decode cX7_overAll 91 = .ok (.iload 4, 2) := by decide +kernel
theorem dX7_overAll_93 : decode cX7_overAll 93 = .ok (.invokestatic 320, 3) := by decide +kernel
theorem dX7_overAll_96 : decode cX7_overAll 96 = .ok (.lreturn, 1) := by decide +kernel
theorem dX7_counted_0 : decode cX7_counted 0 = .ok (.iload_n 0, 1) := by decide +kernel
theorem dX7_counted_1 : decode cX7_counted 1 = .ok (.lookupswitch 43 #[(0, 27), (1, 33)], 27) := by decide +kernel
theorem dX7_counted_28 : decode cX7_counted 28 = .ok (.iload_n 2, 1) := by decide +kernel
theorem dX7_counted_29 : decode cX7_counted 29 = .ok (.iload_n 1, 1) := by decide +kernel
theorem dX7_counted_30 : decode cX7_counted 30 = .ok (.ishr, 1) := by decide +kernel
theorem dX7_counted_31 : decode cX7_counted 31 = .ok (.iconst 1, 1) := by decide +kernel
theorem dX7_counted_32 : decode cX7_counted 32 = .ok (.iand, 1) := by decide +kernel
theorem dX7_counted_33 : decode cX7_counted 33 = .ok (.ireturn, 1) := by decide +kernel
theorem dX7_counted_34 : decode cX7_counted 34 = .ok (.iload_n 2, 1) := by decide +kernel
theorem dX7_counted_35 : decode cX7_counted 35 = .ok (.ifCond .ne 7, 3) := by decide +kernel
theorem dX7_counted_38 : decode cX7_counted 38 = .ok (.iconst 1, 1) := by decide +kernel
theorem dX7_counted_39 : decode cX7_counted 39 = .ok (.goto 4, 3) := by decide +kernel
theorem dX7_counted_42 : decode cX7_counted 42 = .ok (.iconst 0, 1) := by decide +kernel
theorem dX7_counted_43 : decode cX7_counted 43 = .ok (.ireturn, 1) := by decide +kernel
theorem dX7_counted_44 : decode cX7_counted 44 = .ok (.iload_n 2, 1) := by decide +kernel
theorem dX7_counted_45 : decode cX7_counted 45 = .ok (.invokestatic 200, 3) := by decide +kernel
theorem dX7_counted_48 : decode cX7_counted 48 = .ok (.ireturn, 1) := by decide +kernel
theorem dX7_lowest_0 : decode cX7_lowest 0 = .ok (.lload_n 2, 1) := by decide +kernel
theorem dX7_lowest_1 : decode cX7_lowest 1 = .ok (.lstore 5, 2) := by decide +kernel
theorem dX7_lowest_3 : decode cX7_lowest 3 = .ok (.lload_n 0, 1) := by decide +kernel
theorem dX7_lowest_4 : decode cX7_lowest 4 = .ok (.lstore 7, 2) := by decide +kernel
theorem dX7_lowest_6 : decode cX7_lowest 6 = .ok (.iconst 0, 1) := by decide +kernel
theorem dX7_lowest_7 : decode cX7_lowest 7 = .ok (.istore 9, 2) := by decide +kernel
theorem dX7_lowest_9 : decode cX7_lowest 9 = .ok (.iload 9, 2) := by decide +kernel
theorem dX7_lowest_11 : decode cX7_lowest 11 = .ok (.sipush 200, 3) := by decide +kernel
theorem dX7_lowest_14 : decode cX7_lowest 14 = .ok (.if_icmp .ge 31, 3) := by decide +kernel
theorem dX7_lowest_17 : decode cX7_lowest 17 = .ok (.lload 7, 2) := by decide +kernel
theorem dX7_lowest_19 : decode cX7_lowest 19 = .ok (.lconst 0, 1) := by decide +kernel
theorem dX7_lowest_20 : decode cX7_lowest 20 = .ok (.lcmp, 1) := by decide +kernel
theorem dX7_lowest_21 : decode cX7_lowest 21 = .ok (.ifCond .eq 24, 3) := by decide +kernel
theorem dX7_lowest_24 : decode cX7_lowest 24 = .ok (.lload 5, 2) := by decide +kernel
theorem dX7_lowest_26 : decode cX7_lowest 26 = .ok (.lload 7, 2) := by decide +kernel
theorem dX7_lowest_28 : decode cX7_lowest 28 = .ok (.lrem, 1) := by decide +kernel
theorem dX7_lowest_29 : decode cX7_lowest 29 = .ok (.lstore 10, 2) := by decide +kernel
theorem dX7_lowest_31 : decode cX7_lowest 31 = .ok (.lload 7, 2) := by decide +kernel
theorem dX7_lowest_33 : decode cX7_lowest 33 = .ok (.lstore 5, 2) := by decide +kernel
theorem dX7_lowest_35 : decode cX7_lowest 35 = .ok (.lload 10, 2) := by decide +kernel
theorem dX7_lowest_37 : decode cX7_lowest 37 = .ok (.lstore 7, 2) := by decide +kernel
theorem dX7_lowest_39 : decode cX7_lowest 39 = .ok (.iinc 9 1, 3) := by decide +kernel
theorem dX7_lowest_42 : decode cX7_lowest 42 = .ok (.goto (-33), 3) := by decide +kernel
theorem dX7_lowest_45 : decode cX7_lowest 45 = .ok (.lload 5, 2) := by decide +kernel
theorem dX7_lowest_47 : decode cX7_lowest 47 = .ok (.lconst 0, 1) := by decide +kernel
theorem dX7_lowest_48 : decode cX7_lowest 48 = .ok (.lcmp, 1) := by decide +kernel
theorem dX7_lowest_49 : decode cX7_lowest 49 = .ok (.ifCond .gt 14, 3) := by decide +kernel
theorem dX7_lowest_52 : decode cX7_lowest 52 = .ok (.iload 4, 2) := by decide +kernel
theorem dX7_lowest_54 : decode cX7_lowest 54 = .ok (.ifCond .eq 7, 3) := by decide +kernel
theorem dX7_lowest_57 : decode cX7_lowest 57 = .ok (.lconst 1, 1) := by decide +kernel
theorem dX7_lowest_58 : decode cX7_lowest 58 = .ok (.goto 4, 3) := by decide +kernel
theorem dX7_lowest_61 : decode cX7_lowest 61 = .ok (.lconst 0, 1) := by decide +kernel
theorem dX7_lowest_62 : decode cX7_lowest 62 = .ok (.lreturn, 1) := by decide +kernel
theorem dX7_lowest_63 : decode cX7_lowest 63 = .ok (.iload 4, 2) := by decide +kernel
theorem dX7_lowest_65 : decode cX7_lowest 65 = .ok (.ifCond .eq 10, 3) := by decide +kernel
theorem dX7_lowest_68 : decode cX7_lowest 68 = .ok (.lload_n 2, 1) := by decide +kernel
theorem dX7_lowest_69 : decode cX7_lowest 69 = .ok (.lload 5, 2) := by decide +kernel
theorem dX7_lowest_71 : decode cX7_lowest 71 = .ok (.ldiv, 1) := by decide +kernel
theorem dX7_lowest_72 : decode cX7_lowest 72 = .ok (.goto 7, 3) := by decide +kernel
theorem dX7_lowest_75 : decode cX7_lowest 75 = .ok (.lload_n 0, 1) := by decide +kernel
theorem dX7_lowest_76 : decode cX7_lowest 76 = .ok (.lload 5, 2) := by decide +kernel
theorem dX7_lowest_78 : decode cX7_lowest 78 = .ok (.ldiv, 1) := by decide +kernel
theorem dX7_lowest_79 : decode cX7_lowest 79 = .ok (.lreturn, 1) := by decide +kernel
theorem dX8_init_0 : decode cX8_init 0 = .ok (.aload_n 0, 1) := by decide +kernel
theorem dX8_init_1 : decode cX8_init 1 = .ok (.invokespecial 3, 3) := by decide +kernel
theorem dX8_init_4 : decode cX8_init 4 = .ok (.aload_n 0, 1) := by decide +kernel
theorem dX8_init_5 : decode cX8_init 5 = .ok (.iconst (-1), 1) := by decide +kernel
theorem dX8_init_6 : decode cX8_init 6 = .ok (.putfield 9, 3) := by decide +kernel
theorem dX8_init_9 : decode cX8_init 9 = .ok (.aload_n 0, 1) := by decide +kernel
theorem dX8_init_10 : decode cX8_init 10 = .ok (.bipush 6, 2) := by decide +kernel
theorem dX8_init_12 : decode cX8_init 12 = .ok (.newarray .int, 2) := by decide +kernel
theorem dX8_init_14 : decode cX8_init 14 = .ok (.putfield 15, 3) := by decide +kernel
theorem dX8_init_17 : decode cX8_init 17 = .ok (.aload_n 0, 1) := by decide +kernel
theorem dX8_init_18 : decode cX8_init 18 = .ok (.bipush 6, 2) := by decide +kernel
theorem dX8_init_20 : decode cX8_init 20 = .ok (.newarray .int, 2) := by decide +kernel
theorem dX8_init_22 : decode cX8_init 22 = .ok (.putfield 19, 3) := by decide +kernel
theorem dX8_init_25 : decode cX8_init 25 = .ok (.aload_n 0, 1) := by decide +kernel
theorem dX8_init_26 : decode cX8_init 26 = .ok (.bipush 6, 2) := by decide +kernel
theorem dX8_init_28 : decode cX8_init 28 = .ok (.newarray .int, 2) := by decide +kernel
theorem dX8_init_30 : decode cX8_init 30 = .ok (.putfield 22, 3) := by decide +kernel
theorem dX8_init_33 : decode cX8_init 33 = .ok (.aload_n 0, 1) := by decide +kernel
theorem dX8_init_34 : decode cX8_init 34 = .ok (.bipush 6, 2) := by decide +kernel
theorem dX8_init_36 : decode cX8_init 36 = .ok (.newarray .int, 2) := by decide +kernel
theorem dX8_init_38 : decode cX8_init 38 = .ok (.putfield 25, 3) := by decide +kernel
theorem dX8_init_41 : decode cX8_init 41 = .ok (.aload_n 0, 1) := by decide +kernel
theorem dX8_init_42 : decode cX8_init 42 = .ok (.bipush 9, 2) := by decide +kernel
theorem dX8_init_44 : decode cX8_init 44 = .ok (.newarray .int, 2) := by decide +kernel
theorem dX8_init_46 : decode cX8_init 46 = .ok (.putfield 28, 3) := by decide +kernel
theorem dX8_init_49 : decode cX8_init 49 = .ok (.aload_n 0, 1) := by decide +kernel
theorem dX8_init_50 : decode cX8_init 50 = .ok (.bipush 9, 2) := by decide +kernel
theorem dX8_init_52 : decode cX8_init 52 = .ok (.newarray .int, 2) := by decide +kernel
theorem dX8_init_54 : decode cX8_init 54 = .ok (.putfield 31, 3) := by decide +kernel
theorem dX8_init_57 : decode cX8_init 57 = .ok (.aload_n 0, 1) := by decide +kernel
theorem dX8_init_58 : decode cX8_init 58 = .ok (.bipush 9, 2) := by decide +kernel
theorem dX8_init_60 : decode cX8_init 60 = .ok (.newarray .int, 2) := by decide +kernel
theorem dX8_init_62 : decode cX8_init 62 = .ok (.putfield 34, 3) := by decide +kernel
theorem dX8_init_65 : decode cX8_init 65 = .ok (.aload_n 0, 1) := by decide +kernel
theorem dX8_init_66 : decode cX8_init 66 = .ok (.iconst 4, 1) := by decide +kernel
theorem dX8_init_67 : decode cX8_init 67 = .ok (.newarray .int, 2) := by decide +kernel
theorem dX8_init_69 : decode cX8_init 69 = .ok (.putfield 37, 3) := by decide +kernel
theorem dX8_init_72 : decode cX8_init 72 = .ok (.aload_n 0, 1) := by decide +kernel
theorem dX8_init_73 : decode cX8_init 73 = .ok (.iconst 2, 1) := by decide +kernel
theorem dX8_init_74 : decode cX8_init 74 = .ok (.newarray .int, 2) := by decide +kernel
theorem dX8_init_76 : decode cX8_init 76 = .ok (.putfield 40, 3) := by decide +kernel
theorem dX8_init_79 : decode cX8_init 79 = .ok (.aload_n 0, 1) := by decide +kernel
theorem dX8_init_80 : decode cX8_init 80 = .ok (.iconst 4, 1) := by decide +kernel
theorem dX8_init_81 : decode cX8_init 81 = .ok (.newarray .int, 2) := by decide +kernel
theorem dX8_init_83 : decode cX8_init 83 = .ok (.putfield 43, 3) := by decide +kernel
theorem dX8_init_86 : decode cX8_init 86 = .ok (.aload_n 0, 1) := by decide +kernel
theorem dX8_init_87 : decode cX8_init 87 = .ok (.iconst 4, 1) := by decide +kernel
theorem dX8_init_88 : decode cX8_init 88 = .ok (.newarray .int, 2) := by decide +kernel
theorem dX8_init_90 : decode cX8_init 90 = .ok (.putfield 46, 3) := by decide +kernel
theorem dX8_init_93 : decode cX8_init 93 = .ok (.aload_n 0, 1) := by decide +kernel
theorem dX8_init_94 : decode cX8_init 94 = .ok (.bipush 6, 2) := by decide +kernel
theorem dX8_init_96 : decode cX8_init 96 = .ok (.newarray .long, 2) := by decide +kernel
theorem dX8_init_98 : decode cX8_init 98 = .ok (.putfield 49, 3) := by decide +kernel
theorem dX8_init_101 : decode cX8_init 101 = .ok (.return_, 1) := by decide +kernel
theorem dX8_find_0 : decode cX8_find 0 = .ok (.iconst 0, 1) := by decide +kernel
theorem dX8_find_1 : decode cX8_find 1 = .ok (.istore_n 3, 1) := by decide +kernel
theorem dX8_find_2 : decode cX8_find 2 = .ok (.iload_n 3, 1) := by decide +kernel
theorem dX8_find_3 : decode cX8_find 3 = .ok (.aload_n 0, 1) := by decide +kernel
theorem dX8_find_4 : decode cX8_find 4 = .ok (.getfield 53, 3) := by decide +kernel
theorem dX8_find_7 : decode cX8_find 7 = .ok (.if_icmp .ge 22, 3) := by decide +kernel
theorem dX8_find_10 : decode cX8_find 10 = .ok (.aload_n 0, 1) := by decide +kernel
theorem dX8_find_11 : decode cX8_find 11 = .ok (.getfield 49, 3) := by decide +kernel
theorem dX8_find_14 : decode cX8_find 14 = .ok (.iload_n 3, 1) := by decide +kernel
theorem dX8_find_15 : decode cX8_find 15 = .ok (.laload, 1) := by decide +kernel
theorem dX8_find_16 : decode cX8_find 16 = .ok (.lload_n 1, 1) := by decide +kernel
theorem dX8_find_17 : decode cX8_find 17 = .ok (.lcmp, 1) := by decide +kernel
theorem dX8_find_18 : decode cX8_find 18 = .ok (.ifCond .ne 5, 3) := by decide +kernel
theorem dX8_find_21 : decode cX8_find 21 = .ok (.iload_n 3, 1) := by decide +kernel
theorem dX8_find_22 : decode cX8_find 22 = .ok (.ireturn, 1) := by decide +kernel
theorem dX8_find_23 : decode cX8_find 23 = .ok (.iinc 3 1, 3) := by decide +kernel
theorem dX8_find_26 : decode cX8_find 26 = .ok (.goto (-24), 3) := by decide +kernel
theorem dX8_find_29 : decode cX8_find 29 = .ok (.iconst (-1), 1) := by decide +kernel
theorem dX8_find_30 : decode cX8_find 30 = .ok (.ireturn, 1) := by decide +kernel
theorem dX8_isSpark_0 : decode cX8_isSpark 0 = .ok (.iconst 0, 1) := by decide +kernel
theorem dX8_isSpark_1 : decode cX8_isSpark 1 = .ok (.istore_n 3, 1) := by decide +kernel
theorem dX8_isSpark_2 : decode cX8_isSpark 2 = .ok (.iload_n 3, 1) := by decide +kernel
theorem dX8_isSpark_3 : decode cX8_isSpark 3 = .ok (.aload_n 0, 1) := by decide +kernel
theorem dX8_isSpark_4 : decode cX8_isSpark 4 = .ok (.getfield 56, 3) := by decide +kernel
theorem dX8_isSpark_7 : decode cX8_isSpark 7 = .ok (.if_icmp .ge 31, 3) := by decide +kernel
theorem dX8_isSpark_10 : decode cX8_isSpark 10 = .ok (.aload_n 0, 1) := by decide +kernel
theorem dX8_isSpark_11 : decode cX8_isSpark 11 = .ok (.getfield 28, 3) := by decide +kernel
theorem dX8_isSpark_14 : decode cX8_isSpark 14 = .ok (.iload_n 3, 1) := by decide +kernel
theorem dX8_isSpark_15 : decode cX8_isSpark 15 = .ok (.iaload, 1) := by decide +kernel
theorem dX8_isSpark_16 : decode cX8_isSpark 16 = .ok (.iload_n 1, 1) := by decide +kernel
theorem dX8_isSpark_17 : decode cX8_isSpark 17 = .ok (.if_icmp .ne 15, 3) := by decide +kernel
theorem dX8_isSpark_20 : decode cX8_isSpark 20 = .ok (.aload_n 0, 1) := by decide +kernel
theorem dX8_isSpark_21 : decode cX8_isSpark 21 = .ok (.getfield 31, 3) := by decide +kernel
theorem dX8_isSpark_24 : decode cX8_isSpark 24 = .ok (.iload_n 3, 1) := by decide +kernel
theorem dX8_isSpark_25 : decode cX8_isSpark 25 = .ok (.iaload, 1) := by decide +kernel
theorem dX8_isSpark_26 : decode cX8_isSpark 26 = .ok (.iload_n 2, 1) := by decide +kernel
theorem dX8_isSpark_27 : decode cX8_isSpark 27 = .ok (.if_icmp .ne 5, 3) := by decide +kernel
theorem dX8_isSpark_30 : decode cX8_isSpark 30 = .ok (.iconst 1, 1) := by decide +kernel
theorem dX8_isSpark_31 : decode cX8_isSpark 31 = .ok (.ireturn, 1) := by decide +kernel
theorem dX8_isSpark_32 : decode cX8_isSpark 32 = .ok (.iinc 3 1, 3) := by decide +kernel
theorem dX8_isSpark_35 : decode cX8_isSpark 35 = .ok (.goto (-33), 3) := by decide +kernel
theorem dX8_isSpark_38 : decode cX8_isSpark 38 = .ok (.iconst 0, 1) := by decide +kernel
theorem dX8_isSpark_39 : decode cX8_isSpark 39 = .ok (.ireturn, 1) := by decide +kernel
theorem dX8_isUnknown_0 : decode cX8_isUnknown 0 = .ok (.iconst 0, 1) := by decide +kernel
theorem dX8_isUnknown_1 : decode cX8_isUnknown 1 = .ok (.istore_n 2, 1) := by decide +kernel
theorem dX8_isUnknown_2 : decode cX8_isUnknown 2 = .ok (.iload_n 2, 1) := by decide +kernel
theorem dX8_isUnknown_3 : decode cX8_isUnknown 3 = .ok (.aload_n 0, 1) := by decide +kernel
theorem dX8_isUnknown_4 : decode cX8_isUnknown 4 = .ok (.getfield 59, 3) := by decide +kernel
theorem dX8_isUnknown_7 : decode cX8_isUnknown 7 = .ok (.if_icmp .ge 21, 3) := by decide +kernel
theorem dX8_isUnknown_10 : decode cX8_isUnknown 10 = .ok (.aload_n 0, 1) := by decide +kernel
theorem dX8_isUnknown_11 : decode cX8_isUnknown 11 = .ok (.getfield 40, 3) := by decide +kernel
theorem dX8_isUnknown_14 : decode cX8_isUnknown 14 = .ok (.iload_n 2, 1) := by decide +kernel
theorem dX8_isUnknown_15 : decode cX8_isUnknown 15 = .ok (.iaload, 1) := by decide +kernel
theorem dX8_isUnknown_16 : decode cX8_isUnknown 16 = .ok (.iload_n 1, 1) := by decide +kernel
theorem dX8_isUnknown_17 : decode cX8_isUnknown 17 = .ok (.if_icmp .ne 5, 3) := by decide +kernel
theorem dX8_isUnknown_20 : decode cX8_isUnknown 20 = .ok (.iconst 1, 1) := by decide +kernel
theorem dX8_isUnknown_21 : decode cX8_isUnknown 21 = .ok (.ireturn, 1) := by decide +kernel
theorem dX8_isUnknown_22 : decode cX8_isUnknown 22 = .ok (.iinc 2 1, 3) := by decide +kernel
theorem dX8_isUnknown_25 : decode cX8_isUnknown 25 = .ok (.goto (-23), 3) := by decide +kernel
theorem dX8_isUnknown_28 : decode cX8_isUnknown 28 = .ok (.iconst 0, 1) := by decide +kernel
theorem dX8_isUnknown_29 : decode cX8_isUnknown 29 = .ok (.ireturn, 1) := by decide +kernel
theorem dX8_takes_0 : decode cX8_takes 0 = .ok (.aload_n 0, 1) := by decide +kernel
theorem dX8_takes_1 : decode cX8_takes 1 = .ok (.getfield 15, 3) := by decide +kernel
theorem dX8_takes_4 : decode cX8_takes 4 = .ok (.aload_n 0, 1) := by decide +kernel
theorem dX8_takes_5 : decode cX8_takes 5 = .ok (.getfield 31, 3) := by decide +kernel
theorem dX8_takes_8 : decode cX8_takes 8 = .ok (.iload_n 1, 1) := by decide +kernel
theorem dX8_takes_9 : decode cX8_takes 9 = .ok (.iaload, 1) := by decide +kernel
theorem dX8_takes_10 : decode cX8_takes 10 = .ok (.iaload, 1) := by decide +kernel
theorem dX8_takes_11 : decode cX8_takes 11 = .ok (.istore_n 2, 1) := by decide +kernel
theorem dX8_takes_12 : decode cX8_takes 12 = .ok (.iload_n 2, 1) := by decide +kernel
theorem dX8_takes_13 : decode cX8_takes 13 = .ok (.iconst 3, 1) := by decide +kernel
theorem dX8_takes_14 : decode cX8_takes 14 = .ok (.if_icmp .ne 7, 3) := by decide +kernel
theorem dX8_takes_17 : decode cX8_takes 17 = .ok (.sipush 9999, 3) := by decide +kernel
theorem dX8_takes_20 : decode cX8_takes 20 = .ok (.ireturn, 1) := by decide +kernel
theorem dX8_takes_21 : decode cX8_takes 21 = .ok (.iload_n 2, 1) := by decide +kernel
theorem dX8_takes_22 : decode cX8_takes 22 = .ok (.ifCond .ne 14, 3) := by decide +kernel
theorem dX8_takes_25 : decode cX8_takes 25 = .ok (.aload_n 0, 1) := by decide +kernel
theorem dX8_takes_26 : decode cX8_takes 26 = .ok (.getfield 34, 3) := by decide +kernel
theorem dX8_takes_29 : decode cX8_takes 29 = .ok (.iload_n 1, 1) := by decide +kernel
theorem dX8_takes_30 : decode cX8_takes 30 = .ok (.iaload, 1) := by decide +kernel
theorem dX8_takes_31 : decode cX8_takes 31 = .ok (.iconst 1, 1) := by decide +kernel
theorem dX8_takes_32 : decode cX8_takes 32 = .ok (.iadd, 1) := by decide +kernel
theorem dX8_takes_33 : decode cX8_takes 33 = .ok (.goto 34, 3) := by decide +kernel
theorem dX8_takes_36 : decode cX8_takes 36 = .ok (.iload_n 2, 1) := by decide +kernel
theorem dX8_takes_37 : decode cX8_takes 37 = .ok (.iconst 1, 1) := by decide +kernel
theorem dX8_takes_38 : decode cX8_takes 38 = .ok (.if_icmp .ne 23, 3) := by decide +kernel
theorem dX8_takes_41 : decode cX8_takes 41 = .ok (.aload_n 0, 1) := by decide +kernel
theorem dX8_takes_42 : decode cX8_takes 42 = .ok (.getfield 34, 3) := by decide +kernel
theorem dX8_takes_45 : decode cX8_takes 45 = .ok (.iload_n 1, 1) := by decide +kernel
theorem dX8_takes_46 : decode cX8_takes 46 = .ok (.iaload, 1) := by decide +kernel
theorem dX8_takes_47 : decode cX8_takes 47 = .ok (.ifCond .le 14, 3) := by decide +kernel
theorem dX8_takes_50 : decode cX8_takes 50 = .ok (.aload_n 0, 1) := by decide +kernel
theorem dX8_takes_51 : decode cX8_takes 51 = .ok (.getfield 34, 3) := by decide +kernel
theorem dX8_takes_54 : decode cX8_takes 54 = .ok (.iload_n 1, 1) := by decide +kernel
theorem dX8_takes_55 : decode cX8_takes 55 = .ok (.iaload, 1) := by decide +kernel
theorem dX8_takes_56 : decode cX8_takes 56 = .ok (.iconst 1, 1) := by decide +kernel
theorem dX8_takes_57 : decode cX8_takes 57 = .ok (.isub, 1) := by decide +kernel
theorem dX8_takes_58 : decode cX8_takes 58 = .ok (.goto 9, 3) := by decide +kernel
theorem dX8_takes_61 : decode cX8_takes 61 = .ok (.aload_n 0, 1) := by decide +kernel
theorem dX8_takes_62 : decode cX8_takes 62 = .ok (.getfield 34, 3) := by decide +kernel
theorem dX8_takes_65 : decode cX8_takes 65 = .ok (.iload_n 1, 1) := by decide +kernel
theorem dX8_takes_66 : decode cX8_takes 66 = .ok (.iaload, 1) := by decide +kernel
theorem dX8_takes_67 : decode cX8_takes 67 = .ok (.ireturn, 1) := by decide +kernel
theorem dX9_init_0 : decode cX9_init 0 = .ok (.aload_n 0, 1) := by decide +kernel
theorem dX9_init_1 : decode cX9_init 1 = .ok (.invokespecial 3, 3) := by decide +kernel
theorem dX9_init_4 : decode cX9_init 4 = .ok (.aload_n 0, 1) := by decide +kernel
theorem dX9_init_5 : decode cX9_init 5 = .ok (.iconst (-1), 1) := by decide +kernel
theorem dX9_init_6 : decode cX9_init 6 = .ok (.putfield 9, 3) := by decide +kernel
theorem dX9_init_9 : decode cX9_init 9 = .ok (.aload_n 0, 1) := by decide +kernel
theorem dX9_init_10 : decode cX9_init 10 = .ok (.sipush 900, 3) := by decide +kernel
theorem dX9_init_13 : decode cX9_init 13 = .ok (.newarray .byte, 2) := by decide +kernel
theorem dX9_init_15 : decode cX9_init 15 = .ok (.putfield 13, 3) := by decide +kernel
theorem dX9_init_18 : decode cX9_init 18 = .ok (.aload_n 0, 1) := by decide +kernel
theorem dX9_init_19 : decode cX9_init 19 = .ok (.bipush 10, 2) := by decide +kernel
theorem dX9_init_21 : decode cX9_init 21 = .ok (.newarray .int, 2) := by decide +kernel
theorem dX9_init_23 : decode cX9_init 23 = .ok (.putfield 17, 3) := by decide +kernel
theorem dX9_init_26 : decode cX9_init 26 = .ok (.aload_n 0, 1) := by decide +kernel
theorem dX9_init_27 : decode cX9_init 27 = .ok (.bipush 10, 2) := by decide +kernel
theorem dX9_init_29 : decode cX9_init 29 = .ok (.newarray .int, 2) := by decide +kernel
theorem dX9_init_31 : decode cX9_init 31 = .ok (.putfield 21, 3) := by decide +kernel
theorem dX9_init_34 : decode cX9_init 34 = .ok (.aload_n 0, 1) := by decide +kernel
theorem dX9_init_35 : decode cX9_init 35 = .ok (.sipush 160, 3) := by decide +kernel
theorem dX9_init_38 : decode cX9_init 38 = .ok (.newarray .int, 2) := by decide +kernel
theorem dX9_init_40 : decode cX9_init 40 = .ok (.putfield 24, 3) := by decide +kernel
theorem dX9_init_43 : decode cX9_init 43 = .ok (.aload_n 0, 1) := by decide +kernel
theorem dX9_init_44 : decode cX9_init 44 = .ok (.bipush 30, 2) := by decide +kernel
theorem dX9_init_46 : decode cX9_init 46 = .ok (.newarray .int, 2) := by decide +kernel
theorem dX9_init_48 : decode cX9_init 48 = .ok (.putfield 27, 3) := by decide +kernel
theorem dX9_init_51 : decode cX9_init 51 = .ok (.aload_n 0, 1) := by decide +kernel
theorem dX9_init_52 : decode cX9_init 52 = .ok (.bipush 6, 2) := by decide +kernel
theorem dX9_init_54 : decode cX9_init 54 = .ok (.newarray .int, 2) := by decide +kernel
theorem dX9_init_56 : decode cX9_init 56 = .ok (.putfield 30, 3) := by decide +kernel
theorem dX9_init_59 : decode cX9_init 59 = .ok (.aload_n 0, 1) := by decide +kernel
theorem dX9_init_60 : decode cX9_init 60 = .ok (.iconst (-1), 1) := by decide +kernel
theorem dX9_init_61 : decode cX9_init 61 = .ok (.putfield 33, 3) := by decide +kernel
theorem dX9_init_64 : decode cX9_init 64 = .ok (.aload_n 0, 1) := by decide +kernel
theorem dX9_init_65 : decode cX9_init 65 = .ok (.bipush 10, 2) := by decide +kernel
theorem dX9_init_67 : decode cX9_init 67 = .ok (.newarray .int, 2) := by decide +kernel
theorem dX9_init_69 : decode cX9_init 69 = .ok (.putfield 36, 3) := by decide +kernel
theorem dX9_init_72 : decode cX9_init 72 = .ok (.aload_n 0, 1) := by decide +kernel
theorem dX9_init_73 : decode cX9_init 73 = .ok (.iconst 4, 1) := by decide +kernel
theorem dX9_init_74 : decode cX9_init 74 = .ok (.newarray .int, 2) := by decide +kernel
theorem dX9_init_76 : decode cX9_init 76 = .ok (.putfield 39, 3) := by decide +kernel
theorem dX9_init_79 : decode cX9_init 79 = .ok (.aload_n 0, 1) := by decide +kernel
theorem dX9_init_80 : decode cX9_init 80 = .ok (.sipush 637, 3) := by decide +kernel
theorem dX9_init_83 : decode cX9_init 83 = .ok (.newarray .int, 2) := by decide +kernel
theorem dX9_init_85 : decode cX9_init 85 = .ok (.putfield 42, 3) := by decide +kernel
theorem dX9_init_88 : decode cX9_init 88 = .ok (.aload_n 0, 1) := by decide +kernel
theorem dX9_init_89 : decode cX9_init 89 = .ok (.bipush 6, 2) := by decide +kernel
theorem dX9_init_91 : decode cX9_init 91 = .ok (.newarray .long, 2) := by decide +kernel
theorem dX9_init_93 : decode cX9_init 93 = .ok (.putfield 45, 3) := by decide +kernel
theorem dX9_init_96 : decode cX9_init 96 = .ok (.aload_n 0, 1) := by decide +kernel
theorem dX9_init_97 : decode cX9_init 97 = .ok (.bipush 6, 2) := by decide +kernel
theorem dX9_init_99 : decode cX9_init 99 = .ok (.newarray .int, 2) := by decide +kernel
theorem dX9_init_101 : decode cX9_init 101 = .ok (.putfield 49, 3) := by decide +kernel
theorem dX9_init_104 : decode cX9_init 104 = .ok (.return_, 1) := by decide +kernel
theorem dX9_thrown_0 : decode cX9_thrown 0 = .ok (.aload_n 0, 1) := by decide +kernel
theorem dX9_thrown_1 : decode cX9_thrown 1 = .ok (.getfield 52, 3) := by decide +kernel
theorem dX9_thrown_4 : decode cX9_thrown 4 = .ok (.ireturn, 1) := by decide +kernel
theorem dX9_refused_0 : decode cX9_refused 0 = .ok (.aload_n 0, 1) := by decide +kernel
theorem dX9_refused_1 : decode cX9_refused 1 = .ok (.iload_n 1, 1) := by decide +kernel
theorem dX9_refused_2 : decode cX9_refused 2 = .ok (.putfield 55, 3) := by decide +kernel
theorem dX9_refused_5 : decode cX9_refused 5 = .ok (.aload_n 0, 1) := by decide +kernel
theorem dX9_refused_6 : decode cX9_refused 6 = .ok (.iconst (-1), 1) := by decide +kernel
theorem dX9_refused_7 : decode cX9_refused 7 = .ok (.putfield 9, 3) := by decide +kernel
theorem dX9_refused_10 : decode cX9_refused 10 = .ok (.iconst (-1), 1) := by decide +kernel
theorem dX9_refused_11 : decode cX9_refused 11 = .ok (.ireturn, 1) := by decide +kernel
theorem dX9_lost_0 : decode cX9_lost 0 = .ok (.aload_n 0, 1) := by decide +kernel
theorem dX9_lost_1 : decode cX9_lost 1 = .ok (.iload_n 1, 1) := by decide +kernel
theorem dX9_lost_2 : decode cX9_lost 2 = .ok (.invokevirtual 58, 3) := by decide +kernel
theorem dX9_lost_5 : decode cX9_lost 5 = .ok (.pop, 1) := by decide +kernel
theorem dX9_lost_6 : decode cX9_lost 6 = .ok (.bipush (-100), 2) := by decide +kernel
theorem dX9_lost_8 : decode cX9_lost 8 = .ok (.ireturn, 1) := by decide +kernel
theorem dX9_denied_0 : decode cX9_denied 0 = .ok (.aload_n 0, 1) := by decide +kernel
theorem dX9_denied_1 : decode cX9_denied 1 = .ok (.iload_n 1, 1) := by decide +kernel
theorem dX9_denied_2 : decode cX9_denied 2 = .ok (.invokevirtual 58, 3) := by decide +kernel
theorem dX9_denied_5 : decode cX9_denied 5 = .ok (.pop, 1) := by decide +kernel
theorem dX9_denied_6 : decode cX9_denied 6 = .ok (.iconst 0, 1) := by decide +kernel
theorem dX9_denied_7 : decode cX9_denied 7 = .ok (.ireturn, 1) := by decide +kernel
theorem dX9_good_0 : decode cX9_good 0 = .ok (.aload_n 0, 1) := by decide +kernel
theorem dX9_good_1 : decode cX9_good 1 = .ok (.iconst 0, 1) := by decide +kernel
theorem dX9_good_2 : decode cX9_good 2 = .ok (.putfield 55, 3) := by decide +kernel
theorem dX9_good_5 : decode cX9_good 5 = .ok (.aload_n 0, 1) := by decide +kernel
theorem dX9_good_6 : decode cX9_good 6 = .ok (.iconst (-1), 1) := by decide +kernel
theorem dX9_good_7 : decode cX9_good 7 = .ok (.putfield 9, 3) := by decide +kernel
theorem dX9_good_10 : decode cX9_good 10 = .ok (.iload_n 1, 1) := by decide +kernel
theorem dX9_good_11 : decode cX9_good 11 = .ok (.ireturn, 1) := by decide +kernel
theorem dX9_granted_0 : decode cX9_granted 0 = .ok (.aload_n 0, 1) := by decide +kernel
theorem dX9_granted_1 : decode cX9_granted 1 = .ok (.iconst 0, 1) := by decide +kernel
theorem dX9_granted_2 : decode cX9_granted 2 = .ok (.invokevirtual 62, 3) := by decide +kernel
theorem dX9_granted_5 : decode cX9_granted 5 = .ok (.pop, 1) := by decide +kernel
theorem dX9_granted_6 : decode cX9_granted 6 = .ok (.iconst 1, 1) := by decide +kernel
theorem dX9_granted_7 : decode cX9_granted 7 = .ok (.ireturn, 1) := by decide +kernel
theorem dX9_in_0 : decode cX9_in 0 = .ok (.iload_n 0, 1) := by decide +kernel
theorem dX9_in_1 : decode cX9_in 1 = .ok (.iload_n 1, 1) := by decide +kernel
theorem dX9_in_2 : decode cX9_in 2 = .ok (.if_icmp .lt 12, 3) := by decide +kernel
theorem dX9_in_5 : decode cX9_in 5 = .ok (.iload_n 0, 1) := by decide +kernel
theorem dX9_in_6 : decode cX9_in 6 = .ok (.iload_n 2, 1) := by decide +kernel
theorem dX9_in_7 : decode cX9_in 7 = .ok (.if_icmp .gt 7, 3) := by decide +kernel
theorem dX9_in_10 : decode cX9_in 10 = .ok (.iconst 1, 1) := by decide +kernel
theorem dX9_in_11 : decode cX9_in 11 = .ok (.goto 4, 3) := by decide +kernel
theorem dX9_in_14 : decode cX9_in 14 = .ok (.iconst 0, 1) := by decide +kernel
theorem dX9_in_15 : decode cX9_in 15 = .ok (.ireturn, 1) := by decide +kernel
theorem dX9_bit_0 : decode cX9_bit 0 = .ok (.iload_n 0, 1) := by decide +kernel
theorem dX9_bit_1 : decode cX9_bit 1 = .ok (.iload_n 1, 1) := by decide +kernel
theorem dX9_bit_2 : decode cX9_bit 2 = .ok (.ishr, 1) := by decide +kernel
theorem dX9_bit_3 : decode cX9_bit 3 = .ok (.iconst 1, 1) := by decide +kernel
theorem dX9_bit_4 : decode cX9_bit 4 = .ok (.iand, 1) := by decide +kernel
theorem dX9_bit_5 : decode cX9_bit 5 = .ok (.iconst 1, 1) := by decide +kernel
theorem dX9_bit_6 : decode cX9_bit 6 = .ok (.if_icmp .ne 7, 3) := by decide +kernel
theorem dX9_bit_9 : decode cX9_bit 9 = .ok (.iconst 1, 1) := by decide +kernel
theorem dX9_bit_10 : decode cX9_bit 10 = .ok (.goto 4, 3) := by decide +kernel
theorem dX9_bit_13 : decode cX9_bit 13 = .ok (.iconst 0, 1) := by decide +kernel
theorem dX9_bit_14 : decode cX9_bit 14 = .ok (.ireturn, 1) := by decide +kernel
theorem dX9_bits_0 : decode cX9_bits 0 = .ok (.iconst 0, 1) := by decide +kernel
theorem dX9_bits_1 : decode cX9_bits 1 = .ok (.istore_n 1, 1) := by decide +kernel
theorem dX9_bits_2 : decode cX9_bits 2 = .ok (.iload_n 0, 1) := by decide +kernel
theorem dX9_bits_3 : decode cX9_bits 3 = .ok (.istore_n 2, 1) := by decide +kernel
theorem dX9_bits_4 : decode cX9_bits 4 = .ok (.iload_n 2, 1) := by decide +kernel
theorem dX9_bits_5 : decode cX9_bits 5 = .ok (.ifCond .eq 15, 3) := by decide +kernel
theorem dX9_bits_8 : decode cX9_bits 8 = .ok (.iinc 1 1, 3) := by decide +kernel
theorem dX9_bits_11 : decode cX9_bits 11 = .ok (.iload_n 2, 1) := by decide +kernel
theorem dX9_bits_12 : decode cX9_bits 12 = .ok (.iload_n 2, 1) := by decide +kernel
theorem dX9_bits_13 : decode cX9_bits 13 = .ok (.iconst 1, 1) := by decide +kernel
theorem dX9_bits_14 : decode cX9_bits 14 = .ok (.isub, 1) := by decide +kernel
theorem dX9_bits_15 : decode cX9_bits 15 = .ok (.iand, 1) := by decide +kernel
theorem dX9_bits_16 : decode cX9_bits 16 = .ok (.istore_n 2, 1) := by decide +kernel
theorem dX9_bits_17 : decode cX9_bits 17 = .ok (.goto (-13), 3) := by decide +kernel
theorem dX9_bits_20 : decode cX9_bits 20 = .ok (.iload_n 1, 1) := by decide +kernel
theorem dX9_bits_21 : decode cX9_bits 21 = .ok (.ireturn, 1) := by decide +kernel
theorem dX9_common_0 : decode cX9_common 0 = .ok (.lload_n 0, 1) := by decide +kernel
theorem dX9_common_1 : decode cX9_common 1 = .ok (.lstore 4, 2) := by decide +kernel
theorem dX9_common_3 : decode cX9_common 3 = .ok (.lload_n 2, 1) := by decide +kernel
theorem dX9_common_4 : decode cX9_common 4 = .ok (.lstore 6, 2) := by decide +kernel
theorem dX9_common_6 : decode cX9_common 6 = .ok (.lload 6, 2) := by decide +kernel
theorem dX9_common_8 : decode cX9_common 8 = .ok (.lconst 0, 1) := by decide +kernel
theorem dX9_common_9 : decode cX9_common 9 = .ok (.lcmp, 1) := by decide +kernel
theorem dX9_common_10 : decode cX9_common 10 = .ok (.ifCond .eq 21, 3) := by decide +kernel
theorem dX9_common_13 : decode cX9_common 13 = .ok (.lload 4, 2) := by decide +kernel
theorem dX9_common_15 : decode cX9_common 15 = .ok (.lload 6, 2) := by decide +kernel
theorem dX9_common_17 : decode cX9_common 17 = .ok (.lrem, 1) := by decide +kernel
theorem dX9_common_18 : decode cX9_common 18 = .ok (.lstore 8, 2) := by decide +kernel
theorem dX9_common_20 : decode cX9_common 20 = .ok (.lload 6, 2) := by decide +kernel
theorem dX9_common_22 : decode cX9_common 22 = .ok (.lstore 4, 2) := by decide +kernel
theorem dX9_common_24 : decode cX9_common 24 = .ok (.lload 8, 2) := by decide +kernel
theorem dX9_common_26 : decode cX9_common 26 = .ok (.lstore 6, 2) := by decide +kernel
theorem dX9_common_28 : decode cX9_common 28 = .ok (.goto (-22), 3) := by decide +kernel
theorem dX9_common_31 : decode cX9_common 31 = .ok (.lload 4, 2) := by decide +kernel
theorem dX9_common_33 : decode cX9_common 33 = .ok (.lreturn, 1) := by decide +kernel
theorem dX9_fraction_0 : decode cX9_fraction 0 = .ok (.aload_n 0, 1) := by decide +kernel
theorem dX9_fraction_1 : decode cX9_fraction 1 = .ok (.iconst 0, 1) := by decide +kernel
theorem dX9_fraction_2 : decode cX9_fraction 2 = .ok (.invokevirtual 62, 3) := by decide +kernel
theorem dX9_fraction_5 : decode cX9_fraction 5 = .ok (.pop, 1) := by decide +kernel
theorem dX9_fraction_6 : decode cX9_fraction 6 = .ok (.iload 5, 2) := by decide +kernel
theorem dX9_fraction_8 : decode cX9_fraction 8 = .ok (.ifCond .eq 7, 3) := by decide +kernel
theorem dX9_fraction_11 : decode cX9_fraction 11 = .ok (.lload_n 3, 1) := by decide +kernel
theorem dX9_fraction_12 : decode cX9_fraction 12 = .ok (.goto 4, 3) := by decide +kernel
theorem dX9_fraction_15 : decode cX9_fraction 15 = .ok (.lload_n 1, 1) := by decide +kernel
theorem dX9_fraction_16 : decode cX9_fraction 16 = .ok (.lload_n 1, 1) := by decide +kernel
theorem dX9_fraction_17 : decode cX9_fraction 17 = .ok (.lload_n 3, 1) := by decide +kernel
theorem dX9_fraction_18 : decode cX9_fraction 18 = .ok (.invokestatic 65, 3) := by decide +kernel
theorem dX9_fraction_21 : decode cX9_fraction 21 = .ok (.ldiv, 1) := by decide +kernel
theorem dX9_fraction_22 : decode cX9_fraction 22 = .ok (.lreturn, 1) := by decide +kernel
theorem dX9_byteAt_0 : decode cX9_byteAt 0 = .ok (.iload_n 1, 1) := by decide +kernel
theorem dX9_byteAt_1 : decode cX9_byteAt 1 = .ok (.aload_n 0, 1) := by decide +kernel
theorem dX9_byteAt_2 : decode cX9_byteAt 2 = .ok (.getfield 69, 3) := by decide +kernel
theorem dX9_byteAt_5 : decode cX9_byteAt 5 = .ok (.if_icmp .ge 16, 3) := by decide +kernel
theorem dX9_byteAt_8 : decode cX9_byteAt 8 = .ok (.aload_n 0, 1) := by decide +kernel
theorem dX9_byteAt_9 : decode cX9_byteAt 9 = .ok (.getfield 13, 3) := by decide +kernel
theorem dX9_byteAt_12 : decode cX9_byteAt 12 = .ok (.iload_n 1, 1) := by decide +kernel
theorem dX9_byteAt_13 : decode cX9_byteAt 13 = .ok (.baload, 1) := by decide +kernel
theorem dX9_byteAt_14 : decode cX9_byteAt 14 = .ok (.sipush 255, 3) := by decide +kernel
theorem dX9_byteAt_17 : decode cX9_byteAt 17 = .ok (.iand, 1) := by decide +kernel
theorem dX9_byteAt_18 : decode cX9_byteAt 18 = .ok (.goto 4, 3) := by decide +kernel
theorem dX9_byteAt_21 : decode cX9_byteAt 21 = .ok (.iconst (-1), 1) := by decide +kernel
theorem dX9_byteAt_22 : decode cX9_byteAt 22 = .ok (.ireturn, 1) := by decide +kernel
theorem dX9_isLetter_0 : decode cX9_isLetter 0 = .ok (.iload_n 0, 1) := by decide +kernel
theorem dX9_isLetter_1 : decode cX9_isLetter 1 = .ok (.bipush 97, 2) := by decide +kernel
theorem dX9_isLetter_3 : decode cX9_isLetter 3 = .ok (.if_icmp .lt 13, 3) := by decide +kernel
theorem dX9_isLetter_6 : decode cX9_isLetter 6 = .ok (.iload_n 0, 1) := by decide +kernel
theorem dX9_isLetter_7 : decode cX9_isLetter 7 = .ok (.bipush 122, 2) := by decide +kernel
theorem dX9_isLetter_9 : decode cX9_isLetter 9 = .ok (.if_icmp .gt 7, 3) := by decide +kernel
theorem dX9_isLetter_12 : decode cX9_isLetter 12 = .ok (.iconst 1, 1) := by decide +kernel
theorem dX9_isLetter_13 : decode cX9_isLetter 13 = .ok (.goto 4, 3) := by decide +kernel
theorem dX9_isLetter_16 : decode cX9_isLetter 16 = .ok (.iconst 0, 1) := by decide +kernel
theorem dX9_isLetter_17 : decode cX9_isLetter 17 = .ok (.ireturn, 1) := by decide +kernel
theorem dX9_isDigit_0 : decode cX9_isDigit 0 = .ok (.iload_n 0, 1) := by decide +kernel
theorem dX9_isDigit_1 : decode cX9_isDigit 1 = .ok (.bipush 48, 2) := by decide +kernel
theorem dX9_isDigit_3 : decode cX9_isDigit 3 = .ok (.if_icmp .lt 13, 3) := by decide +kernel
theorem dX9_isDigit_6 : decode cX9_isDigit 6 = .ok (.iload_n 0, 1) := by decide +kernel
theorem dX9_isDigit_7 : decode cX9_isDigit 7 = .ok (.bipush 57, 2) := by decide +kernel
theorem dX9_isDigit_9 : decode cX9_isDigit 9 = .ok (.if_icmp .gt 7, 3) := by decide +kernel
theorem dX9_isDigit_12 : decode cX9_isDigit 12 = .ok (.iconst 1, 1) := by decide +kernel
theorem dX9_isDigit_13 : decode cX9_isDigit 13 = .ok (.goto 4, 3) := by decide +kernel
theorem dX9_isDigit_16 : decode cX9_isDigit 16 = .ok (.iconst 0, 1) := by decide +kernel
theorem dX9_isDigit_17 : decode cX9_isDigit 17 = .ok (.ireturn, 1) := by decide +kernel
theorem dX9_packed_0 : decode cX9_packed 0 = .ok (.lconst 0, 1) := by decide +kernel
theorem dX9_packed_1 : decode cX9_packed 1 = .ok (.lstore_n 1, 1) := by decide +kernel
theorem dX9_packed_2 : decode cX9_packed 2 = .ok (.iconst 0, 1) := by decide +kernel
theorem dX9_packed_3 : decode cX9_packed 3 = .ok (.istore_n 3, 1) := by decide +kernel
theorem dX9_packed_4 : decode cX9_packed 4 = .ok (.iload_n 3, 1) := by decide +kernel
theorem dX9_packed_5 : decode cX9_packed 5 = .ok (.aload_n 0, 1) := by decide +kernel
theorem dX9_packed_6 : decode cX9_packed 6 = .ok (.invokevirtual 72, 3) := by decide +kernel
theorem dX9_packed_9 : decode cX9_packed 9 = .ok (.if_icmp .ge 27, 3) := by decide +kernel
theorem dX9_packed_12 : decode cX9_packed 12 = .ok (.ldc2_w 78, 3) := by decide +kernel
theorem dX9_packed_15 : decode cX9_packed 15 = .ok (.lload_n 1, 1) := by decide +kernel
theorem dX9_packed_16 : decode cX9_packed 16 = .ok (.lmul, 1) := by decide +kernel
theorem dX9_packed_17 : decode cX9_packed 17 = .ok (.aload_n 0, 1) := by decide +kernel
theorem dX9_packed_18 : decode cX9_packed 18 = .ok (.iload_n 3, 1) := by decide +kernel
theorem dX9_packed_19 : decode cX9_packed 19 = .ok (.invokevirtual 80, 3) := by decide +kernel
theorem dX9_packed_22 : decode cX9_packed 22 = .ok (.bipush 97, 2) := by decide +kernel
theorem dX9_packed_24 : decode cX9_packed 24 = .ok (.isub, 1) := by decide +kernel
theorem dX9_packed_25 : decode cX9_packed 25 = .ok (.iconst 1, 1) := by decide +kernel
theorem dX9_packed_26 : decode cX9_packed 26 = .ok (.iadd, 1) := by decide +kernel
theorem dX9_packed_27 : decode cX9_packed 27 = .ok (.i2l, 1) := by decide +kernel
theorem dX9_packed_28 : decode cX9_packed 28 = .ok (.ladd, 1) := by decide +kernel
theorem dX9_packed_29 : decode cX9_packed 29 = .ok (.lstore_n 1, 1) := by decide +kernel
theorem dX9_packed_30 : decode cX9_packed 30 = .ok (.iinc 3 1, 3) := by decide +kernel
theorem dX9_packed_33 : decode cX9_packed 33 = .ok (.goto (-29), 3) := by decide +kernel
theorem dX9_packed_36 : decode cX9_packed 36 = .ok (.lload_n 1, 1) := by decide +kernel
theorem dX9_packed_37 : decode cX9_packed 37 = .ok (.lreturn, 1) := by decide +kernel
theorem dX9_goesOn_0 : decode cX9_goesOn 0 = .ok (.aload_n 0, 1) := by decide +kernel
theorem dX9_goesOn_1 : decode cX9_goesOn 1 = .ok (.getfield 84, 3) := by decide +kernel
theorem dX9_goesOn_4 : decode cX9_goesOn 4 = .ok (.iconst 5, 1) := by decide +kernel
theorem dX9_goesOn_5 : decode cX9_goesOn 5 = .ok (.if_icmp .ne 4, 3) := by decide +kernel
theorem dX9_goesOn_8 : decode cX9_goesOn 8 = .ok (.return_, 1) := by decide +kernel
theorem dX9_goesOn_9 : decode cX9_goesOn 9 = .ok (.aload_n 0, 1) := by decide +kernel
theorem dX9_goesOn_10 : decode cX9_goesOn 10 = .ok (.aload_n 0, 1) := by decide +kernel
theorem dX9_goesOn_11 : decode cX9_goesOn 11 = .ok (.getfield 87, 3) := by decide +kernel
theorem dX9_goesOn_14 : decode cX9_goesOn 14 = .ok (.invokevirtual 90, 3) := by decide +kernel
theorem dX9_goesOn_17 : decode cX9_goesOn 17 = .ok (.bipush 32, 2) := by decide +kernel
theorem dX9_goesOn_19 : decode cX9_goesOn 19 = .ok (.if_icmp .ne 16, 3) := by decide +kernel
theorem dX9_goesOn_22 : decode cX9_goesOn 22 = .ok (.aload_n 0, 1) := by decide +kernel
theorem dX9_goesOn_23 : decode cX9_goesOn 23 = .ok (.dup, 1) := by decide +kernel
theorem dX9_goesOn_24 : decode cX9_goesOn 24 = .ok (.getfield 87, 3) := by decide +kernel
theorem dX9_goesOn_27 : decode cX9_goesOn 27 = .ok (.iconst 1, 1) := by decide +kernel
theorem dX9_goesOn_28 : decode cX9_goesOn 28 = .ok (.iadd, 1) := by decide +kernel
theorem dX9_goesOn_29 : decode cX9_goesOn 29 = .ok (.putfield 87, 3) := by decide +kernel
theorem dX9_goesOn_32 : decode cX9_goesOn 32 = .ok (.goto (-23), 3) := by decide +kernel
theorem dX9_goesOn_35 : decode cX9_goesOn 35 = .ok (.aload_n 0, 1) := by decide +kernel
theorem dX9_goesOn_36 : decode cX9_goesOn 36 = .ok (.aload_n 0, 1) := by decide +kernel
theorem dX9_goesOn_37 : decode cX9_goesOn 37 = .ok (.getfield 87, 3) := by decide +kernel
theorem dX9_goesOn_40 : decode cX9_goesOn 40 = .ok (.putfield 93, 3) := by decide +kernel
theorem dX9_goesOn_43 : decode cX9_goesOn 43 = .ok (.aload_n 0, 1) := by decide +kernel
theorem dX9_goesOn_44 : decode cX9_goesOn 44 = .ok (.iconst 0, 1) := by decide +kernel
theorem dX9_goesOn_45 : decode cX9_goesOn 45 = .ok (.putfield 84, 3) := by decide +kernel
theorem dX9_goesOn_48 : decode cX9_goesOn 48 = .ok (.aload_n 0, 1) := by decide +kernel
theorem dX9_goesOn_49 : decode cX9_goesOn 49 = .ok (.aload_n 0, 1) := by decide +kernel
theorem dX9_goesOn_50 : decode cX9_goesOn 50 = .ok (.getfield 87, 3) := by decide +kernel
theorem dX9_goesOn_53 : decode cX9_goesOn 53 = .ok (.invokevirtual 90, 3) := by decide +kernel
theorem dX9_goesOn_56 : decode cX9_goesOn 56 = .ok (.istore_n 1, 1) := by decide +kernel
theorem dX9_goesOn_57 : decode cX9_goesOn 57 = .ok (.iconst 0, 1) := by decide +kernel
theorem dX9_goesOn_58 : decode cX9_goesOn 58 = .ok (.istore_n 2, 1) := by decide +kernel
theorem dX9_goesOn_59 : decode cX9_goesOn 59 = .ok (.iload_n 1, 1) := by decide +kernel
theorem dX9_goesOn_60 : decode cX9_goesOn 60 = .ok (.iconst (-1), 1) := by decide +kernel
theorem dX9_goesOn_61 : decode cX9_goesOn 61 = .ok (.if_icmp .ne 11, 3) := by decide +kernel
theorem dX9_goesOn_64 : decode cX9_goesOn 64 = .ok (.aload_n 0, 1) := by decide +kernel
theorem dX9_goesOn_65 : decode cX9_goesOn 65 = .ok (.iconst 1, 1) := by decide +kernel
theorem dX9_goesOn_66 : decode cX9_goesOn 66 = .ok (.putfield 84, 3) := by decide +kernel
theorem dX9_goesOn_69 : decode cX9_goesOn 69 = .ok (.goto 196, 3) := by decide +kernel
theorem dX9_goesOn_72 : decode cX9_goesOn 72 = .ok (.iload_n 1, 1) := by decide +kernel
theorem dX9_goesOn_73 : decode cX9_goesOn 73 = .ok (.invokestatic 96, 3) := by decide +kernel
theorem dX9_goesOn_76 : decode cX9_goesOn 76 = .ok (.ifCond .eq 85, 3) := by decide +kernel
theorem dX9_goesOn_79 : decode cX9_goesOn 79 = .ok (.aload_n 0, 1) := by decide +kernel
theorem dX9_goesOn_80 : decode cX9_goesOn 80 = .ok (.lconst 0, 1) := by decide +kernel
theorem dX9_goesOn_81 : decode cX9_goesOn 81 = .ok (.putfield 100, 3) := by decide +kernel
theorem dX9_goesOn_84 : decode cX9_goesOn 84 = .ok (.aload_n 0, 1) := by decide +kernel
theorem dX9_goesOn_85 : decode cX9_goesOn 85 = .ok (.aload_n 0, 1) := by decide +kernel
theorem dX9_goesOn_86 : decode cX9_goesOn 86 = .ok (.getfield 87, 3) := by decide +kernel
theorem dX9_goesOn_89 : decode cX9_goesOn 89 = .ok (.invokevirtual 90, 3) := by decide +kernel
theorem dX9_goesOn_92 : decode cX9_goesOn 92 = .ok (.invokestatic 96, 3) := by decide +kernel
theorem dX9_goesOn_95 : decode cX9_goesOn 95 = .ok (.ifCond .eq 52, 3) := by decide +kernel
theorem dX9_goesOn_98 : decode cX9_goesOn 98 = .ok (.iload_n 2, 1) := by decide +kernel
theorem dX9_goesOn_99 : decode cX9_goesOn 99 = .ok (.bipush 8, 2) := by decide +kernel
theorem dX9_goesOn_101 : decode cX9_goesOn 101 = .ok (.if_icmp .ge 30, 3) := by decide +kernel
theorem dX9_goesOn_104 : decode cX9_goesOn 104 = .ok (.aload_n 0, 1) := by decide +kernel
theorem dX9_goesOn_105 : decode cX9_goesOn 105 = .ok (.ldc2_w 78, 3) := by decide +kernel
theorem dX9_goesOn_108 : decode cX9_goesOn 108 = .ok (.aload_n 0, 1) := by decide +kernel
theorem dX9_goesOn_109 : decode cX9_goesOn 109 = .ok (.getfield 100, 3) := by decide +kernel
theorem dX9_goesOn_112 : decode cX9_goesOn 112 = .ok (.lmul, 1) := by decide +kernel
theorem dX9_goesOn_113 : decode cX9_goesOn 113 = .ok (.aload_n 0, 1) := by decide +kernel
theorem dX9_goesOn_114 : decode cX9_goesOn 114 = .ok (.aload_n 0, 1) := by decide +kernel
theorem dX9_goesOn_115 : decode cX9_goesOn 115 = .ok (.getfield 87, 3) := by decide +kernel
theorem dX9_goesOn_118 : decode cX9_goesOn 118 = .ok (.invokevirtual 90, 3) := by decide +kernel
theorem dX9_goesOn_121 : decode cX9_goesOn 121 = .ok (.bipush 97, 2) := by decide +kernel
theorem dX9_goesOn_123 : decode cX9_goesOn 123 = .ok (.isub, 1) := by decide +kernel
theorem dX9_goesOn_124 : decode cX9_goesOn 124 = .ok (.iconst 1, 1) := by decide +kernel
theorem dX9_goesOn_125 : decode cX9_goesOn 125 = .ok (.iadd, 1) := by decide +kernel
theorem dX9_goesOn_126 : decode cX9_goesOn 126 = .ok (.i2l, 1) := by decide +kernel
theorem dX9_goesOn_127 : decode cX9_goesOn 127 = .ok (.ladd, 1) := by decide +kernel
theorem dX9_goesOn_128 : decode cX9_goesOn 128 = .ok (.putfield 100, 3) := by decide +kernel
theorem dX9_goesOn_131 : decode cX9_goesOn 131 = .ok (.iinc 2 1, 3) := by decide +kernel
theorem dX9_goesOn_134 : decode cX9_goesOn 134 = .ok (.aload_n 0, 1) := by decide +kernel
theorem dX9_goesOn_135 : decode cX9_goesOn 135 = .ok (.dup, 1) := by decide +kernel
theorem dX9_goesOn_136 : decode cX9_goesOn 136 = .ok (.getfield 87, 3) := by decide +kernel
theorem dX9_goesOn_139 : decode cX9_goesOn 139 = .ok (.iconst 1, 1) := by decide +kernel
theorem dX9_goesOn_140 : decode cX9_goesOn 140 = .ok (.iadd, 1) := by decide +kernel
theorem dX9_goesOn_141 : decode cX9_goesOn 141 = .ok (.putfield 87, 3) := by decide +kernel
theorem dX9_goesOn_144 : decode cX9_goesOn 144 = .ok (.goto (-60), 3) := by decide +kernel
theorem dX9_goesOn_147 : decode cX9_goesOn 147 = .ok (.iload_n 2, 1) := by decide +kernel
theorem dX9_goesOn_148 : decode cX9_goesOn 148 = .ok (.bipush 8, 2) := by decide +kernel
theorem dX9_goesOn_150 : decode cX9_goesOn 150 = .ok (.if_icmp .gt 115, 3) := by decide +kernel
theorem dX9_goesOn_153 : decode cX9_goesOn 153 = .ok (.aload_n 0, 1) := by decide +kernel
theorem dX9_goesOn_154 : decode cX9_goesOn 154 = .ok (.iconst 2, 1) := by decide +kernel
theorem dX9_goesOn_155 : decode cX9_goesOn 155 = .ok (.putfield 84, 3) := by decide +kernel
theorem dX9_goesOn_158 : decode cX9_goesOn 158 = .ok (.goto 107, 3) := by decide +kernel
theorem dX9_goesOn_161 : decode cX9_goesOn 161 = .ok (.iload_n 1, 1) := by decide +kernel
theorem dX9_goesOn_162 : decode cX9_goesOn 162 = .ok (.invokestatic 104, 3) := by decide +kernel
theorem dX9_goesOn_165 : decode cX9_goesOn 165 = .ok (.ifCond .eq 79, 3) := by decide +kernel
theorem dX9_goesOn_168 : decode cX9_goesOn 168 = .ok (.aload_n 0, 1) := by decide +kernel
theorem dX9_goesOn_169 : decode cX9_goesOn 169 = .ok (.iconst 0, 1) := by decide +kernel
theorem dX9_goesOn_170 : decode cX9_goesOn 170 = .ok (.putfield 107, 3) := by decide +kernel
theorem dX9_goesOn_173 : decode cX9_goesOn 173 = .ok (.aload_n 0, 1) := by decide +kernel
theorem dX9_goesOn_174 : decode cX9_goesOn 174 = .ok (.aload_n 0, 1) := by decide +kernel
theorem dX9_goesOn_175 : decode cX9_goesOn 175 = .ok (.getfield 87, 3) := by decide +kernel
theorem dX9_goesOn_178 : decode cX9_goesOn 178 = .ok (.invokevirtual 90, 3) := by decide +kernel
theorem dX9_goesOn_181 : decode cX9_goesOn 181 = .ok (.invokestatic 104, 3) := by decide +kernel
theorem dX9_goesOn_184 : decode cX9_goesOn 184 = .ok (.ifCond .eq 47, 3) := by decide +kernel
theorem dX9_goesOn_187 : decode cX9_goesOn 187 = .ok (.iload_n 2, 1) := by decide +kernel
theorem dX9_goesOn_188 : decode cX9_goesOn 188 = .ok (.iconst 3, 1) := by decide +kernel
theorem dX9_goesOn_189 : decode cX9_goesOn 189 = .ok (.if_icmp .ge 26, 3) := by decide +kernel
theorem dX9_goesOn_192 : decode cX9_goesOn 192 = .ok (.aload_n 0, 1) := by decide +kernel
theorem dX9_goesOn_193 : decode cX9_goesOn 193 = .ok (.bipush 10, 2) := by decide +kernel
theorem dX9_goesOn_195 : decode cX9_goesOn 195 = .ok (.aload_n 0, 1) := by decide +kernel
theorem dX9_goesOn_196 : decode cX9_goesOn 196 = .ok (.getfield 107, 3) := by decide +kernel
theorem dX9_goesOn_199 : decode cX9_goesOn 199 = .ok (.imul, 1) := by decide +kernel
theorem dX9_goesOn_200 : decode cX9_goesOn 200 = .ok (.aload_n 0, 1) := by decide +kernel
theorem dX9_goesOn_201 : decode cX9_goesOn 201 = .ok (.aload_n 0, 1) := by decide +kernel
theorem dX9_goesOn_202 : decode cX9_goesOn 202 = .ok (.getfield 87, 3) := by decide +kernel
theorem dX9_goesOn_205 : decode cX9_goesOn 205 = .ok (.invokevirtual 90, 3) := by decide +kernel
theorem dX9_goesOn_208 : decode cX9_goesOn 208 = .ok (.iadd, 1) := by decide +kernel
theorem dX9_goesOn_209 : decode cX9_goesOn 209 = .ok (.bipush 48, 2) := by decide +kernel
theorem dX9_goesOn_211 : decode cX9_goesOn 211 = .ok (.isub, 1) := by decide +kernel
theorem dX9_goesOn_212 : decode cX9_goesOn 212 = .ok (.putfield 107, 3) := by decide +kernel
theorem dX9_goesOn_215 : decode cX9_goesOn 215 = .ok (.iinc 2 1, 3) := by decide +kernel
theorem dX9_goesOn_218 : decode cX9_goesOn 218 = .ok (.aload_n 0, 1) := by decide +kernel
theorem dX9_goesOn_219 : decode cX9_goesOn 219 = .ok (.dup, 1) := by decide +kernel
theorem dX9_goesOn_220 : decode cX9_goesOn 220 = .ok (.getfield 87, 3) := by decide +kernel
theorem dX9_goesOn_223 : decode cX9_goesOn 223 = .ok (.iconst 1, 1) := by decide +kernel
theorem dX9_goesOn_224 : decode cX9_goesOn 224 = .ok (.iadd, 1) := by decide +kernel
theorem dX9_goesOn_225 : decode cX9_goesOn 225 = .ok (.putfield 87, 3) := by decide +kernel
theorem dX9_goesOn_228 : decode cX9_goesOn 228 = .ok (.goto (-55), 3) := by decide +kernel
theorem dX9_goesOn_231 : decode cX9_goesOn 231 = .ok (.iload_n 2, 1) := by decide +kernel
theorem dX9_goesOn_232 : decode cX9_goesOn 232 = .ok (.iconst 3, 1) := by decide +kernel
theorem dX9_goesOn_233 : decode cX9_goesOn 233 = .ok (.if_icmp .gt 32, 3) := by decide +kernel
theorem dX9_goesOn_236 : decode cX9_goesOn 236 = .ok (.aload_n 0, 1) := by decide +kernel
theorem dX9_goesOn_237 : decode cX9_goesOn 237 = .ok (.iconst 3, 1) := by decide +kernel
theorem dX9_goesOn_238 : decode cX9_goesOn 238 = .ok (.putfield 84, 3) := by decide +kernel
theorem dX9_goesOn_241 : decode cX9_goesOn 241 = .ok (.goto 24, 3) := by decide +kernel
theorem dX9_goesOn_244 : decode cX9_goesOn 244 = .ok (.iload_n 1, 1) := by decide +kernel
theorem dX9_goesOn_245 : decode cX9_goesOn 245 = .ok (.bipush 59, 2) := by decide +kernel
theorem dX9_goesOn_247 : decode cX9_goesOn 247 = .ok (.if_icmp .ne 18, 3) := by decide +kernel
theorem dX9_goesOn_250 : decode cX9_goesOn 250 = .ok (.aload_n 0, 1) := by decide +kernel
theorem dX9_goesOn_251 : decode cX9_goesOn 251 = .ok (.iconst 4, 1) := by decide +kernel
theorem dX9_goesOn_252 : decode cX9_goesOn 252 = .ok (.putfield 84, 3) := by decide +kernel
theorem dX9_goesOn_255 : decode cX9_goesOn 255 = .ok (.aload_n 0, 1) := by decide +kernel
theorem dX9_goesOn_256 : decode cX9_goesOn 256 = .ok (.dup, 1) := by decide +kernel
theorem dX9_goesOn_257 : decode cX9_goesOn 257 = .ok (.getfield 87, 3) := by decide +kernel
theorem dX9_goesOn_260 : decode cX9_goesOn 260 = .ok (.iconst 1, 1) := by decide +kernel
theorem dX9_goesOn_261 : decode cX9_goesOn 261 = .ok (.iadd, 1) := by decide +kernel
theorem dX9_goesOn_262 : decode cX9_goesOn 262 = .ok (.putfield 87, 3) := by decide +kernel
theorem dX9_goesOn_265 : decode cX9_goesOn 265 = .ok (.return_, 1) := by decide +kernel
theorem dX9_flaw_0 : decode cX9_flaw 0 = .ok (.aload_n 0, 1) := by decide +kernel
theorem dX9_flaw_1 : decode cX9_flaw 1 = .ok (.getfield 84, 3) := by decide +kernel
theorem dX9_flaw_4 : decode cX9_flaw 4 = .ok (.iconst 5, 1) := by decide +kernel
theorem dX9_flaw_5 : decode cX9_flaw 5 = .ok (.if_icmp .ne 4, 3) := by decide +kernel
theorem dX9_flaw_8 : decode cX9_flaw 8 = .ok (.return_, 1) := by decide +kernel
theorem dX9_flaw_9 : decode cX9_flaw 9 = .ok (.aload_n 0, 1) := by decide +kernel
theorem dX9_flaw_10 : decode cX9_flaw 10 = .ok (.iload_n 1, 1) := by decide +kernel
theorem dX9_flaw_11 : decode cX9_flaw 11 = .ok (.putfield 110, 3) := by decide +kernel
theorem dX9_flaw_14 : decode cX9_flaw 14 = .ok (.aload_n 0, 1) := by decide +kernel
theorem dX9_flaw_15 : decode cX9_flaw 15 = .ok (.aload_n 0, 1) := by decide +kernel
theorem dX9_flaw_16 : decode cX9_flaw 16 = .ok (.getfield 93, 3) := by decide +kernel
theorem dX9_flaw_19 : decode cX9_flaw 19 = .ok (.putfield 113, 3) := by decide +kernel
theorem dX9_flaw_22 : decode cX9_flaw 22 = .ok (.aload_n 0, 1) := by decide +kernel
theorem dX9_flaw_23 : decode cX9_flaw 23 = .ok (.iconst 5, 1) := by decide +kernel
theorem dX9_flaw_24 : decode cX9_flaw 24 = .ok (.putfield 84, 3) := by decide +kernel
theorem dX9_flaw_27 : decode cX9_flaw 27 = .ok (.return_, 1) := by decide +kernel
theorem dX9_isWord_0 : decode cX9_isWord 0 = .ok (.aload_n 0, 1) := by decide +kernel
theorem dX9_isWord_1 : decode cX9_isWord 1 = .ok (.getfield 84, 3) := by decide +kernel
theorem dX9_isWord_4 : decode cX9_isWord 4 = .ok (.iconst 2, 1) := by decide +kernel
theorem dX9_isWord_5 : decode cX9_isWord 5 = .ok (.if_icmp .ne 19, 3) := by decide +kernel
theorem dX9_isWord_8 : decode cX9_isWord 8 = .ok (.aload_n 0, 1) := by decide +kernel
theorem dX9_isWord_9 : decode cX9_isWord 9 = .ok (.getfield 100, 3) := by decide +kernel
theorem dX9_isWord_12 : decode cX9_isWord 12 = .ok (.aload_n 1, 1) := by decide +kernel
theorem dX9_isWord_13 : decode cX9_isWord 13 = .ok (.invokestatic 116, 3) := by decide +kernel
theorem dX9_isWord_16 : decode cX9_isWord 16 = .ok (.lcmp, 1) := by decide +kernel
theorem dX9_isWord_17 : decode cX9_isWord 17 = .ok (.ifCond .ne 7, 3) := by decide +kernel
theorem dX9_isWord_20 : decode cX9_isWord 20 = .ok (.iconst 1, 1) := by decide +kernel
theorem dX9_isWord_21 : decode cX9_isWord 21 = .ok (.goto 4, 3) := by decide +kernel
theorem dX9_isWord_24 : decode cX9_isWord 24 = .ok (.iconst 0, 1) := by decide +kernel
theorem dX9_isWord_25 : decode cX9_isWord 25 = .ok (.ireturn, 1) := by decide +kernel
theorem dX9_eatsSemicolon_0 : decode cX9_eatsSemicolon 0 = .ok (.aload_n 0, 1) := by decide +kernel
theorem dX9_eatsSemicolon_1 : decode cX9_eatsSemicolon 1 = .ok (.getfield 84, 3) := by decide +kernel
theorem dX9_eatsSemicolon_4 : decode cX9_eatsSemicolon 4 = .ok (.iconst 4, 1) := by decide +kernel
theorem dX9_eatsSemicolon_5 : decode cX9_eatsSemicolon 5 = .ok (.if_icmp .ne 7, 3) := by decide +kernel
theorem dX9_eatsSemicolon_8 : decode cX9_eatsSemicolon 8 = .ok (.iconst 1, 1) := by decide +kernel
theorem dX9_eatsSemicolon_9 : decode cX9_eatsSemicolon 9 = .ok (.goto 4, 3) := by decide +kernel
theorem dX9_eatsSemicolon_12 : decode cX9_eatsSemicolon 12 = .ok (.iconst 0, 1) := by decide +kernel
theorem dX9_eatsSemicolon_13 : decode cX9_eatsSemicolon 13 = .ok (.istore_n 1, 1) := by decide +kernel
theorem dX9_eatsSemicolon_14 : decode cX9_eatsSemicolon 14 = .ok (.iload_n 1, 1) := by decide +kernel
theorem dX9_eatsSemicolon_15 : decode cX9_eatsSemicolon 15 = .ok (.ifCond .eq 7, 3) := by decide +kernel
theorem dX9_eatsSemicolon_18 : decode cX9_eatsSemicolon 18 = .ok (.aload_n 0, 1) := by decide +kernel
theorem dX9_eatsSemicolon_19 : decode cX9_eatsSemicolon 19 = .ok (.invokevirtual 120, 3) := by decide +kernel
theorem dX9_eatsSemicolon_22 : decode cX9_eatsSemicolon 22 = .ok (.iload_n 1, 1) := by decide +kernel
theorem dX9_eatsSemicolon_23 : decode cX9_eatsSemicolon 23 = .ok (.ireturn, 1) := by decide +kernel
theorem dX9_needs_0 : decode cX9_needs 0 = .ok (.aload_n 0, 1) := by decide +kernel
theorem dX9_needs_1 : decode cX9_needs 1 = .ok (.aload_n 1, 1) := by decide +kernel
theorem dX9_needs_2 : decode cX9_needs 2 = .ok (.invokevirtual 123, 3) := by decide +kernel
theorem dX9_needs_5 : decode cX9_needs 5 = .ok (.ifCond .ne 8, 3) := by decide +kernel
theorem dX9_needs_8 : decode cX9_needs 8 = .ok (.aload_n 0, 1) := by decide +kernel
theorem dX9_needs_9 : decode cX9_needs 9 = .ok (.iconst 1, 1) := by decide +kernel
theorem dX9_needs_10 : decode cX9_needs 10 = .ok (.invokevirtual 127, 3) := by decide +kernel
theorem dX9_needs_13 : decode cX9_needs 13 = .ok (.aload_n 0, 1) := by decide +kernel
theorem dX9_needs_14 : decode cX9_needs 14 = .ok (.invokevirtual 120, 3) := by decide +kernel
theorem dX9_needs_17 : decode cX9_needs 17 = .ok (.return_, 1) := by decide +kernel
theorem dX9_readWhole_0 : decode cX9_readWhole 0 = .ok (.aload_n 0, 1) := by decide +kernel
theorem dX9_readWhole_1 : decode cX9_readWhole 1 = .ok (.getfield 84, 3) := by decide +kernel
theorem dX9_readWhole_4 : decode cX9_readWhole 4 = .ok (.iconst 3, 1) := by decide +kernel
theorem dX9_readWhole_5 : decode cX9_readWhole 5 = .ok (.if_icmp .eq 11, 3) := by decide +kernel
theorem dX9_readWhole_8 : decode cX9_readWhole 8 = .ok (.aload_n 0, 1) := by decide +kernel
theorem dX9_readWhole_9 : decode cX9_readWhole 9 = .ok (.iconst 1, 1) := by decide +kernel
theorem dX9_readWhole_10 : decode cX9_readWhole 10 = .ok (.invokevirtual 127, 3) := by decide +kernel
theorem dX9_readWhole_13 : decode cX9_readWhole 13 = .ok (.goto 20, 3) := by decide +kernel
theorem dX9_readWhole_16 : decode cX9_readWhole 16 = .ok (.aload_n 0, 1) := by decide +kernel
theorem dX9_readWhole_17 : decode cX9_readWhole 17 = .ok (.getfield 107, 3) := by decide +kernel
theorem dX9_readWhole_20 : decode cX9_readWhole 20 = .ok (.iload_n 1, 1) := by decide +kernel
theorem dX9_readWhole_21 : decode cX9_readWhole 21 = .ok (.iload_n 2, 1) := by decide +kernel
theorem dX9_readWhole_22 : decode cX9_readWhole 22 = .ok (.invokestatic 131, 3) := by decide +kernel
theorem dX9_readWhole_25 : decode cX9_readWhole 25 = .ok (.ifCond .ne 8, 3) := by decide +kernel
theorem dX9_readWhole_28 : decode cX9_readWhole 28 = .ok (.aload_n 0, 1) := by decide +kernel
theorem dX9_readWhole_29 : decode cX9_readWhole 29 = .ok (.iconst 4, 1) := by decide +kernel
theorem dX9_readWhole_30 : decode cX9_readWhole 30 = .ok (.invokevirtual 127, 3) := by decide +kernel
theorem dX9_readWhole_33 : decode cX9_readWhole 33 = .ok (.aload_n 0, 1) := by decide +kernel
theorem dX9_readWhole_34 : decode cX9_readWhole 34 = .ok (.getfield 84, 3) := by decide +kernel
theorem dX9_readWhole_37 : decode cX9_readWhole 37 = .ok (.iconst 5, 1) := by decide +kernel
theorem dX9_readWhole_38 : decode cX9_readWhole 38 = .ok (.if_icmp .ne 7, 3) := by decide +kernel
theorem dX9_readWhole_41 : decode cX9_readWhole 41 = .ok (.iload_n 1, 1) := by decide +kernel
theorem dX9_readWhole_42 : decode cX9_readWhole 42 = .ok (.goto 7, 3) := by decide +kernel
theorem dX9_readWhole_45 : decode cX9_readWhole 45 = .ok (.aload_n 0, 1) := by decide +kernel
theorem dX9_readWhole_46 : decode cX9_readWhole 46 = .ok (.getfield 107, 3) := by decide +kernel
theorem dX9_readWhole_49 : decode cX9_readWhole 49 = .ok (.istore_n 3, 1) := by decide +kernel
theorem dX9_readWhole_50 : decode cX9_readWhole 50 = .ok (.aload_n 0, 1) := by decide +kernel
theorem dX9_readWhole_51 : decode cX9_readWhole 51 = .ok (.invokevirtual 120, 3) := by decide +kernel
theorem dX9_readWhole_54 : decode cX9_readWhole 54 = .ok (.iload_n 3, 1) := by decide +kernel
theorem dX9_readWhole_55 : decode cX9_readWhole 55 = .ok (.ireturn, 1) := by decide +kernel
theorem dX9_readPart_0 : decode cX9_readPart 0 = .ok (.aload_n 0, 1) := by decide +kernel
theorem dX9_readPart_1 : decode cX9_readPart 1 = .ok (.aload_n 1, 1) := by decide +kernel
theorem dX9_readPart_2 : decode cX9_readPart 2 = .ok (.invokevirtual 135, 3) := by decide +kernel
theorem dX9_readPart_5 : decode cX9_readPart 5 = .ok (.aload_n 0, 1) := by decide +kernel
theorem dX9_readPart_6 : decode cX9_readPart 6 = .ok (.iload_n 2, 1) := by decide +kernel
theorem dX9_readPart_7 : decode cX9_readPart 7 = .ok (.iload_n 3, 1) := by decide +kernel
theorem dX9_readPart_8 : decode cX9_readPart 8 = .ok (.invokevirtual 139, 3) := by decide +kernel
theorem dX9_readPart_11 : decode cX9_readPart 11 = .ok (.ireturn, 1) := by decide +kernel
theorem dX9_isName_0 : decode cX9_isName 0 = .ok (.aload_n 0, 1) := by decide +kernel
theorem dX9_isName_1 : decode cX9_isName 1 = .ok (.getfield 84, 3) := by decide +kernel
theorem dX9_isName_4 : decode cX9_isName 4 = .ok (.iconst 2, 1) := by decide +kernel
theorem dX9_isName_5 : decode cX9_isName 5 = .ok (.if_icmp .ne 48, 3) := by decide +kernel
theorem dX9_isName_8 : decode cX9_isName 8 = .ok (.aload_n 0, 1) := by decide +kernel
theorem dX9_isName_9 : decode cX9_isName 9 = .ok (.ldc 143, 2) := by decide +kernel
theorem dX9_isName_11 : decode cX9_isName 11 = .ok (.invokevirtual 123, 3) := by decide +kernel
theorem dX9_isName_14 : decode cX9_isName 14 = .ok (.ifCond .ne 39, 3) := by decide +kernel
theorem dX9_isName_17 : decode cX9_isName 17 = .ok (.aload_n 0, 1) := by decide +kernel
theorem dX9_isName_18 : decode cX9_isName 18 = .ok (.ldc 145, 2) := by decide +kernel
theorem dX9_isName_20 : decode cX9_isName 20 = .ok (.invokevirtual 123, 3) := by decide +kernel
theorem dX9_isName_23 : decode cX9_isName 23 = .ok (.ifCond .ne 30, 3) := by decide +kernel
theorem dX9_isName_26 : decode cX9_isName 26 = .ok (.aload_n 0, 1) := by decide +kernel
theorem dX9_isName_27 : decode cX9_isName 27 = .ok (.ldc 147, 2) := by decide +kernel
theorem dX9_isName_29 : decode cX9_isName 29 = .ok (.invokevirtual 123, 3) := by decide +kernel
theorem dX9_isName_32 : decode cX9_isName 32 = .ok (.ifCond .ne 21, 3) := by decide +kernel
theorem dX9_isName_35 : decode cX9_isName 35 = .ok (.aload_n 0, 1) := by decide +kernel
theorem dX9_isName_36 : decode cX9_isName 36 = .ok (.ldc 149, 2) := by decide +kernel
theorem dX9_isName_38 : decode cX9_isName 38 = .ok (.invokevirtual 123, 3) := by decide +kernel
theorem dX9_isName_41 : decode cX9_isName 41 = .ok (.ifCond .ne 12, 3) := by decide +kernel
theorem dX9_isName_44 : decode cX9_isName 44 = .ok (.aload_n 0, 1) := by decide +kernel
theorem dX9_isName_45 : decode cX9_isName 45 = .ok (.ldc 151, 2) := by decide +kernel
theorem dX9_isName_47 : decode cX9_isName 47 = .ok (.invokevirtual 123, 3) := by decide +kernel
theorem dX9_isName_50 : decode cX9_isName 50 = .ok (.ifCond .eq 5, 3) := by decide +kernel
theorem dX9_isName_53 : decode cX9_isName 53 = .ok (.iconst 0, 1) := by decide +kernel
theorem dX9_isName_54 : decode cX9_isName 54 = .ok (.ireturn, 1) := by decide +kernel
theorem dX9_isName_55 : decode cX9_isName 55 = .ok (.aload_n 0, 1) := by decide +kernel
theorem dX9_isName_56 : decode cX9_isName 56 = .ok (.ldc 153, 2) := by decide +kernel
theorem dX9_isName_58 : decode cX9_isName 58 = .ok (.invokevirtual 123, 3) := by decide +kernel
theorem dX9_isName_61 : decode cX9_isName 61 = .ok (.ifCond .ne 34, 3) := by decide +kernel
theorem dX9_isName_64 : decode cX9_isName 64 = .ok (.aload_n 0, 1) := by decide +kernel
theorem dX9_isName_65 : decode cX9_isName 65 = .ok (.ldc 155, 2) := by decide +kernel
theorem dX9_isName_67 : decode cX9_isName 67 = .ok (.invokevirtual 123, 3) := by decide +kernel
theorem dX9_isName_70 : decode cX9_isName 70 = .ok (.ifCond .ne 25, 3) := by decide +kernel
theorem dX9_isName_73 : decode cX9_isName 73 = .ok (.aload_n 0, 1) := by decide +kernel
theorem dX9_isName_74 : decode cX9_isName 74 = .ok (.ldc 157, 2) := by decide +kernel
theorem dX9_isName_76 : decode cX9_isName 76 = .ok (.invokevirtual 123, 3) := by decide +kernel
theorem dX9_isName_79 : decode cX9_isName 79 = .ok (.ifCond .ne 16, 3) := by decide +kernel
theorem dX9_isName_82 : decode cX9_isName 82 = .ok (.aload_n 0, 1) := by decide +kernel
theorem dX9_isName_83 : decode cX9_isName 83 = .ok (.ldc 159, 2) := by decide +kernel
theorem dX9_isName_85 : decode cX9_isName 85 = .ok (.invokevirtual 123, 3) := by decide +kernel
theorem dX9_isName_88 : decode cX9_isName 88 = .ok (.ifCond .ne 7, 3) := by decide +kernel
theorem dX9_isName_91 : decode cX9_isName 91 = .ok (.iconst 1, 1) := by decide +kernel
theorem dX9_isName_92 : decode cX9_isName 92 = .ok (.goto 4, 3) := by decide +kernel
theorem dX9_isName_95 : decode cX9_isName 95 = .ok (.iconst 0, 1) := by decide +kernel
theorem dX9_isName_96 : decode cX9_isName 96 = .ok (.ireturn, 1) := by decide +kernel
theorem dX9_lineBegins_0 : decode cX9_lineBegins 0 = .ok (.iload_n 1, 1) := by decide +kernel
theorem dX9_lineBegins_1 : decode cX9_lineBegins 1 = .ok (.iload_n 2, 1) := by decide +kernel
theorem dX9_lineBegins_2 : decode cX9_lineBegins 2 = .ok (.if_icmp .ne 8, 3) := by decide +kernel
theorem dX9_lineBegins_5 : decode cX9_lineBegins 5 = .ok (.aload_n 0, 1) := by decide +kernel
theorem dX9_lineBegins_6 : decode cX9_lineBegins 6 = .ok (.iconst 5, 1) := by decide +kernel
theorem dX9_lineBegins_7 : decode cX9_lineBegins 7 = .ok (.invokevirtual 127, 3) := by decide +kernel
theorem dX9_lineBegins_10 : decode cX9_lineBegins 10 = .ok (.aload_n 0, 1) := by decide +kernel
theorem dX9_lineBegins_11 : decode cX9_lineBegins 11 = .ok (.getfield 161, 3) := by decide +kernel
theorem dX9_lineBegins_14 : decode cX9_lineBegins 14 = .ok (.getfield 165, 3) := by decide +kernel
theorem dX9_lineBegins_17 : decode cX9_lineBegins 17 = .ok (.iconst (-1), 1) := by decide +kernel
theorem dX9_lineBegins_18 : decode cX9_lineBegins 18 = .ok (.if_icmp .ne 9, 3) := by decide +kernel
theorem dX9_lineBegins_21 : decode cX9_lineBegins 21 = .ok (.aload_n 0, 1) := by decide +kernel
theorem dX9_lineBegins_22 : decode cX9_lineBegins 22 = .ok (.bipush 6, 2) := by decide +kernel
theorem dX9_lineBegins_24 : decode cX9_lineBegins 24 = .ok (.invokevirtual 127, 3) := by decide +kernel
theorem dX9_lineBegins_27 : decode cX9_lineBegins 27 = .ok (.aload_n 0, 1) := by decide +kernel
theorem dX9_lineBegins_28 : decode cX9_lineBegins 28 = .ok (.invokevirtual 120, 3) := by decide +kernel
theorem dX9_lineBegins_31 : decode cX9_lineBegins 31 = .ok (.return_, 1) := by decide +kernel
theorem dX9_houseAtHand_0 : decode cX9_houseAtHand 0 = .ok (.aload_n 0, 1) := by decide +kernel
theorem dX9_houseAtHand_1 : decode cX9_houseAtHand 1 = .ok (.invokevirtual 170, 3) := by decide +kernel
theorem dX9_houseAtHand_4 : decode cX9_houseAtHand 4 = .ok (.ifCond .ne 8, 3) := by decide +kernel
theorem dX9_houseAtHand_7 : decode cX9_houseAtHand 7 = .ok (.aload_n 0, 1) := by decide +kernel
theorem dX9_houseAtHand_8 : decode cX9_houseAtHand 8 = .ok (.iconst 1, 1) := by decide +kernel
theorem dX9_houseAtHand_9 : decode cX9_houseAtHand 9 = .ok (.invokevirtual 127, 3) := by decide +kernel
theorem dX9_houseAtHand_12 : decode cX9_houseAtHand 12 = .ok (.aload_n 0, 1) := by decide +kernel
theorem dX9_houseAtHand_13 : decode cX9_houseAtHand 13 = .ok (.getfield 161, 3) := by decide +kernel
theorem dX9_houseAtHand_16 : decode cX9_houseAtHand 16 = .ok (.aload_n 0, 1) := by decide +kernel
theorem dX9_houseAtHand_17 : decode cX9_houseAtHand 17 = .ok (.getfield 100, 3) := by decide +kernel
theorem dX9_houseAtHand_20 : decode cX9_houseAtHand 20 = .ok (.invokevirtual 174, 3) := by decide +kernel
theorem dX9_houseAtHand_23 : decode cX9_houseAtHand 23 = .ok (.istore_n 1, 1) := by decide +kernel
theorem dX9_houseAtHand_24 : decode cX9_houseAtHand 24 = .ok (.iload_n 1, 1) := by decide +kernel
theorem dX9_houseAtHand_25 : decode cX9_houseAtHand 25 = .ok (.iconst (-1), 1) := by decide +kernel
theorem dX9_houseAtHand_26 : decode cX9_houseAtHand 26 = .ok (.if_icmp .ne 8, 3) := by decide +kernel
theorem dX9_houseAtHand_29 : decode cX9_houseAtHand 29 = .ok (.aload_n 0, 1) := by decide +kernel
theorem dX9_houseAtHand_30 : decode cX9_houseAtHand 30 = .ok (.iconst 2, 1) := by decide +kernel
theorem dX9_houseAtHand_31 : decode cX9_houseAtHand 31 = .ok (.invokevirtual 127, 3) := by decide +kernel
theorem dX9_houseAtHand_34 : decode cX9_houseAtHand 34 = .ok (.aload_n 0, 1) := by decide +kernel
theorem dX9_houseAtHand_35 : decode cX9_houseAtHand 35 = .ok (.getfield 84, 3) := by decide +kernel
theorem dX9_houseAtHand_38 : decode cX9_houseAtHand 38 = .ok (.iconst 5, 1) := by decide +kernel
theorem dX9_houseAtHand_39 : decode cX9_houseAtHand 39 = .ok (.if_icmp .ne 7, 3) := by decide +kernel
theorem dX9_houseAtHand_42 : decode cX9_houseAtHand 42 = .ok (.iconst 0, 1) := by decide +kernel
theorem dX9_houseAtHand_43 : decode cX9_houseAtHand 43 = .ok (.goto 4, 3) := by decide +kernel
theorem dX9_houseAtHand_46 : decode cX9_houseAtHand 46 = .ok (.iload_n 1, 1) := by decide +kernel
theorem dX9_houseAtHand_47 : decode cX9_houseAtHand 47 = .ok (.ireturn, 1) := by decide +kernel
theorem dX9_readHouseName_0 : decode cX9_readHouseName 0 = .ok (.aload_n 0, 1) := by decide +kernel
theorem dX9_readHouseName_1 : decode cX9_readHouseName 1 = .ok (.invokevirtual 178, 3) := by decide +kernel
theorem dX9_readHouseName_4 : decode cX9_readHouseName 4 = .ok (.istore_n 1, 1) := by decide +kernel
theorem dX9_readHouseName_5 : decode cX9_readHouseName 5 = .ok (.aload_n 0, 1) := by decide +kernel
theorem dX9_readHouseName_6 : decode cX9_readHouseName 6 = .ok (.invokevirtual 120, 3) := by decide +kernel
theorem dX9_readHouseName_9 : decode cX9_readHouseName 9 = .ok (.iload_n 1, 1) := by decide +kernel
theorem dX9_readHouseName_10 : decode cX9_readHouseName 10 = .ok (.ireturn, 1) := by decide +kernel
theorem dX9_readAll_0 : decode cX9_readAll 0 = .ok (.iconst 1, 1) := by decide +kernel
theorem dX9_readAll_1 : decode cX9_readAll 1 = .ok (.istore_n 1, 1) := by decide +kernel
theorem dX9_readAll_2 : decode cX9_readAll 2 = .ok (.iload_n 1, 1) := by decide +kernel
theorem dX9_readAll_3 : decode cX9_readAll 3 = .ok (.ifCond .eq 15, 3) := by decide +kernel
theorem dX9_readAll_6 : decode cX9_readAll 6 = .ok (.aload_n 0, 1) := by decide +kernel
theorem dX9_readAll_7 : decode cX9_readAll 7 = .ok (.invokevirtual 181, 3) := by decide +kernel
theorem dX9_readAll_10 : decode cX9_readAll 10 = .ok (.aload_n 0, 1) := by decide +kernel
theorem dX9_readAll_11 : decode cX9_readAll 11 = .ok (.invokevirtual 184, 3) := by decide +kernel
theorem dX9_readAll_14 : decode cX9_readAll 14 = .ok (.istore_n 1, 1) := by decide +kernel
theorem dX9_readAll_15 : decode cX9_readAll 15 = .ok (.goto (-13), 3) := by decide +kernel
theorem dX9_readAll_18 : decode cX9_readAll 18 = .ok (.aload_n 0, 1) := by decide +kernel
theorem dX9_readAll_19 : decode cX9_readAll 19 = .ok (.getfield 84, 3) := by decide +kernel
theorem dX9_readAll_22 : decode cX9_readAll 22 = .ok (.iconst 1, 1) := by decide +kernel
theorem dX9_readAll_23 : decode cX9_readAll 23 = .ok (.if_icmp .eq 8, 3) := by decide +kernel
theorem dX9_readAll_26 : decode cX9_readAll 26 = .ok (.aload_n 0, 1) := by decide +kernel
theorem dX9_readAll_27 : decode cX9_readAll 27 = .ok (.iconst 1, 1) := by decide +kernel
theorem dX9_readAll_28 : decode cX9_readAll 28 = .ok (.invokevirtual 127, 3) := by decide +kernel
theorem dX9_readAll_31 : decode cX9_readAll 31 = .ok (.aload_n 0, 1) := by decide +kernel
theorem dX9_readAll_32 : decode cX9_readAll 32 = .ok (.getfield 161, 3) := by decide +kernel
theorem dX9_readAll_35 : decode cX9_readAll 35 = .ok (.getfield 187, 3) := by decide +kernel
theorem dX9_readAll_38 : decode cX9_readAll 38 = .ok (.ifCond .ne 9, 3) := by decide +kernel
theorem dX9_readAll_41 : decode cX9_readAll 41 = .ok (.aload_n 0, 1) := by decide +kernel
theorem dX9_readAll_42 : decode cX9_readAll 42 = .ok (.bipush 6, 2) := by decide +kernel
theorem dX9_readAll_44 : decode cX9_readAll 44 = .ok (.invokevirtual 127, 3) := by decide +kernel
theorem dX9_readAll_47 : decode cX9_readAll 47 = .ok (.return_, 1) := by decide +kernel
theorem dX9_readLine_0 : decode cX9_readLine 0 = .ok (.aload_n 0, 1) := by decide +kernel
theorem dX9_readLine_1 : decode cX9_readLine 1 = .ok (.ldc 143, 2) := by decide +kernel
theorem dX9_readLine_3 : decode cX9_readLine 3 = .ok (.invokevirtual 123, 3) := by decide +kernel
theorem dX9_readLine_6 : decode cX9_readLine 6 = .ok (.ifCond .eq 10, 3) := by decide +kernel
theorem dX9_readLine_9 : decode cX9_readLine 9 = .ok (.aload_n 0, 1) := by decide +kernel
theorem dX9_readLine_10 : decode cX9_readLine 10 = .ok (.invokevirtual 190, 3) := by decide +kernel
theorem dX9_readLine_13 : decode cX9_readLine 13 = .ok (.goto 120, 3) := by decide +kernel
theorem dX9_readLine_16 : decode cX9_readLine 16 = .ok (.aload_n 0, 1) := by decide +kernel
theorem dX9_readLine_17 : decode cX9_readLine 17 = .ok (.ldc 145, 2) := by decide +kernel
theorem dX9_readLine_19 : decode cX9_readLine 19 = .ok (.invokevirtual 123, 3) := by decide +kernel
theorem dX9_readLine_22 : decode cX9_readLine 22 = .ok (.ifCond .eq 10, 3) := by decide +kernel
theorem dX9_readLine_25 : decode cX9_readLine 25 = .ok (.aload_n 0, 1) := by decide +kernel
theorem dX9_readLine_26 : decode cX9_readLine 26 = .ok (.invokevirtual 193, 3) := by decide +kernel
theorem dX9_readLine_29 : decode cX9_readLine 29 = .ok (.goto 104, 3) := by decide +kernel
theorem dX9_readLine_32 : decode cX9_readLine 32 = .ok (.aload_n 0, 1) := by decide +kernel
theorem dX9_readLine_33 : decode cX9_readLine 33 = .ok (.ldc 147, 2) := by decide +kernel
theorem dX9_readLine_35 : decode cX9_readLine 35 = .ok (.invokevirtual 123, 3) := by decide +kernel
theorem dX9_readLine_38 : decode cX9_readLine 38 = .ok (.ifCond .eq 10, 3) := by decide +kernel
theorem dX9_readLine_41 : decode cX9_readLine 41 = .ok (.aload_n 0, 1) := by decide +kernel
theorem dX9_readLine_42 : decode cX9_readLine 42 = .ok (.invokevirtual 196, 3) := by decide +kernel
theorem dX9_readLine_45 : decode cX9_readLine 45 = .ok (.goto 88, 3) := by decide +kernel
theorem dX9_readLine_48 : decode cX9_readLine 48 = .ok (.aload_n 0, 1) := by decide +kernel
theorem dX9_readLine_49 : decode cX9_readLine 49 = .ok (.ldc 149, 2) := by decide +kernel
theorem dX9_readLine_51 : decode cX9_readLine 51 = .ok (.invokevirtual 123, 3) := by decide +kernel
theorem dX9_readLine_54 : decode cX9_readLine 54 = .ok (.ifCond .eq 10, 3) := by decide +kernel
theorem dX9_readLine_57 : decode cX9_readLine 57 = .ok (.aload_n 0, 1) := by decide +kernel
theorem dX9_readLine_58 : decode cX9_readLine 58 = .ok (.invokevirtual 199, 3) := by decide +kernel
theorem dX9_readLine_61 : decode cX9_readLine 61 = .ok (.goto 72, 3) := by decide +kernel
theorem dX9_readLine_64 : decode cX9_readLine 64 = .ok (.aload_n 0, 1) := by decide +kernel
theorem dX9_readLine_65 : decode cX9_readLine 65 = .ok (.ldc 151, 2) := by decide +kernel
theorem dX9_readLine_67 : decode cX9_readLine 67 = .ok (.invokevirtual 123, 3) := by decide +kernel
theorem dX9_readLine_70 : decode cX9_readLine 70 = .ok (.ifCond .eq 10, 3) := by decide +kernel
theorem dX9_readLine_73 : decode cX9_readLine 73 = .ok (.aload_n 0, 1) := by decide +kernel
theorem dX9_readLine_74 : decode cX9_readLine 74 = .ok (.invokevirtual 202, 3) := by decide +kernel
theorem dX9_readLine_77 : decode cX9_readLine 77 = .ok (.goto 56, 3) := by decide +kernel
theorem dX9_readLine_80 : decode cX9_readLine 80 = .ok (.aload_n 0, 1) := by decide +kernel
theorem dX9_readLine_81 : decode cX9_readLine 81 = .ok (.ldc 153, 2) := by decide +kernel
theorem dX9_readLine_83 : decode cX9_readLine 83 = .ok (.invokevirtual 123, 3) := by decide +kernel
theorem dX9_readLine_86 : decode cX9_readLine 86 = .ok (.ifCond .eq 10, 3) := by decide +kernel
theorem dX9_readLine_89 : decode cX9_readLine 89 = .ok (.aload_n 0, 1) := by decide +kernel
theorem dX9_readLine_90 : decode cX9_readLine 90 = .ok (.invokevirtual 205, 3) := by decide +kernel
theorem dX9_readLine_93 : decode cX9_readLine 93 = .ok (.goto 40, 3) := by decide +kernel
theorem dX9_readLine_96 : decode cX9_readLine 96 = .ok (.aload_n 0, 1) := by decide +kernel
theorem dX9_readLine_97 : decode cX9_readLine 97 = .ok (.ldc 155, 2) := by decide +kernel
theorem dX9_readLine_99 : decode cX9_readLine 99 = .ok (.invokevirtual 123, 3) := by decide +kernel
theorem dX9_readLine_102 : decode cX9_readLine 102 = .ok (.ifCond .eq 10, 3) := by decide +kernel
theorem dX9_readLine_105 : decode cX9_readLine 105 = .ok (.aload_n 0, 1) := by decide +kernel
theorem dX9_readLine_106 : decode cX9_readLine 106 = .ok (.invokevirtual 208, 3) := by decide +kernel
theorem dX9_readLine_109 : decode cX9_readLine 109 = .ok (.goto 24, 3) := by decide +kernel
theorem dX9_readLine_112 : decode cX9_readLine 112 = .ok (.aload_n 0, 1) := by decide +kernel
theorem dX9_readLine_113 : decode cX9_readLine 113 = .ok (.ldc 157, 2) := by decide +kernel
theorem dX9_readLine_115 : decode cX9_readLine 115 = .ok (.invokevirtual 123, 3) := by decide +kernel
theorem dX9_readLine_118 : decode cX9_readLine 118 = .ok (.ifCond .eq 10, 3) := by decide +kernel
theorem dX9_readLine_121 : decode cX9_readLine 121 = .ok (.aload_n 0, 1) := by decide +kernel
theorem dX9_readLine_122 : decode cX9_readLine 122 = .ok (.invokevirtual 211, 3) := by decide +kernel
theorem dX9_readLine_125 : decode cX9_readLine 125 = .ok (.goto 8, 3) := by decide +kernel
theorem dX9_readLine_128 : decode cX9_readLine 128 = .ok (.aload_n 0, 1) := by decide +kernel
theorem dX9_readLine_129 : decode cX9_readLine 129 = .ok (.iconst 1, 1) := by decide +kernel
theorem dX9_readLine_130 : decode cX9_readLine 130 = .ok (.invokevirtual 127, 3) := by decide +kernel
theorem dX9_readLine_133 : decode cX9_readLine 133 = .ok (.return_, 1) := by decide +kernel
theorem dX9_readStreet_0 : decode cX9_readStreet 0 = .ok (.aload_n 0, 1) := by decide +kernel
theorem dX9_readStreet_1 : decode cX9_readStreet 1 = .ok (.getfield 161, 3) := by decide +kernel
theorem dX9_readStreet_4 : decode cX9_readStreet 4 = .ok (.getfield 165, 3) := by decide +kernel
theorem dX9_readStreet_7 : decode cX9_readStreet 7 = .ok (.iconst (-1), 1) := by decide +kernel
theorem dX9_readStreet_8 : decode cX9_readStreet 8 = .ok (.if_icmp .eq 8, 3) := by decide +kernel
theorem dX9_readStreet_11 : decode cX9_readStreet 11 = .ok (.aload_n 0, 1) := by decide +kernel
theorem dX9_readStreet_12 : decode cX9_readStreet 12 = .ok (.iconst 3, 1) := by decide +kernel
theorem dX9_readStreet_13 : decode cX9_readStreet 13 = .ok (.invokevirtual 127, 3) := by decide +kernel
theorem dX9_readStreet_16 : decode cX9_readStreet 16 = .ok (.aload_n 0, 1) := by decide +kernel
theorem dX9_readStreet_17 : decode cX9_readStreet 17 = .ok (.invokevirtual 120, 3) := by decide +kernel
theorem dX9_readStreet_20 : decode cX9_readStreet 20 = .ok (.aload_n 0, 1) := by decide +kernel
theorem dX9_readStreet_21 : decode cX9_readStreet 21 = .ok (.ldc 214, 2) := by decide +kernel
theorem dX9_readStreet_23 : decode cX9_readStreet 23 = .ok (.iconst 0, 1) := by decide +kernel
theorem dX9_readStreet_24 : decode cX9_readStreet 24 = .ok (.bipush 9, 2) := by decide +kernel
theorem dX9_readStreet_26 : decode cX9_readStreet 26 = .ok (.invokevirtual 215, 3) := by decide +kernel
theorem dX9_readStreet_29 : decode cX9_readStreet 29 = .ok (.istore_n 1, 1) := by decide +kernel
theorem dX9_readStreet_30 : decode cX9_readStreet 30 = .ok (.aload_n 0, 1) := by decide +kernel
theorem dX9_readStreet_31 : decode cX9_readStreet 31 = .ok (.getfield 84, 3) := by decide +kernel
theorem dX9_readStreet_34 : decode cX9_readStreet 34 = .ok (.iconst 5, 1) := by decide +kernel
theorem dX9_readStreet_35 : decode cX9_readStreet 35 = .ok (.if_icmp .eq 11, 3) := by decide +kernel
theorem dX9_readStreet_38 : decode cX9_readStreet 38 = .ok (.aload_n 0, 1) := by decide +kernel
theorem dX9_readStreet_39 : decode cX9_readStreet 39 = .ok (.getfield 161, 3) := by decide +kernel
theorem dX9_readStreet_42 : decode cX9_readStreet 42 = .ok (.iload_n 1, 1) := by decide +kernel
theorem dX9_readStreet_43 : decode cX9_readStreet 43 = .ok (.putfield 165, 3) := by decide +kernel
theorem dX9_readStreet_46 : decode cX9_readStreet 46 = .ok (.return_, 1) := by decide +kernel
theorem dX9_readHouse_0 : decode cX9_readHouse 0 = .ok (.aload_n 0, 1) := by decide +kernel
theorem dX9_readHouse_1 : decode cX9_readHouse 1 = .ok (.aload_n 0, 1) := by decide +kernel
theorem dX9_readHouse_2 : decode cX9_readHouse 2 = .ok (.getfield 161, 3) := by decide +kernel
theorem dX9_readHouse_5 : decode cX9_readHouse 5 = .ok (.getfield 187, 3) := by decide +kernel
theorem dX9_readHouse_8 : decode cX9_readHouse 8 = .ok (.bipush 6, 2) := by decide +kernel
theorem dX9_readHouse_10 : decode cX9_readHouse 10 = .ok (.invokevirtual 219, 3) := by decide +kernel
theorem dX9_readHouse_13 : decode cX9_readHouse 13 = .ok (.aload_n 0, 1) := by decide +kernel
theorem dX9_readHouse_14 : decode cX9_readHouse 14 = .ok (.invokevirtual 170, 3) := by decide +kernel
theorem dX9_readHouse_17 : decode cX9_readHouse 17 = .ok (.ifCond .ne 8, 3) := by decide +kernel
theorem dX9_readHouse_20 : decode cX9_readHouse 20 = .ok (.aload_n 0, 1) := by decide +kernel
theorem dX9_readHouse_21 : decode cX9_readHouse 21 = .ok (.iconst 1, 1) := by decide +kernel
theorem dX9_readHouse_22 : decode cX9_readHouse 22 = .ok (.invokevirtual 127, 3) := by decide +kernel
theorem dX9_readHouse_25 : decode cX9_readHouse 25 = .ok (.aload_n 0, 1) := by decide +kernel
theorem dX9_readHouse_26 : decode cX9_readHouse 26 = .ok (.getfield 161, 3) := by decide +kernel
theorem dX9_readHouse_29 : decode cX9_readHouse 29 = .ok (.aload_n 0, 1) := by decide +kernel
theorem dX9_readHouse_30 : decode cX9_readHouse 30 = .ok (.getfield 100, 3) := by decide +kernel
theorem dX9_readHouse_33 : decode cX9_readHouse 33 = .ok (.invokevirtual 174, 3) := by decide +kernel
theorem dX9_readHouse_36 : decode cX9_readHouse 36 = .ok (.iconst (-1), 1) := by decide +kernel
theorem dX9_readHouse_37 : decode cX9_readHouse 37 = .ok (.if_icmp .eq 8, 3) := by decide +kernel
theorem dX9_readHouse_40 : decode cX9_readHouse 40 = .ok (.aload_n 0, 1) := by decide +kernel
theorem dX9_readHouse_41 : decode cX9_readHouse 41 = .ok (.iconst 3, 1) := by decide +kernel
theorem dX9_readHouse_42 : decode cX9_readHouse 42 = .ok (.invokevirtual 127, 3) := by decide +kernel
theorem dX9_readHouse_45 : decode cX9_readHouse 45 = .ok (.aload_n 0, 1) := by decide +kernel
theorem dX9_readHouse_46 : decode cX9_readHouse 46 = .ok (.getfield 100, 3) := by decide +kernel
theorem dX9_readHouse_49 : decode cX9_readHouse 49 = .ok (.lstore_n 1, 1) := by decide +kernel
theorem dX9_readHouse_50 : decode cX9_readHouse 50 = .ok (.aload_n 0, 1) := by decide +kernel
theorem dX9_readHouse_51 : decode cX9_readHouse 51 = .ok (.invokevirtual 120, 3) := by decide +kernel
theorem dX9_readHouse_54 : decode cX9_readHouse 54 = .ok (.aload_n 0, 1) := by decide +kernel
theorem dX9_readHouse_55 : decode cX9_readHouse 55 = .ok (.ldc 223, 2) := by decide +kernel
theorem dX9_readHouse_57 : decode cX9_readHouse 57 = .ok (.invokevirtual 123, 3) := by decide +kernel
theorem dX9_readHouse_60 : decode cX9_readHouse 60 = .ok (.ifCond .eq 7, 3) := by decide +kernel
theorem dX9_readHouse_63 : decode cX9_readHouse 63 = .ok (.iconst 0, 1) := by decide +kernel
theorem dX9_readHouse_64 : decode cX9_readHouse 64 = .ok (.goto 43, 3) := by decide +kernel
theorem dX9_readHouse_67 : decode cX9_readHouse 67 = .ok (.aload_n 0, 1) := by decide +kernel
theorem dX9_readHouse_68 : decode cX9_readHouse 68 = .ok (.ldc 225, 2) := by decide +kernel
theorem dX9_readHouse_70 : decode cX9_readHouse 70 = .ok (.invokevirtual 123, 3) := by decide +kernel
theorem dX9_readHouse_73 : decode cX9_readHouse 73 = .ok (.ifCond .eq 7, 3) := by decide +kernel
theorem dX9_readHouse_76 : decode cX9_readHouse 76 = .ok (.iconst 1, 1) := by decide +kernel
theorem dX9_readHouse_77 : decode cX9_readHouse 77 = .ok (.goto 30, 3) := by decide +kernel
theorem dX9_readHouse_80 : decode cX9_readHouse 80 = .ok (.aload_n 0, 1) := by decide +kernel
theorem dX9_readHouse_81 : decode cX9_readHouse 81 = .ok (.ldc 227, 2) := by decide +kernel
theorem dX9_readHouse_83 : decode cX9_readHouse 83 = .ok (.invokevirtual 123, 3) := by decide +kernel
theorem dX9_readHouse_86 : decode cX9_readHouse 86 = .ok (.ifCond .eq 7, 3) := by decide +kernel
theorem dX9_readHouse_89 : decode cX9_readHouse 89 = .ok (.iconst 2, 1) := by decide +kernel
theorem dX9_readHouse_90 : decode cX9_readHouse 90 = .ok (.goto 17, 3) := by decide +kernel
theorem dX9_readHouse_93 : decode cX9_readHouse 93 = .ok (.aload_n 0, 1) := by decide +kernel
theorem dX9_readHouse_94 : decode cX9_readHouse 94 = .ok (.ldc 229, 2) := by decide +kernel
theorem dX9_readHouse_96 : decode cX9_readHouse 96 = .ok (.invokevirtual 123, 3) := by decide +kernel
theorem dX9_readHouse_99 : decode cX9_readHouse 99 = .ok (.ifCond .eq 7, 3) := by decide +kernel
theorem dX9_readHouse_102 : decode cX9_readHouse 102 = .ok (.iconst 3, 1) := by decide +kernel
theorem dX9_readHouse_103 : decode cX9_readHouse 103 = .ok (.goto 4, 3) := by decide +kernel
theorem dX9_readHouse_106 : decode cX9_readHouse 106 = .ok (.iconst (-1), 1) := by decide +kernel
theorem dX9_readHouse_107 : decode cX9_readHouse 107 = .ok (.istore_n 3, 1) := by decide +kernel
theorem dX9_readHouse_108 : decode cX9_readHouse 108 = .ok (.iload_n 3, 1) := by decide +kernel
theorem dX9_readHouse_109 : decode cX9_readHouse 109 = .ok (.iconst (-1), 1) := by decide +kernel
theorem dX9_readHouse_110 : decode cX9_readHouse 110 = .ok (.if_icmp .ne 8, 3) := by decide +kernel
theorem dX9_readHouse_113 : decode cX9_readHouse 113 = .ok (.aload_n 0, 1) := by decide +kernel
theorem dX9_readHouse_114 : decode cX9_readHouse 114 = .ok (.iconst 1, 1) := by decide +kernel
theorem dX9_readHouse_115 : decode cX9_readHouse 115 = .ok (.invokevirtual 127, 3) := by decide +kernel
theorem dX9_readHouse_118 : decode cX9_readHouse 118 = .ok (.aload_n 0, 1) := by decide +kernel
theorem dX9_readHouse_119 : decode cX9_readHouse 119 = .ok (.invokevirtual 120, 3) := by decide +kernel
theorem dX9_readHouse_122 : decode cX9_readHouse 122 = .ok (.aload_n 0, 1) := by decide +kernel
theorem dX9_readHouse_123 : decode cX9_readHouse 123 = .ok (.ldc 231, 2) := by decide +kernel
theorem dX9_readHouse_125 : decode cX9_readHouse 125 = .ok (.invokevirtual 123, 3) := by decide +kernel
theorem dX9_readHouse_128 : decode cX9_readHouse 128 = .ok (.istore 4, 2) := by decide +kernel
theorem dX9_readHouse_130 : decode cX9_readHouse 130 = .ok (.bipush (-2), 2) := by decide +kernel
theorem dX9_readHouse_132 : decode cX9_readHouse 132 = .ok (.istore 5, 2) := by decide +kernel
theorem dX9_readHouse_134 : decode cX9_readHouse 134 = .ok (.iconst 0, 1) := by decide +kernel
theorem dX9_readHouse_135 : decode cX9_readHouse 135 = .ok (.istore 6, 2) := by decide +kernel
theorem dX9_readHouse_137 : decode cX9_readHouse 137 = .ok (.iload 4, 2) := by decide +kernel
theorem dX9_readHouse_139 : decode cX9_readHouse 139 = .ok (.ifCond .eq 10, 3) := by decide +kernel
theorem dX9_readHouse_142 : decode cX9_readHouse 142 = .ok (.aload_n 0, 1) := by decide +kernel
theorem dX9_readHouse_143 : decode cX9_readHouse 143 = .ok (.invokevirtual 120, 3) := by decide +kernel
theorem dX9_readHouse_146 : decode cX9_readHouse 146 = .ok (.goto 25, 3) := by decide +kernel
theorem dX9_readHouse_149 : decode cX9_readHouse 149 = .ok (.aload_n 0, 1) := by decide +kernel
theorem dX9_readHouse_150 : decode cX9_readHouse 150 = .ok (.ldc 233, 2) := by decide +kernel
theorem dX9_readHouse_152 : decode cX9_readHouse 152 = .ok (.iconst 0, 1) := by decide +kernel
theorem dX9_readHouse_153 : decode cX9_readHouse 153 = .ok (.bipush 60, 2) := by decide +kernel
theorem dX9_readHouse_155 : decode cX9_readHouse 155 = .ok (.invokevirtual 215, 3) := by decide +kernel
theorem dX9_readHouse_158 : decode cX9_readHouse 158 = .ok (.istore 5, 2) := by decide +kernel
theorem dX9_readHouse_160 : decode cX9_readHouse 160 = .ok (.aload_n 0, 1) := by decide +kernel
theorem dX9_readHouse_161 : decode cX9_readHouse 161 = .ok (.ldc 235, 2) := by decide +kernel
theorem dX9_readHouse_163 : decode cX9_readHouse 163 = .ok (.iconst 0, 1) := by decide +kernel
theorem dX9_readHouse_164 : decode cX9_readHouse 164 = .ok (.bipush 100, 2) := by decide +kernel
theorem dX9_readHouse_166 : decode cX9_readHouse 166 = .ok (.invokevirtual 215, 3) := by decide +kernel
theorem dX9_readHouse_169 : decode cX9_readHouse 169 = .ok (.istore 6, 2) := by decide +kernel
theorem dX9_readHouse_171 : decode cX9_readHouse 171 = .ok (.aload_n 0, 1) := by decide +kernel
theorem dX9_readHouse_172 : decode cX9_readHouse 172 = .ok (.getfield 84, 3) := by decide +kernel
theorem dX9_readHouse_175 : decode cX9_readHouse 175 = .ok (.iconst 5, 1) := by decide +kernel
theorem dX9_readHouse_176 : decode cX9_readHouse 176 = .ok (.if_icmp .ne 4, 3) := by decide +kernel
theorem dX9_readHouse_179 : decode cX9_readHouse 179 = .ok (.return_, 1) := by decide +kernel
theorem dX9_readHouse_180 : decode cX9_readHouse 180 = .ok (.aload_n 0, 1) := by decide +kernel
theorem dX9_readHouse_181 : decode cX9_readHouse 181 = .ok (.getfield 161, 3) := by decide +kernel
theorem dX9_readHouse_184 : decode cX9_readHouse 184 = .ok (.getfield 187, 3) := by decide +kernel
theorem dX9_readHouse_187 : decode cX9_readHouse 187 = .ok (.istore 7, 2) := by decide +kernel
theorem dX9_readHouse_189 : decode cX9_readHouse 189 = .ok (.aload_n 0, 1) := by decide +kernel
theorem dX9_readHouse_190 : decode cX9_readHouse 190 = .ok (.getfield 161, 3) := by decide +kernel
theorem dX9_readHouse_193 : decode cX9_readHouse 193 = .ok (.getfield 237, 3) := by decide +kernel
theorem dX9_readHouse_196 : decode cX9_readHouse 196 = .ok (.iload 7, 2) := by decide +kernel
theorem dX9_readHouse_198 : decode cX9_readHouse 198 = .ok (.lload_n 1, 1) := by decide +kernel
theorem dX9_readHouse_199 : decode cX9_readHouse 199 = .ok (.lastore, 1) := by decide +kernel
theorem dX9_readHouse_200 : decode cX9_readHouse 200 = .ok (.aload_n 0, 1) := by decide +kernel
theorem dX9_readHouse_201 : decode cX9_readHouse 201 = .ok (.getfield 161, 3) := by decide +kernel
theorem dX9_readHouse_204 : decode cX9_readHouse 204 = .ok (.getfield 240, 3) := by decide +kernel
theorem dX9_readHouse_207 : decode cX9_readHouse 207 = .ok (.iload 7, 2) := by decide +kernel
theorem dX9_readHouse_209 : decode cX9_readHouse 209 = .ok (.iload_n 3, 1) := by decide +kernel
theorem dX9_readHouse_210 : decode cX9_readHouse 210 = .ok (.iastore, 1) := by decide +kernel
theorem dX9_readHouse_211 : decode cX9_readHouse 211 = .ok (.aload_n 0, 1) := by decide +kernel
theorem dX9_readHouse_212 : decode cX9_readHouse 212 = .ok (.getfield 161, 3) := by decide +kernel
theorem dX9_readHouse_215 : decode cX9_readHouse 215 = .ok (.getfield 243, 3) := by decide +kernel
theorem dX9_readHouse_218 : decode cX9_readHouse 218 = .ok (.iload 7, 2) := by decide +kernel
theorem dX9_readHouse_220 : decode cX9_readHouse 220 = .ok (.iload 5, 2) := by decide +kernel
theorem dX9_readHouse_222 : decode cX9_readHouse 222 = .ok (.iastore, 1) := by decide +kernel
theorem dX9_readHouse_223 : decode cX9_readHouse 223 = .ok (.aload_n 0, 1) := by decide +kernel
theorem dX9_readHouse_224 : decode cX9_readHouse 224 = .ok (.getfield 161, 3) := by decide +kernel
theorem dX9_readHouse_227 : decode cX9_readHouse 227 = .ok (.getfield 246, 3) := by decide +kernel
theorem dX9_readHouse_230 : decode cX9_readHouse 230 = .ok (.iload 7, 2) := by decide +kernel
theorem dX9_readHouse_232 : decode cX9_readHouse 232 = .ok (.iload 6, 2) := by decide +kernel
theorem dX9_readHouse_234 : decode cX9_readHouse 234 = .ok (.iastore, 1) := by decide +kernel
theorem dX9_readHouse_235 : decode cX9_readHouse 235 = .ok (.aload_n 0, 1) := by decide +kernel
theorem dX9_readHouse_236 : decode cX9_readHouse 236 = .ok (.getfield 161, 3) := by decide +kernel
theorem dX9_readHouse_239 : decode cX9_readHouse 239 = .ok (.dup, 1) := by decide +kernel
theorem dX9_readHouse_240 : decode cX9_readHouse 240 = .ok (.getfield 187, 3) := by decide +kernel
theorem dX9_readHouse_243 : decode cX9_readHouse 243 = .ok (.iconst 1, 1) := by decide +kernel
theorem dX9_readHouse_244 : decode cX9_readHouse 244 = .ok (.iadd, 1) := by decide +kernel
theorem dX9_readHouse_245 : decode cX9_readHouse 245 = .ok (.putfield 187, 3) := by decide +kernel
theorem dX9_readHouse_248 : decode cX9_readHouse 248 = .ok (.return_, 1) := by decide +kernel
theorem dX9_readSpark_0 : decode cX9_readSpark 0 = .ok (.aload_n 0, 1) := by decide +kernel
theorem dX9_readSpark_1 : decode cX9_readSpark 1 = .ok (.aload_n 0, 1) := by decide +kernel
theorem dX9_readSpark_2 : decode cX9_readSpark 2 = .ok (.getfield 161, 3) := by decide +kernel
theorem dX9_readSpark_5 : decode cX9_readSpark 5 = .ok (.getfield 248, 3) := by decide +kernel
theorem dX9_readSpark_8 : decode cX9_readSpark 8 = .ok (.bipush 9, 2) := by decide +kernel
theorem dX9_readSpark_10 : decode cX9_readSpark 10 = .ok (.invokevirtual 219, 3) := by decide +kernel
theorem dX9_readSpark_13 : decode cX9_readSpark 13 = .ok (.aload_n 0, 1) := by decide +kernel
theorem dX9_readSpark_14 : decode cX9_readSpark 14 = .ok (.invokevirtual 251, 3) := by decide +kernel
theorem dX9_readSpark_17 : decode cX9_readSpark 17 = .ok (.istore_n 1, 1) := by decide +kernel
theorem dX9_readSpark_18 : decode cX9_readSpark 18 = .ok (.aload_n 0, 1) := by decide +kernel
theorem dX9_readSpark_19 : decode cX9_readSpark 19 = .ok (.invokevirtual 178, 3) := by decide +kernel
theorem dX9_readSpark_22 : decode cX9_readSpark 22 = .ok (.istore_n 2, 1) := by decide +kernel
theorem dX9_readSpark_23 : decode cX9_readSpark 23 = .ok (.aload_n 0, 1) := by decide +kernel
theorem dX9_readSpark_24 : decode cX9_readSpark 24 = .ok (.getfield 84, 3) := by decide +kernel
theorem dX9_readSpark_27 : decode cX9_readSpark 27 = .ok (.iconst 5, 1) := by decide +kernel
theorem dX9_readSpark_28 : decode cX9_readSpark 28 = .ok (.if_icmp .eq 25, 3) := by decide +kernel
theorem dX9_readSpark_31 : decode cX9_readSpark 31 = .ok (.iload_n 1, 1) := by decide +kernel
theorem dX9_readSpark_32 : decode cX9_readSpark 32 = .ok (.iload_n 2, 1) := by decide +kernel
theorem dX9_readSpark_33 : decode cX9_readSpark 33 = .ok (.if_icmp .eq 15, 3) := by decide +kernel
theorem dX9_readSpark_36 : decode cX9_readSpark 36 = .ok (.aload_n 0, 1) := by decide +kernel
theorem dX9_readSpark_37 : decode cX9_readSpark 37 = .ok (.getfield 161, 3) := by decide +kernel
theorem dX9_readSpark_40 : decode cX9_readSpark 40 = .ok (.iload_n 1, 1) := by decide +kernel
theorem dX9_readSpark_41 : decode cX9_readSpark 41 = .ok (.iload_n 2, 1) := by decide +kernel
theorem dX9_readSpark_42 : decode cX9_readSpark 42 = .ok (.invokevirtual 254, 3) := by decide +kernel
theorem dX9_readSpark_45 : decode cX9_readSpark 45 = .ok (.ifCond .eq 8, 3) := by decide +kernel
theorem dX9_readSpark_48 : decode cX9_readSpark 48 = .ok (.aload_n 0, 1) := by decide +kernel
theorem dX9_readSpark_49 : decode cX9_readSpark 49 = .ok (.iconst 3, 1) := by decide +kernel
theorem dX9_readSpark_50 : decode cX9_readSpark 50 = .ok (.invokevirtual 127, 3) := by decide +kernel
theorem dX9_readSpark_53 : decode cX9_readSpark 53 = .ok (.aload_n 0, 1) := by decide +kernel
theorem dX9_readSpark_54 : decode cX9_readSpark 54 = .ok (.invokevirtual 120, 3) := by decide +kernel
theorem dX9_readSpark_57 : decode cX9_readSpark 57 = .ok (.aload_n 0, 1) := by decide +kernel
theorem dX9_readSpark_58 : decode cX9_readSpark 58 = .ok (.ldc_w 258, 3) := by decide +kernel
theorem dX9_readSpark_61 : decode cX9_readSpark 61 = .ok (.iconst 0, 1) := by decide +kernel
theorem dX9_readSpark_62 : decode cX9_readSpark 62 = .ok (.bipush 9, 2) := by decide +kernel
theorem dX9_readSpark_64 : decode cX9_readSpark 64 = .ok (.invokevirtual 215, 3) := by decide +kernel
theorem dX9_readSpark_67 : decode cX9_readSpark 67 = .ok (.istore_n 3, 1) := by decide +kernel
theorem dX9_readSpark_68 : decode cX9_readSpark 68 = .ok (.aload_n 0, 1) := by decide +kernel
theorem dX9_readSpark_69 : decode cX9_readSpark 69 = .ok (.getfield 84, 3) := by decide +kernel
theorem dX9_readSpark_72 : decode cX9_readSpark 72 = .ok (.iconst 5, 1) := by decide +kernel
theorem dX9_readSpark_73 : decode cX9_readSpark 73 = .ok (.if_icmp .ne 4, 3) := by decide +kernel
theorem dX9_readSpark_76 : decode cX9_readSpark 76 = .ok (.return_, 1) := by decide +kernel
theorem dX9_readSpark_77 : decode cX9_readSpark 77 = .ok (.aload_n 0, 1) := by decide +kernel
theorem dX9_readSpark_78 : decode cX9_readSpark 78 = .ok (.getfield 161, 3) := by decide +kernel
theorem dX9_readSpark_81 : decode cX9_readSpark 81 = .ok (.getfield 260, 3) := by decide +kernel
theorem dX9_readSpark_84 : decode cX9_readSpark 84 = .ok (.aload_n 0, 1) := by decide +kernel
theorem dX9_readSpark_85 : decode cX9_readSpark 85 = .ok (.getfield 161, 3) := by decide +kernel
theorem dX9_readSpark_88 : decode cX9_readSpark 88 = .ok (.getfield 248, 3) := by decide +kernel
theorem dX9_readSpark_91 : decode cX9_readSpark 91 = .ok (.iload_n 1, 1) := by decide +kernel
theorem dX9_readSpark_92 : decode cX9_readSpark 92 = .ok (.iastore, 1) := by decide +kernel
theorem dX9_readSpark_93 : decode cX9_readSpark 93 = .ok (.aload_n 0, 1) := by decide +kernel
theorem dX9_readSpark_94 : decode cX9_readSpark 94 = .ok (.getfield 161, 3) := by decide +kernel
theorem dX9_readSpark_97 : decode cX9_readSpark 97 = .ok (.getfield 263, 3) := by decide +kernel
theorem dX9_readSpark_100 : decode cX9_readSpark 100 = .ok (.aload_n 0, 1) := by decide +kernel
theorem dX9_readSpark_101 : decode cX9_readSpark 101 = .ok (.getfield 161, 3) := by decide +kernel
theorem dX9_readSpark_104 : decode cX9_readSpark 104 = .ok (.getfield 248, 3) := by decide +kernel
theorem dX9_readSpark_107 : decode cX9_readSpark 107 = .ok (.iload_n 2, 1) := by decide +kernel
theorem dX9_readSpark_108 : decode cX9_readSpark 108 = .ok (.iastore, 1) := by decide +kernel
theorem dX9_readSpark_109 : decode cX9_readSpark 109 = .ok (.aload_n 0, 1) := by decide +kernel
theorem dX9_readSpark_110 : decode cX9_readSpark 110 = .ok (.getfield 161, 3) := by decide +kernel
theorem dX9_readSpark_113 : decode cX9_readSpark 113 = .ok (.getfield 266, 3) := by decide +kernel
theorem dX9_readSpark_116 : decode cX9_readSpark 116 = .ok (.aload_n 0, 1) := by decide +kernel
theorem dX9_readSpark_117 : decode cX9_readSpark 117 = .ok (.getfield 161, 3) := by decide +kernel
theorem dX9_readSpark_120 : decode cX9_readSpark 120 = .ok (.getfield 248, 3) := by decide +kernel
theorem dX9_readSpark_123 : decode cX9_readSpark 123 = .ok (.iload_n 3, 1) := by decide +kernel
theorem dX9_readSpark_124 : decode cX9_readSpark 124 = .ok (.iastore, 1) := by decide +kernel
theorem dX9_readSpark_125 : decode cX9_readSpark 125 = .ok (.aload_n 0, 1) := by decide +kernel
theorem dX9_readSpark_126 : decode cX9_readSpark 126 = .ok (.getfield 161, 3) := by decide +kernel
theorem dX9_readSpark_129 : decode cX9_readSpark 129 = .ok (.dup, 1) := by decide +kernel
theorem dX9_readSpark_130 : decode cX9_readSpark 130 = .ok (.getfield 248, 3) := by decide +kernel
theorem dX9_readSpark_133 : decode cX9_readSpark 133 = .ok (.iconst 1, 1) := by decide +kernel
theorem dX9_readSpark_134 : decode cX9_readSpark 134 = .ok (.iadd, 1) := by decide +kernel
theorem dX9_readSpark_135 : decode cX9_readSpark 135 = .ok (.putfield 248, 3) := by decide +kernel
theorem dX9_readSpark_138 : decode cX9_readSpark 138 = .ok (.return_, 1) := by decide +kernel
theorem dX9_readDoes_0 : decode cX9_readDoes 0 = .ok (.aload_n 0, 1) := by decide +kernel
theorem dX9_readDoes_1 : decode cX9_readDoes 1 = .ok (.iconst 0, 1) := by decide +kernel
theorem dX9_readDoes_2 : decode cX9_readDoes 2 = .ok (.iconst 1, 1) := by decide +kernel
theorem dX9_readDoes_3 : decode cX9_readDoes 3 = .ok (.invokevirtual 219, 3) := by decide +kernel
theorem dX9_readDoes_6 : decode cX9_readDoes 6 = .ok (.aload_n 0, 1) := by decide +kernel
theorem dX9_readDoes_7 : decode cX9_readDoes 7 = .ok (.invokevirtual 178, 3) := by decide +kernel
theorem dX9_readDoes_10 : decode cX9_readDoes 10 = .ok (.istore_n 1, 1) := by decide +kernel
theorem dX9_readDoes_11 : decode cX9_readDoes 11 = .ok (.aload_n 0, 1) := by decide +kernel
theorem dX9_readDoes_12 : decode cX9_readDoes 12 = .ok (.getfield 84, 3) := by decide +kernel
theorem dX9_readDoes_15 : decode cX9_readDoes 15 = .ok (.iconst 5, 1) := by decide +kernel
theorem dX9_readDoes_16 : decode cX9_readDoes 16 = .ok (.if_icmp .eq 20, 3) := by decide +kernel
theorem dX9_readDoes_19 : decode cX9_readDoes 19 = .ok (.aload_n 0, 1) := by decide +kernel
theorem dX9_readDoes_20 : decode cX9_readDoes 20 = .ok (.getfield 161, 3) := by decide +kernel
theorem dX9_readDoes_23 : decode cX9_readDoes 23 = .ok (.getfield 268, 3) := by decide +kernel
theorem dX9_readDoes_26 : decode cX9_readDoes 26 = .ok (.iload_n 1, 1) := by decide +kernel
theorem dX9_readDoes_27 : decode cX9_readDoes 27 = .ok (.iaload, 1) := by decide +kernel
theorem dX9_readDoes_28 : decode cX9_readDoes 28 = .ok (.ifCond .le 8, 3) := by decide +kernel
theorem dX9_readDoes_31 : decode cX9_readDoes 31 = .ok (.aload_n 0, 1) := by decide +kernel
theorem dX9_readDoes_32 : decode cX9_readDoes 32 = .ok (.iconst 3, 1) := by decide +kernel
theorem dX9_readDoes_33 : decode cX9_readDoes 33 = .ok (.invokevirtual 127, 3) := by decide +kernel
theorem dX9_readDoes_36 : decode cX9_readDoes 36 = .ok (.aload_n 0, 1) := by decide +kernel
theorem dX9_readDoes_37 : decode cX9_readDoes 37 = .ok (.invokevirtual 120, 3) := by decide +kernel
theorem dX9_readDoes_40 : decode cX9_readDoes 40 = .ok (.aload_n 0, 1) := by decide +kernel
theorem dX9_readDoes_41 : decode cX9_readDoes 41 = .ok (.ldc_w 270, 3) := by decide +kernel
theorem dX9_readDoes_44 : decode cX9_readDoes 44 = .ok (.invokevirtual 123, 3) := by decide +kernel
theorem dX9_readDoes_47 : decode cX9_readDoes 47 = .ok (.ifCond .eq 7, 3) := by decide +kernel
theorem dX9_readDoes_50 : decode cX9_readDoes 50 = .ok (.iconst 1, 1) := by decide +kernel
theorem dX9_readDoes_51 : decode cX9_readDoes 51 = .ok (.goto 32, 3) := by decide +kernel
theorem dX9_readDoes_54 : decode cX9_readDoes 54 = .ok (.aload_n 0, 1) := by decide +kernel
theorem dX9_readDoes_55 : decode cX9_readDoes 55 = .ok (.ldc_w 272, 3) := by decide +kernel
theorem dX9_readDoes_58 : decode cX9_readDoes 58 = .ok (.invokevirtual 123, 3) := by decide +kernel
theorem dX9_readDoes_61 : decode cX9_readDoes 61 = .ok (.ifCond .eq 7, 3) := by decide +kernel
theorem dX9_readDoes_64 : decode cX9_readDoes 64 = .ok (.iconst 2, 1) := by decide +kernel
theorem dX9_readDoes_65 : decode cX9_readDoes 65 = .ok (.goto 18, 3) := by decide +kernel
theorem dX9_readDoes_68 : decode cX9_readDoes 68 = .ok (.aload_n 0, 1) := by decide +kernel
theorem dX9_readDoes_69 : decode cX9_readDoes 69 = .ok (.ldc_w 274, 3) := by decide +kernel
theorem dX9_readDoes_72 : decode cX9_readDoes 72 = .ok (.invokevirtual 123, 3) := by decide +kernel
theorem dX9_readDoes_75 : decode cX9_readDoes 75 = .ok (.ifCond .eq 7, 3) := by decide +kernel
theorem dX9_readDoes_78 : decode cX9_readDoes 78 = .ok (.iconst 3, 1) := by decide +kernel
theorem dX9_readDoes_79 : decode cX9_readDoes 79 = .ok (.goto 4, 3) := by decide +kernel
theorem dX9_readDoes_82 : decode cX9_readDoes 82 = .ok (.iconst (-1), 1) := by decide +kernel
theorem dX9_readDoes_83 : decode cX9_readDoes 83 = .ok (.istore_n 2, 1) := by decide +kernel
theorem dX9_readDoes_84 : decode cX9_readDoes 84 = .ok (.iload_n 2, 1) := by decide +kernel
theorem dX9_readDoes_85 : decode cX9_readDoes 85 = .ok (.iconst (-1), 1) := by decide +kernel
theorem dX9_readDoes_86 : decode cX9_readDoes 86 = .ok (.if_icmp .ne 8, 3) := by decide +kernel
theorem dX9_readDoes_89 : decode cX9_readDoes 89 = .ok (.aload_n 0, 1) := by decide +kernel
theorem dX9_readDoes_90 : decode cX9_readDoes 90 = .ok (.iconst 1, 1) := by decide +kernel
theorem dX9_readDoes_91 : decode cX9_readDoes 91 = .ok (.invokevirtual 127, 3) := by decide +kernel
theorem dX9_readDoes_94 : decode cX9_readDoes 94 = .ok (.aload_n 0, 1) := by decide +kernel
theorem dX9_readDoes_95 : decode cX9_readDoes 95 = .ok (.invokevirtual 120, 3) := by decide +kernel
theorem dX9_readDoes_98 : decode cX9_readDoes 98 = .ok (.aload_n 0, 1) := by decide +kernel
theorem dX9_readDoes_99 : decode cX9_readDoes 99 = .ok (.getfield 84, 3) := by decide +kernel
theorem dX9_readDoes_102 : decode cX9_readDoes 102 = .ok (.iconst 5, 1) := by decide +kernel
theorem dX9_readDoes_103 : decode cX9_readDoes 103 = .ok (.if_icmp .ne 4, 3) := by decide +kernel
theorem dX9_readDoes_106 : decode cX9_readDoes 106 = .ok (.return_, 1) := by decide +kernel
theorem dX9_readDoes_107 : decode cX9_readDoes 107 = .ok (.aload_n 0, 1) := by decide +kernel
theorem dX9_readDoes_108 : decode cX9_readDoes 108 = .ok (.getfield 161, 3) := by decide +kernel
theorem dX9_readDoes_111 : decode cX9_readDoes 111 = .ok (.getfield 268, 3) := by decide +kernel
theorem dX9_readDoes_114 : decode cX9_readDoes 114 = .ok (.iload_n 1, 1) := by decide +kernel
theorem dX9_readDoes_115 : decode cX9_readDoes 115 = .ok (.iload_n 2, 1) := by decide +kernel
theorem dX9_readDoes_116 : decode cX9_readDoes 116 = .ok (.iastore, 1) := by decide +kernel
theorem dX9_readDoes_117 : decode cX9_readDoes 117 = .ok (.aload_n 0, 1) := by decide +kernel
theorem dX9_readDoes_118 : decode cX9_readDoes 118 = .ok (.getfield 161, 3) := by decide +kernel
theorem dX9_readDoes_121 : decode cX9_readDoes 121 = .ok (.dup, 1) := by decide +kernel
theorem dX9_readDoes_122 : decode cX9_readDoes 122 = .ok (.getfield 276, 3) := by decide +kernel
theorem dX9_readDoes_125 : decode cX9_readDoes 125 = .ok (.iconst 1, 1) := by decide +kernel
theorem dX9_readDoes_126 : decode cX9_readDoes 126 = .ok (.iadd, 1) := by decide +kernel
theorem dX9_readDoes_127 : decode cX9_readDoes 127 = .ok (.putfield 276, 3) := by decide +kernel
theorem dX9_readDoes_130 : decode cX9_readDoes 130 = .ok (.return_, 1) := by decide +kernel
theorem dX9_readPulled_0 : decode cX9_readPulled 0 = .ok (.aload_n 0, 1) := by decide +kernel
theorem dX9_readPulled_1 : decode cX9_readPulled 1 = .ok (.iconst 0, 1) := by decide +kernel
theorem dX9_readPulled_2 : decode cX9_readPulled 2 = .ok (.iconst 1, 1) := by decide +kernel
theorem dX9_readPulled_3 : decode cX9_readPulled 3 = .ok (.invokevirtual 219, 3) := by decide +kernel
theorem dX9_readPulled_6 : decode cX9_readPulled 6 = .ok (.aload_n 0, 1) := by decide +kernel
theorem dX9_readPulled_7 : decode cX9_readPulled 7 = .ok (.invokevirtual 178, 3) := by decide +kernel
theorem dX9_readPulled_10 : decode cX9_readPulled 10 = .ok (.istore_n 1, 1) := by decide +kernel
theorem dX9_readPulled_11 : decode cX9_readPulled 11 = .ok (.aload_n 0, 1) := by decide +kernel
theorem dX9_readPulled_12 : decode cX9_readPulled 12 = .ok (.getfield 84, 3) := by decide +kernel
theorem dX9_readPulled_15 : decode cX9_readPulled 15 = .ok (.iconst 5, 1) := by decide +kernel
theorem dX9_readPulled_16 : decode cX9_readPulled 16 = .ok (.if_icmp .eq 22, 3) := by decide +kernel
theorem dX9_readPulled_19 : decode cX9_readPulled 19 = .ok (.aload_n 0, 1) := by decide +kernel
theorem dX9_readPulled_20 : decode cX9_readPulled 20 = .ok (.getfield 161, 3) := by decide +kernel
theorem dX9_readPulled_23 : decode cX9_readPulled 23 = .ok (.getfield 279, 3) := by decide +kernel
theorem dX9_readPulled_26 : decode cX9_readPulled 26 = .ok (.iload_n 1, 1) := by decide +kernel
theorem dX9_readPulled_27 : decode cX9_readPulled 27 = .ok (.invokestatic 281, 3) := by decide +kernel
theorem dX9_readPulled_30 : decode cX9_readPulled 30 = .ok (.ifCond .eq 8, 3) := by decide +kernel
theorem dX9_readPulled_33 : decode cX9_readPulled 33 = .ok (.aload_n 0, 1) := by decide +kernel
theorem dX9_readPulled_34 : decode cX9_readPulled 34 = .ok (.iconst 3, 1) := by decide +kernel
theorem dX9_readPulled_35 : decode cX9_readPulled 35 = .ok (.invokevirtual 127, 3) := by decide +kernel
theorem dX9_readPulled_38 : decode cX9_readPulled 38 = .ok (.aload_n 0, 1) := by decide +kernel
theorem dX9_readPulled_39 : decode cX9_readPulled 39 = .ok (.invokevirtual 120, 3) := by decide +kernel
theorem dX9_readPulled_42 : decode cX9_readPulled 42 = .ok (.aload_n 0, 1) := by decide +kernel
theorem dX9_readPulled_43 : decode cX9_readPulled 43 = .ok (.getfield 84, 3) := by decide +kernel
theorem dX9_readPulled_46 : decode cX9_readPulled 46 = .ok (.iconst 5, 1) := by decide +kernel
theorem dX9_readPulled_47 : decode cX9_readPulled 47 = .ok (.if_icmp .ne 4, 3) := by decide +kernel
theorem dX9_readPulled_50 : decode cX9_readPulled 50 = .ok (.return_, 1) := by decide +kernel
theorem dX9_readPulled_51 : decode cX9_readPulled 51 = .ok (.aload_n 0, 1) := by decide +kernel
theorem dX9_readPulled_52 : decode cX9_readPulled 52 = .ok (.getfield 161, 3) := by decide +kernel
theorem dX9_readPulled_55 : decode cX9_readPulled 55 = .ok (.dup, 1) := by decide +kernel
theorem dX9_readPulled_56 : decode cX9_readPulled 56 = .ok (.getfield 279, 3) := by decide +kernel
theorem dX9_readPulled_59 : decode cX9_readPulled 59 = .ok (.iconst 1, 1) := by decide +kernel
theorem dX9_readPulled_60 : decode cX9_readPulled 60 = .ok (.iload_n 1, 1) := by decide +kernel
theorem dX9_readPulled_61 : decode cX9_readPulled 61 = .ok (.ishl, 1) := by decide +kernel
theorem dX9_readPulled_62 : decode cX9_readPulled 62 = .ok (.ior, 1) := by decide +kernel
theorem dX9_readPulled_63 : decode cX9_readPulled 63 = .ok (.putfield 279, 3) := by decide +kernel
theorem dX9_readPulled_66 : decode cX9_readPulled 66 = .ok (.aload_n 0, 1) := by decide +kernel
theorem dX9_readPulled_67 : decode cX9_readPulled 67 = .ok (.getfield 161, 3) := by decide +kernel
theorem dX9_readPulled_70 : decode cX9_readPulled 70 = .ok (.dup, 1) := by decide +kernel
theorem dX9_readPulled_71 : decode cX9_readPulled 71 = .ok (.getfield 284, 3) := by decide +kernel
theorem dX9_readPulled_74 : decode cX9_readPulled 74 = .ok (.iconst 1, 1) := by decide +kernel
theorem dX9_readPulled_75 : decode cX9_readPulled 75 = .ok (.iadd, 1) := by decide +kernel
theorem dX9_readPulled_76 : decode cX9_readPulled 76 = .ok (.putfield 284, 3) := by decide +kernel
theorem dX9_readPulled_79 : decode cX9_readPulled 79 = .ok (.return_, 1) := by decide +kernel
theorem dX9_readGlass_0 : decode cX9_readGlass 0 = .ok (.aload_n 0, 1) := by decide +kernel
theorem dX9_readGlass_1 : decode cX9_readGlass 1 = .ok (.aload_n 0, 1) := by decide +kernel
theorem dX9_readGlass_2 : decode cX9_readGlass 2 = .ok (.getfield 161, 3) := by decide +kernel
theorem dX9_readGlass_5 : decode cX9_readGlass 5 = .ok (.getfield 287, 3) := by decide +kernel
theorem dX9_readGlass_8 : decode cX9_readGlass 8 = .ok (.iconst 4, 1) := by decide +kernel
theorem dX9_readGlass_9 : decode cX9_readGlass 9 = .ok (.invokevirtual 219, 3) := by decide +kernel
theorem dX9_readGlass_12 : decode cX9_readGlass 12 = .ok (.aload_n 0, 1) := by decide +kernel
theorem dX9_readGlass_13 : decode cX9_readGlass 13 = .ok (.ldc 233, 2) := by decide +kernel
theorem dX9_readGlass_15 : decode cX9_readGlass 15 = .ok (.invokevirtual 135, 3) := by decide +kernel
theorem dX9_readGlass_18 : decode cX9_readGlass 18 = .ok (.aload_n 0, 1) := by decide +kernel
theorem dX9_readGlass_19 : decode cX9_readGlass 19 = .ok (.aload_n 0, 1) := by decide +kernel
theorem dX9_readGlass_20 : decode cX9_readGlass 20 = .ok (.getfield 161, 3) := by decide +kernel
theorem dX9_readGlass_23 : decode cX9_readGlass 23 = .ok (.getfield 287, 3) := by decide +kernel
theorem dX9_readGlass_26 : decode cX9_readGlass 26 = .ok (.ifCond .ne 7, 3) := by decide +kernel
theorem dX9_readGlass_29 : decode cX9_readGlass 29 = .ok (.iconst 0, 1) := by decide +kernel
theorem dX9_readGlass_30 : decode cX9_readGlass 30 = .ok (.goto 22, 3) := by decide +kernel
theorem dX9_readGlass_33 : decode cX9_readGlass 33 = .ok (.aload_n 0, 1) := by decide +kernel
theorem dX9_readGlass_34 : decode cX9_readGlass 34 = .ok (.getfield 161, 3) := by decide +kernel
theorem dX9_readGlass_37 : decode cX9_readGlass 37 = .ok (.getfield 290, 3) := by decide +kernel
theorem dX9_readGlass_40 : decode cX9_readGlass 40 = .ok (.aload_n 0, 1) := by decide +kernel
theorem dX9_readGlass_41 : decode cX9_readGlass 41 = .ok (.getfield 161, 3) := by decide +kernel
theorem dX9_readGlass_44 : decode cX9_readGlass 44 = .ok (.getfield 287, 3) := by decide +kernel
theorem dX9_readGlass_47 : decode cX9_readGlass 47 = .ok (.iconst 1, 1) := by decide +kernel
theorem dX9_readGlass_48 : decode cX9_readGlass 48 = .ok (.isub, 1) := by decide +kernel
theorem dX9_readGlass_49 : decode cX9_readGlass 49 = .ok (.iaload, 1) := by decide +kernel
theorem dX9_readGlass_50 : decode cX9_readGlass 50 = .ok (.iconst 1, 1) := by decide +kernel
theorem dX9_readGlass_51 : decode cX9_readGlass 51 = .ok (.iadd, 1) := by decide +kernel
theorem dX9_readGlass_52 : decode cX9_readGlass 52 = .ok (.bipush 30, 2) := by decide +kernel
theorem dX9_readGlass_54 : decode cX9_readGlass 54 = .ok (.invokevirtual 139, 3) := by decide +kernel
theorem dX9_readGlass_57 : decode cX9_readGlass 57 = .ok (.istore_n 1, 1) := by decide +kernel
theorem dX9_readGlass_58 : decode cX9_readGlass 58 = .ok (.aload_n 0, 1) := by decide +kernel
theorem dX9_readGlass_59 : decode cX9_readGlass 59 = .ok (.getfield 84, 3) := by decide +kernel
theorem dX9_readGlass_62 : decode cX9_readGlass 62 = .ok (.iconst 5, 1) := by decide +kernel
theorem dX9_readGlass_63 : decode cX9_readGlass 63 = .ok (.if_icmp .ne 4, 3) := by decide +kernel
theorem dX9_readGlass_66 : decode cX9_readGlass 66 = .ok (.return_, 1) := by decide +kernel
theorem dX9_readGlass_67 : decode cX9_readGlass 67 = .ok (.aload_n 0, 1) := by decide +kernel
theorem dX9_readGlass_68 : decode cX9_readGlass 68 = .ok (.getfield 161, 3) := by decide +kernel
theorem dX9_readGlass_71 : decode cX9_readGlass 71 = .ok (.getfield 290, 3) := by decide +kernel
theorem dX9_readGlass_74 : decode cX9_readGlass 74 = .ok (.aload_n 0, 1) := by decide +kernel
theorem dX9_readGlass_75 : decode cX9_readGlass 75 = .ok (.getfield 161, 3) := by decide +kernel
theorem dX9_readGlass_78 : decode cX9_readGlass 78 = .ok (.getfield 287, 3) := by decide +kernel
theorem dX9_readGlass_81 : decode cX9_readGlass 81 = .ok (.iload_n 1, 1) := by decide +kernel
theorem dX9_readGlass_82 : decode cX9_readGlass 82 = .ok (.iastore, 1) := by decide +kernel
theorem dX9_readGlass_83 : decode cX9_readGlass 83 = .ok (.aload_n 0, 1) := by decide +kernel
theorem dX9_readGlass_84 : decode cX9_readGlass 84 = .ok (.getfield 161, 3) := by decide +kernel
theorem dX9_readGlass_87 : decode cX9_readGlass 87 = .ok (.dup, 1) := by decide +kernel
theorem dX9_readGlass_88 : decode cX9_readGlass 88 = .ok (.getfield 287, 3) := by decide +kernel
theorem dX9_readGlass_91 : decode cX9_readGlass 91 = .ok (.iconst 1, 1) := by decide +kernel
theorem dX9_readGlass_92 : decode cX9_readGlass 92 = .ok (.iadd, 1) := by decide +kernel
theorem dX9_readGlass_93 : decode cX9_readGlass 93 = .ok (.putfield 287, 3) := by decide +kernel
theorem dX9_readGlass_96 : decode cX9_readGlass 96 = .ok (.return_, 1) := by decide +kernel
theorem dX9_readUnknown_0 : decode cX9_readUnknown 0 = .ok (.aload_n 0, 1) := by decide +kernel
theorem dX9_readUnknown_1 : decode cX9_readUnknown 1 = .ok (.aload_n 0, 1) := by decide +kernel
theorem dX9_readUnknown_2 : decode cX9_readUnknown 2 = .ok (.getfield 161, 3) := by decide +kernel
theorem dX9_readUnknown_5 : decode cX9_readUnknown 5 = .ok (.getfield 292, 3) := by decide +kernel
theorem dX9_readUnknown_8 : decode cX9_readUnknown 8 = .ok (.iconst 2, 1) := by decide +kernel
theorem dX9_readUnknown_9 : decode cX9_readUnknown 9 = .ok (.invokevirtual 219, 3) := by decide +kernel
theorem dX9_readUnknown_12 : decode cX9_readUnknown 12 = .ok (.aload_n 0, 1) := by decide +kernel
theorem dX9_readUnknown_13 : decode cX9_readUnknown 13 = .ok (.invokevirtual 178, 3) := by decide +kernel
theorem dX9_readUnknown_16 : decode cX9_readUnknown 16 = .ok (.istore_n 1, 1) := by decide +kernel
theorem dX9_readUnknown_17 : decode cX9_readUnknown 17 = .ok (.aload_n 0, 1) := by decide +kernel
theorem dX9_readUnknown_18 : decode cX9_readUnknown 18 = .ok (.getfield 84, 3) := by decide +kernel
theorem dX9_readUnknown_21 : decode cX9_readUnknown 21 = .ok (.iconst 5, 1) := by decide +kernel
theorem dX9_readUnknown_22 : decode cX9_readUnknown 22 = .ok (.if_icmp .eq 19, 3) := by decide +kernel
theorem dX9_readUnknown_25 : decode cX9_readUnknown 25 = .ok (.aload_n 0, 1) := by decide +kernel
theorem dX9_readUnknown_26 : decode cX9_readUnknown 26 = .ok (.getfield 161, 3) := by decide +kernel
theorem dX9_readUnknown_29 : decode cX9_readUnknown 29 = .ok (.iload_n 1, 1) := by decide +kernel
theorem dX9_readUnknown_30 : decode cX9_readUnknown 30 = .ok (.invokevirtual 295, 3) := by decide +kernel
theorem dX9_readUnknown_33 : decode cX9_readUnknown 33 = .ok (.ifCond .eq 8, 3) := by decide +kernel
theorem dX9_readUnknown_36 : decode cX9_readUnknown 36 = .ok (.aload_n 0, 1) := by decide +kernel
theorem dX9_readUnknown_37 : decode cX9_readUnknown 37 = .ok (.iconst 3, 1) := by decide +kernel
theorem dX9_readUnknown_38 : decode cX9_readUnknown 38 = .ok (.invokevirtual 127, 3) := by decide +kernel
theorem dX9_readUnknown_41 : decode cX9_readUnknown 41 = .ok (.aload_n 0, 1) := by decide +kernel
theorem dX9_readUnknown_42 : decode cX9_readUnknown 42 = .ok (.invokevirtual 120, 3) := by decide +kernel
theorem dX9_readUnknown_45 : decode cX9_readUnknown 45 = .ok (.aload_n 0, 1) := by decide +kernel
theorem dX9_readUnknown_46 : decode cX9_readUnknown 46 = .ok (.getfield 84, 3) := by decide +kernel
theorem dX9_readUnknown_49 : decode cX9_readUnknown 49 = .ok (.iconst 5, 1) := by decide +kernel
theorem dX9_readUnknown_50 : decode cX9_readUnknown 50 = .ok (.if_icmp .ne 4, 3) := by decide +kernel
theorem dX9_readUnknown_53 : decode cX9_readUnknown 53 = .ok (.return_, 1) := by decide +kernel
theorem dX9_readUnknown_54 : decode cX9_readUnknown 54 = .ok (.aload_n 0, 1) := by decide +kernel
theorem dX9_readUnknown_55 : decode cX9_readUnknown 55 = .ok (.getfield 161, 3) := by decide +kernel
theorem dX9_readUnknown_58 : decode cX9_readUnknown 58 = .ok (.getfield 298, 3) := by decide +kernel
theorem dX9_readUnknown_61 : decode cX9_readUnknown 61 = .ok (.aload_n 0, 1) := by decide +kernel
theorem dX9_readUnknown_62 : decode cX9_readUnknown 62 = .ok (.getfield 161, 3) := by decide +kernel
theorem dX9_readUnknown_65 : decode cX9_readUnknown 65 = .ok (.getfield 292, 3) := by decide +kernel
theorem dX9_readUnknown_68 : decode cX9_readUnknown 68 = .ok (.iload_n 1, 1) := by decide +kernel
theorem dX9_readUnknown_69 : decode cX9_readUnknown 69 = .ok (.iastore, 1) := by decide +kernel
theorem dX9_readUnknown_70 : decode cX9_readUnknown 70 = .ok (.aload_n 0, 1) := by decide +kernel
theorem dX9_readUnknown_71 : decode cX9_readUnknown 71 = .ok (.getfield 161, 3) := by decide +kernel
theorem dX9_readUnknown_74 : decode cX9_readUnknown 74 = .ok (.dup, 1) := by decide +kernel
theorem dX9_readUnknown_75 : decode cX9_readUnknown 75 = .ok (.getfield 292, 3) := by decide +kernel
theorem dX9_readUnknown_78 : decode cX9_readUnknown 78 = .ok (.iconst 1, 1) := by decide +kernel
theorem dX9_readUnknown_79 : decode cX9_readUnknown 79 = .ok (.iadd, 1) := by decide +kernel
theorem dX9_readUnknown_80 : decode cX9_readUnknown 80 = .ok (.putfield 292, 3) := by decide +kernel
theorem dX9_readUnknown_83 : decode cX9_readUnknown 83 = .ok (.return_, 1) := by decide +kernel
theorem dX9_readRung_0 : decode cX9_readRung 0 = .ok (.aload_n 0, 1) := by decide +kernel
theorem dX9_readRung_1 : decode cX9_readRung 1 = .ok (.aload_n 0, 1) := by decide +kernel
theorem dX9_readRung_2 : decode cX9_readRung 2 = .ok (.getfield 161, 3) := by decide +kernel
theorem dX9_readRung_5 : decode cX9_readRung 5 = .ok (.getfield 300, 3) := by decide +kernel
theorem dX9_readRung_8 : decode cX9_readRung 8 = .ok (.iconst 4, 1) := by decide +kernel
theorem dX9_readRung_9 : decode cX9_readRung 9 = .ok (.invokevirtual 219, 3) := by decide +kernel
theorem dX9_readRung_12 : decode cX9_readRung 12 = .ok (.aload_n 0, 1) := by decide +kernel
theorem dX9_readRung_13 : decode cX9_readRung 13 = .ok (.ldc 233, 2) := by decide +kernel
theorem dX9_readRung_15 : decode cX9_readRung 15 = .ok (.iconst 0, 1) := by decide +kernel
theorem dX9_readRung_16 : decode cX9_readRung 16 = .ok (.bipush 30, 2) := by decide +kernel
theorem dX9_readRung_18 : decode cX9_readRung 18 = .ok (.invokevirtual 215, 3) := by decide +kernel
theorem dX9_readRung_21 : decode cX9_readRung 21 = .ok (.istore_n 1, 1) := by decide +kernel
theorem dX9_readRung_22 : decode cX9_readRung 22 = .ok (.aload_n 0, 1) := by decide +kernel
theorem dX9_readRung_23 : decode cX9_readRung 23 = .ok (.ldc 159, 2) := by decide +kernel
theorem dX9_readRung_25 : decode cX9_readRung 25 = .ok (.invokevirtual 123, 3) := by decide +kernel
theorem dX9_readRung_28 : decode cX9_readRung 28 = .ok (.ifCond .eq 8, 3) := by decide +kernel
theorem dX9_readRung_31 : decode cX9_readRung 31 = .ok (.bipush (-2), 2) := by decide +kernel
theorem dX9_readRung_33 : decode cX9_readRung 33 = .ok (.goto 7, 3) := by decide +kernel
theorem dX9_readRung_36 : decode cX9_readRung 36 = .ok (.aload_n 0, 1) := by decide +kernel
theorem dX9_readRung_37 : decode cX9_readRung 37 = .ok (.invokevirtual 178, 3) := by decide +kernel
theorem dX9_readRung_40 : decode cX9_readRung 40 = .ok (.istore_n 2, 1) := by decide +kernel
theorem dX9_readRung_41 : decode cX9_readRung 41 = .ok (.aload_n 0, 1) := by decide +kernel
theorem dX9_readRung_42 : decode cX9_readRung 42 = .ok (.invokevirtual 120, 3) := by decide +kernel
theorem dX9_readRung_45 : decode cX9_readRung 45 = .ok (.aload_n 0, 1) := by decide +kernel
theorem dX9_readRung_46 : decode cX9_readRung 46 = .ok (.getfield 84, 3) := by decide +kernel
theorem dX9_readRung_49 : decode cX9_readRung 49 = .ok (.iconst 5, 1) := by decide +kernel
theorem dX9_readRung_50 : decode cX9_readRung 50 = .ok (.if_icmp .ne 4, 3) := by decide +kernel
theorem dX9_readRung_53 : decode cX9_readRung 53 = .ok (.return_, 1) := by decide +kernel
theorem dX9_readRung_54 : decode cX9_readRung 54 = .ok (.aload_n 0, 1) := by decide +kernel
theorem dX9_readRung_55 : decode cX9_readRung 55 = .ok (.getfield 161, 3) := by decide +kernel
theorem dX9_readRung_58 : decode cX9_readRung 58 = .ok (.getfield 303, 3) := by decide +kernel
theorem dX9_readRung_61 : decode cX9_readRung 61 = .ok (.aload_n 0, 1) := by decide +kernel
theorem dX9_readRung_62 : decode cX9_readRung 62 = .ok (.getfield 161, 3) := by decide +kernel
theorem dX9_readRung_65 : decode cX9_readRung 65 = .ok (.getfield 300, 3) := by decide +kernel
theorem dX9_readRung_68 : decode cX9_readRung 68 = .ok (.iload_n 1, 1) := by decide +kernel
theorem dX9_readRung_69 : decode cX9_readRung 69 = .ok (.iastore, 1) := by decide +kernel
theorem dX9_readRung_70 : decode cX9_readRung 70 = .ok (.aload_n 0, 1) := by decide +kernel
theorem dX9_readRung_71 : decode cX9_readRung 71 = .ok (.getfield 161, 3) := by decide +kernel
theorem dX9_readRung_74 : decode cX9_readRung 74 = .ok (.getfield 306, 3) := by decide +kernel
theorem dX9_readRung_77 : decode cX9_readRung 77 = .ok (.aload_n 0, 1) := by decide +kernel
theorem dX9_readRung_78 : decode cX9_readRung 78 = .ok (.getfield 161, 3) := by decide +kernel
theorem dX9_readRung_81 : decode cX9_readRung 81 = .ok (.getfield 300, 3) := by decide +kernel
theorem dX9_readRung_84 : decode cX9_readRung 84 = .ok (.iload_n 2, 1) := by decide +kernel
theorem dX9_readRung_85 : decode cX9_readRung 85 = .ok (.iastore, 1) := by decide +kernel
theorem dX9_readRung_86 : decode cX9_readRung 86 = .ok (.aload_n 0, 1) := by decide +kernel
theorem dX9_readRung_87 : decode cX9_readRung 87 = .ok (.getfield 161, 3) := by decide +kernel
theorem dX9_readRung_90 : decode cX9_readRung 90 = .ok (.dup, 1) := by decide +kernel
theorem dX9_readRung_91 : decode cX9_readRung 91 = .ok (.getfield 300, 3) := by decide +kernel
theorem dX9_readRung_94 : decode cX9_readRung 94 = .ok (.iconst 1, 1) := by decide +kernel
theorem dX9_readRung_95 : decode cX9_readRung 95 = .ok (.iadd, 1) := by decide +kernel
theorem dX9_readRung_96 : decode cX9_readRung 96 = .ok (.putfield 300, 3) := by decide +kernel
theorem dX9_readRung_99 : decode cX9_readRung 99 = .ok (.return_, 1) := by decide +kernel
theorem dX9_feed_0 : decode cX9_feed 0 = .ok (.aload_n 0, 1) := by decide +kernel
theorem dX9_feed_1 : decode cX9_feed 1 = .ok (.iconst 0, 1) := by decide +kernel
theorem dX9_feed_2 : decode cX9_feed 2 = .ok (.putfield 52, 3) := by decide +kernel
theorem dX9_feed_5 : decode cX9_feed 5 = .ok (.aload_n 0, 1) := by decide +kernel
theorem dX9_feed_6 : decode cX9_feed 6 = .ok (.getfield 309, 3) := by decide +kernel
theorem dX9_feed_9 : decode cX9_feed 9 = .ok (.bipush 20, 2) := by decide +kernel
theorem dX9_feed_11 : decode cX9_feed 11 = .ok (.iadd, 1) := by decide +kernel
theorem dX9_feed_12 : decode cX9_feed 12 = .ok (.sipush 900, 3) := by decide +kernel
theorem dX9_feed_15 : decode cX9_feed 15 = .ok (.if_icmp .le 5, 3) := by decide +kernel
theorem dX9_feed_18 : decode cX9_feed 18 = .ok (.iconst (-1), 1) := by decide +kernel
theorem dX9_feed_19 : decode cX9_feed 19 = .ok (.ireturn, 1) := by decide +kernel
theorem dX9_feed_20 : decode cX9_feed 20 = .ok (.iconst 0, 1) := by decide +kernel
theorem dX9_feed_21 : decode cX9_feed 21 = .ok (.istore 6, 2) := by decide +kernel
theorem dX9_feed_23 : decode cX9_feed 23 = .ok (.iload 6, 2) := by decide +kernel
theorem dX9_feed_25 : decode cX9_feed 25 = .ok (.bipush 20, 2) := by decide +kernel
theorem dX9_feed_27 : decode cX9_feed 27 = .ok (.if_icmp .ge 90, 3) := by decide +kernel
theorem dX9_feed_30 : decode cX9_feed 30 = .ok (.iload 6, 2) := by decide +kernel
theorem dX9_feed_32 : decode cX9_feed 32 = .ok (.iconst 4, 1) := by decide +kernel
theorem dX9_feed_33 : decode cX9_feed 33 = .ok (.if_icmp .ge 7, 3) := by decide +kernel
theorem dX9_feed_36 : decode cX9_feed 36 = .ok (.iload_n 1, 1) := by decide +kernel
theorem dX9_feed_37 : decode cX9_feed 37 = .ok (.goto 39, 3) := by decide +kernel
theorem dX9_feed_40 : decode cX9_feed 40 = .ok (.iload 6, 2) := by decide +kernel
theorem dX9_feed_42 : decode cX9_feed 42 = .ok (.bipush 8, 2) := by decide +kernel
theorem dX9_feed_44 : decode cX9_feed 44 = .ok (.if_icmp .ge 7, 3) := by decide +kernel
theorem dX9_feed_47 : decode cX9_feed 47 = .ok (.iload_n 2, 1) := by decide +kernel
theorem dX9_feed_48 : decode cX9_feed 48 = .ok (.goto 28, 3) := by decide +kernel
theorem dX9_feed_51 : decode cX9_feed 51 = .ok (.iload 6, 2) := by decide +kernel
theorem dX9_feed_53 : decode cX9_feed 53 = .ok (.bipush 12, 2) := by decide +kernel
theorem dX9_feed_55 : decode cX9_feed 55 = .ok (.if_icmp .ge 7, 3) := by decide +kernel
theorem dX9_feed_58 : decode cX9_feed 58 = .ok (.iload_n 3, 1) := by decide +kernel
theorem dX9_feed_59 : decode cX9_feed 59 = .ok (.goto 17, 3) := by decide +kernel
theorem dX9_feed_62 : decode cX9_feed 62 = .ok (.iload 6, 2) := by decide +kernel
theorem dX9_feed_64 : decode cX9_feed 64 = .ok (.bipush 16, 2) := by decide +kernel
theorem dX9_feed_66 : decode cX9_feed 66 = .ok (.if_icmp .ge 8, 3) := by decide +kernel
theorem dX9_feed_69 : decode cX9_feed 69 = .ok (.iload 4, 2) := by decide +kernel
theorem dX9_feed_71 : decode cX9_feed 71 = .ok (.goto 5, 3) := by decide +kernel
theorem dX9_feed_74 : decode cX9_feed 74 = .ok (.iload 5, 2) := by decide +kernel
theorem dX9_feed_76 : decode cX9_feed 76 = .ok (.istore 7, 2) := by decide +kernel
theorem dX9_feed_78 : decode cX9_feed 78 = .ok (.aload_n 0, 1) := by decide +kernel
theorem dX9_feed_79 : decode cX9_feed 79 = .ok (.getfield 13, 3) := by decide +kernel
theorem dX9_feed_82 : decode cX9_feed 82 = .ok (.aload_n 0, 1) := by decide +kernel
theorem dX9_feed_83 : decode cX9_feed 83 = .ok (.getfield 309, 3) := by decide +kernel
theorem dX9_feed_86 : decode cX9_feed 86 = .ok (.iload 7, 2) := by decide +kernel
theorem dX9_feed_88 : decode cX9_feed 88 = .ok (.bipush 24, 2) := by decide +kernel
theorem dX9_feed_90 : decode cX9_feed 90 = .ok (.bipush 8, 2) := by decide +kernel
theorem dX9_feed_92 : decode cX9_feed 92 = .ok (.iload 6, 2) := by decide +kernel
theorem dX9_feed_94 : decode cX9_feed 94 = .ok (.iconst 4, 1) := by decide +kernel
theorem dX9_feed_95 : decode cX9_feed 95 = .ok (.irem, 1) := by decide +kernel
theorem dX9_feed_96 : decode cX9_feed 96 = .ok (.imul, 1) := by decide +kernel
theorem dX9_feed_97 : decode cX9_feed 97 = .ok (.isub, 1) := by decide +kernel
theorem dX9_feed_98 : decode cX9_feed 98 = .ok (.ishr, 1) := by decide +kernel
theorem dX9_feed_99 : decode cX9_feed 99 = .ok (.i2b, 1) := by decide +kernel
theorem dX9_feed_100 : decode cX9_feed 100 = .ok (.bastore, 1) := by decide +kernel
theorem dX9_feed_101 : decode cX9_feed 101 = .ok (.aload_n 0, 1) := by decide +kernel
theorem dX9_feed_102 : decode cX9_feed 102 = .ok (.dup, 1) := by decide +kernel
theorem dX9_feed_103 : decode cX9_feed 103 = .ok (.getfield 309, 3) := by decide +kernel
theorem dX9_feed_106 : decode cX9_feed 106 = .ok (.iconst 1, 1) := by decide +kernel
theorem dX9_feed_107 : decode cX9_feed 107 = .ok (.iadd, 1) := by decide +kernel
theorem dX9_feed_108 : decode cX9_feed 108 = .ok (.putfield 309, 3) := by decide +kernel
theorem dX9_feed_111 : decode cX9_feed 111 = .ok (.iinc 6 1, 3) := by decide +kernel
theorem dX9_feed_114 : decode cX9_feed 114 = .ok (.goto (-91), 3) := by decide +kernel
theorem dX9_feed_117 : decode cX9_feed 117 = .ok (.aload_n 0, 1) := by decide +kernel
theorem dX9_feed_118 : decode cX9_feed 118 = .ok (.getfield 309, 3) := by decide +kernel
theorem dX9_feed_121 : decode cX9_feed 121 = .ok (.ireturn, 1) := by decide +kernel
theorem dX9_street_0 : decode cX9_street 0 = .ok (.aload_n 0, 1) := by decide +kernel
theorem dX9_street_1 : decode cX9_street 1 = .ok (.iconst 0, 1) := by decide +kernel
theorem dX9_street_2 : decode cX9_street 2 = .ok (.putfield 52, 3) := by decide +kernel
theorem dX9_street_5 : decode cX9_street 5 = .ok (.iload_n 1, 1) := by decide +kernel
theorem dX9_street_6 : decode cX9_street 6 = .ok (.ifCond .lt 11, 3) := by decide +kernel
theorem dX9_street_9 : decode cX9_street 9 = .ok (.iload_n 1, 1) := by decide +kernel
theorem dX9_street_10 : decode cX9_street 10 = .ok (.aload_n 0, 1) := by decide +kernel
theorem dX9_street_11 : decode cX9_street 11 = .ok (.getfield 309, 3) := by decide +kernel
theorem dX9_street_14 : decode cX9_street 14 = .ok (.if_icmp .le 9, 3) := by decide +kernel
theorem dX9_street_17 : decode cX9_street 17 = .ok (.aload_n 0, 1) := by decide +kernel
theorem dX9_street_18 : decode cX9_street 18 = .ok (.iconst 2, 1) := by decide +kernel
theorem dX9_street_19 : decode cX9_street 19 = .ok (.invokevirtual 58, 3) := by decide +kernel
theorem dX9_street_22 : decode cX9_street 22 = .ok (.ireturn, 1) := by decide +kernel
theorem dX9_street_23 : decode cX9_street 23 = .ok (.aload_n 0, 1) := by decide +kernel
theorem dX9_street_24 : decode cX9_street 24 = .ok (.iload_n 1, 1) := by decide +kernel
theorem dX9_street_25 : decode cX9_street 25 = .ok (.putfield 69, 3) := by decide +kernel
theorem dX9_street_28 : decode cX9_street 28 = .ok (.aload_n 0, 1) := by decide +kernel
theorem dX9_street_29 : decode cX9_street 29 = .ok (.iconst 0, 1) := by decide +kernel
theorem dX9_street_30 : decode cX9_street 30 = .ok (.putfield 309, 3) := by decide +kernel
theorem dX9_street_33 : decode cX9_street 33 = .ok (.aload_n 0, 1) := by decide +kernel
theorem dX9_street_34 : decode cX9_street 34 = .ok (.iconst 0, 1) := by decide +kernel
theorem dX9_street_35 : decode cX9_street 35 = .ok (.putfield 87, 3) := by decide +kernel
theorem dX9_street_38 : decode cX9_street 38 = .ok (.aload_n 0, 1) := by decide +kernel
theorem dX9_street_39 : decode cX9_street 39 = .ok (.iconst 0, 1) := by decide +kernel
theorem dX9_street_40 : decode cX9_street 40 = .ok (.putfield 110, 3) := by decide +kernel
theorem dX9_street_43 : decode cX9_street 43 = .ok (.aload_n 0, 1) := by decide +kernel
theorem dX9_street_44 : decode cX9_street 44 = .ok (.new 166, 3) := by decide +kernel
theorem dX9_street_47 : decode cX9_street 47 = .ok (.dup, 1) := by decide +kernel
theorem dX9_street_48 : decode cX9_street 48 = .ok (.invokespecial 312, 3) := by decide +kernel
theorem dX9_street_51 : decode cX9_street 51 = .ok (.putfield 161, 3) := by decide +kernel
theorem dX9_street_54 : decode cX9_street 54 = .ok (.aload_n 0, 1) := by decide +kernel
theorem dX9_street_55 : decode cX9_street 55 = .ok (.iconst 0, 1) := by decide +kernel
theorem dX9_street_56 : decode cX9_street 56 = .ok (.putfield 84, 3) := by decide +kernel
theorem dX9_street_59 : decode cX9_street 59 = .ok (.aload_n 0, 1) := by decide +kernel
theorem dX9_street_60 : decode cX9_street 60 = .ok (.invokevirtual 120, 3) := by decide +kernel
theorem dX9_street_63 : decode cX9_street 63 = .ok (.aload_n 0, 1) := by decide +kernel
theorem dX9_street_64 : decode cX9_street 64 = .ok (.invokevirtual 313, 3) := by decide +kernel
theorem dX9_street_67 : decode cX9_street 67 = .ok (.aload_n 0, 1) := by decide +kernel
theorem dX9_street_68 : decode cX9_street 68 = .ok (.getfield 110, 3) := by decide +kernel
theorem dX9_street_71 : decode cX9_street 71 = .ok (.ifCond .le 18, 3) := by decide +kernel
theorem dX9_street_74 : decode cX9_street 74 = .ok (.aload_n 0, 1) := by decide +kernel
theorem dX9_street_75 : decode cX9_street 75 = .ok (.iconst 4, 1) := by decide +kernel
theorem dX9_street_76 : decode cX9_street 76 = .ok (.putfield 55, 3) := by decide +kernel
theorem dX9_street_79 : decode cX9_street 79 = .ok (.aload_n 0, 1) := by decide +kernel
theorem dX9_street_80 : decode cX9_street 80 = .ok (.aload_n 0, 1) := by decide +kernel
theorem dX9_street_81 : decode cX9_street 81 = .ok (.getfield 113, 3) := by decide +kernel
theorem dX9_street_84 : decode cX9_street 84 = .ok (.putfield 9, 3) := by decide +kernel
theorem dX9_street_87 : decode cX9_street 87 = .ok (.iconst (-1), 1) := by decide +kernel
theorem dX9_street_88 : decode cX9_street 88 = .ok (.ireturn, 1) := by decide +kernel
theorem dX9_street_89 : decode cX9_street 89 = .ok (.aload_n 0, 1) := by decide +kernel
theorem dX9_street_90 : decode cX9_street 90 = .ok (.aload_n 0, 1) := by decide +kernel
theorem dX9_street_91 : decode cX9_street 91 = .ok (.getfield 161, 3) := by decide +kernel
theorem dX9_street_94 : decode cX9_street 94 = .ok (.putfield 316, 3) := by decide +kernel
theorem dX9_street_97 : decode cX9_street 97 = .ok (.aload_n 0, 1) := by decide +kernel
theorem dX9_street_98 : decode cX9_street 98 = .ok (.invokevirtual 318, 3) := by decide +kernel
theorem dX9_street_101 : decode cX9_street 101 = .ok (.iconst 0, 1) := by decide +kernel
theorem dX9_street_102 : decode cX9_street 102 = .ok (.istore_n 2, 1) := by decide +kernel
theorem dX9_street_103 : decode cX9_street 103 = .ok (.iload_n 2, 1) := by decide +kernel
theorem dX9_street_104 : decode cX9_street 104 = .ok (.bipush 10, 2) := by decide +kernel
theorem dX9_street_106 : decode cX9_street 106 = .ok (.if_icmp .ge 21, 3) := by decide +kernel
theorem dX9_street_109 : decode cX9_street 109 = .ok (.aload_n 0, 1) := by decide +kernel
theorem dX9_street_110 : decode cX9_street 110 = .ok (.getfield 17, 3) := by decide +kernel
theorem dX9_street_113 : decode cX9_street 113 = .ok (.iload_n 2, 1) := by decide +kernel
theorem dX9_street_114 : decode cX9_street 114 = .ok (.aload_n 0, 1) := by decide +kernel
theorem dX9_street_115 : decode cX9_street 115 = .ok (.getfield 21, 3) := by decide +kernel
theorem dX9_street_118 : decode cX9_street 118 = .ok (.iload_n 2, 1) := by decide +kernel
theorem dX9_street_119 : decode cX9_street 119 = .ok (.iaload, 1) := by decide +kernel
theorem dX9_street_120 : decode cX9_street 120 = .ok (.iastore, 1) := by decide +kernel
theorem dX9_street_121 : decode cX9_street 121 = .ok (.iinc 2 1, 3) := by decide +kernel
theorem dX9_street_124 : decode cX9_street 124 = .ok (.goto (-21), 3) := by decide +kernel
theorem dX9_street_127 : decode cX9_street 127 = .ok (.aload_n 0, 1) := by decide +kernel
theorem dX9_street_128 : decode cX9_street 128 = .ok (.iconst 0, 1) := by decide +kernel
theorem dX9_street_129 : decode cX9_street 129 = .ok (.putfield 321, 3) := by decide +kernel
theorem dX9_street_132 : decode cX9_street 132 = .ok (.aload_n 0, 1) := by decide +kernel
theorem dX9_street_133 : decode cX9_street 133 = .ok (.iconst 0, 1) := by decide +kernel
theorem dX9_street_134 : decode cX9_street 134 = .ok (.putfield 324, 3) := by decide +kernel
theorem dX9_street_137 : decode cX9_street 137 = .ok (.aload_n 0, 1) := by decide +kernel
theorem dX9_street_138 : decode cX9_street 138 = .ok (.aload_n 0, 1) := by decide +kernel
theorem dX9_street_139 : decode cX9_street 139 = .ok (.getfield 316, 3) := by decide +kernel
theorem dX9_street_142 : decode cX9_street 142 = .ok (.getfield 187, 3) := by decide +kernel
theorem dX9_street_145 : decode cX9_street 145 = .ok (.invokevirtual 62, 3) := by decide +kernel
theorem dX9_street_148 : decode cX9_street 148 = .ok (.ireturn, 1) := by decide +kernel
theorem dX9_fault_0 : decode cX9_fault 0 = .ok (.aload_n 0, 1) := by decide +kernel
theorem dX9_fault_1 : decode cX9_fault 1 = .ok (.iconst 0, 1) := by decide +kernel
theorem dX9_fault_2 : decode cX9_fault 2 = .ok (.putfield 52, 3) := by decide +kernel
theorem dX9_fault_5 : decode cX9_fault 5 = .ok (.aload_n 0, 1) := by decide +kernel
theorem dX9_fault_6 : decode cX9_fault 6 = .ok (.getfield 110, 3) := by decide +kernel
theorem dX9_fault_9 : decode cX9_fault 9 = .ok (.ireturn, 1) := by decide +kernel
theorem dX9_where_0 : decode cX9_where 0 = .ok (.aload_n 0, 1) := by decide +kernel
theorem dX9_where_1 : decode cX9_where 1 = .ok (.iconst 0, 1) := by decide +kernel
theorem dX9_where_2 : decode cX9_where 2 = .ok (.putfield 52, 3) := by decide +kernel
theorem dX9_where_5 : decode cX9_where 5 = .ok (.aload_n 0, 1) := by decide +kernel
theorem dX9_where_6 : decode cX9_where 6 = .ok (.getfield 9, 3) := by decide +kernel
theorem dX9_where_9 : decode cX9_where 9 = .ok (.ireturn, 1) := by decide +kernel
theorem dX9_isHouse_0 : decode cX9_isHouse 0 = .ok (.aload_n 0, 1) := by decide +kernel
theorem dX9_isHouse_1 : decode cX9_isHouse 1 = .ok (.getfield 316, 3) := by decide +kernel
theorem dX9_isHouse_4 : decode cX9_isHouse 4 = .ok (.ifnull 22, 3) := by decide +kernel
theorem dX9_isHouse_7 : decode cX9_isHouse 7 = .ok (.iload_n 1, 1) := by decide +kernel
theorem dX9_isHouse_8 : decode cX9_isHouse 8 = .ok (.ifCond .lt 18, 3) := by decide +kernel
theorem dX9_isHouse_11 : decode cX9_isHouse 11 = .ok (.iload_n 1, 1) := by decide +kernel
theorem dX9_isHouse_12 : decode cX9_isHouse 12 = .ok (.aload_n 0, 1) := by decide +kernel
theorem dX9_isHouse_13 : decode cX9_isHouse 13 = .ok (.getfield 316, 3) := by decide +kernel
theorem dX9_isHouse_16 : decode cX9_isHouse 16 = .ok (.getfield 187, 3) := by decide +kernel
theorem dX9_isHouse_19 : decode cX9_isHouse 19 = .ok (.if_icmp .ge 7, 3) := by decide +kernel
theorem dX9_isHouse_22 : decode cX9_isHouse 22 = .ok (.iconst 1, 1) := by decide +kernel
theorem dX9_isHouse_23 : decode cX9_isHouse 23 = .ok (.goto 4, 3) := by decide +kernel
theorem dX9_isHouse_26 : decode cX9_isHouse 26 = .ok (.iconst 0, 1) := by decide +kernel
theorem dX9_isHouse_27 : decode cX9_isHouse 27 = .ok (.ireturn, 1) := by decide +kernel
theorem dX9_works_0 : decode cX9_works 0 = .ok (.iconst 0, 1) := by decide +kernel
theorem dX9_works_1 : decode cX9_works 1 = .ok (.istore_n 1, 1) := by decide +kernel
theorem dX9_works_2 : decode cX9_works 2 = .ok (.iload_n 1, 1) := by decide +kernel
theorem dX9_works_3 : decode cX9_works 3 = .ok (.bipush 10, 2) := by decide +kernel
theorem dX9_works_5 : decode cX9_works 5 = .ok (.if_icmp .ge 21, 3) := by decide +kernel
theorem dX9_works_8 : decode cX9_works 8 = .ok (.aload_n 0, 1) := by decide +kernel
theorem dX9_works_9 : decode cX9_works 9 = .ok (.getfield 21, 3) := by decide +kernel
theorem dX9_works_12 : decode cX9_works 12 = .ok (.iload_n 1, 1) := by decide +kernel
theorem dX9_works_13 : decode cX9_works 13 = .ok (.aload_n 0, 1) := by decide +kernel
theorem dX9_works_14 : decode cX9_works 14 = .ok (.getfield 17, 3) := by decide +kernel
theorem dX9_works_17 : decode cX9_works 17 = .ok (.iload_n 1, 1) := by decide +kernel
theorem dX9_works_18 : decode cX9_works 18 = .ok (.iaload, 1) := by decide +kernel
theorem dX9_works_19 : decode cX9_works 19 = .ok (.iastore, 1) := by decide +kernel
theorem dX9_works_20 : decode cX9_works 20 = .ok (.iinc 1 1, 3) := by decide +kernel
theorem dX9_works_23 : decode cX9_works 23 = .ok (.goto (-21), 3) := by decide +kernel
theorem dX9_works_26 : decode cX9_works 26 = .ok (.return_, 1) := by decide +kernel
theorem dX9_asTold_0 : decode cX9_asTold 0 = .ok (.iconst 0, 1) := by decide +kernel
theorem dX9_asTold_1 : decode cX9_asTold 1 = .ok (.istore_n 1, 1) := by decide +kernel
theorem dX9_asTold_2 : decode cX9_asTold 2 = .ok (.iload_n 1, 1) := by decide +kernel
theorem dX9_asTold_3 : decode cX9_asTold 3 = .ok (.bipush 10, 2) := by decide +kernel
theorem dX9_asTold_5 : decode cX9_asTold 5 = .ok (.if_icmp .ge 16, 3) := by decide +kernel
theorem dX9_asTold_8 : decode cX9_asTold 8 = .ok (.aload_n 0, 1) := by decide +kernel
theorem dX9_asTold_9 : decode cX9_asTold 9 = .ok (.getfield 21, 3) := by decide +kernel
theorem dX9_asTold_12 : decode cX9_asTold 12 = .ok (.iload_n 1, 1) := by decide +kernel
theorem dX9_asTold_13 : decode cX9_asTold 13 = .ok (.iconst 0, 1) := by decide +kernel
theorem dX9_asTold_14 : decode cX9_asTold 14 = .ok (.iastore, 1) := by decide +kernel
theorem dX9_asTold_15 : decode cX9_asTold 15 = .ok (.iinc 1 1, 3) := by decide +kernel
theorem dX9_asTold_18 : decode cX9_asTold 18 = .ok (.goto (-16), 3) := by decide +kernel
theorem dX9_asTold_21 : decode cX9_asTold 21 = .ok (.iconst 0, 1) := by decide +kernel
theorem dX9_asTold_22 : decode cX9_asTold 22 = .ok (.istore_n 1, 1) := by decide +kernel
theorem dX9_asTold_23 : decode cX9_asTold 23 = .ok (.iload_n 1, 1) := by decide +kernel
theorem dX9_asTold_24 : decode cX9_asTold 24 = .ok (.aload_n 0, 1) := by decide +kernel
theorem dX9_asTold_25 : decode cX9_asTold 25 = .ok (.getfield 316, 3) := by decide +kernel
theorem dX9_asTold_28 : decode cX9_asTold 28 = .ok (.getfield 187, 3) := by decide +kernel
theorem dX9_asTold_31 : decode cX9_asTold 31 = .ok (.if_icmp .ge 24, 3) := by decide +kernel
theorem dX9_asTold_34 : decode cX9_asTold 34 = .ok (.aload_n 0, 1) := by decide +kernel
theorem dX9_asTold_35 : decode cX9_asTold 35 = .ok (.getfield 21, 3) := by decide +kernel
theorem dX9_asTold_38 : decode cX9_asTold 38 = .ok (.iload_n 1, 1) := by decide +kernel
theorem dX9_asTold_39 : decode cX9_asTold 39 = .ok (.aload_n 0, 1) := by decide +kernel
theorem dX9_asTold_40 : decode cX9_asTold 40 = .ok (.getfield 316, 3) := by decide +kernel
theorem dX9_asTold_43 : decode cX9_asTold 43 = .ok (.getfield 243, 3) := by decide +kernel
theorem dX9_asTold_46 : decode cX9_asTold 46 = .ok (.iload_n 1, 1) := by decide +kernel
theorem dX9_asTold_47 : decode cX9_asTold 47 = .ok (.iaload, 1) := by decide +kernel
theorem dX9_asTold_48 : decode cX9_asTold 48 = .ok (.iastore, 1) := by decide +kernel
theorem dX9_asTold_49 : decode cX9_asTold 49 = .ok (.iinc 1 1, 3) := by decide +kernel
theorem dX9_asTold_52 : decode cX9_asTold 52 = .ok (.goto (-29), 3) := by decide +kernel
theorem dX9_asTold_55 : decode cX9_asTold 55 = .ok (.aload_n 0, 1) := by decide +kernel
theorem dX9_asTold_56 : decode cX9_asTold 56 = .ok (.getfield 21, 3) := by decide +kernel
theorem dX9_asTold_59 : decode cX9_asTold 59 = .ok (.bipush 8, 2) := by decide +kernel
theorem dX9_asTold_61 : decode cX9_asTold 61 = .ok (.aload_n 0, 1) := by decide +kernel
theorem dX9_asTold_62 : decode cX9_asTold 62 = .ok (.getfield 316, 3) := by decide +kernel
theorem dX9_asTold_65 : decode cX9_asTold 65 = .ok (.getfield 279, 3) := by decide +kernel
theorem dX9_asTold_68 : decode cX9_asTold 68 = .ok (.iastore, 1) := by decide +kernel
theorem dX9_asTold_69 : decode cX9_asTold 69 = .ok (.return_, 1) := by decide +kernel
theorem dX9_flies_0 : decode cX9_flies 0 = .ok (.iload_n 1, 1) := by decide +kernel
theorem dX9_flies_1 : decode cX9_flies 1 = .ok (.aload_n 0, 1) := by decide +kernel
theorem dX9_flies_2 : decode cX9_flies 2 = .ok (.getfield 33, 3) := by decide +kernel
theorem dX9_flies_5 : decode cX9_flies 5 = .ok (.if_icmp .eq 43, 3) := by decide +kernel
theorem dX9_flies_8 : decode cX9_flies 8 = .ok (.aload_n 0, 1) := by decide +kernel
theorem dX9_flies_9 : decode cX9_flies 9 = .ok (.getfield 21, 3) := by decide +kernel
theorem dX9_flies_12 : decode cX9_flies 12 = .ok (.bipush 6, 2) := by decide +kernel
theorem dX9_flies_14 : decode cX9_flies 14 = .ok (.iaload, 1) := by decide +kernel
theorem dX9_flies_15 : decode cX9_flies 15 = .ok (.aload_n 0, 1) := by decide +kernel
theorem dX9_flies_16 : decode cX9_flies 16 = .ok (.getfield 316, 3) := by decide +kernel
theorem dX9_flies_19 : decode cX9_flies 19 = .ok (.getfield 260, 3) := by decide +kernel
theorem dX9_flies_22 : decode cX9_flies 22 = .ok (.iload_n 1, 1) := by decide +kernel
theorem dX9_flies_23 : decode cX9_flies 23 = .ok (.iaload, 1) := by decide +kernel
theorem dX9_flies_24 : decode cX9_flies 24 = .ok (.invokestatic 281, 3) := by decide +kernel
theorem dX9_flies_27 : decode cX9_flies 27 = .ok (.ifCond .ne 21, 3) := by decide +kernel
theorem dX9_flies_30 : decode cX9_flies 30 = .ok (.aload_n 0, 1) := by decide +kernel
theorem dX9_flies_31 : decode cX9_flies 31 = .ok (.getfield 316, 3) := by decide +kernel
theorem dX9_flies_34 : decode cX9_flies 34 = .ok (.iload_n 1, 1) := by decide +kernel
theorem dX9_flies_35 : decode cX9_flies 35 = .ok (.invokevirtual 327, 3) := by decide +kernel
theorem dX9_flies_38 : decode cX9_flies 38 = .ok (.sipush 9999, 3) := by decide +kernel
theorem dX9_flies_41 : decode cX9_flies 41 = .ok (.if_icmp .ge 7, 3) := by decide +kernel
theorem dX9_flies_44 : decode cX9_flies 44 = .ok (.iconst 1, 1) := by decide +kernel
theorem dX9_flies_45 : decode cX9_flies 45 = .ok (.goto 4, 3) := by decide +kernel
theorem dX9_flies_48 : decode cX9_flies 48 = .ok (.iconst 0, 1) := by decide +kernel
theorem dX9_flies_49 : decode cX9_flies 49 = .ok (.ireturn, 1) := by decide +kernel
theorem dX9_burnsAll_0 : decode cX9_burnsAll 0 = .ok (.iconst 0, 1) := by decide +kernel
theorem dX9_burnsAll_1 : decode cX9_burnsAll 1 = .ok (.istore_n 1, 1) := by decide +kernel
theorem dX9_burnsAll_2 : decode cX9_burnsAll 2 = .ok (.iload_n 1, 1) := by decide +kernel
theorem dX9_burnsAll_3 : decode cX9_burnsAll 3 = .ok (.aload_n 0, 1) := by decide +kernel
theorem dX9_burnsAll_4 : decode cX9_burnsAll 4 = .ok (.getfield 316, 3) := by decide +kernel
theorem dX9_burnsAll_7 : decode cX9_burnsAll 7 = .ok (.getfield 187, 3) := by decide +kernel
theorem dX9_burnsAll_10 : decode cX9_burnsAll 10 = .ok (.if_icmp .ge 38, 3) := by decide +kernel
theorem dX9_burnsAll_13 : decode cX9_burnsAll 13 = .ok (.aload_n 0, 1) := by decide +kernel
theorem dX9_burnsAll_14 : decode cX9_burnsAll 14 = .ok (.getfield 30, 3) := by decide +kernel
theorem dX9_burnsAll_17 : decode cX9_burnsAll 17 = .ok (.iload_n 1, 1) := by decide +kernel
theorem dX9_burnsAll_18 : decode cX9_burnsAll 18 = .ok (.aload_n 0, 1) := by decide +kernel
theorem dX9_burnsAll_19 : decode cX9_burnsAll 19 = .ok (.getfield 21, 3) := by decide +kernel
theorem dX9_burnsAll_22 : decode cX9_burnsAll 22 = .ok (.iload_n 1, 1) := by decide +kernel
theorem dX9_burnsAll_23 : decode cX9_burnsAll 23 = .ok (.iaload, 1) := by decide +kernel
theorem dX9_burnsAll_24 : decode cX9_burnsAll 24 = .ok (.bipush (-2), 2) := by decide +kernel
theorem dX9_burnsAll_26 : decode cX9_burnsAll 26 = .ok (.if_icmp .ne 9, 3) := by decide +kernel
theorem dX9_burnsAll_29 : decode cX9_burnsAll 29 = .ok (.sipush 9999, 3) := by decide +kernel
theorem dX9_burnsAll_32 : decode cX9_burnsAll 32 = .ok (.goto 9, 3) := by decide +kernel
theorem dX9_burnsAll_35 : decode cX9_burnsAll 35 = .ok (.aload_n 0, 1) := by decide +kernel
theorem dX9_burnsAll_36 : decode cX9_burnsAll 36 = .ok (.getfield 21, 3) := by decide +kernel
theorem dX9_burnsAll_39 : decode cX9_burnsAll 39 = .ok (.iload_n 1, 1) := by decide +kernel
theorem dX9_burnsAll_40 : decode cX9_burnsAll 40 = .ok (.iaload, 1) := by decide +kernel
theorem dX9_burnsAll_41 : decode cX9_burnsAll 41 = .ok (.iastore, 1) := by decide +kernel
theorem dX9_burnsAll_42 : decode cX9_burnsAll 42 = .ok (.iinc 1 1, 3) := by decide +kernel
theorem dX9_burnsAll_45 : decode cX9_burnsAll 45 = .ok (.goto (-43), 3) := by decide +kernel
theorem dX9_burnsAll_48 : decode cX9_burnsAll 48 = .ok (.iconst 1, 1) := by decide +kernel
theorem dX9_burnsAll_49 : decode cX9_burnsAll 49 = .ok (.istore_n 1, 1) := by decide +kernel
theorem dX9_burnsAll_50 : decode cX9_burnsAll 50 = .ok (.iload_n 1, 1) := by decide +kernel
theorem dX9_burnsAll_51 : decode cX9_burnsAll 51 = .ok (.ifCond .eq 120, 3) := by decide +kernel
theorem dX9_burnsAll_54 : decode cX9_burnsAll 54 = .ok (.iconst 0, 1) := by decide +kernel
theorem dX9_burnsAll_55 : decode cX9_burnsAll 55 = .ok (.istore_n 1, 1) := by decide +kernel
theorem dX9_burnsAll_56 : decode cX9_burnsAll 56 = .ok (.iconst 0, 1) := by decide +kernel
theorem dX9_burnsAll_57 : decode cX9_burnsAll 57 = .ok (.istore_n 2, 1) := by decide +kernel
theorem dX9_burnsAll_58 : decode cX9_burnsAll 58 = .ok (.iload_n 2, 1) := by decide +kernel
theorem dX9_burnsAll_59 : decode cX9_burnsAll 59 = .ok (.aload_n 0, 1) := by decide +kernel
theorem dX9_burnsAll_60 : decode cX9_burnsAll 60 = .ok (.getfield 316, 3) := by decide +kernel
theorem dX9_burnsAll_63 : decode cX9_burnsAll 63 = .ok (.getfield 248, 3) := by decide +kernel
theorem dX9_burnsAll_66 : decode cX9_burnsAll 66 = .ok (.if_icmp .ge 102, 3) := by decide +kernel
theorem dX9_burnsAll_69 : decode cX9_burnsAll 69 = .ok (.aload_n 0, 1) := by decide +kernel
theorem dX9_burnsAll_70 : decode cX9_burnsAll 70 = .ok (.iload_n 2, 1) := by decide +kernel
theorem dX9_burnsAll_71 : decode cX9_burnsAll 71 = .ok (.invokevirtual 330, 3) := by decide +kernel
theorem dX9_burnsAll_74 : decode cX9_burnsAll 74 = .ok (.ifCond .eq 88, 3) := by decide +kernel
theorem dX9_burnsAll_77 : decode cX9_burnsAll 77 = .ok (.aload_n 0, 1) := by decide +kernel
theorem dX9_burnsAll_78 : decode cX9_burnsAll 78 = .ok (.getfield 30, 3) := by decide +kernel
theorem dX9_burnsAll_81 : decode cX9_burnsAll 81 = .ok (.aload_n 0, 1) := by decide +kernel
