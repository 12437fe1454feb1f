theorem dX2_rungLine_37 : decode cX2_rungLine 37 = .ok (.istore_n 1, 1) := by decide +kernel
theorem dX2_rungLine_38 : decode cX2_rungLine 38 = .ok (.iload_n 1, 1) := by decide +kernel
theorem dX2_rungLine_39 : decode cX2_rungLine 39 = .ok (.iconst (-1), 1) := by decide +kernel
theorem dX2_rungLine_40 : decode cX2_rungLine 40 = .ok (.if_icmp .ne 5, 3) := by decide +kernel
theorem dX2_rungLine_43 : decode cX2_rungLine 43 = .ok (.iconst 0, 1) := by decide +kernel
theorem dX2_rungLine_44 : decode cX2_rungLine 44 = .ok (.ireturn, 1) := by decide +kernel
theorem dX2_rungLine_45 : decode cX2_rungLine 45 = .ok (.aload_n 0, 1) := by decide +kernel
theorem dX2_rungLine_46 : decode cX2_rungLine 46 = .ok (.invokevirtual 45, 3) := by decide +kernel
theorem dX2_rungLine_49 : decode cX2_rungLine 49 = .ok (.aload_n 0, 1) := by decide +kernel
theorem dX2_rungLine_50 : decode cX2_rungLine 50 = .ok (.getfield 19, 3) := by decide +kernel
theorem dX2_rungLine_53 : decode cX2_rungLine 53 = .ok (.getfield 249, 3) := by decide +kernel
theorem dX2_rungLine_56 : decode cX2_rungLine 56 = .ok (.aload_n 0, 1) := by decide +kernel
theorem dX2_rungLine_57 : decode cX2_rungLine 57 = .ok (.getfield 19, 3) := by decide +kernel
theorem dX2_rungLine_60 : decode cX2_rungLine 60 = .ok (.getfield 163, 3) := by decide +kernel
theorem dX2_rungLine_63 : decode cX2_rungLine 63 = .ok (.aload_n 0, 1) := by decide +kernel
theorem dX2_rungLine_64 : decode cX2_rungLine 64 = .ok (.getfield 113, 3) := by decide +kernel
theorem dX2_rungLine_67 : decode cX2_rungLine 67 = .ok (.iastore, 1) := by decide +kernel
theorem dX2_rungLine_68 : decode cX2_rungLine 68 = .ok (.aload_n 0, 1) := by decide +kernel
theorem dX2_rungLine_69 : decode cX2_rungLine 69 = .ok (.getfield 19, 3) := by decide +kernel
theorem dX2_rungLine_72 : decode cX2_rungLine 72 = .ok (.getfield 252, 3) := by decide +kernel
theorem dX2_rungLine_75 : decode cX2_rungLine 75 = .ok (.aload_n 0, 1) := by decide +kernel
theorem dX2_rungLine_76 : decode cX2_rungLine 76 = .ok (.getfield 19, 3) := by decide +kernel
theorem dX2_rungLine_79 : decode cX2_rungLine 79 = .ok (.getfield 163, 3) := by decide +kernel
theorem dX2_rungLine_82 : decode cX2_rungLine 82 = .ok (.iload_n 1, 1) := by decide +kernel
theorem dX2_rungLine_83 : decode cX2_rungLine 83 = .ok (.iastore, 1) := by decide +kernel
theorem dX2_rungLine_84 : decode cX2_rungLine 84 = .ok (.aload_n 0, 1) := by decide +kernel
theorem dX2_rungLine_85 : decode cX2_rungLine 85 = .ok (.getfield 19, 3) := by decide +kernel
theorem dX2_rungLine_88 : decode cX2_rungLine 88 = .ok (.dup, 1) := by decide +kernel
theorem dX2_rungLine_89 : decode cX2_rungLine 89 = .ok (.getfield 163, 3) := by decide +kernel
theorem dX2_rungLine_92 : decode cX2_rungLine 92 = .ok (.iconst 1, 1) := by decide +kernel
theorem dX2_rungLine_93 : decode cX2_rungLine 93 = .ok (.iadd, 1) := by decide +kernel
theorem dX2_rungLine_94 : decode cX2_rungLine 94 = .ok (.putfield 163, 3) := by decide +kernel
theorem dX2_rungLine_97 : decode cX2_rungLine 97 = .ok (.iconst 1, 1) := by decide +kernel
theorem dX2_rungLine_98 : decode cX2_rungLine 98 = .ok (.ireturn, 1) := by decide +kernel
theorem dX3_init_0 : decode cX3_init 0 = .ok (.aload_n 0, 1) := by decide +kernel
theorem dX3_init_1 : decode cX3_init 1 = .ok (.invokespecial 3, 3) := by decide +kernel
theorem dX3_init_4 : decode cX3_init 4 = .ok (.aload_n 0, 1) := by decide +kernel
theorem dX3_init_5 : decode cX3_init 5 = .ok (.bipush 16, 2) := by decide +kernel
theorem dX3_init_7 : decode cX3_init 7 = .ok (.newarray .int, 2) := by decide +kernel
theorem dX3_init_9 : decode cX3_init 9 = .ok (.putfield 11, 3) := by decide +kernel
theorem dX3_init_12 : decode cX3_init 12 = .ok (.aload_n 0, 1) := by decide +kernel
theorem dX3_init_13 : decode cX3_init 13 = .ok (.iconst 3, 1) := by decide +kernel
theorem dX3_init_14 : decode cX3_init 14 = .ok (.newarray .int, 2) := by decide +kernel
theorem dX3_init_16 : decode cX3_init 16 = .ok (.putfield 15, 3) := by decide +kernel
theorem dX3_init_19 : decode cX3_init 19 = .ok (.return_, 1) := by decide +kernel
theorem dX3_begin_0 : decode cX3_begin 0 = .ok (.aload_n 0, 1) := by decide +kernel
theorem dX3_begin_1 : decode cX3_begin 1 = .ok (.iconst 0, 1) := by decide +kernel
theorem dX3_begin_2 : decode cX3_begin 2 = .ok (.putfield 18, 3) := by decide +kernel
theorem dX3_begin_5 : decode cX3_begin 5 = .ok (.aload_n 0, 1) := by decide +kernel
theorem dX3_begin_6 : decode cX3_begin 6 = .ok (.iload_n 1, 1) := by decide +kernel
theorem dX3_begin_7 : decode cX3_begin 7 = .ok (.putfield 22, 3) := by decide +kernel
theorem dX3_begin_10 : decode cX3_begin 10 = .ok (.aload_n 0, 1) := by decide +kernel
theorem dX3_begin_11 : decode cX3_begin 11 = .ok (.iconst 0, 1) := by decide +kernel
theorem dX3_begin_12 : decode cX3_begin 12 = .ok (.putfield 25, 3) := by decide +kernel
theorem dX3_begin_15 : decode cX3_begin 15 = .ok (.aload_n 0, 1) := by decide +kernel
theorem dX3_begin_16 : decode cX3_begin 16 = .ok (.iconst 0, 1) := by decide +kernel
theorem dX3_begin_17 : decode cX3_begin 17 = .ok (.putfield 28, 3) := by decide +kernel
theorem dX3_begin_20 : decode cX3_begin 20 = .ok (.aload_n 0, 1) := by decide +kernel
theorem dX3_begin_21 : decode cX3_begin 21 = .ok (.iconst 0, 1) := by decide +kernel
theorem dX3_begin_22 : decode cX3_begin 22 = .ok (.putfield 31, 3) := by decide +kernel
theorem dX3_begin_25 : decode cX3_begin 25 = .ok (.return_, 1) := by decide +kernel
theorem dX3_packed_0 : decode cX3_packed 0 = .ok (.aload_n 0, 1) := by decide +kernel
theorem dX3_packed_1 : decode cX3_packed 1 = .ok (.getfield 25, 3) := by decide +kernel
theorem dX3_packed_4 : decode cX3_packed 4 = .ok (.bipush 12, 2) := by decide +kernel
theorem dX3_packed_6 : decode cX3_packed 6 = .ok (.ishl, 1) := by decide +kernel
theorem dX3_packed_7 : decode cX3_packed 7 = .ok (.aload_n 0, 1) := by decide +kernel
theorem dX3_packed_8 : decode cX3_packed 8 = .ok (.getfield 22, 3) := by decide +kernel
theorem dX3_packed_11 : decode cX3_packed 11 = .ok (.bipush 6, 2) := by decide +kernel
theorem dX3_packed_13 : decode cX3_packed 13 = .ok (.ishl, 1) := by decide +kernel
theorem dX3_packed_14 : decode cX3_packed 14 = .ok (.ior, 1) := by decide +kernel
theorem dX3_packed_15 : decode cX3_packed 15 = .ok (.aload_n 0, 1) := by decide +kernel
theorem dX3_packed_16 : decode cX3_packed 16 = .ok (.getfield 18, 3) := by decide +kernel
theorem dX3_packed_19 : decode cX3_packed 19 = .ok (.ior, 1) := by decide +kernel
theorem dX3_packed_20 : decode cX3_packed 20 = .ok (.ireturn, 1) := by decide +kernel
theorem dX3_unpack_0 : decode cX3_unpack 0 = .ok (.aload_n 0, 1) := by decide +kernel
theorem dX3_unpack_1 : decode cX3_unpack 1 = .ok (.iload_n 1, 1) := by decide +kernel
theorem dX3_unpack_2 : decode cX3_unpack 2 = .ok (.bipush 63, 2) := by decide +kernel
theorem dX3_unpack_4 : decode cX3_unpack 4 = .ok (.iand, 1) := by decide +kernel
theorem dX3_unpack_5 : decode cX3_unpack 5 = .ok (.putfield 18, 3) := by decide +kernel
theorem dX3_unpack_8 : decode cX3_unpack 8 = .ok (.aload_n 0, 1) := by decide +kernel
theorem dX3_unpack_9 : decode cX3_unpack 9 = .ok (.iload_n 1, 1) := by decide +kernel
theorem dX3_unpack_10 : decode cX3_unpack 10 = .ok (.bipush 6, 2) := by decide +kernel
theorem dX3_unpack_12 : decode cX3_unpack 12 = .ok (.ishr, 1) := by decide +kernel
theorem dX3_unpack_13 : decode cX3_unpack 13 = .ok (.bipush 63, 2) := by decide +kernel
theorem dX3_unpack_15 : decode cX3_unpack 15 = .ok (.iand, 1) := by decide +kernel
theorem dX3_unpack_16 : decode cX3_unpack 16 = .ok (.putfield 22, 3) := by decide +kernel
theorem dX3_unpack_19 : decode cX3_unpack 19 = .ok (.aload_n 0, 1) := by decide +kernel
theorem dX3_unpack_20 : decode cX3_unpack 20 = .ok (.iload_n 1, 1) := by decide +kernel
theorem dX3_unpack_21 : decode cX3_unpack 21 = .ok (.bipush 12, 2) := by decide +kernel
theorem dX3_unpack_23 : decode cX3_unpack 23 = .ok (.ishr, 1) := by decide +kernel
theorem dX3_unpack_24 : decode cX3_unpack 24 = .ok (.putfield 25, 3) := by decide +kernel
theorem dX3_unpack_27 : decode cX3_unpack 27 = .ok (.return_, 1) := by decide +kernel
theorem dX3_keep_0 : decode cX3_keep 0 = .ok (.aload_n 0, 1) := by decide +kernel
theorem dX3_keep_1 : decode cX3_keep 1 = .ok (.getfield 11, 3) := by decide +kernel
theorem dX3_keep_4 : decode cX3_keep 4 = .ok (.aload_n 0, 1) := by decide +kernel
theorem dX3_keep_5 : decode cX3_keep 5 = .ok (.getfield 34, 3) := by decide +kernel
theorem dX3_keep_8 : decode cX3_keep 8 = .ok (.aload_n 0, 1) := by decide +kernel
theorem dX3_keep_9 : decode cX3_keep 9 = .ok (.invokevirtual 37, 3) := by decide +kernel
theorem dX3_keep_12 : decode cX3_keep 12 = .ok (.iastore, 1) := by decide +kernel
theorem dX3_keep_13 : decode cX3_keep 13 = .ok (.aload_n 0, 1) := by decide +kernel
theorem dX3_keep_14 : decode cX3_keep 14 = .ok (.aload_n 0, 1) := by decide +kernel
theorem dX3_keep_15 : decode cX3_keep 15 = .ok (.getfield 34, 3) := by decide +kernel
theorem dX3_keep_18 : decode cX3_keep 18 = .ok (.iconst 1, 1) := by decide +kernel
theorem dX3_keep_19 : decode cX3_keep 19 = .ok (.iadd, 1) := by decide +kernel
theorem dX3_keep_20 : decode cX3_keep 20 = .ok (.bipush 16, 2) := by decide +kernel
theorem dX3_keep_22 : decode cX3_keep 22 = .ok (.irem, 1) := by decide +kernel
theorem dX3_keep_23 : decode cX3_keep 23 = .ok (.putfield 34, 3) := by decide +kernel
theorem dX3_keep_26 : decode cX3_keep 26 = .ok (.aload_n 0, 1) := by decide +kernel
theorem dX3_keep_27 : decode cX3_keep 27 = .ok (.aload_n 0, 1) := by decide +kernel
theorem dX3_keep_28 : decode cX3_keep 28 = .ok (.getfield 28, 3) := by decide +kernel
theorem dX3_keep_31 : decode cX3_keep 31 = .ok (.iconst 1, 1) := by decide +kernel
theorem dX3_keep_32 : decode cX3_keep 32 = .ok (.iadd, 1) := by decide +kernel
theorem dX3_keep_33 : decode cX3_keep 33 = .ok (.bipush 16, 2) := by decide +kernel
theorem dX3_keep_35 : decode cX3_keep 35 = .ok (.invokestatic 41, 3) := by decide +kernel
theorem dX3_keep_38 : decode cX3_keep 38 = .ok (.putfield 28, 3) := by decide +kernel
theorem dX3_keep_41 : decode cX3_keep 41 = .ok (.return_, 1) := by decide +kernel
theorem dX3_takeBack_0 : decode cX3_takeBack 0 = .ok (.aload_n 0, 1) := by decide +kernel
theorem dX3_takeBack_1 : decode cX3_takeBack 1 = .ok (.getfield 28, 3) := by decide +kernel
theorem dX3_takeBack_4 : decode cX3_takeBack 4 = .ok (.ifCond .ne 5, 3) := by decide +kernel
theorem dX3_takeBack_7 : decode cX3_takeBack 7 = .ok (.iconst 0, 1) := by decide +kernel
theorem dX3_takeBack_8 : decode cX3_takeBack 8 = .ok (.ireturn, 1) := by decide +kernel
theorem dX3_takeBack_9 : decode cX3_takeBack 9 = .ok (.aload_n 0, 1) := by decide +kernel
theorem dX3_takeBack_10 : decode cX3_takeBack 10 = .ok (.dup, 1) := by decide +kernel
theorem dX3_takeBack_11 : decode cX3_takeBack 11 = .ok (.getfield 28, 3) := by decide +kernel
theorem dX3_takeBack_14 : decode cX3_takeBack 14 = .ok (.iconst 1, 1) := by decide +kernel
theorem dX3_takeBack_15 : decode cX3_takeBack 15 = .ok (.isub, 1) := by decide +kernel
theorem dX3_takeBack_16 : decode cX3_takeBack 16 = .ok (.putfield 28, 3) := by decide +kernel
theorem dX3_takeBack_19 : decode cX3_takeBack 19 = .ok (.aload_n 0, 1) := by decide +kernel
theorem dX3_takeBack_20 : decode cX3_takeBack 20 = .ok (.aload_n 0, 1) := by decide +kernel
theorem dX3_takeBack_21 : decode cX3_takeBack 21 = .ok (.getfield 34, 3) := by decide +kernel
theorem dX3_takeBack_24 : decode cX3_takeBack 24 = .ok (.bipush 16, 2) := by decide +kernel
theorem dX3_takeBack_26 : decode cX3_takeBack 26 = .ok (.iadd, 1) := by decide +kernel
theorem dX3_takeBack_27 : decode cX3_takeBack 27 = .ok (.iconst 1, 1) := by decide +kernel
theorem dX3_takeBack_28 : decode cX3_takeBack 28 = .ok (.isub, 1) := by decide +kernel
theorem dX3_takeBack_29 : decode cX3_takeBack 29 = .ok (.bipush 16, 2) := by decide +kernel
theorem dX3_takeBack_31 : decode cX3_takeBack 31 = .ok (.irem, 1) := by decide +kernel
theorem dX3_takeBack_32 : decode cX3_takeBack 32 = .ok (.putfield 34, 3) := by decide +kernel
theorem dX3_takeBack_35 : decode cX3_takeBack 35 = .ok (.aload_n 0, 1) := by decide +kernel
theorem dX3_takeBack_36 : decode cX3_takeBack 36 = .ok (.aload_n 0, 1) := by decide +kernel
theorem dX3_takeBack_37 : decode cX3_takeBack 37 = .ok (.getfield 11, 3) := by decide +kernel
theorem dX3_takeBack_40 : decode cX3_takeBack 40 = .ok (.aload_n 0, 1) := by decide +kernel
theorem dX3_takeBack_41 : decode cX3_takeBack 41 = .ok (.getfield 34, 3) := by decide +kernel
theorem dX3_takeBack_44 : decode cX3_takeBack 44 = .ok (.iaload, 1) := by decide +kernel
theorem dX3_takeBack_45 : decode cX3_takeBack 45 = .ok (.invokevirtual 47, 3) := by decide +kernel
theorem dX3_takeBack_48 : decode cX3_takeBack 48 = .ok (.iconst 1, 1) := by decide +kernel
theorem dX3_takeBack_49 : decode cX3_takeBack 49 = .ok (.ireturn, 1) := by decide +kernel
theorem dX3_keepImage_0 : decode cX3_keepImage 0 = .ok (.aload_n 0, 1) := by decide +kernel
theorem dX3_keepImage_1 : decode cX3_keepImage 1 = .ok (.getfield 31, 3) := by decide +kernel
theorem dX3_keepImage_4 : decode cX3_keepImage 4 = .ok (.iconst 3, 1) := by decide +kernel
theorem dX3_keepImage_5 : decode cX3_keepImage 5 = .ok (.if_icmp .lt 5, 3) := by decide +kernel
theorem dX3_keepImage_8 : decode cX3_keepImage 8 = .ok (.iconst (-1), 1) := by decide +kernel
theorem dX3_keepImage_9 : decode cX3_keepImage 9 = .ok (.ireturn, 1) := by decide +kernel
theorem dX3_keepImage_10 : decode cX3_keepImage 10 = .ok (.aload_n 0, 1) := by decide +kernel
theorem dX3_keepImage_11 : decode cX3_keepImage 11 = .ok (.getfield 15, 3) := by decide +kernel
theorem dX3_keepImage_14 : decode cX3_keepImage 14 = .ok (.aload_n 0, 1) := by decide +kernel
theorem dX3_keepImage_15 : decode cX3_keepImage 15 = .ok (.getfield 31, 3) := by decide +kernel
theorem dX3_keepImage_18 : decode cX3_keepImage 18 = .ok (.aload_n 0, 1) := by decide +kernel
theorem dX3_keepImage_19 : decode cX3_keepImage 19 = .ok (.invokevirtual 37, 3) := by decide +kernel
theorem dX3_keepImage_22 : decode cX3_keepImage 22 = .ok (.iastore, 1) := by decide +kernel
theorem dX3_keepImage_23 : decode cX3_keepImage 23 = .ok (.aload_n 0, 1) := by decide +kernel
theorem dX3_keepImage_24 : decode cX3_keepImage 24 = .ok (.dup, 1) := by decide +kernel
theorem dX3_keepImage_25 : decode cX3_keepImage 25 = .ok (.getfield 31, 3) := by decide +kernel
theorem dX3_keepImage_28 : decode cX3_keepImage 28 = .ok (.iconst 1, 1) := by decide +kernel
theorem dX3_keepImage_29 : decode cX3_keepImage 29 = .ok (.iadd, 1) := by decide +kernel
theorem dX3_keepImage_30 : decode cX3_keepImage 30 = .ok (.putfield 31, 3) := by decide +kernel
theorem dX3_keepImage_33 : decode cX3_keepImage 33 = .ok (.aload_n 0, 1) := by decide +kernel
theorem dX3_keepImage_34 : decode cX3_keepImage 34 = .ok (.getfield 31, 3) := by decide +kernel
theorem dX3_keepImage_37 : decode cX3_keepImage 37 = .ok (.iconst 1, 1) := by decide +kernel
theorem dX3_keepImage_38 : decode cX3_keepImage 38 = .ok (.isub, 1) := by decide +kernel
theorem dX3_keepImage_39 : decode cX3_keepImage 39 = .ok (.ireturn, 1) := by decide +kernel
theorem dX3_goBack_0 : decode cX3_goBack 0 = .ok (.iload_n 1, 1) := by decide +kernel
theorem dX3_goBack_1 : decode cX3_goBack 1 = .ok (.ifCond .lt 11, 3) := by decide +kernel
theorem dX3_goBack_4 : decode cX3_goBack 4 = .ok (.iload_n 1, 1) := by decide +kernel
theorem dX3_goBack_5 : decode cX3_goBack 5 = .ok (.aload_n 0, 1) := by decide +kernel
theorem dX3_goBack_6 : decode cX3_goBack 6 = .ok (.getfield 31, 3) := by decide +kernel
theorem dX3_goBack_9 : decode cX3_goBack 9 = .ok (.if_icmp .lt 5, 3) := by decide +kernel
theorem dX3_goBack_12 : decode cX3_goBack 12 = .ok (.iconst 0, 1) := by decide +kernel
theorem dX3_goBack_13 : decode cX3_goBack 13 = .ok (.ireturn, 1) := by decide +kernel
theorem dX3_goBack_14 : decode cX3_goBack 14 = .ok (.aload_n 0, 1) := by decide +kernel
theorem dX3_goBack_15 : decode cX3_goBack 15 = .ok (.aload_n 0, 1) := by decide +kernel
theorem dX3_goBack_16 : decode cX3_goBack 16 = .ok (.getfield 15, 3) := by decide +kernel
theorem dX3_goBack_19 : decode cX3_goBack 19 = .ok (.iload_n 1, 1) := by decide +kernel
theorem dX3_goBack_20 : decode cX3_goBack 20 = .ok (.iaload, 1) := by decide +kernel
theorem dX3_goBack_21 : decode cX3_goBack 21 = .ok (.invokevirtual 47, 3) := by decide +kernel
theorem dX3_goBack_24 : decode cX3_goBack 24 = .ok (.aload_n 0, 1) := by decide +kernel
theorem dX3_goBack_25 : decode cX3_goBack 25 = .ok (.iconst 0, 1) := by decide +kernel
theorem dX3_goBack_26 : decode cX3_goBack 26 = .ok (.putfield 28, 3) := by decide +kernel
theorem dX3_goBack_29 : decode cX3_goBack 29 = .ok (.iconst 1, 1) := by decide +kernel
theorem dX3_goBack_30 : decode cX3_goBack 30 = .ok (.ireturn, 1) := by decide +kernel
theorem dX4_init_0 : decode cX4_init 0 = .ok (.aload_n 0, 1) := by decide +kernel
theorem dX4_init_1 : decode cX4_init 1 = .ok (.invokespecial 3, 3) := by decide +kernel
theorem dX4_init_4 : decode cX4_init 4 = .ok (.aload_n 0, 1) := by decide +kernel
theorem dX4_init_5 : decode cX4_init 5 = .ok (.bipush 6, 2) := by decide +kernel
theorem dX4_init_7 : decode cX4_init 7 = .ok (.newarray .int, 2) := by decide +kernel
theorem dX4_init_9 : decode cX4_init 9 = .ok (.putfield 9, 3) := by decide +kernel
theorem dX4_init_12 : decode cX4_init 12 = .ok (.aload_n 0, 1) := by decide +kernel
theorem dX4_init_13 : decode cX4_init 13 = .ok (.bipush 6, 2) := by decide +kernel
theorem dX4_init_15 : decode cX4_init 15 = .ok (.newarray .int, 2) := by decide +kernel
theorem dX4_init_17 : decode cX4_init 17 = .ok (.putfield 15, 3) := by decide +kernel
theorem dX4_init_20 : decode cX4_init 20 = .ok (.aload_n 0, 1) := by decide +kernel
theorem dX4_init_21 : decode cX4_init 21 = .ok (.bipush 6, 2) := by decide +kernel
theorem dX4_init_23 : decode cX4_init 23 = .ok (.newarray .int, 2) := by decide +kernel
theorem dX4_init_25 : decode cX4_init 25 = .ok (.putfield 18, 3) := by decide +kernel
theorem dX4_init_28 : decode cX4_init 28 = .ok (.aload_n 0, 1) := by decide +kernel
theorem dX4_init_29 : decode cX4_init 29 = .ok (.bipush 6, 2) := by decide +kernel
theorem dX4_init_31 : decode cX4_init 31 = .ok (.newarray .int, 2) := by decide +kernel
theorem dX4_init_33 : decode cX4_init 33 = .ok (.putfield 21, 3) := by decide +kernel
theorem dX4_init_36 : decode cX4_init 36 = .ok (.aload_n 0, 1) := by decide +kernel
theorem dX4_init_37 : decode cX4_init 37 = .ok (.bipush 9, 2) := by decide +kernel
theorem dX4_init_39 : decode cX4_init 39 = .ok (.newarray .int, 2) := by decide +kernel
theorem dX4_init_41 : decode cX4_init 41 = .ok (.putfield 24, 3) := by decide +kernel
theorem dX4_init_44 : decode cX4_init 44 = .ok (.aload_n 0, 1) := by decide +kernel
theorem dX4_init_45 : decode cX4_init 45 = .ok (.bipush 9, 2) := by decide +kernel
theorem dX4_init_47 : decode cX4_init 47 = .ok (.newarray .int, 2) := by decide +kernel
theorem dX4_init_49 : decode cX4_init 49 = .ok (.putfield 27, 3) := by decide +kernel
theorem dX4_init_52 : decode cX4_init 52 = .ok (.aload_n 0, 1) := by decide +kernel
theorem dX4_init_53 : decode cX4_init 53 = .ok (.bipush 9, 2) := by decide +kernel
theorem dX4_init_55 : decode cX4_init 55 = .ok (.newarray .int, 2) := by decide +kernel
theorem dX4_init_57 : decode cX4_init 57 = .ok (.putfield 30, 3) := by decide +kernel
theorem dX4_init_60 : decode cX4_init 60 = .ok (.aload_n 0, 1) := by decide +kernel
theorem dX4_init_61 : decode cX4_init 61 = .ok (.iconst 4, 1) := by decide +kernel
theorem dX4_init_62 : decode cX4_init 62 = .ok (.newarray .int, 2) := by decide +kernel
theorem dX4_init_64 : decode cX4_init 64 = .ok (.putfield 33, 3) := by decide +kernel
theorem dX4_init_67 : decode cX4_init 67 = .ok (.aload_n 0, 1) := by decide +kernel
theorem dX4_init_68 : decode cX4_init 68 = .ok (.iconst 2, 1) := by decide +kernel
theorem dX4_init_69 : decode cX4_init 69 = .ok (.newarray .int, 2) := by decide +kernel
theorem dX4_init_71 : decode cX4_init 71 = .ok (.putfield 36, 3) := by decide +kernel
theorem dX4_init_74 : decode cX4_init 74 = .ok (.aload_n 0, 1) := by decide +kernel
theorem dX4_init_75 : decode cX4_init 75 = .ok (.iconst 4, 1) := by decide +kernel
theorem dX4_init_76 : decode cX4_init 76 = .ok (.newarray .int, 2) := by decide +kernel
theorem dX4_init_78 : decode cX4_init 78 = .ok (.putfield 39, 3) := by decide +kernel
theorem dX4_init_81 : decode cX4_init 81 = .ok (.aload_n 0, 1) := by decide +kernel
theorem dX4_init_82 : decode cX4_init 82 = .ok (.iconst 4, 1) := by decide +kernel
theorem dX4_init_83 : decode cX4_init 83 = .ok (.newarray .int, 2) := by decide +kernel
theorem dX4_init_85 : decode cX4_init 85 = .ok (.putfield 42, 3) := by decide +kernel
theorem dX4_init_88 : decode cX4_init 88 = .ok (.return_, 1) := by decide +kernel
theorem dX4_clear_0 : decode cX4_clear 0 = .ok (.aload_n 0, 1) := by decide +kernel
theorem dX4_clear_1 : decode cX4_clear 1 = .ok (.iconst 0, 1) := by decide +kernel
theorem dX4_clear_2 : decode cX4_clear 2 = .ok (.putfield 45, 3) := by decide +kernel
theorem dX4_clear_5 : decode cX4_clear 5 = .ok (.aload_n 0, 1) := by decide +kernel
theorem dX4_clear_6 : decode cX4_clear 6 = .ok (.iconst 0, 1) := by decide +kernel
theorem dX4_clear_7 : decode cX4_clear 7 = .ok (.putfield 49, 3) := by decide +kernel
theorem dX4_clear_10 : decode cX4_clear 10 = .ok (.aload_n 0, 1) := by decide +kernel
theorem dX4_clear_11 : decode cX4_clear 11 = .ok (.iconst 0, 1) := by decide +kernel
theorem dX4_clear_12 : decode cX4_clear 12 = .ok (.putfield 52, 3) := by decide +kernel
theorem dX4_clear_15 : decode cX4_clear 15 = .ok (.aload_n 0, 1) := by decide +kernel
theorem dX4_clear_16 : decode cX4_clear 16 = .ok (.iconst 0, 1) := by decide +kernel
theorem dX4_clear_17 : decode cX4_clear 17 = .ok (.putfield 55, 3) := by decide +kernel
theorem dX4_clear_20 : decode cX4_clear 20 = .ok (.aload_n 0, 1) := by decide +kernel
theorem dX4_clear_21 : decode cX4_clear 21 = .ok (.iconst 0, 1) := by decide +kernel
theorem dX4_clear_22 : decode cX4_clear 22 = .ok (.putfield 58, 3) := by decide +kernel
theorem dX4_clear_25 : decode cX4_clear 25 = .ok (.aload_n 0, 1) := by decide +kernel
theorem dX4_clear_26 : decode cX4_clear 26 = .ok (.iconst 0, 1) := by decide +kernel
theorem dX4_clear_27 : decode cX4_clear 27 = .ok (.putfield 61, 3) := by decide +kernel
theorem dX4_clear_30 : decode cX4_clear 30 = .ok (.aload_n 0, 1) := by decide +kernel
theorem dX4_clear_31 : decode cX4_clear 31 = .ok (.iconst 0, 1) := by decide +kernel
theorem dX4_clear_32 : decode cX4_clear 32 = .ok (.putfield 64, 3) := by decide +kernel
theorem dX4_clear_35 : decode cX4_clear 35 = .ok (.return_, 1) := by decide +kernel
theorem dX4_causeOf_0 : decode cX4_causeOf 0 = .ok (.aload_n 0, 1) := by decide +kernel
theorem dX4_causeOf_1 : decode cX4_causeOf 1 = .ok (.getfield 15, 3) := by decide +kernel
theorem dX4_causeOf_4 : decode cX4_causeOf 4 = .ok (.iload_n 1, 1) := by decide +kernel
theorem dX4_causeOf_5 : decode cX4_causeOf 5 = .ok (.iaload, 1) := by decide +kernel
theorem dX4_causeOf_6 : decode cX4_causeOf 6 = .ok (.bipush (-2), 2) := by decide +kernel
theorem dX4_causeOf_8 : decode cX4_causeOf 8 = .ok (.if_icmp .eq 11, 3) := by decide +kernel
theorem dX4_causeOf_11 : decode cX4_causeOf 11 = .ok (.iload_n 2, 1) := by decide +kernel
theorem dX4_causeOf_12 : decode cX4_causeOf 12 = .ok (.iload_n 1, 1) := by decide +kernel
theorem dX4_causeOf_13 : decode cX4_causeOf 13 = .ok (.ishr, 1) := by decide +kernel
theorem dX4_causeOf_14 : decode cX4_causeOf 14 = .ok (.iconst 1, 1) := by decide +kernel
theorem dX4_causeOf_15 : decode cX4_causeOf 15 = .ok (.iand, 1) := by decide +kernel
theorem dX4_causeOf_16 : decode cX4_causeOf 16 = .ok (.ifCond .ne 10, 3) := by decide +kernel
theorem dX4_causeOf_19 : decode cX4_causeOf 19 = .ok (.aload_n 0, 1) := by decide +kernel
theorem dX4_causeOf_20 : decode cX4_causeOf 20 = .ok (.getfield 15, 3) := by decide +kernel
theorem dX4_causeOf_23 : decode cX4_causeOf 23 = .ok (.iload_n 1, 1) := by decide +kernel
theorem dX4_causeOf_24 : decode cX4_causeOf 24 = .ok (.iaload, 1) := by decide +kernel
theorem dX4_causeOf_25 : decode cX4_causeOf 25 = .ok (.ireturn, 1) := by decide +kernel
theorem dX4_causeOf_26 : decode cX4_causeOf 26 = .ok (.aload_n 0, 1) := by decide +kernel
theorem dX4_causeOf_27 : decode cX4_causeOf 27 = .ok (.getfield 21, 3) := by decide +kernel
theorem dX4_causeOf_30 : decode cX4_causeOf 30 = .ok (.iload_n 1, 1) := by decide +kernel
theorem dX4_causeOf_31 : decode cX4_causeOf 31 = .ok (.iaload, 1) := by decide +kernel
theorem dX4_causeOf_32 : decode cX4_causeOf 32 = .ok (.iconst 1, 1) := by decide +kernel
theorem dX4_causeOf_33 : decode cX4_causeOf 33 = .ok (.if_icmp .ne 6, 3) := by decide +kernel
theorem dX4_causeOf_36 : decode cX4_causeOf 36 = .ok (.bipush (-2), 2) := by decide +kernel
theorem dX4_causeOf_38 : decode cX4_causeOf 38 = .ok (.ireturn, 1) := by decide +kernel
theorem dX4_causeOf_39 : decode cX4_causeOf 39 = .ok (.aload_n 0, 1) := by decide +kernel
theorem dX4_causeOf_40 : decode cX4_causeOf 40 = .ok (.getfield 21, 3) := by decide +kernel
theorem dX4_causeOf_43 : decode cX4_causeOf 43 = .ok (.iload_n 1, 1) := by decide +kernel
theorem dX4_causeOf_44 : decode cX4_causeOf 44 = .ok (.iaload, 1) := by decide +kernel
theorem dX4_causeOf_45 : decode cX4_causeOf 45 = .ok (.iconst 3, 1) := by decide +kernel
theorem dX4_causeOf_46 : decode cX4_causeOf 46 = .ok (.if_icmp .ne 18, 3) := by decide +kernel
theorem dX4_causeOf_49 : decode cX4_causeOf 49 = .ok (.iconst 0, 1) := by decide +kernel
theorem dX4_causeOf_50 : decode cX4_causeOf 50 = .ok (.aload_n 0, 1) := by decide +kernel
theorem dX4_causeOf_51 : decode cX4_causeOf 51 = .ok (.getfield 15, 3) := by decide +kernel
theorem dX4_causeOf_54 : decode cX4_causeOf 54 = .ok (.iload_n 1, 1) := by decide +kernel
theorem dX4_causeOf_55 : decode cX4_causeOf 55 = .ok (.iaload, 1) := by decide +kernel
theorem dX4_causeOf_56 : decode cX4_causeOf 56 = .ok (.iconst 1, 1) := by decide +kernel
theorem dX4_causeOf_57 : decode cX4_causeOf 57 = .ok (.isub, 1) := by decide +kernel
theorem dX4_causeOf_58 : decode cX4_causeOf 58 = .ok (.invokestatic 67, 3) := by decide +kernel
theorem dX4_causeOf_61 : decode cX4_causeOf 61 = .ok (.goto 9, 3) := by decide +kernel
theorem dX4_causeOf_64 : decode cX4_causeOf 64 = .ok (.aload_n 0, 1) := by decide +kernel
theorem dX4_causeOf_65 : decode cX4_causeOf 65 = .ok (.getfield 15, 3) := by decide +kernel
theorem dX4_causeOf_68 : decode cX4_causeOf 68 = .ok (.iload_n 1, 1) := by decide +kernel
theorem dX4_causeOf_69 : decode cX4_causeOf 69 = .ok (.iaload, 1) := by decide +kernel
theorem dX4_causeOf_70 : decode cX4_causeOf 70 = .ok (.ireturn, 1) := by decide +kernel
theorem dX4_cutBy_0 : decode cX4_cutBy 0 = .ok (.iconst 0, 1) := by decide +kernel
theorem dX4_cutBy_1 : decode cX4_cutBy 1 = .ok (.istore_n 2, 1) := by decide +kernel
theorem dX4_cutBy_2 : decode cX4_cutBy 2 = .ok (.iconst 0, 1) := by decide +kernel
theorem dX4_cutBy_3 : decode cX4_cutBy 3 = .ok (.istore_n 3, 1) := by decide +kernel
theorem dX4_cutBy_4 : decode cX4_cutBy 4 = .ok (.iload_n 3, 1) := by decide +kernel
theorem dX4_cutBy_5 : decode cX4_cutBy 5 = .ok (.aload_n 0, 1) := by decide +kernel
theorem dX4_cutBy_6 : decode cX4_cutBy 6 = .ok (.getfield 49, 3) := by decide +kernel
theorem dX4_cutBy_9 : decode cX4_cutBy 9 = .ok (.if_icmp .ge 34, 3) := by decide +kernel
theorem dX4_cutBy_12 : decode cX4_cutBy 12 = .ok (.iload_n 1, 1) := by decide +kernel
theorem dX4_cutBy_13 : decode cX4_cutBy 13 = .ok (.iload_n 3, 1) := by decide +kernel
theorem dX4_cutBy_14 : decode cX4_cutBy 14 = .ok (.ishr, 1) := by decide +kernel
theorem dX4_cutBy_15 : decode cX4_cutBy 15 = .ok (.iconst 1, 1) := by decide +kernel
theorem dX4_cutBy_16 : decode cX4_cutBy 16 = .ok (.iand, 1) := by decide +kernel
theorem dX4_cutBy_17 : decode cX4_cutBy 17 = .ok (.iconst 1, 1) := by decide +kernel
theorem dX4_cutBy_18 : decode cX4_cutBy 18 = .ok (.if_icmp .ne 19, 3) := by decide +kernel
theorem dX4_cutBy_21 : decode cX4_cutBy 21 = .ok (.aload_n 0, 1) := by decide +kernel
theorem dX4_cutBy_22 : decode cX4_cutBy 22 = .ok (.getfield 21, 3) := by decide +kernel
theorem dX4_cutBy_25 : decode cX4_cutBy 25 = .ok (.iload_n 3, 1) := by decide +kernel
theorem dX4_cutBy_26 : decode cX4_cutBy 26 = .ok (.iaload, 1) := by decide +kernel
theorem dX4_cutBy_27 : decode cX4_cutBy 27 = .ok (.iconst 2, 1) := by decide +kernel
theorem dX4_cutBy_28 : decode cX4_cutBy 28 = .ok (.if_icmp .ne 9, 3) := by decide +kernel
theorem dX4_cutBy_31 : decode cX4_cutBy 31 = .ok (.iload_n 2, 1) := by decide +kernel
theorem dX4_cutBy_32 : decode cX4_cutBy 32 = .ok (.iconst 1, 1) := by decide +kernel
theorem dX4_cutBy_33 : decode cX4_cutBy 33 = .ok (.iload_n 3, 1) := by decide +kernel
theorem dX4_cutBy_34 : decode cX4_cutBy 34 = .ok (.ishl, 1) := by decide +kernel
theorem dX4_cutBy_35 : decode cX4_cutBy 35 = .ok (.ior, 1) := by decide +kernel
theorem dX4_cutBy_36 : decode cX4_cutBy 36 = .ok (.istore_n 2, 1) := by decide +kernel
theorem dX4_cutBy_37 : decode cX4_cutBy 37 = .ok (.iinc 3 1, 3) := by decide +kernel
theorem dX4_cutBy_40 : decode cX4_cutBy 40 = .ok (.goto (-36), 3) := by decide +kernel
theorem dX4_cutBy_43 : decode cX4_cutBy 43 = .ok (.iload_n 2, 1) := by decide +kernel
theorem dX4_cutBy_44 : decode cX4_cutBy 44 = .ok (.ireturn, 1) := by decide +kernel
theorem dX4_sparkOf_0 : decode cX4_sparkOf 0 = .ok (.iconst 0, 1) := by decide +kernel
theorem dX4_sparkOf_1 : decode cX4_sparkOf 1 = .ok (.istore_n 3, 1) := by decide +kernel
theorem dX4_sparkOf_2 : decode cX4_sparkOf 2 = .ok (.iload_n 3, 1) := by decide +kernel
theorem dX4_sparkOf_3 : decode cX4_sparkOf 3 = .ok (.aload_n 0, 1) := by decide +kernel
theorem dX4_sparkOf_4 : decode cX4_sparkOf 4 = .ok (.getfield 55, 3) := by decide +kernel
theorem dX4_sparkOf_7 : decode cX4_sparkOf 7 = .ok (.if_icmp .ge 31, 3) := by decide +kernel
theorem dX4_sparkOf_10 : decode cX4_sparkOf 10 = .ok (.aload_n 0, 1) := by decide +kernel
theorem dX4_sparkOf_11 : decode cX4_sparkOf 11 = .ok (.getfield 24, 3) := by decide +kernel
theorem dX4_sparkOf_14 : decode cX4_sparkOf 14 = .ok (.iload_n 3, 1) := by decide +kernel
theorem dX4_sparkOf_15 : decode cX4_sparkOf 15 = .ok (.iaload, 1) := by decide +kernel
theorem dX4_sparkOf_16 : decode cX4_sparkOf 16 = .ok (.iload_n 1, 1) := by decide +kernel
theorem dX4_sparkOf_17 : decode cX4_sparkOf 17 = .ok (.if_icmp .ne 15, 3) := by decide +kernel
theorem dX4_sparkOf_20 : decode cX4_sparkOf 20 = .ok (.aload_n 0, 1) := by decide +kernel
theorem dX4_sparkOf_21 : decode cX4_sparkOf 21 = .ok (.getfield 27, 3) := by decide +kernel
theorem dX4_sparkOf_24 : decode cX4_sparkOf 24 = .ok (.iload_n 3, 1) := by decide +kernel
theorem dX4_sparkOf_25 : decode cX4_sparkOf 25 = .ok (.iaload, 1) := by decide +kernel
theorem dX4_sparkOf_26 : decode cX4_sparkOf 26 = .ok (.iload_n 2, 1) := by decide +kernel
theorem dX4_sparkOf_27 : decode cX4_sparkOf 27 = .ok (.if_icmp .ne 5, 3) := by decide +kernel
theorem dX4_sparkOf_30 : decode cX4_sparkOf 30 = .ok (.iload_n 3, 1) := by decide +kernel
theorem dX4_sparkOf_31 : decode cX4_sparkOf 31 = .ok (.ireturn, 1) := by decide +kernel
theorem dX4_sparkOf_32 : decode cX4_sparkOf 32 = .ok (.iinc 3 1, 3) := by decide +kernel
theorem dX4_sparkOf_35 : decode cX4_sparkOf 35 = .ok (.goto (-33), 3) := by decide +kernel
theorem dX4_sparkOf_38 : decode cX4_sparkOf 38 = .ok (.iconst (-1), 1) := by decide +kernel
theorem dX4_sparkOf_39 : decode cX4_sparkOf 39 = .ok (.ireturn, 1) := by decide +kernel
theorem dX4_lagOf_0 : decode cX4_lagOf 0 = .ok (.aload_n 0, 1) := by decide +kernel
theorem dX4_lagOf_1 : decode cX4_lagOf 1 = .ok (.iload_n 1, 1) := by decide +kernel
theorem dX4_lagOf_2 : decode cX4_lagOf 2 = .ok (.iload_n 2, 1) := by decide +kernel
theorem dX4_lagOf_3 : decode cX4_lagOf 3 = .ok (.invokevirtual 73, 3) := by decide +kernel
theorem dX4_lagOf_6 : decode cX4_lagOf 6 = .ok (.istore 4, 2) := by decide +kernel
theorem dX4_lagOf_8 : decode cX4_lagOf 8 = .ok (.iload 4, 2) := by decide +kernel
theorem dX4_lagOf_10 : decode cX4_lagOf 10 = .ok (.iconst (-1), 1) := by decide +kernel
theorem dX4_lagOf_11 : decode cX4_lagOf 11 = .ok (.if_icmp .eq 12, 3) := by decide +kernel
theorem dX4_lagOf_14 : decode cX4_lagOf 14 = .ok (.iload_n 3, 1) := by decide +kernel
theorem dX4_lagOf_15 : decode cX4_lagOf 15 = .ok (.iload_n 1, 1) := by decide +kernel
theorem dX4_lagOf_16 : decode cX4_lagOf 16 = .ok (.ishr, 1) := by decide +kernel
theorem dX4_lagOf_17 : decode cX4_lagOf 17 = .ok (.iconst 1, 1) := by decide +kernel
theorem dX4_lagOf_18 : decode cX4_lagOf 18 = .ok (.iand, 1) := by decide +kernel
theorem dX4_lagOf_19 : decode cX4_lagOf 19 = .ok (.iconst 1, 1) := by decide +kernel
theorem dX4_lagOf_20 : decode cX4_lagOf 20 = .ok (.if_icmp .ne 9, 3) := by decide +kernel
theorem dX4_lagOf_23 : decode cX4_lagOf 23 = .ok (.sipush 1000, 3) := by decide +kernel
theorem dX4_lagOf_26 : decode cX4_lagOf 26 = .ok (.goto 10, 3) := by decide +kernel
theorem dX4_lagOf_29 : decode cX4_lagOf 29 = .ok (.aload_n 0, 1) := by decide +kernel
theorem dX4_lagOf_30 : decode cX4_lagOf 30 = .ok (.getfield 30, 3) := by decide +kernel
theorem dX4_lagOf_33 : decode cX4_lagOf 33 = .ok (.iload 4, 2) := by decide +kernel
theorem dX4_lagOf_35 : decode cX4_lagOf 35 = .ok (.iaload, 1) := by decide +kernel
theorem dX4_lagOf_36 : decode cX4_lagOf 36 = .ok (.ireturn, 1) := by decide +kernel
theorem dX4_doers_0 : decode cX4_doers 0 = .ok (.iconst 0, 1) := by decide +kernel
theorem dX4_doers_1 : decode cX4_doers 1 = .ok (.istore_n 1, 1) := by decide +kernel
theorem dX4_doers_2 : decode cX4_doers 2 = .ok (.iconst 0, 1) := by decide +kernel
theorem dX4_doers_3 : decode cX4_doers 3 = .ok (.istore_n 2, 1) := by decide +kernel
theorem dX4_doers_4 : decode cX4_doers 4 = .ok (.iload_n 2, 1) := by decide +kernel
theorem dX4_doers_5 : decode cX4_doers 5 = .ok (.aload_n 0, 1) := by decide +kernel
theorem dX4_doers_6 : decode cX4_doers 6 = .ok (.getfield 49, 3) := by decide +kernel
theorem dX4_doers_9 : decode cX4_doers 9 = .ok (.if_icmp .ge 21, 3) := by decide +kernel
theorem dX4_doers_12 : decode cX4_doers 12 = .ok (.aload_n 0, 1) := by decide +kernel
theorem dX4_doers_13 : decode cX4_doers 13 = .ok (.getfield 21, 3) := by decide +kernel
theorem dX4_doers_16 : decode cX4_doers 16 = .ok (.iload_n 2, 1) := by decide +kernel
theorem dX4_doers_17 : decode cX4_doers 17 = .ok (.iaload, 1) := by decide +kernel
theorem dX4_doers_18 : decode cX4_doers 18 = .ok (.ifCond .eq 6, 3) := by decide +kernel
theorem dX4_doers_21 : decode cX4_doers 21 = .ok (.iinc 1 1, 3) := by decide +kernel
theorem dX4_doers_24 : decode cX4_doers 24 = .ok (.iinc 2 1, 3) := by decide +kernel
theorem dX4_doers_27 : decode cX4_doers 27 = .ok (.goto (-23), 3) := by decide +kernel
theorem dX4_doers_30 : decode cX4_doers 30 = .ok (.iload_n 1, 1) := by decide +kernel
theorem dX4_doers_31 : decode cX4_doers 31 = .ok (.ireturn, 1) := by decide +kernel
theorem dX5_init_0 : decode cX5_init 0 = .ok (.aload_n 0, 1) := by decide +kernel
theorem dX5_init_1 : decode cX5_init 1 = .ok (.invokespecial 3, 3) := by decide +kernel
theorem dX5_init_4 : decode cX5_init 4 = .ok (.aload_n 0, 1) := by decide +kernel
theorem dX5_init_5 : decode cX5_init 5 = .ok (.sipush 900, 3) := by decide +kernel
theorem dX5_init_8 : decode cX5_init 8 = .ok (.newarray .byte, 2) := by decide +kernel
theorem dX5_init_10 : decode cX5_init 10 = .ok (.putfield 9, 3) := by decide +kernel
theorem dX5_init_13 : decode cX5_init 13 = .ok (.return_, 1) := by decide +kernel
theorem dX5_add_0 : decode cX5_add 0 = .ok (.bipush 24, 2) := by decide +kernel
theorem dX5_add_2 : decode cX5_add 2 = .ok (.istore_n 2, 1) := by decide +kernel
theorem dX5_add_3 : decode cX5_add 3 = .ok (.iload_n 2, 1) := by decide +kernel
theorem dX5_add_4 : decode cX5_add 4 = .ok (.ifCond .lt 51, 3) := by decide +kernel
theorem dX5_add_7 : decode cX5_add 7 = .ok (.aload_n 0, 1) := by decide +kernel
theorem dX5_add_8 : decode cX5_add 8 = .ok (.getfield 15, 3) := by decide +kernel
theorem dX5_add_11 : decode cX5_add 11 = .ok (.ifCond .lt 38, 3) := by decide +kernel
theorem dX5_add_14 : decode cX5_add 14 = .ok (.aload_n 0, 1) := by decide +kernel
theorem dX5_add_15 : decode cX5_add 15 = .ok (.getfield 15, 3) := by decide +kernel
theorem dX5_add_18 : decode cX5_add 18 = .ok (.aload_n 0, 1) := by decide +kernel
theorem dX5_add_19 : decode cX5_add 19 = .ok (.getfield 9, 3) := by decide +kernel
theorem dX5_add_22 : decode cX5_add 22 = .ok (.arraylength, 1) := by decide +kernel
theorem dX5_add_23 : decode cX5_add 23 = .ok (.if_icmp .ge 26, 3) := by decide +kernel
theorem dX5_add_26 : decode cX5_add 26 = .ok (.aload_n 0, 1) := by decide +kernel
theorem dX5_add_27 : decode cX5_add 27 = .ok (.getfield 9, 3) := by decide +kernel
theorem dX5_add_30 : decode cX5_add 30 = .ok (.aload_n 0, 1) := by decide +kernel
theorem dX5_add_31 : decode cX5_add 31 = .ok (.getfield 15, 3) := by decide +kernel
theorem dX5_add_34 : decode cX5_add 34 = .ok (.iload_n 1, 1) := by decide +kernel
theorem dX5_add_35 : decode cX5_add 35 = .ok (.iload_n 2, 1) := by decide +kernel
theorem dX5_add_36 : decode cX5_add 36 = .ok (.ishr, 1) := by decide +kernel
theorem dX5_add_37 : decode cX5_add 37 = .ok (.i2b, 1) := by decide +kernel
theorem dX5_add_38 : decode cX5_add 38 = .ok (.bastore, 1) := by decide +kernel
theorem dX5_add_39 : decode cX5_add 39 = .ok (.aload_n 0, 1) := by decide +kernel
theorem dX5_add_40 : decode cX5_add 40 = .ok (.dup, 1) := by decide +kernel
theorem dX5_add_41 : decode cX5_add 41 = .ok (.getfield 15, 3) := by decide +kernel
theorem dX5_add_44 : decode cX5_add 44 = .ok (.iconst 1, 1) := by decide +kernel
theorem dX5_add_45 : decode cX5_add 45 = .ok (.iadd, 1) := by decide +kernel
theorem dX5_add_46 : decode cX5_add 46 = .ok (.putfield 15, 3) := by decide +kernel
theorem dX5_add_49 : decode cX5_add 49 = .ok (.iinc 2 (-8), 3) := by decide +kernel
theorem dX5_add_52 : decode cX5_add 52 = .ok (.goto (-49), 3) := by decide +kernel
theorem dX5_add_55 : decode cX5_add 55 = .ok (.return_, 1) := by decide +kernel
theorem dX5_at_0 : decode cX5_at 0 = .ok (.iload_n 1, 1) := by decide +kernel
theorem dX5_at_1 : decode cX5_at 1 = .ok (.ifCond .lt 25, 3) := by decide +kernel
theorem dX5_at_4 : decode cX5_at 4 = .ok (.iload_n 1, 1) := by decide +kernel
theorem dX5_at_5 : decode cX5_at 5 = .ok (.aload_n 0, 1) := by decide +kernel
theorem dX5_at_6 : decode cX5_at 6 = .ok (.getfield 9, 3) := by decide +kernel
theorem dX5_at_9 : decode cX5_at 9 = .ok (.arraylength, 1) := by decide +kernel
theorem dX5_at_10 : decode cX5_at 10 = .ok (.if_icmp .ge 16, 3) := by decide +kernel
theorem dX5_at_13 : decode cX5_at 13 = .ok (.aload_n 0, 1) := by decide +kernel
theorem dX5_at_14 : decode cX5_at 14 = .ok (.getfield 9, 3) := by decide +kernel
theorem dX5_at_17 : decode cX5_at 17 = .ok (.iload_n 1, 1) := by decide +kernel
theorem dX5_at_18 : decode cX5_at 18 = .ok (.baload, 1) := by decide +kernel
theorem dX5_at_19 : decode cX5_at 19 = .ok (.sipush 255, 3) := by decide +kernel
theorem dX5_at_22 : decode cX5_at 22 = .ok (.iand, 1) := by decide +kernel
theorem dX5_at_23 : decode cX5_at 23 = .ok (.goto 4, 3) := by decide +kernel
theorem dX5_at_26 : decode cX5_at 26 = .ok (.iconst 0, 1) := by decide +kernel
theorem dX5_at_27 : decode cX5_at 27 = .ok (.ireturn, 1) := by decide +kernel
theorem dX6_init_0 : decode cX6_init 0 = .ok (.aload_n 0, 1) := by decide +kernel
theorem dX6_init_1 : decode cX6_init 1 = .ok (.invokespecial 3, 3) := by decide +kernel
theorem dX6_init_4 : decode cX6_init 4 = .ok (.aload_n 0, 1) := by decide +kernel
theorem dX6_init_5 : decode cX6_init 5 = .ok (.sipush 1296, 3) := by decide +kernel
theorem dX6_init_8 : decode cX6_init 8 = .ok (.newarray .int, 2) := by decide +kernel
theorem dX6_init_10 : decode cX6_init 10 = .ok (.putfield 11, 3) := by decide +kernel
theorem dX6_init_13 : decode cX6_init 13 = .ok (.aload_n 0, 1) := by decide +kernel
theorem dX6_init_14 : decode cX6_init 14 = .ok (.aload_n 1, 1) := by decide +kernel
theorem dX6_init_15 : decode cX6_init 15 = .ok (.putfield 15, 3) := by decide +kernel
theorem dX6_init_18 : decode cX6_init 18 = .ok (.return_, 1) := by decide +kernel
theorem dX6_make_0 : decode cX6_make 0 = .ok (.aload_n 0, 1) := by decide +kernel
theorem dX6_make_1 : decode cX6_make 1 = .ok (.getfield 19, 3) := by decide +kernel
theorem dX6_make_4 : decode cX6_make 4 = .ok (.ifCond .eq 37, 3) := by decide +kernel
theorem dX6_make_7 : decode cX6_make 7 = .ok (.aload_n 0, 1) := by decide +kernel
theorem dX6_make_8 : decode cX6_make 8 = .ok (.getfield 23, 3) := by decide +kernel
theorem dX6_make_11 : decode cX6_make 11 = .ok (.aload_n 1, 1) := by decide +kernel
theorem dX6_make_12 : decode cX6_make 12 = .ok (.getfield 27, 3) := by decide +kernel
theorem dX6_make_15 : decode cX6_make 15 = .ok (.if_icmp .ne 26, 3) := by decide +kernel
theorem dX6_make_18 : decode cX6_make 18 = .ok (.aload_n 0, 1) := by decide +kernel
theorem dX6_make_19 : decode cX6_make 19 = .ok (.getfield 30, 3) := by decide +kernel
theorem dX6_make_22 : decode cX6_make 22 = .ok (.aload_n 1, 1) := by decide +kernel
theorem dX6_make_23 : decode cX6_make 23 = .ok (.getfield 33, 3) := by decide +kernel
theorem dX6_make_26 : decode cX6_make 26 = .ok (.if_icmp .ne 15, 3) := by decide +kernel
theorem dX6_make_29 : decode cX6_make 29 = .ok (.aload_n 0, 1) := by decide +kernel
theorem dX6_make_30 : decode cX6_make 30 = .ok (.getfield 34, 3) := by decide +kernel
theorem dX6_make_33 : decode cX6_make 33 = .ok (.aload_n 1, 1) := by decide +kernel
theorem dX6_make_34 : decode cX6_make 34 = .ok (.getfield 37, 3) := by decide +kernel
theorem dX6_make_37 : decode cX6_make 37 = .ok (.if_icmp .ne 4, 3) := by decide +kernel
theorem dX6_make_40 : decode cX6_make 40 = .ok (.return_, 1) := by decide +kernel
theorem dX6_make_41 : decode cX6_make 41 = .ok (.aload_n 0, 1) := by decide +kernel
theorem dX6_make_42 : decode cX6_make 42 = .ok (.iconst 1, 1) := by decide +kernel
theorem dX6_make_43 : decode cX6_make 43 = .ok (.putfield 19, 3) := by decide +kernel
theorem dX6_make_46 : decode cX6_make 46 = .ok (.aload_n 0, 1) := by decide +kernel
theorem dX6_make_47 : decode cX6_make 47 = .ok (.aload_n 1, 1) := by decide +kernel
theorem dX6_make_48 : decode cX6_make 48 = .ok (.getfield 27, 3) := by decide +kernel
theorem dX6_make_51 : decode cX6_make 51 = .ok (.putfield 23, 3) := by decide +kernel
theorem dX6_make_54 : decode cX6_make 54 = .ok (.aload_n 0, 1) := by decide +kernel
theorem dX6_make_55 : decode cX6_make 55 = .ok (.aload_n 1, 1) := by decide +kernel
theorem dX6_make_56 : decode cX6_make 56 = .ok (.getfield 33, 3) := by decide +kernel
theorem dX6_make_59 : decode cX6_make 59 = .ok (.putfield 30, 3) := by decide +kernel
theorem dX6_make_62 : decode cX6_make 62 = .ok (.aload_n 0, 1) := by decide +kernel
theorem dX6_make_63 : decode cX6_make 63 = .ok (.aload_n 1, 1) := by decide +kernel
theorem dX6_make_64 : decode cX6_make 64 = .ok (.getfield 37, 3) := by decide +kernel
theorem dX6_make_67 : decode cX6_make 67 = .ok (.putfield 34, 3) := by decide +kernel
theorem dX6_make_70 : decode cX6_make 70 = .ok (.aload_n 0, 1) := by decide +kernel
theorem dX6_make_71 : decode cX6_make 71 = .ok (.iconst 0, 1) := by decide +kernel
theorem dX6_make_72 : decode cX6_make 72 = .ok (.putfield 38, 3) := by decide +kernel
theorem dX6_make_75 : decode cX6_make 75 = .ok (.aload_n 0, 1) := by decide +kernel
theorem dX6_make_76 : decode cX6_make 76 = .ok (.iconst 0, 1) := by decide +kernel
theorem dX6_make_77 : decode cX6_make 77 = .ok (.putfield 41, 3) := by decide +kernel
theorem dX6_make_80 : decode cX6_make 80 = .ok (.aload_n 0, 1) := by decide +kernel
theorem dX6_make_81 : decode cX6_make 81 = .ok (.iconst 0, 1) := by decide +kernel
theorem dX6_make_82 : decode cX6_make 82 = .ok (.putfield 44, 3) := by decide +kernel
theorem dX6_make_85 : decode cX6_make 85 = .ok (.aload_n 0, 1) := by decide +kernel
theorem dX6_make_86 : decode cX6_make 86 = .ok (.getfield 44, 3) := by decide +kernel
theorem dX6_make_89 : decode cX6_make 89 = .ok (.aload_n 0, 1) := by decide +kernel
theorem dX6_make_90 : decode cX6_make 90 = .ok (.getfield 15, 3) := by decide +kernel
theorem dX6_make_93 : decode cX6_make 93 = .ok (.getfield 47, 3) := by decide +kernel
theorem dX6_make_96 : decode cX6_make 96 = .ok (.getfield 53, 3) := by decide +kernel
theorem dX6_make_99 : decode cX6_make 99 = .ok (.if_icmp .ge 38, 3) := by decide +kernel
theorem dX6_make_102 : decode cX6_make 102 = .ok (.aload_n 0, 1) := by decide +kernel
theorem dX6_make_103 : decode cX6_make 103 = .ok (.getfield 15, 3) := by decide +kernel
theorem dX6_make_106 : decode cX6_make 106 = .ok (.getfield 47, 3) := by decide +kernel
theorem dX6_make_109 : decode cX6_make 109 = .ok (.getfield 58, 3) := by decide +kernel
theorem dX6_make_112 : decode cX6_make 112 = .ok (.aload_n 0, 1) := by decide +kernel
theorem dX6_make_113 : decode cX6_make 113 = .ok (.getfield 44, 3) := by decide +kernel
theorem dX6_make_116 : decode cX6_make 116 = .ok (.iaload, 1) := by decide +kernel
theorem dX6_make_117 : decode cX6_make 117 = .ok (.aload_n 0, 1) := by decide +kernel
theorem dX6_make_118 : decode cX6_make 118 = .ok (.getfield 23, 3) := by decide +kernel
theorem dX6_make_121 : decode cX6_make 121 = .ok (.if_icmp .ge 16, 3) := by decide +kernel
theorem dX6_make_124 : decode cX6_make 124 = .ok (.aload_n 0, 1) := by decide +kernel
theorem dX6_make_125 : decode cX6_make 125 = .ok (.dup, 1) := by decide +kernel
theorem dX6_make_126 : decode cX6_make 126 = .ok (.getfield 44, 3) := by decide +kernel
theorem dX6_make_129 : decode cX6_make 129 = .ok (.iconst 1, 1) := by decide +kernel
theorem dX6_make_130 : decode cX6_make 130 = .ok (.iadd, 1) := by decide +kernel
theorem dX6_make_131 : decode cX6_make 131 = .ok (.putfield 44, 3) := by decide +kernel
theorem dX6_make_134 : decode cX6_make 134 = .ok (.goto (-49), 3) := by decide +kernel
theorem dX6_make_137 : decode cX6_make 137 = .ok (.aload_n 0, 1) := by decide +kernel
theorem dX6_make_138 : decode cX6_make 138 = .ok (.aload_n 0, 1) := by decide +kernel
theorem dX6_make_139 : decode cX6_make 139 = .ok (.getfield 15, 3) := by decide +kernel
theorem dX6_make_142 : decode cX6_make 142 = .ok (.getfield 47, 3) := by decide +kernel
theorem dX6_make_145 : decode cX6_make 145 = .ok (.getfield 53, 3) := by decide +kernel
theorem dX6_make_148 : decode cX6_make 148 = .ok (.aload_n 0, 1) := by decide +kernel
theorem dX6_make_149 : decode cX6_make 149 = .ok (.getfield 44, 3) := by decide +kernel
theorem dX6_make_152 : decode cX6_make 152 = .ok (.isub, 1) := by decide +kernel
theorem dX6_make_153 : decode cX6_make 153 = .ok (.putfield 61, 3) := by decide +kernel
theorem dX6_make_156 : decode cX6_make 156 = .ok (.aload_n 0, 1) := by decide +kernel
theorem dX6_make_157 : decode cX6_make 157 = .ok (.iconst 0, 1) := by decide +kernel
theorem dX6_make_158 : decode cX6_make 158 = .ok (.aload_n 0, 1) := by decide +kernel
theorem dX6_make_159 : decode cX6_make 159 = .ok (.getfield 30, 3) := by decide +kernel
theorem dX6_make_162 : decode cX6_make 162 = .ok (.iconst 0, 1) := by decide +kernel
theorem dX6_make_163 : decode cX6_make 163 = .ok (.invokevirtual 64, 3) := by decide +kernel
theorem dX6_make_166 : decode cX6_make 166 = .ok (.return_, 1) := by decide +kernel
theorem dX6_go_0 : decode cX6_go 0 = .ok (.iload_n 1, 1) := by decide +kernel
theorem dX6_go_1 : decode cX6_go 1 = .ok (.aload_n 0, 1) := by decide +kernel
theorem dX6_go_2 : decode cX6_go 2 = .ok (.getfield 61, 3) := by decide +kernel
theorem dX6_go_5 : decode cX6_go 5 = .ok (.if_icmp .ge 8, 3) := by decide +kernel
theorem dX6_go_8 : decode cX6_go 8 = .ok (.iload_n 1, 1) := by decide +kernel
theorem dX6_go_9 : decode cX6_go 9 = .ok (.iconst 4, 1) := by decide +kernel
theorem dX6_go_10 : decode cX6_go 10 = .ok (.if_icmp .lt 39, 3) := by decide +kernel
theorem dX6_go_13 : decode cX6_go 13 = .ok (.aload_n 0, 1) := by decide +kernel
theorem dX6_go_14 : decode cX6_go 14 = .ok (.getfield 38, 3) := by decide +kernel
theorem dX6_go_17 : decode cX6_go 17 = .ok (.sipush 1296, 3) := by decide +kernel
theorem dX6_go_20 : decode cX6_go 20 = .ok (.if_icmp .ge 28, 3) := by decide +kernel
theorem dX6_go_23 : decode cX6_go 23 = .ok (.aload_n 0, 1) := by decide +kernel
theorem dX6_go_24 : decode cX6_go 24 = .ok (.getfield 11, 3) := by decide +kernel
theorem dX6_go_27 : decode cX6_go 27 = .ok (.aload_n 0, 1) := by decide +kernel
theorem dX6_go_28 : decode cX6_go 28 = .ok (.getfield 38, 3) := by decide +kernel
theorem dX6_go_31 : decode cX6_go 31 = .ok (.iload_n 2, 1) := by decide +kernel
theorem dX6_go_32 : decode cX6_go 32 = .ok (.bipush 16, 2) := by decide +kernel
theorem dX6_go_34 : decode cX6_go 34 = .ok (.ishl, 1) := by decide +kernel
theorem dX6_go_35 : decode cX6_go 35 = .ok (.iload_n 3, 1) := by decide +kernel
theorem dX6_go_36 : decode cX6_go 36 = .ok (.ior, 1) := by decide +kernel
theorem dX6_go_37 : decode cX6_go 37 = .ok (.iastore, 1) := by decide +kernel
theorem dX6_go_38 : decode cX6_go 38 = .ok (.aload_n 0, 1) := by decide +kernel
theorem dX6_go_39 : decode cX6_go 39 = .ok (.dup, 1) := by decide +kernel
theorem dX6_go_40 : decode cX6_go 40 = .ok (.getfield 38, 3) := by decide +kernel
theorem dX6_go_43 : decode cX6_go 43 = .ok (.iconst 1, 1) := by decide +kernel
theorem dX6_go_44 : decode cX6_go 44 = .ok (.iadd, 1) := by decide +kernel
theorem dX6_go_45 : decode cX6_go 45 = .ok (.putfield 38, 3) := by decide +kernel
theorem dX6_go_48 : decode cX6_go 48 = .ok (.return_, 1) := by decide +kernel
theorem dX6_go_49 : decode cX6_go 49 = .ok (.aload_n 0, 1) := by decide +kernel
theorem dX6_go_50 : decode cX6_go 50 = .ok (.getfield 15, 3) := by decide +kernel
theorem dX6_go_53 : decode cX6_go 53 = .ok (.iload_n 2, 1) := by decide +kernel
theorem dX6_go_54 : decode cX6_go 54 = .ok (.aload_n 0, 1) := by decide +kernel
theorem dX6_go_55 : decode cX6_go 55 = .ok (.getfield 34, 3) := by decide +kernel
theorem dX6_go_58 : decode cX6_go 58 = .ok (.aload_n 0, 1) := by decide +kernel
theorem dX6_go_59 : decode cX6_go 59 = .ok (.getfield 15, 3) := by decide +kernel
theorem dX6_go_62 : decode cX6_go 62 = .ok (.getfield 47, 3) := by decide +kernel
theorem dX6_go_65 : decode cX6_go 65 = .ok (.getfield 58, 3) := by decide +kernel
theorem dX6_go_68 : decode cX6_go 68 = .ok (.aload_n 0, 1) := by decide +kernel
theorem dX6_go_69 : decode cX6_go 69 = .ok (.getfield 44, 3) := by decide +kernel
theorem dX6_go_72 : decode cX6_go 72 = .ok (.iload_n 1, 1) := by decide +kernel
theorem dX6_go_73 : decode cX6_go 73 = .ok (.iadd, 1) := by decide +kernel
theorem dX6_go_74 : decode cX6_go 74 = .ok (.iaload, 1) := by decide +kernel
theorem dX6_go_75 : decode cX6_go 75 = .ok (.invokevirtual 68, 3) := by decide +kernel
theorem dX6_go_78 : decode cX6_go 78 = .ok (.istore 4, 2) := by decide +kernel
theorem dX6_go_80 : decode cX6_go 80 = .ok (.iload 4, 2) := by decide +kernel
theorem dX6_go_82 : decode cX6_go 82 = .ok (.ifCond .ne 13, 3) := by decide +kernel
theorem dX6_go_85 : decode cX6_go 85 = .ok (.aload_n 0, 1) := by decide +kernel
theorem dX6_go_86 : decode cX6_go 86 = .ok (.iload_n 1, 1) := by decide +kernel
theorem dX6_go_87 : decode cX6_go 87 = .ok (.iconst 1, 1) := by decide +kernel
theorem dX6_go_88 : decode cX6_go 88 = .ok (.iadd, 1) := by decide +kernel
theorem dX6_go_89 : decode cX6_go 89 = .ok (.iload_n 2, 1) := by decide +kernel
theorem dX6_go_90 : decode cX6_go 90 = .ok (.iload_n 3, 1) := by decide +kernel
theorem dX6_go_91 : decode cX6_go 91 = .ok (.invokevirtual 64, 3) := by decide +kernel
theorem dX6_go_94 : decode cX6_go 94 = .ok (.return_, 1) := by decide +kernel
theorem dX6_go_95 : decode cX6_go 95 = .ok (.aload_n 0, 1) := by decide +kernel
theorem dX6_go_96 : decode cX6_go 96 = .ok (.dup, 1) := by decide +kernel
theorem dX6_go_97 : decode cX6_go 97 = .ok (.getfield 41, 3) := by decide +kernel
theorem dX6_go_100 : decode cX6_go 100 = .ok (.iload 4, 2) := by decide +kernel
theorem dX6_go_102 : decode cX6_go 102 = .ok (.ior, 1) := by decide +kernel
theorem dX6_go_103 : decode cX6_go 103 = .ok (.putfield 41, 3) := by decide +kernel
theorem dX6_go_106 : decode cX6_go 106 = .ok (.iconst 0, 1) := by decide +kernel
theorem dX6_go_107 : decode cX6_go 107 = .ok (.istore 5, 2) := by decide +kernel
theorem dX6_go_109 : decode cX6_go 109 = .ok (.iload 5, 2) := by decide +kernel
theorem dX6_go_111 : decode cX6_go 111 = .ok (.aload_n 0, 1) := by decide +kernel
theorem dX6_go_112 : decode cX6_go 112 = .ok (.getfield 15, 3) := by decide +kernel
theorem dX6_go_115 : decode cX6_go 115 = .ok (.getfield 47, 3) := by decide +kernel
theorem dX6_go_118 : decode cX6_go 118 = .ok (.getfield 72, 3) := by decide +kernel
theorem dX6_go_121 : decode cX6_go 121 = .ok (.if_icmp .ge 43, 3) := by decide +kernel
theorem dX6_go_124 : decode cX6_go 124 = .ok (.iload 4, 2) := by decide +kernel
theorem dX6_go_126 : decode cX6_go 126 = .ok (.iload 5, 2) := by decide +kernel
theorem dX6_go_128 : decode cX6_go 128 = .ok (.ishr, 1) := by decide +kernel
theorem dX6_go_129 : decode cX6_go 129 = .ok (.iconst 1, 1) := by decide +kernel
theorem dX6_go_130 : decode cX6_go 130 = .ok (.iand, 1) := by decide +kernel
theorem dX6_go_131 : decode cX6_go 131 = .ok (.iconst 1, 1) := by decide +kernel
theorem dX6_go_132 : decode cX6_go 132 = .ok (.if_icmp .ne 26, 3) := by decide +kernel
theorem dX6_go_135 : decode cX6_go 135 = .ok (.aload_n 0, 1) := by decide +kernel
theorem dX6_go_136 : decode cX6_go 136 = .ok (.iload_n 1, 1) := by decide +kernel
theorem dX6_go_137 : decode cX6_go 137 = .ok (.iconst 1, 1) := by decide +kernel
theorem dX6_go_138 : decode cX6_go 138 = .ok (.iadd, 1) := by decide +kernel
theorem dX6_go_139 : decode cX6_go 139 = .ok (.iload_n 2, 1) := by decide +kernel
theorem dX6_go_140 : decode cX6_go 140 = .ok (.iconst 1, 1) := by decide +kernel
theorem dX6_go_141 : decode cX6_go 141 = .ok (.iload 5, 2) := by decide +kernel
theorem dX6_go_143 : decode cX6_go 143 = .ok (.ishl, 1) := by decide +kernel
theorem dX6_go_144 : decode cX6_go 144 = .ok (.ior, 1) := by decide +kernel
theorem dX6_go_145 : decode cX6_go 145 = .ok (.iload_n 3, 1) := by decide +kernel
theorem dX6_go_146 : decode cX6_go 146 = .ok (.iload 5, 2) := by decide +kernel
theorem dX6_go_148 : decode cX6_go 148 = .ok (.iconst 1, 1) := by decide +kernel
theorem dX6_go_149 : decode cX6_go 149 = .ok (.iadd, 1) := by decide +kernel
theorem dX6_go_150 : decode cX6_go 150 = .ok (.iconst 4, 1) := by decide +kernel
theorem dX6_go_151 : decode cX6_go 151 = .ok (.iload_n 1, 1) := by decide +kernel
theorem dX6_go_152 : decode cX6_go 152 = .ok (.imul, 1) := by decide +kernel
theorem dX6_go_153 : decode cX6_go 153 = .ok (.ishl, 1) := by decide +kernel
theorem dX6_go_154 : decode cX6_go 154 = .ok (.ior, 1) := by decide +kernel
theorem dX6_go_155 : decode cX6_go 155 = .ok (.invokevirtual 64, 3) := by decide +kernel
theorem dX6_go_158 : decode cX6_go 158 = .ok (.iinc 5 1, 3) := by decide +kernel
theorem dX6_go_161 : decode cX6_go 161 = .ok (.goto (-52), 3) := by decide +kernel
theorem dX6_go_164 : decode cX6_go 164 = .ok (.return_, 1) := by decide +kernel
theorem dX6_ringOf_0 : decode cX6_ringOf 0 = .ok (.aload_n 0, 1) := by decide +kernel
theorem dX6_ringOf_1 : decode cX6_ringOf 1 = .ok (.getfield 11, 3) := by decide +kernel
theorem dX6_ringOf_4 : decode cX6_ringOf 4 = .ok (.iload_n 1, 1) := by decide +kernel
theorem dX6_ringOf_5 : decode cX6_ringOf 5 = .ok (.iaload, 1) := by decide +kernel
theorem dX6_ringOf_6 : decode cX6_ringOf 6 = .ok (.iconst 4, 1) := by decide +kernel
theorem dX6_ringOf_7 : decode cX6_ringOf 7 = .ok (.iload_n 2, 1) := by decide +kernel
theorem dX6_ringOf_8 : decode cX6_ringOf 8 = .ok (.imul, 1) := by decide +kernel
theorem dX6_ringOf_9 : decode cX6_ringOf 9 = .ok (.ishr, 1) := by decide +kernel
theorem dX6_ringOf_10 : decode cX6_ringOf 10 = .ok (.bipush 15, 2) := by decide +kernel
theorem dX6_ringOf_12 : decode cX6_ringOf 12 = .ok (.iand, 1) := by decide +kernel
theorem dX6_ringOf_13 : decode cX6_ringOf 13 = .ok (.istore_n 3, 1) := by decide +kernel
theorem dX6_ringOf_14 : decode cX6_ringOf 14 = .ok (.iload_n 3, 1) := by decide +kernel
theorem dX6_ringOf_15 : decode cX6_ringOf 15 = .ok (.ifCond .ne 8, 3) := by decide +kernel
theorem dX6_ringOf_18 : decode cX6_ringOf 18 = .ok (.bipush (-2), 2) := by decide +kernel
theorem dX6_ringOf_20 : decode cX6_ringOf 20 = .ok (.goto 6, 3) := by decide +kernel
theorem dX6_ringOf_23 : decode cX6_ringOf 23 = .ok (.iload_n 3, 1) := by decide +kernel
theorem dX6_ringOf_24 : decode cX6_ringOf 24 = .ok (.iconst 1, 1) := by decide +kernel
theorem dX6_ringOf_25 : decode cX6_ringOf 25 = .ok (.isub, 1) := by decide +kernel
theorem dX6_ringOf_26 : decode cX6_ringOf 26 = .ok (.ireturn, 1) := by decide +kernel
theorem dX6_burntOf_0 : decode cX6_burntOf 0 = .ok (.aload_n 0, 1) := by decide +kernel
theorem dX6_burntOf_1 : decode cX6_burntOf 1 = .ok (.getfield 15, 3) := by decide +kernel
theorem dX6_burntOf_4 : decode cX6_burntOf 4 = .ok (.aload_n 0, 1) := by decide +kernel
theorem dX6_burntOf_5 : decode cX6_burntOf 5 = .ok (.getfield 11, 3) := by decide +kernel
theorem dX6_burntOf_8 : decode cX6_burntOf 8 = .ok (.iload_n 1, 1) := by decide +kernel
theorem dX6_burntOf_9 : decode cX6_burntOf 9 = .ok (.iaload, 1) := by decide +kernel
theorem dX6_burntOf_10 : decode cX6_burntOf 10 = .ok (.bipush 16, 2) := by decide +kernel
theorem dX6_burntOf_12 : decode cX6_burntOf 12 = .ok (.ishr, 1) := by decide +kernel
theorem dX6_burntOf_13 : decode cX6_burntOf 13 = .ok (.bipush 60, 2) := by decide +kernel
theorem dX6_burntOf_15 : decode cX6_burntOf 15 = .ok (.invokevirtual 75, 3) := by decide +kernel
theorem dX6_burntOf_18 : decode cX6_burntOf 18 = .ok (.invokestatic 79, 3) := by decide +kernel
theorem dX6_burntOf_21 : decode cX6_burntOf 21 = .ok (.ireturn, 1) := by decide +kernel
theorem dX7_init_0 : decode cX7_init 0 = .ok (.aload_n 0, 1) := by decide +kernel
theorem dX7_init_1 : decode cX7_init 1 = .ok (.invokespecial 1, 3) := by decide +kernel
theorem dX7_init_4 : decode cX7_init 4 = .ok (.aload_n 0, 1) := by decide +kernel
theorem dX7_init_5 : decode cX7_init 5 = .ok (.new 7, 3) := by decide +kernel
theorem dX7_init_8 : decode cX7_init 8 = .ok (.dup, 1) := by decide +kernel
theorem dX7_init_9 : decode cX7_init 9 = .ok (.invokespecial 9, 3) := by decide +kernel
theorem dX7_init_12 : decode cX7_init 12 = .ok (.putfield 10, 3) := by decide +kernel
theorem dX7_init_15 : decode cX7_init 15 = .ok (.aload_n 0, 1) := by decide +kernel
theorem dX7_init_16 : decode cX7_init 16 = .ok (.new 7, 3) := by decide +kernel
theorem dX7_init_19 : decode cX7_init 19 = .ok (.dup, 1) := by decide +kernel
theorem dX7_init_20 : decode cX7_init 20 = .ok (.invokespecial 9, 3) := by decide +kernel
theorem dX7_init_23 : decode cX7_init 23 = .ok (.putfield 16, 3) := by decide +kernel
theorem dX7_init_26 : decode cX7_init 26 = .ok (.aload_n 0, 1) := by decide +kernel
theorem dX7_init_27 : decode cX7_init 27 = .ok (.new 19, 3) := by decide +kernel
theorem dX7_init_30 : decode cX7_init 30 = .ok (.dup, 1) := by decide +kernel
theorem dX7_init_31 : decode cX7_init 31 = .ok (.invokespecial 21, 3) := by decide +kernel
theorem dX7_init_34 : decode cX7_init 34 = .ok (.putfield 22, 3) := by decide +kernel
theorem dX7_init_37 : decode cX7_init 37 = .ok (.aload_n 0, 1) := by decide +kernel
theorem dX7_init_38 : decode cX7_init 38 = .ok (.new 26, 3) := by decide +kernel
theorem dX7_init_41 : decode cX7_init 41 = .ok (.dup, 1) := by decide +kernel
theorem dX7_init_42 : decode cX7_init 42 = .ok (.aload_n 0, 1) := by decide +kernel
theorem dX7_init_43 : decode cX7_init 43 = .ok (.getfield 22, 3) := by decide +kernel
theorem dX7_init_46 : decode cX7_init 46 = .ok (.aload_n 0, 1) := by decide +kernel
theorem dX7_init_47 : decode cX7_init 47 = .ok (.getfield 16, 3) := by decide +kernel
theorem dX7_init_50 : decode cX7_init 50 = .ok (.invokespecial 28, 3) := by decide +kernel
theorem dX7_init_53 : decode cX7_init 53 = .ok (.putfield 31, 3) := by decide +kernel
theorem dX7_init_56 : decode cX7_init 56 = .ok (.aload_n 0, 1) := by decide +kernel
theorem dX7_init_57 : decode cX7_init 57 = .ok (.new 35, 3) := by decide +kernel
theorem dX7_init_60 : decode cX7_init 60 = .ok (.dup, 1) := by decide +kernel
theorem dX7_init_61 : decode cX7_init 61 = .ok (.invokespecial 37, 3) := by decide +kernel
theorem dX7_init_64 : decode cX7_init 64 = .ok (.putfield 38, 3) := by decide +kernel
theorem dX7_init_67 : decode cX7_init 67 = .ok (.aload_n 0, 1) := by decide +kernel
theorem dX7_init_68 : decode cX7_init 68 = .ok (.new 42, 3) := by decide +kernel
theorem dX7_init_71 : decode cX7_init 71 = .ok (.dup, 1) := by decide +kernel
theorem dX7_init_72 : decode cX7_init 72 = .ok (.aload_n 0, 1) := by decide +kernel
theorem dX7_init_73 : decode cX7_init 73 = .ok (.getfield 10, 3) := by decide +kernel
theorem dX7_init_76 : decode cX7_init 76 = .ok (.invokespecial 44, 3) := by decide +kernel
theorem dX7_init_79 : decode cX7_init 79 = .ok (.putfield 47, 3) := by decide +kernel
theorem dX7_init_82 : decode cX7_init 82 = .ok (.aload_n 0, 1) := by decide +kernel
theorem dX7_init_83 : decode cX7_init 83 = .ok (.new 51, 3) := by decide +kernel
theorem dX7_init_86 : decode cX7_init 86 = .ok (.dup, 1) := by decide +kernel
theorem dX7_init_87 : decode cX7_init 87 = .ok (.aload_n 0, 1) := by decide +kernel
theorem dX7_init_88 : decode cX7_init 88 = .ok (.getfield 47, 3) := by decide +kernel
theorem dX7_init_91 : decode cX7_init 91 = .ok (.invokespecial 53, 3) := by decide +kernel
theorem dX7_init_94 : decode cX7_init 94 = .ok (.putfield 56, 3) := by decide +kernel
theorem dX7_init_97 : decode cX7_init 97 = .ok (.aload_n 0, 1) := by decide +kernel
theorem dX7_init_98 : decode cX7_init 98 = .ok (.new 60, 3) := by decide +kernel
theorem dX7_init_101 : decode cX7_init 101 = .ok (.dup, 1) := by decide +kernel
theorem dX7_init_102 : decode cX7_init 102 = .ok (.aload_n 0, 1) := by decide +kernel
theorem dX7_init_103 : decode cX7_init 103 = .ok (.getfield 47, 3) := by decide +kernel
theorem dX7_init_106 : decode cX7_init 106 = .ok (.invokespecial 62, 3) := by decide +kernel
theorem dX7_init_109 : decode cX7_init 109 = .ok (.putfield 63, 3) := by decide +kernel
theorem dX7_init_112 : decode cX7_init 112 = .ok (.return_, 1) := by decide +kernel
theorem dX7_feed_0 : decode cX7_feed 0 = .ok (.aload_n 0, 1) := by decide +kernel
theorem dX7_feed_1 : decode cX7_feed 1 = .ok (.getfield 22, 3) := by decide +kernel
theorem dX7_feed_4 : decode cX7_feed 4 = .ok (.getfield 67, 3) := by decide +kernel
theorem dX7_feed_7 : decode cX7_feed 7 = .ok (.sipush 880, 3) := by decide +kernel
theorem dX7_feed_10 : decode cX7_feed 10 = .ok (.if_icmp .le 5, 3) := by decide +kernel
theorem dX7_feed_13 : decode cX7_feed 13 = .ok (.iconst (-1), 1) := by decide +kernel
theorem dX7_feed_14 : decode cX7_feed 14 = .ok (.ireturn, 1) := by decide +kernel
theorem dX7_feed_15 : decode cX7_feed 15 = .ok (.aload_n 0, 1) := by decide +kernel
theorem dX7_feed_16 : decode cX7_feed 16 = .ok (.getfield 22, 3) := by decide +kernel
theorem dX7_feed_19 : decode cX7_feed 19 = .ok (.iload_n 1, 1) := by decide +kernel
theorem dX7_feed_20 : decode cX7_feed 20 = .ok (.invokevirtual 71, 3) := by decide +kernel
theorem dX7_feed_23 : decode cX7_feed 23 = .ok (.aload_n 0, 1) := by decide +kernel
theorem dX7_feed_24 : decode cX7_feed 24 = .ok (.getfield 22, 3) := by decide +kernel
theorem dX7_feed_27 : decode cX7_feed 27 = .ok (.iload_n 2, 1) := by decide +kernel
theorem dX7_feed_28 : decode cX7_feed 28 = .ok (.invokevirtual 71, 3) := by decide +kernel
theorem dX7_feed_31 : decode cX7_feed 31 = .ok (.aload_n 0, 1) := by decide +kernel
theorem dX7_feed_32 : decode cX7_feed 32 = .ok (.getfield 22, 3) := by decide +kernel
theorem dX7_feed_35 : decode cX7_feed 35 = .ok (.iload_n 3, 1) := by decide +kernel
theorem dX7_feed_36 : decode cX7_feed 36 = .ok (.invokevirtual 71, 3) := by decide +kernel
theorem dX7_feed_39 : decode cX7_feed 39 = .ok (.aload_n 0, 1) := by decide +kernel
theorem dX7_feed_40 : decode cX7_feed 40 = .ok (.getfield 22, 3) := by decide +kernel
theorem dX7_feed_43 : decode cX7_feed 43 = .ok (.iload 4, 2) := by decide +kernel
theorem dX7_feed_45 : decode cX7_feed 45 = .ok (.invokevirtual 71, 3) := by decide +kernel
theorem dX7_feed_48 : decode cX7_feed 48 = .ok (.aload_n 0, 1) := by decide +kernel
theorem dX7_feed_49 : decode cX7_feed 49 = .ok (.getfield 22, 3) := by decide +kernel
theorem dX7_feed_52 : decode cX7_feed 52 = .ok (.iload 5, 2) := by decide +kernel
theorem dX7_feed_54 : decode cX7_feed 54 = .ok (.invokevirtual 71, 3) := by decide +kernel
theorem dX7_feed_57 : decode cX7_feed 57 = .ok (.aload_n 0, 1) := by decide +kernel
theorem dX7_feed_58 : decode cX7_feed 58 = .ok (.getfield 22, 3) := by decide +kernel
theorem dX7_feed_61 : decode cX7_feed 61 = .ok (.getfield 67, 3) := by decide +kernel
theorem dX7_feed_64 : decode cX7_feed 64 = .ok (.ireturn, 1) := by decide +kernel
theorem dX7_street_0 : decode cX7_street 0 = .ok (.aload_n 0, 1) := by decide +kernel
theorem dX7_street_1 : decode cX7_street 1 = .ok (.iload_n 1, 1) := by decide +kernel
theorem dX7_street_2 : decode cX7_street 2 = .ok (.iconst 0, 1) := by decide +kernel
theorem dX7_street_3 : decode cX7_street 3 = .ok (.aload_n 0, 1) := by decide +kernel
theorem dX7_street_4 : decode cX7_street 4 = .ok (.getfield 22, 3) := by decide +kernel
theorem dX7_street_7 : decode cX7_street 7 = .ok (.getfield 67, 3) := by decide +kernel
theorem dX7_street_10 : decode cX7_street 10 = .ok (.invokevirtual 75, 3) := by decide +kernel
theorem dX7_street_13 : decode cX7_street 13 = .ok (.ifCond .eq 5, 3) := by decide +kernel
theorem dX7_street_16 : decode cX7_street 16 = .ok (.iconst (-1), 1) := by decide +kernel
theorem dX7_street_17 : decode cX7_street 17 = .ok (.ireturn, 1) := by decide +kernel
theorem dX7_street_18 : decode cX7_street 18 = .ok (.aload_n 0, 1) := by decide +kernel
theorem dX7_street_19 : decode cX7_street 19 = .ok (.getfield 31, 3) := by decide +kernel
theorem dX7_street_22 : decode cX7_street 22 = .ok (.aload_n 0, 1) := by decide +kernel
theorem dX7_street_23 : decode cX7_street 23 = .ok (.getfield 16, 3) := by decide +kernel
theorem dX7_street_26 : decode cX7_street 26 = .ok (.iload_n 1, 1) := by decide +kernel
theorem dX7_street_27 : decode cX7_street 27 = .ok (.invokevirtual 79, 3) := by decide +kernel
theorem dX7_street_30 : decode cX7_street 30 = .ok (.istore_n 2, 1) := by decide +kernel
theorem dX7_street_31 : decode cX7_street 31 = .ok (.aload_n 0, 1) := by decide +kernel
theorem dX7_street_32 : decode cX7_street 32 = .ok (.getfield 22, 3) := by decide +kernel
theorem dX7_street_35 : decode cX7_street 35 = .ok (.iconst 0, 1) := by decide +kernel
theorem dX7_street_36 : decode cX7_street 36 = .ok (.putfield 67, 3) := by decide +kernel
theorem dX7_street_39 : decode cX7_street 39 = .ok (.aload_n 0, 1) := by decide +kernel
theorem dX7_street_40 : decode cX7_street 40 = .ok (.aload_n 0, 1) := by decide +kernel
theorem dX7_street_41 : decode cX7_street 41 = .ok (.getfield 31, 3) := by decide +kernel
theorem dX7_street_44 : decode cX7_street 44 = .ok (.getfield 83, 3) := by decide +kernel
theorem dX7_street_47 : decode cX7_street 47 = .ok (.putfield 86, 3) := by decide +kernel
theorem dX7_street_50 : decode cX7_street 50 = .ok (.iload_n 2, 1) := by decide +kernel
theorem dX7_street_51 : decode cX7_street 51 = .ok (.ifCond .ne 9, 3) := by decide +kernel
theorem dX7_street_54 : decode cX7_street 54 = .ok (.aload_n 0, 1) := by decide +kernel
theorem dX7_street_55 : decode cX7_street 55 = .ok (.iconst 4, 1) := by decide +kernel
theorem dX7_street_56 : decode cX7_street 56 = .ok (.invokevirtual 87, 3) := by decide +kernel
theorem dX7_street_59 : decode cX7_street 59 = .ok (.ireturn, 1) := by decide +kernel
theorem dX7_street_60 : decode cX7_street 60 = .ok (.aload_n 0, 1) := by decide +kernel
theorem dX7_street_61 : decode cX7_street 61 = .ok (.getfield 16, 3) := by decide +kernel
theorem dX7_street_64 : decode cX7_street 64 = .ok (.astore_n 3, 1) := by decide +kernel
theorem dX7_street_65 : decode cX7_street 65 = .ok (.aload_n 0, 1) := by decide +kernel
theorem dX7_street_66 : decode cX7_street 66 = .ok (.aload_n 0, 1) := by decide +kernel
theorem dX7_street_67 : decode cX7_street 67 = .ok (.getfield 10, 3) := by decide +kernel
theorem dX7_street_70 : decode cX7_street 70 = .ok (.putfield 16, 3) := by decide +kernel
theorem dX7_street_73 : decode cX7_street 73 = .ok (.aload_n 0, 1) := by decide +kernel
theorem dX7_street_74 : decode cX7_street 74 = .ok (.aload_n 3, 1) := by decide +kernel
theorem dX7_street_75 : decode cX7_street 75 = .ok (.putfield 10, 3) := by decide +kernel
theorem dX7_street_78 : decode cX7_street 78 = .ok (.aload_n 0, 1) := by decide +kernel
theorem dX7_street_79 : decode cX7_street 79 = .ok (.getfield 47, 3) := by decide +kernel
theorem dX7_street_82 : decode cX7_street 82 = .ok (.aload_n 0, 1) := by decide +kernel
theorem dX7_street_83 : decode cX7_street 83 = .ok (.getfield 10, 3) := by decide +kernel
theorem dX7_street_86 : decode cX7_street 86 = .ok (.invokevirtual 91, 3) := by decide +kernel
theorem dX7_street_89 : decode cX7_street 89 = .ok (.aload_n 0, 1) := by decide +kernel
theorem dX7_street_90 : decode cX7_street 90 = .ok (.getfield 38, 3) := by decide +kernel
theorem dX7_street_93 : decode cX7_street 93 = .ok (.aload_n 0, 1) := by decide +kernel
theorem dX7_street_94 : decode cX7_street 94 = .ok (.getfield 10, 3) := by decide +kernel
theorem dX7_street_97 : decode cX7_street 97 = .ok (.getfield 94, 3) := by decide +kernel
theorem dX7_street_100 : decode cX7_street 100 = .ok (.invokevirtual 97, 3) := by decide +kernel
theorem dX7_street_103 : decode cX7_street 103 = .ok (.aload_n 0, 1) := by decide +kernel
theorem dX7_street_104 : decode cX7_street 104 = .ok (.getfield 56, 3) := by decide +kernel
theorem dX7_street_107 : decode cX7_street 107 = .ok (.iconst 0, 1) := by decide +kernel
theorem dX7_street_108 : decode cX7_street 108 = .ok (.putfield 99, 3) := by decide +kernel
theorem dX7_street_111 : decode cX7_street 111 = .ok (.aload_n 0, 1) := by decide +kernel
theorem dX7_street_112 : decode cX7_street 112 = .ok (.getfield 63, 3) := by decide +kernel
theorem dX7_street_115 : decode cX7_street 115 = .ok (.iconst 0, 1) := by decide +kernel
theorem dX7_street_116 : decode cX7_street 116 = .ok (.putfield 103, 3) := by decide +kernel
theorem dX7_street_119 : decode cX7_street 119 = .ok (.aload_n 0, 1) := by decide +kernel
theorem dX7_street_120 : decode cX7_street 120 = .ok (.getfield 10, 3) := by decide +kernel
theorem dX7_street_123 : decode cX7_street 123 = .ok (.getfield 104, 3) := by decide +kernel
theorem dX7_street_126 : decode cX7_street 126 = .ok (.ireturn, 1) := by decide +kernel
theorem dX7_fault_0 : decode cX7_fault 0 = .ok (.aload_n 0, 1) := by decide +kernel
theorem dX7_fault_1 : decode cX7_fault 1 = .ok (.getfield 86, 3) := by decide +kernel
theorem dX7_fault_4 : decode cX7_fault 4 = .ok (.ireturn, 1) := by decide +kernel
theorem dX7_where_0 : decode cX7_where 0 = .ok (.aload_n 0, 1) := by decide +kernel
theorem dX7_where_1 : decode cX7_where 1 = .ok (.getfield 107, 3) := by decide +kernel
theorem dX7_where_4 : decode cX7_where 4 = .ok (.iconst 4, 1) := by decide +kernel
theorem dX7_where_5 : decode cX7_where 5 = .ok (.if_icmp .ne 13, 3) := by decide +kernel
theorem dX7_where_8 : decode cX7_where 8 = .ok (.aload_n 0, 1) := by decide +kernel
theorem dX7_where_9 : decode cX7_where 9 = .ok (.getfield 31, 3) := by decide +kernel
theorem dX7_where_12 : decode cX7_where 12 = .ok (.getfield 110, 3) := by decide +kernel
theorem dX7_where_15 : decode cX7_where 15 = .ok (.goto 4, 3) := by decide +kernel
theorem dX7_where_18 : decode cX7_where 18 = .ok (.iconst (-1), 1) := by decide +kernel
theorem dX7_where_19 : decode cX7_where 19 = .ok (.ireturn, 1) := by decide +kernel
theorem dX7_house_0 : decode cX7_house 0 = .ok (.aload_n 0, 1) := by decide +kernel
theorem dX7_house_1 : decode cX7_house 1 = .ok (.iload_n 1, 1) := by decide +kernel
theorem dX7_house_2 : decode cX7_house 2 = .ok (.invokevirtual 113, 3) := by decide +kernel
theorem dX7_house_5 : decode cX7_house 5 = .ok (.ifCond .eq 5, 3) := by decide +kernel
theorem dX7_house_8 : decode cX7_house 8 = .ok (.iconst (-1), 1) := by decide +kernel
theorem dX7_house_9 : decode cX7_house 9 = .ok (.ireturn, 1) := by decide +kernel
theorem dX7_house_10 : decode cX7_house 10 = .ok (.iload_n 2, 1) := by decide +kernel
theorem dX7_house_11 : decode cX7_house 11 = .ok (.tableswitch 107 0 5 #[37, 47, 63, 73, 83, 95], 37) := by decide +kernel
theorem dX7_house_48 : decode cX7_house 48 = .ok (.aload_n 0, 1) := by decide +kernel
theorem dX7_house_49 : decode cX7_house 49 = .ok (.getfield 10, 3) := by decide +kernel
theorem dX7_house_52 : decode cX7_house 52 = .ok (.getfield 117, 3) := by decide +kernel
theorem dX7_house_55 : decode cX7_house 55 = .ok (.iload_n 1, 1) := by decide +kernel
theorem dX7_house_56 : decode cX7_house 56 = .ok (.iaload, 1) := by decide +kernel
theorem dX7_house_57 : decode cX7_house 57 = .ok (.ireturn, 1) := by decide +kernel
theorem dX7_house_58 : decode cX7_house 58 = .ok (.aload_n 0, 1) := by decide +kernel
theorem dX7_house_59 : decode cX7_house 59 = .ok (.getfield 10, 3) := by decide +kernel
theorem dX7_house_62 : decode cX7_house 62 = .ok (.iload_n 1, 1) := by decide +kernel
theorem dX7_house_63 : decode cX7_house 63 = .ok (.aload_n 0, 1) := by decide +kernel
theorem dX7_house_64 : decode cX7_house 64 = .ok (.getfield 38, 3) := by decide +kernel
theorem dX7_house_67 : decode cX7_house 67 = .ok (.getfield 121, 3) := by decide +kernel
theorem dX7_house_70 : decode cX7_house 70 = .ok (.invokevirtual 124, 3) := by decide +kernel
theorem dX7_house_73 : decode cX7_house 73 = .ok (.ireturn, 1) := by decide +kernel
theorem dX7_house_74 : decode cX7_house 74 = .ok (.aload_n 0, 1) := by decide +kernel
theorem dX7_house_75 : decode cX7_house 75 = .ok (.getfield 10, 3) := by decide +kernel
theorem dX7_house_78 : decode cX7_house 78 = .ok (.getfield 128, 3) := by decide +kernel
theorem dX7_house_81 : decode cX7_house 81 = .ok (.iload_n 1, 1) := by decide +kernel
theorem dX7_house_82 : decode cX7_house 82 = .ok (.iaload, 1) := by decide +kernel
theorem dX7_house_83 : decode cX7_house 83 = .ok (.ireturn, 1) := by decide +kernel
theorem dX7_house_84 : decode cX7_house 84 = .ok (.aload_n 0, 1) := by decide +kernel
theorem dX7_house_85 : decode cX7_house 85 = .ok (.getfield 10, 3) := by decide +kernel
theorem dX7_house_88 : decode cX7_house 88 = .ok (.getfield 131, 3) := by decide +kernel
theorem dX7_house_91 : decode cX7_house 91 = .ok (.iload_n 1, 1) := by decide +kernel
theorem dX7_house_92 : decode cX7_house 92 = .ok (.iaload, 1) := by decide +kernel
theorem dX7_house_93 : decode cX7_house 93 = .ok (.ireturn, 1) := by decide +kernel
theorem dX7_house_94 : decode cX7_house 94 = .ok (.aload_n 0, 1) := by decide +kernel
theorem dX7_house_95 : decode cX7_house 95 = .ok (.getfield 38, 3) := by decide +kernel
theorem dX7_house_98 : decode cX7_house 98 = .ok (.getfield 121, 3) := by decide +kernel
theorem dX7_house_101 : decode cX7_house 101 = .ok (.iload_n 1, 1) := by decide +kernel
theorem dX7_house_102 : decode cX7_house 102 = .ok (.ishr, 1) := by decide +kernel
theorem dX7_house_103 : decode cX7_house 103 = .ok (.iconst 1, 1) := by decide +kernel
theorem dX7_house_104 : decode cX7_house 104 = .ok (.iand, 1) := by decide +kernel
theorem dX7_house_105 : decode cX7_house 105 = .ok (.ireturn, 1) := by decide +kernel
theorem dX7_house_106 : decode cX7_house 106 = .ok (.aload_n 0, 1) := by decide +kernel
theorem dX7_house_107 : decode cX7_house 107 = .ok (.getfield 38, 3) := by decide +kernel
theorem dX7_house_110 : decode cX7_house 110 = .ok (.getfield 134, 3) := by decide +kernel
theorem dX7_house_113 : decode cX7_house 113 = .ok (.iload_n 1, 1) := by decide +kernel
theorem dX7_house_114 : decode cX7_house 114 = .ok (.ishr, 1) := by decide +kernel
theorem dX7_house_115 : decode cX7_house 115 = .ok (.iconst 1, 1) := by decide +kernel
theorem dX7_house_116 : decode cX7_house 116 = .ok (.iand, 1) := by decide +kernel
theorem dX7_house_117 : decode cX7_house 117 = .ok (.ireturn, 1) := by decide +kernel
theorem dX7_house_118 : decode cX7_house 118 = .ok (.aload_n 0, 1) := by decide +kernel
theorem dX7_house_119 : decode cX7_house 119 = .ok (.iconst 1, 1) := by decide +kernel
theorem dX7_house_120 : decode cX7_house 120 = .ok (.invokevirtual 87, 3) := by decide +kernel
theorem dX7_house_123 : decode cX7_house 123 = .ok (.ireturn, 1) := by decide +kernel
theorem dX7_spark_0 : decode cX7_spark 0 = .ok (.aload_n 0, 1) := by decide +kernel
theorem dX7_spark_1 : decode cX7_spark 1 = .ok (.iload_n 1, 1) := by decide +kernel
theorem dX7_spark_2 : decode cX7_spark 2 = .ok (.invokevirtual 113, 3) := by decide +kernel
theorem dX7_spark_5 : decode cX7_spark 5 = .ok (.ifCond .ne 11, 3) := by decide +kernel
theorem dX7_spark_8 : decode cX7_spark 8 = .ok (.aload_n 0, 1) := by decide +kernel
theorem dX7_spark_9 : decode cX7_spark 9 = .ok (.iload_n 2, 1) := by decide +kernel
theorem dX7_spark_10 : decode cX7_spark 10 = .ok (.invokevirtual 113, 3) := by decide +kernel
theorem dX7_spark_13 : decode cX7_spark 13 = .ok (.ifCond .eq 5, 3) := by decide +kernel
theorem dX7_spark_16 : decode cX7_spark 16 = .ok (.iconst (-1), 1) := by decide +kernel
theorem dX7_spark_17 : decode cX7_spark 17 = .ok (.ireturn, 1) := by decide +kernel
theorem dX7_spark_18 : decode cX7_spark 18 = .ok (.iload_n 1, 1) := by decide +kernel
theorem dX7_spark_19 : decode cX7_spark 19 = .ok (.iload_n 2, 1) := by decide +kernel
theorem dX7_spark_20 : decode cX7_spark 20 = .ok (.if_icmp .ne 9, 3) := by decide +kernel
theorem dX7_spark_23 : decode cX7_spark 23 = .ok (.aload_n 0, 1) := by decide +kernel
theorem dX7_spark_24 : decode cX7_spark 24 = .ok (.iconst 1, 1) := by decide +kernel
theorem dX7_spark_25 : decode cX7_spark 25 = .ok (.invokevirtual 87, 3) := by decide +kernel
theorem dX7_spark_28 : decode cX7_spark 28 = .ok (.ireturn, 1) := by decide +kernel
theorem dX7_spark_29 : decode cX7_spark 29 = .ok (.aload_n 0, 1) := by decide +kernel
theorem dX7_spark_30 : decode cX7_spark 30 = .ok (.getfield 10, 3) := by decide +kernel
theorem dX7_spark_33 : decode cX7_spark 33 = .ok (.iload_n 1, 1) := by decide +kernel
theorem dX7_spark_34 : decode cX7_spark 34 = .ok (.iload_n 2, 1) := by decide +kernel
theorem dX7_spark_35 : decode cX7_spark 35 = .ok (.aload_n 0, 1) := by decide +kernel
theorem dX7_spark_36 : decode cX7_spark 36 = .ok (.getfield 10, 3) := by decide +kernel
theorem dX7_spark_39 : decode cX7_spark 39 = .ok (.aload_n 0, 1) := by decide +kernel
theorem dX7_spark_40 : decode cX7_spark 40 = .ok (.getfield 38, 3) := by decide +kernel
theorem dX7_spark_43 : decode cX7_spark 43 = .ok (.getfield 121, 3) := by decide +kernel
theorem dX7_spark_46 : decode cX7_spark 46 = .ok (.invokevirtual 135, 3) := by decide +kernel
theorem dX7_spark_49 : decode cX7_spark 49 = .ok (.invokevirtual 138, 3) := by decide +kernel
theorem dX7_spark_52 : decode cX7_spark 52 = .ok (.istore_n 3, 1) := by decide +kernel
theorem dX7_spark_53 : decode cX7_spark 53 = .ok (.iload_n 3, 1) := by decide +kernel
theorem dX7_spark_54 : decode cX7_spark 54 = .ok (.sipush 1000, 3) := by decide +kernel
theorem dX7_spark_57 : decode cX7_spark 57 = .ok (.if_icmp .lt 8, 3) := by decide +kernel
theorem dX7_spark_60 : decode cX7_spark 60 = .ok (.bipush (-2), 2) := by decide +kernel
theorem dX7_spark_62 : decode cX7_spark 62 = .ok (.goto 4, 3) := by decide +kernel
theorem dX7_spark_65 : decode cX7_spark 65 = .ok (.iload_n 3, 1) := by decide +kernel
theorem dX7_spark_66 : decode cX7_spark 66 = .ok (.ireturn, 1) := by decide +kernel
theorem dX7_burns_0 : decode cX7_burns 0 = .ok (.aload_n 0, 1) := by decide +kernel
theorem dX7_burns_1 : decode cX7_burns 1 = .ok (.iload_n 1, 1) := by decide +kernel
theorem dX7_burns_2 : decode cX7_burns 2 = .ok (.invokevirtual 113, 3) := by decide +kernel
theorem dX7_burns_5 : decode cX7_burns 5 = .ok (.ifCond .eq 5, 3) := by decide +kernel
theorem dX7_burns_8 : decode cX7_burns 8 = .ok (.iconst (-1), 1) := by decide +kernel
theorem dX7_burns_9 : decode cX7_burns 9 = .ok (.ireturn, 1) := by decide +kernel
theorem dX7_burns_10 : decode cX7_burns 10 = .ok (.aload_n 0, 1) := by decide +kernel
theorem dX7_burns_11 : decode cX7_burns 11 = .ok (.getfield 47, 3) := by decide +kernel
theorem dX7_burns_14 : decode cX7_burns 14 = .ok (.aload_n 0, 1) := by decide +kernel
theorem dX7_burns_15 : decode cX7_burns 15 = .ok (.getfield 38, 3) := by decide +kernel
theorem dX7_burns_18 : decode cX7_burns 18 = .ok (.getfield 121, 3) := by decide +kernel
theorem dX7_burns_21 : decode cX7_burns 21 = .ok (.iload_n 1, 1) := by decide +kernel
theorem dX7_burns_22 : decode cX7_burns 22 = .ok (.invokevirtual 142, 3) := by decide +kernel
theorem dX7_burns_25 : decode cX7_burns 25 = .ok (.invokestatic 145, 3) := by decide +kernel
theorem dX7_burns_28 : decode cX7_burns 28 = .ok (.ireturn, 1) := by decide +kernel
theorem dX7_litBy_0 : decode cX7_litBy 0 = .ok (.aload_n 0, 1) := by decide +kernel
theorem dX7_litBy_1 : decode cX7_litBy 1 = .ok (.iload_n 1, 1) := by decide +kernel
theorem dX7_litBy_2 : decode cX7_litBy 2 = .ok (.invokevirtual 113, 3) := by decide +kernel
theorem dX7_litBy_5 : decode cX7_litBy 5 = .ok (.ifCond .eq 5, 3) := by decide +kernel
theorem dX7_litBy_8 : decode cX7_litBy 8 = .ok (.iconst (-1), 1) := by decide +kernel
theorem dX7_litBy_9 : decode cX7_litBy 9 = .ok (.ireturn, 1) := by decide +kernel
theorem dX7_litBy_10 : decode cX7_litBy 10 = .ok (.aload_n 0, 1) := by decide +kernel
theorem dX7_litBy_11 : decode cX7_litBy 11 = .ok (.getfield 47, 3) := by decide +kernel
theorem dX7_litBy_14 : decode cX7_litBy 14 = .ok (.aload_n 0, 1) := by decide +kernel
theorem dX7_litBy_15 : decode cX7_litBy 15 = .ok (.getfield 38, 3) := by decide +kernel
theorem dX7_litBy_18 : decode cX7_litBy 18 = .ok (.getfield 121, 3) := by decide +kernel
theorem dX7_litBy_21 : decode cX7_litBy 21 = .ok (.iload_n 1, 1) := by decide +kernel
theorem dX7_litBy_22 : decode cX7_litBy 22 = .ok (.invokevirtual 148, 3) := by decide +kernel
theorem dX7_litBy_25 : decode cX7_litBy 25 = .ok (.ireturn, 1) := by decide +kernel
theorem dX7_burnt_0 : decode cX7_burnt 0 = .ok (.aload_n 0, 1) := by decide +kernel
theorem dX7_burnt_1 : decode cX7_burnt 1 = .ok (.invokevirtual 151, 3) := by decide +kernel
theorem dX7_burnt_4 : decode cX7_burnt 4 = .ok (.ifCond .ne 14, 3) := by decide +kernel
theorem dX7_burnt_7 : decode cX7_burnt 7 = .ok (.aload_n 0, 1) := by decide +kernel
theorem dX7_burnt_8 : decode cX7_burnt 8 = .ok (.iload_n 1, 1) := by decide +kernel
theorem dX7_burnt_9 : decode cX7_burnt 9 = .ok (.iconst 0, 1) := by decide +kernel
theorem dX7_burnt_10 : decode cX7_burnt 10 = .ok (.bipush 90, 2) := by decide +kernel
theorem dX7_burnt_12 : decode cX7_burnt 12 = .ok (.invokevirtual 75, 3) := by decide +kernel
theorem dX7_burnt_15 : decode cX7_burnt 15 = .ok (.ifCond .eq 5, 3) := by decide +kernel
theorem dX7_burnt_18 : decode cX7_burnt 18 = .ok (.iconst (-1), 1) := by decide +kernel
theorem dX7_burnt_19 : decode cX7_burnt 19 = .ok (.ireturn, 1) := by decide +kernel
theorem dX7_burnt_20 : decode cX7_burnt 20 = .ok (.aload_n 0, 1) := by decide +kernel
theorem dX7_burnt_21 : decode cX7_burnt 21 = .ok (.getfield 47, 3) := by decide +kernel
theorem dX7_burnt_24 : decode cX7_burnt 24 = .ok (.aload_n 0, 1) := by decide +kernel
theorem dX7_burnt_25 : decode cX7_burnt 25 = .ok (.getfield 38, 3) := by decide +kernel
theorem dX7_burnt_28 : decode cX7_burnt 28 = .ok (.getfield 121, 3) := by decide +kernel
theorem dX7_burnt_31 : decode cX7_burnt 31 = .ok (.iload_n 1, 1) := by decide +kernel
theorem dX7_burnt_32 : decode cX7_burnt 32 = .ok (.invokevirtual 155, 3) := by decide +kernel
theorem dX7_burnt_35 : decode cX7_burnt 35 = .ok (.ireturn, 1) := by decide +kernel
theorem dX7_lastDay_0 : decode cX7_lastDay 0 = .ok (.aload_n 0, 1) := by decide +kernel
theorem dX7_lastDay_1 : decode cX7_lastDay 1 = .ok (.invokevirtual 151, 3) := by decide +kernel
theorem dX7_lastDay_4 : decode cX7_lastDay 4 = .ok (.ifCond .eq 5, 3) := by decide +kernel
theorem dX7_lastDay_7 : decode cX7_lastDay 7 = .ok (.iconst (-1), 1) := by decide +kernel
theorem dX7_lastDay_8 : decode cX7_lastDay 8 = .ok (.ireturn, 1) := by decide +kernel
theorem dX7_lastDay_9 : decode cX7_lastDay 9 = .ok (.bipush (-2), 2) := by decide +kernel
theorem dX7_lastDay_11 : decode cX7_lastDay 11 = .ok (.istore_n 1, 1) := by decide +kernel
theorem dX7_lastDay_12 : decode cX7_lastDay 12 = .ok (.iconst 0, 1) := by decide +kernel
theorem dX7_lastDay_13 : decode cX7_lastDay 13 = .ok (.istore_n 2, 1) := by decide +kernel
theorem dX7_lastDay_14 : decode cX7_lastDay 14 = .ok (.iload_n 2, 1) := by decide +kernel
theorem dX7_lastDay_15 : decode cX7_lastDay 15 = .ok (.aload_n 0, 1) := by decide +kernel
theorem dX7_lastDay_16 : decode cX7_lastDay 16 = .ok (.getfield 10, 3) := by decide +kernel
theorem dX7_lastDay_19 : decode cX7_lastDay 19 = .ok (.getfield 104, 3) := by decide +kernel
theorem dX7_lastDay_22 : decode cX7_lastDay 22 = .ok (.if_icmp .ge 32, 3) := by decide +kernel
theorem dX7_lastDay_25 : decode cX7_lastDay 25 = .ok (.iload_n 1, 1) := by decide +kernel
theorem dX7_lastDay_26 : decode cX7_lastDay 26 = .ok (.aload_n 0, 1) := by decide +kernel
theorem dX7_lastDay_27 : decode cX7_lastDay 27 = .ok (.getfield 47, 3) := by decide +kernel
theorem dX7_lastDay_30 : decode cX7_lastDay 30 = .ok (.aload_n 0, 1) := by decide +kernel
theorem dX7_lastDay_31 : decode cX7_lastDay 31 = .ok (.getfield 38, 3) := by decide +kernel
theorem dX7_lastDay_34 : decode cX7_lastDay 34 = .ok (.getfield 121, 3) := by decide +kernel
theorem dX7_lastDay_37 : decode cX7_lastDay 37 = .ok (.iload_n 2, 1) := by decide +kernel
theorem dX7_lastDay_38 : decode cX7_lastDay 38 = .ok (.invokevirtual 142, 3) := by decide +kernel
theorem dX7_lastDay_41 : decode cX7_lastDay 41 = .ok (.invokestatic 145, 3) := by decide +kernel
theorem dX7_lastDay_44 : decode cX7_lastDay 44 = .ok (.invokestatic 158, 3) := by decide +kernel
theorem dX7_lastDay_47 : decode cX7_lastDay 47 = .ok (.istore_n 1, 1) := by decide +kernel
theorem dX7_lastDay_48 : decode cX7_lastDay 48 = .ok (.iinc 2 1, 3) := by decide +kernel
theorem dX7_lastDay_51 : decode cX7_lastDay 51 = .ok (.goto (-37), 3) := by decide +kernel
theorem dX7_lastDay_54 : decode cX7_lastDay 54 = .ok (.iload_n 1, 1) := by decide +kernel
theorem dX7_lastDay_55 : decode cX7_lastDay 55 = .ok (.ireturn, 1) := by decide +kernel
theorem dX7_next_0 : decode cX7_next 0 = .ok (.aload_n 0, 1) := by decide +kernel
theorem dX7_next_1 : decode cX7_next 1 = .ok (.invokevirtual 151, 3) := by decide +kernel
theorem dX7_next_4 : decode cX7_next 4 = .ok (.ifCond .ne 14, 3) := by decide +kernel
theorem dX7_next_7 : decode cX7_next 7 = .ok (.aload_n 0, 1) := by decide +kernel
theorem dX7_next_8 : decode cX7_next 8 = .ok (.iload_n 1, 1) := by decide +kernel
theorem dX7_next_9 : decode cX7_next 9 = .ok (.iconst 0, 1) := by decide +kernel
theorem dX7_next_10 : decode cX7_next 10 = .ok (.bipush 90, 2) := by decide +kernel
theorem dX7_next_12 : decode cX7_next 12 = .ok (.invokevirtual 75, 3) := by decide +kernel
theorem dX7_next_15 : decode cX7_next 15 = .ok (.ifCond .eq 5, 3) := by decide +kernel
theorem dX7_next_18 : decode cX7_next 18 = .ok (.iconst (-1), 1) := by decide +kernel
theorem dX7_next_19 : decode cX7_next 19 = .ok (.ireturn, 1) := by decide +kernel
theorem dX7_next_20 : decode cX7_next 20 = .ok (.aload_n 0, 1) := by decide +kernel
theorem dX7_next_21 : decode cX7_next 21 = .ok (.getfield 47, 3) := by decide +kernel
theorem dX7_next_24 : decode cX7_next 24 = .ok (.aload_n 0, 1) := by decide +kernel
theorem dX7_next_25 : decode cX7_next 25 = .ok (.getfield 38, 3) := by decide +kernel
theorem dX7_next_28 : decode cX7_next 28 = .ok (.getfield 121, 3) := by decide +kernel
theorem dX7_next_31 : decode cX7_next 31 = .ok (.aload_n 0, 1) := by decide +kernel
theorem dX7_next_32 : decode cX7_next 32 = .ok (.getfield 38, 3) := by decide +kernel
theorem dX7_next_35 : decode cX7_next 35 = .ok (.getfield 134, 3) := by decide +kernel
theorem dX7_next_38 : decode cX7_next 38 = .ok (.iload_n 1, 1) := by decide +kernel
theorem dX7_next_39 : decode cX7_next 39 = .ok (.invokevirtual 163, 3) := by decide +kernel
theorem dX7_next_42 : decode cX7_next 42 = .ok (.ireturn, 1) := by decide +kernel
theorem dX7_agrees_0 : decode cX7_agrees 0 = .ok (.aload_n 0, 1) := by decide +kernel
theorem dX7_agrees_1 : decode cX7_agrees 1 = .ok (.invokevirtual 151, 3) := by decide +kernel
theorem dX7_agrees_4 : decode cX7_agrees 4 = .ok (.ifCond .ne 20, 3) := by decide +kernel
theorem dX7_agrees_7 : decode cX7_agrees 7 = .ok (.aload_n 0, 1) := by decide +kernel
theorem dX7_agrees_8 : decode cX7_agrees 8 = .ok (.iload_n 1, 1) := by decide +kernel
theorem dX7_agrees_9 : decode cX7_agrees 9 = .ok (.aload_n 0, 1) := by decide +kernel
theorem dX7_agrees_10 : decode cX7_agrees 10 = .ok (.getfield 38, 3) := by decide +kernel
theorem dX7_agrees_13 : decode cX7_agrees 13 = .ok (.getfield 166, 3) := by decide +kernel
theorem dX7_agrees_16 : decode cX7_agrees 16 = .ok (.bipush 90, 2) := by decide +kernel
theorem dX7_agrees_18 : decode cX7_agrees 18 = .ok (.invokevirtual 75, 3) := by decide +kernel
theorem dX7_agrees_21 : decode cX7_agrees 21 = .ok (.ifCond .eq 5, 3) := by decide +kernel
theorem dX7_agrees_24 : decode cX7_agrees 24 = .ok (.iconst (-1), 1) := by decide +kernel
theorem dX7_agrees_25 : decode cX7_agrees 25 = .ok (.ireturn, 1) := by decide +kernel
theorem dX7_agrees_26 : decode cX7_agrees 26 = .ok (.aload_n 0, 1) := by decide +kernel
theorem dX7_agrees_27 : decode cX7_agrees 27 = .ok (.getfield 47, 3) := by decide +kernel
theorem dX7_agrees_30 : decode cX7_agrees 30 = .ok (.aload_n 0, 1) := by decide +kernel
theorem dX7_agrees_31 : decode cX7_agrees 31 = .ok (.getfield 38, 3) := by decide +kernel
theorem dX7_agrees_34 : decode cX7_agrees 34 = .ok (.getfield 121, 3) := by decide +kernel
theorem dX7_agrees_37 : decode cX7_agrees 37 = .ok (.aload_n 0, 1) := by decide +kernel
theorem dX7_agrees_38 : decode cX7_agrees 38 = .ok (.getfield 38, 3) := by decide +kernel
theorem dX7_agrees_41 : decode cX7_agrees 41 = .ok (.getfield 134, 3) := by decide +kernel
theorem dX7_agrees_44 : decode cX7_agrees 44 = .ok (.iload_n 1, 1) := by decide +kernel
theorem dX7_agrees_45 : decode cX7_agrees 45 = .ok (.invokevirtual 169, 3) := by decide +kernel
theorem dX7_agrees_48 : decode cX7_agrees 48 = .ok (.ireturn, 1) := by decide +kernel
theorem dX7_burnsIf_0 : decode cX7_burnsIf 0 = .ok (.aload_n 0, 1) := by decide +kernel
theorem dX7_burnsIf_1 : decode cX7_burnsIf 1 = .ok (.iload_n 1, 1) := by decide +kernel
theorem dX7_burnsIf_2 : decode cX7_burnsIf 2 = .ok (.invokevirtual 113, 3) := by decide +kernel
theorem dX7_burnsIf_5 : decode cX7_burnsIf 5 = .ok (.ifCond .ne 19, 3) := by decide +kernel
theorem dX7_burnsIf_8 : decode cX7_burnsIf 8 = .ok (.aload_n 0, 1) := by decide +kernel
theorem dX7_burnsIf_9 : decode cX7_burnsIf 9 = .ok (.iload_n 2, 1) := by decide +kernel
theorem dX7_burnsIf_10 : decode cX7_burnsIf 10 = .ok (.invokevirtual 113, 3) := by decide +kernel
theorem dX7_burnsIf_13 : decode cX7_burnsIf 13 = .ok (.ifCond .ne 11, 3) := by decide +kernel
theorem dX7_burnsIf_16 : decode cX7_burnsIf 16 = .ok (.aload_n 0, 1) := by decide +kernel
theorem dX7_burnsIf_17 : decode cX7_burnsIf 17 = .ok (.iload_n 2, 1) := by decide +kernel
theorem dX7_burnsIf_18 : decode cX7_burnsIf 18 = .ok (.invokevirtual 172, 3) := by decide +kernel
theorem dX7_burnsIf_21 : decode cX7_burnsIf 21 = .ok (.ifCond .eq 5, 3) := by decide +kernel
theorem dX7_burnsIf_24 : decode cX7_burnsIf 24 = .ok (.iconst (-1), 1) := by decide +kernel
theorem dX7_burnsIf_25 : decode cX7_burnsIf 25 = .ok (.ireturn, 1) := by decide +kernel
theorem dX7_burnsIf_26 : decode cX7_burnsIf 26 = .ok (.aload_n 0, 1) := by decide +kernel
theorem dX7_burnsIf_27 : decode cX7_burnsIf 27 = .ok (.getfield 47, 3) := by decide +kernel
theorem dX7_burnsIf_30 : decode cX7_burnsIf 30 = .ok (.aload_n 0, 1) := by decide +kernel
theorem dX7_burnsIf_31 : decode cX7_burnsIf 31 = .ok (.getfield 38, 3) := by decide +kernel
theorem dX7_burnsIf_34 : decode cX7_burnsIf 34 = .ok (.getfield 121, 3) := by decide +kernel
theorem dX7_burnsIf_37 : decode cX7_burnsIf 37 = .ok (.iconst 1, 1) := by decide +kernel
theorem dX7_burnsIf_38 : decode cX7_burnsIf 38 = .ok (.iload_n 2, 1) := by decide +kernel
theorem dX7_burnsIf_39 : decode cX7_burnsIf 39 = .ok (.ishl, 1) := by decide +kernel
theorem dX7_burnsIf_40 : decode cX7_burnsIf 40 = .ok (.ior, 1) := by decide +kernel
theorem dX7_burnsIf_41 : decode cX7_burnsIf 41 = .ok (.iload_n 1, 1) := by decide +kernel
theorem dX7_burnsIf_42 : decode cX7_burnsIf 42 = .ok (.invokevirtual 142, 3) := by decide +kernel
theorem dX7_burnsIf_45 : decode cX7_burnsIf 45 = .ok (.invokestatic 145, 3) := by decide +kernel
theorem dX7_burnsIf_48 : decode cX7_burnsIf 48 = .ok (.ireturn, 1) := by decide +kernel
theorem dX7_saves_0 : decode cX7_saves 0 = .ok (.aload_n 0, 1) := by decide +kernel
theorem dX7_saves_1 : decode cX7_saves 1 = .ok (.iload_n 1, 1) := by decide +kernel
theorem dX7_saves_2 : decode cX7_saves 2 = .ok (.invokevirtual 113, 3) := by decide +kernel
theorem dX7_saves_5 : decode cX7_saves 5 = .ok (.ifCond .ne 11, 3) := by decide +kernel
theorem dX7_saves_8 : decode cX7_saves 8 = .ok (.aload_n 0, 1) := by decide +kernel
theorem dX7_saves_9 : decode cX7_saves 9 = .ok (.iload_n 1, 1) := by decide +kernel
theorem dX7_saves_10 : decode cX7_saves 10 = .ok (.invokevirtual 172, 3) := by decide +kernel
theorem dX7_saves_13 : decode cX7_saves 13 = .ok (.ifCond .eq 5, 3) := by decide +kernel
theorem dX7_saves_16 : decode cX7_saves 16 = .ok (.iconst (-1), 1) := by decide +kernel
theorem dX7_saves_17 : decode cX7_saves 17 = .ok (.ireturn, 1) := by decide +kernel
theorem dX7_saves_18 : decode cX7_saves 18 = .ok (.aload_n 0, 1) := by decide +kernel
theorem dX7_saves_19 : decode cX7_saves 19 = .ok (.aload_n 0, 1) := by decide +kernel
theorem dX7_saves_20 : decode cX7_saves 20 = .ok (.getfield 38, 3) := by decide +kernel
theorem dX7_saves_23 : decode cX7_saves 23 = .ok (.getfield 121, 3) := by decide +kernel
theorem dX7_saves_26 : decode cX7_saves 26 = .ok (.invokevirtual 175, 3) := by decide +kernel
theorem dX7_saves_29 : decode cX7_saves 29 = .ok (.aload_n 0, 1) := by decide +kernel
theorem dX7_saves_30 : decode cX7_saves 30 = .ok (.aload_n 0, 1) := by decide +kernel
theorem dX7_saves_31 : decode cX7_saves 31 = .ok (.getfield 38, 3) := by decide +kernel
theorem dX7_saves_34 : decode cX7_saves 34 = .ok (.getfield 121, 3) := by decide +kernel
theorem dX7_saves_37 : decode cX7_saves 37 = .ok (.iconst 1, 1) := by decide +kernel
theorem dX7_saves_38 : decode cX7_saves 38 = .ok (.iload_n 1, 1) := by decide +kernel
theorem dX7_saves_39 : decode cX7_saves 39 = .ok (.ishl, 1) := by decide +kernel
theorem dX7_saves_40 : decode cX7_saves 40 = .ok (.ior, 1) := by decide +kernel
theorem dX7_saves_41 : decode cX7_saves 41 = .ok (.invokevirtual 175, 3) := by decide +kernel
theorem dX7_saves_44 : decode cX7_saves 44 = .ok (.isub, 1) := by decide +kernel
theorem dX7_saves_45 : decode cX7_saves 45 = .ok (.bipush 100, 2) := by decide +kernel
theorem dX7_saves_47 : decode cX7_saves 47 = .ok (.iadd, 1) := by decide +kernel
theorem dX7_saves_48 : decode cX7_saves 48 = .ok (.ireturn, 1) := by decide +kernel
theorem dX7_bestTold_0 : decode cX7_bestTold 0 = .ok (.aload_n 0, 1) := by decide +kernel
theorem dX7_bestTold_1 : decode cX7_bestTold 1 = .ok (.invokevirtual 151, 3) := by decide +kernel
theorem dX7_bestTold_4 : decode cX7_bestTold 4 = .ok (.ifCond .eq 5, 3) := by decide +kernel
theorem dX7_bestTold_7 : decode cX7_bestTold 7 = .ok (.iconst (-1), 1) := by decide +kernel
theorem dX7_bestTold_8 : decode cX7_bestTold 8 = .ok (.ireturn, 1) := by decide +kernel
theorem dX7_bestTold_9 : decode cX7_bestTold 9 = .ok (.bipush (-2), 2) := by decide +kernel
theorem dX7_bestTold_11 : decode cX7_bestTold 11 = .ok (.istore_n 1, 1) := by decide +kernel
theorem dX7_bestTold_12 : decode cX7_bestTold 12 = .ok (.aload_n 0, 1) := by decide +kernel
theorem dX7_bestTold_13 : decode cX7_bestTold 13 = .ok (.aload_n 0, 1) := by decide +kernel
theorem dX7_bestTold_14 : decode cX7_bestTold 14 = .ok (.getfield 38, 3) := by decide +kernel
theorem dX7_bestTold_17 : decode cX7_bestTold 17 = .ok (.getfield 121, 3) := by decide +kernel
theorem dX7_bestTold_20 : decode cX7_bestTold 20 = .ok (.invokevirtual 175, 3) := by decide +kernel
theorem dX7_bestTold_23 : decode cX7_bestTold 23 = .ok (.istore_n 2, 1) := by decide +kernel
theorem dX7_bestTold_24 : decode cX7_bestTold 24 = .ok (.iconst 0, 1) := by decide +kernel
theorem dX7_bestTold_25 : decode cX7_bestTold 25 = .ok (.istore_n 3, 1) := by decide +kernel
theorem dX7_bestTold_26 : decode cX7_bestTold 26 = .ok (.iload_n 3, 1) := by decide +kernel
theorem dX7_bestTold_27 : decode cX7_bestTold 27 = .ok (.aload_n 0, 1) := by decide +kernel
theorem dX7_bestTold_28 : decode cX7_bestTold 28 = .ok (.getfield 10, 3) := by decide +kernel
theorem dX7_bestTold_31 : decode cX7_bestTold 31 = .ok (.getfield 104, 3) := by decide +kernel
theorem dX7_bestTold_34 : decode cX7_bestTold 34 = .ok (.if_icmp .ge 62, 3) := by decide +kernel
theorem dX7_bestTold_37 : decode cX7_bestTold 37 = .ok (.aload_n 0, 1) := by decide +kernel
theorem dX7_bestTold_38 : decode cX7_bestTold 38 = .ok (.getfield 47, 3) := by decide +kernel
theorem dX7_bestTold_41 : decode cX7_bestTold 41 = .ok (.aload_n 0, 1) := by decide +kernel
theorem dX7_bestTold_42 : decode cX7_bestTold 42 = .ok (.getfield 38, 3) := by decide +kernel
theorem dX7_bestTold_45 : decode cX7_bestTold 45 = .ok (.getfield 121, 3) := by decide +kernel
theorem dX7_bestTold_48 : decode cX7_bestTold 48 = .ok (.iload_n 3, 1) := by decide +kernel
theorem dX7_bestTold_49 : decode cX7_bestTold 49 = .ok (.invokevirtual 142, 3) := by decide +kernel
theorem dX7_bestTold_52 : decode cX7_bestTold 52 = .ok (.aload_n 0, 1) := by decide +kernel
theorem dX7_bestTold_53 : decode cX7_bestTold 53 = .ok (.getfield 38, 3) := by decide +kernel
theorem dX7_bestTold_56 : decode cX7_bestTold 56 = .ok (.getfield 166, 3) := by decide +kernel
theorem dX7_bestTold_59 : decode cX7_bestTold 59 = .ok (.if_icmp .le 31, 3) := by decide +kernel
theorem dX7_bestTold_62 : decode cX7_bestTold 62 = .ok (.aload_n 0, 1) := by decide +kernel
theorem dX7_bestTold_63 : decode cX7_bestTold 63 = .ok (.aload_n 0, 1) := by decide +kernel
theorem dX7_bestTold_64 : decode cX7_bestTold 64 = .ok (.getfield 38, 3) := by decide +kernel
theorem dX7_bestTold_67 : decode cX7_bestTold 67 = .ok (.getfield 121, 3) := by decide +kernel
theorem dX7_bestTold_70 : decode cX7_bestTold 70 = .ok (.iconst 1, 1) := by decide +kernel
theorem dX7_bestTold_71 : decode cX7_bestTold 71 = .ok (.iload_n 3, 1) := by decide +kernel
theorem dX7_bestTold_72 : decode cX7_bestTold 72 = .ok (.ishl, 1) := by decide +kernel
theorem dX7_bestTold_73 : decode cX7_bestTold 73 = .ok (.ior, 1) := by decide +kernel
theorem dX7_bestTold_74 : decode cX7_bestTold 74 = .ok (.invokevirtual 175, 3) := by decide +kernel
theorem dX7_bestTold_77 : decode cX7_bestTold 77 = .ok (.istore 4, 2) := by decide +kernel
theorem dX7_bestTold_79 : decode cX7_bestTold 79 = .ok (.iload 4, 2) := by decide +kernel
theorem dX7_bestTold_81 : decode cX7_bestTold 81 = .ok (.iload_n 2, 1) := by decide +kernel
theorem dX7_bestTold_82 : decode cX7_bestTold 82 = .ok (.if_icmp .ge 8, 3) := by decide +kernel
theorem dX7_bestTold_85 : decode cX7_bestTold 85 = .ok (.iload 4, 2) := by decide +kernel
theorem dX7_bestTold_87 : decode cX7_bestTold 87 = .ok (.istore_n 2, 1) := by decide +kernel
theorem dX7_bestTold_88 : decode cX7_bestTold 88 = .ok (.iload_n 3, 1) := by decide +kernel
theorem dX7_bestTold_89 : decode cX7_bestTold 89 = .ok (.istore_n 1, 1) := by decide +kernel
theorem dX7_bestTold_90 : decode cX7_bestTold 90 = .ok (.iinc 3 1, 3) := by decide +kernel
theorem dX7_bestTold_93 : decode cX7_bestTold 93 = .ok (.goto (-67), 3) := by decide +kernel
theorem dX7_bestTold_96 : decode cX7_bestTold 96 = .ok (.iload_n 1, 1) := by decide +kernel
theorem dX7_bestTold_97 : decode cX7_bestTold 97 = .ok (.ireturn, 1) := by decide +kernel
theorem dX7_dumbDay_0 : decode cX7_dumbDay 0 = .ok (.aload_n 0, 1) := by decide +kernel
theorem dX7_dumbDay_1 : decode cX7_dumbDay 1 = .ok (.invokevirtual 151, 3) := by decide +kernel
theorem dX7_dumbDay_4 : decode cX7_dumbDay 4 = .ok (.ifCond .eq 5, 3) := by decide +kernel
theorem dX7_dumbDay_7 : decode cX7_dumbDay 7 = .ok (.iconst (-1), 1) := by decide +kernel
theorem dX7_dumbDay_8 : decode cX7_dumbDay 8 = .ok (.ireturn, 1) := by decide +kernel
theorem dX7_dumbDay_9 : decode cX7_dumbDay 9 = .ok (.aload_n 0, 1) := by decide +kernel
theorem dX7_dumbDay_10 : decode cX7_dumbDay 10 = .ok (.getfield 38, 3) := by decide +kernel
theorem dX7_dumbDay_13 : decode cX7_dumbDay 13 = .ok (.getfield 166, 3) := by decide +kernel
theorem dX7_dumbDay_16 : decode cX7_dumbDay 16 = .ok (.istore_n 1, 1) := by decide +kernel
theorem dX7_dumbDay_17 : decode cX7_dumbDay 17 = .ok (.iload_n 1, 1) := by decide +kernel
theorem dX7_dumbDay_18 : decode cX7_dumbDay 18 = .ok (.bipush 90, 2) := by decide +kernel
theorem dX7_dumbDay_20 : decode cX7_dumbDay 20 = .ok (.if_icmp .gt 63, 3) := by decide +kernel
theorem dX7_dumbDay_23 : decode cX7_dumbDay 23 = .ok (.aload_n 0, 1) := by decide +kernel
theorem dX7_dumbDay_24 : decode cX7_dumbDay 24 = .ok (.getfield 47, 3) := by decide +kernel
theorem dX7_dumbDay_27 : decode cX7_dumbDay 27 = .ok (.aload_n 0, 1) := by decide +kernel
theorem dX7_dumbDay_28 : decode cX7_dumbDay 28 = .ok (.getfield 38, 3) := by decide +kernel
theorem dX7_dumbDay_31 : decode cX7_dumbDay 31 = .ok (.getfield 121, 3) := by decide +kernel
theorem dX7_dumbDay_34 : decode cX7_dumbDay 34 = .ok (.aload_n 0, 1) := by decide +kernel
theorem dX7_dumbDay_35 : decode cX7_dumbDay 35 = .ok (.getfield 38, 3) := by decide +kernel
theorem dX7_dumbDay_38 : decode cX7_dumbDay 38 = .ok (.getfield 134, 3) := by decide +kernel
theorem dX7_dumbDay_41 : decode cX7_dumbDay 41 = .ok (.iload_n 1, 1) := by decide +kernel
theorem dX7_dumbDay_42 : decode cX7_dumbDay 42 = .ok (.invokevirtual 163, 3) := by decide +kernel
theorem dX7_dumbDay_45 : decode cX7_dumbDay 45 = .ok (.bipush (-2), 2) := by decide +kernel
theorem dX7_dumbDay_47 : decode cX7_dumbDay 47 = .ok (.if_icmp .eq 30, 3) := by decide +kernel
theorem dX7_dumbDay_50 : decode cX7_dumbDay 50 = .ok (.aload_n 0, 1) := by decide +kernel
theorem dX7_dumbDay_51 : decode cX7_dumbDay 51 = .ok (.getfield 47, 3) := by decide +kernel
theorem dX7_dumbDay_54 : decode cX7_dumbDay 54 = .ok (.aload_n 0, 1) := by decide +kernel
theorem dX7_dumbDay_55 : decode cX7_dumbDay 55 = .ok (.getfield 38, 3) := by decide +kernel
theorem dX7_dumbDay_58 : decode cX7_dumbDay 58 = .ok (.getfield 121, 3) := by decide +kernel
theorem dX7_dumbDay_61 : decode cX7_dumbDay 61 = .ok (.aload_n 0, 1) := by decide +kernel
theorem dX7_dumbDay_62 : decode cX7_dumbDay 62 = .ok (.getfield 38, 3) := by decide +kernel
theorem dX7_dumbDay_65 : decode cX7_dumbDay 65 = .ok (.getfield 134, 3) := by decide +kernel
theorem dX7_dumbDay_68 : decode cX7_dumbDay 68 = .ok (.iload_n 1, 1) := by decide +kernel
theorem dX7_dumbDay_69 : decode cX7_dumbDay 69 = .ok (.invokevirtual 169, 3) := by decide +kernel
theorem dX7_dumbDay_72 : decode cX7_dumbDay 72 = .ok (.ifCond .ne 5, 3) := by decide +kernel
theorem dX7_dumbDay_75 : decode cX7_dumbDay 75 = .ok (.iload_n 1, 1) := by decide +kernel
theorem dX7_dumbDay_76 : decode cX7_dumbDay 76 = .ok (.ireturn, 1) := by decide +kernel
theorem dX7_dumbDay_77 : decode cX7_dumbDay 77 = .ok (.iinc 1 1, 3) := by decide +kernel
theorem dX7_dumbDay_80 : decode cX7_dumbDay 80 = .ok (.goto (-63), 3) := by decide +kernel
theorem dX7_dumbDay_83 : decode cX7_dumbDay 83 = .ok (.bipush (-2), 2) := by decide +kernel
theorem dX7_dumbDay_85 : decode cX7_dumbDay 85 = .ok (.ireturn, 1) := by decide +kernel
theorem dX7_ways_0 : decode cX7_ways 0 = .ok (.aload_n 0, 1) := by decide +kernel
theorem dX7_ways_1 : decode cX7_ways 1 = .ok (.invokevirtual 151, 3) := by decide +kernel
theorem dX7_ways_4 : decode cX7_ways 4 = .ok (.ifCond .eq 5, 3) := by decide +kernel
theorem dX7_ways_7 : decode cX7_ways 7 = .ok (.iconst (-1), 1) := by decide +kernel
theorem dX7_ways_8 : decode cX7_ways 8 = .ok (.ireturn, 1) := by decide +kernel
theorem dX7_ways_9 : decode cX7_ways 9 = .ok (.aload_n 0, 1) := by decide +kernel
theorem dX7_ways_10 : decode cX7_ways 10 = .ok (.getfield 56, 3) := by decide +kernel
theorem dX7_ways_13 : decode cX7_ways 13 = .ok (.aload_n 0, 1) := by decide +kernel
theorem dX7_ways_14 : decode cX7_ways 14 = .ok (.getfield 38, 3) := by decide +kernel
theorem dX7_ways_17 : decode cX7_ways 17 = .ok (.invokevirtual 178, 3) := by decide +kernel
theorem dX7_ways_20 : decode cX7_ways 20 = .ok (.aload_n 0, 1) := by decide +kernel
theorem dX7_ways_21 : decode cX7_ways 21 = .ok (.getfield 56, 3) := by decide +kernel
theorem dX7_ways_24 : decode cX7_ways 24 = .ok (.getfield 182, 3) := by decide +kernel
theorem dX7_ways_27 : decode cX7_ways 27 = .ok (.ireturn, 1) := by decide +kernel
theorem dX7_wayAt_0 : decode cX7_wayAt 0 = .ok (.aload_n 0, 1) := by decide +kernel
theorem dX7_wayAt_1 : decode cX7_wayAt 1 = .ok (.iload_n 1, 1) := by decide +kernel
theorem dX7_wayAt_2 : decode cX7_wayAt 2 = .ok (.invokevirtual 185, 3) := by decide +kernel
theorem dX7_wayAt_5 : decode cX7_wayAt 5 = .ok (.ifCond .eq 5, 3) := by decide +kernel
theorem dX7_wayAt_8 : decode cX7_wayAt 8 = .ok (.iconst (-1), 1) := by decide +kernel
theorem dX7_wayAt_9 : decode cX7_wayAt 9 = .ok (.ireturn, 1) := by decide +kernel
theorem dX7_wayAt_10 : decode cX7_wayAt 10 = .ok (.iload_n 2, 1) := by decide +kernel
theorem dX7_wayAt_11 : decode cX7_wayAt 11 = .ok (.ifCond .lt 14, 3) := by decide +kernel
theorem dX7_wayAt_14 : decode cX7_wayAt 14 = .ok (.iload_n 2, 1) := by decide +kernel
theorem dX7_wayAt_15 : decode cX7_wayAt 15 = .ok (.aload_n 0, 1) := by decide +kernel
theorem dX7_wayAt_16 : decode cX7_wayAt 16 = .ok (.getfield 56, 3) := by decide +kernel
theorem dX7_wayAt_19 : decode cX7_wayAt 19 = .ok (.getfield 188, 3) := by decide +kernel
theorem dX7_wayAt_22 : decode cX7_wayAt 22 = .ok (.if_icmp .lt 9, 3) := by decide +kernel
theorem dX7_wayAt_25 : decode cX7_wayAt 25 = .ok (.aload_n 0, 1) := by decide +kernel
theorem dX7_wayAt_26 : decode cX7_wayAt 26 = .ok (.iconst 1, 1) := by decide +kernel
theorem dX7_wayAt_27 : decode cX7_wayAt 27 = .ok (.invokevirtual 87, 3) := by decide +kernel
theorem dX7_wayAt_30 : decode cX7_wayAt 30 = .ok (.ireturn, 1) := by decide +kernel
theorem dX7_wayAt_31 : decode cX7_wayAt 31 = .ok (.aload_n 0, 1) := by decide +kernel
theorem dX7_wayAt_32 : decode cX7_wayAt 32 = .ok (.getfield 56, 3) := by decide +kernel
theorem dX7_wayAt_35 : decode cX7_wayAt 35 = .ok (.iload_n 1, 1) := by decide +kernel
theorem dX7_wayAt_36 : decode cX7_wayAt 36 = .ok (.iload_n 2, 1) := by decide +kernel
theorem dX7_wayAt_37 : decode cX7_wayAt 37 = .ok (.invokevirtual 191, 3) := by decide +kernel
theorem dX7_wayAt_40 : decode cX7_wayAt 40 = .ok (.ireturn, 1) := by decide +kernel
theorem dX7_bestWay_0 : decode cX7_bestWay 0 = .ok (.aload_n 0, 1) := by decide +kernel
theorem dX7_bestWay_1 : decode cX7_bestWay 1 = .ok (.invokevirtual 151, 3) := by decide +kernel
theorem dX7_bestWay_4 : decode cX7_bestWay 4 = .ok (.ifCond .eq 5, 3) := by decide +kernel
theorem dX7_bestWay_7 : decode cX7_bestWay 7 = .ok (.iconst (-1), 1) := by decide +kernel
theorem dX7_bestWay_8 : decode cX7_bestWay 8 = .ok (.ireturn, 1) := by decide +kernel
theorem dX7_bestWay_9 : decode cX7_bestWay 9 = .ok (.aload_n 0, 1) := by decide +kernel
theorem dX7_bestWay_10 : decode cX7_bestWay 10 = .ok (.getfield 56, 3) := by decide +kernel
theorem dX7_bestWay_13 : decode cX7_bestWay 13 = .ok (.aload_n 0, 1) := by decide +kernel
theorem dX7_bestWay_14 : decode cX7_bestWay 14 = .ok (.getfield 38, 3) := by decide +kernel
theorem dX7_bestWay_17 : decode cX7_bestWay 17 = .ok (.invokevirtual 178, 3) := by decide +kernel
theorem dX7_bestWay_20 : decode cX7_bestWay 20 = .ok (.iconst 0, 1) := by decide +kernel
theorem dX7_bestWay_21 : decode cX7_bestWay 21 = .ok (.istore_n 1, 1) := by decide +kernel
theorem dX7_bestWay_22 : decode cX7_bestWay 22 = .ok (.iconst 1, 1) := by decide +kernel
theorem dX7_bestWay_23 : decode cX7_bestWay 23 = .ok (.istore_n 2, 1) := by decide +kernel
theorem dX7_bestWay_24 : decode cX7_bestWay 24 = .ok (.iload_n 2, 1) := by decide +kernel
theorem dX7_bestWay_25 : decode cX7_bestWay 25 = .ok (.aload_n 0, 1) := by decide +kernel
theorem dX7_bestWay_26 : decode cX7_bestWay 26 = .ok (.getfield 56, 3) := by decide +kernel
theorem dX7_bestWay_29 : decode cX7_bestWay 29 = .ok (.getfield 182, 3) := by decide +kernel
theorem dX7_bestWay_32 : decode cX7_bestWay 32 = .ok (.if_icmp .ge 30, 3) := by decide +kernel
theorem dX7_bestWay_35 : decode cX7_bestWay 35 = .ok (.aload_n 0, 1) := by decide +kernel
theorem dX7_bestWay_36 : decode cX7_bestWay 36 = .ok (.getfield 56, 3) := by decide +kernel
theorem dX7_bestWay_39 : decode cX7_bestWay 39 = .ok (.iload_n 2, 1) := by decide +kernel
theorem dX7_bestWay_40 : decode cX7_bestWay 40 = .ok (.invokevirtual 194, 3) := by decide +kernel
theorem dX7_bestWay_43 : decode cX7_bestWay 43 = .ok (.aload_n 0, 1) := by decide +kernel
theorem dX7_bestWay_44 : decode cX7_bestWay 44 = .ok (.getfield 56, 3) := by decide +kernel
theorem dX7_bestWay_47 : decode cX7_bestWay 47 = .ok (.iload_n 1, 1) := by decide +kernel
theorem dX7_bestWay_48 : decode cX7_bestWay 48 = .ok (.invokevirtual 194, 3) := by decide +kernel
theorem dX7_bestWay_51 : decode cX7_bestWay 51 = .ok (.if_icmp .ge 5, 3) := by decide +kernel
theorem dX7_bestWay_54 : decode cX7_bestWay 54 = .ok (.iload_n 2, 1) := by decide +kernel
theorem dX7_bestWay_55 : decode cX7_bestWay 55 = .ok (.istore_n 1, 1) := by decide +kernel
theorem dX7_bestWay_56 : decode cX7_bestWay 56 = .ok (.iinc 2 1, 3) := by decide +kernel
theorem dX7_bestWay_59 : decode cX7_bestWay 59 = .ok (.goto (-35), 3) := by decide +kernel
theorem dX7_bestWay_62 : decode cX7_bestWay 62 = .ok (.iload_n 1, 1) := by decide +kernel
theorem dX7_bestWay_63 : decode cX7_bestWay 63 = .ok (.ireturn, 1) := by decide +kernel
theorem dX7_wayBurnt_0 : decode cX7_wayBurnt 0 = .ok (.aload_n 0, 1) := by decide +kernel
theorem dX7_wayBurnt_1 : decode cX7_wayBurnt 1 = .ok (.iload_n 1, 1) := by decide +kernel
theorem dX7_wayBurnt_2 : decode cX7_wayBurnt 2 = .ok (.invokevirtual 185, 3) := by decide +kernel
theorem dX7_wayBurnt_5 : decode cX7_wayBurnt 5 = .ok (.ifCond .eq 5, 3) := by decide +kernel
theorem dX7_wayBurnt_8 : decode cX7_wayBurnt 8 = .ok (.iconst (-1), 1) := by decide +kernel
theorem dX7_wayBurnt_9 : decode cX7_wayBurnt 9 = .ok (.ireturn, 1) := by decide +kernel
theorem dX7_wayBurnt_10 : decode cX7_wayBurnt 10 = .ok (.aload_n 0, 1) := by decide +kernel
theorem dX7_wayBurnt_11 : decode cX7_wayBurnt 11 = .ok (.getfield 56, 3) := by decide +kernel
theorem dX7_wayBurnt_14 : decode cX7_wayBurnt 14 = .ok (.iload_n 1, 1) := by decide +kernel
theorem dX7_wayBurnt_15 : decode cX7_wayBurnt 15 = .ok (.invokevirtual 194, 3) := by decide +kernel
theorem dX7_wayBurnt_18 : decode cX7_wayBurnt 18 = .ok (.ireturn, 1) := by decide +kernel
theorem dX7_couldRing_0 : decode cX7_couldRing 0 = .ok (.aload_n 0, 1) := by decide +kernel
theorem dX7_couldRing_1 : decode cX7_couldRing 1 = .ok (.invokevirtual 151, 3) := by decide +kernel
theorem dX7_couldRing_4 : decode cX7_couldRing 4 = .ok (.ifCond .eq 5, 3) := by decide +kernel
theorem dX7_couldRing_7 : decode cX7_couldRing 7 = .ok (.iconst (-1), 1) := by decide +kernel
theorem dX7_couldRing_8 : decode cX7_couldRing 8 = .ok (.ireturn, 1) := by decide +kernel
theorem dX7_couldRing_9 : decode cX7_couldRing 9 = .ok (.aload_n 0, 1) := by decide +kernel
theorem dX7_couldRing_10 : decode cX7_couldRing 10 = .ok (.getfield 56, 3) := by decide +kernel
theorem dX7_couldRing_13 : decode cX7_couldRing 13 = .ok (.aload_n 0, 1) := by decide +kernel
theorem dX7_couldRing_14 : decode cX7_couldRing 14 = .ok (.getfield 38, 3) := by decide +kernel
theorem dX7_couldRing_17 : decode cX7_couldRing 17 = .ok (.invokevirtual 178, 3) := by decide +kernel
theorem dX7_couldRing_20 : decode cX7_couldRing 20 = .ok (.aload_n 0, 1) := by decide +kernel
theorem dX7_couldRing_21 : decode cX7_couldRing 21 = .ok (.getfield 56, 3) := by decide +kernel
theorem dX7_couldRing_24 : decode cX7_couldRing 24 = .ok (.getfield 197, 3) := by decide +kernel
theorem dX7_couldRing_27 : decode cX7_couldRing 27 = .ok (.ireturn, 1) := by decide +kernel
theorem dX7_safe_0 : decode cX7_safe 0 = .ok (.aload_n 0, 1) := by decide +kernel
theorem dX7_safe_1 : decode cX7_safe 1 = .ok (.invokevirtual 151, 3) := by decide +kernel
theorem dX7_safe_4 : decode cX7_safe 4 = .ok (.ifCond .ne 14, 3) := by decide +kernel
theorem dX7_safe_7 : decode cX7_safe 7 = .ok (.aload_n 0, 1) := by decide +kernel
theorem dX7_safe_8 : decode cX7_safe 8 = .ok (.iload_n 1, 1) := by decide +kernel
theorem dX7_safe_9 : decode cX7_safe 9 = .ok (.iconst 0, 1) := by decide +kernel
theorem dX7_safe_10 : decode cX7_safe 10 = .ok (.bipush 90, 2) := by decide +kernel
theorem dX7_safe_12 : decode cX7_safe 12 = .ok (.invokevirtual 75, 3) := by decide +kernel
theorem dX7_safe_15 : decode cX7_safe 15 = .ok (.ifCond .eq 5, 3) := by decide +kernel
theorem dX7_safe_18 : decode cX7_safe 18 = .ok (.iconst (-1), 1) := by decide +kernel
theorem dX7_safe_19 : decode cX7_safe 19 = .ok (.ireturn, 1) := by decide +kernel
theorem dX7_safe_20 : decode cX7_safe 20 = .ok (.aload_n 0, 1) := by decide +kernel
theorem dX7_safe_21 : decode cX7_safe 21 = .ok (.getfield 47, 3) := by decide +kernel
theorem dX7_safe_24 : decode cX7_safe 24 = .ok (.aload_n 0, 1) := by decide +kernel
theorem dX7_safe_25 : decode cX7_safe 25 = .ok (.getfield 38, 3) := by decide +kernel
theorem dX7_safe_28 : decode cX7_safe 28 = .ok (.getfield 121, 3) := by decide +kernel
theorem dX7_safe_31 : decode cX7_safe 31 = .ok (.aload_n 0, 1) := by decide +kernel
theorem dX7_safe_32 : decode cX7_safe 32 = .ok (.getfield 38, 3) := by decide +kernel
theorem dX7_safe_35 : decode cX7_safe 35 = .ok (.getfield 166, 3) := by decide +kernel
theorem dX7_safe_38 : decode cX7_safe 38 = .ok (.invokevirtual 155, 3) := by decide +kernel
theorem dX7_safe_41 : decode cX7_safe 41 = .ok (.istore_n 2, 1) := by decide +kernel
theorem dX7_safe_42 : decode cX7_safe 42 = .ok (.bipush (-2), 2) := by decide +kernel
theorem dX7_safe_44 : decode cX7_safe 44 = .ok (.istore_n 3, 1) := by decide +kernel
theorem dX7_safe_45 : decode cX7_safe 45 = .ok (.bipush 7, 2) := by decide +kernel
theorem dX7_safe_47 : decode cX7_safe 47 = .ok (.istore 4, 2) := by decide +kernel
theorem dX7_safe_49 : decode cX7_safe 49 = .ok (.iconst 0, 1) := by decide +kernel
theorem dX7_safe_50 : decode cX7_safe 50 = .ok (.istore 5, 2) := by decide +kernel
theorem dX7_safe_52 : decode cX7_safe 52 = .ok (.iload 5, 2) := by decide +kernel
theorem dX7_safe_54 : decode cX7_safe 54 = .ok (.iconst 1, 1) := by decide +kernel
theorem dX7_safe_55 : decode cX7_safe 55 = .ok (.aload_n 0, 1) := by decide +kernel
theorem dX7_safe_56 : decode cX7_safe 56 = .ok (.getfield 10, 3) := by decide +kernel
theorem dX7_safe_59 : decode cX7_safe 59 = .ok (.getfield 104, 3) := by decide +kernel
theorem dX7_safe_62 : decode cX7_safe 62 = .ok (.ishl, 1) := by decide +kernel
theorem dX7_safe_63 : decode cX7_safe 63 = .ok (.if_icmp .ge 61, 3) := by decide +kernel
theorem dX7_safe_66 : decode cX7_safe 66 = .ok (.iload 5, 2) := by decide +kernel
theorem dX7_safe_68 : decode cX7_safe 68 = .ok (.iload_n 2, 1) := by decide +kernel
theorem dX7_safe_69 : decode cX7_safe 69 = .ok (.iand, 1) := by decide +kernel
theorem dX7_safe_70 : decode cX7_safe 70 = .ok (.ifCond .ne 48, 3) := by decide +kernel
theorem dX7_safe_73 : decode cX7_safe 73 = .ok (.iload 5, 2) := by decide +kernel
theorem dX7_safe_75 : decode cX7_safe 75 = .ok (.invokestatic 200, 3) := by decide +kernel
theorem dX7_safe_78 : decode cX7_safe 78 = .ok (.iload 4, 2) := by decide +kernel
theorem dX7_safe_80 : decode cX7_safe 80 = .ok (.if_icmp .ge 38, 3) := by decide +kernel
theorem dX7_safe_83 : decode cX7_safe 83 = .ok (.aload_n 0, 1) := by decide +kernel
theorem dX7_safe_84 : decode cX7_safe 84 = .ok (.getfield 47, 3) := by decide +kernel
theorem dX7_safe_87 : decode cX7_safe 87 = .ok (.aload_n 0, 1) := by decide +kernel
theorem dX7_safe_88 : decode cX7_safe 88 = .ok (.getfield 38, 3) := by decide +kernel
theorem dX7_safe_91 : decode cX7_safe 91 = .ok (.getfield 121, 3) := by decide +kernel
theorem dX7_safe_94 : decode cX7_safe 94 = .ok (.iload 5, 2) := by decide +kernel
theorem dX7_safe_96 : decode cX7_safe 96 = .ok (.ior, 1) := by decide +kernel
theorem dX7_safe_97 : decode cX7_safe 97 = .ok (.iload_n 1, 1) := by decide +kernel
theorem dX7_safe_98 : decode cX7_safe 98 = .ok (.invokevirtual 155, 3) := by decide +kernel
theorem dX7_safe_101 : decode cX7_safe 101 = .ok (.iload_n 2, 1) := by decide +kernel
theorem dX7_safe_102 : decode cX7_safe 102 = .ok (.iconst (-1), 1) := by decide +kernel
theorem dX7_safe_103 : decode cX7_safe 103 = .ok (.ixor, 1) := by decide +kernel
theorem dX7_safe_104 : decode cX7_safe 104 = .ok (.iand, 1) := by decide +kernel
theorem dX7_safe_105 : decode cX7_safe 105 = .ok (.ifCond .ne 13, 3) := by decide +kernel
theorem dX7_safe_108 : decode cX7_safe 108 = .ok (.iload 5, 2) := by decide +kernel
theorem dX7_safe_110 : decode cX7_safe 110 = .ok (.invokestatic 200, 3) := by decide +kernel
theorem dX7_safe_113 : decode cX7_safe 113 = .ok (.istore 4, 2) := by decide +kernel
theorem dX7_safe_115 : decode cX7_safe 115 = .ok (.iload 5, 2) := by decide +kernel
theorem dX7_safe_117 : decode cX7_safe 117 = .ok (.istore_n 3, 1) := by decide +kernel
theorem dX7_safe_118 : decode cX7_safe 118 = .ok (.iinc 5 1, 3) := by decide +kernel
theorem dX7_safe_121 : decode cX7_safe 121 = .ok (.goto (-69), 3) := by decide +kernel
theorem dX7_safe_124 : decode cX7_safe 124 = .ok (.iload_n 3, 1) := by decide +kernel
theorem dX7_safe_125 : decode cX7_safe 125 = .ok (.ireturn, 1) := by decide +kernel
theorem dX7_bestCut_0 : decode cX7_bestCut 0 = .ok (.aload_n 0, 1) := by decide +kernel
theorem dX7_bestCut_1 : decode cX7_bestCut 1 = .ok (.invokevirtual 151, 3) := by decide +kernel
theorem dX7_bestCut_4 : decode cX7_bestCut 4 = .ok (.ifCond .eq 5, 3) := by decide +kernel
theorem dX7_bestCut_7 : decode cX7_bestCut 7 = .ok (.iconst (-1), 1) := by decide +kernel
theorem dX7_bestCut_8 : decode cX7_bestCut 8 = .ok (.ireturn, 1) := by decide +kernel
theorem dX7_bestCut_9 : decode cX7_bestCut 9 = .ok (.bipush (-2), 2) := by decide +kernel
theorem dX7_bestCut_11 : decode cX7_bestCut 11 = .ok (.istore_n 1, 1) := by decide +kernel
theorem dX7_bestCut_12 : decode cX7_bestCut 12 = .ok (.aload_n 0, 1) := by decide +kernel
theorem dX7_bestCut_13 : decode cX7_bestCut 13 = .ok (.aload_n 0, 1) := by decide +kernel
theorem dX7_bestCut_14 : decode cX7_bestCut 14 = .ok (.getfield 38, 3) := by decide +kernel
theorem dX7_bestCut_17 : decode cX7_bestCut 17 = .ok (.getfield 121, 3) := by decide +kernel
theorem dX7_bestCut_20 : decode cX7_bestCut 20 = .ok (.invokevirtual 175, 3) := by decide +kernel
theorem dX7_bestCut_23 : decode cX7_bestCut 23 = .ok (.istore_n 2, 1) := by decide +kernel
theorem dX7_bestCut_24 : decode cX7_bestCut 24 = .ok (.iconst 0, 1) := by decide +kernel
theorem dX7_bestCut_25 : decode cX7_bestCut 25 = .ok (.istore_n 3, 1) := by decide +kernel
theorem dX7_bestCut_26 : decode cX7_bestCut 26 = .ok (.iload_n 3, 1) := by decide +kernel
theorem dX7_bestCut_27 : decode cX7_bestCut 27 = .ok (.aload_n 0, 1) := by decide +kernel
theorem dX7_bestCut_28 : decode cX7_bestCut 28 = .ok (.getfield 10, 3) := by decide +kernel
theorem dX7_bestCut_31 : decode cX7_bestCut 31 = .ok (.getfield 205, 3) := by decide +kernel
theorem dX7_bestCut_34 : decode cX7_bestCut 34 = .ok (.if_icmp .ge 37, 3) := by decide +kernel
theorem dX7_bestCut_37 : decode cX7_bestCut 37 = .ok (.aload_n 0, 1) := by decide +kernel
theorem dX7_bestCut_38 : decode cX7_bestCut 38 = .ok (.getfield 47, 3) := by decide +kernel
theorem dX7_bestCut_41 : decode cX7_bestCut 41 = .ok (.aload_n 0, 1) := by decide +kernel
theorem dX7_bestCut_42 : decode cX7_bestCut 42 = .ok (.getfield 38, 3) := by decide +kernel
theorem dX7_bestCut_45 : decode cX7_bestCut 45 = .ok (.getfield 121, 3) := by decide +kernel
theorem dX7_bestCut_48 : decode cX7_bestCut 48 = .ok (.iload_n 3, 1) := by decide +kernel
theorem dX7_bestCut_49 : decode cX7_bestCut 49 = .ok (.invokevirtual 208, 3) := by decide +kernel
theorem dX7_bestCut_52 : decode cX7_bestCut 52 = .ok (.istore 4, 2) := by decide +kernel
theorem dX7_bestCut_54 : decode cX7_bestCut 54 = .ok (.iload 4, 2) := by decide +kernel
theorem dX7_bestCut_56 : decode cX7_bestCut 56 = .ok (.iload_n 2, 1) := by decide +kernel
theorem dX7_bestCut_57 : decode cX7_bestCut 57 = .ok (.if_icmp .ge 8, 3) := by decide +kernel
theorem dX7_bestCut_60 : decode cX7_bestCut 60 = .ok (.iload 4, 2) := by decide +kernel
theorem dX7_bestCut_62 : decode cX7_bestCut 62 = .ok (.istore_n 2, 1) := by decide +kernel
theorem dX7_bestCut_63 : decode cX7_bestCut 63 = .ok (.iload_n 3, 1) := by decide +kernel
theorem dX7_bestCut_64 : decode cX7_bestCut 64 = .ok (.istore_n 1, 1) := by decide +kernel
theorem dX7_bestCut_65 : decode cX7_bestCut 65 = .ok (.iinc 3 1, 3) := by decide +kernel
theorem dX7_bestCut_68 : decode cX7_bestCut 68 = .ok (.goto (-42), 3) := by decide +kernel
theorem dX7_bestCut_71 : decode cX7_bestCut 71 = .ok (.iload_n 1, 1) := by decide +kernel
theorem dX7_bestCut_72 : decode cX7_bestCut 72 = .ok (.ireturn, 1) := by decide +kernel
theorem dX7_fits_0 : decode cX7_fits 0 = .ok (.aload_n 0, 1) := by decide +kernel
theorem dX7_fits_1 : decode cX7_fits 1 = .ok (.invokevirtual 151, 3) := by decide +kernel
theorem dX7_fits_4 : decode cX7_fits 4 = .ok (.ifCond .eq 5, 3) := by decide +kernel
theorem dX7_fits_7 : decode cX7_fits 7 = .ok (.iconst (-1), 1) := by decide +kernel
theorem dX7_fits_8 : decode cX7_fits 8 = .ok (.ireturn, 1) := by decide +kernel
theorem dX7_fits_9 : decode cX7_fits 9 = .ok (.aload_n 0, 1) := by decide +kernel
theorem dX7_fits_10 : decode cX7_fits 10 = .ok (.getfield 63, 3) := by decide +kernel
theorem dX7_fits_13 : decode cX7_fits 13 = .ok (.invokevirtual 211, 3) := by decide +kernel
theorem dX7_fits_16 : decode cX7_fits 16 = .ok (.aload_n 0, 1) := by decide +kernel
theorem dX7_fits_17 : decode cX7_fits 17 = .ok (.getfield 63, 3) := by decide +kernel
theorem dX7_fits_20 : decode cX7_fits 20 = .ok (.getfield 213, 3) := by decide +kernel
theorem dX7_fits_23 : decode cX7_fits 23 = .ok (.ireturn, 1) := by decide +kernel
theorem dX7_fitAt_0 : decode cX7_fitAt 0 = .ok (.aload_n 0, 1) := by decide +kernel
theorem dX7_fitAt_1 : decode cX7_fitAt 1 = .ok (.invokevirtual 151, 3) := by decide +kernel
theorem dX7_fitAt_4 : decode cX7_fitAt 4 = .ok (.ifCond .eq 5, 3) := by decide +kernel
theorem dX7_fitAt_7 : decode cX7_fitAt 7 = .ok (.iconst (-1), 1) := by decide +kernel
theorem dX7_fitAt_8 : decode cX7_fitAt 8 = .ok (.ireturn, 1) := by decide +kernel
theorem dX7_fitAt_9 : decode cX7_fitAt 9 = .ok (.aload_n 0, 1) := by decide +kernel
theorem dX7_fitAt_10 : decode cX7_fitAt 10 = .ok (.getfield 63, 3) := by decide +kernel
theorem dX7_fitAt_13 : decode cX7_fitAt 13 = .ok (.invokevirtual 211, 3) := by decide +kernel
theorem dX7_fitAt_16 : decode cX7_fitAt 16 = .ok (.iload_n 1, 1) := by decide +kernel
theorem dX7_fitAt_17 : decode cX7_fitAt 17 = .ok (.ifCond .lt 29, 3) := by decide +kernel
theorem dX7_fitAt_20 : decode cX7_fitAt 20 = .ok (.iload_n 1, 1) := by decide +kernel
theorem dX7_fitAt_21 : decode cX7_fitAt 21 = .ok (.aload_n 0, 1) := by decide +kernel
theorem dX7_fitAt_22 : decode cX7_fitAt 22 = .ok (.getfield 63, 3) := by decide +kernel
theorem dX7_fitAt_25 : decode cX7_fitAt 25 = .ok (.getfield 213, 3) := by decide +kernel
theorem dX7_fitAt_28 : decode cX7_fitAt 28 = .ok (.if_icmp .ge 18, 3) := by decide +kernel
theorem dX7_fitAt_31 : decode cX7_fitAt 31 = .ok (.iload_n 2, 1) := by decide +kernel
theorem dX7_fitAt_32 : decode cX7_fitAt 32 = .ok (.ifCond .lt 14, 3) := by decide +kernel
theorem dX7_fitAt_35 : decode cX7_fitAt 35 = .ok (.iload_n 2, 1) := by decide +kernel
theorem dX7_fitAt_36 : decode cX7_fitAt 36 = .ok (.aload_n 0, 1) := by decide +kernel
theorem dX7_fitAt_37 : decode cX7_fitAt 37 = .ok (.getfield 10, 3) := by decide +kernel
theorem dX7_fitAt_40 : decode cX7_fitAt 40 = .ok (.getfield 214, 3) := by decide +kernel
theorem dX7_fitAt_43 : decode cX7_fitAt 43 = .ok (.if_icmp .lt 9, 3) := by decide +kernel
theorem dX7_fitAt_46 : decode cX7_fitAt 46 = .ok (.aload_n 0, 1) := by decide +kernel
theorem dX7_fitAt_47 : decode cX7_fitAt 47 = .ok (.iconst 1, 1) := by decide +kernel
theorem dX7_fitAt_48 : decode cX7_fitAt 48 = .ok (.invokevirtual 87, 3) := by decide +kernel
theorem dX7_fitAt_51 : decode cX7_fitAt 51 = .ok (.ireturn, 1) := by decide +kernel
theorem dX7_fitAt_52 : decode cX7_fitAt 52 = .ok (.aload_n 0, 1) := by decide +kernel
theorem dX7_fitAt_53 : decode cX7_fitAt 53 = .ok (.getfield 63, 3) := by decide +kernel
theorem dX7_fitAt_56 : decode cX7_fitAt 56 = .ok (.aload_n 0, 1) := by decide +kernel
theorem dX7_fitAt_57 : decode cX7_fitAt 57 = .ok (.getfield 63, 3) := by decide +kernel
theorem dX7_fitAt_60 : decode cX7_fitAt 60 = .ok (.getfield 217, 3) := by decide +kernel
theorem dX7_fitAt_63 : decode cX7_fitAt 63 = .ok (.iload_n 1, 1) := by decide +kernel
theorem dX7_fitAt_64 : decode cX7_fitAt 64 = .ok (.iaload, 1) := by decide +kernel
theorem dX7_fitAt_65 : decode cX7_fitAt 65 = .ok (.iload_n 2, 1) := by decide +kernel
theorem dX7_fitAt_66 : decode cX7_fitAt 66 = .ok (.invokevirtual 220, 3) := by decide +kernel
theorem dX7_fitAt_69 : decode cX7_fitAt 69 = .ok (.ireturn, 1) := by decide +kernel
theorem dX7_nextBy_0 : decode cX7_nextBy 0 = .ok (.aload_n 0, 1) := by decide +kernel
theorem dX7_nextBy_1 : decode cX7_nextBy 1 = .ok (.iload_n 1, 1) := by decide +kernel
theorem dX7_nextBy_2 : decode cX7_nextBy 2 = .ok (.invokevirtual 113, 3) := by decide +kernel
theorem dX7_nextBy_5 : decode cX7_nextBy 5 = .ok (.ifCond .ne 14, 3) := by decide +kernel
theorem dX7_nextBy_8 : decode cX7_nextBy 8 = .ok (.aload_n 0, 1) := by decide +kernel
theorem dX7_nextBy_9 : decode cX7_nextBy 9 = .ok (.iload_n 2, 1) := by decide +kernel
theorem dX7_nextBy_10 : decode cX7_nextBy 10 = .ok (.iconst 0, 1) := by decide +kernel
theorem dX7_nextBy_11 : decode cX7_nextBy 11 = .ok (.bipush 90, 2) := by decide +kernel
theorem dX7_nextBy_13 : decode cX7_nextBy 13 = .ok (.invokevirtual 75, 3) := by decide +kernel
theorem dX7_nextBy_16 : decode cX7_nextBy 16 = .ok (.ifCond .eq 5, 3) := by decide +kernel
theorem dX7_nextBy_19 : decode cX7_nextBy 19 = .ok (.iconst (-1), 1) := by decide +kernel
theorem dX7_nextBy_20 : decode cX7_nextBy 20 = .ok (.ireturn, 1) := by decide +kernel
theorem dX7_nextBy_21 : decode cX7_nextBy 21 = .ok (.aload_n 0, 1) := by decide +kernel
theorem dX7_nextBy_22 : decode cX7_nextBy 22 = .ok (.getfield 63, 3) := by decide +kernel
theorem dX7_nextBy_25 : decode cX7_nextBy 25 = .ok (.invokevirtual 211, 3) := by decide +kernel
theorem dX7_nextBy_28 : decode cX7_nextBy 28 = .ok (.iconst 0, 1) := by decide +kernel
theorem dX7_nextBy_29 : decode cX7_nextBy 29 = .ok (.istore_n 3, 1) := by decide +kernel
theorem dX7_nextBy_30 : decode cX7_nextBy 30 = .ok (.iconst 0, 1) := by decide +kernel
theorem dX7_nextBy_31 : decode cX7_nextBy 31 = .ok (.istore 4, 2) := by decide +kernel
theorem dX7_nextBy_33 : decode cX7_nextBy 33 = .ok (.iload 4, 2) := by decide +kernel
theorem dX7_nextBy_35 : decode cX7_nextBy 35 = .ok (.aload_n 0, 1) := by decide +kernel
theorem dX7_nextBy_36 : decode cX7_nextBy 36 = .ok (.getfield 63, 3) := by decide +kernel
theorem dX7_nextBy_39 : decode cX7_nextBy 39 = .ok (.getfield 213, 3) := by decide +kernel
theorem dX7_nextBy_42 : decode cX7_nextBy 42 = .ok (.if_icmp .ge 26, 3) := by decide +kernel
theorem dX7_nextBy_45 : decode cX7_nextBy 45 = .ok (.aload_n 0, 1) := by decide +kernel
theorem dX7_nextBy_46 : decode cX7_nextBy 46 = .ok (.getfield 63, 3) := by decide +kernel
theorem dX7_nextBy_49 : decode cX7_nextBy 49 = .ok (.iload 4, 2) := by decide +kernel
theorem dX7_nextBy_51 : decode cX7_nextBy 51 = .ok (.iload_n 2, 1) := by decide +kernel
theorem dX7_nextBy_52 : decode cX7_nextBy 52 = .ok (.invokevirtual 223, 3) := by decide +kernel
theorem dX7_nextBy_55 : decode cX7_nextBy 55 = .ok (.iload_n 1, 1) := by decide +kernel
theorem dX7_nextBy_56 : decode cX7_nextBy 56 = .ok (.if_icmp .ne 6, 3) := by decide +kernel
theorem dX7_nextBy_59 : decode cX7_nextBy 59 = .ok (.iinc 3 1, 3) := by decide +kernel
theorem dX7_nextBy_62 : decode cX7_nextBy 62 = .ok (.iinc 4 1, 3) := by decide +kernel
theorem dX7_nextBy_65 : decode cX7_nextBy 65 = .ok (.goto (-32), 3) := by decide +kernel
theorem dX7_nextBy_68 : decode cX7_nextBy 68 = .ok (.iload_n 3, 1) := by decide +kernel
theorem dX7_nextBy_69 : decode cX7_nextBy 69 = .ok (.ireturn, 1) := by decide +kernel
theorem dX7_tryDay_0 : decode cX7_tryDay 0 = .ok (.aload_n 0, 1) := by decide +kernel
theorem dX7_tryDay_1 : decode cX7_tryDay 1 = .ok (.invokevirtual 151, 3) := by decide +kernel
theorem dX7_tryDay_4 : decode cX7_tryDay 4 = .ok (.ifCond .eq 5, 3) := by decide +kernel
theorem dX7_tryDay_7 : decode cX7_tryDay 7 = .ok (.iconst (-1), 1) := by decide +kernel
theorem dX7_tryDay_8 : decode cX7_tryDay 8 = .ok (.ireturn, 1) := by decide +kernel
theorem dX7_tryDay_9 : decode cX7_tryDay 9 = .ok (.aload_n 0, 1) := by decide +kernel
theorem dX7_tryDay_10 : decode cX7_tryDay 10 = .ok (.getfield 63, 3) := by decide +kernel
theorem dX7_tryDay_13 : decode cX7_tryDay 13 = .ok (.invokevirtual 211, 3) := by decide +kernel
theorem dX7_tryDay_16 : decode cX7_tryDay 16 = .ok (.aload_n 0, 1) := by decide +kernel
theorem dX7_tryDay_17 : decode cX7_tryDay 17 = .ok (.getfield 63, 3) := by decide +kernel
theorem dX7_tryDay_20 : decode cX7_tryDay 20 = .ok (.getfield 225, 3) := by decide +kernel
theorem dX7_tryDay_23 : decode cX7_tryDay 23 = .ok (.ireturn, 1) := by decide +kernel
theorem dX7_tryLeaves_0 : decode cX7_tryLeaves 0 = .ok (.aload_n 0, 1) := by decide +kernel
theorem dX7_tryLeaves_1 : decode cX7_tryLeaves 1 = .ok (.invokevirtual 151, 3) := by decide +kernel
theorem dX7_tryLeaves_4 : decode cX7_tryLeaves 4 = .ok (.ifCond .eq 5, 3) := by decide +kernel
theorem dX7_tryLeaves_7 : decode cX7_tryLeaves 7 = .ok (.iconst (-1), 1) := by decide +kernel
theorem dX7_tryLeaves_8 : decode cX7_tryLeaves 8 = .ok (.ireturn, 1) := by decide +kernel
theorem dX7_tryLeaves_9 : decode cX7_tryLeaves 9 = .ok (.aload_n 0, 1) := by decide +kernel
theorem dX7_tryLeaves_10 : decode cX7_tryLeaves 10 = .ok (.getfield 63, 3) := by decide +kernel
theorem dX7_tryLeaves_13 : decode cX7_tryLeaves 13 = .ok (.invokevirtual 211, 3) := by decide +kernel
theorem dX7_tryLeaves_16 : decode cX7_tryLeaves 16 = .ok (.aload_n 0, 1) := by decide +kernel
theorem dX7_tryLeaves_17 : decode cX7_tryLeaves 17 = .ok (.getfield 63, 3) := by decide +kernel
theorem dX7_tryLeaves_20 : decode cX7_tryLeaves 20 = .ok (.getfield 228, 3) := by decide +kernel
theorem dX7_tryLeaves_23 : decode cX7_tryLeaves 23 = .ok (.ireturn, 1) := by decide +kernel
theorem dX7_judge_0 : decode cX7_judge 0 = .ok (.aload_n 0, 1) := by decide +kernel
theorem dX7_judge_1 : decode cX7_judge 1 = .ok (.invokevirtual 151, 3) := by decide +kernel
theorem dX7_judge_4 : decode cX7_judge 4 = .ok (.ifCond .eq 5, 3) := by decide +kernel
theorem dX7_judge_7 : decode cX7_judge 7 = .ok (.iconst (-1), 1) := by decide +kernel
theorem dX7_judge_8 : decode cX7_judge 8 = .ok (.ireturn, 1) := by decide +kernel
theorem dX7_judge_9 : decode cX7_judge 9 = .ok (.iconst 0, 1) := by decide +kernel
theorem dX7_judge_10 : decode cX7_judge 10 = .ok (.istore_n 1, 1) := by decide +kernel
theorem dX7_judge_11 : decode cX7_judge 11 = .ok (.iload_n 1, 1) := by decide +kernel
theorem dX7_judge_12 : decode cX7_judge 12 = .ok (.aload_n 0, 1) := by decide +kernel
theorem dX7_judge_13 : decode cX7_judge 13 = .ok (.getfield 10, 3) := by decide +kernel
theorem dX7_judge_16 : decode cX7_judge 16 = .ok (.getfield 231, 3) := by decide +kernel
theorem dX7_judge_19 : decode cX7_judge 19 = .ok (.if_icmp .ge 47, 3) := by decide +kernel
theorem dX7_judge_22 : decode cX7_judge 22 = .ok (.aload_n 0, 1) := by decide +kernel
theorem dX7_judge_23 : decode cX7_judge 23 = .ok (.getfield 47, 3) := by decide +kernel
theorem dX7_judge_26 : decode cX7_judge 26 = .ok (.iconst 0, 1) := by decide +kernel
theorem dX7_judge_27 : decode cX7_judge 27 = .ok (.aload_n 0, 1) := by decide +kernel
theorem dX7_judge_28 : decode cX7_judge 28 = .ok (.getfield 10, 3) := by decide +kernel
theorem dX7_judge_31 : decode cX7_judge 31 = .ok (.getfield 94, 3) := by decide +kernel
theorem dX7_judge_34 : decode cX7_judge 34 = .ok (.aload_n 0, 1) := by decide +kernel
theorem dX7_judge_35 : decode cX7_judge 35 = .ok (.getfield 10, 3) := by decide +kernel
theorem dX7_judge_38 : decode cX7_judge 38 = .ok (.getfield 234, 3) := by decide +kernel
theorem dX7_judge_41 : decode cX7_judge 41 = .ok (.iload_n 1, 1) := by decide +kernel
theorem dX7_judge_42 : decode cX7_judge 42 = .ok (.iaload, 1) := by decide +kernel
theorem dX7_judge_43 : decode cX7_judge 43 = .ok (.invokevirtual 163, 3) := by decide +kernel
theorem dX7_judge_46 : decode cX7_judge 46 = .ok (.aload_n 0, 1) := by decide +kernel
theorem dX7_judge_47 : decode cX7_judge 47 = .ok (.getfield 10, 3) := by decide +kernel
theorem dX7_judge_50 : decode cX7_judge 50 = .ok (.getfield 237, 3) := by decide +kernel
theorem dX7_judge_53 : decode cX7_judge 53 = .ok (.iload_n 1, 1) := by decide +kernel
theorem dX7_judge_54 : decode cX7_judge 54 = .ok (.iaload, 1) := by decide +kernel
theorem dX7_judge_55 : decode cX7_judge 55 = .ok (.if_icmp .eq 5, 3) := by decide +kernel
theorem dX7_judge_58 : decode cX7_judge 58 = .ok (.iload_n 1, 1) := by decide +kernel
theorem dX7_judge_59 : decode cX7_judge 59 = .ok (.ireturn, 1) := by decide +kernel
theorem dX7_judge_60 : decode cX7_judge 60 = .ok (.iinc 1 1, 3) := by decide +kernel
theorem dX7_judge_63 : decode cX7_judge 63 = .ok (.goto (-52), 3) := by decide +kernel
theorem dX7_judge_66 : decode cX7_judge 66 = .ok (.bipush (-2), 2) := by decide +kernel
theorem dX7_judge_68 : decode cX7_judge 68 = .ok (.ireturn, 1) := by decide +kernel
theorem dX7_rings_0 : decode cX7_rings 0 = .ok (.aload_n 0, 1) := by decide +kernel
theorem dX7_rings_1 : decode cX7_rings 1 = .ok (.invokevirtual 151, 3) := by decide +kernel
theorem dX7_rings_4 : decode cX7_rings 4 = .ok (.ifCond .eq 6, 3) := by decide +kernel
theorem dX7_rings_7 : decode cX7_rings 7 = .ok (.bipush (-100), 2) := by decide +kernel
theorem dX7_rings_9 : decode cX7_rings 9 = .ok (.ireturn, 1) := by decide +kernel
theorem dX7_rings_10 : decode cX7_rings 10 = .ok (.iload_n 3, 1) := by decide +kernel
theorem dX7_rings_11 : decode cX7_rings 11 = .ok (.ifCond .eq 12, 3) := by decide +kernel
theorem dX7_rings_14 : decode cX7_rings 14 = .ok (.aload_n 0, 1) := by decide +kernel
theorem dX7_rings_15 : decode cX7_rings 15 = .ok (.iload_n 2, 1) := by decide +kernel
theorem dX7_rings_16 : decode cX7_rings 16 = .ok (.iload_n 1, 1) := by decide +kernel
theorem dX7_rings_17 : decode cX7_rings 17 = .ok (.invokevirtual 239, 3) := by decide +kernel
theorem dX7_rings_20 : decode cX7_rings 20 = .ok (.goto 9, 3) := by decide +kernel
theorem dX7_rings_23 : decode cX7_rings 23 = .ok (.aload_n 0, 1) := by decide +kernel
theorem dX7_rings_24 : decode cX7_rings 24 = .ok (.iload_n 1, 1) := by decide +kernel
theorem dX7_rings_25 : decode cX7_rings 25 = .ok (.iload_n 2, 1) := by decide +kernel
theorem dX7_rings_26 : decode cX7_rings 26 = .ok (.invokevirtual 239, 3) := by decide +kernel
theorem dX7_rings_29 : decode cX7_rings 29 = .ok (.ireturn, 1) := by decide +kernel
theorem dX7_rests_0 : decode cX7_rests 0 = .ok (.aload_n 0, 1) := by decide +kernel
theorem dX7_rests_1 : decode cX7_rests 1 = .ok (.invokevirtual 151, 3) := by decide +kernel
theorem dX7_rests_4 : decode cX7_rests 4 = .ok (.ifCond .eq 5, 3) := by decide +kernel
theorem dX7_rests_7 : decode cX7_rests 7 = .ok (.iconst (-1), 1) := by decide +kernel
theorem dX7_rests_8 : decode cX7_rests 8 = .ok (.ireturn, 1) := by decide +kernel
theorem dX7_rests_9 : decode cX7_rests 9 = .ok (.iconst 0, 1) := by decide +kernel
theorem dX7_rests_10 : decode cX7_rests 10 = .ok (.istore_n 1, 1) := by decide +kernel
theorem dX7_rests_11 : decode cX7_rests 11 = .ok (.iconst 0, 1) := by decide +kernel
theorem dX7_rests_12 : decode cX7_rests 12 = .ok (.istore_n 2, 1) := by decide +kernel
theorem dX7_rests_13 : decode cX7_rests 13 = .ok (.iload_n 2, 1) := by decide +kernel
theorem dX7_rests_14 : decode cX7_rests 14 = .ok (.iconst 4, 1) := by decide +kernel
theorem dX7_rests_15 : decode cX7_rests 15 = .ok (.if_icmp .ge 41, 3) := by decide +kernel
theorem dX7_rests_18 : decode cX7_rests 18 = .ok (.aload_n 0, 1) := by decide +kernel
theorem dX7_rests_19 : decode cX7_rests 19 = .ok (.iload_n 2, 1) := by decide +kernel
theorem dX7_rests_20 : decode cX7_rests 20 = .ok (.iconst 2, 1) := by decide +kernel
theorem dX7_rests_21 : decode cX7_rests 21 = .ok (.if_icmp .lt 7, 3) := by decide +kernel
theorem dX7_rests_24 : decode cX7_rests 24 = .ok (.iconst 1, 1) := by decide +kernel
theorem dX7_rests_25 : decode cX7_rests 25 = .ok (.goto 4, 3) := by decide +kernel
theorem dX7_rests_28 : decode cX7_rests 28 = .ok (.iconst 0, 1) := by decide +kernel
theorem dX7_rests_29 : decode cX7_rests 29 = .ok (.iload_n 2, 1) := by decide +kernel
theorem dX7_rests_30 : decode cX7_rests 30 = .ok (.iconst 2, 1) := by decide +kernel
theorem dX7_rests_31 : decode cX7_rests 31 = .ok (.irem, 1) := by decide +kernel
theorem dX7_rests_32 : decode cX7_rests 32 = .ok (.iconst 1, 1) := by decide +kernel
theorem dX7_rests_33 : decode cX7_rests 33 = .ok (.if_icmp .ne 7, 3) := by decide +kernel
theorem dX7_rests_36 : decode cX7_rests 36 = .ok (.iconst 1, 1) := by decide +kernel
theorem dX7_rests_37 : decode cX7_rests 37 = .ok (.goto 4, 3) := by decide +kernel
theorem dX7_rests_40 : decode cX7_rests 40 = .ok (.iconst 0, 1) := by decide +kernel
theorem dX7_rests_41 : decode cX7_rests 41 = .ok (.invokevirtual 243, 3) := by decide +kernel
theorem dX7_rests_44 : decode cX7_rests 44 = .ok (.ifCond .eq 6, 3) := by decide +kernel
theorem dX7_rests_47 : decode cX7_rests 47 = .ok (.iinc 1 1, 3) := by decide +kernel
theorem dX7_rests_50 : decode cX7_rests 50 = .ok (.iinc 2 1, 3) := by decide +kernel
theorem dX7_rests_53 : decode cX7_rests 53 = .ok (.goto (-40), 3) := by decide +kernel
theorem dX7_rests_56 : decode cX7_rests 56 = .ok (.iload_n 1, 1) := by decide +kernel
theorem dX7_rests_57 : decode cX7_rests 57 = .ok (.ireturn, 1) := by decide +kernel
theorem dX7_rest_0 : decode cX7_rest 0 = .ok (.aload_n 0, 1) := by decide +kernel
theorem dX7_rest_1 : decode cX7_rest 1 = .ok (.invokevirtual 151, 3) := by decide +kernel
theorem dX7_rest_4 : decode cX7_rest 4 = .ok (.ifCond .eq 5, 3) := by decide +kernel
theorem dX7_rest_7 : decode cX7_rest 7 = .ok (.iconst (-1), 1) := by decide +kernel
theorem dX7_rest_8 : decode cX7_rest 8 = .ok (.ireturn, 1) := by decide +kernel
theorem dX7_rest_9 : decode cX7_rest 9 = .ok (.iconst 0, 1) := by decide +kernel
theorem dX7_rest_10 : decode cX7_rest 10 = .ok (.istore_n 1, 1) := by decide +kernel
theorem dX7_rest_11 : decode cX7_rest 11 = .ok (.iload_n 1, 1) := by decide +kernel
theorem dX7_rest_12 : decode cX7_rest 12 = .ok (.iconst 4, 1) := by decide +kernel
theorem dX7_rest_13 : decode cX7_rest 13 = .ok (.if_icmp .ge 49, 3) := by decide +kernel
theorem dX7_rest_16 : decode cX7_rest 16 = .ok (.aload_n 0, 1) := by decide +kernel
theorem dX7_rest_17 : decode cX7_rest 17 = .ok (.iload_n 1, 1) := by decide +kernel
theorem dX7_rest_18 : decode cX7_rest 18 = .ok (.iconst 2, 1) := by decide +kernel
theorem dX7_rest_19 : decode cX7_rest 19 = .ok (.if_icmp .lt 7, 3) := by decide +kernel
theorem dX7_rest_22 : decode cX7_rest 22 = .ok (.iconst 1, 1) := by decide +kernel
theorem dX7_rest_23 : decode cX7_rest 23 = .ok (.goto 4, 3) := by decide +kernel
theorem dX7_rest_26 : decode cX7_rest 26 = .ok (.iconst 0, 1) := by decide +kernel
theorem dX7_rest_27 : decode cX7_rest 27 = .ok (.iload_n 1, 1) := by decide +kernel
theorem dX7_rest_28 : decode cX7_rest 28 = .ok (.iconst 2, 1) := by decide +kernel
theorem dX7_rest_29 : decode cX7_rest 29 = .ok (.irem, 1) := by decide +kernel
theorem dX7_rest_30 : decode cX7_rest 30 = .ok (.iconst 1, 1) := by decide +kernel
theorem dX7_rest_31 : decode cX7_rest 31 = .ok (.if_icmp .ne 7, 3) := by decide +kernel
theorem dX7_rest_34 : decode cX7_rest 34 = .ok (.iconst 1, 1) := by decide +kernel
theorem dX7_rest_35 : decode cX7_rest 35 = .ok (.goto 4, 3) := by decide +kernel
theorem dX7_rest_38 : decode cX7_rest 38 = .ok (.iconst 0, 1) := by decide +kernel
theorem dX7_rest_39 : decode cX7_rest 39 = .ok (.invokevirtual 243, 3) := by decide +kernel
theorem dX7_rest_42 : decode cX7_rest 42 = .ok (.ifCond .eq 14, 3) := by decide +kernel
theorem dX7_rest_45 : decode cX7_rest 45 = .ok (.iload_n 1, 1) := by decide +kernel
theorem dX7_rest_46 : decode cX7_rest 46 = .ok (.iconst 2, 1) := by decide +kernel
theorem dX7_rest_47 : decode cX7_rest 47 = .ok (.idiv, 1) := by decide +kernel
theorem dX7_rest_48 : decode cX7_rest 48 = .ok (.bipush 10, 2) := by decide +kernel
theorem dX7_rest_50 : decode cX7_rest 50 = .ok (.imul, 1) := by decide +kernel
theorem dX7_rest_51 : decode cX7_rest 51 = .ok (.iload_n 1, 1) := by decide +kernel
theorem dX7_rest_52 : decode cX7_rest 52 = .ok (.iconst 2, 1) := by decide +kernel
theorem dX7_rest_53 : decode cX7_rest 53 = .ok (.irem, 1) := by decide +kernel
theorem dX7_rest_54 : decode cX7_rest 54 = .ok (.iadd, 1) := by decide +kernel
theorem dX7_rest_55 : decode cX7_rest 55 = .ok (.ireturn, 1) := by decide +kernel
theorem dX7_rest_56 : decode cX7_rest 56 = .ok (.iinc 1 1, 3) := by decide +kernel
theorem dX7_rest_59 : decode cX7_rest 59 = .ok (.goto (-48), 3) := by decide +kernel
theorem dX7_rest_62 : decode cX7_rest 62 = .ok (.bipush (-2), 2) := by decide +kernel
theorem dX7_rest_64 : decode cX7_rest 64 = .ok (.ireturn, 1) := by decide +kernel
theorem dX7_odds_0 : decode cX7_odds 0 = .ok (.aload_n 0, 1) := by decide +kernel
theorem dX7_odds_1 : decode cX7_odds 1 = .ok (.iload_n 1, 1) := by decide +kernel
theorem dX7_odds_2 : decode cX7_odds 2 = .ok (.invokevirtual 113, 3) := by decide +kernel
theorem dX7_odds_5 : decode cX7_odds 5 = .ok (.ifCond .ne 14, 3) := by decide +kernel
theorem dX7_odds_8 : decode cX7_odds 8 = .ok (.aload_n 0, 1) := by decide +kernel
theorem dX7_odds_9 : decode cX7_odds 9 = .ok (.iload_n 2, 1) := by decide +kernel
theorem dX7_odds_10 : decode cX7_odds 10 = .ok (.iconst 0, 1) := by decide +kernel
theorem dX7_odds_11 : decode cX7_odds 11 = .ok (.bipush 90, 2) := by decide +kernel
theorem dX7_odds_13 : decode cX7_odds 13 = .ok (.invokevirtual 75, 3) := by decide +kernel
theorem dX7_odds_16 : decode cX7_odds 16 = .ok (.ifCond .eq 7, 3) := by decide +kernel
theorem dX7_odds_19 : decode cX7_odds 19 = .ok (.ldc2_w 247, 3) := by decide +kernel
theorem dX7_odds_22 : decode cX7_odds 22 = .ok (.lreturn, 1) := by decide +kernel
theorem dX7_odds_23 : decode cX7_odds 23 = .ok (.aload_n 0, 1) := by decide +kernel
theorem dX7_odds_24 : decode cX7_odds 24 = .ok (.iconst 0, 1) := by decide +kernel
theorem dX7_odds_25 : decode cX7_odds 25 = .ok (.iload_n 1, 1) := by decide +kernel
theorem dX7_odds_26 : decode cX7_odds 26 = .ok (.iload_n 2, 1) := by decide +kernel
theorem dX7_odds_27 : decode cX7_odds 27 = .ok (.iload_n 3, 1) := by decide +kernel
theorem dX7_odds_28 : decode cX7_odds 28 = .ok (.invokevirtual 249, 3) := by decide +kernel
theorem dX7_odds_31 : decode cX7_odds 31 = .ok (.lreturn, 1) := by decide +kernel
theorem dX7_quiet_0 : decode cX7_quiet 0 = .ok (.aload_n 0, 1) := by decide +kernel
theorem dX7_quiet_1 : decode cX7_quiet 1 = .ok (.invokevirtual 151, 3) := by decide +kernel
theorem dX7_quiet_4 : decode cX7_quiet 4 = .ok (.ifCond .ne 14, 3) := by decide +kernel
theorem dX7_quiet_7 : decode cX7_quiet 7 = .ok (.aload_n 0, 1) := by decide +kernel
theorem dX7_quiet_8 : decode cX7_quiet 8 = .ok (.iload_n 1, 1) := by decide +kernel
theorem dX7_quiet_9 : decode cX7_quiet 9 = .ok (.iconst 0, 1) := by decide +kernel
theorem dX7_quiet_10 : decode cX7_quiet 10 = .ok (.bipush 90, 2) := by decide +kernel
theorem dX7_quiet_12 : decode cX7_quiet 12 = .ok (.invokevirtual 75, 3) := by decide +kernel
theorem dX7_quiet_15 : decode cX7_quiet 15 = .ok (.ifCond .eq 7, 3) := by decide +kernel
theorem dX7_quiet_18 : decode cX7_quiet 18 = .ok (.ldc2_w 247, 3) := by decide +kernel
theorem dX7_quiet_21 : decode cX7_quiet 21 = .ok (.lreturn, 1) := by decide +kernel
theorem dX7_quiet_22 : decode cX7_quiet 22 = .ok (.aload_n 0, 1) := by decide +kernel
theorem dX7_quiet_23 : decode cX7_quiet 23 = .ok (.iconst 1, 1) := by decide +kernel
theorem dX7_quiet_24 : decode cX7_quiet 24 = .ok (.iconst 0, 1) := by decide +kernel
theorem dX7_quiet_25 : decode cX7_quiet 25 = .ok (.iload_n 1, 1) := by decide +kernel
theorem dX7_quiet_26 : decode cX7_quiet 26 = .ok (.iload_n 2, 1) := by decide +kernel
theorem dX7_quiet_27 : decode cX7_quiet 27 = .ok (.invokevirtual 249, 3) := by decide +kernel
theorem dX7_quiet_30 : decode cX7_quiet 30 = .ok (.lreturn, 1) := by decide +kernel
theorem dX7_mean_0 : decode cX7_mean 0 = .ok (.aload_n 0, 1) := by decide +kernel
theorem dX7_mean_1 : decode cX7_mean 1 = .ok (.invokevirtual 151, 3) := by decide +kernel
theorem dX7_mean_4 : decode cX7_mean 4 = .ok (.ifCond .ne 14, 3) := by decide +kernel
theorem dX7_mean_7 : decode cX7_mean 7 = .ok (.aload_n 0, 1) := by decide +kernel
theorem dX7_mean_8 : decode cX7_mean 8 = .ok (.iload_n 1, 1) := by decide +kernel
theorem dX7_mean_9 : decode cX7_mean 9 = .ok (.iconst 0, 1) := by decide +kernel
theorem dX7_mean_10 : decode cX7_mean 10 = .ok (.bipush 90, 2) := by decide +kernel
theorem dX7_mean_12 : decode cX7_mean 12 = .ok (.invokevirtual 75, 3) := by decide +kernel
theorem dX7_mean_15 : decode cX7_mean 15 = .ok (.ifCond .eq 7, 3) := by decide +kernel
theorem dX7_mean_18 : decode cX7_mean 18 = .ok (.ldc2_w 247, 3) := by decide +kernel
theorem dX7_mean_21 : decode cX7_mean 21 = .ok (.lreturn, 1) := by decide +kernel
theorem dX7_mean_22 : decode cX7_mean 22 = .ok (.aload_n 0, 1) := by decide +kernel
theorem dX7_mean_23 : decode cX7_mean 23 = .ok (.iconst 2, 1) := by decide +kernel
theorem dX7_mean_24 : decode cX7_mean 24 = .ok (.iconst 0, 1) := by decide +kernel
theorem dX7_mean_25 : decode cX7_mean 25 = .ok (.iload_n 1, 1) := by decide +kernel
theorem dX7_mean_26 : decode cX7_mean 26 = .ok (.iload_n 2, 1) := by decide +kernel
theorem dX7_mean_27 : decode cX7_mean 27 = .ok (.invokevirtual 249, 3) := by decide +kernel
theorem dX7_mean_30 : decode cX7_mean 30 = .ok (.lreturn, 1) := by decide +kernel
theorem dX7_years_0 : decode cX7_years 0 = .ok (.aload_n 0, 1) := by decide +kernel
theorem dX7_years_1 : decode cX7_years 1 = .ok (.iload_n 1, 1) := by decide +kernel
theorem dX7_years_2 : decode cX7_years 2 = .ok (.invokevirtual 113, 3) := by decide +kernel
theorem dX7_years_5 : decode cX7_years 5 = .ok (.ifCond .ne 12, 3) := by decide +kernel
theorem dX7_years_8 : decode cX7_years 8 = .ok (.aload_n 0, 1) := by decide +kernel
theorem dX7_years_9 : decode cX7_years 9 = .ok (.iload_n 2, 1) := by decide +kernel
theorem dX7_years_10 : decode cX7_years 10 = .ok (.iload_n 3, 1) := by decide +kernel
theorem dX7_years_11 : decode cX7_years 11 = .ok (.invokevirtual 253, 3) := by decide +kernel
theorem dX7_years_14 : decode cX7_years 14 = .ok (.ifCond .eq 5, 3) := by decide +kernel
theorem dX7_years_17 : decode cX7_years 17 = .ok (.iconst (-1), 1) := by decide +kernel
theorem dX7_years_18 : decode cX7_years 18 = .ok (.ireturn, 1) := by decide +kernel
theorem dX7_years_19 : decode cX7_years 19 = .ok (.iconst 0, 1) := by decide +kernel
theorem dX7_years_20 : decode cX7_years 20 = .ok (.istore 4, 2) := by decide +kernel
theorem dX7_years_22 : decode cX7_years 22 = .ok (.aload_n 0, 1) := by decide +kernel
theorem dX7_years_23 : decode cX7_years 23 = .ok (.getfield 47, 3) := by decide +kernel
theorem dX7_years_26 : decode cX7_years 26 = .ok (.iload_n 2, 1) := by decide +kernel
theorem dX7_years_27 : decode cX7_years 27 = .ok (.putfield 257, 3) := by decide +kernel
theorem dX7_years_30 : decode cX7_years 30 = .ok (.iconst 0, 1) := by decide +kernel
theorem dX7_years_31 : decode cX7_years 31 = .ok (.istore 5, 2) := by decide +kernel
theorem dX7_years_33 : decode cX7_years 33 = .ok (.iload 5, 2) := by decide +kernel
theorem dX7_years_35 : decode cX7_years 35 = .ok (.iload_n 3, 1) := by decide +kernel
theorem dX7_years_36 : decode cX7_years 36 = .ok (.if_icmp .ge 52, 3) := by decide +kernel
theorem dX7_years_39 : decode cX7_years 39 = .ok (.aload_n 0, 1) := by decide +kernel
theorem dX7_years_40 : decode cX7_years 40 = .ok (.getfield 47, 3) := by decide +kernel
theorem dX7_years_43 : decode cX7_years 43 = .ok (.aload_n 0, 1) := by decide +kernel
theorem dX7_years_44 : decode cX7_years 44 = .ok (.getfield 38, 3) := by decide +kernel
theorem dX7_years_47 : decode cX7_years 47 = .ok (.getfield 121, 3) := by decide +kernel
theorem dX7_years_50 : decode cX7_years 50 = .ok (.invokevirtual 260, 3) := by decide +kernel
theorem dX7_years_53 : decode cX7_years 53 = .ok (.istore 6, 2) := by decide +kernel
theorem dX7_years_55 : decode cX7_years 55 = .ok (.iload 4, 2) := by decide +kernel
theorem dX7_years_57 : decode cX7_years 57 = .ok (.aload_n 0, 1) := by decide +kernel
theorem dX7_years_58 : decode cX7_years 58 = .ok (.getfield 47, 3) := by decide +kernel
theorem dX7_years_61 : decode cX7_years 61 = .ok (.iload 6, 2) := by decide +kernel
theorem dX7_years_63 : decode cX7_years 63 = .ok (.aload_n 0, 1) := by decide +kernel
theorem dX7_years_64 : decode cX7_years 64 = .ok (.getfield 38, 3) := by decide +kernel
theorem dX7_years_67 : decode cX7_years 67 = .ok (.getfield 121, 3) := by decide +kernel
theorem dX7_years_70 : decode cX7_years 70 = .ok (.bipush 90, 2) := by decide +kernel
theorem dX7_years_72 : decode cX7_years 72 = .ok (.invokevirtual 263, 3) := by decide +kernel
theorem dX7_years_75 : decode cX7_years 75 = .ok (.iload_n 1, 1) := by decide +kernel
theorem dX7_years_76 : decode cX7_years 76 = .ok (.ishr, 1) := by decide +kernel
theorem dX7_years_77 : decode cX7_years 77 = .ok (.iconst 1, 1) := by decide +kernel
theorem dX7_years_78 : decode cX7_years 78 = .ok (.iand, 1) := by decide +kernel
theorem dX7_years_79 : decode cX7_years 79 = .ok (.iadd, 1) := by decide +kernel
theorem dX7_years_80 : decode cX7_years 80 = .ok (.istore 4, 2) := by decide +kernel
theorem dX7_years_82 : decode cX7_years 82 = .ok (.iinc 5 1, 3) := by decide +kernel
theorem dX7_years_85 : decode cX7_years 85 = .ok (.goto (-52), 3) := by decide +kernel
theorem dX7_years_88 : decode cX7_years 88 = .ok (.iload 4, 2) := by decide +kernel
theorem dX7_years_90 : decode cX7_years 90 = .ok (.ireturn, 1) := by decide +kernel
theorem dX7_worstYear_0 : decode cX7_worstYear 0 = .ok (.aload_n 0, 1) := by decide +kernel
theorem dX7_worstYear_1 : decode cX7_worstYear 1 = .ok (.invokevirtual 151, 3) := by decide +kernel
theorem dX7_worstYear_4 : decode cX7_worstYear 4 = .ok (.ifCond .ne 12, 3) := by decide +kernel
theorem dX7_worstYear_7 : decode cX7_worstYear 7 = .ok (.aload_n 0, 1) := by decide +kernel
theorem dX7_worstYear_8 : decode cX7_worstYear 8 = .ok (.iload_n 1, 1) := by decide +kernel
theorem dX7_worstYear_9 : decode cX7_worstYear 9 = .ok (.iload_n 2, 1) := by decide +kernel
theorem dX7_worstYear_10 : decode cX7_worstYear 10 = .ok (.invokevirtual 253, 3) := by decide +kernel
theorem dX7_worstYear_13 : decode cX7_worstYear 13 = .ok (.ifCond .eq 5, 3) := by decide +kernel
theorem dX7_worstYear_16 : decode cX7_worstYear 16 = .ok (.iconst (-1), 1) := by decide +kernel
theorem dX7_worstYear_17 : decode cX7_worstYear 17 = .ok (.ireturn, 1) := by decide +kernel
theorem dX7_worstYear_18 : decode cX7_worstYear 18 = .ok (.iconst 0, 1) := by decide +kernel
theorem dX7_worstYear_19 : decode cX7_worstYear 19 = .ok (.istore_n 3, 1) := by decide +kernel
theorem dX7_worstYear_20 : decode cX7_worstYear 20 = .ok (.aload_n 0, 1) := by decide +kernel
theorem dX7_worstYear_21 : decode cX7_worstYear 21 = .ok (.getfield 47, 3) := by decide +kernel
theorem dX7_worstYear_24 : decode cX7_worstYear 24 = .ok (.iload_n 1, 1) := by decide +kernel
theorem dX7_worstYear_25 : decode cX7_worstYear 25 = .ok (.putfield 257, 3) := by decide +kernel
theorem dX7_worstYear_28 : decode cX7_worstYear 28 = .ok (.iconst 0, 1) := by decide +kernel
theorem dX7_worstYear_29 : decode cX7_worstYear 29 = .ok (.istore 4, 2) := by decide +kernel
theorem dX7_worstYear_31 : decode cX7_worstYear 31 = .ok (.iload 4, 2) := by decide +kernel
theorem dX7_worstYear_33 : decode cX7_worstYear 33 = .ok (.iload_n 2, 1) := by decide +kernel
theorem dX7_worstYear_34 : decode cX7_worstYear 34 = .ok (.if_icmp .ge 51, 3) := by decide +kernel
theorem dX7_worstYear_37 : decode cX7_worstYear 37 = .ok (.aload_n 0, 1) := by decide +kernel
theorem dX7_worstYear_38 : decode cX7_worstYear 38 = .ok (.getfield 47, 3) := by decide +kernel
theorem dX7_worstYear_41 : decode cX7_worstYear 41 = .ok (.aload_n 0, 1) := by decide +kernel
theorem dX7_worstYear_42 : decode cX7_worstYear 42 = .ok (.getfield 38, 3) := by decide +kernel
theorem dX7_worstYear_45 : decode cX7_worstYear 45 = .ok (.getfield 121, 3) := by decide +kernel
theorem dX7_worstYear_48 : decode cX7_worstYear 48 = .ok (.invokevirtual 260, 3) := by decide +kernel
theorem dX7_worstYear_51 : decode cX7_worstYear 51 = .ok (.istore 5, 2) := by decide +kernel
theorem dX7_worstYear_53 : decode cX7_worstYear 53 = .ok (.iload_n 3, 1) := by decide +kernel
theorem dX7_worstYear_54 : decode cX7_worstYear 54 = .ok (.aload_n 0, 1) := by decide +kernel
theorem dX7_worstYear_55 : decode cX7_worstYear 55 = .ok (.getfield 47, 3) := by decide +kernel
theorem dX7_worstYear_58 : decode cX7_worstYear 58 = .ok (.iload 5, 2) := by decide +kernel
theorem dX7_worstYear_60 : decode cX7_worstYear 60 = .ok (.aload_n 0, 1) := by decide +kernel
theorem dX7_worstYear_61 : decode cX7_worstYear 61 = .ok (.getfield 38, 3) := by decide +kernel
theorem dX7_worstYear_64 : decode cX7_worstYear 64 = .ok (.getfield 121, 3) := by decide +kernel
theorem dX7_worstYear_67 : decode cX7_worstYear 67 = .ok (.bipush 90, 2) := by decide +kernel
theorem dX7_worstYear_69 : decode cX7_worstYear 69 = .ok (.invokevirtual 263, 3) := by decide +kernel
theorem dX7_worstYear_72 : decode cX7_worstYear 72 = .ok (.invokestatic 200, 3) := by decide +kernel
theorem dX7_worstYear_75 : decode cX7_worstYear 75 = .ok (.invokestatic 158, 3) := by decide +kernel
theorem dX7_worstYear_78 : decode cX7_worstYear 78 = .ok (.istore_n 3, 1) := by decide +kernel
theorem dX7_worstYear_79 : decode cX7_worstYear 79 = .ok (.iinc 4 1, 3) := by decide +kernel
theorem dX7_worstYear_82 : decode cX7_worstYear 82 = .ok (.goto (-51), 3) := by decide +kernel
theorem dX7_worstYear_85 : decode cX7_worstYear 85 = .ok (.iload_n 3, 1) := by decide +kernel
theorem dX7_worstYear_86 : decode cX7_worstYear 86 = .ok (.ireturn, 1) := by decide +kernel
theorem dX7_tell_0 : decode cX7_tell 0 = .ok (.aload_n 0, 1) := by decide +kernel
theorem dX7_tell_1 : decode cX7_tell 1 = .ok (.iload_n 1, 1) := by decide +kernel
theorem dX7_tell_2 : decode cX7_tell 2 = .ok (.invokevirtual 113, 3) := by decide +kernel
theorem dX7_tell_5 : decode cX7_tell 5 = .ok (.ifCond .ne 11, 3) := by decide +kernel
theorem dX7_tell_8 : decode cX7_tell 8 = .ok (.aload_n 0, 1) := by decide +kernel
theorem dX7_tell_9 : decode cX7_tell 9 = .ok (.iload_n 1, 1) := by decide +kernel
theorem dX7_tell_10 : decode cX7_tell 10 = .ok (.invokevirtual 172, 3) := by decide +kernel
theorem dX7_tell_13 : decode cX7_tell 13 = .ok (.ifCond .eq 5, 3) := by decide +kernel
theorem dX7_tell_16 : decode cX7_tell 16 = .ok (.iconst (-1), 1) := by decide +kernel
theorem dX7_tell_17 : decode cX7_tell 17 = .ok (.ireturn, 1) := by decide +kernel
theorem dX7_tell_18 : decode cX7_tell 18 = .ok (.aload_n 0, 1) := by decide +kernel
theorem dX7_tell_19 : decode cX7_tell 19 = .ok (.getfield 38, 3) := by decide +kernel
theorem dX7_tell_22 : decode cX7_tell 22 = .ok (.getfield 121, 3) := by decide +kernel
theorem dX7_tell_25 : decode cX7_tell 25 = .ok (.iload_n 1, 1) := by decide +kernel
theorem dX7_tell_26 : decode cX7_tell 26 = .ok (.ishr, 1) := by decide +kernel
theorem dX7_tell_27 : decode cX7_tell 27 = .ok (.iconst 1, 1) := by decide +kernel
theorem dX7_tell_28 : decode cX7_tell 28 = .ok (.iand, 1) := by decide +kernel
theorem dX7_tell_29 : decode cX7_tell 29 = .ok (.iconst 1, 1) := by decide +kernel
theorem dX7_tell_30 : decode cX7_tell 30 = .ok (.if_icmp .ne 9, 3) := by decide +kernel
theorem dX7_tell_33 : decode cX7_tell 33 = .ok (.aload_n 0, 1) := by decide +kernel
theorem dX7_tell_34 : decode cX7_tell 34 = .ok (.iconst 5, 1) := by decide +kernel
theorem dX7_tell_35 : decode cX7_tell 35 = .ok (.invokevirtual 87, 3) := by decide +kernel
theorem dX7_tell_38 : decode cX7_tell 38 = .ok (.ireturn, 1) := by decide +kernel
theorem dX7_tell_39 : decode cX7_tell 39 = .ok (.aload_n 0, 1) := by decide +kernel
theorem dX7_tell_40 : decode cX7_tell 40 = .ok (.getfield 38, 3) := by decide +kernel
theorem dX7_tell_43 : decode cX7_tell 43 = .ok (.invokevirtual 266, 3) := by decide +kernel
theorem dX7_tell_46 : decode cX7_tell 46 = .ok (.aload_n 0, 1) := by decide +kernel
theorem dX7_tell_47 : decode cX7_tell 47 = .ok (.getfield 38, 3) := by decide +kernel
theorem dX7_tell_50 : decode cX7_tell 50 = .ok (.dup, 1) := by decide +kernel
theorem dX7_tell_51 : decode cX7_tell 51 = .ok (.getfield 121, 3) := by decide +kernel
theorem dX7_tell_54 : decode cX7_tell 54 = .ok (.iconst 1, 1) := by decide +kernel
theorem dX7_tell_55 : decode cX7_tell 55 = .ok (.iload_n 1, 1) := by decide +kernel
theorem dX7_tell_56 : decode cX7_tell 56 = .ok (.ishl, 1) := by decide +kernel
theorem dX7_tell_57 : decode cX7_tell 57 = .ok (.ior, 1) := by decide +kernel
theorem dX7_tell_58 : decode cX7_tell 58 = .ok (.putfield 121, 3) := by decide +kernel
theorem dX7_tell_61 : decode cX7_tell 61 = .ok (.aload_n 0, 1) := by decide +kernel
theorem dX7_tell_62 : decode cX7_tell 62 = .ok (.getfield 47, 3) := by decide +kernel
theorem dX7_tell_65 : decode cX7_tell 65 = .ok (.aload_n 0, 1) := by decide +kernel
theorem dX7_tell_66 : decode cX7_tell 66 = .ok (.getfield 38, 3) := by decide +kernel
theorem dX7_tell_69 : decode cX7_tell 69 = .ok (.getfield 121, 3) := by decide +kernel
theorem dX7_tell_72 : decode cX7_tell 72 = .ok (.iload_n 1, 1) := by decide +kernel
theorem dX7_tell_73 : decode cX7_tell 73 = .ok (.invokevirtual 142, 3) := by decide +kernel
theorem dX7_tell_76 : decode cX7_tell 76 = .ok (.invokestatic 145, 3) := by decide +kernel
theorem dX7_tell_79 : decode cX7_tell 79 = .ok (.ireturn, 1) := by decide +kernel
theorem dX7_pull_0 : decode cX7_pull 0 = .ok (.aload_n 0, 1) := by decide +kernel
theorem dX7_pull_1 : decode cX7_pull 1 = .ok (.iload_n 1, 1) := by decide +kernel
theorem dX7_pull_2 : decode cX7_pull 2 = .ok (.iconst 1, 1) := by decide +kernel
theorem dX7_pull_3 : decode cX7_pull 3 = .ok (.invokevirtual 269, 3) := by decide +kernel
theorem dX7_pull_6 : decode cX7_pull 6 = .ok (.ireturn, 1) := by decide +kernel
theorem dX7_mend_0 : decode cX7_mend 0 = .ok (.aload_n 0, 1) := by decide +kernel
theorem dX7_mend_1 : decode cX7_mend 1 = .ok (.iload_n 1, 1) := by decide +kernel
theorem dX7_mend_2 : decode cX7_mend 2 = .ok (.iconst 0, 1) := by decide +kernel
theorem dX7_mend_3 : decode cX7_mend 3 = .ok (.invokevirtual 269, 3) := by decide +kernel
theorem dX7_mend_6 : decode cX7_mend 6 = .ok (.ireturn, 1) := by decide +kernel
theorem dX7_day_0 : decode cX7_day 0 = .ok (.aload_n 0, 1) := by decide +kernel
theorem dX7_day_1 : decode cX7_day 1 = .ok (.invokevirtual 151, 3) := by decide +kernel
theorem dX7_day_4 : decode cX7_day 4 = .ok (.ifCond .eq 5, 3) := by decide +kernel
theorem dX7_day_7 : decode cX7_day 7 = .ok (.iconst (-1), 1) := by decide +kernel
theorem dX7_day_8 : decode cX7_day 8 = .ok (.ireturn, 1) := by decide +kernel
theorem dX7_day_9 : decode cX7_day 9 = .ok (.aload_n 0, 1) := by decide +kernel
theorem dX7_day_10 : decode cX7_day 10 = .ok (.getfield 38, 3) := by decide +kernel
theorem dX7_day_13 : decode cX7_day 13 = .ok (.getfield 166, 3) := by decide +kernel
theorem dX7_day_16 : decode cX7_day 16 = .ok (.bipush 90, 2) := by decide +kernel
theorem dX7_day_18 : decode cX7_day 18 = .ok (.if_icmp .lt 9, 3) := by decide +kernel
theorem dX7_day_21 : decode cX7_day 21 = .ok (.aload_n 0, 1) := by decide +kernel
theorem dX7_day_22 : decode cX7_day 22 = .ok (.iconst 3, 1) := by decide +kernel
theorem dX7_day_23 : decode cX7_day 23 = .ok (.invokevirtual 87, 3) := by decide +kernel
theorem dX7_day_26 : decode cX7_day 26 = .ok (.ireturn, 1) := by decide +kernel
theorem dX7_day_27 : decode cX7_day 27 = .ok (.aload_n 0, 1) := by decide +kernel
theorem dX7_day_28 : decode cX7_day 28 = .ok (.getfield 38, 3) := by decide +kernel
theorem dX7_day_31 : decode cX7_day 31 = .ok (.invokevirtual 266, 3) := by decide +kernel
theorem dX7_day_34 : decode cX7_day 34 = .ok (.aload_n 0, 1) := by decide +kernel
theorem dX7_day_35 : decode cX7_day 35 = .ok (.getfield 38, 3) := by decide +kernel
theorem dX7_day_38 : decode cX7_day 38 = .ok (.dup, 1) := by decide +kernel
theorem dX7_day_39 : decode cX7_day 39 = .ok (.getfield 166, 3) := by decide +kernel
theorem dX7_day_42 : decode cX7_day 42 = .ok (.iconst 1, 1) := by decide +kernel
theorem dX7_day_43 : decode cX7_day 43 = .ok (.iadd, 1) := by decide +kernel
theorem dX7_day_44 : decode cX7_day 44 = .ok (.putfield 166, 3) := by decide +kernel
theorem dX7_day_47 : decode cX7_day 47 = .ok (.aload_n 0, 1) := by decide +kernel
theorem dX7_day_48 : decode cX7_day 48 = .ok (.getfield 47, 3) := by decide +kernel
theorem dX7_day_51 : decode cX7_day 51 = .ok (.aload_n 0, 1) := by decide +kernel
theorem dX7_day_52 : decode cX7_day 52 = .ok (.getfield 38, 3) := by decide +kernel
theorem dX7_day_55 : decode cX7_day 55 = .ok (.getfield 121, 3) := by decide +kernel
theorem dX7_day_58 : decode cX7_day 58 = .ok (.aload_n 0, 1) := by decide +kernel
theorem dX7_day_59 : decode cX7_day 59 = .ok (.getfield 38, 3) := by decide +kernel
theorem dX7_day_62 : decode cX7_day 62 = .ok (.getfield 166, 3) := by decide +kernel
theorem dX7_day_65 : decode cX7_day 65 = .ok (.invokevirtual 155, 3) := by decide +kernel
theorem dX7_day_68 : decode cX7_day 68 = .ok (.aload_n 0, 1) := by decide +kernel
theorem dX7_day_69 : decode cX7_day 69 = .ok (.getfield 47, 3) := by decide +kernel
theorem dX7_day_72 : decode cX7_day 72 = .ok (.aload_n 0, 1) := by decide +kernel
theorem dX7_day_73 : decode cX7_day 73 = .ok (.getfield 38, 3) := by decide +kernel
theorem dX7_day_76 : decode cX7_day 76 = .ok (.getfield 121, 3) := by decide +kernel
theorem dX7_day_79 : decode cX7_day 79 = .ok (.aload_n 0, 1) := by decide +kernel
theorem dX7_day_80 : decode cX7_day 80 = .ok (.getfield 38, 3) := by decide +kernel
theorem dX7_day_83 : decode cX7_day 83 = .ok (.getfield 166, 3) := by decide +kernel
theorem dX7_day_86 : decode cX7_day 86 = .ok (.iconst 1, 1) := by decide +kernel
theorem dX7_day_87 : decode cX7_day 87 = .ok (.isub, 1) := by decide +kernel
theorem dX7_day_88 : decode cX7_day 88 = .ok (.invokevirtual 155, 3) := by decide +kernel
theorem dX7_day_91 : decode cX7_day 91 = .ok (.iconst (-1), 1) := by decide +kernel
theorem dX7_day_92 : decode cX7_day 92 = .ok (.ixor, 1) := by decide +kernel
theorem dX7_day_93 : decode cX7_day 93 = .ok (.iand, 1) := by decide +kernel
theorem dX7_day_94 : decode cX7_day 94 = .ok (.ireturn, 1) := by decide +kernel
theorem dX7_undo_0 : decode cX7_undo 0 = .ok (.aload_n 0, 1) := by decide +kernel
theorem dX7_undo_1 : decode cX7_undo 1 = .ok (.getfield 38, 3) := by decide +kernel
theorem dX7_undo_4 : decode cX7_undo 4 = .ok (.invokevirtual 272, 3) := by decide +kernel
theorem dX7_undo_7 : decode cX7_undo 7 = .ok (.istore_n 1, 1) := by decide +kernel
theorem dX7_undo_8 : decode cX7_undo 8 = .ok (.aload_n 0, 1) := by decide +kernel
theorem dX7_undo_9 : decode cX7_undo 9 = .ok (.iload_n 1, 1) := by decide +kernel
theorem dX7_undo_10 : decode cX7_undo 10 = .ok (.ifCond .eq 7, 3) := by decide +kernel
theorem dX7_undo_13 : decode cX7_undo 13 = .ok (.iconst 0, 1) := by decide +kernel
theorem dX7_undo_14 : decode cX7_undo 14 = .ok (.goto 5, 3) := by decide +kernel
theorem dX7_undo_17 : decode cX7_undo 17 = .ok (.bipush 6, 2) := by decide +kernel
theorem dX7_undo_19 : decode cX7_undo 19 = .ok (.putfield 107, 3) := by decide +kernel
theorem dX7_undo_22 : decode cX7_undo 22 = .ok (.iload_n 1, 1) := by decide +kernel
theorem dX7_undo_23 : decode cX7_undo 23 = .ok (.ireturn, 1) := by decide +kernel
theorem dX7_image_0 : decode cX7_image 0 = .ok (.aload_n 0, 1) := by decide +kernel
theorem dX7_image_1 : decode cX7_image 1 = .ok (.invokevirtual 151, 3) := by decide +kernel
theorem dX7_image_4 : decode cX7_image 4 = .ok (.ifCond .eq 5, 3) := by decide +kernel
theorem dX7_image_7 : decode cX7_image 7 = .ok (.iconst (-1), 1) := by decide +kernel
theorem dX7_image_8 : decode cX7_image 8 = .ok (.ireturn, 1) := by decide +kernel
theorem dX7_image_9 : decode cX7_image 9 = .ok (.aload_n 0, 1) := by decide +kernel
theorem dX7_image_10 : decode cX7_image 10 = .ok (.getfield 38, 3) := by decide +kernel
theorem dX7_image_13 : decode cX7_image 13 = .ok (.invokevirtual 275, 3) := by decide +kernel
theorem dX7_image_16 : decode cX7_image 16 = .ok (.istore_n 1, 1) := by decide +kernel
theorem dX7_image_17 : decode cX7_image 17 = .ok (.iload_n 1, 1) := by decide +kernel
theorem dX7_image_18 : decode cX7_image 18 = .ok (.iconst (-1), 1) := by decide +kernel
theorem dX7_image_19 : decode cX7_image 19 = .ok (.if_icmp .ne 11, 3) := by decide +kernel
theorem dX7_image_22 : decode cX7_image 22 = .ok (.aload_n 0, 1) := by decide +kernel
theorem dX7_image_23 : decode cX7_image 23 = .ok (.iconst 3, 1) := by decide +kernel
theorem dX7_image_24 : decode cX7_image 24 = .ok (.invokevirtual 87, 3) := by decide +kernel
theorem dX7_image_27 : decode cX7_image 27 = .ok (.goto 4, 3) := by decide +kernel
theorem dX7_image_30 : decode cX7_image 30 = .ok (.iload_n 1, 1) := by decide +kernel
theorem dX7_image_31 : decode cX7_image 31 = .ok (.ireturn, 1) := by decide +kernel
theorem dX7_back_0 : decode cX7_back 0 = .ok (.aload_n 0, 1) := by decide +kernel
theorem dX7_back_1 : decode cX7_back 1 = .ok (.getfield 38, 3) := by decide +kernel
theorem dX7_back_4 : decode cX7_back 4 = .ok (.iload_n 1, 1) := by decide +kernel
theorem dX7_back_5 : decode cX7_back 5 = .ok (.invokevirtual 279, 3) := by decide +kernel
theorem dX7_back_8 : decode cX7_back 8 = .ok (.istore_n 2, 1) := by decide +kernel
theorem dX7_back_9 : decode cX7_back 9 = .ok (.aload_n 0, 1) := by decide +kernel
theorem dX7_back_10 : decode cX7_back 10 = .ok (.iload_n 2, 1) := by decide +kernel
theorem dX7_back_11 : decode cX7_back 11 = .ok (.ifCond .eq 7, 3) := by decide +kernel
theorem dX7_back_14 : decode cX7_back 14 = .ok (.iconst 0, 1) := by decide +kernel
theorem dX7_back_15 : decode cX7_back 15 = .ok (.goto 4, 3) := by decide +kernel
theorem dX7_back_18 : decode cX7_back 18 = .ok (.iconst 1, 1) := by decide +kernel
theorem dX7_back_19 : decode cX7_back 19 = .ok (.putfield 107, 3) := by decide +kernel
theorem dX7_back_22 : decode cX7_back 22 = .ok (.iload_n 2, 1) := by decide +kernel
theorem dX7_back_23 : decode cX7_back 23 = .ok (.ireturn, 1) := by decide +kernel
theorem dX7_led_0 : decode cX7_led 0 = .ok (.iload_n 1, 1) := by decide +kernel
theorem dX7_led_1 : decode cX7_led 1 = .ok (.istore_n 2, 1) := by decide +kernel
theorem dX7_led_2 : decode cX7_led 2 = .ok (.iconst 0, 1) := by decide +kernel
theorem dX7_led_3 : decode cX7_led 3 = .ok (.istore_n 3, 1) := by decide +kernel
theorem dX7_led_4 : decode cX7_led 4 = .ok (.iload_n 3, 1) := by decide +kernel
theorem dX7_led_5 : decode cX7_led 5 = .ok (.aload_n 0, 1) := by decide +kernel
theorem dX7_led_6 : decode cX7_led 6 = .ok (.getfield 10, 3) := by decide +kernel
theorem dX7_led_9 : decode cX7_led 9 = .ok (.getfield 104, 3) := by decide +kernel
theorem dX7_led_12 : decode cX7_led 12 = .ok (.if_icmp .ge 39, 3) := by decide +kernel
theorem dX7_led_15 : decode cX7_led 15 = .ok (.aload_n 0, 1) := by decide +kernel
theorem dX7_led_16 : decode cX7_led 16 = .ok (.getfield 47, 3) := by decide +kernel
theorem dX7_led_19 : decode cX7_led 19 = .ok (.aload_n 0, 1) := by decide +kernel
theorem dX7_led_20 : decode cX7_led 20 = .ok (.getfield 38, 3) := by decide +kernel
theorem dX7_led_23 : decode cX7_led 23 = .ok (.getfield 121, 3) := by decide +kernel
theorem dX7_led_26 : decode cX7_led 26 = .ok (.iload_n 3, 1) := by decide +kernel
theorem dX7_led_27 : decode cX7_led 27 = .ok (.invokevirtual 142, 3) := by decide +kernel
theorem dX7_led_30 : decode cX7_led 30 = .ok (.sipush 1000, 3) := by decide +kernel
theorem dX7_led_33 : decode cX7_led 33 = .ok (.if_icmp .lt 12, 3) := by decide +kernel
theorem dX7_led_36 : decode cX7_led 36 = .ok (.iload_n 2, 1) := by decide +kernel
theorem dX7_led_37 : decode cX7_led 37 = .ok (.ifCond .ne 5, 3) := by decide +kernel
theorem dX7_led_40 : decode cX7_led 40 = .ok (.iload_n 3, 1) := by decide +kernel
theorem dX7_led_41 : decode cX7_led 41 = .ok (.ireturn, 1) := by decide +kernel
theorem dX7_led_42 : decode cX7_led 42 = .ok (.iinc 2 (-1), 3) := by decide +kernel
