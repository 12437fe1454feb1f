-- J0_charAt_5068e
theorem eJ0_charAt_5068e {d : Nat} {h : qH} {Q : Option (Option Value) → qH → Prop} {s0 : Nat} {x1 : Int32} : WM d mJ0_charAt_5068e [.retAddr s0, .int x1] h Q = WP d mJ0_charAt_5068e (0, 0) 0 [some (.retAddr s0), some (.int x1)] [] h Q := rfl
def rJ0_charAt_5068e_0 := W_aload0 (M := mJ0_charAt_5068e) dJ0_charAt_5068e_0 (q := 1) rfl
def rJ0_charAt_5068e_0b := W_aloadR0 (M := mJ0_charAt_5068e) dJ0_charAt_5068e_0 (q := 1) rfl
def rJ0_charAt_5068e_1 := W_invT0 (M := mJ0_charAt_5068e) dJ0_charAt_5068e_1 (q := 4) rfl ml0_32_492 rfl rfl rfl rfl
def rJ0_charAt_5068e_4 := W_if_eq (M := mJ0_charAt_5068e) dJ0_charAt_5068e_4 (q := 7) rfl (t := 16) rfl
def rJ0_charAt_5068e_7 := W_aload0 (M := mJ0_charAt_5068e) dJ0_charAt_5068e_7 (q := 8) rfl
def rJ0_charAt_5068e_7b := W_aloadR0 (M := mJ0_charAt_5068e) dJ0_charAt_5068e_7 (q := 8) rfl
def rJ0_charAt_5068e_11 := W_iload1 (M := mJ0_charAt_5068e) dJ0_charAt_5068e_11 (q := 12) rfl
def rJ0_charAt_5068e_12 := W_invS2 (M := mJ0_charAt_5068e) dJ0_charAt_5068e_12 (q := 15) rfl ml1_32_495 rfl rfl rfl
def rJ0_charAt_5068e_15 := W_cret (M := mJ0_charAt_5068e) dJ0_charAt_5068e_15 rfl
def rJ0_charAt_5068e_16 := W_aload0 (M := mJ0_charAt_5068e) dJ0_charAt_5068e_16 (q := 17) rfl
def rJ0_charAt_5068e_16b := W_aloadR0 (M := mJ0_charAt_5068e) dJ0_charAt_5068e_16 (q := 17) rfl
def rJ0_charAt_5068e_20 := W_iload1 (M := mJ0_charAt_5068e) dJ0_charAt_5068e_20 (q := 21) rfl
def rJ0_charAt_5068e_24 := W_cret (M := mJ0_charAt_5068e) dJ0_charAt_5068e_24 rfl
-- J0_checkIndex_df160
theorem eJ0_checkIndex_df160 {d : Nat} {h : qH} {Q : Option (Option Value) → qH → Prop} {x1 : Int32} {x2 : Int32} : WM d mJ0_checkIndex_df160 [.int x1, .int x2] h Q = WP d mJ0_checkIndex_df160 (0, 0) 0 [some (.int x1), some (.int x2)] [] h Q := rfl
def rJ0_checkIndex_df160_0 := W_iload0 (M := mJ0_checkIndex_df160) dJ0_checkIndex_df160_0 (q := 1) rfl
def rJ0_checkIndex_df160_1 := W_iload1 (M := mJ0_checkIndex_df160) dJ0_checkIndex_df160_1 (q := 2) rfl
def rJ0_checkIndex_df160_5 := W_invS3 (M := mJ0_checkIndex_df160) dJ0_checkIndex_df160_5 (q := 8) rfl ml1_32_1059 rfl rfl rfl
def rJ0_checkIndex_df160_8 := W_popI (M := mJ0_checkIndex_df160) dJ0_checkIndex_df160_8 (q := 9) rfl
def rJ0_checkIndex_df160_9 := W_vret (M := mJ0_checkIndex_df160) dJ0_checkIndex_df160_9 rfl
-- J0_coder_7d493
theorem eJ0_coder_7d493 {d : Nat} {h : qH} {Q : Option (Option Value) → qH → Prop} {s0 : Nat} : WM d mJ0_coder_7d493 [.retAddr s0] h Q = WP d mJ0_coder_7d493 (0, 0) 0 [some (.retAddr s0)] [] h Q := rfl
def rJ0_coder_7d493_3 := W_if_eq (M := mJ0_coder_7d493) dJ0_coder_7d493_3 (q := 6) rfl (t := 13) rfl
def rJ0_coder_7d493_6 := W_aload0 (M := mJ0_coder_7d493) dJ0_coder_7d493_6 (q := 7) rfl
def rJ0_coder_7d493_6b := W_aloadR0 (M := mJ0_coder_7d493) dJ0_coder_7d493_6 (q := 7) rfl
def rJ0_coder_7d493_10 := W_goto (M := mJ0_coder_7d493) dJ0_coder_7d493_10 (t := 14) rfl
def rJ0_coder_7d493_13 := W_iconst (M := mJ0_coder_7d493) dJ0_coder_7d493_13 (q := 14) rfl (v := (1)) rfl
def rJ0_coder_7d493_14 := W_cret (M := mJ0_coder_7d493) dJ0_coder_7d493_14 rfl
-- J0_isLatin1_aae02
theorem eJ0_isLatin1_aae02 {d : Nat} {h : qH} {Q : Option (Option Value) → qH → Prop} {s0 : Nat} : WM d mJ0_isLatin1_aae02 [.retAddr s0] h Q = WP d mJ0_isLatin1_aae02 (0, 0) 0 [some (.retAddr s0)] [] h Q := rfl
def rJ0_isLatin1_aae02_3 := W_if_eq (M := mJ0_isLatin1_aae02) dJ0_isLatin1_aae02_3 (q := 6) rfl (t := 17) rfl
def rJ0_isLatin1_aae02_6 := W_aload0 (M := mJ0_isLatin1_aae02) dJ0_isLatin1_aae02_6 (q := 7) rfl
def rJ0_isLatin1_aae02_6b := W_aloadR0 (M := mJ0_isLatin1_aae02) dJ0_isLatin1_aae02_6 (q := 7) rfl
def rJ0_isLatin1_aae02_10 := W_if_ne (M := mJ0_isLatin1_aae02) dJ0_isLatin1_aae02_10 (q := 13) rfl (t := 17) rfl
def rJ0_isLatin1_aae02_13 := W_iconst (M := mJ0_isLatin1_aae02) dJ0_isLatin1_aae02_13 (q := 14) rfl (v := (1)) rfl
def rJ0_isLatin1_aae02_14 := W_goto (M := mJ0_isLatin1_aae02) dJ0_isLatin1_aae02_14 (t := 18) rfl
def rJ0_isLatin1_aae02_17 := W_iconst (M := mJ0_isLatin1_aae02) dJ0_isLatin1_aae02_17 (q := 18) rfl (v := (0)) rfl
def rJ0_isLatin1_aae02_18 := W_zret (M := mJ0_isLatin1_aae02) dJ0_isLatin1_aae02_18 rfl
-- J0_length_8abf5
theorem eJ0_length_8abf5 {d : Nat} {h : qH} {Q : Option (Option Value) → qH → Prop} {s0 : Nat} : WM d mJ0_length_8abf5 [.retAddr s0] h Q = WP d mJ0_length_8abf5 (0, 0) 0 [some (.retAddr s0)] [] h Q := rfl
def rJ0_length_8abf5_0 := W_aload0 (M := mJ0_length_8abf5) dJ0_length_8abf5_0 (q := 1) rfl
def rJ0_length_8abf5_0b := W_aloadR0 (M := mJ0_length_8abf5) dJ0_length_8abf5_0 (q := 1) rfl
def rJ0_length_8abf5_4 := W_alen (M := mJ0_length_8abf5) dJ0_length_8abf5_4 (q := 5) rfl
def rJ0_length_8abf5_5 := W_aload0 (M := mJ0_length_8abf5) dJ0_length_8abf5_5 (q := 6) rfl
def rJ0_length_8abf5_5b := W_aloadR0 (M := mJ0_length_8abf5) dJ0_length_8abf5_5 (q := 6) rfl
def rJ0_length_8abf5_6 := W_invT0 (M := mJ0_length_8abf5) dJ0_length_8abf5_6 (q := 9) rfl ml0_32_335 rfl rfl rfl rfl
def rJ0_length_8abf5_9 := W_ishr (M := mJ0_length_8abf5) dJ0_length_8abf5_9 (q := 10) rfl
def rJ0_length_8abf5_10 := W_iret (M := mJ0_length_8abf5) dJ0_length_8abf5_10 rfl
-- J1_charAt_3b067
theorem eJ1_charAt_3b067 {d : Nat} {h : qH} {Q : Option (Option Value) → qH → Prop} {x1 : Nat} {x2 : Int32} : WM d mJ1_charAt_3b067 [.retAddr x1, .int x2] h Q = WP d mJ1_charAt_3b067 (0, 0) 0 [some (.retAddr x1), some (.int x2)] [] h Q := rfl
def rJ1_charAt_3b067_0 := W_iload1 (M := mJ1_charAt_3b067) dJ1_charAt_3b067_0 (q := 1) rfl
def rJ1_charAt_3b067_1 := W_aload0 (M := mJ1_charAt_3b067) dJ1_charAt_3b067_1 (q := 2) rfl
def rJ1_charAt_3b067_1b := W_aloadR0 (M := mJ1_charAt_3b067) dJ1_charAt_3b067_1 (q := 2) rfl
def rJ1_charAt_3b067_2 := W_alen (M := mJ1_charAt_3b067) dJ1_charAt_3b067_2 (q := 3) rfl
def rJ1_charAt_3b067_3 := W_invS2 (M := mJ1_charAt_3b067) dJ1_charAt_3b067_3 (q := 6) rfl ml1_33_9 rfl rfl rfl
def rJ1_charAt_3b067_6 := W_aload0 (M := mJ1_charAt_3b067) dJ1_charAt_3b067_6 (q := 7) rfl
def rJ1_charAt_3b067_6b := W_aloadR0 (M := mJ1_charAt_3b067) dJ1_charAt_3b067_6 (q := 7) rfl
def rJ1_charAt_3b067_7 := W_iload1 (M := mJ1_charAt_3b067) dJ1_charAt_3b067_7 (q := 8) rfl
def rJ1_charAt_3b067_8 := W_bald (M := mJ1_charAt_3b067) dJ1_charAt_3b067_8 (q := 9) rfl
def rJ1_charAt_3b067_9 := W_sipush (M := mJ1_charAt_3b067) dJ1_charAt_3b067_9 (q := 12) rfl (v := (255)) rfl
def rJ1_charAt_3b067_12 := W_iand (M := mJ1_charAt_3b067) dJ1_charAt_3b067_12 (q := 13) rfl
def rJ1_charAt_3b067_13 := W_i2c (M := mJ1_charAt_3b067) dJ1_charAt_3b067_13 (q := 14) rfl
def rJ1_charAt_3b067_14 := W_cret (M := mJ1_charAt_3b067) dJ1_charAt_3b067_14 rfl
-- J3_checkIndex_8e157
theorem eJ3_checkIndex_8e157 {d : Nat} {h : qH} {Q : Option (Option Value) → qH → Prop} {x1 : Int32} {x2 : Int32} {x3 : Nat} : WM d mJ3_checkIndex_8e157 [.int x1, .int x2, .retAddr x3] h Q = WP d mJ3_checkIndex_8e157 (0, 0) 0 [some (.int x1), some (.int x2), some (.retAddr x3)] [] h Q := rfl
def rJ3_checkIndex_8e157_0 := W_iload0 (M := mJ3_checkIndex_8e157) dJ3_checkIndex_8e157_0 (q := 1) rfl
def rJ3_checkIndex_8e157_1 := W_if_lt (M := mJ3_checkIndex_8e157) dJ3_checkIndex_8e157_1 (q := 4) rfl (t := 9) rfl
def rJ3_checkIndex_8e157_4 := W_iload0 (M := mJ3_checkIndex_8e157) dJ3_checkIndex_8e157_4 (q := 5) rfl
def rJ3_checkIndex_8e157_5 := W_iload1 (M := mJ3_checkIndex_8e157) dJ3_checkIndex_8e157_5 (q := 6) rfl
def rJ3_checkIndex_8e157_6 := W_icmp_lt (M := mJ3_checkIndex_8e157) dJ3_checkIndex_8e157_6 (q := 9) rfl (t := 16) rfl
def rJ3_checkIndex_8e157_9 := W_aload2 (M := mJ3_checkIndex_8e157) dJ3_checkIndex_8e157_9 (q := 10) rfl
def rJ3_checkIndex_8e157_9b := W_aloadR2 (M := mJ3_checkIndex_8e157) dJ3_checkIndex_8e157_9 (q := 10) rfl
def rJ3_checkIndex_8e157_10 := W_iload0 (M := mJ3_checkIndex_8e157) dJ3_checkIndex_8e157_10 (q := 11) rfl
def rJ3_checkIndex_8e157_11 := W_iload1 (M := mJ3_checkIndex_8e157) dJ3_checkIndex_8e157_11 (q := 12) rfl
def rJ3_checkIndex_8e157_16 := W_iload0 (M := mJ3_checkIndex_8e157) dJ3_checkIndex_8e157_16 (q := 17) rfl
def rJ3_checkIndex_8e157_17 := W_iret (M := mJ3_checkIndex_8e157) dJ3_checkIndex_8e157_17 rfl
-- J6_bitCount_0f7a4
theorem eJ6_bitCount_0f7a4 {d : Nat} {h : qH} {Q : Option (Option Value) → qH → Prop} {x1 : Int32} : WM d mJ6_bitCount_0f7a4 [.int x1] h Q = WP d mJ6_bitCount_0f7a4 (0, 0) 0 [some (.int x1)] [] h Q := rfl
def rJ6_bitCount_0f7a4_0 := W_iload0 (M := mJ6_bitCount_0f7a4) dJ6_bitCount_0f7a4_0 (q := 1) rfl
def rJ6_bitCount_0f7a4_1 := W_iload0 (M := mJ6_bitCount_0f7a4) dJ6_bitCount_0f7a4_1 (q := 2) rfl
def rJ6_bitCount_0f7a4_2 := W_iconst (M := mJ6_bitCount_0f7a4) dJ6_bitCount_0f7a4_2 (q := 3) rfl (v := (1)) rfl
def rJ6_bitCount_0f7a4_3 := W_iushr (M := mJ6_bitCount_0f7a4) dJ6_bitCount_0f7a4_3 (q := 4) rfl
def rJ6_bitCount_0f7a4_4 := W_ldc_w (M := mJ6_bitCount_0f7a4) dJ6_bitCount_0f7a4_4 (q := 7) rfl cs31_265
def rJ6_bitCount_0f7a4_7 := W_iand (M := mJ6_bitCount_0f7a4) dJ6_bitCount_0f7a4_7 (q := 8) rfl
def rJ6_bitCount_0f7a4_8 := W_isub (M := mJ6_bitCount_0f7a4) dJ6_bitCount_0f7a4_8 (q := 9) rfl
def rJ6_bitCount_0f7a4_9 := W_istore0 (M := mJ6_bitCount_0f7a4) dJ6_bitCount_0f7a4_9 (q := 10) rfl
def rJ6_bitCount_0f7a4_10 := W_iload0 (M := mJ6_bitCount_0f7a4) dJ6_bitCount_0f7a4_10 (q := 11) rfl
def rJ6_bitCount_0f7a4_11 := W_ldc_w (M := mJ6_bitCount_0f7a4) dJ6_bitCount_0f7a4_11 (q := 14) rfl cs31_266
def rJ6_bitCount_0f7a4_14 := W_iand (M := mJ6_bitCount_0f7a4) dJ6_bitCount_0f7a4_14 (q := 15) rfl
def rJ6_bitCount_0f7a4_15 := W_iload0 (M := mJ6_bitCount_0f7a4) dJ6_bitCount_0f7a4_15 (q := 16) rfl
def rJ6_bitCount_0f7a4_16 := W_iconst (M := mJ6_bitCount_0f7a4) dJ6_bitCount_0f7a4_16 (q := 17) rfl (v := (2)) rfl
def rJ6_bitCount_0f7a4_17 := W_iushr (M := mJ6_bitCount_0f7a4) dJ6_bitCount_0f7a4_17 (q := 18) rfl
def rJ6_bitCount_0f7a4_18 := W_ldc_w (M := mJ6_bitCount_0f7a4) dJ6_bitCount_0f7a4_18 (q := 21) rfl cs31_266
def rJ6_bitCount_0f7a4_21 := W_iand (M := mJ6_bitCount_0f7a4) dJ6_bitCount_0f7a4_21 (q := 22) rfl
def rJ6_bitCount_0f7a4_22 := W_iadd (M := mJ6_bitCount_0f7a4) dJ6_bitCount_0f7a4_22 (q := 23) rfl
def rJ6_bitCount_0f7a4_23 := W_istore0 (M := mJ6_bitCount_0f7a4) dJ6_bitCount_0f7a4_23 (q := 24) rfl
def rJ6_bitCount_0f7a4_24 := W_iload0 (M := mJ6_bitCount_0f7a4) dJ6_bitCount_0f7a4_24 (q := 25) rfl
def rJ6_bitCount_0f7a4_25 := W_iload0 (M := mJ6_bitCount_0f7a4) dJ6_bitCount_0f7a4_25 (q := 26) rfl
def rJ6_bitCount_0f7a4_26 := W_iconst (M := mJ6_bitCount_0f7a4) dJ6_bitCount_0f7a4_26 (q := 27) rfl (v := (4)) rfl
def rJ6_bitCount_0f7a4_27 := W_iushr (M := mJ6_bitCount_0f7a4) dJ6_bitCount_0f7a4_27 (q := 28) rfl
def rJ6_bitCount_0f7a4_28 := W_iadd (M := mJ6_bitCount_0f7a4) dJ6_bitCount_0f7a4_28 (q := 29) rfl
def rJ6_bitCount_0f7a4_29 := W_ldc_w (M := mJ6_bitCount_0f7a4) dJ6_bitCount_0f7a4_29 (q := 32) rfl cs31_267
def rJ6_bitCount_0f7a4_32 := W_iand (M := mJ6_bitCount_0f7a4) dJ6_bitCount_0f7a4_32 (q := 33) rfl
def rJ6_bitCount_0f7a4_33 := W_istore0 (M := mJ6_bitCount_0f7a4) dJ6_bitCount_0f7a4_33 (q := 34) rfl
def rJ6_bitCount_0f7a4_34 := W_iload0 (M := mJ6_bitCount_0f7a4) dJ6_bitCount_0f7a4_34 (q := 35) rfl
def rJ6_bitCount_0f7a4_35 := W_iload0 (M := mJ6_bitCount_0f7a4) dJ6_bitCount_0f7a4_35 (q := 36) rfl
def rJ6_bitCount_0f7a4_36 := W_bipush (M := mJ6_bitCount_0f7a4) dJ6_bitCount_0f7a4_36 (q := 38) rfl (v := (8)) rfl
def rJ6_bitCount_0f7a4_38 := W_iushr (M := mJ6_bitCount_0f7a4) dJ6_bitCount_0f7a4_38 (q := 39) rfl
def rJ6_bitCount_0f7a4_39 := W_iadd (M := mJ6_bitCount_0f7a4) dJ6_bitCount_0f7a4_39 (q := 40) rfl
def rJ6_bitCount_0f7a4_40 := W_istore0 (M := mJ6_bitCount_0f7a4) dJ6_bitCount_0f7a4_40 (q := 41) rfl
def rJ6_bitCount_0f7a4_41 := W_iload0 (M := mJ6_bitCount_0f7a4) dJ6_bitCount_0f7a4_41 (q := 42) rfl
def rJ6_bitCount_0f7a4_42 := W_iload0 (M := mJ6_bitCount_0f7a4) dJ6_bitCount_0f7a4_42 (q := 43) rfl
def rJ6_bitCount_0f7a4_43 := W_bipush (M := mJ6_bitCount_0f7a4) dJ6_bitCount_0f7a4_43 (q := 45) rfl (v := (16)) rfl
def rJ6_bitCount_0f7a4_45 := W_iushr (M := mJ6_bitCount_0f7a4) dJ6_bitCount_0f7a4_45 (q := 46) rfl
def rJ6_bitCount_0f7a4_46 := W_iadd (M := mJ6_bitCount_0f7a4) dJ6_bitCount_0f7a4_46 (q := 47) rfl
def rJ6_bitCount_0f7a4_47 := W_istore0 (M := mJ6_bitCount_0f7a4) dJ6_bitCount_0f7a4_47 (q := 48) rfl
def rJ6_bitCount_0f7a4_48 := W_iload0 (M := mJ6_bitCount_0f7a4) dJ6_bitCount_0f7a4_48 (q := 49) rfl
def rJ6_bitCount_0f7a4_49 := W_bipush (M := mJ6_bitCount_0f7a4) dJ6_bitCount_0f7a4_49 (q := 51) rfl (v := (63)) rfl
def rJ6_bitCount_0f7a4_51 := W_iand (M := mJ6_bitCount_0f7a4) dJ6_bitCount_0f7a4_51 (q := 52) rfl
def rJ6_bitCount_0f7a4_52 := W_iret (M := mJ6_bitCount_0f7a4) dJ6_bitCount_0f7a4_52 rfl
-- X0_agreeing
theorem eX0_agreeing {d : Nat} {h : qH} {Q : Option (Option Value) → qH → Prop} {s0 : Nat} {x1 : Int32} {x2 : Int32} {x3 : Int32} : WM d mX0_agreeing [.ref s0, .int x1, .int x2, .int x3] h Q = WP d mX0_agreeing (0, 0) 0 [some (.ref s0), some (.int x1), some (.int x2), some (.int x3), none, none] [] h Q := rfl
def rX0_agreeing_0 := W_iconst (M := mX0_agreeing) dX0_agreeing_0 (q := 1) rfl (v := (0)) rfl
def rX0_agreeing_1 := W_istore4 (M := mX0_agreeing) dX0_agreeing_1 (q := 3) rfl
def rX0_agreeing_3 := W_iconst (M := mX0_agreeing) dX0_agreeing_3 (q := 4) rfl (v := (0)) rfl
def rX0_agreeing_4 := W_istore5 (M := mX0_agreeing) dX0_agreeing_4 (q := 6) rfl
def rX0_agreeing_6 := W_iload5 (M := mX0_agreeing) dX0_agreeing_6 (q := 8) rfl
def rX0_agreeing_8 := W_aload0 (M := mX0_agreeing) dX0_agreeing_8 (q := 9) rfl
def rX0_agreeing_8b := W_aloadR0 (M := mX0_agreeing) dX0_agreeing_8 (q := 9) rfl
def rX0_agreeing_9 := W_getR (M := mX0_agreeing) dX0_agreeing_9 (q := 12) rfl fl0_24 ⟨_, rfl⟩
def rX0_agreeing_12 := W_getI (M := mX0_agreeing) dX0_agreeing_12 (q := 15) rfl fl0_32 (Or.inl rfl)
def rX0_agreeing_15 := W_icmp_ge (M := mX0_agreeing) dX0_agreeing_15 (q := 18) rfl (t := 61) rfl
def rX0_agreeing_18 := W_aload0 (M := mX0_agreeing) dX0_agreeing_18 (q := 19) rfl
def rX0_agreeing_18b := W_aloadR0 (M := mX0_agreeing) dX0_agreeing_18 (q := 19) rfl
def rX0_agreeing_19 := W_iload1 (M := mX0_agreeing) dX0_agreeing_19 (q := 20) rfl
def rX0_agreeing_20 := W_iload5 (M := mX0_agreeing) dX0_agreeing_20 (q := 22) rfl
def rX0_agreeing_22 := W_invV2 (M := mX0_agreeing) dX0_agreeing_22 (q := 25) rfl ml0_0_84 rfl
def rX0_agreeing_25 := W_iload3 (M := mX0_agreeing) dX0_agreeing_25 (q := 26) rfl
def rX0_agreeing_26 := W_icmp_le (M := mX0_agreeing) dX0_agreeing_26 (q := 29) rfl (t := 55) rfl
def rX0_agreeing_29 := W_aload0 (M := mX0_agreeing) dX0_agreeing_29 (q := 30) rfl
def rX0_agreeing_29b := W_aloadR0 (M := mX0_agreeing) dX0_agreeing_29 (q := 30) rfl
def rX0_agreeing_30 := W_iload1 (M := mX0_agreeing) dX0_agreeing_30 (q := 31) rfl
def rX0_agreeing_31 := W_iconst (M := mX0_agreeing) dX0_agreeing_31 (q := 32) rfl (v := (1)) rfl
def rX0_agreeing_32 := W_iload5 (M := mX0_agreeing) dX0_agreeing_32 (q := 34) rfl
def rX0_agreeing_34 := W_ishl (M := mX0_agreeing) dX0_agreeing_34 (q := 35) rfl
def rX0_agreeing_35 := W_ior (M := mX0_agreeing) dX0_agreeing_35 (q := 36) rfl
def rX0_agreeing_36 := W_iload2 (M := mX0_agreeing) dX0_agreeing_36 (q := 37) rfl
def rX0_agreeing_37 := W_iload3 (M := mX0_agreeing) dX0_agreeing_37 (q := 38) rfl
def rX0_agreeing_38 := W_invV3 (M := mX0_agreeing) dX0_agreeing_38 (q := 41) rfl ml0_0_87 rfl
def rX0_agreeing_41 := W_iload5 (M := mX0_agreeing) dX0_agreeing_41 (q := 43) rfl
def rX0_agreeing_43 := W_icmp_ne (M := mX0_agreeing) dX0_agreeing_43 (q := 46) rfl (t := 55) rfl
def rX0_agreeing_46 := W_iload4 (M := mX0_agreeing) dX0_agreeing_46 (q := 48) rfl
def rX0_agreeing_48 := W_iconst (M := mX0_agreeing) dX0_agreeing_48 (q := 49) rfl (v := (1)) rfl
def rX0_agreeing_49 := W_iload5 (M := mX0_agreeing) dX0_agreeing_49 (q := 51) rfl
def rX0_agreeing_51 := W_ishl (M := mX0_agreeing) dX0_agreeing_51 (q := 52) rfl
def rX0_agreeing_52 := W_ior (M := mX0_agreeing) dX0_agreeing_52 (q := 53) rfl
def rX0_agreeing_53 := W_istore4 (M := mX0_agreeing) dX0_agreeing_53 (q := 55) rfl
def rX0_agreeing_55 := W_iinc5 (M := mX0_agreeing) dX0_agreeing_55 (q := 58) rfl (v := (1)) rfl
def rX0_agreeing_58 := W_goto (M := mX0_agreeing) dX0_agreeing_58 (t := 6) rfl
def rX0_agreeing_61 := W_iload4 (M := mX0_agreeing) dX0_agreeing_61 (q := 63) rfl
def rX0_agreeing_63 := W_iret (M := mX0_agreeing) dX0_agreeing_63 rfl
-- X0_begin
theorem eX0_begin {d : Nat} {h : qH} {Q : Option (Option Value) → qH → Prop} {s0 : Nat} {x1 : Nat} : WM d mX0_begin [.ref s0, .ref x1] h Q = WP d mX0_begin (0, 0) 0 [some (.ref s0), some (.ref x1), none] [] h Q := rfl
def rX0_begin_0 := W_aload0 (M := mX0_begin) dX0_begin_0 (q := 1) rfl
def rX0_begin_0b := W_aloadR0 (M := mX0_begin) dX0_begin_0 (q := 1) rfl
def rX0_begin_1 := W_aload1 (M := mX0_begin) dX0_begin_1 (q := 2) rfl
def rX0_begin_1b := W_aloadR1 (M := mX0_begin) dX0_begin_1 (q := 2) rfl
def rX0_begin_2 := W_putR (M := mX0_begin) dX0_begin_2 (q := 5) rfl fl0_24 ⟨_, rfl⟩ (Or.inl rfl)
def rX0_begin_5 := W_aload0 (M := mX0_begin) dX0_begin_5 (q := 6) rfl
def rX0_begin_5b := W_aloadR0 (M := mX0_begin) dX0_begin_5 (q := 6) rfl
def rX0_begin_6 := W_iconst (M := mX0_begin) dX0_begin_6 (q := 7) rfl (v := (-1)) rfl
def rX0_begin_7 := W_putI (M := mX0_begin) dX0_begin_7 (q := 10) rfl fl0_28 rfl (Or.inl rfl)
def rX0_begin_10 := W_iconst (M := mX0_begin) dX0_begin_10 (q := 11) rfl (v := (0)) rfl
def rX0_begin_11 := W_istore2 (M := mX0_begin) dX0_begin_11 (q := 12) rfl
def rX0_begin_12 := W_iload2 (M := mX0_begin) dX0_begin_12 (q := 13) rfl
def rX0_begin_13 := W_iconst (M := mX0_begin) dX0_begin_13 (q := 14) rfl (v := (1)) rfl
def rX0_begin_14 := W_aload0 (M := mX0_begin) dX0_begin_14 (q := 15) rfl
def rX0_begin_14b := W_aloadR0 (M := mX0_begin) dX0_begin_14 (q := 15) rfl
def rX0_begin_15 := W_getR (M := mX0_begin) dX0_begin_15 (q := 18) rfl fl0_24 ⟨_, rfl⟩
def rX0_begin_18 := W_getI (M := mX0_begin) dX0_begin_18 (q := 21) rfl fl0_32 (Or.inl rfl)
def rX0_begin_21 := W_ishl (M := mX0_begin) dX0_begin_21 (q := 22) rfl
def rX0_begin_22 := W_icmp_ge (M := mX0_begin) dX0_begin_22 (q := 25) rfl (t := 69) rfl
def rX0_begin_25 := W_aload0 (M := mX0_begin) dX0_begin_25 (q := 26) rfl
def rX0_begin_25b := W_aloadR0 (M := mX0_begin) dX0_begin_25 (q := 26) rfl
def rX0_begin_26 := W_iload2 (M := mX0_begin) dX0_begin_26 (q := 27) rfl
def rX0_begin_27 := W_bipush (M := mX0_begin) dX0_begin_27 (q := 29) rfl (v := (63)) rfl
def rX0_begin_29 := W_invV2 (M := mX0_begin) dX0_begin_29 (q := 32) rfl ml0_0_37 rfl
def rX0_begin_32 := W_aload0 (M := mX0_begin) dX0_begin_32 (q := 33) rfl
def rX0_begin_32b := W_aloadR0 (M := mX0_begin) dX0_begin_32 (q := 33) rfl
def rX0_begin_33 := W_aload0 (M := mX0_begin) dX0_begin_33 (q := 34) rfl
def rX0_begin_33b := W_aloadR0 (M := mX0_begin) dX0_begin_33 (q := 34) rfl
def rX0_begin_34 := W_getR (M := mX0_begin) dX0_begin_34 (q := 37) rfl fl0_24 ⟨_, rfl⟩
def rX0_begin_37 := W_iload2 (M := mX0_begin) dX0_begin_37 (q := 38) rfl
def rX0_begin_38 := W_invV1 (M := mX0_begin) dX0_begin_38 (q := 41) rfl ml0_0_41 rfl
def rX0_begin_41 := W_iconst (M := mX0_begin) dX0_begin_41 (q := 42) rfl (v := (-1)) rfl
def rX0_begin_42 := W_invV2 (M := mX0_begin) dX0_begin_42 (q := 45) rfl ml0_0_45 rfl
def rX0_begin_45 := W_aload0 (M := mX0_begin) dX0_begin_45 (q := 46) rfl
def rX0_begin_45b := W_aloadR0 (M := mX0_begin) dX0_begin_45 (q := 46) rfl
def rX0_begin_46 := W_getA (M := mX0_begin) dX0_begin_46 (q := 49) rfl fl0_15 ⟨_, rfl⟩
def rX0_begin_49 := W_iconst (M := mX0_begin) dX0_begin_49 (q := 50) rfl (v := (0)) rfl
def rX0_begin_50 := W_aload0 (M := mX0_begin) dX0_begin_50 (q := 51) rfl
def rX0_begin_50b := W_aloadR0 (M := mX0_begin) dX0_begin_50 (q := 51) rfl
def rX0_begin_51 := W_getA (M := mX0_begin) dX0_begin_51 (q := 54) rfl fl0_18 ⟨_, rfl⟩
def rX0_begin_54 := W_iload2 (M := mX0_begin) dX0_begin_54 (q := 55) rfl
def rX0_begin_55 := W_bipush (M := mX0_begin) dX0_begin_55 (q := 57) rfl (v := (6)) rfl
def rX0_begin_57 := W_imul (M := mX0_begin) dX0_begin_57 (q := 58) rfl
def rX0_begin_58 := W_bipush (M := mX0_begin) dX0_begin_58 (q := 60) rfl (v := (6)) rfl
def rX0_begin_60 := W_copy (M := mX0_begin) dX0_begin_60 (q := 63) rfl ml14_0_48 ml1n_0_48 ml11n_0_48 ml12n_0_48
def rX0_begin_63 := W_iinc2 (M := mX0_begin) dX0_begin_63 (q := 66) rfl (v := (1)) rfl
def rX0_begin_66 := W_goto (M := mX0_begin) dX0_begin_66 (t := 12) rfl
def rX0_begin_69 := W_vret (M := mX0_begin) dX0_begin_69 rfl
-- X0_bitsBy
theorem eX0_bitsBy {d : Nat} {h : qH} {Q : Option (Option Value) → qH → Prop} {s0 : Nat} {x1 : Nat} {x2 : Int32} {x3 : Int32} : WM d mX0_bitsBy [.ref s0, .ref x1, .int x2, .int x3] h Q = WP d mX0_bitsBy (0, 0) 0 [some (.ref s0), some (.ref x1), some (.int x2), some (.int x3), none, none] [] h Q := rfl
def rX0_bitsBy_0 := W_iconst (M := mX0_bitsBy) dX0_bitsBy_0 (q := 1) rfl (v := (0)) rfl
def rX0_bitsBy_1 := W_istore4 (M := mX0_bitsBy) dX0_bitsBy_1 (q := 3) rfl
def rX0_bitsBy_3 := W_iconst (M := mX0_bitsBy) dX0_bitsBy_3 (q := 4) rfl (v := (0)) rfl
def rX0_bitsBy_4 := W_istore5 (M := mX0_bitsBy) dX0_bitsBy_4 (q := 6) rfl
def rX0_bitsBy_6 := W_iload5 (M := mX0_bitsBy) dX0_bitsBy_6 (q := 8) rfl
def rX0_bitsBy_8 := W_aload0 (M := mX0_bitsBy) dX0_bitsBy_8 (q := 9) rfl
def rX0_bitsBy_8b := W_aloadR0 (M := mX0_bitsBy) dX0_bitsBy_8 (q := 9) rfl
def rX0_bitsBy_9 := W_getR (M := mX0_bitsBy) dX0_bitsBy_9 (q := 12) rfl fl0_24 ⟨_, rfl⟩
def rX0_bitsBy_12 := W_getI (M := mX0_bitsBy) dX0_bitsBy_12 (q := 15) rfl fl0_32 (Or.inl rfl)
def rX0_bitsBy_15 := W_icmp_ge (M := mX0_bitsBy) dX0_bitsBy_15 (q := 18) rfl (t := 46) rfl
def rX0_bitsBy_18 := W_aload1 (M := mX0_bitsBy) dX0_bitsBy_18 (q := 19) rfl
def rX0_bitsBy_18b := W_aloadR1 (M := mX0_bitsBy) dX0_bitsBy_18 (q := 19) rfl
def rX0_bitsBy_19 := W_iload2 (M := mX0_bitsBy) dX0_bitsBy_19 (q := 20) rfl
def rX0_bitsBy_20 := W_bipush (M := mX0_bitsBy) dX0_bitsBy_20 (q := 22) rfl (v := (6)) rfl
def rX0_bitsBy_22 := W_imul (M := mX0_bitsBy) dX0_bitsBy_22 (q := 23) rfl
def rX0_bitsBy_23 := W_iload5 (M := mX0_bitsBy) dX0_bitsBy_23 (q := 25) rfl
def rX0_bitsBy_25 := W_iadd (M := mX0_bitsBy) dX0_bitsBy_25 (q := 26) rfl
def rX0_bitsBy_26 := W_iald (M := mX0_bitsBy) dX0_bitsBy_26 (q := 27) rfl
def rX0_bitsBy_27 := W_iload3 (M := mX0_bitsBy) dX0_bitsBy_27 (q := 28) rfl
def rX0_bitsBy_28 := W_icmp_gt (M := mX0_bitsBy) dX0_bitsBy_28 (q := 31) rfl (t := 40) rfl
def rX0_bitsBy_31 := W_iload4 (M := mX0_bitsBy) dX0_bitsBy_31 (q := 33) rfl
def rX0_bitsBy_33 := W_iconst (M := mX0_bitsBy) dX0_bitsBy_33 (q := 34) rfl (v := (1)) rfl
def rX0_bitsBy_34 := W_iload5 (M := mX0_bitsBy) dX0_bitsBy_34 (q := 36) rfl
def rX0_bitsBy_36 := W_ishl (M := mX0_bitsBy) dX0_bitsBy_36 (q := 37) rfl
def rX0_bitsBy_37 := W_ior (M := mX0_bitsBy) dX0_bitsBy_37 (q := 38) rfl
def rX0_bitsBy_38 := W_istore4 (M := mX0_bitsBy) dX0_bitsBy_38 (q := 40) rfl
def rX0_bitsBy_40 := W_iinc5 (M := mX0_bitsBy) dX0_bitsBy_40 (q := 43) rfl (v := (1)) rfl
def rX0_bitsBy_43 := W_goto (M := mX0_bitsBy) dX0_bitsBy_43 (t := 6) rfl
def rX0_bitsBy_46 := W_iload4 (M := mX0_bitsBy) dX0_bitsBy_46 (q := 48) rfl
def rX0_bitsBy_48 := W_iret (M := mX0_bitsBy) dX0_bitsBy_48 rfl
-- X0_burnWithout
theorem eX0_burnWithout {d : Nat} {h : qH} {Q : Option (Option Value) → qH → Prop} {s0 : Nat} {x1 : Int32} {x2 : Int32} : WM d mX0_burnWithout [.ref s0, .int x1, .int x2] h Q = WP d mX0_burnWithout (0, 0) 0 [some (.ref s0), some (.int x1), some (.int x2), none, none] [] h Q := rfl
def rX0_burnWithout_0 := W_aload0 (M := mX0_burnWithout) dX0_burnWithout_0 (q := 1) rfl
def rX0_burnWithout_0b := W_aloadR0 (M := mX0_burnWithout) dX0_burnWithout_0 (q := 1) rfl
def rX0_burnWithout_1 := W_iload1 (M := mX0_burnWithout) dX0_burnWithout_1 (q := 2) rfl
def rX0_burnWithout_2 := W_bipush (M := mX0_burnWithout) dX0_burnWithout_2 (q := 4) rfl (v := (63)) rfl
def rX0_burnWithout_4 := W_invV2 (M := mX0_burnWithout) dX0_burnWithout_4 (q := 7) rfl ml0_0_37 rfl
def rX0_burnWithout_7 := W_aload0 (M := mX0_burnWithout) dX0_burnWithout_7 (q := 8) rfl
def rX0_burnWithout_7b := W_aloadR0 (M := mX0_burnWithout) dX0_burnWithout_7 (q := 8) rfl
def rX0_burnWithout_8 := W_aload0 (M := mX0_burnWithout) dX0_burnWithout_8 (q := 9) rfl
def rX0_burnWithout_8b := W_aloadR0 (M := mX0_burnWithout) dX0_burnWithout_8 (q := 9) rfl
def rX0_burnWithout_9 := W_getR (M := mX0_burnWithout) dX0_burnWithout_9 (q := 12) rfl fl0_24 ⟨_, rfl⟩
def rX0_burnWithout_12 := W_iload1 (M := mX0_burnWithout) dX0_burnWithout_12 (q := 13) rfl
def rX0_burnWithout_13 := W_invV1 (M := mX0_burnWithout) dX0_burnWithout_13 (q := 16) rfl ml0_0_41 rfl
def rX0_burnWithout_16 := W_iload2 (M := mX0_burnWithout) dX0_burnWithout_16 (q := 17) rfl
def rX0_burnWithout_17 := W_invV2 (M := mX0_burnWithout) dX0_burnWithout_17 (q := 20) rfl ml0_0_45 rfl
def rX0_burnWithout_20 := W_iconst (M := mX0_burnWithout) dX0_burnWithout_20 (q := 21) rfl (v := (0)) rfl
def rX0_burnWithout_21 := W_istore3 (M := mX0_burnWithout) dX0_burnWithout_21 (q := 22) rfl
def rX0_burnWithout_22 := W_iconst (M := mX0_burnWithout) dX0_burnWithout_22 (q := 23) rfl (v := (0)) rfl
def rX0_burnWithout_23 := W_istore4 (M := mX0_burnWithout) dX0_burnWithout_23 (q := 25) rfl
def rX0_burnWithout_25 := W_iload4 (M := mX0_burnWithout) dX0_burnWithout_25 (q := 27) rfl
def rX0_burnWithout_27 := W_aload0 (M := mX0_burnWithout) dX0_burnWithout_27 (q := 28) rfl
def rX0_burnWithout_27b := W_aloadR0 (M := mX0_burnWithout) dX0_burnWithout_27 (q := 28) rfl
def rX0_burnWithout_28 := W_getR (M := mX0_burnWithout) dX0_burnWithout_28 (q := 31) rfl fl0_24 ⟨_, rfl⟩
def rX0_burnWithout_31 := W_getI (M := mX0_burnWithout) dX0_burnWithout_31 (q := 34) rfl fl0_32 (Or.inl rfl)
def rX0_burnWithout_34 := W_icmp_ge (M := mX0_burnWithout) dX0_burnWithout_34 (q := 37) rfl (t := 59) rfl
def rX0_burnWithout_37 := W_aload0 (M := mX0_burnWithout) dX0_burnWithout_37 (q := 38) rfl
def rX0_burnWithout_37b := W_aloadR0 (M := mX0_burnWithout) dX0_burnWithout_37 (q := 38) rfl
def rX0_burnWithout_38 := W_getA (M := mX0_burnWithout) dX0_burnWithout_38 (q := 41) rfl fl0_15 ⟨_, rfl⟩
def rX0_burnWithout_41 := W_iload4 (M := mX0_burnWithout) dX0_burnWithout_41 (q := 43) rfl
def rX0_burnWithout_43 := W_iald (M := mX0_burnWithout) dX0_burnWithout_43 (q := 44) rfl
def rX0_burnWithout_44 := W_sipush (M := mX0_burnWithout) dX0_burnWithout_44 (q := 47) rfl (v := (1000)) rfl
def rX0_burnWithout_47 := W_icmp_ge (M := mX0_burnWithout) dX0_burnWithout_47 (q := 50) rfl (t := 53) rfl
def rX0_burnWithout_50 := W_iinc3 (M := mX0_burnWithout) dX0_burnWithout_50 (q := 53) rfl (v := (1)) rfl
def rX0_burnWithout_53 := W_iinc4 (M := mX0_burnWithout) dX0_burnWithout_53 (q := 56) rfl (v := (1)) rfl
def rX0_burnWithout_56 := W_goto (M := mX0_burnWithout) dX0_burnWithout_56 (t := 25) rfl
def rX0_burnWithout_59 := W_iload3 (M := mX0_burnWithout) dX0_burnWithout_59 (q := 60) rfl
def rX0_burnWithout_60 := W_iret (M := mX0_burnWithout) dX0_burnWithout_60 rfl
-- X0_burntBy
theorem eX0_burntBy {d : Nat} {h : qH} {Q : Option (Option Value) → qH → Prop} {s0 : Nat} {x1 : Int32} {x2 : Int32} : WM d mX0_burntBy [.ref s0, .int x1, .int x2] h Q = WP d mX0_burntBy (0, 0) 0 [some (.ref s0), some (.int x1), some (.int x2)] [] h Q := rfl
def rX0_burntBy_0 := W_aload0 (M := mX0_burntBy) dX0_burntBy_0 (q := 1) rfl
def rX0_burntBy_0b := W_aloadR0 (M := mX0_burntBy) dX0_burntBy_0 (q := 1) rfl
def rX0_burntBy_1 := W_aload0 (M := mX0_burntBy) dX0_burntBy_1 (q := 2) rfl
def rX0_burntBy_1b := W_aloadR0 (M := mX0_burntBy) dX0_burntBy_1 (q := 2) rfl
def rX0_burntBy_2 := W_getA (M := mX0_burntBy) dX0_burntBy_2 (q := 5) rfl fl0_18 ⟨_, rfl⟩
def rX0_burntBy_5 := W_iload1 (M := mX0_burntBy) dX0_burntBy_5 (q := 6) rfl
def rX0_burntBy_6 := W_iload2 (M := mX0_burntBy) dX0_burntBy_6 (q := 7) rfl
def rX0_burntBy_7 := W_invV3 (M := mX0_burntBy) dX0_burntBy_7 (q := 10) rfl ml0_0_76 rfl
def rX0_burntBy_10 := W_iret (M := mX0_burntBy) dX0_burntBy_10 rfl
-- X0_burntIf
theorem eX0_burntIf {d : Nat} {h : qH} {Q : Option (Option Value) → qH → Prop} {s0 : Nat} {x1 : Int32} {x2 : Int32} {x3 : Int32} : WM d mX0_burntIf [.ref s0, .int x1, .int x2, .int x3] h Q = WP d mX0_burntIf (0, 0) 0 [some (.ref s0), some (.int x1), some (.int x2), some (.int x3)] [] h Q := rfl
def rX0_burntIf_0 := W_aload0 (M := mX0_burntIf) dX0_burntIf_0 (q := 1) rfl
def rX0_burntIf_0b := W_aloadR0 (M := mX0_burntIf) dX0_burntIf_0 (q := 1) rfl
def rX0_burntIf_1 := W_getI (M := mX0_burntIf) dX0_burntIf_1 (q := 4) rfl fl0_28 (Or.inl rfl)
def rX0_burntIf_4 := W_iload2 (M := mX0_burntIf) dX0_burntIf_4 (q := 5) rfl
def rX0_burntIf_5 := W_icmp_eq (M := mX0_burntIf) dX0_burntIf_5 (q := 8) rfl (t := 13) rfl
def rX0_burntIf_8 := W_aload0 (M := mX0_burntIf) dX0_burntIf_8 (q := 9) rfl
def rX0_burntIf_8b := W_aloadR0 (M := mX0_burntIf) dX0_burntIf_8 (q := 9) rfl
def rX0_burntIf_9 := W_iload2 (M := mX0_burntIf) dX0_burntIf_9 (q := 10) rfl
def rX0_burntIf_10 := W_invV1 (M := mX0_burntIf) dX0_burntIf_10 (q := 13) rfl ml0_0_94 rfl
def rX0_burntIf_13 := W_aload0 (M := mX0_burntIf) dX0_burntIf_13 (q := 14) rfl
def rX0_burntIf_13b := W_aloadR0 (M := mX0_burntIf) dX0_burntIf_13 (q := 14) rfl
def rX0_burntIf_14 := W_aload0 (M := mX0_burntIf) dX0_burntIf_14 (q := 15) rfl
def rX0_burntIf_14b := W_aloadR0 (M := mX0_burntIf) dX0_burntIf_14 (q := 15) rfl
def rX0_burntIf_15 := W_getA (M := mX0_burntIf) dX0_burntIf_15 (q := 18) rfl fl0_21 ⟨_, rfl⟩
def rX0_burntIf_18 := W_iload1 (M := mX0_burntIf) dX0_burntIf_18 (q := 19) rfl
def rX0_burntIf_19 := W_iload3 (M := mX0_burntIf) dX0_burntIf_19 (q := 20) rfl
def rX0_burntIf_20 := W_invV3 (M := mX0_burntIf) dX0_burntIf_20 (q := 23) rfl ml0_0_76 rfl
def rX0_burntIf_23 := W_iret (M := mX0_burntIf) dX0_burntIf_23 rfl
-- X0_causes
theorem eX0_causes {d : Nat} {h : qH} {Q : Option (Option Value) → qH → Prop} {s0 : Nat} {x1 : Int32} {x2 : Int32} : WM d mX0_causes [.ref s0, .int x1, .int x2] h Q = WP d mX0_causes (0, 0) 0 [some (.ref s0), some (.int x1), some (.int x2), none, none] [] h Q := rfl
def rX0_causes_0 := W_iconst (M := mX0_causes) dX0_causes_0 (q := 1) rfl (v := (0)) rfl
def rX0_causes_1 := W_istore3 (M := mX0_causes) dX0_causes_1 (q := 2) rfl
def rX0_causes_2 := W_iload3 (M := mX0_causes) dX0_causes_2 (q := 3) rfl
def rX0_causes_3 := W_aload0 (M := mX0_causes) dX0_causes_3 (q := 4) rfl
def rX0_causes_3b := W_aloadR0 (M := mX0_causes) dX0_causes_3 (q := 4) rfl
def rX0_causes_4 := W_getR (M := mX0_causes) dX0_causes_4 (q := 7) rfl fl0_24 ⟨_, rfl⟩
def rX0_causes_7 := W_getI (M := mX0_causes) dX0_causes_7 (q := 10) rfl fl0_32 (Or.inl rfl)
def rX0_causes_10 := W_icmp_ge (M := mX0_causes) dX0_causes_10 (q := 13) rfl (t := 59) rfl
def rX0_causes_13 := W_aload0 (M := mX0_causes) dX0_causes_13 (q := 14) rfl
def rX0_causes_13b := W_aloadR0 (M := mX0_causes) dX0_causes_13 (q := 14) rfl
def rX0_causes_14 := W_getR (M := mX0_causes) dX0_causes_14 (q := 17) rfl fl0_24 ⟨_, rfl⟩
def rX0_causes_17 := W_iload3 (M := mX0_causes) dX0_causes_17 (q := 18) rfl
def rX0_causes_18 := W_iload1 (M := mX0_causes) dX0_causes_18 (q := 19) rfl
def rX0_causes_19 := W_invV2 (M := mX0_causes) dX0_causes_19 (q := 22) rfl ml0_0_54 rfl
def rX0_causes_22 := W_istore4 (M := mX0_causes) dX0_causes_22 (q := 24) rfl
def rX0_causes_24 := W_aload0 (M := mX0_causes) dX0_causes_24 (q := 25) rfl
def rX0_causes_24b := W_aloadR0 (M := mX0_causes) dX0_causes_24 (q := 25) rfl
def rX0_causes_25 := W_getA (M := mX0_causes) dX0_causes_25 (q := 28) rfl fl0_9 ⟨_, rfl⟩
def rX0_causes_28 := W_iload3 (M := mX0_causes) dX0_causes_28 (q := 29) rfl
def rX0_causes_29 := W_iload4 (M := mX0_causes) dX0_causes_29 (q := 31) rfl
def rX0_causes_31 := W_bipush (M := mX0_causes) dX0_causes_31 (q := 33) rfl (v := (-2)) rfl
def rX0_causes_33 := W_icmp_eq (M := mX0_causes) dX0_causes_33 (q := 36) rfl (t := 44) rfl
def rX0_causes_36 := W_iload2 (M := mX0_causes) dX0_causes_36 (q := 37) rfl
def rX0_causes_37 := W_iload3 (M := mX0_causes) dX0_causes_37 (q := 38) rfl
def rX0_causes_38 := W_ishr (M := mX0_causes) dX0_causes_38 (q := 39) rfl
def rX0_causes_39 := W_iconst (M := mX0_causes) dX0_causes_39 (q := 40) rfl (v := (1)) rfl
def rX0_causes_40 := W_iand (M := mX0_causes) dX0_causes_40 (q := 41) rfl
def rX0_causes_41 := W_if_ne (M := mX0_causes) dX0_causes_41 (q := 44) rfl (t := 50) rfl
def rX0_causes_44 := W_sipush (M := mX0_causes) dX0_causes_44 (q := 47) rfl (v := (1000)) rfl
def rX0_causes_47 := W_goto (M := mX0_causes) dX0_causes_47 (t := 52) rfl
def rX0_causes_50 := W_iload4 (M := mX0_causes) dX0_causes_50 (q := 52) rfl
def rX0_causes_52 := W_iast (M := mX0_causes) dX0_causes_52 (q := 53) rfl
def rX0_causes_53 := W_iinc3 (M := mX0_causes) dX0_causes_53 (q := 56) rfl (v := (1)) rfl
def rX0_causes_56 := W_goto (M := mX0_causes) dX0_causes_56 (t := 2) rfl
def rX0_causes_59 := W_vret (M := mX0_causes) dX0_causes_59 rfl
-- X0_dayOf
theorem eX0_dayOf {d : Nat} {h : qH} {Q : Option (Option Value) → qH → Prop} {s0 : Nat} {x1 : Int32} {x2 : Int32} : WM d mX0_dayOf [.ref s0, .int x1, .int x2] h Q = WP d mX0_dayOf (0, 0) 0 [some (.ref s0), some (.int x1), some (.int x2)] [] h Q := rfl
def rX0_dayOf_0 := W_aload0 (M := mX0_dayOf) dX0_dayOf_0 (q := 1) rfl
def rX0_dayOf_0b := W_aloadR0 (M := mX0_dayOf) dX0_dayOf_0 (q := 1) rfl
def rX0_dayOf_1 := W_getA (M := mX0_dayOf) dX0_dayOf_1 (q := 4) rfl fl0_18 ⟨_, rfl⟩
def rX0_dayOf_4 := W_iload1 (M := mX0_dayOf) dX0_dayOf_4 (q := 5) rfl
def rX0_dayOf_5 := W_bipush (M := mX0_dayOf) dX0_dayOf_5 (q := 7) rfl (v := (6)) rfl
def rX0_dayOf_7 := W_imul (M := mX0_dayOf) dX0_dayOf_7 (q := 8) rfl
def rX0_dayOf_8 := W_iload2 (M := mX0_dayOf) dX0_dayOf_8 (q := 9) rfl
def rX0_dayOf_9 := W_iadd (M := mX0_dayOf) dX0_dayOf_9 (q := 10) rfl
def rX0_dayOf_10 := W_iald (M := mX0_dayOf) dX0_dayOf_10 (q := 11) rfl
def rX0_dayOf_11 := W_iret (M := mX0_dayOf) dX0_dayOf_11 rfl
-- X0_draw
theorem eX0_draw {d : Nat} {h : qH} {Q : Option (Option Value) → qH → Prop} {s0 : Nat} {x1 : Int32} : WM d mX0_draw [.ref s0, .int x1] h Q = WP d mX0_draw (0, 0) 0 [some (.ref s0), some (.int x1), none, none] [] h Q := rfl
def rX0_draw_0 := W_iconst (M := mX0_draw) dX0_draw_0 (q := 1) rfl (v := (0)) rfl
def rX0_draw_1 := W_istore2 (M := mX0_draw) dX0_draw_1 (q := 2) rfl
def rX0_draw_2 := W_iconst (M := mX0_draw) dX0_draw_2 (q := 3) rfl (v := (0)) rfl
def rX0_draw_3 := W_istore3 (M := mX0_draw) dX0_draw_3 (q := 4) rfl
def rX0_draw_4 := W_iload3 (M := mX0_draw) dX0_draw_4 (q := 5) rfl
def rX0_draw_5 := W_aload0 (M := mX0_draw) dX0_draw_5 (q := 6) rfl
def rX0_draw_5b := W_aloadR0 (M := mX0_draw) dX0_draw_5 (q := 6) rfl
def rX0_draw_6 := W_getR (M := mX0_draw) dX0_draw_6 (q := 9) rfl fl0_24 ⟨_, rfl⟩
def rX0_draw_9 := W_getI (M := mX0_draw) dX0_draw_9 (q := 12) rfl fl0_32 (Or.inl rfl)
def rX0_draw_12 := W_icmp_ge (M := mX0_draw) dX0_draw_12 (q := 15) rfl (t := 77) rfl
def rX0_draw_15 := W_aload0 (M := mX0_draw) dX0_draw_15 (q := 16) rfl
def rX0_draw_15b := W_aloadR0 (M := mX0_draw) dX0_draw_15 (q := 16) rfl
def rX0_draw_16 := W_getR (M := mX0_draw) dX0_draw_16 (q := 19) rfl fl0_24 ⟨_, rfl⟩
def rX0_draw_19 := W_iload3 (M := mX0_draw) dX0_draw_19 (q := 20) rfl
def rX0_draw_20 := W_iload1 (M := mX0_draw) dX0_draw_20 (q := 21) rfl
def rX0_draw_21 := W_invV2 (M := mX0_draw) dX0_draw_21 (q := 24) rfl ml0_0_54 rfl
def rX0_draw_24 := W_bipush (M := mX0_draw) dX0_draw_24 (q := 26) rfl (v := (-2)) rfl
def rX0_draw_26 := W_icmp_eq (M := mX0_draw) dX0_draw_26 (q := 29) rfl (t := 71) rfl
def rX0_draw_29 := W_aload0 (M := mX0_draw) dX0_draw_29 (q := 30) rfl
def rX0_draw_29b := W_aloadR0 (M := mX0_draw) dX0_draw_29 (q := 30) rfl
def rX0_draw_30 := W_bipush (M := mX0_draw) dX0_draw_30 (q := 32) rfl (v := (75)) rfl
def rX0_draw_32 := W_aload0 (M := mX0_draw) dX0_draw_32 (q := 33) rfl
def rX0_draw_32b := W_aloadR0 (M := mX0_draw) dX0_draw_32 (q := 33) rfl
def rX0_draw_33 := W_getI (M := mX0_draw) dX0_draw_33 (q := 36) rfl fl0_103 (Or.inl rfl)
def rX0_draw_36 := W_imul (M := mX0_draw) dX0_draw_36 (q := 37) rfl
def rX0_draw_37 := W_bipush (M := mX0_draw) dX0_draw_37 (q := 39) rfl (v := (74)) rfl
def rX0_draw_39 := W_iadd (M := mX0_draw) dX0_draw_39 (q := 40) rfl
def rX0_draw_40 := W_ldc (M := mX0_draw) dX0_draw_40 (q := 42) rfl cs0_106
def rX0_draw_42 := W_irem (M := mX0_draw) dX0_draw_42 (q := 43) rfl
def rX0_draw_43 := W_putI (M := mX0_draw) dX0_draw_43 (q := 46) rfl fl0_103 rfl (Or.inl rfl)
def rX0_draw_46 := W_aload0 (M := mX0_draw) dX0_draw_46 (q := 47) rfl
def rX0_draw_46b := W_aloadR0 (M := mX0_draw) dX0_draw_46 (q := 47) rfl
def rX0_draw_47 := W_getI (M := mX0_draw) dX0_draw_47 (q := 50) rfl fl0_103 (Or.inl rfl)
def rX0_draw_50 := W_bipush (M := mX0_draw) dX0_draw_50 (q := 52) rfl (v := (100)) rfl
def rX0_draw_52 := W_irem (M := mX0_draw) dX0_draw_52 (q := 53) rfl
def rX0_draw_53 := W_aload0 (M := mX0_draw) dX0_draw_53 (q := 54) rfl
def rX0_draw_53b := W_aloadR0 (M := mX0_draw) dX0_draw_53 (q := 54) rfl
def rX0_draw_54 := W_getR (M := mX0_draw) dX0_draw_54 (q := 57) rfl fl0_24 ⟨_, rfl⟩
def rX0_draw_57 := W_getA (M := mX0_draw) dX0_draw_57 (q := 60) rfl fl0_98 ⟨_, rfl⟩
def rX0_draw_60 := W_iload3 (M := mX0_draw) dX0_draw_60 (q := 61) rfl
def rX0_draw_61 := W_iald (M := mX0_draw) dX0_draw_61 (q := 62) rfl
def rX0_draw_62 := W_icmp_ge (M := mX0_draw) dX0_draw_62 (q := 65) rfl (t := 71) rfl
def rX0_draw_65 := W_iload2 (M := mX0_draw) dX0_draw_65 (q := 66) rfl
def rX0_draw_66 := W_iconst (M := mX0_draw) dX0_draw_66 (q := 67) rfl (v := (1)) rfl
def rX0_draw_67 := W_iload3 (M := mX0_draw) dX0_draw_67 (q := 68) rfl
def rX0_draw_68 := W_ishl (M := mX0_draw) dX0_draw_68 (q := 69) rfl
def rX0_draw_69 := W_ior (M := mX0_draw) dX0_draw_69 (q := 70) rfl
def rX0_draw_70 := W_istore2 (M := mX0_draw) dX0_draw_70 (q := 71) rfl
def rX0_draw_71 := W_iinc3 (M := mX0_draw) dX0_draw_71 (q := 74) rfl (v := (1)) rfl
def rX0_draw_74 := W_goto (M := mX0_draw) dX0_draw_74 (t := 4) rfl
def rX0_draw_77 := W_iload2 (M := mX0_draw) dX0_draw_77 (q := 78) rfl
def rX0_draw_78 := W_iret (M := mX0_draw) dX0_draw_78 rfl
-- X0_guess
theorem eX0_guess {d : Nat} {h : qH} {Q : Option (Option Value) → qH → Prop} {s0 : Nat} {x1 : Nat} {x2 : Int32} : WM d mX0_guess [.ref s0, .ref x1, .int x2] h Q = WP d mX0_guess (0, 0) 0 [some (.ref s0), some (.ref x1), some (.int x2), none] [] h Q := rfl
def rX0_guess_0 := W_aload0 (M := mX0_guess) dX0_guess_0 (q := 1) rfl
def rX0_guess_0b := W_aloadR0 (M := mX0_guess) dX0_guess_0 (q := 1) rfl
def rX0_guess_1 := W_iconst (M := mX0_guess) dX0_guess_1 (q := 2) rfl (v := (0)) rfl
def rX0_guess_2 := W_bipush (M := mX0_guess) dX0_guess_2 (q := 4) rfl (v := (63)) rfl
def rX0_guess_4 := W_invV2 (M := mX0_guess) dX0_guess_4 (q := 7) rfl ml0_0_37 rfl
def rX0_guess_7 := W_iconst (M := mX0_guess) dX0_guess_7 (q := 8) rfl (v := (0)) rfl
def rX0_guess_8 := W_istore3 (M := mX0_guess) dX0_guess_8 (q := 9) rfl
def rX0_guess_9 := W_iload3 (M := mX0_guess) dX0_guess_9 (q := 10) rfl
def rX0_guess_10 := W_iload2 (M := mX0_guess) dX0_guess_10 (q := 11) rfl
def rX0_guess_11 := W_icmp_ge (M := mX0_guess) dX0_guess_11 (q := 14) rfl (t := 62) rfl
def rX0_guess_14 := W_iload3 (M := mX0_guess) dX0_guess_14 (q := 15) rfl
def rX0_guess_15 := W_aload0 (M := mX0_guess) dX0_guess_15 (q := 16) rfl
def rX0_guess_15b := W_aloadR0 (M := mX0_guess) dX0_guess_15 (q := 16) rfl
def rX0_guess_16 := W_getR (M := mX0_guess) dX0_guess_16 (q := 19) rfl fl0_24 ⟨_, rfl⟩
def rX0_guess_19 := W_getI (M := mX0_guess) dX0_guess_19 (q := 22) rfl fl0_70 (Or.inl rfl)
def rX0_guess_22 := W_icmp_ge (M := mX0_guess) dX0_guess_22 (q := 25) rfl (t := 62) rfl
def rX0_guess_25 := W_aload0 (M := mX0_guess) dX0_guess_25 (q := 26) rfl
def rX0_guess_25b := W_aloadR0 (M := mX0_guess) dX0_guess_25 (q := 26) rfl
def rX0_guess_26 := W_getA (M := mX0_guess) dX0_guess_26 (q := 29) rfl fl0_9 ⟨_, rfl⟩
def rX0_guess_29 := W_aload0 (M := mX0_guess) dX0_guess_29 (q := 30) rfl
def rX0_guess_29b := W_aloadR0 (M := mX0_guess) dX0_guess_29 (q := 30) rfl
def rX0_guess_30 := W_getR (M := mX0_guess) dX0_guess_30 (q := 33) rfl fl0_24 ⟨_, rfl⟩
def rX0_guess_33 := W_getA (M := mX0_guess) dX0_guess_33 (q := 36) rfl fl0_73 ⟨_, rfl⟩
def rX0_guess_36 := W_iload3 (M := mX0_guess) dX0_guess_36 (q := 37) rfl
def rX0_guess_37 := W_iald (M := mX0_guess) dX0_guess_37 (q := 38) rfl
def rX0_guess_38 := W_aload1 (M := mX0_guess) dX0_guess_38 (q := 39) rfl
def rX0_guess_38b := W_aloadR1 (M := mX0_guess) dX0_guess_38 (q := 39) rfl
def rX0_guess_39 := W_iload3 (M := mX0_guess) dX0_guess_39 (q := 40) rfl
def rX0_guess_40 := W_iald (M := mX0_guess) dX0_guess_40 (q := 41) rfl
def rX0_guess_41 := W_bipush (M := mX0_guess) dX0_guess_41 (q := 43) rfl (v := (-2)) rfl
def rX0_guess_43 := W_icmp_ne (M := mX0_guess) dX0_guess_43 (q := 46) rfl (t := 52) rfl
def rX0_guess_46 := W_sipush (M := mX0_guess) dX0_guess_46 (q := 49) rfl (v := (1000)) rfl
def rX0_guess_49 := W_goto (M := mX0_guess) dX0_guess_49 (t := 55) rfl
def rX0_guess_52 := W_aload1 (M := mX0_guess) dX0_guess_52 (q := 53) rfl
def rX0_guess_52b := W_aloadR1 (M := mX0_guess) dX0_guess_52 (q := 53) rfl
def rX0_guess_53 := W_iload3 (M := mX0_guess) dX0_guess_53 (q := 54) rfl
def rX0_guess_54 := W_iald (M := mX0_guess) dX0_guess_54 (q := 55) rfl
def rX0_guess_55 := W_iast (M := mX0_guess) dX0_guess_55 (q := 56) rfl
def rX0_guess_56 := W_iinc3 (M := mX0_guess) dX0_guess_56 (q := 59) rfl (v := (1)) rfl
def rX0_guess_59 := W_goto (M := mX0_guess) dX0_guess_59 (t := 9) rfl
def rX0_guess_62 := W_aload0 (M := mX0_guess) dX0_guess_62 (q := 63) rfl
def rX0_guess_62b := W_aloadR0 (M := mX0_guess) dX0_guess_62 (q := 63) rfl
def rX0_guess_63 := W_iconst (M := mX0_guess) dX0_guess_63 (q := 64) rfl (v := (0)) rfl
def rX0_guess_64 := W_iconst (M := mX0_guess) dX0_guess_64 (q := 65) rfl (v := (-1)) rfl
def rX0_guess_65 := W_invV2 (M := mX0_guess) dX0_guess_65 (q := 68) rfl ml0_0_45 rfl
def rX0_guess_68 := W_vret (M := mX0_guess) dX0_guess_68 rfl
-- X0_init
theorem eX0_init {d : Nat} {h : qH} {Q : Option (Option Value) → qH → Prop} {s0 : Nat} {x1 : Nat} : WM d mX0_init [.ref s0, .ref x1] h Q = WP d mX0_init (0, 0) 0 [some (.ref s0), some (.ref x1)] [] h Q := rfl
def rX0_init_0 := W_aload0 (M := mX0_init) dX0_init_0 (q := 1) rfl
def rX0_init_0b := W_aloadR0 (M := mX0_init) dX0_init_0 (q := 1) rfl
def rX0_init_1 := W_objI (M := mX0_init) dX0_init_1 (q := 4) rfl ml10_0_3 ml2n_0_3 ml3n_0_3
def rX0_init_4 := W_aload0 (M := mX0_init) dX0_init_4 (q := 5) rfl
def rX0_init_4b := W_aloadR0 (M := mX0_init) dX0_init_4 (q := 5) rfl
def rX0_init_5 := W_bipush (M := mX0_init) dX0_init_5 (q := 7) rfl (v := (6)) rfl
def rX0_init_7 := W_newa (M := mX0_init) dX0_init_7 (q := 9) rfl
def rX0_init_9 := W_putA (M := mX0_init) dX0_init_9 (q := 12) rfl fl0_9 ⟨_, rfl⟩ (Or.inr ⟨rfl, rfl, rfl⟩)
def rX0_init_12 := W_aload0 (M := mX0_init) dX0_init_12 (q := 13) rfl
def rX0_init_12b := W_aloadR0 (M := mX0_init) dX0_init_12 (q := 13) rfl
def rX0_init_13 := W_bipush (M := mX0_init) dX0_init_13 (q := 15) rfl (v := (6)) rfl
def rX0_init_15 := W_newa (M := mX0_init) dX0_init_15 (q := 17) rfl
def rX0_init_17 := W_putA (M := mX0_init) dX0_init_17 (q := 20) rfl fl0_15 ⟨_, rfl⟩ (Or.inr ⟨rfl, rfl, rfl⟩)
def rX0_init_20 := W_aload0 (M := mX0_init) dX0_init_20 (q := 21) rfl
def rX0_init_20b := W_aloadR0 (M := mX0_init) dX0_init_20 (q := 21) rfl
def rX0_init_21 := W_sipush (M := mX0_init) dX0_init_21 (q := 24) rfl (v := (384)) rfl
def rX0_init_24 := W_newa (M := mX0_init) dX0_init_24 (q := 26) rfl
def rX0_init_26 := W_putA (M := mX0_init) dX0_init_26 (q := 29) rfl fl0_18 ⟨_, rfl⟩ (Or.inr ⟨rfl, rfl, rfl⟩)
def rX0_init_29 := W_aload0 (M := mX0_init) dX0_init_29 (q := 30) rfl
def rX0_init_29b := W_aloadR0 (M := mX0_init) dX0_init_29 (q := 30) rfl
def rX0_init_30 := W_sipush (M := mX0_init) dX0_init_30 (q := 33) rfl (v := (384)) rfl
def rX0_init_33 := W_newa (M := mX0_init) dX0_init_33 (q := 35) rfl
def rX0_init_35 := W_putA (M := mX0_init) dX0_init_35 (q := 38) rfl fl0_21 ⟨_, rfl⟩ (Or.inr ⟨rfl, rfl, rfl⟩)
def rX0_init_38 := W_aload0 (M := mX0_init) dX0_init_38 (q := 39) rfl
def rX0_init_38b := W_aloadR0 (M := mX0_init) dX0_init_38 (q := 39) rfl
def rX0_init_39 := W_aload1 (M := mX0_init) dX0_init_39 (q := 40) rfl
def rX0_init_39b := W_aloadR1 (M := mX0_init) dX0_init_39 (q := 40) rfl
def rX0_init_40 := W_putR (M := mX0_init) dX0_init_40 (q := 43) rfl fl0_24 ⟨_, rfl⟩ (Or.inl rfl)
def rX0_init_43 := W_vret (M := mX0_init) dX0_init_43 rfl
-- X0_lighter
theorem eX0_lighter {d : Nat} {h : qH} {Q : Option (Option Value) → qH → Prop} {s0 : Nat} {x1 : Int32} {x2 : Int32} : WM d mX0_lighter [.ref s0, .int x1, .int x2] h Q = WP d mX0_lighter (0, 0) 0 [some (.ref s0), some (.int x1), some (.int x2), none, none, none] [] h Q := rfl
def rX0_lighter_0 := W_aload0 (M := mX0_lighter) dX0_lighter_0 (q := 1) rfl
def rX0_lighter_0b := W_aloadR0 (M := mX0_lighter) dX0_lighter_0 (q := 1) rfl
def rX0_lighter_1 := W_iload1 (M := mX0_lighter) dX0_lighter_1 (q := 2) rfl
def rX0_lighter_2 := W_iload2 (M := mX0_lighter) dX0_lighter_2 (q := 3) rfl
def rX0_lighter_3 := W_invV2 (M := mX0_lighter) dX0_lighter_3 (q := 6) rfl ml0_0_84 rfl
def rX0_lighter_6 := W_istore3 (M := mX0_lighter) dX0_lighter_6 (q := 7) rfl
def rX0_lighter_7 := W_iload3 (M := mX0_lighter) dX0_lighter_7 (q := 8) rfl
def rX0_lighter_8 := W_sipush (M := mX0_lighter) dX0_lighter_8 (q := 11) rfl (v := (1000)) rfl
def rX0_lighter_11 := W_icmp_ge (M := mX0_lighter) dX0_lighter_11 (q := 14) rfl (t := 27) rfl
def rX0_lighter_14 := W_iload3 (M := mX0_lighter) dX0_lighter_14 (q := 15) rfl
def rX0_lighter_15 := W_aload0 (M := mX0_lighter) dX0_lighter_15 (q := 16) rfl
def rX0_lighter_15b := W_aloadR0 (M := mX0_lighter) dX0_lighter_15 (q := 16) rfl
def rX0_lighter_16 := W_getR (M := mX0_lighter) dX0_lighter_16 (q := 19) rfl fl0_24 ⟨_, rfl⟩
def rX0_lighter_19 := W_iload2 (M := mX0_lighter) dX0_lighter_19 (q := 20) rfl
def rX0_lighter_20 := W_iload1 (M := mX0_lighter) dX0_lighter_20 (q := 21) rfl
def rX0_lighter_21 := W_invV2 (M := mX0_lighter) dX0_lighter_21 (q := 24) rfl ml0_0_54 rfl
def rX0_lighter_24 := W_icmp_ne (M := mX0_lighter) dX0_lighter_24 (q := 27) rfl (t := 30) rfl
def rX0_lighter_27 := W_bipush (M := mX0_lighter) dX0_lighter_27 (q := 29) rfl (v := (-2)) rfl
def rX0_lighter_29 := W_iret (M := mX0_lighter) dX0_lighter_29 rfl
def rX0_lighter_30 := W_aload0 (M := mX0_lighter) dX0_lighter_30 (q := 31) rfl
def rX0_lighter_30b := W_aloadR0 (M := mX0_lighter) dX0_lighter_30 (q := 31) rfl
def rX0_lighter_31 := W_getR (M := mX0_lighter) dX0_lighter_31 (q := 34) rfl fl0_24 ⟨_, rfl⟩
def rX0_lighter_34 := W_iload1 (M := mX0_lighter) dX0_lighter_34 (q := 35) rfl
def rX0_lighter_35 := W_invV1 (M := mX0_lighter) dX0_lighter_35 (q := 38) rfl ml0_0_41 rfl
def rX0_lighter_38 := W_istore4 (M := mX0_lighter) dX0_lighter_38 (q := 40) rfl
def rX0_lighter_40 := W_iconst (M := mX0_lighter) dX0_lighter_40 (q := 41) rfl (v := (0)) rfl
def rX0_lighter_41 := W_istore5 (M := mX0_lighter) dX0_lighter_41 (q := 43) rfl
def rX0_lighter_43 := W_iload5 (M := mX0_lighter) dX0_lighter_43 (q := 45) rfl
def rX0_lighter_45 := W_aload0 (M := mX0_lighter) dX0_lighter_45 (q := 46) rfl
def rX0_lighter_45b := W_aloadR0 (M := mX0_lighter) dX0_lighter_45 (q := 46) rfl
def rX0_lighter_46 := W_getR (M := mX0_lighter) dX0_lighter_46 (q := 49) rfl fl0_24 ⟨_, rfl⟩
def rX0_lighter_49 := W_getI (M := mX0_lighter) dX0_lighter_49 (q := 52) rfl fl0_32 (Or.inl rfl)
def rX0_lighter_52 := W_icmp_ge (M := mX0_lighter) dX0_lighter_52 (q := 55) rfl (t := 88) rfl
def rX0_lighter_55 := W_aload0 (M := mX0_lighter) dX0_lighter_55 (q := 56) rfl
def rX0_lighter_55b := W_aloadR0 (M := mX0_lighter) dX0_lighter_55 (q := 56) rfl
def rX0_lighter_56 := W_iload1 (M := mX0_lighter) dX0_lighter_56 (q := 57) rfl
def rX0_lighter_57 := W_iload5 (M := mX0_lighter) dX0_lighter_57 (q := 59) rfl
def rX0_lighter_59 := W_invV2 (M := mX0_lighter) dX0_lighter_59 (q := 62) rfl ml0_0_84 rfl
def rX0_lighter_62 := W_aload0 (M := mX0_lighter) dX0_lighter_62 (q := 63) rfl
def rX0_lighter_62b := W_aloadR0 (M := mX0_lighter) dX0_lighter_62 (q := 63) rfl
def rX0_lighter_63 := W_getR (M := mX0_lighter) dX0_lighter_63 (q := 66) rfl fl0_24 ⟨_, rfl⟩
def rX0_lighter_66 := W_iload5 (M := mX0_lighter) dX0_lighter_66 (q := 68) rfl
def rX0_lighter_68 := W_iload2 (M := mX0_lighter) dX0_lighter_68 (q := 69) rfl
def rX0_lighter_69 := W_iload4 (M := mX0_lighter) dX0_lighter_69 (q := 71) rfl
def rX0_lighter_71 := W_invV3 (M := mX0_lighter) dX0_lighter_71 (q := 74) rfl ml0_0_91 rfl
def rX0_lighter_74 := W_iadd (M := mX0_lighter) dX0_lighter_74 (q := 75) rfl
def rX0_lighter_75 := W_iload3 (M := mX0_lighter) dX0_lighter_75 (q := 76) rfl
def rX0_lighter_76 := W_icmp_ne (M := mX0_lighter) dX0_lighter_76 (q := 79) rfl (t := 82) rfl
def rX0_lighter_79 := W_iload5 (M := mX0_lighter) dX0_lighter_79 (q := 81) rfl
def rX0_lighter_81 := W_iret (M := mX0_lighter) dX0_lighter_81 rfl
def rX0_lighter_82 := W_iinc5 (M := mX0_lighter) dX0_lighter_82 (q := 85) rfl (v := (1)) rfl
def rX0_lighter_85 := W_goto (M := mX0_lighter) dX0_lighter_85 (t := 43) rfl
def rX0_lighter_88 := W_bipush (M := mX0_lighter) dX0_lighter_88 (q := 90) rfl (v := (-2)) rfl
def rX0_lighter_90 := W_iret (M := mX0_lighter) dX0_lighter_90 rfl
-- X0_makeCome
theorem eX0_makeCome {d : Nat} {h : qH} {Q : Option (Option Value) → qH → Prop} {s0 : Nat} {x1 : Int32} : WM d mX0_makeCome [.ref s0, .int x1] h Q = WP d mX0_makeCome (0, 0) 0 [some (.ref s0), some (.int x1), none] [] h Q := rfl
def rX0_makeCome_0 := W_aload0 (M := mX0_makeCome) dX0_makeCome_0 (q := 1) rfl
def rX0_makeCome_0b := W_aloadR0 (M := mX0_makeCome) dX0_makeCome_0 (q := 1) rfl
def rX0_makeCome_1 := W_iload1 (M := mX0_makeCome) dX0_makeCome_1 (q := 2) rfl
def rX0_makeCome_2 := W_putI (M := mX0_makeCome) dX0_makeCome_2 (q := 5) rfl fl0_28 rfl (Or.inl rfl)
def rX0_makeCome_5 := W_iconst (M := mX0_makeCome) dX0_makeCome_5 (q := 6) rfl (v := (0)) rfl
def rX0_makeCome_6 := W_istore2 (M := mX0_makeCome) dX0_makeCome_6 (q := 7) rfl
def rX0_makeCome_7 := W_iload2 (M := mX0_makeCome) dX0_makeCome_7 (q := 8) rfl
def rX0_makeCome_8 := W_iconst (M := mX0_makeCome) dX0_makeCome_8 (q := 9) rfl (v := (1)) rfl
def rX0_makeCome_9 := W_aload0 (M := mX0_makeCome) dX0_makeCome_9 (q := 10) rfl
def rX0_makeCome_9b := W_aloadR0 (M := mX0_makeCome) dX0_makeCome_9 (q := 10) rfl
def rX0_makeCome_10 := W_getR (M := mX0_makeCome) dX0_makeCome_10 (q := 13) rfl fl0_24 ⟨_, rfl⟩
def rX0_makeCome_13 := W_getI (M := mX0_makeCome) dX0_makeCome_13 (q := 16) rfl fl0_32 (Or.inl rfl)
def rX0_makeCome_16 := W_ishl (M := mX0_makeCome) dX0_makeCome_16 (q := 17) rfl
def rX0_makeCome_17 := W_icmp_ge (M := mX0_makeCome) dX0_makeCome_17 (q := 20) rfl (t := 63) rfl
def rX0_makeCome_20 := W_aload0 (M := mX0_makeCome) dX0_makeCome_20 (q := 21) rfl
def rX0_makeCome_20b := W_aloadR0 (M := mX0_makeCome) dX0_makeCome_20 (q := 21) rfl
def rX0_makeCome_21 := W_iload1 (M := mX0_makeCome) dX0_makeCome_21 (q := 22) rfl
def rX0_makeCome_22 := W_iload2 (M := mX0_makeCome) dX0_makeCome_22 (q := 23) rfl
def rX0_makeCome_23 := W_invV2 (M := mX0_makeCome) dX0_makeCome_23 (q := 26) rfl ml0_0_37 rfl
def rX0_makeCome_26 := W_aload0 (M := mX0_makeCome) dX0_makeCome_26 (q := 27) rfl
def rX0_makeCome_26b := W_aloadR0 (M := mX0_makeCome) dX0_makeCome_26 (q := 27) rfl
def rX0_makeCome_27 := W_aload0 (M := mX0_makeCome) dX0_makeCome_27 (q := 28) rfl
def rX0_makeCome_27b := W_aloadR0 (M := mX0_makeCome) dX0_makeCome_27 (q := 28) rfl
def rX0_makeCome_28 := W_getR (M := mX0_makeCome) dX0_makeCome_28 (q := 31) rfl fl0_24 ⟨_, rfl⟩
def rX0_makeCome_31 := W_iload1 (M := mX0_makeCome) dX0_makeCome_31 (q := 32) rfl
def rX0_makeCome_32 := W_invV1 (M := mX0_makeCome) dX0_makeCome_32 (q := 35) rfl ml0_0_41 rfl
def rX0_makeCome_35 := W_iconst (M := mX0_makeCome) dX0_makeCome_35 (q := 36) rfl (v := (-1)) rfl
def rX0_makeCome_36 := W_invV2 (M := mX0_makeCome) dX0_makeCome_36 (q := 39) rfl ml0_0_45 rfl
def rX0_makeCome_39 := W_aload0 (M := mX0_makeCome) dX0_makeCome_39 (q := 40) rfl
def rX0_makeCome_39b := W_aloadR0 (M := mX0_makeCome) dX0_makeCome_39 (q := 40) rfl
def rX0_makeCome_40 := W_getA (M := mX0_makeCome) dX0_makeCome_40 (q := 43) rfl fl0_15 ⟨_, rfl⟩
def rX0_makeCome_43 := W_iconst (M := mX0_makeCome) dX0_makeCome_43 (q := 44) rfl (v := (0)) rfl
def rX0_makeCome_44 := W_aload0 (M := mX0_makeCome) dX0_makeCome_44 (q := 45) rfl
def rX0_makeCome_44b := W_aloadR0 (M := mX0_makeCome) dX0_makeCome_44 (q := 45) rfl
def rX0_makeCome_45 := W_getA (M := mX0_makeCome) dX0_makeCome_45 (q := 48) rfl fl0_21 ⟨_, rfl⟩
def rX0_makeCome_48 := W_iload2 (M := mX0_makeCome) dX0_makeCome_48 (q := 49) rfl
def rX0_makeCome_49 := W_bipush (M := mX0_makeCome) dX0_makeCome_49 (q := 51) rfl (v := (6)) rfl
def rX0_makeCome_51 := W_imul (M := mX0_makeCome) dX0_makeCome_51 (q := 52) rfl
def rX0_makeCome_52 := W_bipush (M := mX0_makeCome) dX0_makeCome_52 (q := 54) rfl (v := (6)) rfl
def rX0_makeCome_54 := W_copy (M := mX0_makeCome) dX0_makeCome_54 (q := 57) rfl ml14_0_48 ml1n_0_48 ml11n_0_48 ml12n_0_48
def rX0_makeCome_57 := W_iinc2 (M := mX0_makeCome) dX0_makeCome_57 (q := 60) rfl (v := (1)) rfl
def rX0_makeCome_60 := W_goto (M := mX0_makeCome) dX0_makeCome_60 (t := 7) rfl
def rX0_makeCome_63 := W_vret (M := mX0_makeCome) dX0_makeCome_63 rfl
-- X0_soonest
theorem eX0_soonest {d : Nat} {h : qH} {Q : Option (Option Value) → qH → Prop} {s0 : Nat} {x1 : Int32} {x2 : Int32} {x3 : Int32} : WM d mX0_soonest [.ref s0, .int x1, .int x2, .int x3] h Q = WP d mX0_soonest (0, 0) 0 [some (.ref s0), some (.int x1), some (.int x2), some (.int x3)] [] h Q := rfl
def rX0_soonest_0 := W_aload0 (M := mX0_soonest) dX0_soonest_0 (q := 1) rfl
def rX0_soonest_0b := W_aloadR0 (M := mX0_soonest) dX0_soonest_0 (q := 1) rfl
def rX0_soonest_1 := W_aload0 (M := mX0_soonest) dX0_soonest_1 (q := 2) rfl
def rX0_soonest_1b := W_aloadR0 (M := mX0_soonest) dX0_soonest_1 (q := 2) rfl
def rX0_soonest_2 := W_getA (M := mX0_soonest) dX0_soonest_2 (q := 5) rfl fl0_18 ⟨_, rfl⟩
def rX0_soonest_5 := W_iload1 (M := mX0_soonest) dX0_soonest_5 (q := 6) rfl
def rX0_soonest_6 := W_iload2 (M := mX0_soonest) dX0_soonest_6 (q := 7) rfl
def rX0_soonest_7 := W_iload3 (M := mX0_soonest) dX0_soonest_7 (q := 8) rfl
def rX0_soonest_8 := W_invV4 (M := mX0_soonest) dX0_soonest_8 (q := 11) rfl ml0_0_80 rfl
def rX0_soonest_11 := W_iret (M := mX0_soonest) dX0_soonest_11 rfl
-- X0_soonestIn
theorem eX0_soonestIn {d : Nat} {h : qH} {Q : Option (Option Value) → qH → Prop} {s0 : Nat} {x1 : Nat} {x2 : Int32} {x3 : Int32} {x4 : Int32} : WM d mX0_soonestIn [.ref s0, .ref x1, .int x2, .int x3, .int x4] h Q = WP d mX0_soonestIn (0, 0) 0 [some (.ref s0), some (.ref x1), some (.int x2), some (.int x3), some (.int x4), none, none, none, none] [] h Q := rfl
def rX0_soonestIn_0 := W_bipush (M := mX0_soonestIn) dX0_soonestIn_0 (q := 2) rfl (v := (-2)) rfl
def rX0_soonestIn_2 := W_istore5 (M := mX0_soonestIn) dX0_soonestIn_2 (q := 4) rfl
def rX0_soonestIn_4 := W_sipush (M := mX0_soonestIn) dX0_soonestIn_4 (q := 7) rfl (v := (1000)) rfl
def rX0_soonestIn_7 := W_istore6 (M := mX0_soonestIn) dX0_soonestIn_7 (q := 9) rfl
def rX0_soonestIn_9 := W_iconst (M := mX0_soonestIn) dX0_soonestIn_9 (q := 10) rfl (v := (0)) rfl
def rX0_soonestIn_10 := W_istore7 (M := mX0_soonestIn) dX0_soonestIn_10 (q := 12) rfl
def rX0_soonestIn_12 := W_iload7 (M := mX0_soonestIn) dX0_soonestIn_12 (q := 14) rfl
def rX0_soonestIn_14 := W_aload0 (M := mX0_soonestIn) dX0_soonestIn_14 (q := 15) rfl
def rX0_soonestIn_14b := W_aloadR0 (M := mX0_soonestIn) dX0_soonestIn_14 (q := 15) rfl
def rX0_soonestIn_15 := W_getR (M := mX0_soonestIn) dX0_soonestIn_15 (q := 18) rfl fl0_24 ⟨_, rfl⟩
def rX0_soonestIn_18 := W_getI (M := mX0_soonestIn) dX0_soonestIn_18 (q := 21) rfl fl0_32 (Or.inl rfl)
def rX0_soonestIn_21 := W_icmp_ge (M := mX0_soonestIn) dX0_soonestIn_21 (q := 24) rfl (t := 72) rfl
def rX0_soonestIn_24 := W_aload1 (M := mX0_soonestIn) dX0_soonestIn_24 (q := 25) rfl
def rX0_soonestIn_24b := W_aloadR1 (M := mX0_soonestIn) dX0_soonestIn_24 (q := 25) rfl
def rX0_soonestIn_25 := W_iload2 (M := mX0_soonestIn) dX0_soonestIn_25 (q := 26) rfl
def rX0_soonestIn_26 := W_bipush (M := mX0_soonestIn) dX0_soonestIn_26 (q := 28) rfl (v := (6)) rfl
def rX0_soonestIn_28 := W_imul (M := mX0_soonestIn) dX0_soonestIn_28 (q := 29) rfl
def rX0_soonestIn_29 := W_iload7 (M := mX0_soonestIn) dX0_soonestIn_29 (q := 31) rfl
def rX0_soonestIn_31 := W_iadd (M := mX0_soonestIn) dX0_soonestIn_31 (q := 32) rfl
def rX0_soonestIn_32 := W_iald (M := mX0_soonestIn) dX0_soonestIn_32 (q := 33) rfl
def rX0_soonestIn_33 := W_istore8 (M := mX0_soonestIn) dX0_soonestIn_33 (q := 35) rfl
def rX0_soonestIn_35 := W_iload3 (M := mX0_soonestIn) dX0_soonestIn_35 (q := 36) rfl
def rX0_soonestIn_36 := W_iload7 (M := mX0_soonestIn) dX0_soonestIn_36 (q := 38) rfl
def rX0_soonestIn_38 := W_ishr (M := mX0_soonestIn) dX0_soonestIn_38 (q := 39) rfl
def rX0_soonestIn_39 := W_iconst (M := mX0_soonestIn) dX0_soonestIn_39 (q := 40) rfl (v := (1)) rfl
def rX0_soonestIn_40 := W_iand (M := mX0_soonestIn) dX0_soonestIn_40 (q := 41) rfl
def rX0_soonestIn_41 := W_if_ne (M := mX0_soonestIn) dX0_soonestIn_41 (q := 44) rfl (t := 66) rfl
def rX0_soonestIn_44 := W_iload8 (M := mX0_soonestIn) dX0_soonestIn_44 (q := 46) rfl
def rX0_soonestIn_46 := W_iload4 (M := mX0_soonestIn) dX0_soonestIn_46 (q := 48) rfl
def rX0_soonestIn_48 := W_icmp_le (M := mX0_soonestIn) dX0_soonestIn_48 (q := 51) rfl (t := 66) rfl
def rX0_soonestIn_51 := W_iload8 (M := mX0_soonestIn) dX0_soonestIn_51 (q := 53) rfl
def rX0_soonestIn_53 := W_iload6 (M := mX0_soonestIn) dX0_soonestIn_53 (q := 55) rfl
def rX0_soonestIn_55 := W_icmp_ge (M := mX0_soonestIn) dX0_soonestIn_55 (q := 58) rfl (t := 66) rfl
def rX0_soonestIn_58 := W_iload8 (M := mX0_soonestIn) dX0_soonestIn_58 (q := 60) rfl
def rX0_soonestIn_60 := W_istore6 (M := mX0_soonestIn) dX0_soonestIn_60 (q := 62) rfl
def rX0_soonestIn_62 := W_iload7 (M := mX0_soonestIn) dX0_soonestIn_62 (q := 64) rfl
def rX0_soonestIn_64 := W_istore5 (M := mX0_soonestIn) dX0_soonestIn_64 (q := 66) rfl
def rX0_soonestIn_66 := W_iinc7 (M := mX0_soonestIn) dX0_soonestIn_66 (q := 69) rfl (v := (1)) rfl
def rX0_soonestIn_69 := W_goto (M := mX0_soonestIn) dX0_soonestIn_69 (t := 12) rfl
def rX0_soonestIn_72 := W_iload5 (M := mX0_soonestIn) dX0_soonestIn_72 (q := 74) rfl
def rX0_soonestIn_74 := W_iret (M := mX0_soonestIn) dX0_soonestIn_74 rfl
-- X0_spread
theorem eX0_spread {d : Nat} {h : qH} {Q : Option (Option Value) → qH → Prop} {s0 : Nat} {x1 : Int32} {x2 : Int32} : WM d mX0_spread [.ref s0, .int x1, .int x2] h Q = WP d mX0_spread (0, 0) 0 [some (.ref s0), some (.int x1), some (.int x2), none, none, none, none, none, none] [] h Q := rfl
def rX0_spread_0 := W_iconst (M := mX0_spread) dX0_spread_0 (q := 1) rfl (v := (0)) rfl
def rX0_spread_1 := W_istore3 (M := mX0_spread) dX0_spread_1 (q := 2) rfl
def rX0_spread_2 := W_iload3 (M := mX0_spread) dX0_spread_2 (q := 3) rfl
def rX0_spread_3 := W_bipush (M := mX0_spread) dX0_spread_3 (q := 5) rfl (v := (6)) rfl
def rX0_spread_5 := W_icmp_ge (M := mX0_spread) dX0_spread_5 (q := 8) rfl (t := 43) rfl
def rX0_spread_8 := W_aload0 (M := mX0_spread) dX0_spread_8 (q := 9) rfl
def rX0_spread_8b := W_aloadR0 (M := mX0_spread) dX0_spread_8 (q := 9) rfl
def rX0_spread_9 := W_getA (M := mX0_spread) dX0_spread_9 (q := 12) rfl fl0_15 ⟨_, rfl⟩
def rX0_spread_12 := W_iload3 (M := mX0_spread) dX0_spread_12 (q := 13) rfl
def rX0_spread_13 := W_iload3 (M := mX0_spread) dX0_spread_13 (q := 14) rfl
def rX0_spread_14 := W_aload0 (M := mX0_spread) dX0_spread_14 (q := 15) rfl
def rX0_spread_14b := W_aloadR0 (M := mX0_spread) dX0_spread_14 (q := 15) rfl
def rX0_spread_15 := W_getR (M := mX0_spread) dX0_spread_15 (q := 18) rfl fl0_24 ⟨_, rfl⟩
def rX0_spread_18 := W_getI (M := mX0_spread) dX0_spread_18 (q := 21) rfl fl0_32 (Or.inl rfl)
def rX0_spread_21 := W_icmp_ge (M := mX0_spread) dX0_spread_21 (q := 24) rfl (t := 33) rfl
def rX0_spread_24 := W_aload0 (M := mX0_spread) dX0_spread_24 (q := 25) rfl
def rX0_spread_24b := W_aloadR0 (M := mX0_spread) dX0_spread_24 (q := 25) rfl
def rX0_spread_25 := W_getA (M := mX0_spread) dX0_spread_25 (q := 28) rfl fl0_9 ⟨_, rfl⟩
def rX0_spread_28 := W_iload3 (M := mX0_spread) dX0_spread_28 (q := 29) rfl
def rX0_spread_29 := W_iald (M := mX0_spread) dX0_spread_29 (q := 30) rfl
def rX0_spread_30 := W_goto (M := mX0_spread) dX0_spread_30 (t := 36) rfl
def rX0_spread_33 := W_sipush (M := mX0_spread) dX0_spread_33 (q := 36) rfl (v := (1000)) rfl
def rX0_spread_36 := W_iast (M := mX0_spread) dX0_spread_36 (q := 37) rfl
def rX0_spread_37 := W_iinc3 (M := mX0_spread) dX0_spread_37 (q := 40) rfl (v := (1)) rfl
def rX0_spread_40 := W_goto (M := mX0_spread) dX0_spread_40 (t := 2) rfl
def rX0_spread_43 := W_iconst (M := mX0_spread) dX0_spread_43 (q := 44) rfl (v := (1)) rfl
def rX0_spread_44 := W_istore3 (M := mX0_spread) dX0_spread_44 (q := 45) rfl
def rX0_spread_45 := W_iconst (M := mX0_spread) dX0_spread_45 (q := 46) rfl (v := (0)) rfl
def rX0_spread_46 := W_istore4 (M := mX0_spread) dX0_spread_46 (q := 48) rfl
def rX0_spread_48 := W_iload4 (M := mX0_spread) dX0_spread_48 (q := 50) rfl
def rX0_spread_50 := W_bipush (M := mX0_spread) dX0_spread_50 (q := 52) rfl (v := (6)) rfl
def rX0_spread_52 := W_icmp_ge (M := mX0_spread) dX0_spread_52 (q := 55) rfl (t := 170) rfl
def rX0_spread_55 := W_iload3 (M := mX0_spread) dX0_spread_55 (q := 56) rfl
def rX0_spread_56 := W_if_eq (M := mX0_spread) dX0_spread_56 (q := 59) rfl (t := 170) rfl
def rX0_spread_59 := W_iconst (M := mX0_spread) dX0_spread_59 (q := 60) rfl (v := (0)) rfl
def rX0_spread_60 := W_istore3 (M := mX0_spread) dX0_spread_60 (q := 61) rfl
def rX0_spread_61 := W_iconst (M := mX0_spread) dX0_spread_61 (q := 62) rfl (v := (0)) rfl
def rX0_spread_62 := W_istore5 (M := mX0_spread) dX0_spread_62 (q := 64) rfl
def rX0_spread_64 := W_iload5 (M := mX0_spread) dX0_spread_64 (q := 66) rfl
def rX0_spread_66 := W_aload0 (M := mX0_spread) dX0_spread_66 (q := 67) rfl
def rX0_spread_66b := W_aloadR0 (M := mX0_spread) dX0_spread_66 (q := 67) rfl
def rX0_spread_67 := W_getR (M := mX0_spread) dX0_spread_67 (q := 70) rfl fl0_24 ⟨_, rfl⟩
def rX0_spread_70 := W_getI (M := mX0_spread) dX0_spread_70 (q := 73) rfl fl0_58 (Or.inl rfl)
def rX0_spread_73 := W_icmp_ge (M := mX0_spread) dX0_spread_73 (q := 76) rfl (t := 164) rfl
def rX0_spread_76 := W_aload0 (M := mX0_spread) dX0_spread_76 (q := 77) rfl
def rX0_spread_76b := W_aloadR0 (M := mX0_spread) dX0_spread_76 (q := 77) rfl
def rX0_spread_77 := W_getR (M := mX0_spread) dX0_spread_77 (q := 80) rfl fl0_24 ⟨_, rfl⟩
def rX0_spread_80 := W_getA (M := mX0_spread) dX0_spread_80 (q := 83) rfl fl0_61 ⟨_, rfl⟩
def rX0_spread_83 := W_iload5 (M := mX0_spread) dX0_spread_83 (q := 85) rfl
def rX0_spread_85 := W_iald (M := mX0_spread) dX0_spread_85 (q := 86) rfl
def rX0_spread_86 := W_istore6 (M := mX0_spread) dX0_spread_86 (q := 88) rfl
def rX0_spread_88 := W_aload0 (M := mX0_spread) dX0_spread_88 (q := 89) rfl
def rX0_spread_88b := W_aloadR0 (M := mX0_spread) dX0_spread_88 (q := 89) rfl
def rX0_spread_89 := W_getR (M := mX0_spread) dX0_spread_89 (q := 92) rfl fl0_24 ⟨_, rfl⟩
def rX0_spread_92 := W_getA (M := mX0_spread) dX0_spread_92 (q := 95) rfl fl0_64 ⟨_, rfl⟩
def rX0_spread_95 := W_iload5 (M := mX0_spread) dX0_spread_95 (q := 97) rfl
def rX0_spread_97 := W_iald (M := mX0_spread) dX0_spread_97 (q := 98) rfl
def rX0_spread_98 := W_istore7 (M := mX0_spread) dX0_spread_98 (q := 100) rfl
def rX0_spread_100 := W_aload0 (M := mX0_spread) dX0_spread_100 (q := 101) rfl
def rX0_spread_100b := W_aloadR0 (M := mX0_spread) dX0_spread_100 (q := 101) rfl
def rX0_spread_101 := W_getA (M := mX0_spread) dX0_spread_101 (q := 104) rfl fl0_15 ⟨_, rfl⟩
def rX0_spread_104 := W_iload6 (M := mX0_spread) dX0_spread_104 (q := 106) rfl
def rX0_spread_106 := W_iald (M := mX0_spread) dX0_spread_106 (q := 107) rfl
def rX0_spread_107 := W_aload0 (M := mX0_spread) dX0_spread_107 (q := 108) rfl
def rX0_spread_107b := W_aloadR0 (M := mX0_spread) dX0_spread_107 (q := 108) rfl
def rX0_spread_108 := W_getR (M := mX0_spread) dX0_spread_108 (q := 111) rfl fl0_24 ⟨_, rfl⟩
def rX0_spread_111 := W_getA (M := mX0_spread) dX0_spread_111 (q := 114) rfl fl0_67 ⟨_, rfl⟩
def rX0_spread_114 := W_iload5 (M := mX0_spread) dX0_spread_114 (q := 116) rfl
def rX0_spread_116 := W_iald (M := mX0_spread) dX0_spread_116 (q := 117) rfl
def rX0_spread_117 := W_iadd (M := mX0_spread) dX0_spread_117 (q := 118) rfl
def rX0_spread_118 := W_istore8 (M := mX0_spread) dX0_spread_118 (q := 120) rfl
def rX0_spread_120 := W_iload5 (M := mX0_spread) dX0_spread_120 (q := 122) rfl
def rX0_spread_122 := W_iload2 (M := mX0_spread) dX0_spread_122 (q := 123) rfl
def rX0_spread_123 := W_icmp_eq (M := mX0_spread) dX0_spread_123 (q := 126) rfl (t := 158) rfl
def rX0_spread_126 := W_iload1 (M := mX0_spread) dX0_spread_126 (q := 127) rfl
def rX0_spread_127 := W_iload6 (M := mX0_spread) dX0_spread_127 (q := 129) rfl
def rX0_spread_129 := W_ishr (M := mX0_spread) dX0_spread_129 (q := 130) rfl
def rX0_spread_130 := W_iconst (M := mX0_spread) dX0_spread_130 (q := 131) rfl (v := (1)) rfl
def rX0_spread_131 := W_iand (M := mX0_spread) dX0_spread_131 (q := 132) rfl
def rX0_spread_132 := W_if_ne (M := mX0_spread) dX0_spread_132 (q := 135) rfl (t := 158) rfl
def rX0_spread_135 := W_iload8 (M := mX0_spread) dX0_spread_135 (q := 137) rfl
def rX0_spread_137 := W_aload0 (M := mX0_spread) dX0_spread_137 (q := 138) rfl
def rX0_spread_137b := W_aloadR0 (M := mX0_spread) dX0_spread_137 (q := 138) rfl
def rX0_spread_138 := W_getA (M := mX0_spread) dX0_spread_138 (q := 141) rfl fl0_15 ⟨_, rfl⟩
def rX0_spread_141 := W_iload7 (M := mX0_spread) dX0_spread_141 (q := 143) rfl
def rX0_spread_143 := W_iald (M := mX0_spread) dX0_spread_143 (q := 144) rfl
def rX0_spread_144 := W_icmp_ge (M := mX0_spread) dX0_spread_144 (q := 147) rfl (t := 158) rfl
def rX0_spread_147 := W_aload0 (M := mX0_spread) dX0_spread_147 (q := 148) rfl
def rX0_spread_147b := W_aloadR0 (M := mX0_spread) dX0_spread_147 (q := 148) rfl
def rX0_spread_148 := W_getA (M := mX0_spread) dX0_spread_148 (q := 151) rfl fl0_15 ⟨_, rfl⟩
def rX0_spread_151 := W_iload7 (M := mX0_spread) dX0_spread_151 (q := 153) rfl
def rX0_spread_153 := W_iload8 (M := mX0_spread) dX0_spread_153 (q := 155) rfl
def rX0_spread_155 := W_iast (M := mX0_spread) dX0_spread_155 (q := 156) rfl
def rX0_spread_156 := W_iconst (M := mX0_spread) dX0_spread_156 (q := 157) rfl (v := (1)) rfl
def rX0_spread_157 := W_istore3 (M := mX0_spread) dX0_spread_157 (q := 158) rfl
def rX0_spread_158 := W_iinc5 (M := mX0_spread) dX0_spread_158 (q := 161) rfl (v := (1)) rfl
def rX0_spread_161 := W_goto (M := mX0_spread) dX0_spread_161 (t := 64) rfl
def rX0_spread_164 := W_iinc4 (M := mX0_spread) dX0_spread_164 (q := 167) rfl (v := (1)) rfl
def rX0_spread_167 := W_goto (M := mX0_spread) dX0_spread_167 (t := 48) rfl
def rX0_spread_170 := W_vret (M := mX0_spread) dX0_spread_170 rfl
-- X0_weight
theorem eX0_weight {d : Nat} {h : qH} {Q : Option (Option Value) → qH → Prop} {s0 : Nat} {x1 : Int32} {x2 : Int32} : WM d mX0_weight [.ref s0, .int x1, .int x2] h Q = WP d mX0_weight (0, 0) 0 [some (.ref s0), some (.int x1), some (.int x2), none, none, none, none] [] h Q := rfl
def rX0_weight_0 := W_lconst (M := mX0_weight) dX0_weight_0 (q := 1) rfl (v := 1) rfl
def rX0_weight_1 := W_lstore3 (M := mX0_weight) dX0_weight_1 (q := 2) rfl
def rX0_weight_2 := W_iconst (M := mX0_weight) dX0_weight_2 (q := 3) rfl (v := (0)) rfl
def rX0_weight_3 := W_istore5 (M := mX0_weight) dX0_weight_3 (q := 5) rfl
def rX0_weight_5 := W_iload5 (M := mX0_weight) dX0_weight_5 (q := 7) rfl
def rX0_weight_7 := W_bipush (M := mX0_weight) dX0_weight_7 (q := 9) rfl (v := (6)) rfl
def rX0_weight_9 := W_icmp_ge (M := mX0_weight) dX0_weight_9 (q := 12) rfl (t := 108) rfl
def rX0_weight_12 := W_iload1 (M := mX0_weight) dX0_weight_12 (q := 13) rfl
def rX0_weight_13 := W_iload5 (M := mX0_weight) dX0_weight_13 (q := 15) rfl
def rX0_weight_15 := W_ishr (M := mX0_weight) dX0_weight_15 (q := 16) rfl
def rX0_weight_16 := W_iconst (M := mX0_weight) dX0_weight_16 (q := 17) rfl (v := (1)) rfl
def rX0_weight_17 := W_iand (M := mX0_weight) dX0_weight_17 (q := 18) rfl
def rX0_weight_18 := W_iconst (M := mX0_weight) dX0_weight_18 (q := 19) rfl (v := (1)) rfl
def rX0_weight_19 := W_icmp_ne (M := mX0_weight) dX0_weight_19 (q := 22) rfl (t := 26) rfl
def rX0_weight_22 := W_iconst (M := mX0_weight) dX0_weight_22 (q := 23) rfl (v := (1)) rfl
def rX0_weight_23 := W_goto (M := mX0_weight) dX0_weight_23 (t := 27) rfl
def rX0_weight_26 := W_iconst (M := mX0_weight) dX0_weight_26 (q := 27) rfl (v := (0)) rfl
def rX0_weight_27 := W_istore6 (M := mX0_weight) dX0_weight_27 (q := 29) rfl
def rX0_weight_29 := W_iload5 (M := mX0_weight) dX0_weight_29 (q := 31) rfl
def rX0_weight_31 := W_aload0 (M := mX0_weight) dX0_weight_31 (q := 32) rfl
def rX0_weight_31b := W_aloadR0 (M := mX0_weight) dX0_weight_31 (q := 32) rfl
def rX0_weight_32 := W_getR (M := mX0_weight) dX0_weight_32 (q := 35) rfl fl0_24 ⟨_, rfl⟩
def rX0_weight_35 := W_getI (M := mX0_weight) dX0_weight_35 (q := 38) rfl fl0_32 (Or.inl rfl)
def rX0_weight_38 := W_icmp_ge (M := mX0_weight) dX0_weight_38 (q := 41) rfl (t := 95) rfl
def rX0_weight_41 := W_aload0 (M := mX0_weight) dX0_weight_41 (q := 42) rfl
def rX0_weight_41b := W_aloadR0 (M := mX0_weight) dX0_weight_41 (q := 42) rfl
def rX0_weight_42 := W_getR (M := mX0_weight) dX0_weight_42 (q := 45) rfl fl0_24 ⟨_, rfl⟩
def rX0_weight_45 := W_iload5 (M := mX0_weight) dX0_weight_45 (q := 47) rfl
def rX0_weight_47 := W_iload2 (M := mX0_weight) dX0_weight_47 (q := 48) rfl
def rX0_weight_48 := W_invV2 (M := mX0_weight) dX0_weight_48 (q := 51) rfl ml0_0_54 rfl
def rX0_weight_51 := W_bipush (M := mX0_weight) dX0_weight_51 (q := 53) rfl (v := (-2)) rfl
def rX0_weight_53 := W_icmp_eq (M := mX0_weight) dX0_weight_53 (q := 56) rfl (t := 95) rfl
def rX0_weight_56 := W_lload3 (M := mX0_weight) dX0_weight_56 (q := 57) rfl
def rX0_weight_57 := W_iload6 (M := mX0_weight) dX0_weight_57 (q := 59) rfl
def rX0_weight_59 := W_if_eq (M := mX0_weight) dX0_weight_59 (q := 62) rfl (t := 76) rfl
def rX0_weight_62 := W_aload0 (M := mX0_weight) dX0_weight_62 (q := 63) rfl
def rX0_weight_62b := W_aloadR0 (M := mX0_weight) dX0_weight_62 (q := 63) rfl
def rX0_weight_63 := W_getR (M := mX0_weight) dX0_weight_63 (q := 66) rfl fl0_24 ⟨_, rfl⟩
def rX0_weight_66 := W_getA (M := mX0_weight) dX0_weight_66 (q := 69) rfl fl0_98 ⟨_, rfl⟩
def rX0_weight_69 := W_iload5 (M := mX0_weight) dX0_weight_69 (q := 71) rfl
def rX0_weight_71 := W_iald (M := mX0_weight) dX0_weight_71 (q := 72) rfl
def rX0_weight_72 := W_i2l (M := mX0_weight) dX0_weight_72 (q := 73) rfl
def rX0_weight_73 := W_goto (M := mX0_weight) dX0_weight_73 (t := 90) rfl
def rX0_weight_76 := W_bipush (M := mX0_weight) dX0_weight_76 (q := 78) rfl (v := (100)) rfl
def rX0_weight_78 := W_aload0 (M := mX0_weight) dX0_weight_78 (q := 79) rfl
def rX0_weight_78b := W_aloadR0 (M := mX0_weight) dX0_weight_78 (q := 79) rfl
def rX0_weight_79 := W_getR (M := mX0_weight) dX0_weight_79 (q := 82) rfl fl0_24 ⟨_, rfl⟩
def rX0_weight_82 := W_getA (M := mX0_weight) dX0_weight_82 (q := 85) rfl fl0_98 ⟨_, rfl⟩
def rX0_weight_85 := W_iload5 (M := mX0_weight) dX0_weight_85 (q := 87) rfl
def rX0_weight_87 := W_iald (M := mX0_weight) dX0_weight_87 (q := 88) rfl
def rX0_weight_88 := W_isub (M := mX0_weight) dX0_weight_88 (q := 89) rfl
def rX0_weight_89 := W_i2l (M := mX0_weight) dX0_weight_89 (q := 90) rfl
def rX0_weight_90 := W_lmul (M := mX0_weight) dX0_weight_90 (q := 91) rfl
def rX0_weight_91 := W_lstore3 (M := mX0_weight) dX0_weight_91 (q := 92) rfl
def rX0_weight_92 := W_goto (M := mX0_weight) dX0_weight_92 (t := 102) rfl
def rX0_weight_95 := W_iload6 (M := mX0_weight) dX0_weight_95 (q := 97) rfl
def rX0_weight_97 := W_if_eq (M := mX0_weight) dX0_weight_97 (q := 100) rfl (t := 102) rfl
def rX0_weight_100 := W_lconst (M := mX0_weight) dX0_weight_100 (q := 101) rfl (v := 0) rfl
def rX0_weight_101 := W_lret (M := mX0_weight) dX0_weight_101 rfl
def rX0_weight_102 := W_iinc5 (M := mX0_weight) dX0_weight_102 (q := 105) rfl (v := (1)) rfl
def rX0_weight_105 := W_goto (M := mX0_weight) dX0_weight_105 (t := 5) rfl
def rX0_weight_108 := W_lload3 (M := mX0_weight) dX0_weight_108 (q := 109) rfl
def rX0_weight_109 := W_lret (M := mX0_weight) dX0_weight_109 rfl
-- X0_wholeWeight
theorem eX0_wholeWeight {d : Nat} {h : qH} {Q : Option (Option Value) → qH → Prop} {s0 : Nat} {x1 : Int32} : WM d mX0_wholeWeight [.ref s0, .int x1] h Q = WP d mX0_wholeWeight (0, 0) 0 [some (.ref s0), some (.int x1), none, none, none] [] h Q := rfl
def rX0_wholeWeight_0 := W_lconst (M := mX0_wholeWeight) dX0_wholeWeight_0 (q := 1) rfl (v := 1) rfl
def rX0_wholeWeight_1 := W_lstore2 (M := mX0_wholeWeight) dX0_wholeWeight_1 (q := 2) rfl
def rX0_wholeWeight_2 := W_iconst (M := mX0_wholeWeight) dX0_wholeWeight_2 (q := 3) rfl (v := (0)) rfl
def rX0_wholeWeight_3 := W_istore4 (M := mX0_wholeWeight) dX0_wholeWeight_3 (q := 5) rfl
def rX0_wholeWeight_5 := W_iload4 (M := mX0_wholeWeight) dX0_wholeWeight_5 (q := 7) rfl
def rX0_wholeWeight_7 := W_aload0 (M := mX0_wholeWeight) dX0_wholeWeight_7 (q := 8) rfl
def rX0_wholeWeight_7b := W_aloadR0 (M := mX0_wholeWeight) dX0_wholeWeight_7 (q := 8) rfl
def rX0_wholeWeight_8 := W_getR (M := mX0_wholeWeight) dX0_wholeWeight_8 (q := 11) rfl fl0_24 ⟨_, rfl⟩
def rX0_wholeWeight_11 := W_getI (M := mX0_wholeWeight) dX0_wholeWeight_11 (q := 14) rfl fl0_32 (Or.inl rfl)
def rX0_wholeWeight_14 := W_icmp_ge (M := mX0_wholeWeight) dX0_wholeWeight_14 (q := 17) rfl (t := 44) rfl
def rX0_wholeWeight_17 := W_aload0 (M := mX0_wholeWeight) dX0_wholeWeight_17 (q := 18) rfl
def rX0_wholeWeight_17b := W_aloadR0 (M := mX0_wholeWeight) dX0_wholeWeight_17 (q := 18) rfl
def rX0_wholeWeight_18 := W_getR (M := mX0_wholeWeight) dX0_wholeWeight_18 (q := 21) rfl fl0_24 ⟨_, rfl⟩
def rX0_wholeWeight_21 := W_iload4 (M := mX0_wholeWeight) dX0_wholeWeight_21 (q := 23) rfl
def rX0_wholeWeight_23 := W_iload1 (M := mX0_wholeWeight) dX0_wholeWeight_23 (q := 24) rfl
def rX0_wholeWeight_24 := W_invV2 (M := mX0_wholeWeight) dX0_wholeWeight_24 (q := 27) rfl ml0_0_54 rfl
def rX0_wholeWeight_27 := W_bipush (M := mX0_wholeWeight) dX0_wholeWeight_27 (q := 29) rfl (v := (-2)) rfl
def rX0_wholeWeight_29 := W_icmp_eq (M := mX0_wholeWeight) dX0_wholeWeight_29 (q := 32) rfl (t := 38) rfl
def rX0_wholeWeight_32 := W_lload2 (M := mX0_wholeWeight) dX0_wholeWeight_32 (q := 33) rfl
def rX0_wholeWeight_33 := W_ldc2_w (M := mX0_wholeWeight) dX0_wholeWeight_33 (q := 36) rfl cj0_101
def rX0_wholeWeight_36 := W_lmul (M := mX0_wholeWeight) dX0_wholeWeight_36 (q := 37) rfl
def rX0_wholeWeight_37 := W_lstore2 (M := mX0_wholeWeight) dX0_wholeWeight_37 (q := 38) rfl
def rX0_wholeWeight_38 := W_iinc4 (M := mX0_wholeWeight) dX0_wholeWeight_38 (q := 41) rfl (v := (1)) rfl
def rX0_wholeWeight_41 := W_goto (M := mX0_wholeWeight) dX0_wholeWeight_41 (t := 5) rfl
def rX0_wholeWeight_44 := W_lload2 (M := mX0_wholeWeight) dX0_wholeWeight_44 (q := 45) rfl
def rX0_wholeWeight_45 := W_lret (M := mX0_wholeWeight) dX0_wholeWeight_45 rfl
-- X1_guessed
theorem eX1_guessed {d : Nat} {h : qH} {Q : Option (Option Value) → qH → Prop} {s0 : Nat} {x1 : Int32} {x2 : Int32} : WM d mX1_guessed [.ref s0, .int x1, .int x2] h Q = WP d mX1_guessed (0, 0) 0 [some (.ref s0), some (.int x1), some (.int x2), none] [] h Q := rfl
def rX1_guessed_0 := W_iload2 (M := mX1_guessed) dX1_guessed_0 (q := 1) rfl
def rX1_guessed_1 := W_iconst (M := mX1_guessed) dX1_guessed_1 (q := 2) rfl (v := (1)) rfl
def rX1_guessed_2 := W_iadd (M := mX1_guessed) dX1_guessed_2 (q := 3) rfl
def rX1_guessed_3 := W_aload0 (M := mX1_guessed) dX1_guessed_3 (q := 4) rfl
def rX1_guessed_3b := W_aloadR0 (M := mX1_guessed) dX1_guessed_3 (q := 4) rfl
def rX1_guessed_4 := W_getR (M := mX1_guessed) dX1_guessed_4 (q := 7) rfl fl1_24 ⟨_, rfl⟩
def rX1_guessed_7 := W_getR (M := mX1_guessed) dX1_guessed_7 (q := 10) rfl fl1_36 ⟨_, rfl⟩
def rX1_guessed_10 := W_getI (M := mX1_guessed) dX1_guessed_10 (q := 13) rfl fl1_42 (Or.inl rfl)
def rX1_guessed_13 := W_icmp_ge (M := mX1_guessed) dX1_guessed_13 (q := 16) rfl (t := 23) rfl
def rX1_guessed_16 := W_iload1 (M := mX1_guessed) dX1_guessed_16 (q := 17) rfl
def rX1_guessed_17 := W_bipush (M := mX1_guessed) dX1_guessed_17 (q := 19) rfl (v := (11)) rfl
def rX1_guessed_19 := W_idiv (M := mX1_guessed) dX1_guessed_19 (q := 20) rfl
def rX1_guessed_20 := W_goto (M := mX1_guessed) dX1_guessed_20 (t := 27) rfl
def rX1_guessed_23 := W_iload1 (M := mX1_guessed) dX1_guessed_23 (q := 24) rfl
def rX1_guessed_24 := W_bipush (M := mX1_guessed) dX1_guessed_24 (q := 26) rfl (v := (11)) rfl
def rX1_guessed_26 := W_irem (M := mX1_guessed) dX1_guessed_26 (q := 27) rfl
def rX1_guessed_27 := W_istore3 (M := mX1_guessed) dX1_guessed_27 (q := 28) rfl
def rX1_guessed_28 := W_iload3 (M := mX1_guessed) dX1_guessed_28 (q := 29) rfl
def rX1_guessed_29 := W_bipush (M := mX1_guessed) dX1_guessed_29 (q := 31) rfl (v := (10)) rfl
def rX1_guessed_31 := W_icmp_ne (M := mX1_guessed) dX1_guessed_31 (q := 34) rfl (t := 39) rfl
def rX1_guessed_34 := W_bipush (M := mX1_guessed) dX1_guessed_34 (q := 36) rfl (v := (-2)) rfl
def rX1_guessed_36 := W_goto (M := mX1_guessed) dX1_guessed_36 (t := 40) rfl
def rX1_guessed_39 := W_iload3 (M := mX1_guessed) dX1_guessed_39 (q := 40) rfl
def rX1_guessed_40 := W_iret (M := mX1_guessed) dX1_guessed_40 rfl
-- X1_init
theorem eX1_init {d : Nat} {h : qH} {Q : Option (Option Value) → qH → Prop} {s0 : Nat} {x1 : Nat} : WM d mX1_init [.ref s0, .ref x1] h Q = WP d mX1_init (0, 0) 0 [some (.ref s0), some (.ref x1)] [] h Q := rfl
def rX1_init_0 := W_aload0 (M := mX1_init) dX1_init_0 (q := 1) rfl
def rX1_init_0b := W_aloadR0 (M := mX1_init) dX1_init_0 (q := 1) rfl
def rX1_init_1 := W_objI (M := mX1_init) dX1_init_1 (q := 4) rfl ml10_1_3 ml2n_1_3 ml3n_1_3
def rX1_init_4 := W_aload0 (M := mX1_init) dX1_init_4 (q := 5) rfl
def rX1_init_4b := W_aloadR0 (M := mX1_init) dX1_init_4 (q := 5) rfl
def rX1_init_5 := W_iconst (M := mX1_init) dX1_init_5 (q := 6) rfl (v := (2)) rfl
def rX1_init_6 := W_newa (M := mX1_init) dX1_init_6 (q := 8) rfl
def rX1_init_8 := W_putA (M := mX1_init) dX1_init_8 (q := 11) rfl fl1_9 ⟨_, rfl⟩ (Or.inr ⟨rfl, rfl, rfl⟩)
def rX1_init_11 := W_aload0 (M := mX1_init) dX1_init_11 (q := 12) rfl
def rX1_init_11b := W_aloadR0 (M := mX1_init) dX1_init_11 (q := 12) rfl
def rX1_init_12 := W_bipush (M := mX1_init) dX1_init_12 (q := 14) rfl (v := (7)) rfl
def rX1_init_14 := W_newa (M := mX1_init) dX1_init_14 (q := 16) rfl
def rX1_init_16 := W_putA (M := mX1_init) dX1_init_16 (q := 19) rfl fl1_15 ⟨_, rfl⟩ (Or.inr ⟨rfl, rfl, rfl⟩)
def rX1_init_19 := W_aload0 (M := mX1_init) dX1_init_19 (q := 20) rfl
def rX1_init_19b := W_aloadR0 (M := mX1_init) dX1_init_19 (q := 20) rfl
def rX1_init_20 := W_sipush (M := mX1_init) dX1_init_20 (q := 23) rfl (v := (726)) rfl
def rX1_init_23 := W_newa (M := mX1_init) dX1_init_23 (q := 25) rfl
def rX1_init_25 := W_putA (M := mX1_init) dX1_init_25 (q := 28) rfl fl1_18 ⟨_, rfl⟩ (Or.inr ⟨rfl, rfl, rfl⟩)
def rX1_init_28 := W_aload0 (M := mX1_init) dX1_init_28 (q := 29) rfl
def rX1_init_28b := W_aloadR0 (M := mX1_init) dX1_init_28 (q := 29) rfl
def rX1_init_29 := W_bipush (M := mX1_init) dX1_init_29 (q := 31) rfl (v := (121)) rfl
def rX1_init_31 := W_newa (M := mX1_init) dX1_init_31 (q := 33) rfl
def rX1_init_33 := W_putA (M := mX1_init) dX1_init_33 (q := 36) rfl fl1_21 ⟨_, rfl⟩ (Or.inr ⟨rfl, rfl, rfl⟩)
def rX1_init_36 := W_aload0 (M := mX1_init) dX1_init_36 (q := 37) rfl
def rX1_init_36b := W_aloadR0 (M := mX1_init) dX1_init_36 (q := 37) rfl
def rX1_init_37 := W_aload1 (M := mX1_init) dX1_init_37 (q := 38) rfl
def rX1_init_37b := W_aloadR1 (M := mX1_init) dX1_init_37 (q := 38) rfl
def rX1_init_38 := W_putR (M := mX1_init) dX1_init_38 (q := 41) rfl fl1_24 ⟨_, rfl⟩ (Or.inr ⟨rfl, rfl, rfl⟩)
def rX1_init_41 := W_vret (M := mX1_init) dX1_init_41 rfl
-- X1_isAsRung
theorem eX1_isAsRung {d : Nat} {h : qH} {Q : Option (Option Value) → qH → Prop} {s0 : Nat} : WM d mX1_isAsRung [.ref s0] h Q = WP d mX1_isAsRung (0, 0) 0 [some (.ref s0), none] [] h Q := rfl
def rX1_isAsRung_0 := W_iconst (M := mX1_isAsRung) dX1_isAsRung_0 (q := 1) rfl (v := (0)) rfl
def rX1_isAsRung_1 := W_istore1 (M := mX1_isAsRung) dX1_isAsRung_1 (q := 2) rfl
def rX1_isAsRung_2 := W_iload1 (M := mX1_isAsRung) dX1_isAsRung_2 (q := 3) rfl
def rX1_isAsRung_3 := W_aload0 (M := mX1_isAsRung) dX1_isAsRung_3 (q := 4) rfl
def rX1_isAsRung_3b := W_aloadR0 (M := mX1_isAsRung) dX1_isAsRung_3 (q := 4) rfl
def rX1_isAsRung_4 := W_getR (M := mX1_isAsRung) dX1_isAsRung_4 (q := 7) rfl fl1_24 ⟨_, rfl⟩
def rX1_isAsRung_7 := W_getR (M := mX1_isAsRung) dX1_isAsRung_7 (q := 10) rfl fl1_36 ⟨_, rfl⟩
def rX1_isAsRung_10 := W_getI (M := mX1_isAsRung) dX1_isAsRung_10 (q := 13) rfl fl1_70 (Or.inl rfl)
def rX1_isAsRung_13 := W_icmp_ge (M := mX1_isAsRung) dX1_isAsRung_13 (q := 16) rfl (t := 76) rfl
def rX1_isAsRung_16 := W_aload0 (M := mX1_isAsRung) dX1_isAsRung_16 (q := 17) rfl
def rX1_isAsRung_16b := W_aloadR0 (M := mX1_isAsRung) dX1_isAsRung_16 (q := 17) rfl
def rX1_isAsRung_17 := W_getR (M := mX1_isAsRung) dX1_isAsRung_17 (q := 20) rfl fl1_24 ⟨_, rfl⟩
def rX1_isAsRung_20 := W_aload0 (M := mX1_isAsRung) dX1_isAsRung_20 (q := 21) rfl
def rX1_isAsRung_20b := W_aloadR0 (M := mX1_isAsRung) dX1_isAsRung_20 (q := 21) rfl
def rX1_isAsRung_21 := W_getR (M := mX1_isAsRung) dX1_isAsRung_21 (q := 24) rfl fl1_24 ⟨_, rfl⟩
def rX1_isAsRung_24 := W_getA (M := mX1_isAsRung) dX1_isAsRung_24 (q := 27) rfl fl1_58 ⟨_, rfl⟩
def rX1_isAsRung_27 := W_iconst (M := mX1_isAsRung) dX1_isAsRung_27 (q := 28) rfl (v := (0)) rfl
def rX1_isAsRung_28 := W_aload0 (M := mX1_isAsRung) dX1_isAsRung_28 (q := 29) rfl
def rX1_isAsRung_28b := W_aloadR0 (M := mX1_isAsRung) dX1_isAsRung_28 (q := 29) rfl
def rX1_isAsRung_29 := W_getR (M := mX1_isAsRung) dX1_isAsRung_29 (q := 32) rfl fl1_24 ⟨_, rfl⟩
def rX1_isAsRung_32 := W_getR (M := mX1_isAsRung) dX1_isAsRung_32 (q := 35) rfl fl1_36 ⟨_, rfl⟩
def rX1_isAsRung_35 := W_getI (M := mX1_isAsRung) dX1_isAsRung_35 (q := 38) rfl fl1_73 (Or.inl rfl)
def rX1_isAsRung_38 := W_aload0 (M := mX1_isAsRung) dX1_isAsRung_38 (q := 39) rfl
def rX1_isAsRung_38b := W_aloadR0 (M := mX1_isAsRung) dX1_isAsRung_38 (q := 39) rfl
def rX1_isAsRung_39 := W_getR (M := mX1_isAsRung) dX1_isAsRung_39 (q := 42) rfl fl1_24 ⟨_, rfl⟩
def rX1_isAsRung_42 := W_getR (M := mX1_isAsRung) dX1_isAsRung_42 (q := 45) rfl fl1_36 ⟨_, rfl⟩
def rX1_isAsRung_45 := W_getA (M := mX1_isAsRung) dX1_isAsRung_45 (q := 48) rfl fl1_76 ⟨_, rfl⟩
def rX1_isAsRung_48 := W_iload1 (M := mX1_isAsRung) dX1_isAsRung_48 (q := 49) rfl
def rX1_isAsRung_49 := W_iald (M := mX1_isAsRung) dX1_isAsRung_49 (q := 50) rfl
def rX1_isAsRung_50 := W_invV4 (M := mX1_isAsRung) dX1_isAsRung_50 (q := 53) rfl ml0_1_79 rfl
def rX1_isAsRung_53 := W_aload0 (M := mX1_isAsRung) dX1_isAsRung_53 (q := 54) rfl
def rX1_isAsRung_53b := W_aloadR0 (M := mX1_isAsRung) dX1_isAsRung_53 (q := 54) rfl
def rX1_isAsRung_54 := W_getR (M := mX1_isAsRung) dX1_isAsRung_54 (q := 57) rfl fl1_24 ⟨_, rfl⟩
def rX1_isAsRung_57 := W_getR (M := mX1_isAsRung) dX1_isAsRung_57 (q := 60) rfl fl1_36 ⟨_, rfl⟩
def rX1_isAsRung_60 := W_getA (M := mX1_isAsRung) dX1_isAsRung_60 (q := 63) rfl fl1_83 ⟨_, rfl⟩
def rX1_isAsRung_63 := W_iload1 (M := mX1_isAsRung) dX1_isAsRung_63 (q := 64) rfl
def rX1_isAsRung_64 := W_iald (M := mX1_isAsRung) dX1_isAsRung_64 (q := 65) rfl
def rX1_isAsRung_65 := W_icmp_eq (M := mX1_isAsRung) dX1_isAsRung_65 (q := 68) rfl (t := 70) rfl
def rX1_isAsRung_68 := W_iconst (M := mX1_isAsRung) dX1_isAsRung_68 (q := 69) rfl (v := (0)) rfl
def rX1_isAsRung_69 := W_zret (M := mX1_isAsRung) dX1_isAsRung_69 rfl
def rX1_isAsRung_70 := W_iinc1 (M := mX1_isAsRung) dX1_isAsRung_70 (q := 73) rfl (v := (1)) rfl
def rX1_isAsRung_73 := W_goto (M := mX1_isAsRung) dX1_isAsRung_73 (t := 2) rfl
def rX1_isAsRung_76 := W_iconst (M := mX1_isAsRung) dX1_isAsRung_76 (q := 77) rfl (v := (1)) rfl
def rX1_isAsRung_77 := W_zret (M := mX1_isAsRung) dX1_isAsRung_77 rfl
-- X1_make
theorem eX1_make {d : Nat} {h : qH} {Q : Option (Option Value) → qH → Prop} {s0 : Nat} : WM d mX1_make [.ref s0] h Q = WP d mX1_make (0, 0) 0 [some (.ref s0), none, none, none] [] h Q := rfl
def rX1_make_0 := W_aload0 (M := mX1_make) dX1_make_0 (q := 1) rfl
def rX1_make_0b := W_aloadR0 (M := mX1_make) dX1_make_0 (q := 1) rfl
def rX1_make_1 := W_getI (M := mX1_make) dX1_make_1 (q := 4) rfl fl1_28 (Or.inr rfl)
def rX1_make_4 := W_if_eq (M := mX1_make) dX1_make_4 (q := 7) rfl (t := 8) rfl
def rX1_make_7 := W_vret (M := mX1_make) dX1_make_7 rfl
def rX1_make_8 := W_aload0 (M := mX1_make) dX1_make_8 (q := 9) rfl
def rX1_make_8b := W_aloadR0 (M := mX1_make) dX1_make_8 (q := 9) rfl
def rX1_make_9 := W_iconst (M := mX1_make) dX1_make_9 (q := 10) rfl (v := (1)) rfl
def rX1_make_10 := W_putZ (M := mX1_make) dX1_make_10 (q := 13) rfl fl1_28 rfl (Or.inl rfl)
def rX1_make_13 := W_aload0 (M := mX1_make) dX1_make_13 (q := 14) rfl
def rX1_make_13b := W_aloadR0 (M := mX1_make) dX1_make_13 (q := 14) rfl
def rX1_make_14 := W_iconst (M := mX1_make) dX1_make_14 (q := 15) rfl (v := (0)) rfl
def rX1_make_15 := W_putI (M := mX1_make) dX1_make_15 (q := 18) rfl fl1_32 rfl (Or.inl rfl)
def rX1_make_18 := W_iconst (M := mX1_make) dX1_make_18 (q := 19) rfl (v := (1)) rfl
def rX1_make_19 := W_istore1 (M := mX1_make) dX1_make_19 (q := 20) rfl
def rX1_make_20 := W_iconst (M := mX1_make) dX1_make_20 (q := 21) rfl (v := (0)) rfl
def rX1_make_21 := W_istore2 (M := mX1_make) dX1_make_21 (q := 22) rfl
def rX1_make_22 := W_iload2 (M := mX1_make) dX1_make_22 (q := 23) rfl
def rX1_make_23 := W_aload0 (M := mX1_make) dX1_make_23 (q := 24) rfl
def rX1_make_23b := W_aloadR0 (M := mX1_make) dX1_make_23 (q := 24) rfl
def rX1_make_24 := W_getR (M := mX1_make) dX1_make_24 (q := 27) rfl fl1_24 ⟨_, rfl⟩
def rX1_make_27 := W_getR (M := mX1_make) dX1_make_27 (q := 30) rfl fl1_36 ⟨_, rfl⟩
def rX1_make_30 := W_getI (M := mX1_make) dX1_make_30 (q := 33) rfl fl1_42 (Or.inl rfl)
def rX1_make_33 := W_icmp_ge (M := mX1_make) dX1_make_33 (q := 36) rfl (t := 47) rfl
def rX1_make_36 := W_iload1 (M := mX1_make) dX1_make_36 (q := 37) rfl
def rX1_make_37 := W_bipush (M := mX1_make) dX1_make_37 (q := 39) rfl (v := (11)) rfl
def rX1_make_39 := W_imul (M := mX1_make) dX1_make_39 (q := 40) rfl
def rX1_make_40 := W_istore1 (M := mX1_make) dX1_make_40 (q := 41) rfl
def rX1_make_41 := W_iinc2 (M := mX1_make) dX1_make_41 (q := 44) rfl (v := (1)) rfl
def rX1_make_44 := W_goto (M := mX1_make) dX1_make_44 (t := 22) rfl
def rX1_make_47 := W_iconst (M := mX1_make) dX1_make_47 (q := 48) rfl (v := (0)) rfl
def rX1_make_48 := W_istore2 (M := mX1_make) dX1_make_48 (q := 49) rfl
def rX1_make_49 := W_iload2 (M := mX1_make) dX1_make_49 (q := 50) rfl
def rX1_make_50 := W_iload1 (M := mX1_make) dX1_make_50 (q := 51) rfl
def rX1_make_51 := W_icmp_ge (M := mX1_make) dX1_make_51 (q := 54) rfl (t := 175) rfl
def rX1_make_54 := W_aload0 (M := mX1_make) dX1_make_54 (q := 55) rfl
def rX1_make_54b := W_aloadR0 (M := mX1_make) dX1_make_54 (q := 55) rfl
def rX1_make_55 := W_getI (M := mX1_make) dX1_make_55 (q := 58) rfl fl1_32 (Or.inl rfl)
def rX1_make_58 := W_bipush (M := mX1_make) dX1_make_58 (q := 60) rfl (v := (121)) rfl
def rX1_make_60 := W_icmp_ge (M := mX1_make) dX1_make_60 (q := 63) rfl (t := 175) rfl
def rX1_make_63 := W_iconst (M := mX1_make) dX1_make_63 (q := 64) rfl (v := (0)) rfl
def rX1_make_64 := W_istore3 (M := mX1_make) dX1_make_64 (q := 65) rfl
def rX1_make_65 := W_iload3 (M := mX1_make) dX1_make_65 (q := 66) rfl
def rX1_make_66 := W_aload0 (M := mX1_make) dX1_make_66 (q := 67) rfl
def rX1_make_66b := W_aloadR0 (M := mX1_make) dX1_make_66 (q := 67) rfl
def rX1_make_67 := W_getR (M := mX1_make) dX1_make_67 (q := 70) rfl fl1_24 ⟨_, rfl⟩
def rX1_make_70 := W_getR (M := mX1_make) dX1_make_70 (q := 73) rfl fl1_36 ⟨_, rfl⟩
def rX1_make_73 := W_getI (M := mX1_make) dX1_make_73 (q := 76) rfl fl1_42 (Or.inl rfl)
def rX1_make_76 := W_icmp_ge (M := mX1_make) dX1_make_76 (q := 79) rfl (t := 97) rfl
def rX1_make_79 := W_aload0 (M := mX1_make) dX1_make_79 (q := 80) rfl
def rX1_make_79b := W_aloadR0 (M := mX1_make) dX1_make_79 (q := 80) rfl
def rX1_make_80 := W_getA (M := mX1_make) dX1_make_80 (q := 83) rfl fl1_9 ⟨_, rfl⟩
def rX1_make_83 := W_iload3 (M := mX1_make) dX1_make_83 (q := 84) rfl
def rX1_make_84 := W_aload0 (M := mX1_make) dX1_make_84 (q := 85) rfl
def rX1_make_84b := W_aloadR0 (M := mX1_make) dX1_make_84 (q := 85) rfl
def rX1_make_85 := W_iload2 (M := mX1_make) dX1_make_85 (q := 86) rfl
def rX1_make_86 := W_iload3 (M := mX1_make) dX1_make_86 (q := 87) rfl
def rX1_make_87 := W_invV2 (M := mX1_make) dX1_make_87 (q := 90) rfl ml0_1_47 rfl
def rX1_make_90 := W_iast (M := mX1_make) dX1_make_90 (q := 91) rfl
def rX1_make_91 := W_iinc3 (M := mX1_make) dX1_make_91 (q := 94) rfl (v := (1)) rfl
def rX1_make_94 := W_goto (M := mX1_make) dX1_make_94 (t := 65) rfl
def rX1_make_97 := W_aload0 (M := mX1_make) dX1_make_97 (q := 98) rfl
def rX1_make_97b := W_aloadR0 (M := mX1_make) dX1_make_97 (q := 98) rfl
def rX1_make_98 := W_getR (M := mX1_make) dX1_make_98 (q := 101) rfl fl1_24 ⟨_, rfl⟩
def rX1_make_101 := W_aload0 (M := mX1_make) dX1_make_101 (q := 102) rfl
def rX1_make_101b := W_aloadR0 (M := mX1_make) dX1_make_101 (q := 102) rfl
def rX1_make_102 := W_getA (M := mX1_make) dX1_make_102 (q := 105) rfl fl1_9 ⟨_, rfl⟩
def rX1_make_105 := W_aload0 (M := mX1_make) dX1_make_105 (q := 106) rfl
def rX1_make_105b := W_aloadR0 (M := mX1_make) dX1_make_105 (q := 106) rfl
def rX1_make_106 := W_getR (M := mX1_make) dX1_make_106 (q := 109) rfl fl1_24 ⟨_, rfl⟩
def rX1_make_109 := W_getR (M := mX1_make) dX1_make_109 (q := 112) rfl fl1_36 ⟨_, rfl⟩
def rX1_make_112 := W_getI (M := mX1_make) dX1_make_112 (q := 115) rfl fl1_42 (Or.inl rfl)
def rX1_make_115 := W_invV2 (M := mX1_make) dX1_make_115 (q := 118) rfl ml0_1_51 rfl
def rX1_make_118 := W_aload0 (M := mX1_make) dX1_make_118 (q := 119) rfl
def rX1_make_118b := W_aloadR0 (M := mX1_make) dX1_make_118 (q := 119) rfl
def rX1_make_119 := W_invV0 (M := mX1_make) dX1_make_119 (q := 122) rfl ml0_1_54 rfl
def rX1_make_122 := W_if_eq (M := mX1_make) dX1_make_122 (q := 125) rfl (t := 169) rfl
def rX1_make_125 := W_aload0 (M := mX1_make) dX1_make_125 (q := 126) rfl
def rX1_make_125b := W_aloadR0 (M := mX1_make) dX1_make_125 (q := 126) rfl
def rX1_make_126 := W_getA (M := mX1_make) dX1_make_126 (q := 129) rfl fl1_21 ⟨_, rfl⟩
def rX1_make_129 := W_aload0 (M := mX1_make) dX1_make_129 (q := 130) rfl
def rX1_make_129b := W_aloadR0 (M := mX1_make) dX1_make_129 (q := 130) rfl
def rX1_make_130 := W_getI (M := mX1_make) dX1_make_130 (q := 133) rfl fl1_32 (Or.inl rfl)
def rX1_make_133 := W_iload2 (M := mX1_make) dX1_make_133 (q := 134) rfl
def rX1_make_134 := W_iast (M := mX1_make) dX1_make_134 (q := 135) rfl
def rX1_make_135 := W_aload0 (M := mX1_make) dX1_make_135 (q := 136) rfl
def rX1_make_135b := W_aloadR0 (M := mX1_make) dX1_make_135 (q := 136) rfl
def rX1_make_136 := W_getR (M := mX1_make) dX1_make_136 (q := 139) rfl fl1_24 ⟨_, rfl⟩
def rX1_make_139 := W_getA (M := mX1_make) dX1_make_139 (q := 142) rfl fl1_58 ⟨_, rfl⟩
def rX1_make_142 := W_iconst (M := mX1_make) dX1_make_142 (q := 143) rfl (v := (0)) rfl
def rX1_make_143 := W_aload0 (M := mX1_make) dX1_make_143 (q := 144) rfl
def rX1_make_143b := W_aloadR0 (M := mX1_make) dX1_make_143 (q := 144) rfl
def rX1_make_144 := W_getA (M := mX1_make) dX1_make_144 (q := 147) rfl fl1_18 ⟨_, rfl⟩
def rX1_make_147 := W_aload0 (M := mX1_make) dX1_make_147 (q := 148) rfl
def rX1_make_147b := W_aloadR0 (M := mX1_make) dX1_make_147 (q := 148) rfl
def rX1_make_148 := W_getI (M := mX1_make) dX1_make_148 (q := 151) rfl fl1_32 (Or.inl rfl)
def rX1_make_151 := W_bipush (M := mX1_make) dX1_make_151 (q := 153) rfl (v := (6)) rfl
def rX1_make_153 := W_imul (M := mX1_make) dX1_make_153 (q := 154) rfl
def rX1_make_154 := W_bipush (M := mX1_make) dX1_make_154 (q := 156) rfl (v := (6)) rfl
def rX1_make_156 := W_copy (M := mX1_make) dX1_make_156 (q := 159) rfl ml14_1_61 ml1n_1_61 ml11n_1_61 ml12n_1_61
def rX1_make_159 := W_aload0 (M := mX1_make) dX1_make_159 (q := 160) rfl
def rX1_make_159b := W_aloadR0 (M := mX1_make) dX1_make_159 (q := 160) rfl
def rX1_make_160 := W_dupI (M := mX1_make) dX1_make_160 (q := 161) rfl
def rX1_make_160b := W_dupR (M := mX1_make) dX1_make_160 (q := 161) rfl
def rX1_make_161 := W_getI (M := mX1_make) dX1_make_161 (q := 164) rfl fl1_32 (Or.inl rfl)
def rX1_make_164 := W_iconst (M := mX1_make) dX1_make_164 (q := 165) rfl (v := (1)) rfl
def rX1_make_165 := W_iadd (M := mX1_make) dX1_make_165 (q := 166) rfl
def rX1_make_166 := W_putI (M := mX1_make) dX1_make_166 (q := 169) rfl fl1_32 rfl (Or.inl rfl)
def rX1_make_169 := W_iinc2 (M := mX1_make) dX1_make_169 (q := 172) rfl (v := (1)) rfl
def rX1_make_172 := W_goto (M := mX1_make) dX1_make_172 (t := 49) rfl
def rX1_make_175 := W_aload0 (M := mX1_make) dX1_make_175 (q := 176) rfl
def rX1_make_175b := W_aloadR0 (M := mX1_make) dX1_make_175 (q := 176) rfl
def rX1_make_176 := W_invV0 (M := mX1_make) dX1_make_176 (q := 179) rfl ml0_1_67 rfl
def rX1_make_179 := W_vret (M := mX1_make) dX1_make_179 rfl
-- X1_makeTry
theorem eX1_makeTry {d : Nat} {h : qH} {Q : Option (Option Value) → qH → Prop} {s0 : Nat} : WM d mX1_makeTry [.ref s0] h Q = WP d mX1_makeTry (0, 0) 0 [some (.ref s0), none, none] [] h Q := rfl
def rX1_makeTry_0 := W_aload0 (M := mX1_makeTry) dX1_makeTry_0 (q := 1) rfl
def rX1_makeTry_0b := W_aloadR0 (M := mX1_makeTry) dX1_makeTry_0 (q := 1) rfl
def rX1_makeTry_1 := W_bipush (M := mX1_makeTry) dX1_makeTry_1 (q := 3) rfl (v := (-2)) rfl
def rX1_makeTry_3 := W_putI (M := mX1_makeTry) dX1_makeTry_3 (q := 6) rfl fl1_86 rfl (Or.inl rfl)
def rX1_makeTry_6 := W_aload0 (M := mX1_makeTry) dX1_makeTry_6 (q := 7) rfl
def rX1_makeTry_6b := W_aloadR0 (M := mX1_makeTry) dX1_makeTry_6 (q := 7) rfl
def rX1_makeTry_7 := W_bipush (M := mX1_makeTry) dX1_makeTry_7 (q := 9) rfl (v := (-2)) rfl
def rX1_makeTry_9 := W_putI (M := mX1_makeTry) dX1_makeTry_9 (q := 12) rfl fl1_89 rfl (Or.inl rfl)
def rX1_makeTry_12 := W_iconst (M := mX1_makeTry) dX1_makeTry_12 (q := 13) rfl (v := (0)) rfl
def rX1_makeTry_13 := W_istore1 (M := mX1_makeTry) dX1_makeTry_13 (q := 14) rfl
def rX1_makeTry_14 := W_iload1 (M := mX1_makeTry) dX1_makeTry_14 (q := 15) rfl
def rX1_makeTry_15 := W_bipush (M := mX1_makeTry) dX1_makeTry_15 (q := 17) rfl (v := (20)) rfl
def rX1_makeTry_17 := W_icmp_gt (M := mX1_makeTry) dX1_makeTry_17 (q := 20) rfl (t := 66) rfl
def rX1_makeTry_20 := W_aload0 (M := mX1_makeTry) dX1_makeTry_20 (q := 21) rfl
def rX1_makeTry_20b := W_aloadR0 (M := mX1_makeTry) dX1_makeTry_20 (q := 21) rfl
def rX1_makeTry_21 := W_getI (M := mX1_makeTry) dX1_makeTry_21 (q := 24) rfl fl1_32 (Or.inl rfl)
def rX1_makeTry_24 := W_if_le (M := mX1_makeTry) dX1_makeTry_24 (q := 27) rfl (t := 66) rfl
def rX1_makeTry_27 := W_aload0 (M := mX1_makeTry) dX1_makeTry_27 (q := 28) rfl
def rX1_makeTry_27b := W_aloadR0 (M := mX1_makeTry) dX1_makeTry_27 (q := 28) rfl
def rX1_makeTry_28 := W_iload1 (M := mX1_makeTry) dX1_makeTry_28 (q := 29) rfl
def rX1_makeTry_29 := W_invV1 (M := mX1_makeTry) dX1_makeTry_29 (q := 32) rfl ml0_1_92 rfl
def rX1_makeTry_32 := W_istore2 (M := mX1_makeTry) dX1_makeTry_32 (q := 33) rfl
def rX1_makeTry_33 := W_aload0 (M := mX1_makeTry) dX1_makeTry_33 (q := 34) rfl
def rX1_makeTry_33b := W_aloadR0 (M := mX1_makeTry) dX1_makeTry_33 (q := 34) rfl
def rX1_makeTry_34 := W_getI (M := mX1_makeTry) dX1_makeTry_34 (q := 37) rfl fl1_86 (Or.inl rfl)
def rX1_makeTry_37 := W_bipush (M := mX1_makeTry) dX1_makeTry_37 (q := 39) rfl (v := (-2)) rfl
def rX1_makeTry_39 := W_icmp_eq (M := mX1_makeTry) dX1_makeTry_39 (q := 42) rfl (t := 50) rfl
def rX1_makeTry_42 := W_iload2 (M := mX1_makeTry) dX1_makeTry_42 (q := 43) rfl
def rX1_makeTry_43 := W_aload0 (M := mX1_makeTry) dX1_makeTry_43 (q := 44) rfl
def rX1_makeTry_43b := W_aloadR0 (M := mX1_makeTry) dX1_makeTry_43 (q := 44) rfl
def rX1_makeTry_44 := W_getI (M := mX1_makeTry) dX1_makeTry_44 (q := 47) rfl fl1_89 (Or.inl rfl)
def rX1_makeTry_47 := W_icmp_ge (M := mX1_makeTry) dX1_makeTry_47 (q := 50) rfl (t := 60) rfl
def rX1_makeTry_50 := W_aload0 (M := mX1_makeTry) dX1_makeTry_50 (q := 51) rfl
def rX1_makeTry_50b := W_aloadR0 (M := mX1_makeTry) dX1_makeTry_50 (q := 51) rfl
def rX1_makeTry_51 := W_iload1 (M := mX1_makeTry) dX1_makeTry_51 (q := 52) rfl
def rX1_makeTry_52 := W_putI (M := mX1_makeTry) dX1_makeTry_52 (q := 55) rfl fl1_86 rfl (Or.inl rfl)
def rX1_makeTry_55 := W_aload0 (M := mX1_makeTry) dX1_makeTry_55 (q := 56) rfl
def rX1_makeTry_55b := W_aloadR0 (M := mX1_makeTry) dX1_makeTry_55 (q := 56) rfl
def rX1_makeTry_56 := W_iload2 (M := mX1_makeTry) dX1_makeTry_56 (q := 57) rfl
def rX1_makeTry_57 := W_putI (M := mX1_makeTry) dX1_makeTry_57 (q := 60) rfl fl1_89 rfl (Or.inl rfl)
def rX1_makeTry_60 := W_iinc1 (M := mX1_makeTry) dX1_makeTry_60 (q := 63) rfl (v := (1)) rfl
def rX1_makeTry_63 := W_goto (M := mX1_makeTry) dX1_makeTry_63 (t := 14) rfl
def rX1_makeTry_66 := W_vret (M := mX1_makeTry) dX1_makeTry_66 rfl
-- X1_mostLeft
theorem eX1_mostLeft {d : Nat} {h : qH} {Q : Option (Option Value) → qH → Prop} {s0 : Nat} {x1 : Int32} : WM d mX1_mostLeft [.ref s0, .int x1] h Q = WP d mX1_mostLeft (0, 0) 0 [some (.ref s0), some (.int x1), none, none, none, none] [] h Q := rfl
def rX1_mostLeft_0 := W_iconst (M := mX1_mostLeft) dX1_mostLeft_0 (q := 1) rfl (v := (0)) rfl
def rX1_mostLeft_1 := W_istore2 (M := mX1_mostLeft) dX1_mostLeft_1 (q := 2) rfl
def rX1_mostLeft_2 := W_iload2 (M := mX1_mostLeft) dX1_mostLeft_2 (q := 3) rfl
def rX1_mostLeft_3 := W_bipush (M := mX1_mostLeft) dX1_mostLeft_3 (q := 5) rfl (v := (6)) rfl
def rX1_mostLeft_5 := W_icmp_gt (M := mX1_mostLeft) dX1_mostLeft_5 (q := 8) rfl (t := 21) rfl
def rX1_mostLeft_8 := W_aload0 (M := mX1_mostLeft) dX1_mostLeft_8 (q := 9) rfl
def rX1_mostLeft_8b := W_aloadR0 (M := mX1_mostLeft) dX1_mostLeft_8 (q := 9) rfl
def rX1_mostLeft_9 := W_getA (M := mX1_mostLeft) dX1_mostLeft_9 (q := 12) rfl fl1_15 ⟨_, rfl⟩
def rX1_mostLeft_12 := W_iload2 (M := mX1_mostLeft) dX1_mostLeft_12 (q := 13) rfl
def rX1_mostLeft_13 := W_iconst (M := mX1_mostLeft) dX1_mostLeft_13 (q := 14) rfl (v := (0)) rfl
def rX1_mostLeft_14 := W_iast (M := mX1_mostLeft) dX1_mostLeft_14 (q := 15) rfl
def rX1_mostLeft_15 := W_iinc2 (M := mX1_mostLeft) dX1_mostLeft_15 (q := 18) rfl (v := (1)) rfl
def rX1_mostLeft_18 := W_goto (M := mX1_mostLeft) dX1_mostLeft_18 (t := 2) rfl
def rX1_mostLeft_21 := W_iconst (M := mX1_mostLeft) dX1_mostLeft_21 (q := 22) rfl (v := (0)) rfl
def rX1_mostLeft_22 := W_istore2 (M := mX1_mostLeft) dX1_mostLeft_22 (q := 23) rfl
def rX1_mostLeft_23 := W_iconst (M := mX1_mostLeft) dX1_mostLeft_23 (q := 24) rfl (v := (0)) rfl
def rX1_mostLeft_24 := W_istore3 (M := mX1_mostLeft) dX1_mostLeft_24 (q := 25) rfl
def rX1_mostLeft_25 := W_iload3 (M := mX1_mostLeft) dX1_mostLeft_25 (q := 26) rfl
def rX1_mostLeft_26 := W_aload0 (M := mX1_mostLeft) dX1_mostLeft_26 (q := 27) rfl
def rX1_mostLeft_26b := W_aloadR0 (M := mX1_mostLeft) dX1_mostLeft_26 (q := 27) rfl
def rX1_mostLeft_27 := W_getI (M := mX1_mostLeft) dX1_mostLeft_27 (q := 30) rfl fl1_32 (Or.inl rfl)
def rX1_mostLeft_30 := W_icmp_ge (M := mX1_mostLeft) dX1_mostLeft_30 (q := 33) rfl (t := 86) rfl
def rX1_mostLeft_33 := W_aload0 (M := mX1_mostLeft) dX1_mostLeft_33 (q := 34) rfl
def rX1_mostLeft_33b := W_aloadR0 (M := mX1_mostLeft) dX1_mostLeft_33 (q := 34) rfl
def rX1_mostLeft_34 := W_iload3 (M := mX1_mostLeft) dX1_mostLeft_34 (q := 35) rfl
def rX1_mostLeft_35 := W_iload1 (M := mX1_mostLeft) dX1_mostLeft_35 (q := 36) rfl
def rX1_mostLeft_36 := W_invV2 (M := mX1_mostLeft) dX1_mostLeft_36 (q := 39) rfl ml0_1_96 rfl
def rX1_mostLeft_39 := W_istore4 (M := mX1_mostLeft) dX1_mostLeft_39 (q := 41) rfl
def rX1_mostLeft_41 := W_iload4 (M := mX1_mostLeft) dX1_mostLeft_41 (q := 43) rfl
def rX1_mostLeft_43 := W_bipush (M := mX1_mostLeft) dX1_mostLeft_43 (q := 45) rfl (v := (-2)) rfl
def rX1_mostLeft_45 := W_icmp_ne (M := mX1_mostLeft) dX1_mostLeft_45 (q := 48) rfl (t := 53) rfl
def rX1_mostLeft_48 := W_bipush (M := mX1_mostLeft) dX1_mostLeft_48 (q := 50) rfl (v := (6)) rfl
def rX1_mostLeft_50 := W_goto (M := mX1_mostLeft) dX1_mostLeft_50 (t := 55) rfl
def rX1_mostLeft_53 := W_iload4 (M := mX1_mostLeft) dX1_mostLeft_53 (q := 55) rfl
def rX1_mostLeft_55 := W_istore5 (M := mX1_mostLeft) dX1_mostLeft_55 (q := 57) rfl
def rX1_mostLeft_57 := W_aload0 (M := mX1_mostLeft) dX1_mostLeft_57 (q := 58) rfl
def rX1_mostLeft_57b := W_aloadR0 (M := mX1_mostLeft) dX1_mostLeft_57 (q := 58) rfl
def rX1_mostLeft_58 := W_getA (M := mX1_mostLeft) dX1_mostLeft_58 (q := 61) rfl fl1_15 ⟨_, rfl⟩
def rX1_mostLeft_61 := W_iload5 (M := mX1_mostLeft) dX1_mostLeft_61 (q := 63) rfl
def rX1_mostLeft_63 := W_dup2IR (M := mX1_mostLeft) dX1_mostLeft_63 (q := 64) rfl
def rX1_mostLeft_64 := W_iald (M := mX1_mostLeft) dX1_mostLeft_64 (q := 65) rfl
def rX1_mostLeft_65 := W_iconst (M := mX1_mostLeft) dX1_mostLeft_65 (q := 66) rfl (v := (1)) rfl
def rX1_mostLeft_66 := W_iadd (M := mX1_mostLeft) dX1_mostLeft_66 (q := 67) rfl
def rX1_mostLeft_67 := W_iast (M := mX1_mostLeft) dX1_mostLeft_67 (q := 68) rfl
def rX1_mostLeft_68 := W_iload2 (M := mX1_mostLeft) dX1_mostLeft_68 (q := 69) rfl
def rX1_mostLeft_69 := W_aload0 (M := mX1_mostLeft) dX1_mostLeft_69 (q := 70) rfl
def rX1_mostLeft_69b := W_aloadR0 (M := mX1_mostLeft) dX1_mostLeft_69 (q := 70) rfl
def rX1_mostLeft_70 := W_getA (M := mX1_mostLeft) dX1_mostLeft_70 (q := 73) rfl fl1_15 ⟨_, rfl⟩
def rX1_mostLeft_73 := W_iload5 (M := mX1_mostLeft) dX1_mostLeft_73 (q := 75) rfl
def rX1_mostLeft_75 := W_iald (M := mX1_mostLeft) dX1_mostLeft_75 (q := 76) rfl
def rX1_mostLeft_76 := W_max (M := mX1_mostLeft) dX1_mostLeft_76 (q := 79) rfl ml11_1_99 ml1n_1_99
def rX1_mostLeft_79 := W_istore2 (M := mX1_mostLeft) dX1_mostLeft_79 (q := 80) rfl
def rX1_mostLeft_80 := W_iinc3 (M := mX1_mostLeft) dX1_mostLeft_80 (q := 83) rfl (v := (1)) rfl
def rX1_mostLeft_83 := W_goto (M := mX1_mostLeft) dX1_mostLeft_83 (t := 25) rfl
def rX1_mostLeft_86 := W_iload2 (M := mX1_mostLeft) dX1_mostLeft_86 (q := 87) rfl
def rX1_mostLeft_87 := W_iret (M := mX1_mostLeft) dX1_mostLeft_87 rfl
-- X1_soonest
theorem eX1_soonest {d : Nat} {h : qH} {Q : Option (Option Value) → qH → Prop} {s0 : Nat} {x1 : Int32} {x2 : Int32} : WM d mX1_soonest [.ref s0, .int x1, .int x2] h Q = WP d mX1_soonest (0, 0) 0 [some (.ref s0), some (.int x1), some (.int x2)] [] h Q := rfl
def rX1_soonest_0 := W_aload0 (M := mX1_soonest) dX1_soonest_0 (q := 1) rfl
def rX1_soonest_0b := W_aloadR0 (M := mX1_soonest) dX1_soonest_0 (q := 1) rfl
def rX1_soonest_1 := W_getR (M := mX1_soonest) dX1_soonest_1 (q := 4) rfl fl1_24 ⟨_, rfl⟩
def rX1_soonest_4 := W_aload0 (M := mX1_soonest) dX1_soonest_4 (q := 5) rfl
def rX1_soonest_4b := W_aloadR0 (M := mX1_soonest) dX1_soonest_4 (q := 5) rfl
def rX1_soonest_5 := W_getA (M := mX1_soonest) dX1_soonest_5 (q := 8) rfl fl1_18 ⟨_, rfl⟩
def rX1_soonest_8 := W_iload1 (M := mX1_soonest) dX1_soonest_8 (q := 9) rfl
def rX1_soonest_9 := W_aload0 (M := mX1_soonest) dX1_soonest_9 (q := 10) rfl
def rX1_soonest_9b := W_aloadR0 (M := mX1_soonest) dX1_soonest_9 (q := 10) rfl
def rX1_soonest_10 := W_getR (M := mX1_soonest) dX1_soonest_10 (q := 13) rfl fl1_24 ⟨_, rfl⟩
def rX1_soonest_13 := W_getR (M := mX1_soonest) dX1_soonest_13 (q := 16) rfl fl1_36 ⟨_, rfl⟩
def rX1_soonest_16 := W_getI (M := mX1_soonest) dX1_soonest_16 (q := 19) rfl fl1_73 (Or.inl rfl)
def rX1_soonest_19 := W_iload2 (M := mX1_soonest) dX1_soonest_19 (q := 20) rfl
def rX1_soonest_20 := W_invV4 (M := mX1_soonest) dX1_soonest_20 (q := 23) rfl ml0_1_79 rfl
def rX1_soonest_23 := W_iret (M := mX1_soonest) dX1_soonest_23 rfl
-- X2_addHouse
theorem eX2_addHouse {d : Nat} {h : qH} {Q : Option (Option Value) → qH → Prop} {s0 : Nat} {x1 : Int64} {x2 : Int32} {x3 : Int32} {x4 : Int32} : WM d mX2_addHouse [.ref s0, .long x1, .int x2, .int x3, .int x4] h Q = WP d mX2_addHouse (0, 0) 0 [some (.ref s0), some (.long x1), none, some (.int x2), some (.int x3), some (.int x4), none] [] h Q := rfl
def rX2_addHouse_0 := W_aload0 (M := mX2_addHouse) dX2_addHouse_0 (q := 1) rfl
def rX2_addHouse_0b := W_aloadR0 (M := mX2_addHouse) dX2_addHouse_0 (q := 1) rfl
def rX2_addHouse_1 := W_getR (M := mX2_addHouse) dX2_addHouse_1 (q := 4) rfl fl2_19 ⟨_, rfl⟩
def rX2_addHouse_4 := W_getI (M := mX2_addHouse) dX2_addHouse_4 (q := 7) rfl fl2_55 (Or.inl rfl)
def rX2_addHouse_7 := W_istore6 (M := mX2_addHouse) dX2_addHouse_7 (q := 9) rfl
def rX2_addHouse_9 := W_aload0 (M := mX2_addHouse) dX2_addHouse_9 (q := 10) rfl
def rX2_addHouse_9b := W_aloadR0 (M := mX2_addHouse) dX2_addHouse_9 (q := 10) rfl
def rX2_addHouse_10 := W_getA (M := mX2_addHouse) dX2_addHouse_10 (q := 13) rfl fl2_9 ⟨_, rfl⟩
def rX2_addHouse_13 := W_iload6 (M := mX2_addHouse) dX2_addHouse_13 (q := 15) rfl
def rX2_addHouse_15 := W_lload1 (M := mX2_addHouse) dX2_addHouse_15 (q := 16) rfl
def rX2_addHouse_16 := W_last (M := mX2_addHouse) dX2_addHouse_16 (q := 17) rfl
def rX2_addHouse_17 := W_aload0 (M := mX2_addHouse) dX2_addHouse_17 (q := 18) rfl
def rX2_addHouse_17b := W_aloadR0 (M := mX2_addHouse) dX2_addHouse_17 (q := 18) rfl
def rX2_addHouse_18 := W_getR (M := mX2_addHouse) dX2_addHouse_18 (q := 21) rfl fl2_19 ⟨_, rfl⟩
def rX2_addHouse_21 := W_getA (M := mX2_addHouse) dX2_addHouse_21 (q := 24) rfl fl2_198 ⟨_, rfl⟩
def rX2_addHouse_24 := W_iload6 (M := mX2_addHouse) dX2_addHouse_24 (q := 26) rfl
def rX2_addHouse_26 := W_iload3 (M := mX2_addHouse) dX2_addHouse_26 (q := 27) rfl
def rX2_addHouse_27 := W_iast (M := mX2_addHouse) dX2_addHouse_27 (q := 28) rfl
def rX2_addHouse_28 := W_aload0 (M := mX2_addHouse) dX2_addHouse_28 (q := 29) rfl
def rX2_addHouse_28b := W_aloadR0 (M := mX2_addHouse) dX2_addHouse_28 (q := 29) rfl
def rX2_addHouse_29 := W_getR (M := mX2_addHouse) dX2_addHouse_29 (q := 32) rfl fl2_19 ⟨_, rfl⟩
def rX2_addHouse_32 := W_getA (M := mX2_addHouse) dX2_addHouse_32 (q := 35) rfl fl2_202 ⟨_, rfl⟩
def rX2_addHouse_35 := W_iload6 (M := mX2_addHouse) dX2_addHouse_35 (q := 37) rfl
def rX2_addHouse_37 := W_iload4 (M := mX2_addHouse) dX2_addHouse_37 (q := 39) rfl
def rX2_addHouse_39 := W_iast (M := mX2_addHouse) dX2_addHouse_39 (q := 40) rfl
def rX2_addHouse_40 := W_aload0 (M := mX2_addHouse) dX2_addHouse_40 (q := 41) rfl
def rX2_addHouse_40b := W_aloadR0 (M := mX2_addHouse) dX2_addHouse_40 (q := 41) rfl
def rX2_addHouse_41 := W_getR (M := mX2_addHouse) dX2_addHouse_41 (q := 44) rfl fl2_19 ⟨_, rfl⟩
def rX2_addHouse_44 := W_getA (M := mX2_addHouse) dX2_addHouse_44 (q := 47) rfl fl2_205 ⟨_, rfl⟩
def rX2_addHouse_47 := W_iload6 (M := mX2_addHouse) dX2_addHouse_47 (q := 49) rfl
def rX2_addHouse_49 := W_iload5 (M := mX2_addHouse) dX2_addHouse_49 (q := 51) rfl
def rX2_addHouse_51 := W_iast (M := mX2_addHouse) dX2_addHouse_51 (q := 52) rfl
def rX2_addHouse_52 := W_aload0 (M := mX2_addHouse) dX2_addHouse_52 (q := 53) rfl
def rX2_addHouse_52b := W_aloadR0 (M := mX2_addHouse) dX2_addHouse_52 (q := 53) rfl
def rX2_addHouse_53 := W_getR (M := mX2_addHouse) dX2_addHouse_53 (q := 56) rfl fl2_19 ⟨_, rfl⟩
def rX2_addHouse_56 := W_getA (M := mX2_addHouse) dX2_addHouse_56 (q := 59) rfl fl2_207 ⟨_, rfl⟩
def rX2_addHouse_59 := W_iload6 (M := mX2_addHouse) dX2_addHouse_59 (q := 61) rfl
def rX2_addHouse_61 := W_iconst (M := mX2_addHouse) dX2_addHouse_61 (q := 62) rfl (v := (0)) rfl
def rX2_addHouse_62 := W_iast (M := mX2_addHouse) dX2_addHouse_62 (q := 63) rfl
def rX2_addHouse_63 := W_aload0 (M := mX2_addHouse) dX2_addHouse_63 (q := 64) rfl
def rX2_addHouse_63b := W_aloadR0 (M := mX2_addHouse) dX2_addHouse_63 (q := 64) rfl
def rX2_addHouse_64 := W_getR (M := mX2_addHouse) dX2_addHouse_64 (q := 67) rfl fl2_19 ⟨_, rfl⟩
def rX2_addHouse_67 := W_iload6 (M := mX2_addHouse) dX2_addHouse_67 (q := 69) rfl
def rX2_addHouse_69 := W_iconst (M := mX2_addHouse) dX2_addHouse_69 (q := 70) rfl (v := (1)) rfl
def rX2_addHouse_70 := W_iadd (M := mX2_addHouse) dX2_addHouse_70 (q := 71) rfl
def rX2_addHouse_71 := W_putI (M := mX2_addHouse) dX2_addHouse_71 (q := 74) rfl fl2_55 rfl (Or.inl rfl)
def rX2_addHouse_74 := W_vret (M := mX2_addHouse) dX2_addHouse_74 rfl
-- X2_doesLine
theorem eX2_doesLine {d : Nat} {h : qH} {Q : Option (Option Value) → qH → Prop} {s0 : Nat} : WM d mX2_doesLine [.ref s0] h Q = WP d mX2_doesLine (0, 0) 0 [some (.ref s0), none] [] h Q := rfl
def rX2_doesLine_0 := W_aload0 (M := mX2_doesLine) dX2_doesLine_0 (q := 1) rfl
def rX2_doesLine_0b := W_aloadR0 (M := mX2_doesLine) dX2_doesLine_0 (q := 1) rfl
def rX2_doesLine_1 := W_invV0 (M := mX2_doesLine) dX2_doesLine_1 (q := 4) rfl ml0_2_210 rfl
def rX2_doesLine_4 := W_istore1 (M := mX2_doesLine) dX2_doesLine_4 (q := 5) rfl
def rX2_doesLine_5 := W_iload1 (M := mX2_doesLine) dX2_doesLine_5 (q := 6) rfl
def rX2_doesLine_6 := W_iconst (M := mX2_doesLine) dX2_doesLine_6 (q := 7) rfl (v := (-1)) rfl
def rX2_doesLine_7 := W_icmp_ne (M := mX2_doesLine) dX2_doesLine_7 (q := 10) rfl (t := 12) rfl
def rX2_doesLine_10 := W_iconst (M := mX2_doesLine) dX2_doesLine_10 (q := 11) rfl (v := (0)) rfl
def rX2_doesLine_11 := W_zret (M := mX2_doesLine) dX2_doesLine_11 rfl
def rX2_doesLine_12 := W_aload0 (M := mX2_doesLine) dX2_doesLine_12 (q := 13) rfl
def rX2_doesLine_12b := W_aloadR0 (M := mX2_doesLine) dX2_doesLine_12 (q := 13) rfl
def rX2_doesLine_13 := W_getR (M := mX2_doesLine) dX2_doesLine_13 (q := 16) rfl fl2_19 ⟨_, rfl⟩
def rX2_doesLine_16 := W_getA (M := mX2_doesLine) dX2_doesLine_16 (q := 19) rfl fl2_207 ⟨_, rfl⟩
def rX2_doesLine_19 := W_iload1 (M := mX2_doesLine) dX2_doesLine_19 (q := 20) rfl
def rX2_doesLine_20 := W_iald (M := mX2_doesLine) dX2_doesLine_20 (q := 21) rfl
def rX2_doesLine_21 := W_if_eq (M := mX2_doesLine) dX2_doesLine_21 (q := 24) rfl (t := 30) rfl
def rX2_doesLine_24 := W_aload0 (M := mX2_doesLine) dX2_doesLine_24 (q := 25) rfl
def rX2_doesLine_24b := W_aloadR0 (M := mX2_doesLine) dX2_doesLine_24 (q := 25) rfl
def rX2_doesLine_25 := W_iconst (M := mX2_doesLine) dX2_doesLine_25 (q := 26) rfl (v := (3)) rfl
def rX2_doesLine_26 := W_invV1 (M := mX2_doesLine) dX2_doesLine_26 (q := 29) rfl ml0_2_58 rfl
def rX2_doesLine_29 := W_zret (M := mX2_doesLine) dX2_doesLine_29 rfl
def rX2_doesLine_30 := W_aload0 (M := mX2_doesLine) dX2_doesLine_30 (q := 31) rfl
def rX2_doesLine_30b := W_aloadR0 (M := mX2_doesLine) dX2_doesLine_30 (q := 31) rfl
def rX2_doesLine_31 := W_invV0 (M := mX2_doesLine) dX2_doesLine_31 (q := 34) rfl ml0_2_45 rfl
def rX2_doesLine_34 := W_aload0 (M := mX2_doesLine) dX2_doesLine_34 (q := 35) rfl
def rX2_doesLine_34b := W_aloadR0 (M := mX2_doesLine) dX2_doesLine_34 (q := 35) rfl
def rX2_doesLine_35 := W_ldc (M := mX2_doesLine) dX2_doesLine_35 (q := 37) rfl cs2_236
def rX2_doesLine_37 := W_invV1 (M := mX2_doesLine) dX2_doesLine_37 (q := 40) rfl ml0_2_89 rfl
def rX2_doesLine_40 := W_if_eq (M := mX2_doesLine) dX2_doesLine_40 (q := 43) rfl (t := 56) rfl
def rX2_doesLine_43 := W_aload0 (M := mX2_doesLine) dX2_doesLine_43 (q := 44) rfl
def rX2_doesLine_43b := W_aloadR0 (M := mX2_doesLine) dX2_doesLine_43 (q := 44) rfl
def rX2_doesLine_44 := W_getR (M := mX2_doesLine) dX2_doesLine_44 (q := 47) rfl fl2_19 ⟨_, rfl⟩
def rX2_doesLine_47 := W_getA (M := mX2_doesLine) dX2_doesLine_47 (q := 50) rfl fl2_207 ⟨_, rfl⟩
def rX2_doesLine_50 := W_iload1 (M := mX2_doesLine) dX2_doesLine_50 (q := 51) rfl
def rX2_doesLine_51 := W_iconst (M := mX2_doesLine) dX2_doesLine_51 (q := 52) rfl (v := (1)) rfl
def rX2_doesLine_52 := W_iast (M := mX2_doesLine) dX2_doesLine_52 (q := 53) rfl
def rX2_doesLine_53 := W_goto (M := mX2_doesLine) dX2_doesLine_53 (t := 106) rfl
def rX2_doesLine_56 := W_aload0 (M := mX2_doesLine) dX2_doesLine_56 (q := 57) rfl
def rX2_doesLine_56b := W_aloadR0 (M := mX2_doesLine) dX2_doesLine_56 (q := 57) rfl
def rX2_doesLine_57 := W_ldc (M := mX2_doesLine) dX2_doesLine_57 (q := 59) rfl cs2_238
def rX2_doesLine_59 := W_invV1 (M := mX2_doesLine) dX2_doesLine_59 (q := 62) rfl ml0_2_89 rfl
def rX2_doesLine_62 := W_if_eq (M := mX2_doesLine) dX2_doesLine_62 (q := 65) rfl (t := 78) rfl
def rX2_doesLine_65 := W_aload0 (M := mX2_doesLine) dX2_doesLine_65 (q := 66) rfl
def rX2_doesLine_65b := W_aloadR0 (M := mX2_doesLine) dX2_doesLine_65 (q := 66) rfl
def rX2_doesLine_66 := W_getR (M := mX2_doesLine) dX2_doesLine_66 (q := 69) rfl fl2_19 ⟨_, rfl⟩
def rX2_doesLine_69 := W_getA (M := mX2_doesLine) dX2_doesLine_69 (q := 72) rfl fl2_207 ⟨_, rfl⟩
def rX2_doesLine_72 := W_iload1 (M := mX2_doesLine) dX2_doesLine_72 (q := 73) rfl
def rX2_doesLine_73 := W_iconst (M := mX2_doesLine) dX2_doesLine_73 (q := 74) rfl (v := (2)) rfl
def rX2_doesLine_74 := W_iast (M := mX2_doesLine) dX2_doesLine_74 (q := 75) rfl
def rX2_doesLine_75 := W_goto (M := mX2_doesLine) dX2_doesLine_75 (t := 106) rfl
def rX2_doesLine_78 := W_aload0 (M := mX2_doesLine) dX2_doesLine_78 (q := 79) rfl
def rX2_doesLine_78b := W_aloadR0 (M := mX2_doesLine) dX2_doesLine_78 (q := 79) rfl
def rX2_doesLine_79 := W_ldc (M := mX2_doesLine) dX2_doesLine_79 (q := 81) rfl cs2_240
def rX2_doesLine_81 := W_invV1 (M := mX2_doesLine) dX2_doesLine_81 (q := 84) rfl ml0_2_89 rfl
def rX2_doesLine_84 := W_if_eq (M := mX2_doesLine) dX2_doesLine_84 (q := 87) rfl (t := 100) rfl
def rX2_doesLine_87 := W_aload0 (M := mX2_doesLine) dX2_doesLine_87 (q := 88) rfl
def rX2_doesLine_87b := W_aloadR0 (M := mX2_doesLine) dX2_doesLine_87 (q := 88) rfl
def rX2_doesLine_88 := W_getR (M := mX2_doesLine) dX2_doesLine_88 (q := 91) rfl fl2_19 ⟨_, rfl⟩
def rX2_doesLine_91 := W_getA (M := mX2_doesLine) dX2_doesLine_91 (q := 94) rfl fl2_207 ⟨_, rfl⟩
def rX2_doesLine_94 := W_iload1 (M := mX2_doesLine) dX2_doesLine_94 (q := 95) rfl
def rX2_doesLine_95 := W_iconst (M := mX2_doesLine) dX2_doesLine_95 (q := 96) rfl (v := (3)) rfl
def rX2_doesLine_96 := W_iast (M := mX2_doesLine) dX2_doesLine_96 (q := 97) rfl
def rX2_doesLine_97 := W_goto (M := mX2_doesLine) dX2_doesLine_97 (t := 106) rfl
def rX2_doesLine_100 := W_aload0 (M := mX2_doesLine) dX2_doesLine_100 (q := 101) rfl
def rX2_doesLine_100b := W_aloadR0 (M := mX2_doesLine) dX2_doesLine_100 (q := 101) rfl
def rX2_doesLine_101 := W_iconst (M := mX2_doesLine) dX2_doesLine_101 (q := 102) rfl (v := (1)) rfl
def rX2_doesLine_102 := W_invV1 (M := mX2_doesLine) dX2_doesLine_102 (q := 105) rfl ml0_2_58 rfl
def rX2_doesLine_105 := W_zret (M := mX2_doesLine) dX2_doesLine_105 rfl
def rX2_doesLine_106 := W_aload0 (M := mX2_doesLine) dX2_doesLine_106 (q := 107) rfl
def rX2_doesLine_106b := W_aloadR0 (M := mX2_doesLine) dX2_doesLine_106 (q := 107) rfl
def rX2_doesLine_107 := W_invV0 (M := mX2_doesLine) dX2_doesLine_107 (q := 110) rfl ml0_2_45 rfl
def rX2_doesLine_110 := W_iconst (M := mX2_doesLine) dX2_doesLine_110 (q := 111) rfl (v := (1)) rfl
def rX2_doesLine_111 := W_zret (M := mX2_doesLine) dX2_doesLine_111 rfl
-- X2_fail
theorem eX2_fail {d : Nat} {h : qH} {Q : Option (Option Value) → qH → Prop} {s0 : Nat} {x1 : Int32} : WM d mX2_fail [.ref s0, .int x1] h Q = WP d mX2_fail (0, 0) 0 [some (.ref s0), some (.int x1)] [] h Q := rfl
def rX2_fail_0 := W_aload0 (M := mX2_fail) dX2_fail_0 (q := 1) rfl
def rX2_fail_0b := W_aloadR0 (M := mX2_fail) dX2_fail_0 (q := 1) rfl
def rX2_fail_1 := W_iload1 (M := mX2_fail) dX2_fail_1 (q := 2) rfl
def rX2_fail_2 := W_putI (M := mX2_fail) dX2_fail_2 (q := 5) rfl fl2_36 rfl (Or.inl rfl)
def rX2_fail_5 := W_aload0 (M := mX2_fail) dX2_fail_5 (q := 6) rfl
def rX2_fail_5b := W_aloadR0 (M := mX2_fail) dX2_fail_5 (q := 6) rfl
def rX2_fail_6 := W_aload0 (M := mX2_fail) dX2_fail_6 (q := 7) rfl
def rX2_fail_6b := W_aloadR0 (M := mX2_fail) dX2_fail_6 (q := 7) rfl
def rX2_fail_7 := W_getI (M := mX2_fail) dX2_fail_7 (q := 10) rfl fl2_62 (Or.inl rfl)
def rX2_fail_10 := W_putI (M := mX2_fail) dX2_fail_10 (q := 13) rfl fl2_39 rfl (Or.inl rfl)
def rX2_fail_13 := W_iconst (M := mX2_fail) dX2_fail_13 (q := 14) rfl (v := (0)) rfl
def rX2_fail_14 := W_zret (M := mX2_fail) dX2_fail_14 rfl
-- X2_glassLine
theorem eX2_glassLine {d : Nat} {h : qH} {Q : Option (Option Value) → qH → Prop} {s0 : Nat} : WM d mX2_glassLine [.ref s0] h Q = WP d mX2_glassLine (0, 0) 0 [some (.ref s0), none] [] h Q := rfl
def rX2_glassLine_0 := W_aload0 (M := mX2_glassLine) dX2_glassLine_0 (q := 1) rfl
def rX2_glassLine_0b := W_aloadR0 (M := mX2_glassLine) dX2_glassLine_0 (q := 1) rfl
def rX2_glassLine_1 := W_getR (M := mX2_glassLine) dX2_glassLine_1 (q := 4) rfl fl2_19 ⟨_, rfl⟩
def rX2_glassLine_4 := W_getI (M := mX2_glassLine) dX2_glassLine_4 (q := 7) rfl fl2_157 (Or.inl rfl)
def rX2_glassLine_7 := W_if_le (M := mX2_glassLine) dX2_glassLine_7 (q := 10) rfl (t := 32) rfl
def rX2_glassLine_10 := W_aload0 (M := mX2_glassLine) dX2_glassLine_10 (q := 11) rfl
def rX2_glassLine_10b := W_aloadR0 (M := mX2_glassLine) dX2_glassLine_10 (q := 11) rfl
def rX2_glassLine_11 := W_getR (M := mX2_glassLine) dX2_glassLine_11 (q := 14) rfl fl2_19 ⟨_, rfl⟩
def rX2_glassLine_14 := W_getA (M := mX2_glassLine) dX2_glassLine_14 (q := 17) rfl fl2_245 ⟨_, rfl⟩
def rX2_glassLine_17 := W_aload0 (M := mX2_glassLine) dX2_glassLine_17 (q := 18) rfl
def rX2_glassLine_17b := W_aloadR0 (M := mX2_glassLine) dX2_glassLine_17 (q := 18) rfl
def rX2_glassLine_18 := W_getR (M := mX2_glassLine) dX2_glassLine_18 (q := 21) rfl fl2_19 ⟨_, rfl⟩
def rX2_glassLine_21 := W_getI (M := mX2_glassLine) dX2_glassLine_21 (q := 24) rfl fl2_157 (Or.inl rfl)
def rX2_glassLine_24 := W_iconst (M := mX2_glassLine) dX2_glassLine_24 (q := 25) rfl (v := (1)) rfl
def rX2_glassLine_25 := W_isub (M := mX2_glassLine) dX2_glassLine_25 (q := 26) rfl
def rX2_glassLine_26 := W_iald (M := mX2_glassLine) dX2_glassLine_26 (q := 27) rfl
def rX2_glassLine_27 := W_iconst (M := mX2_glassLine) dX2_glassLine_27 (q := 28) rfl (v := (1)) rfl
def rX2_glassLine_28 := W_iadd (M := mX2_glassLine) dX2_glassLine_28 (q := 29) rfl
def rX2_glassLine_29 := W_goto (M := mX2_glassLine) dX2_glassLine_29 (t := 33) rfl
def rX2_glassLine_32 := W_iconst (M := mX2_glassLine) dX2_glassLine_32 (q := 33) rfl (v := (0)) rfl
def rX2_glassLine_33 := W_istore1 (M := mX2_glassLine) dX2_glassLine_33 (q := 34) rfl
def rX2_glassLine_34 := W_aload0 (M := mX2_glassLine) dX2_glassLine_34 (q := 35) rfl
def rX2_glassLine_34b := W_aloadR0 (M := mX2_glassLine) dX2_glassLine_34 (q := 35) rfl
def rX2_glassLine_35 := W_ldc (M := mX2_glassLine) dX2_glassLine_35 (q := 37) rfl cs2_182
def rX2_glassLine_37 := W_invV1 (M := mX2_glassLine) dX2_glassLine_37 (q := 40) rfl ml0_2_168 rfl
def rX2_glassLine_40 := W_if_eq (M := mX2_glassLine) dX2_glassLine_40 (q := 43) rfl (t := 53) rfl
def rX2_glassLine_43 := W_aload0 (M := mX2_glassLine) dX2_glassLine_43 (q := 44) rfl
def rX2_glassLine_43b := W_aloadR0 (M := mX2_glassLine) dX2_glassLine_43 (q := 44) rfl
def rX2_glassLine_44 := W_iload1 (M := mX2_glassLine) dX2_glassLine_44 (q := 45) rfl
def rX2_glassLine_45 := W_bipush (M := mX2_glassLine) dX2_glassLine_45 (q := 47) rfl (v := (30)) rfl
def rX2_glassLine_47 := W_invV2 (M := mX2_glassLine) dX2_glassLine_47 (q := 50) rfl ml0_2_171 rfl
def rX2_glassLine_50 := W_if_ne (M := mX2_glassLine) dX2_glassLine_50 (q := 53) rfl (t := 55) rfl
def rX2_glassLine_53 := W_iconst (M := mX2_glassLine) dX2_glassLine_53 (q := 54) rfl (v := (0)) rfl
def rX2_glassLine_54 := W_zret (M := mX2_glassLine) dX2_glassLine_54 rfl
def rX2_glassLine_55 := W_aload0 (M := mX2_glassLine) dX2_glassLine_55 (q := 56) rfl
def rX2_glassLine_55b := W_aloadR0 (M := mX2_glassLine) dX2_glassLine_55 (q := 56) rfl
def rX2_glassLine_56 := W_getR (M := mX2_glassLine) dX2_glassLine_56 (q := 59) rfl fl2_19 ⟨_, rfl⟩
def rX2_glassLine_59 := W_getA (M := mX2_glassLine) dX2_glassLine_59 (q := 62) rfl fl2_245 ⟨_, rfl⟩
def rX2_glassLine_62 := W_aload0 (M := mX2_glassLine) dX2_glassLine_62 (q := 63) rfl
def rX2_glassLine_62b := W_aloadR0 (M := mX2_glassLine) dX2_glassLine_62 (q := 63) rfl
def rX2_glassLine_63 := W_getR (M := mX2_glassLine) dX2_glassLine_63 (q := 66) rfl fl2_19 ⟨_, rfl⟩
def rX2_glassLine_66 := W_getI (M := mX2_glassLine) dX2_glassLine_66 (q := 69) rfl fl2_157 (Or.inl rfl)
def rX2_glassLine_69 := W_aload0 (M := mX2_glassLine) dX2_glassLine_69 (q := 70) rfl
def rX2_glassLine_69b := W_aloadR0 (M := mX2_glassLine) dX2_glassLine_69 (q := 70) rfl
def rX2_glassLine_70 := W_getI (M := mX2_glassLine) dX2_glassLine_70 (q := 73) rfl fl2_113 (Or.inl rfl)
def rX2_glassLine_73 := W_iast (M := mX2_glassLine) dX2_glassLine_73 (q := 74) rfl
def rX2_glassLine_74 := W_aload0 (M := mX2_glassLine) dX2_glassLine_74 (q := 75) rfl
def rX2_glassLine_74b := W_aloadR0 (M := mX2_glassLine) dX2_glassLine_74 (q := 75) rfl
def rX2_glassLine_75 := W_getR (M := mX2_glassLine) dX2_glassLine_75 (q := 78) rfl fl2_19 ⟨_, rfl⟩
def rX2_glassLine_78 := W_dupI (M := mX2_glassLine) dX2_glassLine_78 (q := 79) rfl
def rX2_glassLine_78b := W_dupR (M := mX2_glassLine) dX2_glassLine_78 (q := 79) rfl
def rX2_glassLine_79 := W_getI (M := mX2_glassLine) dX2_glassLine_79 (q := 82) rfl fl2_157 (Or.inl rfl)
def rX2_glassLine_82 := W_iconst (M := mX2_glassLine) dX2_glassLine_82 (q := 83) rfl (v := (1)) rfl
def rX2_glassLine_83 := W_iadd (M := mX2_glassLine) dX2_glassLine_83 (q := 84) rfl
def rX2_glassLine_84 := W_putI (M := mX2_glassLine) dX2_glassLine_84 (q := 87) rfl fl2_157 rfl (Or.inl rfl)
def rX2_glassLine_87 := W_iconst (M := mX2_glassLine) dX2_glassLine_87 (q := 88) rfl (v := (1)) rfl
def rX2_glassLine_88 := W_zret (M := mX2_glassLine) dX2_glassLine_88 rfl
-- X2_houseHere
theorem eX2_houseHere {d : Nat} {h : qH} {Q : Option (Option Value) → qH → Prop} {s0 : Nat} : WM d mX2_houseHere [.ref s0] h Q = WP d mX2_houseHere (0, 0) 0 [some (.ref s0), none] [] h Q := rfl
def rX2_houseHere_0 := W_aload0 (M := mX2_houseHere) dX2_houseHere_0 (q := 1) rfl
def rX2_houseHere_0b := W_aloadR0 (M := mX2_houseHere) dX2_houseHere_0 (q := 1) rfl
def rX2_houseHere_1 := W_getI (M := mX2_houseHere) dX2_houseHere_1 (q := 4) rfl fl2_52 (Or.inl rfl)
def rX2_houseHere_4 := W_iconst (M := mX2_houseHere) dX2_houseHere_4 (q := 5) rfl (v := (1)) rfl
def rX2_houseHere_5 := W_icmp_ne (M := mX2_houseHere) dX2_houseHere_5 (q := 8) rfl (t := 16) rfl
def rX2_houseHere_8 := W_aload0 (M := mX2_houseHere) dX2_houseHere_8 (q := 9) rfl
def rX2_houseHere_8b := W_aloadR0 (M := mX2_houseHere) dX2_houseHere_8 (q := 9) rfl
def rX2_houseHere_9 := W_invV0 (M := mX2_houseHere) dX2_houseHere_9 (q := 12) rfl ml0_2_116 rfl
def rX2_houseHere_12 := W_iconst (M := mX2_houseHere) dX2_houseHere_12 (q := 13) rfl (v := (-1)) rfl
def rX2_houseHere_13 := W_icmp_eq (M := mX2_houseHere) dX2_houseHere_13 (q := 16) rfl (t := 24) rfl
def rX2_houseHere_16 := W_aload0 (M := mX2_houseHere) dX2_houseHere_16 (q := 17) rfl
def rX2_houseHere_16b := W_aloadR0 (M := mX2_houseHere) dX2_houseHere_16 (q := 17) rfl
def rX2_houseHere_17 := W_iconst (M := mX2_houseHere) dX2_houseHere_17 (q := 18) rfl (v := (1)) rfl
def rX2_houseHere_18 := W_invV1 (M := mX2_houseHere) dX2_houseHere_18 (q := 21) rfl ml0_2_58 rfl
def rX2_houseHere_21 := W_popI (M := mX2_houseHere) dX2_houseHere_21 (q := 22) rfl
def rX2_houseHere_22 := W_iconst (M := mX2_houseHere) dX2_houseHere_22 (q := 23) rfl (v := (-1)) rfl
def rX2_houseHere_23 := W_iret (M := mX2_houseHere) dX2_houseHere_23 rfl
def rX2_houseHere_24 := W_aload0 (M := mX2_houseHere) dX2_houseHere_24 (q := 25) rfl
def rX2_houseHere_24b := W_aloadR0 (M := mX2_houseHere) dX2_houseHere_24 (q := 25) rfl
def rX2_houseHere_25 := W_aload0 (M := mX2_houseHere) dX2_houseHere_25 (q := 26) rfl
def rX2_houseHere_25b := W_aloadR0 (M := mX2_houseHere) dX2_houseHere_25 (q := 26) rfl
def rX2_houseHere_26 := W_invV0 (M := mX2_houseHere) dX2_houseHere_26 (q := 29) rfl ml0_2_119 rfl
def rX2_houseHere_29 := W_invV1 (M := mX2_houseHere) dX2_houseHere_29 (q := 32) rfl ml0_2_123 rfl
def rX2_houseHere_32 := W_istore1 (M := mX2_houseHere) dX2_houseHere_32 (q := 33) rfl
def rX2_houseHere_33 := W_iload1 (M := mX2_houseHere) dX2_houseHere_33 (q := 34) rfl
def rX2_houseHere_34 := W_iconst (M := mX2_houseHere) dX2_houseHere_34 (q := 35) rfl (v := (-1)) rfl
def rX2_houseHere_35 := W_icmp_ne (M := mX2_houseHere) dX2_houseHere_35 (q := 38) rfl (t := 44) rfl
def rX2_houseHere_38 := W_aload0 (M := mX2_houseHere) dX2_houseHere_38 (q := 39) rfl
def rX2_houseHere_38b := W_aloadR0 (M := mX2_houseHere) dX2_houseHere_38 (q := 39) rfl
def rX2_houseHere_39 := W_iconst (M := mX2_houseHere) dX2_houseHere_39 (q := 40) rfl (v := (2)) rfl
def rX2_houseHere_40 := W_invV1 (M := mX2_houseHere) dX2_houseHere_40 (q := 43) rfl ml0_2_58 rfl
def rX2_houseHere_43 := W_popI (M := mX2_houseHere) dX2_houseHere_43 (q := 44) rfl
def rX2_houseHere_44 := W_iload1 (M := mX2_houseHere) dX2_houseHere_44 (q := 45) rfl
def rX2_houseHere_45 := W_iret (M := mX2_houseHere) dX2_houseHere_45 rfl
-- X2_houseLine
theorem eX2_houseLine {d : Nat} {h : qH} {Q : Option (Option Value) → qH → Prop} {s0 : Nat} : WM d mX2_houseLine [.ref s0] h Q = WP d mX2_houseLine (0, 0) 0 [some (.ref s0), none, none, none, none, none] [] h Q := rfl
def rX2_houseLine_0 := W_aload0 (M := mX2_houseLine) dX2_houseLine_0 (q := 1) rfl
def rX2_houseLine_0b := W_aloadR0 (M := mX2_houseLine) dX2_houseLine_0 (q := 1) rfl
def rX2_houseLine_1 := W_getI (M := mX2_houseLine) dX2_houseLine_1 (q := 4) rfl fl2_52 (Or.inl rfl)
def rX2_houseLine_4 := W_iconst (M := mX2_houseLine) dX2_houseLine_4 (q := 5) rfl (v := (1)) rfl
def rX2_houseLine_5 := W_icmp_ne (M := mX2_houseLine) dX2_houseLine_5 (q := 8) rfl (t := 16) rfl
def rX2_houseLine_8 := W_aload0 (M := mX2_houseLine) dX2_houseLine_8 (q := 9) rfl
def rX2_houseLine_8b := W_aloadR0 (M := mX2_houseLine) dX2_houseLine_8 (q := 9) rfl
def rX2_houseLine_9 := W_invV0 (M := mX2_houseLine) dX2_houseLine_9 (q := 12) rfl ml0_2_116 rfl
def rX2_houseLine_12 := W_iconst (M := mX2_houseLine) dX2_houseLine_12 (q := 13) rfl (v := (-1)) rfl
def rX2_houseLine_13 := W_icmp_eq (M := mX2_houseLine) dX2_houseLine_13 (q := 16) rfl (t := 22) rfl
def rX2_houseLine_16 := W_aload0 (M := mX2_houseLine) dX2_houseLine_16 (q := 17) rfl
def rX2_houseLine_16b := W_aloadR0 (M := mX2_houseLine) dX2_houseLine_16 (q := 17) rfl
def rX2_houseLine_17 := W_iconst (M := mX2_houseLine) dX2_houseLine_17 (q := 18) rfl (v := (1)) rfl
def rX2_houseLine_18 := W_invV1 (M := mX2_houseLine) dX2_houseLine_18 (q := 21) rfl ml0_2_58 rfl
def rX2_houseLine_21 := W_zret (M := mX2_houseLine) dX2_houseLine_21 rfl
def rX2_houseLine_22 := W_aload0 (M := mX2_houseLine) dX2_houseLine_22 (q := 23) rfl
def rX2_houseLine_22b := W_aloadR0 (M := mX2_houseLine) dX2_houseLine_22 (q := 23) rfl
def rX2_houseLine_23 := W_invV0 (M := mX2_houseLine) dX2_houseLine_23 (q := 26) rfl ml0_2_119 rfl
def rX2_houseLine_26 := W_lstore1 (M := mX2_houseLine) dX2_houseLine_26 (q := 27) rfl
def rX2_houseLine_27 := W_aload0 (M := mX2_houseLine) dX2_houseLine_27 (q := 28) rfl
def rX2_houseLine_27b := W_aloadR0 (M := mX2_houseLine) dX2_houseLine_27 (q := 28) rfl
def rX2_houseLine_28 := W_lload1 (M := mX2_houseLine) dX2_houseLine_28 (q := 29) rfl
def rX2_houseLine_29 := W_invV1 (M := mX2_houseLine) dX2_houseLine_29 (q := 32) rfl ml0_2_123 rfl
def rX2_houseLine_32 := W_iconst (M := mX2_houseLine) dX2_houseLine_32 (q := 33) rfl (v := (-1)) rfl
def rX2_houseLine_33 := W_icmp_eq (M := mX2_houseLine) dX2_houseLine_33 (q := 36) rfl (t := 42) rfl
def rX2_houseLine_36 := W_aload0 (M := mX2_houseLine) dX2_houseLine_36 (q := 37) rfl
def rX2_houseLine_36b := W_aloadR0 (M := mX2_houseLine) dX2_houseLine_36 (q := 37) rfl
def rX2_houseLine_37 := W_iconst (M := mX2_houseLine) dX2_houseLine_37 (q := 38) rfl (v := (3)) rfl
def rX2_houseLine_38 := W_invV1 (M := mX2_houseLine) dX2_houseLine_38 (q := 41) rfl ml0_2_58 rfl
def rX2_houseLine_41 := W_zret (M := mX2_houseLine) dX2_houseLine_41 rfl
def rX2_houseLine_42 := W_aload0 (M := mX2_houseLine) dX2_houseLine_42 (q := 43) rfl
def rX2_houseLine_42b := W_aloadR0 (M := mX2_houseLine) dX2_houseLine_42 (q := 43) rfl
def rX2_houseLine_43 := W_invV0 (M := mX2_houseLine) dX2_houseLine_43 (q := 46) rfl ml0_2_45 rfl
def rX2_houseLine_46 := W_aload0 (M := mX2_houseLine) dX2_houseLine_46 (q := 47) rfl
def rX2_houseLine_46b := W_aloadR0 (M := mX2_houseLine) dX2_houseLine_46 (q := 47) rfl
def rX2_houseLine_47 := W_invV0 (M := mX2_houseLine) dX2_houseLine_47 (q := 50) rfl ml0_2_177 rfl
def rX2_houseLine_50 := W_istore3 (M := mX2_houseLine) dX2_houseLine_50 (q := 51) rfl
def rX2_houseLine_51 := W_iload3 (M := mX2_houseLine) dX2_houseLine_51 (q := 52) rfl
def rX2_houseLine_52 := W_iconst (M := mX2_houseLine) dX2_houseLine_52 (q := 53) rfl (v := (-1)) rfl
def rX2_houseLine_53 := W_icmp_ne (M := mX2_houseLine) dX2_houseLine_53 (q := 56) rfl (t := 62) rfl
def rX2_houseLine_56 := W_aload0 (M := mX2_houseLine) dX2_houseLine_56 (q := 57) rfl
def rX2_houseLine_56b := W_aloadR0 (M := mX2_houseLine) dX2_houseLine_56 (q := 57) rfl
def rX2_houseLine_57 := W_iconst (M := mX2_houseLine) dX2_houseLine_57 (q := 58) rfl (v := (1)) rfl
def rX2_houseLine_58 := W_invV1 (M := mX2_houseLine) dX2_houseLine_58 (q := 61) rfl ml0_2_58 rfl
def rX2_houseLine_61 := W_zret (M := mX2_houseLine) dX2_houseLine_61 rfl
def rX2_houseLine_62 := W_aload0 (M := mX2_houseLine) dX2_houseLine_62 (q := 63) rfl
def rX2_houseLine_62b := W_aloadR0 (M := mX2_houseLine) dX2_houseLine_62 (q := 63) rfl
def rX2_houseLine_63 := W_invV0 (M := mX2_houseLine) dX2_houseLine_63 (q := 66) rfl ml0_2_45 rfl
def rX2_houseLine_66 := W_bipush (M := mX2_houseLine) dX2_houseLine_66 (q := 68) rfl (v := (-2)) rfl
def rX2_houseLine_68 := W_istore4 (M := mX2_houseLine) dX2_houseLine_68 (q := 70) rfl
def rX2_houseLine_70 := W_iconst (M := mX2_houseLine) dX2_houseLine_70 (q := 71) rfl (v := (0)) rfl
def rX2_houseLine_71 := W_istore5 (M := mX2_houseLine) dX2_houseLine_71 (q := 73) rfl
def rX2_houseLine_73 := W_aload0 (M := mX2_houseLine) dX2_houseLine_73 (q := 74) rfl
def rX2_houseLine_73b := W_aloadR0 (M := mX2_houseLine) dX2_houseLine_73 (q := 74) rfl
def rX2_houseLine_74 := W_ldc (M := mX2_houseLine) dX2_houseLine_74 (q := 76) rfl cs2_180
def rX2_houseLine_76 := W_invV1 (M := mX2_houseLine) dX2_houseLine_76 (q := 79) rfl ml0_2_89 rfl
def rX2_houseLine_79 := W_if_eq (M := mX2_houseLine) dX2_houseLine_79 (q := 82) rfl (t := 89) rfl
def rX2_houseLine_82 := W_aload0 (M := mX2_houseLine) dX2_houseLine_82 (q := 83) rfl
def rX2_houseLine_82b := W_aloadR0 (M := mX2_houseLine) dX2_houseLine_82 (q := 83) rfl
def rX2_houseLine_83 := W_invV0 (M := mX2_houseLine) dX2_houseLine_83 (q := 86) rfl ml0_2_45 rfl
def rX2_houseLine_86 := W_goto (M := mX2_houseLine) dX2_houseLine_86 (t := 143) rfl
def rX2_houseLine_89 := W_aload0 (M := mX2_houseLine) dX2_houseLine_89 (q := 90) rfl
def rX2_houseLine_89b := W_aloadR0 (M := mX2_houseLine) dX2_houseLine_89 (q := 90) rfl
def rX2_houseLine_90 := W_ldc (M := mX2_houseLine) dX2_houseLine_90 (q := 92) rfl cs2_182
def rX2_houseLine_92 := W_invV1 (M := mX2_houseLine) dX2_houseLine_92 (q := 95) rfl ml0_2_168 rfl
def rX2_houseLine_95 := W_if_eq (M := mX2_houseLine) dX2_houseLine_95 (q := 98) rfl (t := 108) rfl
def rX2_houseLine_98 := W_aload0 (M := mX2_houseLine) dX2_houseLine_98 (q := 99) rfl
def rX2_houseLine_98b := W_aloadR0 (M := mX2_houseLine) dX2_houseLine_98 (q := 99) rfl
def rX2_houseLine_99 := W_iconst (M := mX2_houseLine) dX2_houseLine_99 (q := 100) rfl (v := (0)) rfl
def rX2_houseLine_100 := W_bipush (M := mX2_houseLine) dX2_houseLine_100 (q := 102) rfl (v := (60)) rfl
def rX2_houseLine_102 := W_invV2 (M := mX2_houseLine) dX2_houseLine_102 (q := 105) rfl ml0_2_171 rfl
def rX2_houseLine_105 := W_if_ne (M := mX2_houseLine) dX2_houseLine_105 (q := 108) rfl (t := 110) rfl
def rX2_houseLine_108 := W_iconst (M := mX2_houseLine) dX2_houseLine_108 (q := 109) rfl (v := (0)) rfl
def rX2_houseLine_109 := W_zret (M := mX2_houseLine) dX2_houseLine_109 rfl
def rX2_houseLine_110 := W_aload0 (M := mX2_houseLine) dX2_houseLine_110 (q := 111) rfl
def rX2_houseLine_110b := W_aloadR0 (M := mX2_houseLine) dX2_houseLine_110 (q := 111) rfl
def rX2_houseLine_111 := W_getI (M := mX2_houseLine) dX2_houseLine_111 (q := 114) rfl fl2_113 (Or.inl rfl)
def rX2_houseLine_114 := W_istore4 (M := mX2_houseLine) dX2_houseLine_114 (q := 116) rfl
def rX2_houseLine_116 := W_aload0 (M := mX2_houseLine) dX2_houseLine_116 (q := 117) rfl
def rX2_houseLine_116b := W_aloadR0 (M := mX2_houseLine) dX2_houseLine_116 (q := 117) rfl
def rX2_houseLine_117 := W_ldc (M := mX2_houseLine) dX2_houseLine_117 (q := 119) rfl cs2_184
def rX2_houseLine_119 := W_invV1 (M := mX2_houseLine) dX2_houseLine_119 (q := 122) rfl ml0_2_168 rfl
def rX2_houseLine_122 := W_if_eq (M := mX2_houseLine) dX2_houseLine_122 (q := 125) rfl (t := 135) rfl
def rX2_houseLine_125 := W_aload0 (M := mX2_houseLine) dX2_houseLine_125 (q := 126) rfl
def rX2_houseLine_125b := W_aloadR0 (M := mX2_houseLine) dX2_houseLine_125 (q := 126) rfl
def rX2_houseLine_126 := W_iconst (M := mX2_houseLine) dX2_houseLine_126 (q := 127) rfl (v := (0)) rfl
def rX2_houseLine_127 := W_bipush (M := mX2_houseLine) dX2_houseLine_127 (q := 129) rfl (v := (100)) rfl
def rX2_houseLine_129 := W_invV2 (M := mX2_houseLine) dX2_houseLine_129 (q := 132) rfl ml0_2_171 rfl
def rX2_houseLine_132 := W_if_ne (M := mX2_houseLine) dX2_houseLine_132 (q := 135) rfl (t := 137) rfl
def rX2_houseLine_135 := W_iconst (M := mX2_houseLine) dX2_houseLine_135 (q := 136) rfl (v := (0)) rfl
def rX2_houseLine_136 := W_zret (M := mX2_houseLine) dX2_houseLine_136 rfl
def rX2_houseLine_137 := W_aload0 (M := mX2_houseLine) dX2_houseLine_137 (q := 138) rfl
def rX2_houseLine_137b := W_aloadR0 (M := mX2_houseLine) dX2_houseLine_137 (q := 138) rfl
def rX2_houseLine_138 := W_getI (M := mX2_houseLine) dX2_houseLine_138 (q := 141) rfl fl2_113 (Or.inl rfl)
def rX2_houseLine_141 := W_istore5 (M := mX2_houseLine) dX2_houseLine_141 (q := 143) rfl
def rX2_houseLine_143 := W_aload0 (M := mX2_houseLine) dX2_houseLine_143 (q := 144) rfl
def rX2_houseLine_143b := W_aloadR0 (M := mX2_houseLine) dX2_houseLine_143 (q := 144) rfl
def rX2_houseLine_144 := W_lload1 (M := mX2_houseLine) dX2_houseLine_144 (q := 145) rfl
def rX2_houseLine_145 := W_iload3 (M := mX2_houseLine) dX2_houseLine_145 (q := 146) rfl
def rX2_houseLine_146 := W_iload4 (M := mX2_houseLine) dX2_houseLine_146 (q := 148) rfl
def rX2_houseLine_148 := W_iload5 (M := mX2_houseLine) dX2_houseLine_148 (q := 150) rfl
def rX2_houseLine_150 := W_invV4 (M := mX2_houseLine) dX2_houseLine_150 (q := 153) rfl ml0_2_186 rfl
def rX2_houseLine_153 := W_iconst (M := mX2_houseLine) dX2_houseLine_153 (q := 154) rfl (v := (1)) rfl
def rX2_houseLine_154 := W_zret (M := mX2_houseLine) dX2_houseLine_154 rfl
-- X2_init
theorem eX2_init {d : Nat} {h : qH} {Q : Option (Option Value) → qH → Prop} {s0 : Nat} {x1 : Nat} {x2 : Nat} : WM d mX2_init [.ref s0, .ref x1, .ref x2] h Q = WP d mX2_init (0, 0) 0 [some (.ref s0), some (.ref x1), some (.ref x2)] [] h Q := rfl
def rX2_init_0 := W_aload0 (M := mX2_init) dX2_init_0 (q := 1) rfl
def rX2_init_0b := W_aloadR0 (M := mX2_init) dX2_init_0 (q := 1) rfl
def rX2_init_1 := W_objI (M := mX2_init) dX2_init_1 (q := 4) rfl ml10_2_3 ml2n_2_3 ml3n_2_3
def rX2_init_4 := W_aload0 (M := mX2_init) dX2_init_4 (q := 5) rfl
def rX2_init_4b := W_aloadR0 (M := mX2_init) dX2_init_4 (q := 5) rfl
def rX2_init_5 := W_bipush (M := mX2_init) dX2_init_5 (q := 7) rfl (v := (6)) rfl
def rX2_init_7 := W_newa (M := mX2_init) dX2_init_7 (q := 9) rfl
def rX2_init_9 := W_putA (M := mX2_init) dX2_init_9 (q := 12) rfl fl2_9 ⟨_, rfl⟩ (Or.inr ⟨rfl, rfl, rfl⟩)
def rX2_init_12 := W_aload0 (M := mX2_init) dX2_init_12 (q := 13) rfl
def rX2_init_12b := W_aloadR0 (M := mX2_init) dX2_init_12 (q := 13) rfl
def rX2_init_13 := W_aload1 (M := mX2_init) dX2_init_13 (q := 14) rfl
def rX2_init_13b := W_aloadR1 (M := mX2_init) dX2_init_13 (q := 14) rfl
def rX2_init_14 := W_putR (M := mX2_init) dX2_init_14 (q := 17) rfl fl2_15 ⟨_, rfl⟩ (Or.inr ⟨rfl, rfl, rfl⟩)
def rX2_init_17 := W_aload0 (M := mX2_init) dX2_init_17 (q := 18) rfl
def rX2_init_17b := W_aloadR0 (M := mX2_init) dX2_init_17 (q := 18) rfl
def rX2_init_18 := W_aload2 (M := mX2_init) dX2_init_18 (q := 19) rfl
def rX2_init_18b := W_aloadR2 (M := mX2_init) dX2_init_18 (q := 19) rfl
def rX2_init_19 := W_putR (M := mX2_init) dX2_init_19 (q := 22) rfl fl2_19 ⟨_, rfl⟩ (Or.inl rfl)
def rX2_init_22 := W_vret (M := mX2_init) dX2_init_22 rfl
-- X2_isDigit
theorem eX2_isDigit {d : Nat} {h : qH} {Q : Option (Option Value) → qH → Prop} {x1 : Int32} : WM d mX2_isDigit [.int x1] h Q = WP d mX2_isDigit (0, 0) 0 [some (.int x1)] [] h Q := rfl
def rX2_isDigit_0 := W_iload0 (M := mX2_isDigit) dX2_isDigit_0 (q := 1) rfl
def rX2_isDigit_1 := W_bipush (M := mX2_isDigit) dX2_isDigit_1 (q := 3) rfl (v := (48)) rfl
def rX2_isDigit_3 := W_icmp_lt (M := mX2_isDigit) dX2_isDigit_3 (q := 6) rfl (t := 16) rfl
def rX2_isDigit_6 := W_iload0 (M := mX2_isDigit) dX2_isDigit_6 (q := 7) rfl
def rX2_isDigit_7 := W_bipush (M := mX2_isDigit) dX2_isDigit_7 (q := 9) rfl (v := (57)) rfl
def rX2_isDigit_9 := W_icmp_gt (M := mX2_isDigit) dX2_isDigit_9 (q := 12) rfl (t := 16) rfl
def rX2_isDigit_12 := W_iconst (M := mX2_isDigit) dX2_isDigit_12 (q := 13) rfl (v := (1)) rfl
def rX2_isDigit_13 := W_goto (M := mX2_isDigit) dX2_isDigit_13 (t := 17) rfl
def rX2_isDigit_16 := W_iconst (M := mX2_isDigit) dX2_isDigit_16 (q := 17) rfl (v := (0)) rfl
def rX2_isDigit_17 := W_zret (M := mX2_isDigit) dX2_isDigit_17 rfl
-- X2_isFull
theorem eX2_isFull {d : Nat} {h : qH} {Q : Option (Option Value) → qH → Prop} {s0 : Nat} {x1 : Int32} : WM d mX2_isFull [.ref s0, .int x1] h Q = WP d mX2_isFull (0, 0) 0 [some (.ref s0), some (.int x1)] [] h Q := rfl
def rX2_isFull_0 := W_iload1 (M := mX2_isFull) dX2_isFull_0 (q := 1) rfl
def rX2_isFull_1 := W_tab (M := mX2_isFull) (k := 1) dX2_isFull_1 [44, 62, 131, 131, 80, 97, 114] (df := 131) rfl rfl (by decide) (by decide) 1 rfl
def rX2_isFull_44 := W_aload0 (M := mX2_isFull) dX2_isFull_44 (q := 45) rfl
def rX2_isFull_44b := W_aloadR0 (M := mX2_isFull) dX2_isFull_44 (q := 45) rfl
def rX2_isFull_45 := W_getR (M := mX2_isFull) dX2_isFull_45 (q := 48) rfl fl2_19 ⟨_, rfl⟩
def rX2_isFull_48 := W_getI (M := mX2_isFull) dX2_isFull_48 (q := 51) rfl fl2_55 (Or.inl rfl)
def rX2_isFull_51 := W_bipush (M := mX2_isFull) dX2_isFull_51 (q := 53) rfl (v := (6)) rfl
def rX2_isFull_53 := W_icmp_lt (M := mX2_isFull) dX2_isFull_53 (q := 56) rfl (t := 60) rfl
def rX2_isFull_56 := W_iconst (M := mX2_isFull) dX2_isFull_56 (q := 57) rfl (v := (1)) rfl
def rX2_isFull_57 := W_goto (M := mX2_isFull) dX2_isFull_57 (t := 61) rfl
def rX2_isFull_60 := W_iconst (M := mX2_isFull) dX2_isFull_60 (q := 61) rfl (v := (0)) rfl
def rX2_isFull_61 := W_zret (M := mX2_isFull) dX2_isFull_61 rfl
def rX2_isFull_62 := W_aload0 (M := mX2_isFull) dX2_isFull_62 (q := 63) rfl
def rX2_isFull_62b := W_aloadR0 (M := mX2_isFull) dX2_isFull_62 (q := 63) rfl
def rX2_isFull_63 := W_getR (M := mX2_isFull) dX2_isFull_63 (q := 66) rfl fl2_19 ⟨_, rfl⟩
def rX2_isFull_66 := W_getI (M := mX2_isFull) dX2_isFull_66 (q := 69) rfl fl2_154 (Or.inl rfl)
def rX2_isFull_69 := W_bipush (M := mX2_isFull) dX2_isFull_69 (q := 71) rfl (v := (9)) rfl
def rX2_isFull_71 := W_icmp_lt (M := mX2_isFull) dX2_isFull_71 (q := 74) rfl (t := 78) rfl
def rX2_isFull_74 := W_iconst (M := mX2_isFull) dX2_isFull_74 (q := 75) rfl (v := (1)) rfl
def rX2_isFull_75 := W_goto (M := mX2_isFull) dX2_isFull_75 (t := 79) rfl
def rX2_isFull_78 := W_iconst (M := mX2_isFull) dX2_isFull_78 (q := 79) rfl (v := (0)) rfl
def rX2_isFull_79 := W_zret (M := mX2_isFull) dX2_isFull_79 rfl
def rX2_isFull_80 := W_aload0 (M := mX2_isFull) dX2_isFull_80 (q := 81) rfl
def rX2_isFull_80b := W_aloadR0 (M := mX2_isFull) dX2_isFull_80 (q := 81) rfl
def rX2_isFull_81 := W_getR (M := mX2_isFull) dX2_isFull_81 (q := 84) rfl fl2_19 ⟨_, rfl⟩
def rX2_isFull_84 := W_getI (M := mX2_isFull) dX2_isFull_84 (q := 87) rfl fl2_157 (Or.inl rfl)
def rX2_isFull_87 := W_iconst (M := mX2_isFull) dX2_isFull_87 (q := 88) rfl (v := (4)) rfl
def rX2_isFull_88 := W_icmp_lt (M := mX2_isFull) dX2_isFull_88 (q := 91) rfl (t := 95) rfl
def rX2_isFull_91 := W_iconst (M := mX2_isFull) dX2_isFull_91 (q := 92) rfl (v := (1)) rfl
def rX2_isFull_92 := W_goto (M := mX2_isFull) dX2_isFull_92 (t := 96) rfl
def rX2_isFull_95 := W_iconst (M := mX2_isFull) dX2_isFull_95 (q := 96) rfl (v := (0)) rfl
def rX2_isFull_96 := W_zret (M := mX2_isFull) dX2_isFull_96 rfl
def rX2_isFull_97 := W_aload0 (M := mX2_isFull) dX2_isFull_97 (q := 98) rfl
def rX2_isFull_97b := W_aloadR0 (M := mX2_isFull) dX2_isFull_97 (q := 98) rfl
def rX2_isFull_98 := W_getR (M := mX2_isFull) dX2_isFull_98 (q := 101) rfl fl2_19 ⟨_, rfl⟩
def rX2_isFull_101 := W_getI (M := mX2_isFull) dX2_isFull_101 (q := 104) rfl fl2_160 (Or.inl rfl)
def rX2_isFull_104 := W_iconst (M := mX2_isFull) dX2_isFull_104 (q := 105) rfl (v := (2)) rfl
def rX2_isFull_105 := W_icmp_lt (M := mX2_isFull) dX2_isFull_105 (q := 108) rfl (t := 112) rfl
def rX2_isFull_108 := W_iconst (M := mX2_isFull) dX2_isFull_108 (q := 109) rfl (v := (1)) rfl
def rX2_isFull_109 := W_goto (M := mX2_isFull) dX2_isFull_109 (t := 113) rfl
def rX2_isFull_112 := W_iconst (M := mX2_isFull) dX2_isFull_112 (q := 113) rfl (v := (0)) rfl
def rX2_isFull_113 := W_zret (M := mX2_isFull) dX2_isFull_113 rfl
def rX2_isFull_114 := W_aload0 (M := mX2_isFull) dX2_isFull_114 (q := 115) rfl
def rX2_isFull_114b := W_aloadR0 (M := mX2_isFull) dX2_isFull_114 (q := 115) rfl
def rX2_isFull_115 := W_getR (M := mX2_isFull) dX2_isFull_115 (q := 118) rfl fl2_19 ⟨_, rfl⟩
def rX2_isFull_118 := W_getI (M := mX2_isFull) dX2_isFull_118 (q := 121) rfl fl2_163 (Or.inl rfl)
def rX2_isFull_121 := W_iconst (M := mX2_isFull) dX2_isFull_121 (q := 122) rfl (v := (4)) rfl
def rX2_isFull_122 := W_icmp_lt (M := mX2_isFull) dX2_isFull_122 (q := 125) rfl (t := 129) rfl
def rX2_isFull_125 := W_iconst (M := mX2_isFull) dX2_isFull_125 (q := 126) rfl (v := (1)) rfl
def rX2_isFull_126 := W_goto (M := mX2_isFull) dX2_isFull_126 (t := 130) rfl
def rX2_isFull_129 := W_iconst (M := mX2_isFull) dX2_isFull_129 (q := 130) rfl (v := (0)) rfl
def rX2_isFull_130 := W_zret (M := mX2_isFull) dX2_isFull_130 rfl
def rX2_isFull_131 := W_iconst (M := mX2_isFull) dX2_isFull_131 (q := 132) rfl (v := (0)) rfl
def rX2_isFull_132 := W_zret (M := mX2_isFull) dX2_isFull_132 rfl
-- X2_isLetter
theorem eX2_isLetter {d : Nat} {h : qH} {Q : Option (Option Value) → qH → Prop} {x1 : Int32} : WM d mX2_isLetter [.int x1] h Q = WP d mX2_isLetter (0, 0) 0 [some (.int x1)] [] h Q := rfl
def rX2_isLetter_0 := W_iload0 (M := mX2_isLetter) dX2_isLetter_0 (q := 1) rfl
def rX2_isLetter_1 := W_bipush (M := mX2_isLetter) dX2_isLetter_1 (q := 3) rfl (v := (97)) rfl
def rX2_isLetter_3 := W_icmp_lt (M := mX2_isLetter) dX2_isLetter_3 (q := 6) rfl (t := 16) rfl
def rX2_isLetter_6 := W_iload0 (M := mX2_isLetter) dX2_isLetter_6 (q := 7) rfl
def rX2_isLetter_7 := W_bipush (M := mX2_isLetter) dX2_isLetter_7 (q := 9) rfl (v := (122)) rfl
def rX2_isLetter_9 := W_icmp_gt (M := mX2_isLetter) dX2_isLetter_9 (q := 12) rfl (t := 16) rfl
def rX2_isLetter_12 := W_iconst (M := mX2_isLetter) dX2_isLetter_12 (q := 13) rfl (v := (1)) rfl
def rX2_isLetter_13 := W_goto (M := mX2_isLetter) dX2_isLetter_13 (t := 17) rfl
def rX2_isLetter_16 := W_iconst (M := mX2_isLetter) dX2_isLetter_16 (q := 17) rfl (v := (0)) rfl
def rX2_isLetter_17 := W_zret (M := mX2_isLetter) dX2_isLetter_17 rfl
-- X2_isWord
theorem eX2_isWord {d : Nat} {h : qH} {Q : Option (Option Value) → qH → Prop} {s0 : Nat} {x1 : Nat} : WM d mX2_isWord [.ref s0, .retAddr x1] h Q = WP d mX2_isWord (0, 0) 0 [some (.ref s0), some (.retAddr x1), none] [] h Q := rfl
def rX2_isWord_0 := W_aload0 (M := mX2_isWord) dX2_isWord_0 (q := 1) rfl
def rX2_isWord_0b := W_aloadR0 (M := mX2_isWord) dX2_isWord_0 (q := 1) rfl
def rX2_isWord_1 := W_getI (M := mX2_isWord) dX2_isWord_1 (q := 4) rfl fl2_52 (Or.inl rfl)
def rX2_isWord_4 := W_iconst (M := mX2_isWord) dX2_isWord_4 (q := 5) rfl (v := (1)) rfl
def rX2_isWord_5 := W_icmp_ne (M := mX2_isWord) dX2_isWord_5 (q := 8) rfl (t := 24) rfl
def rX2_isWord_8 := W_aload1 (M := mX2_isWord) dX2_isWord_8 (q := 9) rfl
def rX2_isWord_8b := W_aloadR1 (M := mX2_isWord) dX2_isWord_8 (q := 9) rfl
def rX2_isWord_9 := W_invT0 (M := mX2_isWord) dX2_isWord_9 (q := 12) rfl ml0_2_77 rfl rfl rfl rfl
def rX2_isWord_12 := W_aload0 (M := mX2_isWord) dX2_isWord_12 (q := 13) rfl
def rX2_isWord_12b := W_aloadR0 (M := mX2_isWord) dX2_isWord_12 (q := 13) rfl
def rX2_isWord_13 := W_getI (M := mX2_isWord) dX2_isWord_13 (q := 16) rfl fl2_42 (Or.inl rfl)
def rX2_isWord_16 := W_aload0 (M := mX2_isWord) dX2_isWord_16 (q := 17) rfl
def rX2_isWord_16b := W_aloadR0 (M := mX2_isWord) dX2_isWord_16 (q := 17) rfl
def rX2_isWord_17 := W_getI (M := mX2_isWord) dX2_isWord_17 (q := 20) rfl fl2_62 (Or.inl rfl)
def rX2_isWord_20 := W_isub (M := mX2_isWord) dX2_isWord_20 (q := 21) rfl
def rX2_isWord_21 := W_icmp_eq (M := mX2_isWord) dX2_isWord_21 (q := 24) rfl (t := 26) rfl
def rX2_isWord_24 := W_iconst (M := mX2_isWord) dX2_isWord_24 (q := 25) rfl (v := (0)) rfl
def rX2_isWord_25 := W_zret (M := mX2_isWord) dX2_isWord_25 rfl
def rX2_isWord_26 := W_iconst (M := mX2_isWord) dX2_isWord_26 (q := 27) rfl (v := (0)) rfl
def rX2_isWord_27 := W_istore2 (M := mX2_isWord) dX2_isWord_27 (q := 28) rfl
def rX2_isWord_28 := W_iload2 (M := mX2_isWord) dX2_isWord_28 (q := 29) rfl
def rX2_isWord_29 := W_aload1 (M := mX2_isWord) dX2_isWord_29 (q := 30) rfl
def rX2_isWord_29b := W_aloadR1 (M := mX2_isWord) dX2_isWord_29 (q := 30) rfl
def rX2_isWord_30 := W_invT0 (M := mX2_isWord) dX2_isWord_30 (q := 33) rfl ml0_2_77 rfl rfl rfl rfl
def rX2_isWord_33 := W_icmp_ge (M := mX2_isWord) dX2_isWord_33 (q := 36) rfl (t := 65) rfl
def rX2_isWord_36 := W_aload1 (M := mX2_isWord) dX2_isWord_36 (q := 37) rfl
def rX2_isWord_36b := W_aloadR1 (M := mX2_isWord) dX2_isWord_36 (q := 37) rfl
def rX2_isWord_37 := W_iload2 (M := mX2_isWord) dX2_isWord_37 (q := 38) rfl
def rX2_isWord_38 := W_invT1 (M := mX2_isWord) dX2_isWord_38 (q := 41) rfl ml0_2_83 rfl rfl rfl rfl
def rX2_isWord_41 := W_aload0 (M := mX2_isWord) dX2_isWord_41 (q := 42) rfl
def rX2_isWord_41b := W_aloadR0 (M := mX2_isWord) dX2_isWord_41 (q := 42) rfl
def rX2_isWord_42 := W_getR (M := mX2_isWord) dX2_isWord_42 (q := 45) rfl fl2_15 ⟨_, rfl⟩
def rX2_isWord_45 := W_aload0 (M := mX2_isWord) dX2_isWord_45 (q := 46) rfl
def rX2_isWord_45b := W_aloadR0 (M := mX2_isWord) dX2_isWord_45 (q := 46) rfl
def rX2_isWord_46 := W_getI (M := mX2_isWord) dX2_isWord_46 (q := 49) rfl fl2_62 (Or.inl rfl)
def rX2_isWord_49 := W_iload2 (M := mX2_isWord) dX2_isWord_49 (q := 50) rfl
def rX2_isWord_50 := W_iadd (M := mX2_isWord) dX2_isWord_50 (q := 51) rfl
def rX2_isWord_51 := W_invV1 (M := mX2_isWord) dX2_isWord_51 (q := 54) rfl ml0_2_65 rfl
def rX2_isWord_54 := W_icmp_eq (M := mX2_isWord) dX2_isWord_54 (q := 57) rfl (t := 59) rfl
def rX2_isWord_57 := W_iconst (M := mX2_isWord) dX2_isWord_57 (q := 58) rfl (v := (0)) rfl
def rX2_isWord_58 := W_zret (M := mX2_isWord) dX2_isWord_58 rfl
def rX2_isWord_59 := W_iinc2 (M := mX2_isWord) dX2_isWord_59 (q := 62) rfl (v := (1)) rfl
def rX2_isWord_62 := W_goto (M := mX2_isWord) dX2_isWord_62 (t := 28) rfl
def rX2_isWord_65 := W_iconst (M := mX2_isWord) dX2_isWord_65 (q := 66) rfl (v := (1)) rfl
def rX2_isWord_66 := W_zret (M := mX2_isWord) dX2_isWord_66 rfl
-- X2_kindHere
theorem eX2_kindHere {d : Nat} {h : qH} {Q : Option (Option Value) → qH → Prop} {s0 : Nat} : WM d mX2_kindHere [.ref s0] h Q = WP d mX2_kindHere (0, 0) 0 [some (.ref s0)] [] h Q := rfl
def rX2_kindHere_0 := W_aload0 (M := mX2_kindHere) dX2_kindHere_0 (q := 1) rfl
def rX2_kindHere_0b := W_aloadR0 (M := mX2_kindHere) dX2_kindHere_0 (q := 1) rfl
def rX2_kindHere_1 := W_ldc (M := mX2_kindHere) dX2_kindHere_1 (q := 3) rfl cs2_190
def rX2_kindHere_3 := W_invV1 (M := mX2_kindHere) dX2_kindHere_3 (q := 6) rfl ml0_2_89 rfl
def rX2_kindHere_6 := W_if_eq (M := mX2_kindHere) dX2_kindHere_6 (q := 9) rfl (t := 11) rfl
def rX2_kindHere_9 := W_iconst (M := mX2_kindHere) dX2_kindHere_9 (q := 10) rfl (v := (0)) rfl
def rX2_kindHere_10 := W_iret (M := mX2_kindHere) dX2_kindHere_10 rfl
def rX2_kindHere_11 := W_aload0 (M := mX2_kindHere) dX2_kindHere_11 (q := 12) rfl
def rX2_kindHere_11b := W_aloadR0 (M := mX2_kindHere) dX2_kindHere_11 (q := 12) rfl
def rX2_kindHere_12 := W_ldc (M := mX2_kindHere) dX2_kindHere_12 (q := 14) rfl cs2_192
def rX2_kindHere_14 := W_invV1 (M := mX2_kindHere) dX2_kindHere_14 (q := 17) rfl ml0_2_89 rfl
def rX2_kindHere_17 := W_if_eq (M := mX2_kindHere) dX2_kindHere_17 (q := 20) rfl (t := 22) rfl
def rX2_kindHere_20 := W_iconst (M := mX2_kindHere) dX2_kindHere_20 (q := 21) rfl (v := (1)) rfl
def rX2_kindHere_21 := W_iret (M := mX2_kindHere) dX2_kindHere_21 rfl
def rX2_kindHere_22 := W_aload0 (M := mX2_kindHere) dX2_kindHere_22 (q := 23) rfl
def rX2_kindHere_22b := W_aloadR0 (M := mX2_kindHere) dX2_kindHere_22 (q := 23) rfl
def rX2_kindHere_23 := W_ldc (M := mX2_kindHere) dX2_kindHere_23 (q := 25) rfl cs2_194
def rX2_kindHere_25 := W_invV1 (M := mX2_kindHere) dX2_kindHere_25 (q := 28) rfl ml0_2_89 rfl
def rX2_kindHere_28 := W_if_eq (M := mX2_kindHere) dX2_kindHere_28 (q := 31) rfl (t := 33) rfl
def rX2_kindHere_31 := W_iconst (M := mX2_kindHere) dX2_kindHere_31 (q := 32) rfl (v := (2)) rfl
def rX2_kindHere_32 := W_iret (M := mX2_kindHere) dX2_kindHere_32 rfl
def rX2_kindHere_33 := W_aload0 (M := mX2_kindHere) dX2_kindHere_33 (q := 34) rfl
def rX2_kindHere_33b := W_aloadR0 (M := mX2_kindHere) dX2_kindHere_33 (q := 34) rfl
def rX2_kindHere_34 := W_ldc (M := mX2_kindHere) dX2_kindHere_34 (q := 36) rfl cs2_196
def rX2_kindHere_36 := W_invV1 (M := mX2_kindHere) dX2_kindHere_36 (q := 39) rfl ml0_2_89 rfl
def rX2_kindHere_39 := W_if_eq (M := mX2_kindHere) dX2_kindHere_39 (q := 42) rfl (t := 46) rfl
def rX2_kindHere_42 := W_iconst (M := mX2_kindHere) dX2_kindHere_42 (q := 43) rfl (v := (3)) rfl
def rX2_kindHere_43 := W_goto (M := mX2_kindHere) dX2_kindHere_43 (t := 47) rfl
def rX2_kindHere_46 := W_iconst (M := mX2_kindHere) dX2_kindHere_46 (q := 47) rfl (v := (-1)) rfl
def rX2_kindHere_47 := W_iret (M := mX2_kindHere) dX2_kindHere_47 rfl
-- X2_lagTo
theorem eX2_lagTo {d : Nat} {h : qH} {Q : Option (Option Value) → qH → Prop} {x1 : Int32} {x2 : Int32} : WM d mX2_lagTo [.int x1, .int x2] h Q = WP d mX2_lagTo (0, 0) 0 [some (.int x1), some (.int x2)] [] h Q := rfl
def rX2_lagTo_0 := W_iload0 (M := mX2_lagTo) dX2_lagTo_0 (q := 1) rfl
def rX2_lagTo_1 := W_tab (M := mX2_lagTo) (k := 0) dX2_lagTo_1 [28, 32, 40] (df := 42) rfl rfl (by decide) (by decide) 0 rfl
def rX2_lagTo_28 := W_iload1 (M := mX2_lagTo) dX2_lagTo_28 (q := 29) rfl
def rX2_lagTo_29 := W_iconst (M := mX2_lagTo) dX2_lagTo_29 (q := 30) rfl (v := (1)) rfl
def rX2_lagTo_30 := W_iadd (M := mX2_lagTo) dX2_lagTo_30 (q := 31) rfl
def rX2_lagTo_31 := W_iret (M := mX2_lagTo) dX2_lagTo_31 rfl
def rX2_lagTo_32 := W_iconst (M := mX2_lagTo) dX2_lagTo_32 (q := 33) rfl (v := (0)) rfl
def rX2_lagTo_33 := W_iload1 (M := mX2_lagTo) dX2_lagTo_33 (q := 34) rfl
def rX2_lagTo_34 := W_iconst (M := mX2_lagTo) dX2_lagTo_34 (q := 35) rfl (v := (1)) rfl
def rX2_lagTo_35 := W_isub (M := mX2_lagTo) dX2_lagTo_35 (q := 36) rfl
def rX2_lagTo_36 := W_max (M := mX2_lagTo) dX2_lagTo_36 (q := 39) rfl ml11_2_231 ml1n_2_231
def rX2_lagTo_39 := W_iret (M := mX2_lagTo) dX2_lagTo_39 rfl
def rX2_lagTo_40 := W_iload1 (M := mX2_lagTo) dX2_lagTo_40 (q := 41) rfl
def rX2_lagTo_41 := W_iret (M := mX2_lagTo) dX2_lagTo_41 rfl
def rX2_lagTo_42 := W_sipush (M := mX2_lagTo) dX2_lagTo_42 (q := 45) rfl (v := (1000)) rfl
def rX2_lagTo_45 := W_iret (M := mX2_lagTo) dX2_lagTo_45 rfl
-- X2_line
theorem eX2_line {d : Nat} {h : qH} {Q : Option (Option Value) → qH → Prop} {s0 : Nat} : WM d mX2_line [.ref s0] h Q = WP d mX2_line (0, 0) 0 [some (.ref s0), none] [] h Q := rfl
def rX2_line_0 := W_aload0 (M := mX2_line) dX2_line_0 (q := 1) rfl
def rX2_line_0b := W_aloadR0 (M := mX2_line) dX2_line_0 (q := 1) rfl
def rX2_line_1 := W_getI (M := mX2_line) dX2_line_1 (q := 4) rfl fl2_52 (Or.inl rfl)
def rX2_line_4 := W_iconst (M := mX2_line) dX2_line_4 (q := 5) rfl (v := (1)) rfl
def rX2_line_5 := W_icmp_ne (M := mX2_line) dX2_line_5 (q := 8) rfl (t := 15) rfl
def rX2_line_8 := W_aload0 (M := mX2_line) dX2_line_8 (q := 9) rfl
def rX2_line_8b := W_aloadR0 (M := mX2_line) dX2_line_8 (q := 9) rfl
def rX2_line_9 := W_invV0 (M := mX2_line) dX2_line_9 (q := 12) rfl ml0_2_116 rfl
def rX2_line_12 := W_goto (M := mX2_line) dX2_line_12 (t := 16) rfl
def rX2_line_15 := W_iconst (M := mX2_line) dX2_line_15 (q := 16) rfl (v := (-1)) rfl
def rX2_line_16 := W_istore1 (M := mX2_line) dX2_line_16 (q := 17) rfl
def rX2_line_17 := W_iload1 (M := mX2_line) dX2_line_17 (q := 18) rfl
def rX2_line_18 := W_if_lt (M := mX2_line) dX2_line_18 (q := 21) rfl (t := 27) rfl
def rX2_line_21 := W_iload1 (M := mX2_line) dX2_line_21 (q := 22) rfl
def rX2_line_22 := W_bipush (M := mX2_line) dX2_line_22 (q := 24) rfl (v := (7)) rfl
def rX2_line_24 := W_icmp_le (M := mX2_line) dX2_line_24 (q := 27) rfl (t := 33) rfl
def rX2_line_27 := W_aload0 (M := mX2_line) dX2_line_27 (q := 28) rfl
def rX2_line_27b := W_aloadR0 (M := mX2_line) dX2_line_27 (q := 28) rfl
def rX2_line_28 := W_iconst (M := mX2_line) dX2_line_28 (q := 29) rfl (v := (1)) rfl
def rX2_line_29 := W_invV1 (M := mX2_line) dX2_line_29 (q := 32) rfl ml0_2_58 rfl
def rX2_line_32 := W_zret (M := mX2_line) dX2_line_32 rfl
def rX2_line_33 := W_iload1 (M := mX2_line) dX2_line_33 (q := 34) rfl
def rX2_line_34 := W_if_ne (M := mX2_line) dX2_line_34 (q := 37) rfl (t := 50) rfl
def rX2_line_37 := W_aload0 (M := mX2_line) dX2_line_37 (q := 38) rfl
def rX2_line_37b := W_aloadR0 (M := mX2_line) dX2_line_37 (q := 38) rfl
def rX2_line_38 := W_getI (M := mX2_line) dX2_line_38 (q := 41) rfl fl2_32 (Or.inr rfl)
def rX2_line_41 := W_if_eq (M := mX2_line) dX2_line_41 (q := 44) rfl (t := 50) rfl
def rX2_line_44 := W_aload0 (M := mX2_line) dX2_line_44 (q := 45) rfl
def rX2_line_44b := W_aloadR0 (M := mX2_line) dX2_line_44 (q := 45) rfl
def rX2_line_45 := W_iconst (M := mX2_line) dX2_line_45 (q := 46) rfl (v := (3)) rfl
def rX2_line_46 := W_invV1 (M := mX2_line) dX2_line_46 (q := 49) rfl ml0_2_58 rfl
def rX2_line_49 := W_zret (M := mX2_line) dX2_line_49 rfl
def rX2_line_50 := W_iload1 (M := mX2_line) dX2_line_50 (q := 51) rfl
def rX2_line_51 := W_if_eq (M := mX2_line) dX2_line_51 (q := 54) rfl (t := 68) rfl
def rX2_line_54 := W_aload0 (M := mX2_line) dX2_line_54 (q := 55) rfl
def rX2_line_54b := W_aloadR0 (M := mX2_line) dX2_line_54 (q := 55) rfl
def rX2_line_55 := W_getI (M := mX2_line) dX2_line_55 (q := 58) rfl fl2_32 (Or.inr rfl)
def rX2_line_58 := W_if_ne (M := mX2_line) dX2_line_58 (q := 61) rfl (t := 68) rfl
def rX2_line_61 := W_aload0 (M := mX2_line) dX2_line_61 (q := 62) rfl
def rX2_line_61b := W_aloadR0 (M := mX2_line) dX2_line_61 (q := 62) rfl
def rX2_line_62 := W_bipush (M := mX2_line) dX2_line_62 (q := 64) rfl (v := (6)) rfl
def rX2_line_64 := W_invV1 (M := mX2_line) dX2_line_64 (q := 67) rfl ml0_2_58 rfl
def rX2_line_67 := W_zret (M := mX2_line) dX2_line_67 rfl
def rX2_line_68 := W_aload0 (M := mX2_line) dX2_line_68 (q := 69) rfl
def rX2_line_68b := W_aloadR0 (M := mX2_line) dX2_line_68 (q := 69) rfl
def rX2_line_69 := W_iload1 (M := mX2_line) dX2_line_69 (q := 70) rfl
def rX2_line_70 := W_invV1 (M := mX2_line) dX2_line_70 (q := 73) rfl ml0_2_127 rfl
def rX2_line_73 := W_if_eq (M := mX2_line) dX2_line_73 (q := 76) rfl (t := 82) rfl
def rX2_line_76 := W_aload0 (M := mX2_line) dX2_line_76 (q := 77) rfl
def rX2_line_76b := W_aloadR0 (M := mX2_line) dX2_line_76 (q := 77) rfl
def rX2_line_77 := W_iconst (M := mX2_line) dX2_line_77 (q := 78) rfl (v := (5)) rfl
def rX2_line_78 := W_invV1 (M := mX2_line) dX2_line_78 (q := 81) rfl ml0_2_58 rfl
def rX2_line_81 := W_zret (M := mX2_line) dX2_line_81 rfl
def rX2_line_82 := W_aload0 (M := mX2_line) dX2_line_82 (q := 83) rfl
def rX2_line_82b := W_aloadR0 (M := mX2_line) dX2_line_82 (q := 83) rfl
def rX2_line_83 := W_invV0 (M := mX2_line) dX2_line_83 (q := 86) rfl ml0_2_45 rfl
def rX2_line_86 := W_iload1 (M := mX2_line) dX2_line_86 (q := 87) rfl
def rX2_line_87 := W_tab (M := mX2_line) (k := 0) dX2_line_87 [128, 133, 138, 143, 148, 153, 158] (df := 163) rfl rfl (by decide) (by decide) 0 rfl
def rX2_line_128 := W_aload0 (M := mX2_line) dX2_line_128 (q := 129) rfl
def rX2_line_128b := W_aloadR0 (M := mX2_line) dX2_line_128 (q := 129) rfl
def rX2_line_129 := W_invV0 (M := mX2_line) dX2_line_129 (q := 132) rfl ml0_2_130 rfl
def rX2_line_132 := W_zret (M := mX2_line) dX2_line_132 rfl
def rX2_line_133 := W_aload0 (M := mX2_line) dX2_line_133 (q := 134) rfl
def rX2_line_133b := W_aloadR0 (M := mX2_line) dX2_line_133 (q := 134) rfl
def rX2_line_134 := W_invV0 (M := mX2_line) dX2_line_134 (q := 137) rfl ml0_2_133 rfl
def rX2_line_137 := W_zret (M := mX2_line) dX2_line_137 rfl
def rX2_line_138 := W_aload0 (M := mX2_line) dX2_line_138 (q := 139) rfl
def rX2_line_138b := W_aloadR0 (M := mX2_line) dX2_line_138 (q := 139) rfl
def rX2_line_139 := W_invV0 (M := mX2_line) dX2_line_139 (q := 142) rfl ml0_2_136 rfl
def rX2_line_142 := W_zret (M := mX2_line) dX2_line_142 rfl
def rX2_line_143 := W_aload0 (M := mX2_line) dX2_line_143 (q := 144) rfl
def rX2_line_143b := W_aloadR0 (M := mX2_line) dX2_line_143 (q := 144) rfl
def rX2_line_144 := W_invV0 (M := mX2_line) dX2_line_144 (q := 147) rfl ml0_2_139 rfl
def rX2_line_147 := W_zret (M := mX2_line) dX2_line_147 rfl
def rX2_line_148 := W_aload0 (M := mX2_line) dX2_line_148 (q := 149) rfl
def rX2_line_148b := W_aloadR0 (M := mX2_line) dX2_line_148 (q := 149) rfl
def rX2_line_149 := W_invV0 (M := mX2_line) dX2_line_149 (q := 152) rfl ml0_2_142 rfl
def rX2_line_152 := W_zret (M := mX2_line) dX2_line_152 rfl
def rX2_line_153 := W_aload0 (M := mX2_line) dX2_line_153 (q := 154) rfl
def rX2_line_153b := W_aloadR0 (M := mX2_line) dX2_line_153 (q := 154) rfl
def rX2_line_154 := W_invV0 (M := mX2_line) dX2_line_154 (q := 157) rfl ml0_2_145 rfl
def rX2_line_157 := W_zret (M := mX2_line) dX2_line_157 rfl
def rX2_line_158 := W_aload0 (M := mX2_line) dX2_line_158 (q := 159) rfl
def rX2_line_158b := W_aloadR0 (M := mX2_line) dX2_line_158 (q := 159) rfl
def rX2_line_159 := W_invV0 (M := mX2_line) dX2_line_159 (q := 162) rfl ml0_2_148 rfl
def rX2_line_162 := W_zret (M := mX2_line) dX2_line_162 rfl
def rX2_line_163 := W_aload0 (M := mX2_line) dX2_line_163 (q := 164) rfl
def rX2_line_163b := W_aloadR0 (M := mX2_line) dX2_line_163 (q := 164) rfl
def rX2_line_164 := W_invV0 (M := mX2_line) dX2_line_164 (q := 167) rfl ml0_2_151 rfl
def rX2_line_167 := W_zret (M := mX2_line) dX2_line_167 rfl
-- X2_nameHere
theorem eX2_nameHere {d : Nat} {h : qH} {Q : Option (Option Value) → qH → Prop} {s0 : Nat} : WM d mX2_nameHere [.ref s0] h Q = WP d mX2_nameHere (0, 0) 0 [some (.ref s0), none, none, none] [] h Q := rfl
def rX2_nameHere_0 := W_lconst (M := mX2_nameHere) dX2_nameHere_0 (q := 1) rfl (v := 0) rfl
def rX2_nameHere_1 := W_lstore1 (M := mX2_nameHere) dX2_nameHere_1 (q := 2) rfl
def rX2_nameHere_2 := W_aload0 (M := mX2_nameHere) dX2_nameHere_2 (q := 3) rfl
def rX2_nameHere_2b := W_aloadR0 (M := mX2_nameHere) dX2_nameHere_2 (q := 3) rfl
def rX2_nameHere_3 := W_getI (M := mX2_nameHere) dX2_nameHere_3 (q := 6) rfl fl2_62 (Or.inl rfl)
def rX2_nameHere_6 := W_istore3 (M := mX2_nameHere) dX2_nameHere_6 (q := 7) rfl
def rX2_nameHere_7 := W_iload3 (M := mX2_nameHere) dX2_nameHere_7 (q := 8) rfl
def rX2_nameHere_8 := W_aload0 (M := mX2_nameHere) dX2_nameHere_8 (q := 9) rfl
def rX2_nameHere_8b := W_aloadR0 (M := mX2_nameHere) dX2_nameHere_8 (q := 9) rfl
def rX2_nameHere_9 := W_getI (M := mX2_nameHere) dX2_nameHere_9 (q := 12) rfl fl2_42 (Or.inl rfl)
def rX2_nameHere_12 := W_icmp_ge (M := mX2_nameHere) dX2_nameHere_12 (q := 15) rfl (t := 43) rfl
def rX2_nameHere_15 := W_lload1 (M := mX2_nameHere) dX2_nameHere_15 (q := 16) rfl
def rX2_nameHere_16 := W_ldc2_w (M := mX2_nameHere) dX2_nameHere_16 (q := 19) rfl cj2_109
def rX2_nameHere_19 := W_lmul (M := mX2_nameHere) dX2_nameHere_19 (q := 20) rfl
def rX2_nameHere_20 := W_aload0 (M := mX2_nameHere) dX2_nameHere_20 (q := 21) rfl
def rX2_nameHere_20b := W_aloadR0 (M := mX2_nameHere) dX2_nameHere_20 (q := 21) rfl
def rX2_nameHere_21 := W_getR (M := mX2_nameHere) dX2_nameHere_21 (q := 24) rfl fl2_15 ⟨_, rfl⟩
def rX2_nameHere_24 := W_iload3 (M := mX2_nameHere) dX2_nameHere_24 (q := 25) rfl
def rX2_nameHere_25 := W_invV1 (M := mX2_nameHere) dX2_nameHere_25 (q := 28) rfl ml0_2_65 rfl
def rX2_nameHere_28 := W_i2l (M := mX2_nameHere) dX2_nameHere_28 (q := 29) rfl
def rX2_nameHere_29 := W_ladd (M := mX2_nameHere) dX2_nameHere_29 (q := 30) rfl
def rX2_nameHere_30 := W_ldc2_w (M := mX2_nameHere) dX2_nameHere_30 (q := 33) rfl cj2_111
def rX2_nameHere_33 := W_lsub (M := mX2_nameHere) dX2_nameHere_33 (q := 34) rfl
def rX2_nameHere_34 := W_lconst (M := mX2_nameHere) dX2_nameHere_34 (q := 35) rfl (v := 1) rfl
def rX2_nameHere_35 := W_ladd (M := mX2_nameHere) dX2_nameHere_35 (q := 36) rfl
def rX2_nameHere_36 := W_lstore1 (M := mX2_nameHere) dX2_nameHere_36 (q := 37) rfl
def rX2_nameHere_37 := W_iinc3 (M := mX2_nameHere) dX2_nameHere_37 (q := 40) rfl (v := (1)) rfl
def rX2_nameHere_40 := W_goto (M := mX2_nameHere) dX2_nameHere_40 (t := 7) rfl
def rX2_nameHere_43 := W_lload1 (M := mX2_nameHere) dX2_nameHere_43 (q := 44) rfl
def rX2_nameHere_44 := W_lret (M := mX2_nameHere) dX2_nameHere_44 rfl
-- X2_named
theorem eX2_named {d : Nat} {h : qH} {Q : Option (Option Value) → qH → Prop} {s0 : Nat} {x1 : Int64} : WM d mX2_named [.ref s0, .long x1] h Q = WP d mX2_named (0, 0) 0 [some (.ref s0), some (.long x1), none, none] [] h Q := rfl
def rX2_named_0 := W_iconst (M := mX2_named) dX2_named_0 (q := 1) rfl (v := (0)) rfl
def rX2_named_1 := W_istore3 (M := mX2_named) dX2_named_1 (q := 2) rfl
def rX2_named_2 := W_iload3 (M := mX2_named) dX2_named_2 (q := 3) rfl
def rX2_named_3 := W_aload0 (M := mX2_named) dX2_named_3 (q := 4) rfl
def rX2_named_3b := W_aloadR0 (M := mX2_named) dX2_named_3 (q := 4) rfl
def rX2_named_4 := W_getR (M := mX2_named) dX2_named_4 (q := 7) rfl fl2_19 ⟨_, rfl⟩
def rX2_named_7 := W_getI (M := mX2_named) dX2_named_7 (q := 10) rfl fl2_55 (Or.inl rfl)
def rX2_named_10 := W_icmp_ge (M := mX2_named) dX2_named_10 (q := 13) rfl (t := 32) rfl
def rX2_named_13 := W_aload0 (M := mX2_named) dX2_named_13 (q := 14) rfl
def rX2_named_13b := W_aloadR0 (M := mX2_named) dX2_named_13 (q := 14) rfl
def rX2_named_14 := W_getA (M := mX2_named) dX2_named_14 (q := 17) rfl fl2_9 ⟨_, rfl⟩
def rX2_named_17 := W_iload3 (M := mX2_named) dX2_named_17 (q := 18) rfl
def rX2_named_18 := W_lald (M := mX2_named) dX2_named_18 (q := 19) rfl
def rX2_named_19 := W_lload1 (M := mX2_named) dX2_named_19 (q := 20) rfl
def rX2_named_20 := W_lcmp (M := mX2_named) dX2_named_20 (q := 21) rfl
def rX2_named_21 := W_if_ne (M := mX2_named) dX2_named_21 (q := 24) rfl (t := 26) rfl
def rX2_named_24 := W_iload3 (M := mX2_named) dX2_named_24 (q := 25) rfl
def rX2_named_25 := W_iret (M := mX2_named) dX2_named_25 rfl
def rX2_named_26 := W_iinc3 (M := mX2_named) dX2_named_26 (q := 29) rfl (v := (1)) rfl
def rX2_named_29 := W_goto (M := mX2_named) dX2_named_29 (t := 2) rfl
def rX2_named_32 := W_iconst (M := mX2_named) dX2_named_32 (q := 33) rfl (v := (-1)) rfl
def rX2_named_33 := W_iret (M := mX2_named) dX2_named_33 rfl
-- X2_pulledLine
theorem eX2_pulledLine {d : Nat} {h : qH} {Q : Option (Option Value) → qH → Prop} {s0 : Nat} : WM d mX2_pulledLine [.ref s0] h Q = WP d mX2_pulledLine (0, 0) 0 [some (.ref s0), none] [] h Q := rfl
def rX2_pulledLine_0 := W_aload0 (M := mX2_pulledLine) dX2_pulledLine_0 (q := 1) rfl
def rX2_pulledLine_0b := W_aloadR0 (M := mX2_pulledLine) dX2_pulledLine_0 (q := 1) rfl
def rX2_pulledLine_1 := W_invV0 (M := mX2_pulledLine) dX2_pulledLine_1 (q := 4) rfl ml0_2_210 rfl
def rX2_pulledLine_4 := W_istore1 (M := mX2_pulledLine) dX2_pulledLine_4 (q := 5) rfl
def rX2_pulledLine_5 := W_iload1 (M := mX2_pulledLine) dX2_pulledLine_5 (q := 6) rfl
def rX2_pulledLine_6 := W_iconst (M := mX2_pulledLine) dX2_pulledLine_6 (q := 7) rfl (v := (-1)) rfl
def rX2_pulledLine_7 := W_icmp_ne (M := mX2_pulledLine) dX2_pulledLine_7 (q := 10) rfl (t := 12) rfl
def rX2_pulledLine_10 := W_iconst (M := mX2_pulledLine) dX2_pulledLine_10 (q := 11) rfl (v := (0)) rfl
def rX2_pulledLine_11 := W_zret (M := mX2_pulledLine) dX2_pulledLine_11 rfl
def rX2_pulledLine_12 := W_aload0 (M := mX2_pulledLine) dX2_pulledLine_12 (q := 13) rfl
def rX2_pulledLine_12b := W_aloadR0 (M := mX2_pulledLine) dX2_pulledLine_12 (q := 13) rfl
def rX2_pulledLine_13 := W_getR (M := mX2_pulledLine) dX2_pulledLine_13 (q := 16) rfl fl2_19 ⟨_, rfl⟩
def rX2_pulledLine_16 := W_getI (M := mX2_pulledLine) dX2_pulledLine_16 (q := 19) rfl fl2_242 (Or.inl rfl)
def rX2_pulledLine_19 := W_iload1 (M := mX2_pulledLine) dX2_pulledLine_19 (q := 20) rfl
def rX2_pulledLine_20 := W_ishr (M := mX2_pulledLine) dX2_pulledLine_20 (q := 21) rfl
def rX2_pulledLine_21 := W_iconst (M := mX2_pulledLine) dX2_pulledLine_21 (q := 22) rfl (v := (1)) rfl
def rX2_pulledLine_22 := W_iand (M := mX2_pulledLine) dX2_pulledLine_22 (q := 23) rfl
def rX2_pulledLine_23 := W_iconst (M := mX2_pulledLine) dX2_pulledLine_23 (q := 24) rfl (v := (1)) rfl
def rX2_pulledLine_24 := W_icmp_ne (M := mX2_pulledLine) dX2_pulledLine_24 (q := 27) rfl (t := 33) rfl
def rX2_pulledLine_27 := W_aload0 (M := mX2_pulledLine) dX2_pulledLine_27 (q := 28) rfl
def rX2_pulledLine_27b := W_aloadR0 (M := mX2_pulledLine) dX2_pulledLine_27 (q := 28) rfl
def rX2_pulledLine_28 := W_iconst (M := mX2_pulledLine) dX2_pulledLine_28 (q := 29) rfl (v := (3)) rfl
def rX2_pulledLine_29 := W_invV1 (M := mX2_pulledLine) dX2_pulledLine_29 (q := 32) rfl ml0_2_58 rfl
def rX2_pulledLine_32 := W_zret (M := mX2_pulledLine) dX2_pulledLine_32 rfl
def rX2_pulledLine_33 := W_aload0 (M := mX2_pulledLine) dX2_pulledLine_33 (q := 34) rfl
def rX2_pulledLine_33b := W_aloadR0 (M := mX2_pulledLine) dX2_pulledLine_33 (q := 34) rfl
def rX2_pulledLine_34 := W_getR (M := mX2_pulledLine) dX2_pulledLine_34 (q := 37) rfl fl2_19 ⟨_, rfl⟩
def rX2_pulledLine_37 := W_dupI (M := mX2_pulledLine) dX2_pulledLine_37 (q := 38) rfl
def rX2_pulledLine_37b := W_dupR (M := mX2_pulledLine) dX2_pulledLine_37 (q := 38) rfl
def rX2_pulledLine_38 := W_getI (M := mX2_pulledLine) dX2_pulledLine_38 (q := 41) rfl fl2_242 (Or.inl rfl)
def rX2_pulledLine_41 := W_iconst (M := mX2_pulledLine) dX2_pulledLine_41 (q := 42) rfl (v := (1)) rfl
def rX2_pulledLine_42 := W_iload1 (M := mX2_pulledLine) dX2_pulledLine_42 (q := 43) rfl
def rX2_pulledLine_43 := W_ishl (M := mX2_pulledLine) dX2_pulledLine_43 (q := 44) rfl
def rX2_pulledLine_44 := W_ior (M := mX2_pulledLine) dX2_pulledLine_44 (q := 45) rfl
def rX2_pulledLine_45 := W_putI (M := mX2_pulledLine) dX2_pulledLine_45 (q := 48) rfl fl2_242 rfl (Or.inl rfl)
def rX2_pulledLine_48 := W_aload0 (M := mX2_pulledLine) dX2_pulledLine_48 (q := 49) rfl
def rX2_pulledLine_48b := W_aloadR0 (M := mX2_pulledLine) dX2_pulledLine_48 (q := 49) rfl
def rX2_pulledLine_49 := W_invV0 (M := mX2_pulledLine) dX2_pulledLine_49 (q := 52) rfl ml0_2_45 rfl
def rX2_pulledLine_52 := W_iconst (M := mX2_pulledLine) dX2_pulledLine_52 (q := 53) rfl (v := (1)) rfl
def rX2_pulledLine_53 := W_zret (M := mX2_pulledLine) dX2_pulledLine_53 rfl
-- X2_read
theorem eX2_read {d : Nat} {h : qH} {Q : Option (Option Value) → qH → Prop} {s0 : Nat} {x1 : Nat} {x2 : Int32} : WM d mX2_read [.ref s0, .ref x1, .int x2] h Q = WP d mX2_read (0, 0) 0 [some (.ref s0), some (.ref x1), some (.int x2), none] [] h Q := rfl
def rX2_read_0 := W_aload0 (M := mX2_read) dX2_read_0 (q := 1) rfl
def rX2_read_0b := W_aloadR0 (M := mX2_read) dX2_read_0 (q := 1) rfl
def rX2_read_1 := W_aload1 (M := mX2_read) dX2_read_1 (q := 2) rfl
def rX2_read_1b := W_aloadR1 (M := mX2_read) dX2_read_1 (q := 2) rfl
def rX2_read_2 := W_putR (M := mX2_read) dX2_read_2 (q := 5) rfl fl2_19 ⟨_, rfl⟩ (Or.inl rfl)
def rX2_read_5 := W_aload0 (M := mX2_read) dX2_read_5 (q := 6) rfl
def rX2_read_5b := W_aloadR0 (M := mX2_read) dX2_read_5 (q := 6) rfl
def rX2_read_6 := W_getR (M := mX2_read) dX2_read_6 (q := 9) rfl fl2_19 ⟨_, rfl⟩
def rX2_read_9 := W_invV0 (M := mX2_read) dX2_read_9 (q := 12) rfl ml0_2_23 rfl
def rX2_read_12 := W_aload0 (M := mX2_read) dX2_read_12 (q := 13) rfl
def rX2_read_12b := W_aloadR0 (M := mX2_read) dX2_read_12 (q := 13) rfl
def rX2_read_13 := W_iload2 (M := mX2_read) dX2_read_13 (q := 14) rfl
def rX2_read_14 := W_putI (M := mX2_read) dX2_read_14 (q := 17) rfl fl2_28 rfl (Or.inl rfl)
def rX2_read_17 := W_aload0 (M := mX2_read) dX2_read_17 (q := 18) rfl
def rX2_read_17b := W_aloadR0 (M := mX2_read) dX2_read_17 (q := 18) rfl
def rX2_read_18 := W_iconst (M := mX2_read) dX2_read_18 (q := 19) rfl (v := (0)) rfl
def rX2_read_19 := W_putZ (M := mX2_read) dX2_read_19 (q := 22) rfl fl2_32 rfl (Or.inl rfl)
def rX2_read_22 := W_aload0 (M := mX2_read) dX2_read_22 (q := 23) rfl
def rX2_read_22b := W_aloadR0 (M := mX2_read) dX2_read_22 (q := 23) rfl
def rX2_read_23 := W_iconst (M := mX2_read) dX2_read_23 (q := 24) rfl (v := (0)) rfl
def rX2_read_24 := W_putI (M := mX2_read) dX2_read_24 (q := 27) rfl fl2_36 rfl (Or.inl rfl)
def rX2_read_27 := W_aload0 (M := mX2_read) dX2_read_27 (q := 28) rfl
def rX2_read_27b := W_aloadR0 (M := mX2_read) dX2_read_27 (q := 28) rfl
def rX2_read_28 := W_iconst (M := mX2_read) dX2_read_28 (q := 29) rfl (v := (-1)) rfl
def rX2_read_29 := W_putI (M := mX2_read) dX2_read_29 (q := 32) rfl fl2_39 rfl (Or.inl rfl)
def rX2_read_32 := W_aload0 (M := mX2_read) dX2_read_32 (q := 33) rfl
def rX2_read_32b := W_aloadR0 (M := mX2_read) dX2_read_32 (q := 33) rfl
def rX2_read_33 := W_iconst (M := mX2_read) dX2_read_33 (q := 34) rfl (v := (0)) rfl
def rX2_read_34 := W_putI (M := mX2_read) dX2_read_34 (q := 37) rfl fl2_42 rfl (Or.inl rfl)
def rX2_read_37 := W_aload0 (M := mX2_read) dX2_read_37 (q := 38) rfl
def rX2_read_37b := W_aloadR0 (M := mX2_read) dX2_read_37 (q := 38) rfl
def rX2_read_38 := W_invV0 (M := mX2_read) dX2_read_38 (q := 41) rfl ml0_2_45 rfl
def rX2_read_41 := W_iconst (M := mX2_read) dX2_read_41 (q := 42) rfl (v := (0)) rfl
def rX2_read_42 := W_istore3 (M := mX2_read) dX2_read_42 (q := 43) rfl
def rX2_read_43 := W_iload3 (M := mX2_read) dX2_read_43 (q := 44) rfl
def rX2_read_44 := W_sipush (M := mX2_read) dX2_read_44 (q := 47) rfl (v := (900)) rfl
def rX2_read_47 := W_icmp_gt (M := mX2_read) dX2_read_47 (q := 50) rfl (t := 115) rfl
def rX2_read_50 := W_aload0 (M := mX2_read) dX2_read_50 (q := 51) rfl
def rX2_read_50b := W_aloadR0 (M := mX2_read) dX2_read_50 (q := 51) rfl
def rX2_read_51 := W_invV0 (M := mX2_read) dX2_read_51 (q := 54) rfl ml0_2_48 rfl
def rX2_read_54 := W_if_ne (M := mX2_read) dX2_read_54 (q := 57) rfl (t := 59) rfl
def rX2_read_57 := W_iconst (M := mX2_read) dX2_read_57 (q := 58) rfl (v := (0)) rfl
def rX2_read_58 := W_zret (M := mX2_read) dX2_read_58 rfl
def rX2_read_59 := W_aload0 (M := mX2_read) dX2_read_59 (q := 60) rfl
def rX2_read_59b := W_aloadR0 (M := mX2_read) dX2_read_59 (q := 60) rfl
def rX2_read_60 := W_getI (M := mX2_read) dX2_read_60 (q := 63) rfl fl2_52 (Or.inl rfl)
def rX2_read_63 := W_if_ne (M := mX2_read) dX2_read_63 (q := 66) rfl (t := 91) rfl
def rX2_read_66 := W_aload0 (M := mX2_read) dX2_read_66 (q := 67) rfl
def rX2_read_66b := W_aloadR0 (M := mX2_read) dX2_read_66 (q := 67) rfl
def rX2_read_67 := W_getR (M := mX2_read) dX2_read_67 (q := 70) rfl fl2_19 ⟨_, rfl⟩
def rX2_read_70 := W_getI (M := mX2_read) dX2_read_70 (q := 73) rfl fl2_55 (Or.inl rfl)
def rX2_read_73 := W_if_gt (M := mX2_read) dX2_read_73 (q := 76) rfl (t := 85) rfl
def rX2_read_76 := W_aload0 (M := mX2_read) dX2_read_76 (q := 77) rfl
def rX2_read_76b := W_aloadR0 (M := mX2_read) dX2_read_76 (q := 77) rfl
def rX2_read_77 := W_bipush (M := mX2_read) dX2_read_77 (q := 79) rfl (v := (6)) rfl
def rX2_read_79 := W_invV1 (M := mX2_read) dX2_read_79 (q := 82) rfl ml0_2_58 rfl
def rX2_read_82 := W_if_eq (M := mX2_read) dX2_read_82 (q := 85) rfl (t := 89) rfl
def rX2_read_85 := W_iconst (M := mX2_read) dX2_read_85 (q := 86) rfl (v := (1)) rfl
def rX2_read_86 := W_goto (M := mX2_read) dX2_read_86 (t := 90) rfl
def rX2_read_89 := W_iconst (M := mX2_read) dX2_read_89 (q := 90) rfl (v := (0)) rfl
def rX2_read_90 := W_zret (M := mX2_read) dX2_read_90 rfl
def rX2_read_91 := W_aload0 (M := mX2_read) dX2_read_91 (q := 92) rfl
def rX2_read_91b := W_aloadR0 (M := mX2_read) dX2_read_91 (q := 92) rfl
def rX2_read_92 := W_getI (M := mX2_read) dX2_read_92 (q := 95) rfl fl2_52 (Or.inl rfl)
def rX2_read_95 := W_iconst (M := mX2_read) dX2_read_95 (q := 96) rfl (v := (3)) rfl
def rX2_read_96 := W_icmp_eq (M := mX2_read) dX2_read_96 (q := 99) rfl (t := 105) rfl
def rX2_read_99 := W_aload0 (M := mX2_read) dX2_read_99 (q := 100) rfl
def rX2_read_99b := W_aloadR0 (M := mX2_read) dX2_read_99 (q := 100) rfl
def rX2_read_100 := W_iconst (M := mX2_read) dX2_read_100 (q := 101) rfl (v := (1)) rfl
def rX2_read_101 := W_invV1 (M := mX2_read) dX2_read_101 (q := 104) rfl ml0_2_58 rfl
def rX2_read_104 := W_zret (M := mX2_read) dX2_read_104 rfl
def rX2_read_105 := W_aload0 (M := mX2_read) dX2_read_105 (q := 106) rfl
def rX2_read_105b := W_aloadR0 (M := mX2_read) dX2_read_105 (q := 106) rfl
def rX2_read_106 := W_invV0 (M := mX2_read) dX2_read_106 (q := 109) rfl ml0_2_45 rfl
def rX2_read_109 := W_iinc3 (M := mX2_read) dX2_read_109 (q := 112) rfl (v := (1)) rfl
def rX2_read_112 := W_goto (M := mX2_read) dX2_read_112 (t := 43) rfl
def rX2_read_115 := W_aload0 (M := mX2_read) dX2_read_115 (q := 116) rfl
def rX2_read_115b := W_aloadR0 (M := mX2_read) dX2_read_115 (q := 116) rfl
def rX2_read_116 := W_iconst (M := mX2_read) dX2_read_116 (q := 117) rfl (v := (1)) rfl
def rX2_read_117 := W_invV1 (M := mX2_read) dX2_read_117 (q := 120) rfl ml0_2_58 rfl
def rX2_read_120 := W_zret (M := mX2_read) dX2_read_120 rfl
-- X2_reserved
theorem eX2_reserved {d : Nat} {h : qH} {Q : Option (Option Value) → qH → Prop} {s0 : Nat} : WM d mX2_reserved [.ref s0] h Q = WP d mX2_reserved (0, 0) 0 [some (.ref s0)] [] h Q := rfl
def rX2_reserved_0 := W_aload0 (M := mX2_reserved) dX2_reserved_0 (q := 1) rfl
def rX2_reserved_0b := W_aloadR0 (M := mX2_reserved) dX2_reserved_0 (q := 1) rfl
def rX2_reserved_1 := W_ldc (M := mX2_reserved) dX2_reserved_1 (q := 3) rfl cs2_87
def rX2_reserved_3 := W_invV1 (M := mX2_reserved) dX2_reserved_3 (q := 6) rfl ml0_2_89 rfl
def rX2_reserved_6 := W_if_eq (M := mX2_reserved) dX2_reserved_6 (q := 9) rfl (t := 11) rfl
def rX2_reserved_9 := W_iconst (M := mX2_reserved) dX2_reserved_9 (q := 10) rfl (v := (0)) rfl
def rX2_reserved_10 := W_iret (M := mX2_reserved) dX2_reserved_10 rfl
def rX2_reserved_11 := W_aload0 (M := mX2_reserved) dX2_reserved_11 (q := 12) rfl
def rX2_reserved_11b := W_aloadR0 (M := mX2_reserved) dX2_reserved_11 (q := 12) rfl
def rX2_reserved_12 := W_ldc (M := mX2_reserved) dX2_reserved_12 (q := 14) rfl cs2_93
def rX2_reserved_14 := W_invV1 (M := mX2_reserved) dX2_reserved_14 (q := 17) rfl ml0_2_89 rfl
def rX2_reserved_17 := W_if_eq (M := mX2_reserved) dX2_reserved_17 (q := 20) rfl (t := 22) rfl
def rX2_reserved_20 := W_iconst (M := mX2_reserved) dX2_reserved_20 (q := 21) rfl (v := (1)) rfl
def rX2_reserved_21 := W_iret (M := mX2_reserved) dX2_reserved_21 rfl
def rX2_reserved_22 := W_aload0 (M := mX2_reserved) dX2_reserved_22 (q := 23) rfl
def rX2_reserved_22b := W_aloadR0 (M := mX2_reserved) dX2_reserved_22 (q := 23) rfl
def rX2_reserved_23 := W_ldc (M := mX2_reserved) dX2_reserved_23 (q := 25) rfl cs2_95
def rX2_reserved_25 := W_invV1 (M := mX2_reserved) dX2_reserved_25 (q := 28) rfl ml0_2_89 rfl
def rX2_reserved_28 := W_if_eq (M := mX2_reserved) dX2_reserved_28 (q := 31) rfl (t := 33) rfl
def rX2_reserved_31 := W_iconst (M := mX2_reserved) dX2_reserved_31 (q := 32) rfl (v := (2)) rfl
def rX2_reserved_32 := W_iret (M := mX2_reserved) dX2_reserved_32 rfl
def rX2_reserved_33 := W_aload0 (M := mX2_reserved) dX2_reserved_33 (q := 34) rfl
def rX2_reserved_33b := W_aloadR0 (M := mX2_reserved) dX2_reserved_33 (q := 34) rfl
def rX2_reserved_34 := W_ldc (M := mX2_reserved) dX2_reserved_34 (q := 36) rfl cs2_97
def rX2_reserved_36 := W_invV1 (M := mX2_reserved) dX2_reserved_36 (q := 39) rfl ml0_2_89 rfl
def rX2_reserved_39 := W_if_eq (M := mX2_reserved) dX2_reserved_39 (q := 42) rfl (t := 44) rfl
def rX2_reserved_42 := W_iconst (M := mX2_reserved) dX2_reserved_42 (q := 43) rfl (v := (3)) rfl
def rX2_reserved_43 := W_iret (M := mX2_reserved) dX2_reserved_43 rfl
def rX2_reserved_44 := W_aload0 (M := mX2_reserved) dX2_reserved_44 (q := 45) rfl
def rX2_reserved_44b := W_aloadR0 (M := mX2_reserved) dX2_reserved_44 (q := 45) rfl
def rX2_reserved_45 := W_ldc (M := mX2_reserved) dX2_reserved_45 (q := 47) rfl cs2_99
def rX2_reserved_47 := W_invV1 (M := mX2_reserved) dX2_reserved_47 (q := 50) rfl ml0_2_89 rfl
def rX2_reserved_50 := W_if_eq (M := mX2_reserved) dX2_reserved_50 (q := 53) rfl (t := 55) rfl
def rX2_reserved_53 := W_iconst (M := mX2_reserved) dX2_reserved_53 (q := 54) rfl (v := (4)) rfl
def rX2_reserved_54 := W_iret (M := mX2_reserved) dX2_reserved_54 rfl
def rX2_reserved_55 := W_aload0 (M := mX2_reserved) dX2_reserved_55 (q := 56) rfl
def rX2_reserved_55b := W_aloadR0 (M := mX2_reserved) dX2_reserved_55 (q := 56) rfl
def rX2_reserved_56 := W_ldc (M := mX2_reserved) dX2_reserved_56 (q := 58) rfl cs2_101
def rX2_reserved_58 := W_invV1 (M := mX2_reserved) dX2_reserved_58 (q := 61) rfl ml0_2_89 rfl
def rX2_reserved_61 := W_if_eq (M := mX2_reserved) dX2_reserved_61 (q := 64) rfl (t := 66) rfl
def rX2_reserved_64 := W_iconst (M := mX2_reserved) dX2_reserved_64 (q := 65) rfl (v := (5)) rfl
def rX2_reserved_65 := W_iret (M := mX2_reserved) dX2_reserved_65 rfl
def rX2_reserved_66 := W_aload0 (M := mX2_reserved) dX2_reserved_66 (q := 67) rfl
def rX2_reserved_66b := W_aloadR0 (M := mX2_reserved) dX2_reserved_66 (q := 67) rfl
def rX2_reserved_67 := W_ldc (M := mX2_reserved) dX2_reserved_67 (q := 69) rfl cs2_103
def rX2_reserved_69 := W_invV1 (M := mX2_reserved) dX2_reserved_69 (q := 72) rfl ml0_2_89 rfl
def rX2_reserved_72 := W_if_eq (M := mX2_reserved) dX2_reserved_72 (q := 75) rfl (t := 78) rfl
def rX2_reserved_75 := W_bipush (M := mX2_reserved) dX2_reserved_75 (q := 77) rfl (v := (6)) rfl
def rX2_reserved_77 := W_iret (M := mX2_reserved) dX2_reserved_77 rfl
def rX2_reserved_78 := W_aload0 (M := mX2_reserved) dX2_reserved_78 (q := 79) rfl
def rX2_reserved_78b := W_aloadR0 (M := mX2_reserved) dX2_reserved_78 (q := 79) rfl
def rX2_reserved_79 := W_ldc (M := mX2_reserved) dX2_reserved_79 (q := 81) rfl cs2_105
def rX2_reserved_81 := W_invV1 (M := mX2_reserved) dX2_reserved_81 (q := 84) rfl ml0_2_89 rfl
def rX2_reserved_84 := W_if_eq (M := mX2_reserved) dX2_reserved_84 (q := 87) rfl (t := 90) rfl
def rX2_reserved_87 := W_bipush (M := mX2_reserved) dX2_reserved_87 (q := 89) rfl (v := (7)) rfl
def rX2_reserved_89 := W_iret (M := mX2_reserved) dX2_reserved_89 rfl
def rX2_reserved_90 := W_aload0 (M := mX2_reserved) dX2_reserved_90 (q := 91) rfl
def rX2_reserved_90b := W_aloadR0 (M := mX2_reserved) dX2_reserved_90 (q := 91) rfl
def rX2_reserved_91 := W_ldc (M := mX2_reserved) dX2_reserved_91 (q := 93) rfl cs2_107
def rX2_reserved_93 := W_invV1 (M := mX2_reserved) dX2_reserved_93 (q := 96) rfl ml0_2_89 rfl
def rX2_reserved_96 := W_if_eq (M := mX2_reserved) dX2_reserved_96 (q := 99) rfl (t := 104) rfl
def rX2_reserved_99 := W_bipush (M := mX2_reserved) dX2_reserved_99 (q := 101) rfl (v := (8)) rfl
def rX2_reserved_101 := W_goto (M := mX2_reserved) dX2_reserved_101 (t := 105) rfl
def rX2_reserved_104 := W_iconst (M := mX2_reserved) dX2_reserved_104 (q := 105) rfl (v := (-1)) rfl
def rX2_reserved_105 := W_iret (M := mX2_reserved) dX2_reserved_105 rfl
-- X2_rungLine
theorem eX2_rungLine {d : Nat} {h : qH} {Q : Option (Option Value) → qH → Prop} {s0 : Nat} : WM d mX2_rungLine [.ref s0] h Q = WP d mX2_rungLine (0, 0) 0 [some (.ref s0), none] [] h Q := rfl
def rX2_rungLine_0 := W_aload0 (M := mX2_rungLine) dX2_rungLine_0 (q := 1) rfl
def rX2_rungLine_0b := W_aloadR0 (M := mX2_rungLine) dX2_rungLine_0 (q := 1) rfl
def rX2_rungLine_1 := W_ldc (M := mX2_rungLine) dX2_rungLine_1 (q := 3) rfl cs2_182
def rX2_rungLine_3 := W_invV1 (M := mX2_rungLine) dX2_rungLine_3 (q := 6) rfl ml0_2_168 rfl
def rX2_rungLine_6 := W_if_eq (M := mX2_rungLine) dX2_rungLine_6 (q := 9) rfl (t := 19) rfl
def rX2_rungLine_9 := W_aload0 (M := mX2_rungLine) dX2_rungLine_9 (q := 10) rfl
def rX2_rungLine_9b := W_aloadR0 (M := mX2_rungLine) dX2_rungLine_9 (q := 10) rfl
def rX2_rungLine_10 := W_iconst (M := mX2_rungLine) dX2_rungLine_10 (q := 11) rfl (v := (0)) rfl
def rX2_rungLine_11 := W_bipush (M := mX2_rungLine) dX2_rungLine_11 (q := 13) rfl (v := (30)) rfl
def rX2_rungLine_13 := W_invV2 (M := mX2_rungLine) dX2_rungLine_13 (q := 16) rfl ml0_2_171 rfl
def rX2_rungLine_16 := W_if_ne (M := mX2_rungLine) dX2_rungLine_16 (q := 19) rfl (t := 21) rfl
def rX2_rungLine_19 := W_iconst (M := mX2_rungLine) dX2_rungLine_19 (q := 20) rfl (v := (0)) rfl
def rX2_rungLine_20 := W_zret (M := mX2_rungLine) dX2_rungLine_20 rfl
def rX2_rungLine_21 := W_bipush (M := mX2_rungLine) dX2_rungLine_21 (q := 23) rfl (v := (-2)) rfl
def rX2_rungLine_23 := W_istore1 (M := mX2_rungLine) dX2_rungLine_23 (q := 24) rfl
def rX2_rungLine_24 := W_aload0 (M := mX2_rungLine) dX2_rungLine_24 (q := 25) rfl
def rX2_rungLine_24b := W_aloadR0 (M := mX2_rungLine) dX2_rungLine_24 (q := 25) rfl
def rX2_rungLine_25 := W_ldc (M := mX2_rungLine) dX2_rungLine_25 (q := 27) rfl cs2_107
def rX2_rungLine_27 := W_invV1 (M := mX2_rungLine) dX2_rungLine_27 (q := 30) rfl ml0_2_89 rfl
def rX2_rungLine_30 := W_if_ne (M := mX2_rungLine) dX2_rungLine_30 (q := 33) rfl (t := 45) rfl
def rX2_rungLine_33 := W_aload0 (M := mX2_rungLine) dX2_rungLine_33 (q := 34) rfl
def rX2_rungLine_33b := W_aloadR0 (M := mX2_rungLine) dX2_rungLine_33 (q := 34) rfl
def rX2_rungLine_34 := W_invV0 (M := mX2_rungLine) dX2_rungLine_34 (q := 37) rfl ml0_2_210 rfl
def rX2_rungLine_37 := W_istore1 (M := mX2_rungLine) dX2_rungLine_37 (q := 38) rfl
def rX2_rungLine_38 := W_iload1 (M := mX2_rungLine) dX2_rungLine_38 (q := 39) rfl
def rX2_rungLine_39 := W_iconst (M := mX2_rungLine) dX2_rungLine_39 (q := 40) rfl (v := (-1)) rfl
def rX2_rungLine_40 := W_icmp_ne (M := mX2_rungLine) dX2_rungLine_40 (q := 43) rfl (t := 45) rfl
def rX2_rungLine_43 := W_iconst (M := mX2_rungLine) dX2_rungLine_43 (q := 44) rfl (v := (0)) rfl
def rX2_rungLine_44 := W_zret (M := mX2_rungLine) dX2_rungLine_44 rfl
def rX2_rungLine_45 := W_aload0 (M := mX2_rungLine) dX2_rungLine_45 (q := 46) rfl
def rX2_rungLine_45b := W_aloadR0 (M := mX2_rungLine) dX2_rungLine_45 (q := 46) rfl
def rX2_rungLine_46 := W_invV0 (M := mX2_rungLine) dX2_rungLine_46 (q := 49) rfl ml0_2_45 rfl
def rX2_rungLine_49 := W_aload0 (M := mX2_rungLine) dX2_rungLine_49 (q := 50) rfl
def rX2_rungLine_49b := W_aloadR0 (M := mX2_rungLine) dX2_rungLine_49 (q := 50) rfl
def rX2_rungLine_50 := W_getR (M := mX2_rungLine) dX2_rungLine_50 (q := 53) rfl fl2_19 ⟨_, rfl⟩
def rX2_rungLine_53 := W_getA (M := mX2_rungLine) dX2_rungLine_53 (q := 56) rfl fl2_249 ⟨_, rfl⟩
def rX2_rungLine_56 := W_aload0 (M := mX2_rungLine) dX2_rungLine_56 (q := 57) rfl
def rX2_rungLine_56b := W_aloadR0 (M := mX2_rungLine) dX2_rungLine_56 (q := 57) rfl
def rX2_rungLine_57 := W_getR (M := mX2_rungLine) dX2_rungLine_57 (q := 60) rfl fl2_19 ⟨_, rfl⟩
def rX2_rungLine_60 := W_getI (M := mX2_rungLine) dX2_rungLine_60 (q := 63) rfl fl2_163 (Or.inl rfl)
def rX2_rungLine_63 := W_aload0 (M := mX2_rungLine) dX2_rungLine_63 (q := 64) rfl
def rX2_rungLine_63b := W_aloadR0 (M := mX2_rungLine) dX2_rungLine_63 (q := 64) rfl
def rX2_rungLine_64 := W_getI (M := mX2_rungLine) dX2_rungLine_64 (q := 67) rfl fl2_113 (Or.inl rfl)
def rX2_rungLine_67 := W_iast (M := mX2_rungLine) dX2_rungLine_67 (q := 68) rfl
def rX2_rungLine_68 := W_aload0 (M := mX2_rungLine) dX2_rungLine_68 (q := 69) rfl
def rX2_rungLine_68b := W_aloadR0 (M := mX2_rungLine) dX2_rungLine_68 (q := 69) rfl
def rX2_rungLine_69 := W_getR (M := mX2_rungLine) dX2_rungLine_69 (q := 72) rfl fl2_19 ⟨_, rfl⟩
def rX2_rungLine_72 := W_getA (M := mX2_rungLine) dX2_rungLine_72 (q := 75) rfl fl2_252 ⟨_, rfl⟩
def rX2_rungLine_75 := W_aload0 (M := mX2_rungLine) dX2_rungLine_75 (q := 76) rfl
def rX2_rungLine_75b := W_aloadR0 (M := mX2_rungLine) dX2_rungLine_75 (q := 76) rfl
def rX2_rungLine_76 := W_getR (M := mX2_rungLine) dX2_rungLine_76 (q := 79) rfl fl2_19 ⟨_, rfl⟩
def rX2_rungLine_79 := W_getI (M := mX2_rungLine) dX2_rungLine_79 (q := 82) rfl fl2_163 (Or.inl rfl)
def rX2_rungLine_82 := W_iload1 (M := mX2_rungLine) dX2_rungLine_82 (q := 83) rfl
def rX2_rungLine_83 := W_iast (M := mX2_rungLine) dX2_rungLine_83 (q := 84) rfl
def rX2_rungLine_84 := W_aload0 (M := mX2_rungLine) dX2_rungLine_84 (q := 85) rfl
def rX2_rungLine_84b := W_aloadR0 (M := mX2_rungLine) dX2_rungLine_84 (q := 85) rfl
def rX2_rungLine_85 := W_getR (M := mX2_rungLine) dX2_rungLine_85 (q := 88) rfl fl2_19 ⟨_, rfl⟩
def rX2_rungLine_88 := W_dupI (M := mX2_rungLine) dX2_rungLine_88 (q := 89) rfl
def rX2_rungLine_88b := W_dupR (M := mX2_rungLine) dX2_rungLine_88 (q := 89) rfl
def rX2_rungLine_89 := W_getI (M := mX2_rungLine) dX2_rungLine_89 (q := 92) rfl fl2_163 (Or.inl rfl)
def rX2_rungLine_92 := W_iconst (M := mX2_rungLine) dX2_rungLine_92 (q := 93) rfl (v := (1)) rfl
def rX2_rungLine_93 := W_iadd (M := mX2_rungLine) dX2_rungLine_93 (q := 94) rfl
def rX2_rungLine_94 := W_putI (M := mX2_rungLine) dX2_rungLine_94 (q := 97) rfl fl2_163 rfl (Or.inl rfl)
def rX2_rungLine_97 := W_iconst (M := mX2_rungLine) dX2_rungLine_97 (q := 98) rfl (v := (1)) rfl
def rX2_rungLine_98 := W_zret (M := mX2_rungLine) dX2_rungLine_98 rfl
-- X2_sparkLine
theorem eX2_sparkLine {d : Nat} {h : qH} {Q : Option (Option Value) → qH → Prop} {s0 : Nat} : WM d mX2_sparkLine [.ref s0] h Q = WP d mX2_sparkLine (0, 0) 0 [some (.ref s0), none, none, none] [] h Q := rfl
def rX2_sparkLine_0 := W_aload0 (M := mX2_sparkLine) dX2_sparkLine_0 (q := 1) rfl
def rX2_sparkLine_0b := W_aloadR0 (M := mX2_sparkLine) dX2_sparkLine_0 (q := 1) rfl
def rX2_sparkLine_1 := W_invV0 (M := mX2_sparkLine) dX2_sparkLine_1 (q := 4) rfl ml0_2_210 rfl
def rX2_sparkLine_4 := W_istore1 (M := mX2_sparkLine) dX2_sparkLine_4 (q := 5) rfl
def rX2_sparkLine_5 := W_iload1 (M := mX2_sparkLine) dX2_sparkLine_5 (q := 6) rfl
def rX2_sparkLine_6 := W_iconst (M := mX2_sparkLine) dX2_sparkLine_6 (q := 7) rfl (v := (-1)) rfl
def rX2_sparkLine_7 := W_icmp_ne (M := mX2_sparkLine) dX2_sparkLine_7 (q := 10) rfl (t := 12) rfl
def rX2_sparkLine_10 := W_iconst (M := mX2_sparkLine) dX2_sparkLine_10 (q := 11) rfl (v := (0)) rfl
def rX2_sparkLine_11 := W_zret (M := mX2_sparkLine) dX2_sparkLine_11 rfl
def rX2_sparkLine_12 := W_aload0 (M := mX2_sparkLine) dX2_sparkLine_12 (q := 13) rfl
def rX2_sparkLine_12b := W_aloadR0 (M := mX2_sparkLine) dX2_sparkLine_12 (q := 13) rfl
def rX2_sparkLine_13 := W_invV0 (M := mX2_sparkLine) dX2_sparkLine_13 (q := 16) rfl ml0_2_45 rfl
def rX2_sparkLine_16 := W_aload0 (M := mX2_sparkLine) dX2_sparkLine_16 (q := 17) rfl
def rX2_sparkLine_16b := W_aloadR0 (M := mX2_sparkLine) dX2_sparkLine_16 (q := 17) rfl
def rX2_sparkLine_17 := W_invV0 (M := mX2_sparkLine) dX2_sparkLine_17 (q := 20) rfl ml0_2_210 rfl
def rX2_sparkLine_20 := W_istore2 (M := mX2_sparkLine) dX2_sparkLine_20 (q := 21) rfl
def rX2_sparkLine_21 := W_iload2 (M := mX2_sparkLine) dX2_sparkLine_21 (q := 22) rfl
def rX2_sparkLine_22 := W_iconst (M := mX2_sparkLine) dX2_sparkLine_22 (q := 23) rfl (v := (-1)) rfl
def rX2_sparkLine_23 := W_icmp_ne (M := mX2_sparkLine) dX2_sparkLine_23 (q := 26) rfl (t := 28) rfl
def rX2_sparkLine_26 := W_iconst (M := mX2_sparkLine) dX2_sparkLine_26 (q := 27) rfl (v := (0)) rfl
def rX2_sparkLine_27 := W_zret (M := mX2_sparkLine) dX2_sparkLine_27 rfl
def rX2_sparkLine_28 := W_iload2 (M := mX2_sparkLine) dX2_sparkLine_28 (q := 29) rfl
def rX2_sparkLine_29 := W_iload1 (M := mX2_sparkLine) dX2_sparkLine_29 (q := 30) rfl
def rX2_sparkLine_30 := W_icmp_eq (M := mX2_sparkLine) dX2_sparkLine_30 (q := 33) rfl (t := 46) rfl
def rX2_sparkLine_33 := W_aload0 (M := mX2_sparkLine) dX2_sparkLine_33 (q := 34) rfl
def rX2_sparkLine_33b := W_aloadR0 (M := mX2_sparkLine) dX2_sparkLine_33 (q := 34) rfl
def rX2_sparkLine_34 := W_getR (M := mX2_sparkLine) dX2_sparkLine_34 (q := 37) rfl fl2_19 ⟨_, rfl⟩
def rX2_sparkLine_37 := W_iload1 (M := mX2_sparkLine) dX2_sparkLine_37 (q := 38) rfl
def rX2_sparkLine_38 := W_iload2 (M := mX2_sparkLine) dX2_sparkLine_38 (q := 39) rfl
def rX2_sparkLine_39 := W_invV2 (M := mX2_sparkLine) dX2_sparkLine_39 (q := 42) rfl ml0_2_213 rfl
def rX2_sparkLine_42 := W_iconst (M := mX2_sparkLine) dX2_sparkLine_42 (q := 43) rfl (v := (-1)) rfl
def rX2_sparkLine_43 := W_icmp_eq (M := mX2_sparkLine) dX2_sparkLine_43 (q := 46) rfl (t := 52) rfl
def rX2_sparkLine_46 := W_aload0 (M := mX2_sparkLine) dX2_sparkLine_46 (q := 47) rfl
def rX2_sparkLine_46b := W_aloadR0 (M := mX2_sparkLine) dX2_sparkLine_46 (q := 47) rfl
def rX2_sparkLine_47 := W_iconst (M := mX2_sparkLine) dX2_sparkLine_47 (q := 48) rfl (v := (3)) rfl
def rX2_sparkLine_48 := W_invV1 (M := mX2_sparkLine) dX2_sparkLine_48 (q := 51) rfl ml0_2_58 rfl
def rX2_sparkLine_51 := W_zret (M := mX2_sparkLine) dX2_sparkLine_51 rfl
def rX2_sparkLine_52 := W_aload0 (M := mX2_sparkLine) dX2_sparkLine_52 (q := 53) rfl
def rX2_sparkLine_52b := W_aloadR0 (M := mX2_sparkLine) dX2_sparkLine_52 (q := 53) rfl
def rX2_sparkLine_53 := W_invV0 (M := mX2_sparkLine) dX2_sparkLine_53 (q := 56) rfl ml0_2_45 rfl
def rX2_sparkLine_56 := W_aload0 (M := mX2_sparkLine) dX2_sparkLine_56 (q := 57) rfl
def rX2_sparkLine_56b := W_aloadR0 (M := mX2_sparkLine) dX2_sparkLine_56 (q := 57) rfl
def rX2_sparkLine_57 := W_ldc (M := mX2_sparkLine) dX2_sparkLine_57 (q := 59) rfl cs2_217
def rX2_sparkLine_59 := W_invV1 (M := mX2_sparkLine) dX2_sparkLine_59 (q := 62) rfl ml0_2_168 rfl
def rX2_sparkLine_62 := W_if_eq (M := mX2_sparkLine) dX2_sparkLine_62 (q := 65) rfl (t := 75) rfl
def rX2_sparkLine_65 := W_aload0 (M := mX2_sparkLine) dX2_sparkLine_65 (q := 66) rfl
def rX2_sparkLine_65b := W_aloadR0 (M := mX2_sparkLine) dX2_sparkLine_65 (q := 66) rfl
def rX2_sparkLine_66 := W_iconst (M := mX2_sparkLine) dX2_sparkLine_66 (q := 67) rfl (v := (0)) rfl
def rX2_sparkLine_67 := W_bipush (M := mX2_sparkLine) dX2_sparkLine_67 (q := 69) rfl (v := (9)) rfl
def rX2_sparkLine_69 := W_invV2 (M := mX2_sparkLine) dX2_sparkLine_69 (q := 72) rfl ml0_2_171 rfl
def rX2_sparkLine_72 := W_if_ne (M := mX2_sparkLine) dX2_sparkLine_72 (q := 75) rfl (t := 77) rfl
def rX2_sparkLine_75 := W_iconst (M := mX2_sparkLine) dX2_sparkLine_75 (q := 76) rfl (v := (0)) rfl
def rX2_sparkLine_76 := W_zret (M := mX2_sparkLine) dX2_sparkLine_76 rfl
def rX2_sparkLine_77 := W_aload0 (M := mX2_sparkLine) dX2_sparkLine_77 (q := 78) rfl
def rX2_sparkLine_77b := W_aloadR0 (M := mX2_sparkLine) dX2_sparkLine_77 (q := 78) rfl
def rX2_sparkLine_78 := W_getR (M := mX2_sparkLine) dX2_sparkLine_78 (q := 81) rfl fl2_19 ⟨_, rfl⟩
def rX2_sparkLine_81 := W_getI (M := mX2_sparkLine) dX2_sparkLine_81 (q := 84) rfl fl2_154 (Or.inl rfl)
def rX2_sparkLine_84 := W_istore3 (M := mX2_sparkLine) dX2_sparkLine_84 (q := 85) rfl
def rX2_sparkLine_85 := W_aload0 (M := mX2_sparkLine) dX2_sparkLine_85 (q := 86) rfl
def rX2_sparkLine_85b := W_aloadR0 (M := mX2_sparkLine) dX2_sparkLine_85 (q := 86) rfl
def rX2_sparkLine_86 := W_getR (M := mX2_sparkLine) dX2_sparkLine_86 (q := 89) rfl fl2_19 ⟨_, rfl⟩
def rX2_sparkLine_89 := W_getA (M := mX2_sparkLine) dX2_sparkLine_89 (q := 92) rfl fl2_219 ⟨_, rfl⟩
def rX2_sparkLine_92 := W_iload3 (M := mX2_sparkLine) dX2_sparkLine_92 (q := 93) rfl
def rX2_sparkLine_93 := W_iload1 (M := mX2_sparkLine) dX2_sparkLine_93 (q := 94) rfl
def rX2_sparkLine_94 := W_iast (M := mX2_sparkLine) dX2_sparkLine_94 (q := 95) rfl
def rX2_sparkLine_95 := W_aload0 (M := mX2_sparkLine) dX2_sparkLine_95 (q := 96) rfl
def rX2_sparkLine_95b := W_aloadR0 (M := mX2_sparkLine) dX2_sparkLine_95 (q := 96) rfl
def rX2_sparkLine_96 := W_getR (M := mX2_sparkLine) dX2_sparkLine_96 (q := 99) rfl fl2_19 ⟨_, rfl⟩
def rX2_sparkLine_99 := W_getA (M := mX2_sparkLine) dX2_sparkLine_99 (q := 102) rfl fl2_222 ⟨_, rfl⟩
def rX2_sparkLine_102 := W_iload3 (M := mX2_sparkLine) dX2_sparkLine_102 (q := 103) rfl
def rX2_sparkLine_103 := W_iload2 (M := mX2_sparkLine) dX2_sparkLine_103 (q := 104) rfl
def rX2_sparkLine_104 := W_iast (M := mX2_sparkLine) dX2_sparkLine_104 (q := 105) rfl
def rX2_sparkLine_105 := W_aload0 (M := mX2_sparkLine) dX2_sparkLine_105 (q := 106) rfl
def rX2_sparkLine_105b := W_aloadR0 (M := mX2_sparkLine) dX2_sparkLine_105 (q := 106) rfl
def rX2_sparkLine_106 := W_getR (M := mX2_sparkLine) dX2_sparkLine_106 (q := 109) rfl fl2_19 ⟨_, rfl⟩
def rX2_sparkLine_109 := W_getA (M := mX2_sparkLine) dX2_sparkLine_109 (q := 112) rfl fl2_225 ⟨_, rfl⟩
def rX2_sparkLine_112 := W_iload3 (M := mX2_sparkLine) dX2_sparkLine_112 (q := 113) rfl
def rX2_sparkLine_113 := W_aload0 (M := mX2_sparkLine) dX2_sparkLine_113 (q := 114) rfl
def rX2_sparkLine_113b := W_aloadR0 (M := mX2_sparkLine) dX2_sparkLine_113 (q := 114) rfl
def rX2_sparkLine_114 := W_getR (M := mX2_sparkLine) dX2_sparkLine_114 (q := 117) rfl fl2_19 ⟨_, rfl⟩
def rX2_sparkLine_117 := W_getA (M := mX2_sparkLine) dX2_sparkLine_117 (q := 120) rfl fl2_198 ⟨_, rfl⟩
def rX2_sparkLine_120 := W_iload2 (M := mX2_sparkLine) dX2_sparkLine_120 (q := 121) rfl
def rX2_sparkLine_121 := W_iald (M := mX2_sparkLine) dX2_sparkLine_121 (q := 122) rfl
def rX2_sparkLine_122 := W_aload0 (M := mX2_sparkLine) dX2_sparkLine_122 (q := 123) rfl
def rX2_sparkLine_122b := W_aloadR0 (M := mX2_sparkLine) dX2_sparkLine_122 (q := 123) rfl
def rX2_sparkLine_123 := W_getI (M := mX2_sparkLine) dX2_sparkLine_123 (q := 126) rfl fl2_113 (Or.inl rfl)
def rX2_sparkLine_126 := W_invS2 (M := mX2_sparkLine) dX2_sparkLine_126 (q := 129) rfl ml1_2_228 rfl rfl rfl
def rX2_sparkLine_129 := W_iast (M := mX2_sparkLine) dX2_sparkLine_129 (q := 130) rfl
def rX2_sparkLine_130 := W_aload0 (M := mX2_sparkLine) dX2_sparkLine_130 (q := 131) rfl
def rX2_sparkLine_130b := W_aloadR0 (M := mX2_sparkLine) dX2_sparkLine_130 (q := 131) rfl
def rX2_sparkLine_131 := W_getR (M := mX2_sparkLine) dX2_sparkLine_131 (q := 134) rfl fl2_19 ⟨_, rfl⟩
def rX2_sparkLine_134 := W_iload3 (M := mX2_sparkLine) dX2_sparkLine_134 (q := 135) rfl
def rX2_sparkLine_135 := W_iconst (M := mX2_sparkLine) dX2_sparkLine_135 (q := 136) rfl (v := (1)) rfl
def rX2_sparkLine_136 := W_iadd (M := mX2_sparkLine) dX2_sparkLine_136 (q := 137) rfl
def rX2_sparkLine_137 := W_putI (M := mX2_sparkLine) dX2_sparkLine_137 (q := 140) rfl fl2_154 rfl (Or.inl rfl)
def rX2_sparkLine_140 := W_iconst (M := mX2_sparkLine) dX2_sparkLine_140 (q := 141) rfl (v := (1)) rfl
def rX2_sparkLine_141 := W_zret (M := mX2_sparkLine) dX2_sparkLine_141 rfl
-- X2_step
theorem eX2_step {d : Nat} {h : qH} {Q : Option (Option Value) → qH → Prop} {s0 : Nat} : WM d mX2_step [.ref s0] h Q = WP d mX2_step (0, 0) 0 [some (.ref s0)] [] h Q := rfl
def rX2_step_0 := W_aload0 (M := mX2_step) dX2_step_0 (q := 1) rfl
def rX2_step_0b := W_aloadR0 (M := mX2_step) dX2_step_0 (q := 1) rfl
def rX2_step_1 := W_aload0 (M := mX2_step) dX2_step_1 (q := 2) rfl
def rX2_step_1b := W_aloadR0 (M := mX2_step) dX2_step_1 (q := 2) rfl
def rX2_step_2 := W_getI (M := mX2_step) dX2_step_2 (q := 5) rfl fl2_42 (Or.inl rfl)
def rX2_step_5 := W_putI (M := mX2_step) dX2_step_5 (q := 8) rfl fl2_62 rfl (Or.inl rfl)
def rX2_step_8 := W_aload0 (M := mX2_step) dX2_step_8 (q := 9) rfl
def rX2_step_8b := W_aloadR0 (M := mX2_step) dX2_step_8 (q := 9) rfl
def rX2_step_9 := W_getI (M := mX2_step) dX2_step_9 (q := 12) rfl fl2_62 (Or.inl rfl)
def rX2_step_12 := W_aload0 (M := mX2_step) dX2_step_12 (q := 13) rfl
def rX2_step_12b := W_aloadR0 (M := mX2_step) dX2_step_12 (q := 13) rfl
def rX2_step_13 := W_getI (M := mX2_step) dX2_step_13 (q := 16) rfl fl2_28 (Or.inl rfl)
def rX2_step_16 := W_icmp_ge (M := mX2_step) dX2_step_16 (q := 19) rfl (t := 48) rfl
def rX2_step_19 := W_aload0 (M := mX2_step) dX2_step_19 (q := 20) rfl
def rX2_step_19b := W_aloadR0 (M := mX2_step) dX2_step_19 (q := 20) rfl
def rX2_step_20 := W_getR (M := mX2_step) dX2_step_20 (q := 23) rfl fl2_15 ⟨_, rfl⟩
def rX2_step_23 := W_aload0 (M := mX2_step) dX2_step_23 (q := 24) rfl
def rX2_step_23b := W_aloadR0 (M := mX2_step) dX2_step_23 (q := 24) rfl
def rX2_step_24 := W_getI (M := mX2_step) dX2_step_24 (q := 27) rfl fl2_62 (Or.inl rfl)
def rX2_step_27 := W_invV1 (M := mX2_step) dX2_step_27 (q := 30) rfl ml0_2_65 rfl
def rX2_step_30 := W_bipush (M := mX2_step) dX2_step_30 (q := 32) rfl (v := (32)) rfl
def rX2_step_32 := W_icmp_ne (M := mX2_step) dX2_step_32 (q := 35) rfl (t := 48) rfl
def rX2_step_35 := W_aload0 (M := mX2_step) dX2_step_35 (q := 36) rfl
def rX2_step_35b := W_aloadR0 (M := mX2_step) dX2_step_35 (q := 36) rfl
def rX2_step_36 := W_dupI (M := mX2_step) dX2_step_36 (q := 37) rfl
def rX2_step_36b := W_dupR (M := mX2_step) dX2_step_36 (q := 37) rfl
def rX2_step_37 := W_getI (M := mX2_step) dX2_step_37 (q := 40) rfl fl2_62 (Or.inl rfl)
def rX2_step_40 := W_iconst (M := mX2_step) dX2_step_40 (q := 41) rfl (v := (1)) rfl
def rX2_step_41 := W_iadd (M := mX2_step) dX2_step_41 (q := 42) rfl
def rX2_step_42 := W_putI (M := mX2_step) dX2_step_42 (q := 45) rfl fl2_62 rfl (Or.inl rfl)
def rX2_step_45 := W_goto (M := mX2_step) dX2_step_45 (t := 8) rfl
def rX2_step_48 := W_aload0 (M := mX2_step) dX2_step_48 (q := 49) rfl
def rX2_step_48b := W_aloadR0 (M := mX2_step) dX2_step_48 (q := 49) rfl
def rX2_step_49 := W_aload0 (M := mX2_step) dX2_step_49 (q := 50) rfl
def rX2_step_49b := W_aloadR0 (M := mX2_step) dX2_step_49 (q := 50) rfl
def rX2_step_50 := W_getI (M := mX2_step) dX2_step_50 (q := 53) rfl fl2_62 (Or.inl rfl)
def rX2_step_53 := W_putI (M := mX2_step) dX2_step_53 (q := 56) rfl fl2_42 rfl (Or.inl rfl)
def rX2_step_56 := W_aload0 (M := mX2_step) dX2_step_56 (q := 57) rfl
def rX2_step_56b := W_aloadR0 (M := mX2_step) dX2_step_56 (q := 57) rfl
def rX2_step_57 := W_getI (M := mX2_step) dX2_step_57 (q := 60) rfl fl2_62 (Or.inl rfl)
def rX2_step_60 := W_aload0 (M := mX2_step) dX2_step_60 (q := 61) rfl
def rX2_step_60b := W_aloadR0 (M := mX2_step) dX2_step_60 (q := 61) rfl
def rX2_step_61 := W_getI (M := mX2_step) dX2_step_61 (q := 64) rfl fl2_28 (Or.inl rfl)
def rX2_step_64 := W_icmp_lt (M := mX2_step) dX2_step_64 (q := 67) rfl (t := 75) rfl
def rX2_step_67 := W_aload0 (M := mX2_step) dX2_step_67 (q := 68) rfl
def rX2_step_67b := W_aloadR0 (M := mX2_step) dX2_step_67 (q := 68) rfl
def rX2_step_68 := W_iconst (M := mX2_step) dX2_step_68 (q := 69) rfl (v := (0)) rfl
def rX2_step_69 := W_putI (M := mX2_step) dX2_step_69 (q := 72) rfl fl2_52 rfl (Or.inl rfl)
def rX2_step_72 := W_goto (M := mX2_step) dX2_step_72 (t := 277) rfl
def rX2_step_75 := W_aload0 (M := mX2_step) dX2_step_75 (q := 76) rfl
def rX2_step_75b := W_aloadR0 (M := mX2_step) dX2_step_75 (q := 76) rfl
def rX2_step_76 := W_getR (M := mX2_step) dX2_step_76 (q := 79) rfl fl2_15 ⟨_, rfl⟩
def rX2_step_79 := W_aload0 (M := mX2_step) dX2_step_79 (q := 80) rfl
def rX2_step_79b := W_aloadR0 (M := mX2_step) dX2_step_79 (q := 80) rfl
def rX2_step_80 := W_getI (M := mX2_step) dX2_step_80 (q := 83) rfl fl2_62 (Or.inl rfl)
def rX2_step_83 := W_invV1 (M := mX2_step) dX2_step_83 (q := 86) rfl ml0_2_65 rfl
def rX2_step_86 := W_invS1 (M := mX2_step) dX2_step_86 (q := 89) rfl ml1_2_71 rfl rfl rfl
def rX2_step_89 := W_if_eq (M := mX2_step) dX2_step_89 (q := 92) rfl (t := 159) rfl
def rX2_step_92 := W_aload0 (M := mX2_step) dX2_step_92 (q := 93) rfl
def rX2_step_92b := W_aloadR0 (M := mX2_step) dX2_step_92 (q := 93) rfl
def rX2_step_93 := W_getI (M := mX2_step) dX2_step_93 (q := 96) rfl fl2_42 (Or.inl rfl)
def rX2_step_96 := W_aload0 (M := mX2_step) dX2_step_96 (q := 97) rfl
def rX2_step_96b := W_aloadR0 (M := mX2_step) dX2_step_96 (q := 97) rfl
def rX2_step_97 := W_getI (M := mX2_step) dX2_step_97 (q := 100) rfl fl2_28 (Or.inl rfl)
def rX2_step_100 := W_icmp_ge (M := mX2_step) dX2_step_100 (q := 103) rfl (t := 133) rfl
def rX2_step_103 := W_aload0 (M := mX2_step) dX2_step_103 (q := 104) rfl
def rX2_step_103b := W_aloadR0 (M := mX2_step) dX2_step_103 (q := 104) rfl
def rX2_step_104 := W_getR (M := mX2_step) dX2_step_104 (q := 107) rfl fl2_15 ⟨_, rfl⟩
def rX2_step_107 := W_aload0 (M := mX2_step) dX2_step_107 (q := 108) rfl
def rX2_step_107b := W_aloadR0 (M := mX2_step) dX2_step_107 (q := 108) rfl
def rX2_step_108 := W_getI (M := mX2_step) dX2_step_108 (q := 111) rfl fl2_42 (Or.inl rfl)
def rX2_step_111 := W_invV1 (M := mX2_step) dX2_step_111 (q := 114) rfl ml0_2_65 rfl
def rX2_step_114 := W_invS1 (M := mX2_step) dX2_step_114 (q := 117) rfl ml1_2_71 rfl rfl rfl
def rX2_step_117 := W_if_eq (M := mX2_step) dX2_step_117 (q := 120) rfl (t := 133) rfl
def rX2_step_120 := W_aload0 (M := mX2_step) dX2_step_120 (q := 121) rfl
def rX2_step_120b := W_aloadR0 (M := mX2_step) dX2_step_120 (q := 121) rfl
def rX2_step_121 := W_dupI (M := mX2_step) dX2_step_121 (q := 122) rfl
def rX2_step_121b := W_dupR (M := mX2_step) dX2_step_121 (q := 122) rfl
def rX2_step_122 := W_getI (M := mX2_step) dX2_step_122 (q := 125) rfl fl2_42 (Or.inl rfl)
def rX2_step_125 := W_iconst (M := mX2_step) dX2_step_125 (q := 126) rfl (v := (1)) rfl
def rX2_step_126 := W_iadd (M := mX2_step) dX2_step_126 (q := 127) rfl
def rX2_step_127 := W_putI (M := mX2_step) dX2_step_127 (q := 130) rfl fl2_42 rfl (Or.inl rfl)
def rX2_step_130 := W_goto (M := mX2_step) dX2_step_130 (t := 92) rfl
def rX2_step_133 := W_aload0 (M := mX2_step) dX2_step_133 (q := 134) rfl
def rX2_step_133b := W_aloadR0 (M := mX2_step) dX2_step_133 (q := 134) rfl
def rX2_step_134 := W_aload0 (M := mX2_step) dX2_step_134 (q := 135) rfl
def rX2_step_134b := W_aloadR0 (M := mX2_step) dX2_step_134 (q := 135) rfl
def rX2_step_135 := W_getI (M := mX2_step) dX2_step_135 (q := 138) rfl fl2_42 (Or.inl rfl)
def rX2_step_138 := W_aload0 (M := mX2_step) dX2_step_138 (q := 139) rfl
def rX2_step_138b := W_aloadR0 (M := mX2_step) dX2_step_138 (q := 139) rfl
def rX2_step_139 := W_getI (M := mX2_step) dX2_step_139 (q := 142) rfl fl2_62 (Or.inl rfl)
def rX2_step_142 := W_isub (M := mX2_step) dX2_step_142 (q := 143) rfl
def rX2_step_143 := W_bipush (M := mX2_step) dX2_step_143 (q := 145) rfl (v := (8)) rfl
def rX2_step_145 := W_icmp_gt (M := mX2_step) dX2_step_145 (q := 148) rfl (t := 152) rfl
def rX2_step_148 := W_iconst (M := mX2_step) dX2_step_148 (q := 149) rfl (v := (1)) rfl
def rX2_step_149 := W_goto (M := mX2_step) dX2_step_149 (t := 153) rfl
def rX2_step_152 := W_iconst (M := mX2_step) dX2_step_152 (q := 153) rfl (v := (4)) rfl
def rX2_step_153 := W_putI (M := mX2_step) dX2_step_153 (q := 156) rfl fl2_52 rfl (Or.inl rfl)
def rX2_step_156 := W_goto (M := mX2_step) dX2_step_156 (t := 277) rfl
def rX2_step_159 := W_aload0 (M := mX2_step) dX2_step_159 (q := 160) rfl
def rX2_step_159b := W_aloadR0 (M := mX2_step) dX2_step_159 (q := 160) rfl
def rX2_step_160 := W_getR (M := mX2_step) dX2_step_160 (q := 163) rfl fl2_15 ⟨_, rfl⟩
def rX2_step_163 := W_aload0 (M := mX2_step) dX2_step_163 (q := 164) rfl
def rX2_step_163b := W_aloadR0 (M := mX2_step) dX2_step_163 (q := 164) rfl
def rX2_step_164 := W_getI (M := mX2_step) dX2_step_164 (q := 167) rfl fl2_62 (Or.inl rfl)
def rX2_step_167 := W_invV1 (M := mX2_step) dX2_step_167 (q := 170) rfl ml0_2_65 rfl
def rX2_step_170 := W_invS1 (M := mX2_step) dX2_step_170 (q := 173) rfl ml1_2_74 rfl rfl rfl
def rX2_step_173 := W_if_eq (M := mX2_step) dX2_step_173 (q := 176) rfl (t := 242) rfl
def rX2_step_176 := W_aload0 (M := mX2_step) dX2_step_176 (q := 177) rfl
def rX2_step_176b := W_aloadR0 (M := mX2_step) dX2_step_176 (q := 177) rfl
def rX2_step_177 := W_getI (M := mX2_step) dX2_step_177 (q := 180) rfl fl2_42 (Or.inl rfl)
def rX2_step_180 := W_aload0 (M := mX2_step) dX2_step_180 (q := 181) rfl
def rX2_step_180b := W_aloadR0 (M := mX2_step) dX2_step_180 (q := 181) rfl
def rX2_step_181 := W_getI (M := mX2_step) dX2_step_181 (q := 184) rfl fl2_28 (Or.inl rfl)
def rX2_step_184 := W_icmp_ge (M := mX2_step) dX2_step_184 (q := 187) rfl (t := 217) rfl
def rX2_step_187 := W_aload0 (M := mX2_step) dX2_step_187 (q := 188) rfl
def rX2_step_187b := W_aloadR0 (M := mX2_step) dX2_step_187 (q := 188) rfl
def rX2_step_188 := W_getR (M := mX2_step) dX2_step_188 (q := 191) rfl fl2_15 ⟨_, rfl⟩
def rX2_step_191 := W_aload0 (M := mX2_step) dX2_step_191 (q := 192) rfl
def rX2_step_191b := W_aloadR0 (M := mX2_step) dX2_step_191 (q := 192) rfl
def rX2_step_192 := W_getI (M := mX2_step) dX2_step_192 (q := 195) rfl fl2_42 (Or.inl rfl)
def rX2_step_195 := W_invV1 (M := mX2_step) dX2_step_195 (q := 198) rfl ml0_2_65 rfl
def rX2_step_198 := W_invS1 (M := mX2_step) dX2_step_198 (q := 201) rfl ml1_2_74 rfl rfl rfl
def rX2_step_201 := W_if_eq (M := mX2_step) dX2_step_201 (q := 204) rfl (t := 217) rfl
def rX2_step_204 := W_aload0 (M := mX2_step) dX2_step_204 (q := 205) rfl
def rX2_step_204b := W_aloadR0 (M := mX2_step) dX2_step_204 (q := 205) rfl
def rX2_step_205 := W_dupI (M := mX2_step) dX2_step_205 (q := 206) rfl
def rX2_step_205b := W_dupR (M := mX2_step) dX2_step_205 (q := 206) rfl
def rX2_step_206 := W_getI (M := mX2_step) dX2_step_206 (q := 209) rfl fl2_42 (Or.inl rfl)
def rX2_step_209 := W_iconst (M := mX2_step) dX2_step_209 (q := 210) rfl (v := (1)) rfl
def rX2_step_210 := W_iadd (M := mX2_step) dX2_step_210 (q := 211) rfl
def rX2_step_211 := W_putI (M := mX2_step) dX2_step_211 (q := 214) rfl fl2_42 rfl (Or.inl rfl)
def rX2_step_214 := W_goto (M := mX2_step) dX2_step_214 (t := 176) rfl
def rX2_step_217 := W_aload0 (M := mX2_step) dX2_step_217 (q := 218) rfl
def rX2_step_217b := W_aloadR0 (M := mX2_step) dX2_step_217 (q := 218) rfl
def rX2_step_218 := W_aload0 (M := mX2_step) dX2_step_218 (q := 219) rfl
def rX2_step_218b := W_aloadR0 (M := mX2_step) dX2_step_218 (q := 219) rfl
def rX2_step_219 := W_getI (M := mX2_step) dX2_step_219 (q := 222) rfl fl2_42 (Or.inl rfl)
def rX2_step_222 := W_aload0 (M := mX2_step) dX2_step_222 (q := 223) rfl
def rX2_step_222b := W_aloadR0 (M := mX2_step) dX2_step_222 (q := 223) rfl
def rX2_step_223 := W_getI (M := mX2_step) dX2_step_223 (q := 226) rfl fl2_62 (Or.inl rfl)
def rX2_step_226 := W_isub (M := mX2_step) dX2_step_226 (q := 227) rfl
def rX2_step_227 := W_iconst (M := mX2_step) dX2_step_227 (q := 228) rfl (v := (3)) rfl
def rX2_step_228 := W_icmp_gt (M := mX2_step) dX2_step_228 (q := 231) rfl (t := 235) rfl
def rX2_step_231 := W_iconst (M := mX2_step) dX2_step_231 (q := 232) rfl (v := (2)) rfl
def rX2_step_232 := W_goto (M := mX2_step) dX2_step_232 (t := 236) rfl
def rX2_step_235 := W_iconst (M := mX2_step) dX2_step_235 (q := 236) rfl (v := (4)) rfl
def rX2_step_236 := W_putI (M := mX2_step) dX2_step_236 (q := 239) rfl fl2_52 rfl (Or.inl rfl)
def rX2_step_239 := W_goto (M := mX2_step) dX2_step_239 (t := 277) rfl
def rX2_step_242 := W_aload0 (M := mX2_step) dX2_step_242 (q := 243) rfl
def rX2_step_242b := W_aloadR0 (M := mX2_step) dX2_step_242 (q := 243) rfl
def rX2_step_243 := W_aload0 (M := mX2_step) dX2_step_243 (q := 244) rfl
def rX2_step_243b := W_aloadR0 (M := mX2_step) dX2_step_243 (q := 244) rfl
def rX2_step_244 := W_getR (M := mX2_step) dX2_step_244 (q := 247) rfl fl2_15 ⟨_, rfl⟩
def rX2_step_247 := W_aload0 (M := mX2_step) dX2_step_247 (q := 248) rfl
def rX2_step_247b := W_aloadR0 (M := mX2_step) dX2_step_247 (q := 248) rfl
def rX2_step_248 := W_getI (M := mX2_step) dX2_step_248 (q := 251) rfl fl2_62 (Or.inl rfl)
def rX2_step_251 := W_invV1 (M := mX2_step) dX2_step_251 (q := 254) rfl ml0_2_65 rfl
def rX2_step_254 := W_bipush (M := mX2_step) dX2_step_254 (q := 256) rfl (v := (59)) rfl
def rX2_step_256 := W_icmp_ne (M := mX2_step) dX2_step_256 (q := 259) rfl (t := 263) rfl
def rX2_step_259 := W_iconst (M := mX2_step) dX2_step_259 (q := 260) rfl (v := (3)) rfl
def rX2_step_260 := W_goto (M := mX2_step) dX2_step_260 (t := 264) rfl
def rX2_step_263 := W_iconst (M := mX2_step) dX2_step_263 (q := 264) rfl (v := (4)) rfl
def rX2_step_264 := W_putI (M := mX2_step) dX2_step_264 (q := 267) rfl fl2_52 rfl (Or.inl rfl)
def rX2_step_267 := W_aload0 (M := mX2_step) dX2_step_267 (q := 268) rfl
def rX2_step_267b := W_aloadR0 (M := mX2_step) dX2_step_267 (q := 268) rfl
def rX2_step_268 := W_dupI (M := mX2_step) dX2_step_268 (q := 269) rfl
def rX2_step_268b := W_dupR (M := mX2_step) dX2_step_268 (q := 269) rfl
def rX2_step_269 := W_getI (M := mX2_step) dX2_step_269 (q := 272) rfl fl2_42 (Or.inl rfl)
def rX2_step_272 := W_iconst (M := mX2_step) dX2_step_272 (q := 273) rfl (v := (1)) rfl
def rX2_step_273 := W_iadd (M := mX2_step) dX2_step_273 (q := 274) rfl
def rX2_step_274 := W_putI (M := mX2_step) dX2_step_274 (q := 277) rfl fl2_42 rfl (Or.inl rfl)
def rX2_step_277 := W_vret (M := mX2_step) dX2_step_277 rfl
-- X2_streetLine
theorem eX2_streetLine {d : Nat} {h : qH} {Q : Option (Option Value) → qH → Prop} {s0 : Nat} : WM d mX2_streetLine [.ref s0] h Q = WP d mX2_streetLine (0, 0) 0 [some (.ref s0)] [] h Q := rfl
def rX2_streetLine_0 := W_aload0 (M := mX2_streetLine) dX2_streetLine_0 (q := 1) rfl
def rX2_streetLine_0b := W_aloadR0 (M := mX2_streetLine) dX2_streetLine_0 (q := 1) rfl
def rX2_streetLine_1 := W_iconst (M := mX2_streetLine) dX2_streetLine_1 (q := 2) rfl (v := (1)) rfl
def rX2_streetLine_2 := W_putZ (M := mX2_streetLine) dX2_streetLine_2 (q := 5) rfl fl2_32 rfl (Or.inl rfl)
def rX2_streetLine_5 := W_aload0 (M := mX2_streetLine) dX2_streetLine_5 (q := 6) rfl
def rX2_streetLine_5b := W_aloadR0 (M := mX2_streetLine) dX2_streetLine_5 (q := 6) rfl
def rX2_streetLine_6 := W_ldc (M := mX2_streetLine) dX2_streetLine_6 (q := 8) rfl cs2_166
def rX2_streetLine_8 := W_invV1 (M := mX2_streetLine) dX2_streetLine_8 (q := 11) rfl ml0_2_168 rfl
def rX2_streetLine_11 := W_if_eq (M := mX2_streetLine) dX2_streetLine_11 (q := 14) rfl (t := 24) rfl
def rX2_streetLine_14 := W_aload0 (M := mX2_streetLine) dX2_streetLine_14 (q := 15) rfl
def rX2_streetLine_14b := W_aloadR0 (M := mX2_streetLine) dX2_streetLine_14 (q := 15) rfl
def rX2_streetLine_15 := W_iconst (M := mX2_streetLine) dX2_streetLine_15 (q := 16) rfl (v := (0)) rfl
def rX2_streetLine_16 := W_bipush (M := mX2_streetLine) dX2_streetLine_16 (q := 18) rfl (v := (9)) rfl
def rX2_streetLine_18 := W_invV2 (M := mX2_streetLine) dX2_streetLine_18 (q := 21) rfl ml0_2_171 rfl
def rX2_streetLine_21 := W_if_ne (M := mX2_streetLine) dX2_streetLine_21 (q := 24) rfl (t := 26) rfl
def rX2_streetLine_24 := W_iconst (M := mX2_streetLine) dX2_streetLine_24 (q := 25) rfl (v := (0)) rfl
def rX2_streetLine_25 := W_zret (M := mX2_streetLine) dX2_streetLine_25 rfl
def rX2_streetLine_26 := W_aload0 (M := mX2_streetLine) dX2_streetLine_26 (q := 27) rfl
def rX2_streetLine_26b := W_aloadR0 (M := mX2_streetLine) dX2_streetLine_26 (q := 27) rfl
def rX2_streetLine_27 := W_getR (M := mX2_streetLine) dX2_streetLine_27 (q := 30) rfl fl2_19 ⟨_, rfl⟩
def rX2_streetLine_30 := W_aload0 (M := mX2_streetLine) dX2_streetLine_30 (q := 31) rfl
def rX2_streetLine_30b := W_aloadR0 (M := mX2_streetLine) dX2_streetLine_30 (q := 31) rfl
def rX2_streetLine_31 := W_getI (M := mX2_streetLine) dX2_streetLine_31 (q := 34) rfl fl2_113 (Or.inl rfl)
def rX2_streetLine_34 := W_putI (M := mX2_streetLine) dX2_streetLine_34 (q := 37) rfl fl2_175 rfl (Or.inl rfl)
def rX2_streetLine_37 := W_iconst (M := mX2_streetLine) dX2_streetLine_37 (q := 38) rfl (v := (1)) rfl
def rX2_streetLine_38 := W_zret (M := mX2_streetLine) dX2_streetLine_38 rfl
-- X2_takeWhole
theorem eX2_takeWhole {d : Nat} {h : qH} {Q : Option (Option Value) → qH → Prop} {s0 : Nat} {x1 : Int32} {x2 : Int32} : WM d mX2_takeWhole [.ref s0, .int x1, .int x2] h Q = WP d mX2_takeWhole (0, 0) 0 [some (.ref s0), some (.int x1), some (.int x2), none] [] h Q := rfl
def rX2_takeWhole_0 := W_aload0 (M := mX2_takeWhole) dX2_takeWhole_0 (q := 1) rfl
def rX2_takeWhole_0b := W_aloadR0 (M := mX2_takeWhole) dX2_takeWhole_0 (q := 1) rfl
def rX2_takeWhole_1 := W_getI (M := mX2_takeWhole) dX2_takeWhole_1 (q := 4) rfl fl2_52 (Or.inl rfl)
def rX2_takeWhole_4 := W_iconst (M := mX2_takeWhole) dX2_takeWhole_4 (q := 5) rfl (v := (2)) rfl
def rX2_takeWhole_5 := W_icmp_eq (M := mX2_takeWhole) dX2_takeWhole_5 (q := 8) rfl (t := 14) rfl
def rX2_takeWhole_8 := W_aload0 (M := mX2_takeWhole) dX2_takeWhole_8 (q := 9) rfl
def rX2_takeWhole_8b := W_aloadR0 (M := mX2_takeWhole) dX2_takeWhole_8 (q := 9) rfl
def rX2_takeWhole_9 := W_iconst (M := mX2_takeWhole) dX2_takeWhole_9 (q := 10) rfl (v := (1)) rfl
def rX2_takeWhole_10 := W_invV1 (M := mX2_takeWhole) dX2_takeWhole_10 (q := 13) rfl ml0_2_58 rfl
def rX2_takeWhole_13 := W_zret (M := mX2_takeWhole) dX2_takeWhole_13 rfl
def rX2_takeWhole_14 := W_aload0 (M := mX2_takeWhole) dX2_takeWhole_14 (q := 15) rfl
def rX2_takeWhole_14b := W_aloadR0 (M := mX2_takeWhole) dX2_takeWhole_14 (q := 15) rfl
def rX2_takeWhole_15 := W_iconst (M := mX2_takeWhole) dX2_takeWhole_15 (q := 16) rfl (v := (0)) rfl
def rX2_takeWhole_16 := W_putI (M := mX2_takeWhole) dX2_takeWhole_16 (q := 19) rfl fl2_113 rfl (Or.inl rfl)
def rX2_takeWhole_19 := W_aload0 (M := mX2_takeWhole) dX2_takeWhole_19 (q := 20) rfl
def rX2_takeWhole_19b := W_aloadR0 (M := mX2_takeWhole) dX2_takeWhole_19 (q := 20) rfl
def rX2_takeWhole_20 := W_getI (M := mX2_takeWhole) dX2_takeWhole_20 (q := 23) rfl fl2_62 (Or.inl rfl)
def rX2_takeWhole_23 := W_istore3 (M := mX2_takeWhole) dX2_takeWhole_23 (q := 24) rfl
def rX2_takeWhole_24 := W_iload3 (M := mX2_takeWhole) dX2_takeWhole_24 (q := 25) rfl
def rX2_takeWhole_25 := W_aload0 (M := mX2_takeWhole) dX2_takeWhole_25 (q := 26) rfl
def rX2_takeWhole_25b := W_aloadR0 (M := mX2_takeWhole) dX2_takeWhole_25 (q := 26) rfl
def rX2_takeWhole_26 := W_getI (M := mX2_takeWhole) dX2_takeWhole_26 (q := 29) rfl fl2_42 (Or.inl rfl)
def rX2_takeWhole_29 := W_icmp_ge (M := mX2_takeWhole) dX2_takeWhole_29 (q := 32) rfl (t := 61) rfl
def rX2_takeWhole_32 := W_aload0 (M := mX2_takeWhole) dX2_takeWhole_32 (q := 33) rfl
def rX2_takeWhole_32b := W_aloadR0 (M := mX2_takeWhole) dX2_takeWhole_32 (q := 33) rfl
def rX2_takeWhole_33 := W_aload0 (M := mX2_takeWhole) dX2_takeWhole_33 (q := 34) rfl
def rX2_takeWhole_33b := W_aloadR0 (M := mX2_takeWhole) dX2_takeWhole_33 (q := 34) rfl
def rX2_takeWhole_34 := W_getI (M := mX2_takeWhole) dX2_takeWhole_34 (q := 37) rfl fl2_113 (Or.inl rfl)
def rX2_takeWhole_37 := W_bipush (M := mX2_takeWhole) dX2_takeWhole_37 (q := 39) rfl (v := (10)) rfl
def rX2_takeWhole_39 := W_imul (M := mX2_takeWhole) dX2_takeWhole_39 (q := 40) rfl
def rX2_takeWhole_40 := W_aload0 (M := mX2_takeWhole) dX2_takeWhole_40 (q := 41) rfl
def rX2_takeWhole_40b := W_aloadR0 (M := mX2_takeWhole) dX2_takeWhole_40 (q := 41) rfl
def rX2_takeWhole_41 := W_getR (M := mX2_takeWhole) dX2_takeWhole_41 (q := 44) rfl fl2_15 ⟨_, rfl⟩
def rX2_takeWhole_44 := W_iload3 (M := mX2_takeWhole) dX2_takeWhole_44 (q := 45) rfl
def rX2_takeWhole_45 := W_invV1 (M := mX2_takeWhole) dX2_takeWhole_45 (q := 48) rfl ml0_2_65 rfl
def rX2_takeWhole_48 := W_iadd (M := mX2_takeWhole) dX2_takeWhole_48 (q := 49) rfl
def rX2_takeWhole_49 := W_bipush (M := mX2_takeWhole) dX2_takeWhole_49 (q := 51) rfl (v := (48)) rfl
def rX2_takeWhole_51 := W_isub (M := mX2_takeWhole) dX2_takeWhole_51 (q := 52) rfl
def rX2_takeWhole_52 := W_putI (M := mX2_takeWhole) dX2_takeWhole_52 (q := 55) rfl fl2_113 rfl (Or.inl rfl)
def rX2_takeWhole_55 := W_iinc3 (M := mX2_takeWhole) dX2_takeWhole_55 (q := 58) rfl (v := (1)) rfl
def rX2_takeWhole_58 := W_goto (M := mX2_takeWhole) dX2_takeWhole_58 (t := 24) rfl
def rX2_takeWhole_61 := W_aload0 (M := mX2_takeWhole) dX2_takeWhole_61 (q := 62) rfl
def rX2_takeWhole_61b := W_aloadR0 (M := mX2_takeWhole) dX2_takeWhole_61 (q := 62) rfl
def rX2_takeWhole_62 := W_getI (M := mX2_takeWhole) dX2_takeWhole_62 (q := 65) rfl fl2_113 (Or.inl rfl)
def rX2_takeWhole_65 := W_iload1 (M := mX2_takeWhole) dX2_takeWhole_65 (q := 66) rfl
def rX2_takeWhole_66 := W_icmp_lt (M := mX2_takeWhole) dX2_takeWhole_66 (q := 69) rfl (t := 77) rfl
def rX2_takeWhole_69 := W_aload0 (M := mX2_takeWhole) dX2_takeWhole_69 (q := 70) rfl
def rX2_takeWhole_69b := W_aloadR0 (M := mX2_takeWhole) dX2_takeWhole_69 (q := 70) rfl
def rX2_takeWhole_70 := W_getI (M := mX2_takeWhole) dX2_takeWhole_70 (q := 73) rfl fl2_113 (Or.inl rfl)
def rX2_takeWhole_73 := W_iload2 (M := mX2_takeWhole) dX2_takeWhole_73 (q := 74) rfl
def rX2_takeWhole_74 := W_icmp_le (M := mX2_takeWhole) dX2_takeWhole_74 (q := 77) rfl (t := 83) rfl
def rX2_takeWhole_77 := W_aload0 (M := mX2_takeWhole) dX2_takeWhole_77 (q := 78) rfl
def rX2_takeWhole_77b := W_aloadR0 (M := mX2_takeWhole) dX2_takeWhole_77 (q := 78) rfl
def rX2_takeWhole_78 := W_iconst (M := mX2_takeWhole) dX2_takeWhole_78 (q := 79) rfl (v := (4)) rfl
def rX2_takeWhole_79 := W_invV1 (M := mX2_takeWhole) dX2_takeWhole_79 (q := 82) rfl ml0_2_58 rfl
def rX2_takeWhole_82 := W_zret (M := mX2_takeWhole) dX2_takeWhole_82 rfl
def rX2_takeWhole_83 := W_aload0 (M := mX2_takeWhole) dX2_takeWhole_83 (q := 84) rfl
def rX2_takeWhole_83b := W_aloadR0 (M := mX2_takeWhole) dX2_takeWhole_83 (q := 84) rfl
def rX2_takeWhole_84 := W_invV0 (M := mX2_takeWhole) dX2_takeWhole_84 (q := 87) rfl ml0_2_45 rfl
def rX2_takeWhole_87 := W_iconst (M := mX2_takeWhole) dX2_takeWhole_87 (q := 88) rfl (v := (1)) rfl
def rX2_takeWhole_88 := W_zret (M := mX2_takeWhole) dX2_takeWhole_88 rfl
-- X2_takeWord
theorem eX2_takeWord {d : Nat} {h : qH} {Q : Option (Option Value) → qH → Prop} {s0 : Nat} {x1 : Nat} : WM d mX2_takeWord [.ref s0, .retAddr x1] h Q = WP d mX2_takeWord (0, 0) 0 [some (.ref s0), some (.retAddr x1)] [] h Q := rfl
def rX2_takeWord_0 := W_aload0 (M := mX2_takeWord) dX2_takeWord_0 (q := 1) rfl
def rX2_takeWord_0b := W_aloadR0 (M := mX2_takeWord) dX2_takeWord_0 (q := 1) rfl
def rX2_takeWord_1 := W_aload1 (M := mX2_takeWord) dX2_takeWord_1 (q := 2) rfl
def rX2_takeWord_1b := W_aloadR1 (M := mX2_takeWord) dX2_takeWord_1 (q := 2) rfl
def rX2_takeWord_2 := W_invV1 (M := mX2_takeWord) dX2_takeWord_2 (q := 5) rfl ml0_2_89 rfl
def rX2_takeWord_5 := W_if_ne (M := mX2_takeWord) dX2_takeWord_5 (q := 8) rfl (t := 14) rfl
def rX2_takeWord_8 := W_aload0 (M := mX2_takeWord) dX2_takeWord_8 (q := 9) rfl
def rX2_takeWord_8b := W_aloadR0 (M := mX2_takeWord) dX2_takeWord_8 (q := 9) rfl
def rX2_takeWord_9 := W_iconst (M := mX2_takeWord) dX2_takeWord_9 (q := 10) rfl (v := (1)) rfl
def rX2_takeWord_10 := W_invV1 (M := mX2_takeWord) dX2_takeWord_10 (q := 13) rfl ml0_2_58 rfl
def rX2_takeWord_13 := W_zret (M := mX2_takeWord) dX2_takeWord_13 rfl
def rX2_takeWord_14 := W_aload0 (M := mX2_takeWord) dX2_takeWord_14 (q := 15) rfl
def rX2_takeWord_14b := W_aloadR0 (M := mX2_takeWord) dX2_takeWord_14 (q := 15) rfl
def rX2_takeWord_15 := W_invV0 (M := mX2_takeWord) dX2_takeWord_15 (q := 18) rfl ml0_2_45 rfl
def rX2_takeWord_18 := W_iconst (M := mX2_takeWord) dX2_takeWord_18 (q := 19) rfl (v := (1)) rfl
def rX2_takeWord_19 := W_zret (M := mX2_takeWord) dX2_takeWord_19 rfl
-- X2_unknownLine
theorem eX2_unknownLine {d : Nat} {h : qH} {Q : Option (Option Value) → qH → Prop} {s0 : Nat} : WM d mX2_unknownLine [.ref s0] h Q = WP d mX2_unknownLine (0, 0) 0 [some (.ref s0), none, none] [] h Q := rfl
def rX2_unknownLine_0 := W_aload0 (M := mX2_unknownLine) dX2_unknownLine_0 (q := 1) rfl
def rX2_unknownLine_0b := W_aloadR0 (M := mX2_unknownLine) dX2_unknownLine_0 (q := 1) rfl
def rX2_unknownLine_1 := W_invV0 (M := mX2_unknownLine) dX2_unknownLine_1 (q := 4) rfl ml0_2_210 rfl
def rX2_unknownLine_4 := W_istore1 (M := mX2_unknownLine) dX2_unknownLine_4 (q := 5) rfl
def rX2_unknownLine_5 := W_iload1 (M := mX2_unknownLine) dX2_unknownLine_5 (q := 6) rfl
def rX2_unknownLine_6 := W_iconst (M := mX2_unknownLine) dX2_unknownLine_6 (q := 7) rfl (v := (-1)) rfl
def rX2_unknownLine_7 := W_icmp_ne (M := mX2_unknownLine) dX2_unknownLine_7 (q := 10) rfl (t := 12) rfl
def rX2_unknownLine_10 := W_iconst (M := mX2_unknownLine) dX2_unknownLine_10 (q := 11) rfl (v := (0)) rfl
def rX2_unknownLine_11 := W_zret (M := mX2_unknownLine) dX2_unknownLine_11 rfl
def rX2_unknownLine_12 := W_iconst (M := mX2_unknownLine) dX2_unknownLine_12 (q := 13) rfl (v := (0)) rfl
def rX2_unknownLine_13 := W_istore2 (M := mX2_unknownLine) dX2_unknownLine_13 (q := 14) rfl
def rX2_unknownLine_14 := W_iload2 (M := mX2_unknownLine) dX2_unknownLine_14 (q := 15) rfl
def rX2_unknownLine_15 := W_aload0 (M := mX2_unknownLine) dX2_unknownLine_15 (q := 16) rfl
def rX2_unknownLine_15b := W_aloadR0 (M := mX2_unknownLine) dX2_unknownLine_15 (q := 16) rfl
def rX2_unknownLine_16 := W_getR (M := mX2_unknownLine) dX2_unknownLine_16 (q := 19) rfl fl2_19 ⟨_, rfl⟩
def rX2_unknownLine_19 := W_getI (M := mX2_unknownLine) dX2_unknownLine_19 (q := 22) rfl fl2_160 (Or.inl rfl)
def rX2_unknownLine_22 := W_icmp_ge (M := mX2_unknownLine) dX2_unknownLine_22 (q := 25) rfl (t := 50) rfl
def rX2_unknownLine_25 := W_aload0 (M := mX2_unknownLine) dX2_unknownLine_25 (q := 26) rfl
def rX2_unknownLine_25b := W_aloadR0 (M := mX2_unknownLine) dX2_unknownLine_25 (q := 26) rfl
def rX2_unknownLine_26 := W_getR (M := mX2_unknownLine) dX2_unknownLine_26 (q := 29) rfl fl2_19 ⟨_, rfl⟩
def rX2_unknownLine_29 := W_getA (M := mX2_unknownLine) dX2_unknownLine_29 (q := 32) rfl fl2_247 ⟨_, rfl⟩
def rX2_unknownLine_32 := W_iload2 (M := mX2_unknownLine) dX2_unknownLine_32 (q := 33) rfl
def rX2_unknownLine_33 := W_iald (M := mX2_unknownLine) dX2_unknownLine_33 (q := 34) rfl
def rX2_unknownLine_34 := W_iload1 (M := mX2_unknownLine) dX2_unknownLine_34 (q := 35) rfl
def rX2_unknownLine_35 := W_icmp_ne (M := mX2_unknownLine) dX2_unknownLine_35 (q := 38) rfl (t := 44) rfl
def rX2_unknownLine_38 := W_aload0 (M := mX2_unknownLine) dX2_unknownLine_38 (q := 39) rfl
def rX2_unknownLine_38b := W_aloadR0 (M := mX2_unknownLine) dX2_unknownLine_38 (q := 39) rfl
def rX2_unknownLine_39 := W_iconst (M := mX2_unknownLine) dX2_unknownLine_39 (q := 40) rfl (v := (3)) rfl
def rX2_unknownLine_40 := W_invV1 (M := mX2_unknownLine) dX2_unknownLine_40 (q := 43) rfl ml0_2_58 rfl
def rX2_unknownLine_43 := W_zret (M := mX2_unknownLine) dX2_unknownLine_43 rfl
def rX2_unknownLine_44 := W_iinc2 (M := mX2_unknownLine) dX2_unknownLine_44 (q := 47) rfl (v := (1)) rfl
def rX2_unknownLine_47 := W_goto (M := mX2_unknownLine) dX2_unknownLine_47 (t := 14) rfl
def rX2_unknownLine_50 := W_aload0 (M := mX2_unknownLine) dX2_unknownLine_50 (q := 51) rfl
def rX2_unknownLine_50b := W_aloadR0 (M := mX2_unknownLine) dX2_unknownLine_50 (q := 51) rfl
def rX2_unknownLine_51 := W_getR (M := mX2_unknownLine) dX2_unknownLine_51 (q := 54) rfl fl2_19 ⟨_, rfl⟩
def rX2_unknownLine_54 := W_getA (M := mX2_unknownLine) dX2_unknownLine_54 (q := 57) rfl fl2_247 ⟨_, rfl⟩
def rX2_unknownLine_57 := W_aload0 (M := mX2_unknownLine) dX2_unknownLine_57 (q := 58) rfl
def rX2_unknownLine_57b := W_aloadR0 (M := mX2_unknownLine) dX2_unknownLine_57 (q := 58) rfl
def rX2_unknownLine_58 := W_getR (M := mX2_unknownLine) dX2_unknownLine_58 (q := 61) rfl fl2_19 ⟨_, rfl⟩
def rX2_unknownLine_61 := W_getI (M := mX2_unknownLine) dX2_unknownLine_61 (q := 64) rfl fl2_160 (Or.inl rfl)
def rX2_unknownLine_64 := W_iload1 (M := mX2_unknownLine) dX2_unknownLine_64 (q := 65) rfl
def rX2_unknownLine_65 := W_iast (M := mX2_unknownLine) dX2_unknownLine_65 (q := 66) rfl
def rX2_unknownLine_66 := W_aload0 (M := mX2_unknownLine) dX2_unknownLine_66 (q := 67) rfl
def rX2_unknownLine_66b := W_aloadR0 (M := mX2_unknownLine) dX2_unknownLine_66 (q := 67) rfl
def rX2_unknownLine_67 := W_getR (M := mX2_unknownLine) dX2_unknownLine_67 (q := 70) rfl fl2_19 ⟨_, rfl⟩
def rX2_unknownLine_70 := W_dupI (M := mX2_unknownLine) dX2_unknownLine_70 (q := 71) rfl
def rX2_unknownLine_70b := W_dupR (M := mX2_unknownLine) dX2_unknownLine_70 (q := 71) rfl
def rX2_unknownLine_71 := W_getI (M := mX2_unknownLine) dX2_unknownLine_71 (q := 74) rfl fl2_160 (Or.inl rfl)
def rX2_unknownLine_74 := W_iconst (M := mX2_unknownLine) dX2_unknownLine_74 (q := 75) rfl (v := (1)) rfl
def rX2_unknownLine_75 := W_iadd (M := mX2_unknownLine) dX2_unknownLine_75 (q := 76) rfl
def rX2_unknownLine_76 := W_putI (M := mX2_unknownLine) dX2_unknownLine_76 (q := 79) rfl fl2_160 rfl (Or.inl rfl)
def rX2_unknownLine_79 := W_aload0 (M := mX2_unknownLine) dX2_unknownLine_79 (q := 80) rfl
def rX2_unknownLine_79b := W_aloadR0 (M := mX2_unknownLine) dX2_unknownLine_79 (q := 80) rfl
def rX2_unknownLine_80 := W_invV0 (M := mX2_unknownLine) dX2_unknownLine_80 (q := 83) rfl ml0_2_45 rfl
def rX2_unknownLine_83 := W_iconst (M := mX2_unknownLine) dX2_unknownLine_83 (q := 84) rfl (v := (1)) rfl
def rX2_unknownLine_84 := W_zret (M := mX2_unknownLine) dX2_unknownLine_84 rfl
-- X3_begin
theorem eX3_begin {d : Nat} {h : qH} {Q : Option (Option Value) → qH → Prop} {s0 : Nat} {x1 : Int32} : WM d mX3_begin [.ref s0, .int x1] h Q = WP d mX3_begin (0, 0) 0 [some (.ref s0), some (.int x1)] [] h Q := rfl
def rX3_begin_0 := W_aload0 (M := mX3_begin) dX3_begin_0 (q := 1) rfl
def rX3_begin_0b := W_aloadR0 (M := mX3_begin) dX3_begin_0 (q := 1) rfl
def rX3_begin_1 := W_iconst (M := mX3_begin) dX3_begin_1 (q := 2) rfl (v := (0)) rfl
def rX3_begin_2 := W_putI (M := mX3_begin) dX3_begin_2 (q := 5) rfl fl3_18 rfl (Or.inl rfl)
def rX3_begin_5 := W_aload0 (M := mX3_begin) dX3_begin_5 (q := 6) rfl
def rX3_begin_5b := W_aloadR0 (M := mX3_begin) dX3_begin_5 (q := 6) rfl
def rX3_begin_6 := W_iload1 (M := mX3_begin) dX3_begin_6 (q := 7) rfl
def rX3_begin_7 := W_putI (M := mX3_begin) dX3_begin_7 (q := 10) rfl fl3_22 rfl (Or.inl rfl)
def rX3_begin_10 := W_aload0 (M := mX3_begin) dX3_begin_10 (q := 11) rfl
def rX3_begin_10b := W_aloadR0 (M := mX3_begin) dX3_begin_10 (q := 11) rfl
def rX3_begin_11 := W_iconst (M := mX3_begin) dX3_begin_11 (q := 12) rfl (v := (0)) rfl
def rX3_begin_12 := W_putI (M := mX3_begin) dX3_begin_12 (q := 15) rfl fl3_25 rfl (Or.inl rfl)
def rX3_begin_15 := W_aload0 (M := mX3_begin) dX3_begin_15 (q := 16) rfl
def rX3_begin_15b := W_aloadR0 (M := mX3_begin) dX3_begin_15 (q := 16) rfl
def rX3_begin_16 := W_iconst (M := mX3_begin) dX3_begin_16 (q := 17) rfl (v := (0)) rfl
def rX3_begin_17 := W_putI (M := mX3_begin) dX3_begin_17 (q := 20) rfl fl3_28 rfl (Or.inl rfl)
def rX3_begin_20 := W_aload0 (M := mX3_begin) dX3_begin_20 (q := 21) rfl
def rX3_begin_20b := W_aloadR0 (M := mX3_begin) dX3_begin_20 (q := 21) rfl
def rX3_begin_21 := W_iconst (M := mX3_begin) dX3_begin_21 (q := 22) rfl (v := (0)) rfl
def rX3_begin_22 := W_putI (M := mX3_begin) dX3_begin_22 (q := 25) rfl fl3_31 rfl (Or.inl rfl)
def rX3_begin_25 := W_vret (M := mX3_begin) dX3_begin_25 rfl
-- X3_goBack
theorem eX3_goBack {d : Nat} {h : qH} {Q : Option (Option Value) → qH → Prop} {s0 : Nat} {x1 : Int32} : WM d mX3_goBack [.ref s0, .int x1] h Q = WP d mX3_goBack (0, 0) 0 [some (.ref s0), some (.int x1)] [] h Q := rfl
def rX3_goBack_0 := W_iload1 (M := mX3_goBack) dX3_goBack_0 (q := 1) rfl
def rX3_goBack_1 := W_if_lt (M := mX3_goBack) dX3_goBack_1 (q := 4) rfl (t := 12) rfl
def rX3_goBack_4 := W_iload1 (M := mX3_goBack) dX3_goBack_4 (q := 5) rfl
def rX3_goBack_5 := W_aload0 (M := mX3_goBack) dX3_goBack_5 (q := 6) rfl
def rX3_goBack_5b := W_aloadR0 (M := mX3_goBack) dX3_goBack_5 (q := 6) rfl
def rX3_goBack_6 := W_getI (M := mX3_goBack) dX3_goBack_6 (q := 9) rfl fl3_31 (Or.inl rfl)
def rX3_goBack_9 := W_icmp_lt (M := mX3_goBack) dX3_goBack_9 (q := 12) rfl (t := 14) rfl
def rX3_goBack_12 := W_iconst (M := mX3_goBack) dX3_goBack_12 (q := 13) rfl (v := (0)) rfl
def rX3_goBack_13 := W_zret (M := mX3_goBack) dX3_goBack_13 rfl
def rX3_goBack_14 := W_aload0 (M := mX3_goBack) dX3_goBack_14 (q := 15) rfl
def rX3_goBack_14b := W_aloadR0 (M := mX3_goBack) dX3_goBack_14 (q := 15) rfl
def rX3_goBack_15 := W_aload0 (M := mX3_goBack) dX3_goBack_15 (q := 16) rfl
def rX3_goBack_15b := W_aloadR0 (M := mX3_goBack) dX3_goBack_15 (q := 16) rfl
def rX3_goBack_16 := W_getA (M := mX3_goBack) dX3_goBack_16 (q := 19) rfl fl3_15 ⟨_, rfl⟩
def rX3_goBack_19 := W_iload1 (M := mX3_goBack) dX3_goBack_19 (q := 20) rfl
def rX3_goBack_20 := W_iald (M := mX3_goBack) dX3_goBack_20 (q := 21) rfl
def rX3_goBack_21 := W_invV1 (M := mX3_goBack) dX3_goBack_21 (q := 24) rfl ml0_3_47 rfl
def rX3_goBack_24 := W_aload0 (M := mX3_goBack) dX3_goBack_24 (q := 25) rfl
def rX3_goBack_24b := W_aloadR0 (M := mX3_goBack) dX3_goBack_24 (q := 25) rfl
def rX3_goBack_25 := W_iconst (M := mX3_goBack) dX3_goBack_25 (q := 26) rfl (v := (0)) rfl
def rX3_goBack_26 := W_putI (M := mX3_goBack) dX3_goBack_26 (q := 29) rfl fl3_28 rfl (Or.inl rfl)
def rX3_goBack_29 := W_iconst (M := mX3_goBack) dX3_goBack_29 (q := 30) rfl (v := (1)) rfl
def rX3_goBack_30 := W_zret (M := mX3_goBack) dX3_goBack_30 rfl
-- X3_init
theorem eX3_init {d : Nat} {h : qH} {Q : Option (Option Value) → qH → Prop} {s0 : Nat} : WM d mX3_init [.ref s0] h Q = WP d mX3_init (0, 0) 0 [some (.ref s0)] [] h Q := rfl
def rX3_init_0 := W_aload0 (M := mX3_init) dX3_init_0 (q := 1) rfl
def rX3_init_0b := W_aloadR0 (M := mX3_init) dX3_init_0 (q := 1) rfl
def rX3_init_1 := W_objI (M := mX3_init) dX3_init_1 (q := 4) rfl ml10_3_3 ml2n_3_3 ml3n_3_3
def rX3_init_4 := W_aload0 (M := mX3_init) dX3_init_4 (q := 5) rfl
def rX3_init_4b := W_aloadR0 (M := mX3_init) dX3_init_4 (q := 5) rfl
def rX3_init_5 := W_bipush (M := mX3_init) dX3_init_5 (q := 7) rfl (v := (16)) rfl
def rX3_init_7 := W_newa (M := mX3_init) dX3_init_7 (q := 9) rfl
def rX3_init_9 := W_putA (M := mX3_init) dX3_init_9 (q := 12) rfl fl3_11 ⟨_, rfl⟩ (Or.inr ⟨rfl, rfl, rfl⟩)
def rX3_init_12 := W_aload0 (M := mX3_init) dX3_init_12 (q := 13) rfl
def rX3_init_12b := W_aloadR0 (M := mX3_init) dX3_init_12 (q := 13) rfl
def rX3_init_13 := W_iconst (M := mX3_init) dX3_init_13 (q := 14) rfl (v := (3)) rfl
def rX3_init_14 := W_newa (M := mX3_init) dX3_init_14 (q := 16) rfl
def rX3_init_16 := W_putA (M := mX3_init) dX3_init_16 (q := 19) rfl fl3_15 ⟨_, rfl⟩ (Or.inr ⟨rfl, rfl, rfl⟩)
def rX3_init_19 := W_vret (M := mX3_init) dX3_init_19 rfl
-- X3_keep
theorem eX3_keep {d : Nat} {h : qH} {Q : Option (Option Value) → qH → Prop} {s0 : Nat} : WM d mX3_keep [.ref s0] h Q = WP d mX3_keep (0, 0) 0 [some (.ref s0)] [] h Q := rfl
def rX3_keep_0 := W_aload0 (M := mX3_keep) dX3_keep_0 (q := 1) rfl
def rX3_keep_0b := W_aloadR0 (M := mX3_keep) dX3_keep_0 (q := 1) rfl
def rX3_keep_1 := W_getA (M := mX3_keep) dX3_keep_1 (q := 4) rfl fl3_11 ⟨_, rfl⟩
def rX3_keep_4 := W_aload0 (M := mX3_keep) dX3_keep_4 (q := 5) rfl
def rX3_keep_4b := W_aloadR0 (M := mX3_keep) dX3_keep_4 (q := 5) rfl
def rX3_keep_5 := W_getI (M := mX3_keep) dX3_keep_5 (q := 8) rfl fl3_34 (Or.inl rfl)
def rX3_keep_8 := W_aload0 (M := mX3_keep) dX3_keep_8 (q := 9) rfl
def rX3_keep_8b := W_aloadR0 (M := mX3_keep) dX3_keep_8 (q := 9) rfl
def rX3_keep_9 := W_invV0 (M := mX3_keep) dX3_keep_9 (q := 12) rfl ml0_3_37 rfl
def rX3_keep_12 := W_iast (M := mX3_keep) dX3_keep_12 (q := 13) rfl
def rX3_keep_13 := W_aload0 (M := mX3_keep) dX3_keep_13 (q := 14) rfl
def rX3_keep_13b := W_aloadR0 (M := mX3_keep) dX3_keep_13 (q := 14) rfl
def rX3_keep_14 := W_aload0 (M := mX3_keep) dX3_keep_14 (q := 15) rfl
def rX3_keep_14b := W_aloadR0 (M := mX3_keep) dX3_keep_14 (q := 15) rfl
def rX3_keep_15 := W_getI (M := mX3_keep) dX3_keep_15 (q := 18) rfl fl3_34 (Or.inl rfl)
def rX3_keep_18 := W_iconst (M := mX3_keep) dX3_keep_18 (q := 19) rfl (v := (1)) rfl
def rX3_keep_19 := W_iadd (M := mX3_keep) dX3_keep_19 (q := 20) rfl
def rX3_keep_20 := W_bipush (M := mX3_keep) dX3_keep_20 (q := 22) rfl (v := (16)) rfl
def rX3_keep_22 := W_irem (M := mX3_keep) dX3_keep_22 (q := 23) rfl
def rX3_keep_23 := W_putI (M := mX3_keep) dX3_keep_23 (q := 26) rfl fl3_34 rfl (Or.inl rfl)
def rX3_keep_26 := W_aload0 (M := mX3_keep) dX3_keep_26 (q := 27) rfl
def rX3_keep_26b := W_aloadR0 (M := mX3_keep) dX3_keep_26 (q := 27) rfl
def rX3_keep_27 := W_aload0 (M := mX3_keep) dX3_keep_27 (q := 28) rfl
def rX3_keep_27b := W_aloadR0 (M := mX3_keep) dX3_keep_27 (q := 28) rfl
def rX3_keep_28 := W_getI (M := mX3_keep) dX3_keep_28 (q := 31) rfl fl3_28 (Or.inl rfl)
def rX3_keep_31 := W_iconst (M := mX3_keep) dX3_keep_31 (q := 32) rfl (v := (1)) rfl
def rX3_keep_32 := W_iadd (M := mX3_keep) dX3_keep_32 (q := 33) rfl
def rX3_keep_33 := W_bipush (M := mX3_keep) dX3_keep_33 (q := 35) rfl (v := (16)) rfl
def rX3_keep_35 := W_min (M := mX3_keep) dX3_keep_35 (q := 38) rfl ml12_3_41 ml1n_3_41 ml11n_3_41
def rX3_keep_38 := W_putI (M := mX3_keep) dX3_keep_38 (q := 41) rfl fl3_28 rfl (Or.inl rfl)
def rX3_keep_41 := W_vret (M := mX3_keep) dX3_keep_41 rfl
-- X3_keepImage
theorem eX3_keepImage {d : Nat} {h : qH} {Q : Option (Option Value) → qH → Prop} {s0 : Nat} : WM d mX3_keepImage [.ref s0] h Q = WP d mX3_keepImage (0, 0) 0 [some (.ref s0)] [] h Q := rfl
def rX3_keepImage_0 := W_aload0 (M := mX3_keepImage) dX3_keepImage_0 (q := 1) rfl
def rX3_keepImage_0b := W_aloadR0 (M := mX3_keepImage) dX3_keepImage_0 (q := 1) rfl
def rX3_keepImage_1 := W_getI (M := mX3_keepImage) dX3_keepImage_1 (q := 4) rfl fl3_31 (Or.inl rfl)
def rX3_keepImage_4 := W_iconst (M := mX3_keepImage) dX3_keepImage_4 (q := 5) rfl (v := (3)) rfl
def rX3_keepImage_5 := W_icmp_lt (M := mX3_keepImage) dX3_keepImage_5 (q := 8) rfl (t := 10) rfl
def rX3_keepImage_8 := W_iconst (M := mX3_keepImage) dX3_keepImage_8 (q := 9) rfl (v := (-1)) rfl
def rX3_keepImage_9 := W_iret (M := mX3_keepImage) dX3_keepImage_9 rfl
def rX3_keepImage_10 := W_aload0 (M := mX3_keepImage) dX3_keepImage_10 (q := 11) rfl
def rX3_keepImage_10b := W_aloadR0 (M := mX3_keepImage) dX3_keepImage_10 (q := 11) rfl
def rX3_keepImage_11 := W_getA (M := mX3_keepImage) dX3_keepImage_11 (q := 14) rfl fl3_15 ⟨_, rfl⟩
def rX3_keepImage_14 := W_aload0 (M := mX3_keepImage) dX3_keepImage_14 (q := 15) rfl
def rX3_keepImage_14b := W_aloadR0 (M := mX3_keepImage) dX3_keepImage_14 (q := 15) rfl
def rX3_keepImage_15 := W_getI (M := mX3_keepImage) dX3_keepImage_15 (q := 18) rfl fl3_31 (Or.inl rfl)
def rX3_keepImage_18 := W_aload0 (M := mX3_keepImage) dX3_keepImage_18 (q := 19) rfl
def rX3_keepImage_18b := W_aloadR0 (M := mX3_keepImage) dX3_keepImage_18 (q := 19) rfl
def rX3_keepImage_19 := W_invV0 (M := mX3_keepImage) dX3_keepImage_19 (q := 22) rfl ml0_3_37 rfl
def rX3_keepImage_22 := W_iast (M := mX3_keepImage) dX3_keepImage_22 (q := 23) rfl
def rX3_keepImage_23 := W_aload0 (M := mX3_keepImage) dX3_keepImage_23 (q := 24) rfl
def rX3_keepImage_23b := W_aloadR0 (M := mX3_keepImage) dX3_keepImage_23 (q := 24) rfl
def rX3_keepImage_24 := W_dupI (M := mX3_keepImage) dX3_keepImage_24 (q := 25) rfl
def rX3_keepImage_24b := W_dupR (M := mX3_keepImage) dX3_keepImage_24 (q := 25) rfl
def rX3_keepImage_25 := W_getI (M := mX3_keepImage) dX3_keepImage_25 (q := 28) rfl fl3_31 (Or.inl rfl)
def rX3_keepImage_28 := W_iconst (M := mX3_keepImage) dX3_keepImage_28 (q := 29) rfl (v := (1)) rfl
def rX3_keepImage_29 := W_iadd (M := mX3_keepImage) dX3_keepImage_29 (q := 30) rfl
def rX3_keepImage_30 := W_putI (M := mX3_keepImage) dX3_keepImage_30 (q := 33) rfl fl3_31 rfl (Or.inl rfl)
def rX3_keepImage_33 := W_aload0 (M := mX3_keepImage) dX3_keepImage_33 (q := 34) rfl
def rX3_keepImage_33b := W_aloadR0 (M := mX3_keepImage) dX3_keepImage_33 (q := 34) rfl
def rX3_keepImage_34 := W_getI (M := mX3_keepImage) dX3_keepImage_34 (q := 37) rfl fl3_31 (Or.inl rfl)
def rX3_keepImage_37 := W_iconst (M := mX3_keepImage) dX3_keepImage_37 (q := 38) rfl (v := (1)) rfl
def rX3_keepImage_38 := W_isub (M := mX3_keepImage) dX3_keepImage_38 (q := 39) rfl
def rX3_keepImage_39 := W_iret (M := mX3_keepImage) dX3_keepImage_39 rfl
-- X3_packed
theorem eX3_packed {d : Nat} {h : qH} {Q : Option (Option Value) → qH → Prop} {s0 : Nat} : WM d mX3_packed [.ref s0] h Q = WP d mX3_packed (0, 0) 0 [some (.ref s0)] [] h Q := rfl
def rX3_packed_0 := W_aload0 (M := mX3_packed) dX3_packed_0 (q := 1) rfl
def rX3_packed_0b := W_aloadR0 (M := mX3_packed) dX3_packed_0 (q := 1) rfl
def rX3_packed_1 := W_getI (M := mX3_packed) dX3_packed_1 (q := 4) rfl fl3_25 (Or.inl rfl)
def rX3_packed_4 := W_bipush (M := mX3_packed) dX3_packed_4 (q := 6) rfl (v := (12)) rfl
def rX3_packed_6 := W_ishl (M := mX3_packed) dX3_packed_6 (q := 7) rfl
def rX3_packed_7 := W_aload0 (M := mX3_packed) dX3_packed_7 (q := 8) rfl
def rX3_packed_7b := W_aloadR0 (M := mX3_packed) dX3_packed_7 (q := 8) rfl
def rX3_packed_8 := W_getI (M := mX3_packed) dX3_packed_8 (q := 11) rfl fl3_22 (Or.inl rfl)
def rX3_packed_11 := W_bipush (M := mX3_packed) dX3_packed_11 (q := 13) rfl (v := (6)) rfl
def rX3_packed_13 := W_ishl (M := mX3_packed) dX3_packed_13 (q := 14) rfl
def rX3_packed_14 := W_ior (M := mX3_packed) dX3_packed_14 (q := 15) rfl
def rX3_packed_15 := W_aload0 (M := mX3_packed) dX3_packed_15 (q := 16) rfl
def rX3_packed_15b := W_aloadR0 (M := mX3_packed) dX3_packed_15 (q := 16) rfl
def rX3_packed_16 := W_getI (M := mX3_packed) dX3_packed_16 (q := 19) rfl fl3_18 (Or.inl rfl)
def rX3_packed_19 := W_ior (M := mX3_packed) dX3_packed_19 (q := 20) rfl
def rX3_packed_20 := W_iret (M := mX3_packed) dX3_packed_20 rfl
-- X3_takeBack
theorem eX3_takeBack {d : Nat} {h : qH} {Q : Option (Option Value) → qH → Prop} {s0 : Nat} : WM d mX3_takeBack [.ref s0] h Q = WP d mX3_takeBack (0, 0) 0 [some (.ref s0)] [] h Q := rfl
def rX3_takeBack_0 := W_aload0 (M := mX3_takeBack) dX3_takeBack_0 (q := 1) rfl
def rX3_takeBack_0b := W_aloadR0 (M := mX3_takeBack) dX3_takeBack_0 (q := 1) rfl
def rX3_takeBack_1 := W_getI (M := mX3_takeBack) dX3_takeBack_1 (q := 4) rfl fl3_28 (Or.inl rfl)
def rX3_takeBack_4 := W_if_ne (M := mX3_takeBack) dX3_takeBack_4 (q := 7) rfl (t := 9) rfl
def rX3_takeBack_7 := W_iconst (M := mX3_takeBack) dX3_takeBack_7 (q := 8) rfl (v := (0)) rfl
def rX3_takeBack_8 := W_zret (M := mX3_takeBack) dX3_takeBack_8 rfl
def rX3_takeBack_9 := W_aload0 (M := mX3_takeBack) dX3_takeBack_9 (q := 10) rfl
def rX3_takeBack_9b := W_aloadR0 (M := mX3_takeBack) dX3_takeBack_9 (q := 10) rfl
def rX3_takeBack_10 := W_dupI (M := mX3_takeBack) dX3_takeBack_10 (q := 11) rfl
def rX3_takeBack_10b := W_dupR (M := mX3_takeBack) dX3_takeBack_10 (q := 11) rfl
def rX3_takeBack_11 := W_getI (M := mX3_takeBack) dX3_takeBack_11 (q := 14) rfl fl3_28 (Or.inl rfl)
def rX3_takeBack_14 := W_iconst (M := mX3_takeBack) dX3_takeBack_14 (q := 15) rfl (v := (1)) rfl
def rX3_takeBack_15 := W_isub (M := mX3_takeBack) dX3_takeBack_15 (q := 16) rfl
def rX3_takeBack_16 := W_putI (M := mX3_takeBack) dX3_takeBack_16 (q := 19) rfl fl3_28 rfl (Or.inl rfl)
def rX3_takeBack_19 := W_aload0 (M := mX3_takeBack) dX3_takeBack_19 (q := 20) rfl
def rX3_takeBack_19b := W_aloadR0 (M := mX3_takeBack) dX3_takeBack_19 (q := 20) rfl
def rX3_takeBack_20 := W_aload0 (M := mX3_takeBack) dX3_takeBack_20 (q := 21) rfl
def rX3_takeBack_20b := W_aloadR0 (M := mX3_takeBack) dX3_takeBack_20 (q := 21) rfl
def rX3_takeBack_21 := W_getI (M := mX3_takeBack) dX3_takeBack_21 (q := 24) rfl fl3_34 (Or.inl rfl)
def rX3_takeBack_24 := W_bipush (M := mX3_takeBack) dX3_takeBack_24 (q := 26) rfl (v := (16)) rfl
def rX3_takeBack_26 := W_iadd (M := mX3_takeBack) dX3_takeBack_26 (q := 27) rfl
def rX3_takeBack_27 := W_iconst (M := mX3_takeBack) dX3_takeBack_27 (q := 28) rfl (v := (1)) rfl
def rX3_takeBack_28 := W_isub (M := mX3_takeBack) dX3_takeBack_28 (q := 29) rfl
def rX3_takeBack_29 := W_bipush (M := mX3_takeBack) dX3_takeBack_29 (q := 31) rfl (v := (16)) rfl
def rX3_takeBack_31 := W_irem (M := mX3_takeBack) dX3_takeBack_31 (q := 32) rfl
def rX3_takeBack_32 := W_putI (M := mX3_takeBack) dX3_takeBack_32 (q := 35) rfl fl3_34 rfl (Or.inl rfl)
def rX3_takeBack_35 := W_aload0 (M := mX3_takeBack) dX3_takeBack_35 (q := 36) rfl
def rX3_takeBack_35b := W_aloadR0 (M := mX3_takeBack) dX3_takeBack_35 (q := 36) rfl
def rX3_takeBack_36 := W_aload0 (M := mX3_takeBack) dX3_takeBack_36 (q := 37) rfl
def rX3_takeBack_36b := W_aloadR0 (M := mX3_takeBack) dX3_takeBack_36 (q := 37) rfl
def rX3_takeBack_37 := W_getA (M := mX3_takeBack) dX3_takeBack_37 (q := 40) rfl fl3_11 ⟨_, rfl⟩
def rX3_takeBack_40 := W_aload0 (M := mX3_takeBack) dX3_takeBack_40 (q := 41) rfl
def rX3_takeBack_40b := W_aloadR0 (M := mX3_takeBack) dX3_takeBack_40 (q := 41) rfl
def rX3_takeBack_41 := W_getI (M := mX3_takeBack) dX3_takeBack_41 (q := 44) rfl fl3_34 (Or.inl rfl)
def rX3_takeBack_44 := W_iald (M := mX3_takeBack) dX3_takeBack_44 (q := 45) rfl
def rX3_takeBack_45 := W_invV1 (M := mX3_takeBack) dX3_takeBack_45 (q := 48) rfl ml0_3_47 rfl
def rX3_takeBack_48 := W_iconst (M := mX3_takeBack) dX3_takeBack_48 (q := 49) rfl (v := (1)) rfl
def rX3_takeBack_49 := W_zret (M := mX3_takeBack) dX3_takeBack_49 rfl
