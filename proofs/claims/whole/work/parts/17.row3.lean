-- X8_isSpark
theorem eX8_isSpark {d : Nat} {h : qH} {Q : Option (Option Value) → qH → Prop} {s0 : Nat} {x1 : Int32} {x2 : Int32} : WM d mX8_isSpark [.ref s0, .int x1, .int x2] h Q = WP d mX8_isSpark (0, 0) 0 [some (.ref s0), some (.int x1), some (.int x2), none] [] h Q := rfl
def rX8_isSpark_0 := W_iconst (M := mX8_isSpark) dX8_isSpark_0 (q := 1) rfl (v := (0)) rfl
def rX8_isSpark_1 := W_istore3 (M := mX8_isSpark) dX8_isSpark_1 (q := 2) rfl
def rX8_isSpark_2 := W_iload3 (M := mX8_isSpark) dX8_isSpark_2 (q := 3) rfl
def rX8_isSpark_3 := W_aload0 (M := mX8_isSpark) dX8_isSpark_3 (q := 4) rfl
def rX8_isSpark_3b := W_aloadR0 (M := mX8_isSpark) dX8_isSpark_3 (q := 4) rfl
def rX8_isSpark_4 := W_getI (M := mX8_isSpark) dX8_isSpark_4 (q := 7) rfl fl8_56 (Or.inl rfl)
def rX8_isSpark_7 := W_icmp_ge (M := mX8_isSpark) dX8_isSpark_7 (q := 10) rfl (t := 38) rfl
def rX8_isSpark_10 := W_aload0 (M := mX8_isSpark) dX8_isSpark_10 (q := 11) rfl
def rX8_isSpark_10b := W_aloadR0 (M := mX8_isSpark) dX8_isSpark_10 (q := 11) rfl
def rX8_isSpark_11 := W_getA (M := mX8_isSpark) dX8_isSpark_11 (q := 14) rfl fl8_28 ⟨_, rfl⟩
def rX8_isSpark_14 := W_iload3 (M := mX8_isSpark) dX8_isSpark_14 (q := 15) rfl
def rX8_isSpark_15 := W_iald (M := mX8_isSpark) dX8_isSpark_15 (q := 16) rfl
def rX8_isSpark_16 := W_iload1 (M := mX8_isSpark) dX8_isSpark_16 (q := 17) rfl
def rX8_isSpark_17 := W_icmp_ne (M := mX8_isSpark) dX8_isSpark_17 (q := 20) rfl (t := 32) rfl
def rX8_isSpark_20 := W_aload0 (M := mX8_isSpark) dX8_isSpark_20 (q := 21) rfl
def rX8_isSpark_20b := W_aloadR0 (M := mX8_isSpark) dX8_isSpark_20 (q := 21) rfl
def rX8_isSpark_21 := W_getA (M := mX8_isSpark) dX8_isSpark_21 (q := 24) rfl fl8_31 ⟨_, rfl⟩
def rX8_isSpark_24 := W_iload3 (M := mX8_isSpark) dX8_isSpark_24 (q := 25) rfl
def rX8_isSpark_25 := W_iald (M := mX8_isSpark) dX8_isSpark_25 (q := 26) rfl
def rX8_isSpark_26 := W_iload2 (M := mX8_isSpark) dX8_isSpark_26 (q := 27) rfl
def rX8_isSpark_27 := W_icmp_ne (M := mX8_isSpark) dX8_isSpark_27 (q := 30) rfl (t := 32) rfl
def rX8_isSpark_30 := W_iconst (M := mX8_isSpark) dX8_isSpark_30 (q := 31) rfl (v := (1)) rfl
def rX8_isSpark_31 := W_zret (M := mX8_isSpark) dX8_isSpark_31 rfl
def rX8_isSpark_32 := W_iinc3 (M := mX8_isSpark) dX8_isSpark_32 (q := 35) rfl (v := (1)) rfl
def rX8_isSpark_35 := W_goto (M := mX8_isSpark) dX8_isSpark_35 (t := 2) rfl
def rX8_isSpark_38 := W_iconst (M := mX8_isSpark) dX8_isSpark_38 (q := 39) rfl (v := (0)) rfl
def rX8_isSpark_39 := W_zret (M := mX8_isSpark) dX8_isSpark_39 rfl
-- X8_isUnknown
theorem eX8_isUnknown {d : Nat} {h : qH} {Q : Option (Option Value) → qH → Prop} {s0 : Nat} {x1 : Int32} : WM d mX8_isUnknown [.ref s0, .int x1] h Q = WP d mX8_isUnknown (0, 0) 0 [some (.ref s0), some (.int x1), none] [] h Q := rfl
def rX8_isUnknown_0 := W_iconst (M := mX8_isUnknown) dX8_isUnknown_0 (q := 1) rfl (v := (0)) rfl
def rX8_isUnknown_1 := W_istore2 (M := mX8_isUnknown) dX8_isUnknown_1 (q := 2) rfl
def rX8_isUnknown_2 := W_iload2 (M := mX8_isUnknown) dX8_isUnknown_2 (q := 3) rfl
def rX8_isUnknown_3 := W_aload0 (M := mX8_isUnknown) dX8_isUnknown_3 (q := 4) rfl
def rX8_isUnknown_3b := W_aloadR0 (M := mX8_isUnknown) dX8_isUnknown_3 (q := 4) rfl
def rX8_isUnknown_4 := W_getI (M := mX8_isUnknown) dX8_isUnknown_4 (q := 7) rfl fl8_59 (Or.inl rfl)
def rX8_isUnknown_7 := W_icmp_ge (M := mX8_isUnknown) dX8_isUnknown_7 (q := 10) rfl (t := 28) rfl
def rX8_isUnknown_10 := W_aload0 (M := mX8_isUnknown) dX8_isUnknown_10 (q := 11) rfl
def rX8_isUnknown_10b := W_aloadR0 (M := mX8_isUnknown) dX8_isUnknown_10 (q := 11) rfl
def rX8_isUnknown_11 := W_getA (M := mX8_isUnknown) dX8_isUnknown_11 (q := 14) rfl fl8_40 ⟨_, rfl⟩
def rX8_isUnknown_14 := W_iload2 (M := mX8_isUnknown) dX8_isUnknown_14 (q := 15) rfl
def rX8_isUnknown_15 := W_iald (M := mX8_isUnknown) dX8_isUnknown_15 (q := 16) rfl
def rX8_isUnknown_16 := W_iload1 (M := mX8_isUnknown) dX8_isUnknown_16 (q := 17) rfl
def rX8_isUnknown_17 := W_icmp_ne (M := mX8_isUnknown) dX8_isUnknown_17 (q := 20) rfl (t := 22) rfl
def rX8_isUnknown_20 := W_iconst (M := mX8_isUnknown) dX8_isUnknown_20 (q := 21) rfl (v := (1)) rfl
def rX8_isUnknown_21 := W_zret (M := mX8_isUnknown) dX8_isUnknown_21 rfl
def rX8_isUnknown_22 := W_iinc2 (M := mX8_isUnknown) dX8_isUnknown_22 (q := 25) rfl (v := (1)) rfl
def rX8_isUnknown_25 := W_goto (M := mX8_isUnknown) dX8_isUnknown_25 (t := 2) rfl
def rX8_isUnknown_28 := W_iconst (M := mX8_isUnknown) dX8_isUnknown_28 (q := 29) rfl (v := (0)) rfl
def rX8_isUnknown_29 := W_zret (M := mX8_isUnknown) dX8_isUnknown_29 rfl
-- X8_takes
theorem eX8_takes {d : Nat} {h : qH} {Q : Option (Option Value) → qH → Prop} {s0 : Nat} {x1 : Int32} : WM d mX8_takes [.ref s0, .int x1] h Q = WP d mX8_takes (0, 0) 0 [some (.ref s0), some (.int x1), none] [] h Q := rfl
def rX8_takes_0 := W_aload0 (M := mX8_takes) dX8_takes_0 (q := 1) rfl
def rX8_takes_0b := W_aloadR0 (M := mX8_takes) dX8_takes_0 (q := 1) rfl
def rX8_takes_1 := W_getA (M := mX8_takes) dX8_takes_1 (q := 4) rfl fl8_15 ⟨_, rfl⟩
def rX8_takes_4 := W_aload0 (M := mX8_takes) dX8_takes_4 (q := 5) rfl
def rX8_takes_4b := W_aloadR0 (M := mX8_takes) dX8_takes_4 (q := 5) rfl
def rX8_takes_5 := W_getA (M := mX8_takes) dX8_takes_5 (q := 8) rfl fl8_31 ⟨_, rfl⟩
def rX8_takes_8 := W_iload1 (M := mX8_takes) dX8_takes_8 (q := 9) rfl
def rX8_takes_9 := W_iald (M := mX8_takes) dX8_takes_9 (q := 10) rfl
def rX8_takes_10 := W_iald (M := mX8_takes) dX8_takes_10 (q := 11) rfl
def rX8_takes_11 := W_istore2 (M := mX8_takes) dX8_takes_11 (q := 12) rfl
def rX8_takes_12 := W_iload2 (M := mX8_takes) dX8_takes_12 (q := 13) rfl
def rX8_takes_13 := W_iconst (M := mX8_takes) dX8_takes_13 (q := 14) rfl (v := (3)) rfl
def rX8_takes_14 := W_icmp_ne (M := mX8_takes) dX8_takes_14 (q := 17) rfl (t := 21) rfl
def rX8_takes_17 := W_sipush (M := mX8_takes) dX8_takes_17 (q := 20) rfl (v := (9999)) rfl
def rX8_takes_20 := W_iret (M := mX8_takes) dX8_takes_20 rfl
def rX8_takes_21 := W_iload2 (M := mX8_takes) dX8_takes_21 (q := 22) rfl
def rX8_takes_22 := W_if_ne (M := mX8_takes) dX8_takes_22 (q := 25) rfl (t := 36) rfl
def rX8_takes_25 := W_aload0 (M := mX8_takes) dX8_takes_25 (q := 26) rfl
def rX8_takes_25b := W_aloadR0 (M := mX8_takes) dX8_takes_25 (q := 26) rfl
def rX8_takes_26 := W_getA (M := mX8_takes) dX8_takes_26 (q := 29) rfl fl8_34 ⟨_, rfl⟩
def rX8_takes_29 := W_iload1 (M := mX8_takes) dX8_takes_29 (q := 30) rfl
def rX8_takes_30 := W_iald (M := mX8_takes) dX8_takes_30 (q := 31) rfl
def rX8_takes_31 := W_iconst (M := mX8_takes) dX8_takes_31 (q := 32) rfl (v := (1)) rfl
def rX8_takes_32 := W_iadd (M := mX8_takes) dX8_takes_32 (q := 33) rfl
def rX8_takes_33 := W_goto (M := mX8_takes) dX8_takes_33 (t := 67) rfl
def rX8_takes_36 := W_iload2 (M := mX8_takes) dX8_takes_36 (q := 37) rfl
def rX8_takes_37 := W_iconst (M := mX8_takes) dX8_takes_37 (q := 38) rfl (v := (1)) rfl
def rX8_takes_38 := W_icmp_ne (M := mX8_takes) dX8_takes_38 (q := 41) rfl (t := 61) rfl
def rX8_takes_41 := W_aload0 (M := mX8_takes) dX8_takes_41 (q := 42) rfl
def rX8_takes_41b := W_aloadR0 (M := mX8_takes) dX8_takes_41 (q := 42) rfl
def rX8_takes_42 := W_getA (M := mX8_takes) dX8_takes_42 (q := 45) rfl fl8_34 ⟨_, rfl⟩
def rX8_takes_45 := W_iload1 (M := mX8_takes) dX8_takes_45 (q := 46) rfl
def rX8_takes_46 := W_iald (M := mX8_takes) dX8_takes_46 (q := 47) rfl
def rX8_takes_47 := W_if_le (M := mX8_takes) dX8_takes_47 (q := 50) rfl (t := 61) rfl
def rX8_takes_50 := W_aload0 (M := mX8_takes) dX8_takes_50 (q := 51) rfl
def rX8_takes_50b := W_aloadR0 (M := mX8_takes) dX8_takes_50 (q := 51) rfl
def rX8_takes_51 := W_getA (M := mX8_takes) dX8_takes_51 (q := 54) rfl fl8_34 ⟨_, rfl⟩
def rX8_takes_54 := W_iload1 (M := mX8_takes) dX8_takes_54 (q := 55) rfl
def rX8_takes_55 := W_iald (M := mX8_takes) dX8_takes_55 (q := 56) rfl
def rX8_takes_56 := W_iconst (M := mX8_takes) dX8_takes_56 (q := 57) rfl (v := (1)) rfl
def rX8_takes_57 := W_isub (M := mX8_takes) dX8_takes_57 (q := 58) rfl
def rX8_takes_58 := W_goto (M := mX8_takes) dX8_takes_58 (t := 67) rfl
def rX8_takes_61 := W_aload0 (M := mX8_takes) dX8_takes_61 (q := 62) rfl
def rX8_takes_61b := W_aloadR0 (M := mX8_takes) dX8_takes_61 (q := 62) rfl
def rX8_takes_62 := W_getA (M := mX8_takes) dX8_takes_62 (q := 65) rfl fl8_34 ⟨_, rfl⟩
def rX8_takes_65 := W_iload1 (M := mX8_takes) dX8_takes_65 (q := 66) rfl
def rX8_takes_66 := W_iald (M := mX8_takes) dX8_takes_66 (q := 67) rfl
def rX8_takes_67 := W_iret (M := mX8_takes) dX8_takes_67 rfl
-- X9_agreeing
theorem eX9_agreeing {d : Nat} {h : qH} {Q : Option (Option Value) → qH → Prop} {s0 : Nat} {x1 : Int32} : WM d mX9_agreeing [.ref s0, .int x1] h Q = WP d mX9_agreeing (0, 0) 0 [some (.ref s0), some (.int x1), none, none] [] h Q := rfl
def rX9_agreeing_0 := W_iconst (M := mX9_agreeing) dX9_agreeing_0 (q := 1) rfl (v := (0)) rfl
def rX9_agreeing_1 := W_istore2 (M := mX9_agreeing) dX9_agreeing_1 (q := 2) rfl
def rX9_agreeing_2 := W_aload0 (M := mX9_agreeing) dX9_agreeing_2 (q := 3) rfl
def rX9_agreeing_2b := W_aloadR0 (M := mX9_agreeing) dX9_agreeing_2 (q := 3) rfl
def rX9_agreeing_3 := W_invV0 (M := mX9_agreeing) dX9_agreeing_3 (q := 6) rfl ml0_9_361 rfl
def rX9_agreeing_6 := W_iconst (M := mX9_agreeing) dX9_agreeing_6 (q := 7) rfl (v := (0)) rfl
def rX9_agreeing_7 := W_istore3 (M := mX9_agreeing) dX9_agreeing_7 (q := 8) rfl
def rX9_agreeing_8 := W_iload3 (M := mX9_agreeing) dX9_agreeing_8 (q := 9) rfl
def rX9_agreeing_9 := W_aload0 (M := mX9_agreeing) dX9_agreeing_9 (q := 10) rfl
def rX9_agreeing_9b := W_aloadR0 (M := mX9_agreeing) dX9_agreeing_9 (q := 10) rfl
def rX9_agreeing_10 := W_getR (M := mX9_agreeing) dX9_agreeing_10 (q := 13) rfl fl9_316 ⟨_, rfl⟩
def rX9_agreeing_13 := W_getI (M := mX9_agreeing) dX9_agreeing_13 (q := 16) rfl fl9_187 (Or.inl rfl)
def rX9_agreeing_16 := W_icmp_ge (M := mX9_agreeing) dX9_agreeing_16 (q := 19) rfl (t := 54) rfl
def rX9_agreeing_19 := W_aload0 (M := mX9_agreeing) dX9_agreeing_19 (q := 20) rfl
def rX9_agreeing_19b := W_aloadR0 (M := mX9_agreeing) dX9_agreeing_19 (q := 20) rfl
def rX9_agreeing_20 := W_iload3 (M := mX9_agreeing) dX9_agreeing_20 (q := 21) rfl
def rX9_agreeing_21 := W_iload1 (M := mX9_agreeing) dX9_agreeing_21 (q := 22) rfl
def rX9_agreeing_22 := W_invV2 (M := mX9_agreeing) dX9_agreeing_22 (q := 25) rfl ml0_9_364 rfl
def rX9_agreeing_25 := W_iload2 (M := mX9_agreeing) dX9_agreeing_25 (q := 26) rfl
def rX9_agreeing_26 := W_aload0 (M := mX9_agreeing) dX9_agreeing_26 (q := 27) rfl
def rX9_agreeing_26b := W_aloadR0 (M := mX9_agreeing) dX9_agreeing_26 (q := 27) rfl
def rX9_agreeing_27 := W_iload1 (M := mX9_agreeing) dX9_agreeing_27 (q := 28) rfl
def rX9_agreeing_28 := W_invV1 (M := mX9_agreeing) dX9_agreeing_28 (q := 31) rfl ml0_9_358 rfl
def rX9_agreeing_31 := W_iload3 (M := mX9_agreeing) dX9_agreeing_31 (q := 32) rfl
def rX9_agreeing_32 := W_icmp_ne (M := mX9_agreeing) dX9_agreeing_32 (q := 35) rfl (t := 41) rfl
def rX9_agreeing_35 := W_iconst (M := mX9_agreeing) dX9_agreeing_35 (q := 36) rfl (v := (1)) rfl
def rX9_agreeing_36 := W_iload3 (M := mX9_agreeing) dX9_agreeing_36 (q := 37) rfl
def rX9_agreeing_37 := W_ishl (M := mX9_agreeing) dX9_agreeing_37 (q := 38) rfl
def rX9_agreeing_38 := W_goto (M := mX9_agreeing) dX9_agreeing_38 (t := 42) rfl
def rX9_agreeing_41 := W_iconst (M := mX9_agreeing) dX9_agreeing_41 (q := 42) rfl (v := (0)) rfl
def rX9_agreeing_42 := W_ior (M := mX9_agreeing) dX9_agreeing_42 (q := 43) rfl
def rX9_agreeing_43 := W_istore2 (M := mX9_agreeing) dX9_agreeing_43 (q := 44) rfl
def rX9_agreeing_44 := W_aload0 (M := mX9_agreeing) dX9_agreeing_44 (q := 45) rfl
def rX9_agreeing_44b := W_aloadR0 (M := mX9_agreeing) dX9_agreeing_44 (q := 45) rfl
def rX9_agreeing_45 := W_invV0 (M := mX9_agreeing) dX9_agreeing_45 (q := 48) rfl ml0_9_367 rfl
def rX9_agreeing_48 := W_iinc3 (M := mX9_agreeing) dX9_agreeing_48 (q := 51) rfl (v := (1)) rfl
def rX9_agreeing_51 := W_goto (M := mX9_agreeing) dX9_agreeing_51 (t := 8) rfl
def rX9_agreeing_54 := W_iload2 (M := mX9_agreeing) dX9_agreeing_54 (q := 55) rfl
def rX9_agreeing_55 := W_iret (M := mX9_agreeing) dX9_agreeing_55 rfl
-- X9_agrees
theorem eX9_agrees {d : Nat} {h : qH} {Q : Option (Option Value) → qH → Prop} {s0 : Nat} {x1 : Int32} : WM d mX9_agrees [.ref s0, .int x1] h Q = WP d mX9_agrees (0, 0) 0 [some (.ref s0), some (.int x1), none] [] h Q := rfl
def rX9_agrees_0 := W_aload0 (M := mX9_agrees) dX9_agrees_0 (q := 1) rfl
def rX9_agrees_0b := W_aloadR0 (M := mX9_agrees) dX9_agrees_0 (q := 1) rfl
def rX9_agrees_1 := W_iconst (M := mX9_agrees) dX9_agrees_1 (q := 2) rfl (v := (0)) rfl
def rX9_agrees_2 := W_putI (M := mX9_agrees) dX9_agrees_2 (q := 5) rfl fl9_52 rfl (Or.inl rfl)
def rX9_agrees_5 := W_aload0 (M := mX9_agrees) dX9_agrees_5 (q := 6) rfl
def rX9_agrees_5b := W_aloadR0 (M := mX9_agrees) dX9_agrees_5 (q := 6) rfl
def rX9_agrees_6 := W_aload0 (M := mX9_agrees) dX9_agrees_6 (q := 7) rfl
def rX9_agrees_6b := W_aloadR0 (M := mX9_agrees) dX9_agrees_6 (q := 7) rfl
def rX9_agrees_7 := W_getR (M := mX9_agrees) dX9_agrees_7 (q := 10) rfl fl9_316 ⟨_, rfl⟩
def rX9_agrees_10 := W_ifnull (M := mX9_agrees) dX9_agrees_10 (q := 13) rfl (t := 17) rfl
def rX9_agrees_10b := W_ifnullN (M := mX9_agrees) dX9_agrees_10 (q := 13) rfl (t := 17) rfl
def rX9_agrees_13 := W_iconst (M := mX9_agrees) dX9_agrees_13 (q := 14) rfl (v := (1)) rfl
def rX9_agrees_14 := W_goto (M := mX9_agrees) dX9_agrees_14 (t := 18) rfl
def rX9_agrees_17 := W_iconst (M := mX9_agrees) dX9_agrees_17 (q := 18) rfl (v := (0)) rfl
def rX9_agrees_18 := W_iload1 (M := mX9_agrees) dX9_agrees_18 (q := 19) rfl
def rX9_agrees_19 := W_aload0 (M := mX9_agrees) dX9_agrees_19 (q := 20) rfl
def rX9_agrees_19b := W_aloadR0 (M := mX9_agrees) dX9_agrees_19 (q := 20) rfl
def rX9_agrees_20 := W_getR (M := mX9_agrees) dX9_agrees_20 (q := 23) rfl fl9_316 ⟨_, rfl⟩
def rX9_agrees_23 := W_ifnonnull (M := mX9_agrees) dX9_agrees_23 (q := 26) rfl (t := 30) rfl
def rX9_agrees_23b := W_ifnonnullN (M := mX9_agrees) dX9_agrees_23 (q := 26) rfl (t := 30) rfl
def rX9_agrees_26 := W_iconst (M := mX9_agrees) dX9_agrees_26 (q := 27) rfl (v := (0)) rfl
def rX9_agrees_27 := W_goto (M := mX9_agrees) dX9_agrees_27 (t := 37) rfl
def rX9_agrees_30 := W_aload0 (M := mX9_agrees) dX9_agrees_30 (q := 31) rfl
def rX9_agrees_30b := W_aloadR0 (M := mX9_agrees) dX9_agrees_30 (q := 31) rfl
def rX9_agrees_31 := W_getA (M := mX9_agrees) dX9_agrees_31 (q := 34) rfl fl9_17 ⟨_, rfl⟩
def rX9_agrees_34 := W_bipush (M := mX9_agrees) dX9_agrees_34 (q := 36) rfl (v := (9)) rfl
def rX9_agrees_36 := W_iald (M := mX9_agrees) dX9_agrees_36 (q := 37) rfl
def rX9_agrees_37 := W_invV3 (M := mX9_agrees) dX9_agrees_37 (q := 40) rfl ml0_9_354 rfl
def rX9_agrees_40 := W_istore2 (M := mX9_agrees) dX9_agrees_40 (q := 41) rfl
def rX9_agrees_41 := W_iload2 (M := mX9_agrees) dX9_agrees_41 (q := 42) rfl
def rX9_agrees_42 := W_if_le (M := mX9_agrees) dX9_agrees_42 (q := 45) rfl (t := 51) rfl
def rX9_agrees_45 := W_aload0 (M := mX9_agrees) dX9_agrees_45 (q := 46) rfl
def rX9_agrees_45b := W_aloadR0 (M := mX9_agrees) dX9_agrees_45 (q := 46) rfl
def rX9_agrees_46 := W_iload2 (M := mX9_agrees) dX9_agrees_46 (q := 47) rfl
def rX9_agrees_47 := W_invV1 (M := mX9_agrees) dX9_agrees_47 (q := 50) rfl ml0_9_58 rfl
def rX9_agrees_50 := W_iret (M := mX9_agrees) dX9_agrees_50 rfl
def rX9_agrees_51 := W_aload0 (M := mX9_agrees) dX9_agrees_51 (q := 52) rfl
def rX9_agrees_51b := W_aloadR0 (M := mX9_agrees) dX9_agrees_51 (q := 52) rfl
def rX9_agrees_52 := W_invV0 (M := mX9_agrees) dX9_agrees_52 (q := 55) rfl ml0_9_348 rfl
def rX9_agrees_55 := W_aload0 (M := mX9_agrees) dX9_agrees_55 (q := 56) rfl
def rX9_agrees_55b := W_aloadR0 (M := mX9_agrees) dX9_agrees_55 (q := 56) rfl
def rX9_agrees_56 := W_aload0 (M := mX9_agrees) dX9_agrees_56 (q := 57) rfl
def rX9_agrees_56b := W_aloadR0 (M := mX9_agrees) dX9_agrees_56 (q := 57) rfl
def rX9_agrees_57 := W_iload1 (M := mX9_agrees) dX9_agrees_57 (q := 58) rfl
def rX9_agrees_58 := W_invV1 (M := mX9_agrees) dX9_agrees_58 (q := 61) rfl ml0_9_370 rfl
def rX9_agrees_61 := W_invV1 (M := mX9_agrees) dX9_agrees_61 (q := 64) rfl ml0_9_62 rfl
def rX9_agrees_64 := W_iret (M := mX9_agrees) dX9_agrees_64 rfl
-- X9_asTold
theorem eX9_asTold {d : Nat} {h : qH} {Q : Option (Option Value) → qH → Prop} {s0 : Nat} : WM d mX9_asTold [.ref s0] h Q = WP d mX9_asTold (0, 0) 0 [some (.ref s0), none] [] h Q := rfl
def rX9_asTold_0 := W_iconst (M := mX9_asTold) dX9_asTold_0 (q := 1) rfl (v := (0)) rfl
def rX9_asTold_1 := W_istore1 (M := mX9_asTold) dX9_asTold_1 (q := 2) rfl
def rX9_asTold_2 := W_iload1 (M := mX9_asTold) dX9_asTold_2 (q := 3) rfl
def rX9_asTold_3 := W_bipush (M := mX9_asTold) dX9_asTold_3 (q := 5) rfl (v := (10)) rfl
def rX9_asTold_5 := W_icmp_ge (M := mX9_asTold) dX9_asTold_5 (q := 8) rfl (t := 21) rfl
def rX9_asTold_8 := W_aload0 (M := mX9_asTold) dX9_asTold_8 (q := 9) rfl
def rX9_asTold_8b := W_aloadR0 (M := mX9_asTold) dX9_asTold_8 (q := 9) rfl
def rX9_asTold_9 := W_getA (M := mX9_asTold) dX9_asTold_9 (q := 12) rfl fl9_21 ⟨_, rfl⟩
def rX9_asTold_12 := W_iload1 (M := mX9_asTold) dX9_asTold_12 (q := 13) rfl
def rX9_asTold_13 := W_iconst (M := mX9_asTold) dX9_asTold_13 (q := 14) rfl (v := (0)) rfl
def rX9_asTold_14 := W_iast (M := mX9_asTold) dX9_asTold_14 (q := 15) rfl
def rX9_asTold_15 := W_iinc1 (M := mX9_asTold) dX9_asTold_15 (q := 18) rfl (v := (1)) rfl
def rX9_asTold_18 := W_goto (M := mX9_asTold) dX9_asTold_18 (t := 2) rfl
def rX9_asTold_21 := W_iconst (M := mX9_asTold) dX9_asTold_21 (q := 22) rfl (v := (0)) rfl
def rX9_asTold_22 := W_istore1 (M := mX9_asTold) dX9_asTold_22 (q := 23) rfl
def rX9_asTold_23 := W_iload1 (M := mX9_asTold) dX9_asTold_23 (q := 24) rfl
def rX9_asTold_24 := W_aload0 (M := mX9_asTold) dX9_asTold_24 (q := 25) rfl
def rX9_asTold_24b := W_aloadR0 (M := mX9_asTold) dX9_asTold_24 (q := 25) rfl
def rX9_asTold_25 := W_getR (M := mX9_asTold) dX9_asTold_25 (q := 28) rfl fl9_316 ⟨_, rfl⟩
def rX9_asTold_28 := W_getI (M := mX9_asTold) dX9_asTold_28 (q := 31) rfl fl9_187 (Or.inl rfl)
def rX9_asTold_31 := W_icmp_ge (M := mX9_asTold) dX9_asTold_31 (q := 34) rfl (t := 55) rfl
def rX9_asTold_34 := W_aload0 (M := mX9_asTold) dX9_asTold_34 (q := 35) rfl
def rX9_asTold_34b := W_aloadR0 (M := mX9_asTold) dX9_asTold_34 (q := 35) rfl
def rX9_asTold_35 := W_getA (M := mX9_asTold) dX9_asTold_35 (q := 38) rfl fl9_21 ⟨_, rfl⟩
def rX9_asTold_38 := W_iload1 (M := mX9_asTold) dX9_asTold_38 (q := 39) rfl
def rX9_asTold_39 := W_aload0 (M := mX9_asTold) dX9_asTold_39 (q := 40) rfl
def rX9_asTold_39b := W_aloadR0 (M := mX9_asTold) dX9_asTold_39 (q := 40) rfl
def rX9_asTold_40 := W_getR (M := mX9_asTold) dX9_asTold_40 (q := 43) rfl fl9_316 ⟨_, rfl⟩
def rX9_asTold_43 := W_getA (M := mX9_asTold) dX9_asTold_43 (q := 46) rfl fl9_243 ⟨_, rfl⟩
def rX9_asTold_46 := W_iload1 (M := mX9_asTold) dX9_asTold_46 (q := 47) rfl
def rX9_asTold_47 := W_iald (M := mX9_asTold) dX9_asTold_47 (q := 48) rfl
def rX9_asTold_48 := W_iast (M := mX9_asTold) dX9_asTold_48 (q := 49) rfl
def rX9_asTold_49 := W_iinc1 (M := mX9_asTold) dX9_asTold_49 (q := 52) rfl (v := (1)) rfl
def rX9_asTold_52 := W_goto (M := mX9_asTold) dX9_asTold_52 (t := 23) rfl
def rX9_asTold_55 := W_aload0 (M := mX9_asTold) dX9_asTold_55 (q := 56) rfl
def rX9_asTold_55b := W_aloadR0 (M := mX9_asTold) dX9_asTold_55 (q := 56) rfl
def rX9_asTold_56 := W_getA (M := mX9_asTold) dX9_asTold_56 (q := 59) rfl fl9_21 ⟨_, rfl⟩
def rX9_asTold_59 := W_bipush (M := mX9_asTold) dX9_asTold_59 (q := 61) rfl (v := (8)) rfl
def rX9_asTold_61 := W_aload0 (M := mX9_asTold) dX9_asTold_61 (q := 62) rfl
def rX9_asTold_61b := W_aloadR0 (M := mX9_asTold) dX9_asTold_61 (q := 62) rfl
def rX9_asTold_62 := W_getR (M := mX9_asTold) dX9_asTold_62 (q := 65) rfl fl9_316 ⟨_, rfl⟩
def rX9_asTold_65 := W_getI (M := mX9_asTold) dX9_asTold_65 (q := 68) rfl fl9_279 (Or.inl rfl)
def rX9_asTold_68 := W_iast (M := mX9_asTold) dX9_asTold_68 (q := 69) rfl
def rX9_asTold_69 := W_vret (M := mX9_asTold) dX9_asTold_69 rfl
-- X9_back
theorem eX9_back {d : Nat} {h : qH} {Q : Option (Option Value) → qH → Prop} {s0 : Nat} {x1 : Int32} : WM d mX9_back [.ref s0, .int x1] h Q = WP d mX9_back (0, 0) 0 [some (.ref s0), some (.int x1), none] [] h Q := rfl
def rX9_back_0 := W_aload0 (M := mX9_back) dX9_back_0 (q := 1) rfl
def rX9_back_0b := W_aloadR0 (M := mX9_back) dX9_back_0 (q := 1) rfl
def rX9_back_1 := W_iconst (M := mX9_back) dX9_back_1 (q := 2) rfl (v := (0)) rfl
def rX9_back_2 := W_putI (M := mX9_back) dX9_back_2 (q := 5) rfl fl9_52 rfl (Or.inl rfl)
def rX9_back_5 := W_aload0 (M := mX9_back) dX9_back_5 (q := 6) rfl
def rX9_back_5b := W_aloadR0 (M := mX9_back) dX9_back_5 (q := 6) rfl
def rX9_back_6 := W_getR (M := mX9_back) dX9_back_6 (q := 9) rfl fl9_316 ⟨_, rfl⟩
def rX9_back_9 := W_ifnull (M := mX9_back) dX9_back_9 (q := 12) rfl (t := 24) rfl
def rX9_back_9b := W_ifnullN (M := mX9_back) dX9_back_9 (q := 12) rfl (t := 24) rfl
def rX9_back_12 := W_iload1 (M := mX9_back) dX9_back_12 (q := 13) rfl
def rX9_back_13 := W_if_lt (M := mX9_back) dX9_back_13 (q := 16) rfl (t := 24) rfl
def rX9_back_16 := W_iload1 (M := mX9_back) dX9_back_16 (q := 17) rfl
def rX9_back_17 := W_aload0 (M := mX9_back) dX9_back_17 (q := 18) rfl
def rX9_back_17b := W_aloadR0 (M := mX9_back) dX9_back_17 (q := 18) rfl
def rX9_back_18 := W_getI (M := mX9_back) dX9_back_18 (q := 21) rfl fl9_324 (Or.inl rfl)
def rX9_back_21 := W_icmp_lt (M := mX9_back) dX9_back_21 (q := 24) rfl (t := 30) rfl
def rX9_back_24 := W_aload0 (M := mX9_back) dX9_back_24 (q := 25) rfl
def rX9_back_24b := W_aloadR0 (M := mX9_back) dX9_back_24 (q := 25) rfl
def rX9_back_25 := W_iconst (M := mX9_back) dX9_back_25 (q := 26) rfl (v := (1)) rfl
def rX9_back_26 := W_invV1 (M := mX9_back) dX9_back_26 (q := 29) rfl ml0_9_465 rfl
def rX9_back_29 := W_zret (M := mX9_back) dX9_back_29 rfl
def rX9_back_30 := W_iconst (M := mX9_back) dX9_back_30 (q := 31) rfl (v := (0)) rfl
def rX9_back_31 := W_istore2 (M := mX9_back) dX9_back_31 (q := 32) rfl
def rX9_back_32 := W_iload2 (M := mX9_back) dX9_back_32 (q := 33) rfl
def rX9_back_33 := W_bipush (M := mX9_back) dX9_back_33 (q := 35) rfl (v := (10)) rfl
def rX9_back_35 := W_icmp_ge (M := mX9_back) dX9_back_35 (q := 38) rfl (t := 61) rfl
def rX9_back_38 := W_aload0 (M := mX9_back) dX9_back_38 (q := 39) rfl
def rX9_back_38b := W_aloadR0 (M := mX9_back) dX9_back_38 (q := 39) rfl
def rX9_back_39 := W_getA (M := mX9_back) dX9_back_39 (q := 42) rfl fl9_17 ⟨_, rfl⟩
def rX9_back_42 := W_iload2 (M := mX9_back) dX9_back_42 (q := 43) rfl
def rX9_back_43 := W_aload0 (M := mX9_back) dX9_back_43 (q := 44) rfl
def rX9_back_43b := W_aloadR0 (M := mX9_back) dX9_back_43 (q := 44) rfl
def rX9_back_44 := W_getA (M := mX9_back) dX9_back_44 (q := 47) rfl fl9_27 ⟨_, rfl⟩
def rX9_back_47 := W_bipush (M := mX9_back) dX9_back_47 (q := 49) rfl (v := (10)) rfl
def rX9_back_49 := W_iload1 (M := mX9_back) dX9_back_49 (q := 50) rfl
def rX9_back_50 := W_imul (M := mX9_back) dX9_back_50 (q := 51) rfl
def rX9_back_51 := W_iload2 (M := mX9_back) dX9_back_51 (q := 52) rfl
def rX9_back_52 := W_iadd (M := mX9_back) dX9_back_52 (q := 53) rfl
def rX9_back_53 := W_iald (M := mX9_back) dX9_back_53 (q := 54) rfl
def rX9_back_54 := W_iast (M := mX9_back) dX9_back_54 (q := 55) rfl
def rX9_back_55 := W_iinc2 (M := mX9_back) dX9_back_55 (q := 58) rfl (v := (1)) rfl
def rX9_back_58 := W_goto (M := mX9_back) dX9_back_58 (t := 32) rfl
def rX9_back_61 := W_aload0 (M := mX9_back) dX9_back_61 (q := 62) rfl
def rX9_back_61b := W_aloadR0 (M := mX9_back) dX9_back_61 (q := 62) rfl
def rX9_back_62 := W_iconst (M := mX9_back) dX9_back_62 (q := 63) rfl (v := (0)) rfl
def rX9_back_63 := W_putI (M := mX9_back) dX9_back_63 (q := 66) rfl fl9_321 rfl (Or.inl rfl)
def rX9_back_66 := W_aload0 (M := mX9_back) dX9_back_66 (q := 67) rfl
def rX9_back_66b := W_aloadR0 (M := mX9_back) dX9_back_66 (q := 67) rfl
def rX9_back_67 := W_invV0 (M := mX9_back) dX9_back_67 (q := 70) rfl ml0_9_468 rfl
def rX9_back_70 := W_zret (M := mX9_back) dX9_back_70 rfl
-- X9_bestCut
theorem eX9_bestCut {d : Nat} {h : qH} {Q : Option (Option Value) → qH → Prop} {s0 : Nat} : WM d mX9_bestCut [.ref s0] h Q = WP d mX9_bestCut (0, 0) 0 [some (.ref s0), none, none, none] [] h Q := rfl
def rX9_bestCut_0 := W_aload0 (M := mX9_bestCut) dX9_bestCut_0 (q := 1) rfl
def rX9_bestCut_0b := W_aloadR0 (M := mX9_bestCut) dX9_bestCut_0 (q := 1) rfl
def rX9_bestCut_1 := W_iconst (M := mX9_bestCut) dX9_bestCut_1 (q := 2) rfl (v := (0)) rfl
def rX9_bestCut_2 := W_putI (M := mX9_bestCut) dX9_bestCut_2 (q := 5) rfl fl9_52 rfl (Or.inl rfl)
def rX9_bestCut_5 := W_aload0 (M := mX9_bestCut) dX9_bestCut_5 (q := 6) rfl
def rX9_bestCut_5b := W_aloadR0 (M := mX9_bestCut) dX9_bestCut_5 (q := 6) rfl
def rX9_bestCut_6 := W_getR (M := mX9_bestCut) dX9_bestCut_6 (q := 9) rfl fl9_316 ⟨_, rfl⟩
def rX9_bestCut_9 := W_ifnonnull (M := mX9_bestCut) dX9_bestCut_9 (q := 12) rfl (t := 18) rfl
def rX9_bestCut_9b := W_ifnonnullN (M := mX9_bestCut) dX9_bestCut_9 (q := 12) rfl (t := 18) rfl
def rX9_bestCut_12 := W_aload0 (M := mX9_bestCut) dX9_bestCut_12 (q := 13) rfl
def rX9_bestCut_12b := W_aloadR0 (M := mX9_bestCut) dX9_bestCut_12 (q := 13) rfl
def rX9_bestCut_13 := W_iconst (M := mX9_bestCut) dX9_bestCut_13 (q := 14) rfl (v := (1)) rfl
def rX9_bestCut_14 := W_invV1 (M := mX9_bestCut) dX9_bestCut_14 (q := 17) rfl ml0_9_58 rfl
def rX9_bestCut_17 := W_iret (M := mX9_bestCut) dX9_bestCut_17 rfl
def rX9_bestCut_18 := W_aload0 (M := mX9_bestCut) dX9_bestCut_18 (q := 19) rfl
def rX9_bestCut_18b := W_aloadR0 (M := mX9_bestCut) dX9_bestCut_18 (q := 19) rfl
def rX9_bestCut_19 := W_invV0 (M := mX9_bestCut) dX9_bestCut_19 (q := 22) rfl ml0_9_348 rfl
def rX9_bestCut_22 := W_aload0 (M := mX9_bestCut) dX9_bestCut_22 (q := 23) rfl
def rX9_bestCut_22b := W_aloadR0 (M := mX9_bestCut) dX9_bestCut_22 (q := 23) rfl
def rX9_bestCut_23 := W_invV0 (M := mX9_bestCut) dX9_bestCut_23 (q := 26) rfl ml0_9_376 rfl
def rX9_bestCut_26 := W_istore1 (M := mX9_bestCut) dX9_bestCut_26 (q := 27) rfl
def rX9_bestCut_27 := W_bipush (M := mX9_bestCut) dX9_bestCut_27 (q := 29) rfl (v := (-2)) rfl
def rX9_bestCut_29 := W_istore2 (M := mX9_bestCut) dX9_bestCut_29 (q := 30) rfl
def rX9_bestCut_30 := W_iconst (M := mX9_bestCut) dX9_bestCut_30 (q := 31) rfl (v := (0)) rfl
def rX9_bestCut_31 := W_istore3 (M := mX9_bestCut) dX9_bestCut_31 (q := 32) rfl
def rX9_bestCut_32 := W_iload3 (M := mX9_bestCut) dX9_bestCut_32 (q := 33) rfl
def rX9_bestCut_33 := W_aload0 (M := mX9_bestCut) dX9_bestCut_33 (q := 34) rfl
def rX9_bestCut_33b := W_aloadR0 (M := mX9_bestCut) dX9_bestCut_33 (q := 34) rfl
def rX9_bestCut_34 := W_getR (M := mX9_bestCut) dX9_bestCut_34 (q := 37) rfl fl9_316 ⟨_, rfl⟩
def rX9_bestCut_37 := W_getI (M := mX9_bestCut) dX9_bestCut_37 (q := 40) rfl fl9_248 (Or.inl rfl)
def rX9_bestCut_40 := W_icmp_ge (M := mX9_bestCut) dX9_bestCut_40 (q := 43) rfl (t := 73) rfl
def rX9_bestCut_43 := W_aload0 (M := mX9_bestCut) dX9_bestCut_43 (q := 44) rfl
def rX9_bestCut_43b := W_aloadR0 (M := mX9_bestCut) dX9_bestCut_43 (q := 44) rfl
def rX9_bestCut_44 := W_iload3 (M := mX9_bestCut) dX9_bestCut_44 (q := 45) rfl
def rX9_bestCut_45 := W_putI (M := mX9_bestCut) dX9_bestCut_45 (q := 48) rfl fl9_33 rfl (Or.inl rfl)
def rX9_bestCut_48 := W_aload0 (M := mX9_bestCut) dX9_bestCut_48 (q := 49) rfl
def rX9_bestCut_48b := W_aloadR0 (M := mX9_bestCut) dX9_bestCut_48 (q := 49) rfl
def rX9_bestCut_49 := W_invV0 (M := mX9_bestCut) dX9_bestCut_49 (q := 52) rfl ml0_9_348 rfl
def rX9_bestCut_52 := W_aload0 (M := mX9_bestCut) dX9_bestCut_52 (q := 53) rfl
def rX9_bestCut_52b := W_aloadR0 (M := mX9_bestCut) dX9_bestCut_52 (q := 53) rfl
def rX9_bestCut_53 := W_invV0 (M := mX9_bestCut) dX9_bestCut_53 (q := 56) rfl ml0_9_376 rfl
def rX9_bestCut_56 := W_iload1 (M := mX9_bestCut) dX9_bestCut_56 (q := 57) rfl
def rX9_bestCut_57 := W_icmp_ge (M := mX9_bestCut) dX9_bestCut_57 (q := 60) rfl (t := 67) rfl
def rX9_bestCut_60 := W_aload0 (M := mX9_bestCut) dX9_bestCut_60 (q := 61) rfl
def rX9_bestCut_60b := W_aloadR0 (M := mX9_bestCut) dX9_bestCut_60 (q := 61) rfl
def rX9_bestCut_61 := W_invV0 (M := mX9_bestCut) dX9_bestCut_61 (q := 64) rfl ml0_9_376 rfl
def rX9_bestCut_64 := W_istore1 (M := mX9_bestCut) dX9_bestCut_64 (q := 65) rfl
def rX9_bestCut_65 := W_iload3 (M := mX9_bestCut) dX9_bestCut_65 (q := 66) rfl
def rX9_bestCut_66 := W_istore2 (M := mX9_bestCut) dX9_bestCut_66 (q := 67) rfl
def rX9_bestCut_67 := W_iinc3 (M := mX9_bestCut) dX9_bestCut_67 (q := 70) rfl (v := (1)) rfl
def rX9_bestCut_70 := W_goto (M := mX9_bestCut) dX9_bestCut_70 (t := 32) rfl
def rX9_bestCut_73 := W_aload0 (M := mX9_bestCut) dX9_bestCut_73 (q := 74) rfl
def rX9_bestCut_73b := W_aloadR0 (M := mX9_bestCut) dX9_bestCut_73 (q := 74) rfl
def rX9_bestCut_74 := W_iconst (M := mX9_bestCut) dX9_bestCut_74 (q := 75) rfl (v := (-1)) rfl
def rX9_bestCut_75 := W_putI (M := mX9_bestCut) dX9_bestCut_75 (q := 78) rfl fl9_33 rfl (Or.inl rfl)
def rX9_bestCut_78 := W_aload0 (M := mX9_bestCut) dX9_bestCut_78 (q := 79) rfl
def rX9_bestCut_78b := W_aloadR0 (M := mX9_bestCut) dX9_bestCut_78 (q := 79) rfl
def rX9_bestCut_79 := W_iload2 (M := mX9_bestCut) dX9_bestCut_79 (q := 80) rfl
def rX9_bestCut_80 := W_invV1 (M := mX9_bestCut) dX9_bestCut_80 (q := 83) rfl ml0_9_62 rfl
def rX9_bestCut_83 := W_iret (M := mX9_bestCut) dX9_bestCut_83 rfl
-- X9_bestTold
theorem eX9_bestTold {d : Nat} {h : qH} {Q : Option (Option Value) → qH → Prop} {s0 : Nat} : WM d mX9_bestTold [.ref s0] h Q = WP d mX9_bestTold (0, 0) 0 [some (.ref s0), none, none, none] [] h Q := rfl
def rX9_bestTold_0 := W_aload0 (M := mX9_bestTold) dX9_bestTold_0 (q := 1) rfl
def rX9_bestTold_0b := W_aloadR0 (M := mX9_bestTold) dX9_bestTold_0 (q := 1) rfl
def rX9_bestTold_1 := W_iconst (M := mX9_bestTold) dX9_bestTold_1 (q := 2) rfl (v := (0)) rfl
def rX9_bestTold_2 := W_putI (M := mX9_bestTold) dX9_bestTold_2 (q := 5) rfl fl9_52 rfl (Or.inl rfl)
def rX9_bestTold_5 := W_aload0 (M := mX9_bestTold) dX9_bestTold_5 (q := 6) rfl
def rX9_bestTold_5b := W_aloadR0 (M := mX9_bestTold) dX9_bestTold_5 (q := 6) rfl
def rX9_bestTold_6 := W_getR (M := mX9_bestTold) dX9_bestTold_6 (q := 9) rfl fl9_316 ⟨_, rfl⟩
def rX9_bestTold_9 := W_ifnonnull (M := mX9_bestTold) dX9_bestTold_9 (q := 12) rfl (t := 18) rfl
def rX9_bestTold_9b := W_ifnonnullN (M := mX9_bestTold) dX9_bestTold_9 (q := 12) rfl (t := 18) rfl
def rX9_bestTold_12 := W_aload0 (M := mX9_bestTold) dX9_bestTold_12 (q := 13) rfl
def rX9_bestTold_12b := W_aloadR0 (M := mX9_bestTold) dX9_bestTold_12 (q := 13) rfl
def rX9_bestTold_13 := W_iconst (M := mX9_bestTold) dX9_bestTold_13 (q := 14) rfl (v := (1)) rfl
def rX9_bestTold_14 := W_invV1 (M := mX9_bestTold) dX9_bestTold_14 (q := 17) rfl ml0_9_58 rfl
def rX9_bestTold_17 := W_iret (M := mX9_bestTold) dX9_bestTold_17 rfl
def rX9_bestTold_18 := W_aload0 (M := mX9_bestTold) dX9_bestTold_18 (q := 19) rfl
def rX9_bestTold_18b := W_aloadR0 (M := mX9_bestTold) dX9_bestTold_18 (q := 19) rfl
def rX9_bestTold_19 := W_invV0 (M := mX9_bestTold) dX9_bestTold_19 (q := 22) rfl ml0_9_348 rfl
def rX9_bestTold_22 := W_aload0 (M := mX9_bestTold) dX9_bestTold_22 (q := 23) rfl
def rX9_bestTold_22b := W_aloadR0 (M := mX9_bestTold) dX9_bestTold_22 (q := 23) rfl
def rX9_bestTold_23 := W_invV0 (M := mX9_bestTold) dX9_bestTold_23 (q := 26) rfl ml0_9_376 rfl
def rX9_bestTold_26 := W_istore1 (M := mX9_bestTold) dX9_bestTold_26 (q := 27) rfl
def rX9_bestTold_27 := W_bipush (M := mX9_bestTold) dX9_bestTold_27 (q := 29) rfl (v := (-2)) rfl
def rX9_bestTold_29 := W_istore2 (M := mX9_bestTold) dX9_bestTold_29 (q := 30) rfl
def rX9_bestTold_30 := W_iconst (M := mX9_bestTold) dX9_bestTold_30 (q := 31) rfl (v := (0)) rfl
def rX9_bestTold_31 := W_istore3 (M := mX9_bestTold) dX9_bestTold_31 (q := 32) rfl
def rX9_bestTold_32 := W_iload3 (M := mX9_bestTold) dX9_bestTold_32 (q := 33) rfl
def rX9_bestTold_33 := W_aload0 (M := mX9_bestTold) dX9_bestTold_33 (q := 34) rfl
def rX9_bestTold_33b := W_aloadR0 (M := mX9_bestTold) dX9_bestTold_33 (q := 34) rfl
def rX9_bestTold_34 := W_getR (M := mX9_bestTold) dX9_bestTold_34 (q := 37) rfl fl9_316 ⟨_, rfl⟩
def rX9_bestTold_37 := W_getI (M := mX9_bestTold) dX9_bestTold_37 (q := 40) rfl fl9_187 (Or.inl rfl)
def rX9_bestTold_40 := W_icmp_ge (M := mX9_bestTold) dX9_bestTold_40 (q := 43) rfl (t := 83) rfl
def rX9_bestTold_43 := W_aload0 (M := mX9_bestTold) dX9_bestTold_43 (q := 44) rfl
def rX9_bestTold_43b := W_aloadR0 (M := mX9_bestTold) dX9_bestTold_43 (q := 44) rfl
def rX9_bestTold_44 := W_invV0 (M := mX9_bestTold) dX9_bestTold_44 (q := 47) rfl ml0_9_348 rfl
def rX9_bestTold_47 := W_aload0 (M := mX9_bestTold) dX9_bestTold_47 (q := 48) rfl
def rX9_bestTold_47b := W_aloadR0 (M := mX9_bestTold) dX9_bestTold_47 (q := 48) rfl
def rX9_bestTold_48 := W_iload3 (M := mX9_bestTold) dX9_bestTold_48 (q := 49) rfl
def rX9_bestTold_49 := W_aload0 (M := mX9_bestTold) dX9_bestTold_49 (q := 50) rfl
def rX9_bestTold_49b := W_aloadR0 (M := mX9_bestTold) dX9_bestTold_49 (q := 50) rfl
def rX9_bestTold_50 := W_getA (M := mX9_bestTold) dX9_bestTold_50 (q := 53) rfl fl9_21 ⟨_, rfl⟩
def rX9_bestTold_53 := W_bipush (M := mX9_bestTold) dX9_bestTold_53 (q := 55) rfl (v := (9)) rfl
def rX9_bestTold_55 := W_iald (M := mX9_bestTold) dX9_bestTold_55 (q := 56) rfl
def rX9_bestTold_56 := W_invV2 (M := mX9_bestTold) dX9_bestTold_56 (q := 59) rfl ml0_9_364 rfl
def rX9_bestTold_59 := W_aload0 (M := mX9_bestTold) dX9_bestTold_59 (q := 60) rfl
def rX9_bestTold_59b := W_aloadR0 (M := mX9_bestTold) dX9_bestTold_59 (q := 60) rfl
def rX9_bestTold_60 := W_invV0 (M := mX9_bestTold) dX9_bestTold_60 (q := 63) rfl ml0_9_376 rfl
def rX9_bestTold_63 := W_iload1 (M := mX9_bestTold) dX9_bestTold_63 (q := 64) rfl
def rX9_bestTold_64 := W_icmp_lt (M := mX9_bestTold) dX9_bestTold_64 (q := 67) rfl (t := 70) rfl
def rX9_bestTold_67 := W_goto (M := mX9_bestTold) dX9_bestTold_67 (t := 77) rfl
def rX9_bestTold_70 := W_aload0 (M := mX9_bestTold) dX9_bestTold_70 (q := 71) rfl
def rX9_bestTold_70b := W_aloadR0 (M := mX9_bestTold) dX9_bestTold_70 (q := 71) rfl
def rX9_bestTold_71 := W_invV0 (M := mX9_bestTold) dX9_bestTold_71 (q := 74) rfl ml0_9_376 rfl
def rX9_bestTold_74 := W_istore1 (M := mX9_bestTold) dX9_bestTold_74 (q := 75) rfl
def rX9_bestTold_75 := W_iload3 (M := mX9_bestTold) dX9_bestTold_75 (q := 76) rfl
def rX9_bestTold_76 := W_istore2 (M := mX9_bestTold) dX9_bestTold_76 (q := 77) rfl
def rX9_bestTold_77 := W_iinc3 (M := mX9_bestTold) dX9_bestTold_77 (q := 80) rfl (v := (1)) rfl
def rX9_bestTold_80 := W_goto (M := mX9_bestTold) dX9_bestTold_80 (t := 32) rfl
def rX9_bestTold_83 := W_aload0 (M := mX9_bestTold) dX9_bestTold_83 (q := 84) rfl
def rX9_bestTold_83b := W_aloadR0 (M := mX9_bestTold) dX9_bestTold_83 (q := 84) rfl
def rX9_bestTold_84 := W_iload2 (M := mX9_bestTold) dX9_bestTold_84 (q := 85) rfl
def rX9_bestTold_85 := W_invV1 (M := mX9_bestTold) dX9_bestTold_85 (q := 88) rfl ml0_9_62 rfl
def rX9_bestTold_88 := W_iret (M := mX9_bestTold) dX9_bestTold_88 rfl
-- X9_bestWay
theorem eX9_bestWay {d : Nat} {h : qH} {Q : Option (Option Value) → qH → Prop} {s0 : Nat} : WM d mX9_bestWay [.ref s0] h Q = WP d mX9_bestWay (0, 0) 0 [some (.ref s0), none, none, none, none, none] [] h Q := rfl
def rX9_bestWay_0 := W_aload0 (M := mX9_bestWay) dX9_bestWay_0 (q := 1) rfl
def rX9_bestWay_0b := W_aloadR0 (M := mX9_bestWay) dX9_bestWay_0 (q := 1) rfl
def rX9_bestWay_1 := W_iconst (M := mX9_bestWay) dX9_bestWay_1 (q := 2) rfl (v := (0)) rfl
def rX9_bestWay_2 := W_putI (M := mX9_bestWay) dX9_bestWay_2 (q := 5) rfl fl9_52 rfl (Or.inl rfl)
def rX9_bestWay_5 := W_aload0 (M := mX9_bestWay) dX9_bestWay_5 (q := 6) rfl
def rX9_bestWay_5b := W_aloadR0 (M := mX9_bestWay) dX9_bestWay_5 (q := 6) rfl
def rX9_bestWay_6 := W_getR (M := mX9_bestWay) dX9_bestWay_6 (q := 9) rfl fl9_316 ⟨_, rfl⟩
def rX9_bestWay_9 := W_ifnonnull (M := mX9_bestWay) dX9_bestWay_9 (q := 12) rfl (t := 18) rfl
def rX9_bestWay_9b := W_ifnonnullN (M := mX9_bestWay) dX9_bestWay_9 (q := 12) rfl (t := 18) rfl
def rX9_bestWay_12 := W_aload0 (M := mX9_bestWay) dX9_bestWay_12 (q := 13) rfl
def rX9_bestWay_12b := W_aloadR0 (M := mX9_bestWay) dX9_bestWay_12 (q := 13) rfl
def rX9_bestWay_13 := W_iconst (M := mX9_bestWay) dX9_bestWay_13 (q := 14) rfl (v := (1)) rfl
def rX9_bestWay_14 := W_invV1 (M := mX9_bestWay) dX9_bestWay_14 (q := 17) rfl ml0_9_58 rfl
def rX9_bestWay_17 := W_iret (M := mX9_bestWay) dX9_bestWay_17 rfl
def rX9_bestWay_18 := W_iconst (M := mX9_bestWay) dX9_bestWay_18 (q := 19) rfl (v := (0)) rfl
def rX9_bestWay_19 := W_istore1 (M := mX9_bestWay) dX9_bestWay_19 (q := 20) rfl
def rX9_bestWay_20 := W_iconst (M := mX9_bestWay) dX9_bestWay_20 (q := 21) rfl (v := (0)) rfl
def rX9_bestWay_21 := W_istore2 (M := mX9_bestWay) dX9_bestWay_21 (q := 22) rfl
def rX9_bestWay_22 := W_sipush (M := mX9_bestWay) dX9_bestWay_22 (q := 25) rfl (v := (9999)) rfl
def rX9_bestWay_25 := W_istore3 (M := mX9_bestWay) dX9_bestWay_25 (q := 26) rfl
def rX9_bestWay_26 := W_iconst (M := mX9_bestWay) dX9_bestWay_26 (q := 27) rfl (v := (0)) rfl
def rX9_bestWay_27 := W_istore4 (M := mX9_bestWay) dX9_bestWay_27 (q := 29) rfl
def rX9_bestWay_29 := W_iload4 (M := mX9_bestWay) dX9_bestWay_29 (q := 31) rfl
def rX9_bestWay_31 := W_aload0 (M := mX9_bestWay) dX9_bestWay_31 (q := 32) rfl
def rX9_bestWay_31b := W_aloadR0 (M := mX9_bestWay) dX9_bestWay_31 (q := 32) rfl
def rX9_bestWay_32 := W_invV0 (M := mX9_bestWay) dX9_bestWay_32 (q := 35) rfl ml0_9_382 rfl
def rX9_bestWay_35 := W_icmp_ge (M := mX9_bestWay) dX9_bestWay_35 (q := 38) rfl (t := 81) rfl
def rX9_bestWay_38 := W_aload0 (M := mX9_bestWay) dX9_bestWay_38 (q := 39) rfl
def rX9_bestWay_38b := W_aloadR0 (M := mX9_bestWay) dX9_bestWay_38 (q := 39) rfl
def rX9_bestWay_39 := W_iload4 (M := mX9_bestWay) dX9_bestWay_39 (q := 41) rfl
def rX9_bestWay_41 := W_invV1 (M := mX9_bestWay) dX9_bestWay_41 (q := 44) rfl ml0_9_385 rfl
def rX9_bestWay_44 := W_if_ne (M := mX9_bestWay) dX9_bestWay_44 (q := 47) rfl (t := 50) rfl
def rX9_bestWay_47 := W_goto (M := mX9_bestWay) dX9_bestWay_47 (t := 75) rfl
def rX9_bestWay_50 := W_aload0 (M := mX9_bestWay) dX9_bestWay_50 (q := 51) rfl
def rX9_bestWay_50b := W_aloadR0 (M := mX9_bestWay) dX9_bestWay_50 (q := 51) rfl
def rX9_bestWay_51 := W_bipush (M := mX9_bestWay) dX9_bestWay_51 (q := 53) rfl (v := (60)) rfl
def rX9_bestWay_53 := W_invV1 (M := mX9_bestWay) dX9_bestWay_53 (q := 56) rfl ml0_9_333 rfl
def rX9_bestWay_56 := W_invS1 (M := mX9_bestWay) dX9_bestWay_56 (q := 59) rfl ml1_9_336 rfl rfl rfl
def rX9_bestWay_59 := W_istore5 (M := mX9_bestWay) dX9_bestWay_59 (q := 61) rfl
def rX9_bestWay_61 := W_iload5 (M := mX9_bestWay) dX9_bestWay_61 (q := 63) rfl
def rX9_bestWay_63 := W_iload3 (M := mX9_bestWay) dX9_bestWay_63 (q := 64) rfl
def rX9_bestWay_64 := W_icmp_ge (M := mX9_bestWay) dX9_bestWay_64 (q := 67) rfl (t := 72) rfl
def rX9_bestWay_67 := W_iload5 (M := mX9_bestWay) dX9_bestWay_67 (q := 69) rfl
def rX9_bestWay_69 := W_istore3 (M := mX9_bestWay) dX9_bestWay_69 (q := 70) rfl
def rX9_bestWay_70 := W_iload1 (M := mX9_bestWay) dX9_bestWay_70 (q := 71) rfl
def rX9_bestWay_71 := W_istore2 (M := mX9_bestWay) dX9_bestWay_71 (q := 72) rfl
def rX9_bestWay_72 := W_iinc1 (M := mX9_bestWay) dX9_bestWay_72 (q := 75) rfl (v := (1)) rfl
def rX9_bestWay_75 := W_iinc4 (M := mX9_bestWay) dX9_bestWay_75 (q := 78) rfl (v := (1)) rfl
def rX9_bestWay_78 := W_goto (M := mX9_bestWay) dX9_bestWay_78 (t := 29) rfl
def rX9_bestWay_81 := W_aload0 (M := mX9_bestWay) dX9_bestWay_81 (q := 82) rfl
def rX9_bestWay_81b := W_aloadR0 (M := mX9_bestWay) dX9_bestWay_81 (q := 82) rfl
def rX9_bestWay_82 := W_iload2 (M := mX9_bestWay) dX9_bestWay_82 (q := 83) rfl
def rX9_bestWay_83 := W_invV1 (M := mX9_bestWay) dX9_bestWay_83 (q := 86) rfl ml0_9_62 rfl
def rX9_bestWay_86 := W_iret (M := mX9_bestWay) dX9_bestWay_86 rfl
-- X9_bit
theorem eX9_bit {d : Nat} {h : qH} {Q : Option (Option Value) → qH → Prop} {x1 : Int32} {x2 : Int32} : WM d mX9_bit [.int x1, .int x2] h Q = WP d mX9_bit (0, 0) 0 [some (.int x1), some (.int x2)] [] h Q := rfl
def rX9_bit_0 := W_iload0 (M := mX9_bit) dX9_bit_0 (q := 1) rfl
def rX9_bit_1 := W_iload1 (M := mX9_bit) dX9_bit_1 (q := 2) rfl
def rX9_bit_2 := W_ishr (M := mX9_bit) dX9_bit_2 (q := 3) rfl
def rX9_bit_3 := W_iconst (M := mX9_bit) dX9_bit_3 (q := 4) rfl (v := (1)) rfl
def rX9_bit_4 := W_iand (M := mX9_bit) dX9_bit_4 (q := 5) rfl
def rX9_bit_5 := W_iconst (M := mX9_bit) dX9_bit_5 (q := 6) rfl (v := (1)) rfl
def rX9_bit_6 := W_icmp_ne (M := mX9_bit) dX9_bit_6 (q := 9) rfl (t := 13) rfl
def rX9_bit_9 := W_iconst (M := mX9_bit) dX9_bit_9 (q := 10) rfl (v := (1)) rfl
def rX9_bit_10 := W_goto (M := mX9_bit) dX9_bit_10 (t := 14) rfl
def rX9_bit_13 := W_iconst (M := mX9_bit) dX9_bit_13 (q := 14) rfl (v := (0)) rfl
def rX9_bit_14 := W_zret (M := mX9_bit) dX9_bit_14 rfl
-- X9_bits
theorem eX9_bits {d : Nat} {h : qH} {Q : Option (Option Value) → qH → Prop} {x1 : Int32} : WM d mX9_bits [.int x1] h Q = WP d mX9_bits (0, 0) 0 [some (.int x1), none, none] [] h Q := rfl
def rX9_bits_0 := W_iconst (M := mX9_bits) dX9_bits_0 (q := 1) rfl (v := (0)) rfl
def rX9_bits_1 := W_istore1 (M := mX9_bits) dX9_bits_1 (q := 2) rfl
def rX9_bits_2 := W_iload0 (M := mX9_bits) dX9_bits_2 (q := 3) rfl
def rX9_bits_3 := W_istore2 (M := mX9_bits) dX9_bits_3 (q := 4) rfl
def rX9_bits_4 := W_iload2 (M := mX9_bits) dX9_bits_4 (q := 5) rfl
def rX9_bits_5 := W_if_eq (M := mX9_bits) dX9_bits_5 (q := 8) rfl (t := 20) rfl
def rX9_bits_8 := W_iinc1 (M := mX9_bits) dX9_bits_8 (q := 11) rfl (v := (1)) rfl
def rX9_bits_11 := W_iload2 (M := mX9_bits) dX9_bits_11 (q := 12) rfl
def rX9_bits_12 := W_iload2 (M := mX9_bits) dX9_bits_12 (q := 13) rfl
def rX9_bits_13 := W_iconst (M := mX9_bits) dX9_bits_13 (q := 14) rfl (v := (1)) rfl
def rX9_bits_14 := W_isub (M := mX9_bits) dX9_bits_14 (q := 15) rfl
def rX9_bits_15 := W_iand (M := mX9_bits) dX9_bits_15 (q := 16) rfl
def rX9_bits_16 := W_istore2 (M := mX9_bits) dX9_bits_16 (q := 17) rfl
def rX9_bits_17 := W_goto (M := mX9_bits) dX9_bits_17 (t := 4) rfl
def rX9_bits_20 := W_iload1 (M := mX9_bits) dX9_bits_20 (q := 21) rfl
def rX9_bits_21 := W_iret (M := mX9_bits) dX9_bits_21 rfl
-- X9_burns
theorem eX9_burns {d : Nat} {h : qH} {Q : Option (Option Value) → qH → Prop} {s0 : Nat} {x1 : Int32} : WM d mX9_burns [.ref s0, .int x1] h Q = WP d mX9_burns (0, 0) 0 [some (.ref s0), some (.int x1)] [] h Q := rfl
def rX9_burns_0 := W_aload0 (M := mX9_burns) dX9_burns_0 (q := 1) rfl
def rX9_burns_0b := W_aloadR0 (M := mX9_burns) dX9_burns_0 (q := 1) rfl
def rX9_burns_1 := W_iconst (M := mX9_burns) dX9_burns_1 (q := 2) rfl (v := (0)) rfl
def rX9_burns_2 := W_putI (M := mX9_burns) dX9_burns_2 (q := 5) rfl fl9_52 rfl (Or.inl rfl)
def rX9_burns_5 := W_aload0 (M := mX9_burns) dX9_burns_5 (q := 6) rfl
def rX9_burns_5b := W_aloadR0 (M := mX9_burns) dX9_burns_5 (q := 6) rfl
def rX9_burns_6 := W_iload1 (M := mX9_burns) dX9_burns_6 (q := 7) rfl
def rX9_burns_7 := W_invV1 (M := mX9_burns) dX9_burns_7 (q := 10) rfl ml0_9_345 rfl
def rX9_burns_10 := W_if_ne (M := mX9_burns) dX9_burns_10 (q := 13) rfl (t := 19) rfl
def rX9_burns_13 := W_aload0 (M := mX9_burns) dX9_burns_13 (q := 14) rfl
def rX9_burns_13b := W_aloadR0 (M := mX9_burns) dX9_burns_13 (q := 14) rfl
def rX9_burns_14 := W_iconst (M := mX9_burns) dX9_burns_14 (q := 15) rfl (v := (1)) rfl
def rX9_burns_15 := W_invV1 (M := mX9_burns) dX9_burns_15 (q := 18) rfl ml0_9_58 rfl
def rX9_burns_18 := W_iret (M := mX9_burns) dX9_burns_18 rfl
def rX9_burns_19 := W_aload0 (M := mX9_burns) dX9_burns_19 (q := 20) rfl
def rX9_burns_19b := W_aloadR0 (M := mX9_burns) dX9_burns_19 (q := 20) rfl
def rX9_burns_20 := W_invV0 (M := mX9_burns) dX9_burns_20 (q := 23) rfl ml0_9_348 rfl
def rX9_burns_23 := W_aload0 (M := mX9_burns) dX9_burns_23 (q := 24) rfl
def rX9_burns_23b := W_aloadR0 (M := mX9_burns) dX9_burns_23 (q := 24) rfl
def rX9_burns_24 := W_aload0 (M := mX9_burns) dX9_burns_24 (q := 25) rfl
def rX9_burns_24b := W_aloadR0 (M := mX9_burns) dX9_burns_24 (q := 25) rfl
def rX9_burns_25 := W_getA (M := mX9_burns) dX9_burns_25 (q := 28) rfl fl9_30 ⟨_, rfl⟩
def rX9_burns_28 := W_iload1 (M := mX9_burns) dX9_burns_28 (q := 29) rfl
def rX9_burns_29 := W_iald (M := mX9_burns) dX9_burns_29 (q := 30) rfl
def rX9_burns_30 := W_invS1 (M := mX9_burns) dX9_burns_30 (q := 33) rfl ml1_9_351 rfl rfl rfl
def rX9_burns_33 := W_invV1 (M := mX9_burns) dX9_burns_33 (q := 36) rfl ml0_9_62 rfl
def rX9_burns_36 := W_iret (M := mX9_burns) dX9_burns_36 rfl
-- X9_burnsAll
theorem eX9_burnsAll {d : Nat} {h : qH} {Q : Option (Option Value) → qH → Prop} {s0 : Nat} : WM d mX9_burnsAll [.ref s0] h Q = WP d mX9_burnsAll (0, 0) 0 [some (.ref s0), none, none, none] [] h Q := rfl
def rX9_burnsAll_0 := W_iconst (M := mX9_burnsAll) dX9_burnsAll_0 (q := 1) rfl (v := (0)) rfl
def rX9_burnsAll_1 := W_istore1 (M := mX9_burnsAll) dX9_burnsAll_1 (q := 2) rfl
def rX9_burnsAll_2 := W_iload1 (M := mX9_burnsAll) dX9_burnsAll_2 (q := 3) rfl
def rX9_burnsAll_3 := W_aload0 (M := mX9_burnsAll) dX9_burnsAll_3 (q := 4) rfl
def rX9_burnsAll_3b := W_aloadR0 (M := mX9_burnsAll) dX9_burnsAll_3 (q := 4) rfl
def rX9_burnsAll_4 := W_getR (M := mX9_burnsAll) dX9_burnsAll_4 (q := 7) rfl fl9_316 ⟨_, rfl⟩
def rX9_burnsAll_7 := W_getI (M := mX9_burnsAll) dX9_burnsAll_7 (q := 10) rfl fl9_187 (Or.inl rfl)
def rX9_burnsAll_10 := W_icmp_ge (M := mX9_burnsAll) dX9_burnsAll_10 (q := 13) rfl (t := 48) rfl
def rX9_burnsAll_13 := W_aload0 (M := mX9_burnsAll) dX9_burnsAll_13 (q := 14) rfl
def rX9_burnsAll_13b := W_aloadR0 (M := mX9_burnsAll) dX9_burnsAll_13 (q := 14) rfl
def rX9_burnsAll_14 := W_getA (M := mX9_burnsAll) dX9_burnsAll_14 (q := 17) rfl fl9_30 ⟨_, rfl⟩
def rX9_burnsAll_17 := W_iload1 (M := mX9_burnsAll) dX9_burnsAll_17 (q := 18) rfl
def rX9_burnsAll_18 := W_aload0 (M := mX9_burnsAll) dX9_burnsAll_18 (q := 19) rfl
def rX9_burnsAll_18b := W_aloadR0 (M := mX9_burnsAll) dX9_burnsAll_18 (q := 19) rfl
def rX9_burnsAll_19 := W_getA (M := mX9_burnsAll) dX9_burnsAll_19 (q := 22) rfl fl9_21 ⟨_, rfl⟩
def rX9_burnsAll_22 := W_iload1 (M := mX9_burnsAll) dX9_burnsAll_22 (q := 23) rfl
def rX9_burnsAll_23 := W_iald (M := mX9_burnsAll) dX9_burnsAll_23 (q := 24) rfl
def rX9_burnsAll_24 := W_bipush (M := mX9_burnsAll) dX9_burnsAll_24 (q := 26) rfl (v := (-2)) rfl
def rX9_burnsAll_26 := W_icmp_ne (M := mX9_burnsAll) dX9_burnsAll_26 (q := 29) rfl (t := 35) rfl
def rX9_burnsAll_29 := W_sipush (M := mX9_burnsAll) dX9_burnsAll_29 (q := 32) rfl (v := (9999)) rfl
def rX9_burnsAll_32 := W_goto (M := mX9_burnsAll) dX9_burnsAll_32 (t := 41) rfl
def rX9_burnsAll_35 := W_aload0 (M := mX9_burnsAll) dX9_burnsAll_35 (q := 36) rfl
def rX9_burnsAll_35b := W_aloadR0 (M := mX9_burnsAll) dX9_burnsAll_35 (q := 36) rfl
def rX9_burnsAll_36 := W_getA (M := mX9_burnsAll) dX9_burnsAll_36 (q := 39) rfl fl9_21 ⟨_, rfl⟩
def rX9_burnsAll_39 := W_iload1 (M := mX9_burnsAll) dX9_burnsAll_39 (q := 40) rfl
def rX9_burnsAll_40 := W_iald (M := mX9_burnsAll) dX9_burnsAll_40 (q := 41) rfl
def rX9_burnsAll_41 := W_iast (M := mX9_burnsAll) dX9_burnsAll_41 (q := 42) rfl
def rX9_burnsAll_42 := W_iinc1 (M := mX9_burnsAll) dX9_burnsAll_42 (q := 45) rfl (v := (1)) rfl
def rX9_burnsAll_45 := W_goto (M := mX9_burnsAll) dX9_burnsAll_45 (t := 2) rfl
def rX9_burnsAll_48 := W_iconst (M := mX9_burnsAll) dX9_burnsAll_48 (q := 49) rfl (v := (1)) rfl
def rX9_burnsAll_49 := W_istore1 (M := mX9_burnsAll) dX9_burnsAll_49 (q := 50) rfl
def rX9_burnsAll_50 := W_iload1 (M := mX9_burnsAll) dX9_burnsAll_50 (q := 51) rfl
def rX9_burnsAll_51 := W_if_eq (M := mX9_burnsAll) dX9_burnsAll_51 (q := 54) rfl (t := 171) rfl
def rX9_burnsAll_54 := W_iconst (M := mX9_burnsAll) dX9_burnsAll_54 (q := 55) rfl (v := (0)) rfl
def rX9_burnsAll_55 := W_istore1 (M := mX9_burnsAll) dX9_burnsAll_55 (q := 56) rfl
def rX9_burnsAll_56 := W_iconst (M := mX9_burnsAll) dX9_burnsAll_56 (q := 57) rfl (v := (0)) rfl
def rX9_burnsAll_57 := W_istore2 (M := mX9_burnsAll) dX9_burnsAll_57 (q := 58) rfl
def rX9_burnsAll_58 := W_iload2 (M := mX9_burnsAll) dX9_burnsAll_58 (q := 59) rfl
def rX9_burnsAll_59 := W_aload0 (M := mX9_burnsAll) dX9_burnsAll_59 (q := 60) rfl
def rX9_burnsAll_59b := W_aloadR0 (M := mX9_burnsAll) dX9_burnsAll_59 (q := 60) rfl
def rX9_burnsAll_60 := W_getR (M := mX9_burnsAll) dX9_burnsAll_60 (q := 63) rfl fl9_316 ⟨_, rfl⟩
def rX9_burnsAll_63 := W_getI (M := mX9_burnsAll) dX9_burnsAll_63 (q := 66) rfl fl9_248 (Or.inl rfl)
def rX9_burnsAll_66 := W_icmp_ge (M := mX9_burnsAll) dX9_burnsAll_66 (q := 69) rfl (t := 168) rfl
def rX9_burnsAll_69 := W_aload0 (M := mX9_burnsAll) dX9_burnsAll_69 (q := 70) rfl
def rX9_burnsAll_69b := W_aloadR0 (M := mX9_burnsAll) dX9_burnsAll_69 (q := 70) rfl
def rX9_burnsAll_70 := W_iload2 (M := mX9_burnsAll) dX9_burnsAll_70 (q := 71) rfl
def rX9_burnsAll_71 := W_invV1 (M := mX9_burnsAll) dX9_burnsAll_71 (q := 74) rfl ml0_9_330 rfl
def rX9_burnsAll_74 := W_if_eq (M := mX9_burnsAll) dX9_burnsAll_74 (q := 77) rfl (t := 162) rfl
def rX9_burnsAll_77 := W_aload0 (M := mX9_burnsAll) dX9_burnsAll_77 (q := 78) rfl
def rX9_burnsAll_77b := W_aloadR0 (M := mX9_burnsAll) dX9_burnsAll_77 (q := 78) rfl
def rX9_burnsAll_78 := W_getA (M := mX9_burnsAll) dX9_burnsAll_78 (q := 81) rfl fl9_30 ⟨_, rfl⟩
def rX9_burnsAll_81 := W_aload0 (M := mX9_burnsAll) dX9_burnsAll_81 (q := 82) rfl
def rX9_burnsAll_81b := W_aloadR0 (M := mX9_burnsAll) dX9_burnsAll_81 (q := 82) rfl
def rX9_burnsAll_82 := W_getR (M := mX9_burnsAll) dX9_burnsAll_82 (q := 85) rfl fl9_316 ⟨_, rfl⟩
def rX9_burnsAll_85 := W_getA (M := mX9_burnsAll) dX9_burnsAll_85 (q := 88) rfl fl9_260 ⟨_, rfl⟩
def rX9_burnsAll_88 := W_iload2 (M := mX9_burnsAll) dX9_burnsAll_88 (q := 89) rfl
def rX9_burnsAll_89 := W_iald (M := mX9_burnsAll) dX9_burnsAll_89 (q := 90) rfl
def rX9_burnsAll_90 := W_iald (M := mX9_burnsAll) dX9_burnsAll_90 (q := 91) rfl
def rX9_burnsAll_91 := W_sipush (M := mX9_burnsAll) dX9_burnsAll_91 (q := 94) rfl (v := (9999)) rfl
def rX9_burnsAll_94 := W_icmp_ne (M := mX9_burnsAll) dX9_burnsAll_94 (q := 97) rfl (t := 100) rfl
def rX9_burnsAll_97 := W_goto (M := mX9_burnsAll) dX9_burnsAll_97 (t := 162) rfl
def rX9_burnsAll_100 := W_aload0 (M := mX9_burnsAll) dX9_burnsAll_100 (q := 101) rfl
def rX9_burnsAll_100b := W_aloadR0 (M := mX9_burnsAll) dX9_burnsAll_100 (q := 101) rfl
def rX9_burnsAll_101 := W_getA (M := mX9_burnsAll) dX9_burnsAll_101 (q := 104) rfl fl9_30 ⟨_, rfl⟩
def rX9_burnsAll_104 := W_aload0 (M := mX9_burnsAll) dX9_burnsAll_104 (q := 105) rfl
def rX9_burnsAll_104b := W_aloadR0 (M := mX9_burnsAll) dX9_burnsAll_104 (q := 105) rfl
def rX9_burnsAll_105 := W_getR (M := mX9_burnsAll) dX9_burnsAll_105 (q := 108) rfl fl9_316 ⟨_, rfl⟩
def rX9_burnsAll_108 := W_getA (M := mX9_burnsAll) dX9_burnsAll_108 (q := 111) rfl fl9_260 ⟨_, rfl⟩
def rX9_burnsAll_111 := W_iload2 (M := mX9_burnsAll) dX9_burnsAll_111 (q := 112) rfl
def rX9_burnsAll_112 := W_iald (M := mX9_burnsAll) dX9_burnsAll_112 (q := 113) rfl
def rX9_burnsAll_113 := W_iald (M := mX9_burnsAll) dX9_burnsAll_113 (q := 114) rfl
def rX9_burnsAll_114 := W_aload0 (M := mX9_burnsAll) dX9_burnsAll_114 (q := 115) rfl
def rX9_burnsAll_114b := W_aloadR0 (M := mX9_burnsAll) dX9_burnsAll_114 (q := 115) rfl
def rX9_burnsAll_115 := W_getR (M := mX9_burnsAll) dX9_burnsAll_115 (q := 118) rfl fl9_316 ⟨_, rfl⟩
def rX9_burnsAll_118 := W_iload2 (M := mX9_burnsAll) dX9_burnsAll_118 (q := 119) rfl
def rX9_burnsAll_119 := W_invV1 (M := mX9_burnsAll) dX9_burnsAll_119 (q := 122) rfl ml0_9_327 rfl
def rX9_burnsAll_122 := W_iadd (M := mX9_burnsAll) dX9_burnsAll_122 (q := 123) rfl
def rX9_burnsAll_123 := W_istore3 (M := mX9_burnsAll) dX9_burnsAll_123 (q := 124) rfl
def rX9_burnsAll_124 := W_iload3 (M := mX9_burnsAll) dX9_burnsAll_124 (q := 125) rfl
def rX9_burnsAll_125 := W_aload0 (M := mX9_burnsAll) dX9_burnsAll_125 (q := 126) rfl
def rX9_burnsAll_125b := W_aloadR0 (M := mX9_burnsAll) dX9_burnsAll_125 (q := 126) rfl
def rX9_burnsAll_126 := W_getA (M := mX9_burnsAll) dX9_burnsAll_126 (q := 129) rfl fl9_30 ⟨_, rfl⟩
def rX9_burnsAll_129 := W_aload0 (M := mX9_burnsAll) dX9_burnsAll_129 (q := 130) rfl
def rX9_burnsAll_129b := W_aloadR0 (M := mX9_burnsAll) dX9_burnsAll_129 (q := 130) rfl
def rX9_burnsAll_130 := W_getR (M := mX9_burnsAll) dX9_burnsAll_130 (q := 133) rfl fl9_316 ⟨_, rfl⟩
def rX9_burnsAll_133 := W_getA (M := mX9_burnsAll) dX9_burnsAll_133 (q := 136) rfl fl9_263 ⟨_, rfl⟩
def rX9_burnsAll_136 := W_iload2 (M := mX9_burnsAll) dX9_burnsAll_136 (q := 137) rfl
def rX9_burnsAll_137 := W_iald (M := mX9_burnsAll) dX9_burnsAll_137 (q := 138) rfl
def rX9_burnsAll_138 := W_iald (M := mX9_burnsAll) dX9_burnsAll_138 (q := 139) rfl
def rX9_burnsAll_139 := W_icmp_lt (M := mX9_burnsAll) dX9_burnsAll_139 (q := 142) rfl (t := 145) rfl
def rX9_burnsAll_142 := W_goto (M := mX9_burnsAll) dX9_burnsAll_142 (t := 162) rfl
def rX9_burnsAll_145 := W_aload0 (M := mX9_burnsAll) dX9_burnsAll_145 (q := 146) rfl
def rX9_burnsAll_145b := W_aloadR0 (M := mX9_burnsAll) dX9_burnsAll_145 (q := 146) rfl
def rX9_burnsAll_146 := W_getA (M := mX9_burnsAll) dX9_burnsAll_146 (q := 149) rfl fl9_30 ⟨_, rfl⟩
def rX9_burnsAll_149 := W_aload0 (M := mX9_burnsAll) dX9_burnsAll_149 (q := 150) rfl
def rX9_burnsAll_149b := W_aloadR0 (M := mX9_burnsAll) dX9_burnsAll_149 (q := 150) rfl
def rX9_burnsAll_150 := W_getR (M := mX9_burnsAll) dX9_burnsAll_150 (q := 153) rfl fl9_316 ⟨_, rfl⟩
def rX9_burnsAll_153 := W_getA (M := mX9_burnsAll) dX9_burnsAll_153 (q := 156) rfl fl9_263 ⟨_, rfl⟩
def rX9_burnsAll_156 := W_iload2 (M := mX9_burnsAll) dX9_burnsAll_156 (q := 157) rfl
def rX9_burnsAll_157 := W_iald (M := mX9_burnsAll) dX9_burnsAll_157 (q := 158) rfl
def rX9_burnsAll_158 := W_iload3 (M := mX9_burnsAll) dX9_burnsAll_158 (q := 159) rfl
def rX9_burnsAll_159 := W_iast (M := mX9_burnsAll) dX9_burnsAll_159 (q := 160) rfl
def rX9_burnsAll_160 := W_iconst (M := mX9_burnsAll) dX9_burnsAll_160 (q := 161) rfl (v := (1)) rfl
def rX9_burnsAll_161 := W_istore1 (M := mX9_burnsAll) dX9_burnsAll_161 (q := 162) rfl
def rX9_burnsAll_162 := W_iinc2 (M := mX9_burnsAll) dX9_burnsAll_162 (q := 165) rfl (v := (1)) rfl
def rX9_burnsAll_165 := W_goto (M := mX9_burnsAll) dX9_burnsAll_165 (t := 58) rfl
def rX9_burnsAll_168 := W_goto (M := mX9_burnsAll) dX9_burnsAll_168 (t := 50) rfl
def rX9_burnsAll_171 := W_vret (M := mX9_burnsAll) dX9_burnsAll_171 rfl
-- X9_burnsIf
theorem eX9_burnsIf {d : Nat} {h : qH} {Q : Option (Option Value) → qH → Prop} {s0 : Nat} {x1 : Int32} {x2 : Int32} : WM d mX9_burnsIf [.ref s0, .int x1, .int x2] h Q = WP d mX9_burnsIf (0, 0) 0 [some (.ref s0), some (.int x1), some (.int x2), none] [] h Q := rfl
def rX9_burnsIf_0 := W_aload0 (M := mX9_burnsIf) dX9_burnsIf_0 (q := 1) rfl
def rX9_burnsIf_0b := W_aloadR0 (M := mX9_burnsIf) dX9_burnsIf_0 (q := 1) rfl
def rX9_burnsIf_1 := W_iconst (M := mX9_burnsIf) dX9_burnsIf_1 (q := 2) rfl (v := (0)) rfl
def rX9_burnsIf_2 := W_putI (M := mX9_burnsIf) dX9_burnsIf_2 (q := 5) rfl fl9_52 rfl (Or.inl rfl)
def rX9_burnsIf_5 := W_aload0 (M := mX9_burnsIf) dX9_burnsIf_5 (q := 6) rfl
def rX9_burnsIf_5b := W_aloadR0 (M := mX9_burnsIf) dX9_burnsIf_5 (q := 6) rfl
def rX9_burnsIf_6 := W_iload1 (M := mX9_burnsIf) dX9_burnsIf_6 (q := 7) rfl
def rX9_burnsIf_7 := W_invV1 (M := mX9_burnsIf) dX9_burnsIf_7 (q := 10) rfl ml0_9_345 rfl
def rX9_burnsIf_10 := W_if_eq (M := mX9_burnsIf) dX9_burnsIf_10 (q := 13) rfl (t := 21) rfl
def rX9_burnsIf_13 := W_aload0 (M := mX9_burnsIf) dX9_burnsIf_13 (q := 14) rfl
def rX9_burnsIf_13b := W_aloadR0 (M := mX9_burnsIf) dX9_burnsIf_13 (q := 14) rfl
def rX9_burnsIf_14 := W_iload2 (M := mX9_burnsIf) dX9_burnsIf_14 (q := 15) rfl
def rX9_burnsIf_15 := W_invV1 (M := mX9_burnsIf) dX9_burnsIf_15 (q := 18) rfl ml0_9_373 rfl
def rX9_burnsIf_18 := W_goto (M := mX9_burnsIf) dX9_burnsIf_18 (t := 22) rfl
def rX9_burnsIf_21 := W_iconst (M := mX9_burnsIf) dX9_burnsIf_21 (q := 22) rfl (v := (1)) rfl
def rX9_burnsIf_22 := W_istore3 (M := mX9_burnsIf) dX9_burnsIf_22 (q := 23) rfl
def rX9_burnsIf_23 := W_iload3 (M := mX9_burnsIf) dX9_burnsIf_23 (q := 24) rfl
def rX9_burnsIf_24 := W_if_le (M := mX9_burnsIf) dX9_burnsIf_24 (q := 27) rfl (t := 33) rfl
def rX9_burnsIf_27 := W_aload0 (M := mX9_burnsIf) dX9_burnsIf_27 (q := 28) rfl
def rX9_burnsIf_27b := W_aloadR0 (M := mX9_burnsIf) dX9_burnsIf_27 (q := 28) rfl
def rX9_burnsIf_28 := W_iload3 (M := mX9_burnsIf) dX9_burnsIf_28 (q := 29) rfl
def rX9_burnsIf_29 := W_invV1 (M := mX9_burnsIf) dX9_burnsIf_29 (q := 32) rfl ml0_9_58 rfl
def rX9_burnsIf_32 := W_iret (M := mX9_burnsIf) dX9_burnsIf_32 rfl
def rX9_burnsIf_33 := W_aload0 (M := mX9_burnsIf) dX9_burnsIf_33 (q := 34) rfl
def rX9_burnsIf_33b := W_aloadR0 (M := mX9_burnsIf) dX9_burnsIf_33 (q := 34) rfl
def rX9_burnsIf_34 := W_iload2 (M := mX9_burnsIf) dX9_burnsIf_34 (q := 35) rfl
def rX9_burnsIf_35 := W_aload0 (M := mX9_burnsIf) dX9_burnsIf_35 (q := 36) rfl
def rX9_burnsIf_35b := W_aloadR0 (M := mX9_burnsIf) dX9_burnsIf_35 (q := 36) rfl
def rX9_burnsIf_36 := W_getA (M := mX9_burnsIf) dX9_burnsIf_36 (q := 39) rfl fl9_21 ⟨_, rfl⟩
def rX9_burnsIf_39 := W_bipush (M := mX9_burnsIf) dX9_burnsIf_39 (q := 41) rfl (v := (9)) rfl
def rX9_burnsIf_41 := W_iald (M := mX9_burnsIf) dX9_burnsIf_41 (q := 42) rfl
def rX9_burnsIf_42 := W_invV2 (M := mX9_burnsIf) dX9_burnsIf_42 (q := 45) rfl ml0_9_364 rfl
def rX9_burnsIf_45 := W_aload0 (M := mX9_burnsIf) dX9_burnsIf_45 (q := 46) rfl
def rX9_burnsIf_45b := W_aloadR0 (M := mX9_burnsIf) dX9_burnsIf_45 (q := 46) rfl
def rX9_burnsIf_46 := W_aload0 (M := mX9_burnsIf) dX9_burnsIf_46 (q := 47) rfl
def rX9_burnsIf_46b := W_aloadR0 (M := mX9_burnsIf) dX9_burnsIf_46 (q := 47) rfl
def rX9_burnsIf_47 := W_getA (M := mX9_burnsIf) dX9_burnsIf_47 (q := 50) rfl fl9_30 ⟨_, rfl⟩
def rX9_burnsIf_50 := W_iload1 (M := mX9_burnsIf) dX9_burnsIf_50 (q := 51) rfl
def rX9_burnsIf_51 := W_iald (M := mX9_burnsIf) dX9_burnsIf_51 (q := 52) rfl
def rX9_burnsIf_52 := W_invS1 (M := mX9_burnsIf) dX9_burnsIf_52 (q := 55) rfl ml1_9_351 rfl rfl rfl
def rX9_burnsIf_55 := W_invV1 (M := mX9_burnsIf) dX9_burnsIf_55 (q := 58) rfl ml0_9_62 rfl
def rX9_burnsIf_58 := W_iret (M := mX9_burnsIf) dX9_burnsIf_58 rfl
-- X9_burnt
theorem eX9_burnt {d : Nat} {h : qH} {Q : Option (Option Value) → qH → Prop} {s0 : Nat} {x1 : Int32} : WM d mX9_burnt [.ref s0, .int x1] h Q = WP d mX9_burnt (0, 0) 0 [some (.ref s0), some (.int x1), none] [] h Q := rfl
def rX9_burnt_0 := W_aload0 (M := mX9_burnt) dX9_burnt_0 (q := 1) rfl
def rX9_burnt_0b := W_aloadR0 (M := mX9_burnt) dX9_burnt_0 (q := 1) rfl
def rX9_burnt_1 := W_iconst (M := mX9_burnt) dX9_burnt_1 (q := 2) rfl (v := (0)) rfl
def rX9_burnt_2 := W_putI (M := mX9_burnt) dX9_burnt_2 (q := 5) rfl fl9_52 rfl (Or.inl rfl)
def rX9_burnt_5 := W_aload0 (M := mX9_burnt) dX9_burnt_5 (q := 6) rfl
def rX9_burnt_5b := W_aloadR0 (M := mX9_burnt) dX9_burnt_5 (q := 6) rfl
def rX9_burnt_6 := W_aload0 (M := mX9_burnt) dX9_burnt_6 (q := 7) rfl
def rX9_burnt_6b := W_aloadR0 (M := mX9_burnt) dX9_burnt_6 (q := 7) rfl
def rX9_burnt_7 := W_getR (M := mX9_burnt) dX9_burnt_7 (q := 10) rfl fl9_316 ⟨_, rfl⟩
def rX9_burnt_10 := W_ifnull (M := mX9_burnt) dX9_burnt_10 (q := 13) rfl (t := 17) rfl
def rX9_burnt_10b := W_ifnullN (M := mX9_burnt) dX9_burnt_10 (q := 13) rfl (t := 17) rfl
def rX9_burnt_13 := W_iconst (M := mX9_burnt) dX9_burnt_13 (q := 14) rfl (v := (1)) rfl
def rX9_burnt_14 := W_goto (M := mX9_burnt) dX9_burnt_14 (t := 18) rfl
def rX9_burnt_17 := W_iconst (M := mX9_burnt) dX9_burnt_17 (q := 18) rfl (v := (0)) rfl
def rX9_burnt_18 := W_iload1 (M := mX9_burnt) dX9_burnt_18 (q := 19) rfl
def rX9_burnt_19 := W_iconst (M := mX9_burnt) dX9_burnt_19 (q := 20) rfl (v := (0)) rfl
def rX9_burnt_20 := W_invV3 (M := mX9_burnt) dX9_burnt_20 (q := 23) rfl ml0_9_354 rfl
def rX9_burnt_23 := W_istore2 (M := mX9_burnt) dX9_burnt_23 (q := 24) rfl
def rX9_burnt_24 := W_iload2 (M := mX9_burnt) dX9_burnt_24 (q := 25) rfl
def rX9_burnt_25 := W_if_le (M := mX9_burnt) dX9_burnt_25 (q := 28) rfl (t := 34) rfl
def rX9_burnt_28 := W_aload0 (M := mX9_burnt) dX9_burnt_28 (q := 29) rfl
def rX9_burnt_28b := W_aloadR0 (M := mX9_burnt) dX9_burnt_28 (q := 29) rfl
def rX9_burnt_29 := W_iload2 (M := mX9_burnt) dX9_burnt_29 (q := 30) rfl
def rX9_burnt_30 := W_invV1 (M := mX9_burnt) dX9_burnt_30 (q := 33) rfl ml0_9_58 rfl
def rX9_burnt_33 := W_iret (M := mX9_burnt) dX9_burnt_33 rfl
def rX9_burnt_34 := W_aload0 (M := mX9_burnt) dX9_burnt_34 (q := 35) rfl
def rX9_burnt_34b := W_aloadR0 (M := mX9_burnt) dX9_burnt_34 (q := 35) rfl
def rX9_burnt_35 := W_invV0 (M := mX9_burnt) dX9_burnt_35 (q := 38) rfl ml0_9_348 rfl
def rX9_burnt_38 := W_aload0 (M := mX9_burnt) dX9_burnt_38 (q := 39) rfl
def rX9_burnt_38b := W_aloadR0 (M := mX9_burnt) dX9_burnt_38 (q := 39) rfl
def rX9_burnt_39 := W_aload0 (M := mX9_burnt) dX9_burnt_39 (q := 40) rfl
def rX9_burnt_39b := W_aloadR0 (M := mX9_burnt) dX9_burnt_39 (q := 40) rfl
def rX9_burnt_40 := W_iload1 (M := mX9_burnt) dX9_burnt_40 (q := 41) rfl
def rX9_burnt_41 := W_invV1 (M := mX9_burnt) dX9_burnt_41 (q := 44) rfl ml0_9_333 rfl
def rX9_burnt_44 := W_invV1 (M := mX9_burnt) dX9_burnt_44 (q := 47) rfl ml0_9_62 rfl
def rX9_burnt_47 := W_iret (M := mX9_burnt) dX9_burnt_47 rfl
-- X9_burntBy
theorem eX9_burntBy {d : Nat} {h : qH} {Q : Option (Option Value) → qH → Prop} {s0 : Nat} {x1 : Int32} : WM d mX9_burntBy [.ref s0, .int x1] h Q = WP d mX9_burntBy (0, 0) 0 [some (.ref s0), some (.int x1), none, none] [] h Q := rfl
def rX9_burntBy_0 := W_iconst (M := mX9_burntBy) dX9_burntBy_0 (q := 1) rfl (v := (0)) rfl
def rX9_burntBy_1 := W_istore2 (M := mX9_burntBy) dX9_burntBy_1 (q := 2) rfl
def rX9_burntBy_2 := W_iconst (M := mX9_burntBy) dX9_burntBy_2 (q := 3) rfl (v := (0)) rfl
def rX9_burntBy_3 := W_istore3 (M := mX9_burntBy) dX9_burntBy_3 (q := 4) rfl
def rX9_burntBy_4 := W_iload3 (M := mX9_burntBy) dX9_burntBy_4 (q := 5) rfl
def rX9_burntBy_5 := W_aload0 (M := mX9_burntBy) dX9_burntBy_5 (q := 6) rfl
def rX9_burntBy_5b := W_aloadR0 (M := mX9_burntBy) dX9_burntBy_5 (q := 6) rfl
def rX9_burntBy_6 := W_getR (M := mX9_burntBy) dX9_burntBy_6 (q := 9) rfl fl9_316 ⟨_, rfl⟩
def rX9_burntBy_9 := W_getI (M := mX9_burntBy) dX9_burntBy_9 (q := 12) rfl fl9_187 (Or.inl rfl)
def rX9_burntBy_12 := W_icmp_ge (M := mX9_burntBy) dX9_burntBy_12 (q := 15) rfl (t := 41) rfl
def rX9_burntBy_15 := W_iload2 (M := mX9_burntBy) dX9_burntBy_15 (q := 16) rfl
def rX9_burntBy_16 := W_aload0 (M := mX9_burntBy) dX9_burntBy_16 (q := 17) rfl
def rX9_burntBy_16b := W_aloadR0 (M := mX9_burntBy) dX9_burntBy_16 (q := 17) rfl
def rX9_burntBy_17 := W_getA (M := mX9_burntBy) dX9_burntBy_17 (q := 20) rfl fl9_30 ⟨_, rfl⟩
def rX9_burntBy_20 := W_iload3 (M := mX9_burntBy) dX9_burntBy_20 (q := 21) rfl
def rX9_burntBy_21 := W_iald (M := mX9_burntBy) dX9_burntBy_21 (q := 22) rfl
def rX9_burntBy_22 := W_iload1 (M := mX9_burntBy) dX9_burntBy_22 (q := 23) rfl
def rX9_burntBy_23 := W_icmp_gt (M := mX9_burntBy) dX9_burntBy_23 (q := 26) rfl (t := 32) rfl
def rX9_burntBy_26 := W_iconst (M := mX9_burntBy) dX9_burntBy_26 (q := 27) rfl (v := (1)) rfl
def rX9_burntBy_27 := W_iload3 (M := mX9_burntBy) dX9_burntBy_27 (q := 28) rfl
def rX9_burntBy_28 := W_ishl (M := mX9_burntBy) dX9_burntBy_28 (q := 29) rfl
def rX9_burntBy_29 := W_goto (M := mX9_burntBy) dX9_burntBy_29 (t := 33) rfl
def rX9_burntBy_32 := W_iconst (M := mX9_burntBy) dX9_burntBy_32 (q := 33) rfl (v := (0)) rfl
def rX9_burntBy_33 := W_ior (M := mX9_burntBy) dX9_burntBy_33 (q := 34) rfl
def rX9_burntBy_34 := W_istore2 (M := mX9_burntBy) dX9_burntBy_34 (q := 35) rfl
def rX9_burntBy_35 := W_iinc3 (M := mX9_burntBy) dX9_burntBy_35 (q := 38) rfl (v := (1)) rfl
def rX9_burntBy_38 := W_goto (M := mX9_burntBy) dX9_burntBy_38 (t := 4) rfl
def rX9_burntBy_41 := W_iload2 (M := mX9_burntBy) dX9_burntBy_41 (q := 42) rfl
def rX9_burntBy_42 := W_iret (M := mX9_burntBy) dX9_burntBy_42 rfl
-- X9_byteAt
theorem eX9_byteAt {d : Nat} {h : qH} {Q : Option (Option Value) → qH → Prop} {s0 : Nat} {x1 : Int32} : WM d mX9_byteAt [.ref s0, .int x1] h Q = WP d mX9_byteAt (0, 0) 0 [some (.ref s0), some (.int x1)] [] h Q := rfl
def rX9_byteAt_0 := W_iload1 (M := mX9_byteAt) dX9_byteAt_0 (q := 1) rfl
def rX9_byteAt_1 := W_aload0 (M := mX9_byteAt) dX9_byteAt_1 (q := 2) rfl
def rX9_byteAt_1b := W_aloadR0 (M := mX9_byteAt) dX9_byteAt_1 (q := 2) rfl
def rX9_byteAt_2 := W_getI (M := mX9_byteAt) dX9_byteAt_2 (q := 5) rfl fl9_69 (Or.inl rfl)
def rX9_byteAt_5 := W_icmp_ge (M := mX9_byteAt) dX9_byteAt_5 (q := 8) rfl (t := 21) rfl
def rX9_byteAt_8 := W_aload0 (M := mX9_byteAt) dX9_byteAt_8 (q := 9) rfl
def rX9_byteAt_8b := W_aloadR0 (M := mX9_byteAt) dX9_byteAt_8 (q := 9) rfl
def rX9_byteAt_9 := W_getA (M := mX9_byteAt) dX9_byteAt_9 (q := 12) rfl fl9_13 ⟨_, rfl⟩
def rX9_byteAt_12 := W_iload1 (M := mX9_byteAt) dX9_byteAt_12 (q := 13) rfl
def rX9_byteAt_13 := W_bald (M := mX9_byteAt) dX9_byteAt_13 (q := 14) rfl
def rX9_byteAt_14 := W_sipush (M := mX9_byteAt) dX9_byteAt_14 (q := 17) rfl (v := (255)) rfl
def rX9_byteAt_17 := W_iand (M := mX9_byteAt) dX9_byteAt_17 (q := 18) rfl
def rX9_byteAt_18 := W_goto (M := mX9_byteAt) dX9_byteAt_18 (t := 22) rfl
def rX9_byteAt_21 := W_iconst (M := mX9_byteAt) dX9_byteAt_21 (q := 22) rfl (v := (-1)) rfl
def rX9_byteAt_22 := W_iret (M := mX9_byteAt) dX9_byteAt_22 rfl
-- X9_chances
theorem eX9_chances {d : Nat} {h : qH} {Q : Option (Option Value) → qH → Prop} {s0 : Nat} {x1 : Int32} : WM d mX9_chances [.ref s0, .int x1] h Q = WP d mX9_chances (0, 0) 0 [some (.ref s0), some (.int x1), none, none, none, none, none] [] h Q := rfl
def rX9_chances_0 := W_aload0 (M := mX9_chances) dX9_chances_0 (q := 1) rfl
def rX9_chances_0b := W_aloadR0 (M := mX9_chances) dX9_chances_0 (q := 1) rfl
def rX9_chances_1 := W_lconst (M := mX9_chances) dX9_chances_1 (q := 2) rfl (v := 1) rfl
def rX9_chances_2 := W_putJ (M := mX9_chances) dX9_chances_2 (q := 5) rfl fl9_428 rfl (Or.inl rfl)
def rX9_chances_5 := W_aload0 (M := mX9_chances) dX9_chances_5 (q := 6) rfl
def rX9_chances_5b := W_aloadR0 (M := mX9_chances) dX9_chances_5 (q := 6) rfl
def rX9_chances_6 := W_lconst (M := mX9_chances) dX9_chances_6 (q := 7) rfl (v := 0) rfl
def rX9_chances_7 := W_putJ (M := mX9_chances) dX9_chances_7 (q := 10) rfl fl9_431 rfl (Or.inl rfl)
def rX9_chances_10 := W_aload0 (M := mX9_chances) dX9_chances_10 (q := 11) rfl
def rX9_chances_10b := W_aloadR0 (M := mX9_chances) dX9_chances_10 (q := 11) rfl
def rX9_chances_11 := W_lconst (M := mX9_chances) dX9_chances_11 (q := 12) rfl (v := 0) rfl
def rX9_chances_12 := W_putJ (M := mX9_chances) dX9_chances_12 (q := 15) rfl fl9_434 rfl (Or.inl rfl)
def rX9_chances_15 := W_iconst (M := mX9_chances) dX9_chances_15 (q := 16) rfl (v := (0)) rfl
def rX9_chances_16 := W_istore2 (M := mX9_chances) dX9_chances_16 (q := 17) rfl
def rX9_chances_17 := W_iload2 (M := mX9_chances) dX9_chances_17 (q := 18) rfl
def rX9_chances_18 := W_bipush (M := mX9_chances) dX9_chances_18 (q := 20) rfl (v := (6)) rfl
def rX9_chances_20 := W_icmp_ge (M := mX9_chances) dX9_chances_20 (q := 23) rfl (t := 36) rfl
def rX9_chances_23 := W_aload0 (M := mX9_chances) dX9_chances_23 (q := 24) rfl
def rX9_chances_23b := W_aloadR0 (M := mX9_chances) dX9_chances_23 (q := 24) rfl
def rX9_chances_24 := W_getA (M := mX9_chances) dX9_chances_24 (q := 27) rfl fl9_45 ⟨_, rfl⟩
def rX9_chances_27 := W_iload2 (M := mX9_chances) dX9_chances_27 (q := 28) rfl
def rX9_chances_28 := W_lconst (M := mX9_chances) dX9_chances_28 (q := 29) rfl (v := 0) rfl
def rX9_chances_29 := W_last (M := mX9_chances) dX9_chances_29 (q := 30) rfl
def rX9_chances_30 := W_iinc2 (M := mX9_chances) dX9_chances_30 (q := 33) rfl (v := (1)) rfl
def rX9_chances_33 := W_goto (M := mX9_chances) dX9_chances_33 (t := 17) rfl
def rX9_chances_36 := W_iconst (M := mX9_chances) dX9_chances_36 (q := 37) rfl (v := (0)) rfl
def rX9_chances_37 := W_istore2 (M := mX9_chances) dX9_chances_37 (q := 38) rfl
def rX9_chances_38 := W_iload2 (M := mX9_chances) dX9_chances_38 (q := 39) rfl
def rX9_chances_39 := W_aload0 (M := mX9_chances) dX9_chances_39 (q := 40) rfl
def rX9_chances_39b := W_aloadR0 (M := mX9_chances) dX9_chances_39 (q := 40) rfl
def rX9_chances_40 := W_getR (M := mX9_chances) dX9_chances_40 (q := 43) rfl fl9_316 ⟨_, rfl⟩
def rX9_chances_43 := W_getI (M := mX9_chances) dX9_chances_43 (q := 46) rfl fl9_187 (Or.inl rfl)
def rX9_chances_46 := W_icmp_ge (M := mX9_chances) dX9_chances_46 (q := 49) rfl (t := 82) rfl
def rX9_chances_49 := W_aload0 (M := mX9_chances) dX9_chances_49 (q := 50) rfl
def rX9_chances_49b := W_aloadR0 (M := mX9_chances) dX9_chances_49 (q := 50) rfl
def rX9_chances_50 := W_dupI (M := mX9_chances) dX9_chances_50 (q := 51) rfl
def rX9_chances_50b := W_dupR (M := mX9_chances) dX9_chances_50 (q := 51) rfl
def rX9_chances_51 := W_getJ (M := mX9_chances) dX9_chances_51 (q := 54) rfl fl9_428 rfl
def rX9_chances_54 := W_aload0 (M := mX9_chances) dX9_chances_54 (q := 55) rfl
def rX9_chances_54b := W_aloadR0 (M := mX9_chances) dX9_chances_54 (q := 55) rfl
def rX9_chances_55 := W_getA (M := mX9_chances) dX9_chances_55 (q := 58) rfl fl9_17 ⟨_, rfl⟩
def rX9_chances_58 := W_iload2 (M := mX9_chances) dX9_chances_58 (q := 59) rfl
def rX9_chances_59 := W_iald (M := mX9_chances) dX9_chances_59 (q := 60) rfl
def rX9_chances_60 := W_bipush (M := mX9_chances) dX9_chances_60 (q := 62) rfl (v := (-2)) rfl
def rX9_chances_62 := W_icmp_ne (M := mX9_chances) dX9_chances_62 (q := 65) rfl (t := 69) rfl
def rX9_chances_65 := W_lconst (M := mX9_chances) dX9_chances_65 (q := 66) rfl (v := 1) rfl
def rX9_chances_66 := W_goto (M := mX9_chances) dX9_chances_66 (t := 72) rfl
def rX9_chances_69 := W_ldc2_w (M := mX9_chances) dX9_chances_69 (q := 72) rfl cj9_437
def rX9_chances_72 := W_lmul (M := mX9_chances) dX9_chances_72 (q := 73) rfl
def rX9_chances_73 := W_putJ (M := mX9_chances) dX9_chances_73 (q := 76) rfl fl9_428 rfl (Or.inl rfl)
def rX9_chances_76 := W_iinc2 (M := mX9_chances) dX9_chances_76 (q := 79) rfl (v := (1)) rfl
def rX9_chances_79 := W_goto (M := mX9_chances) dX9_chances_79 (t := 38) rfl
def rX9_chances_82 := W_iconst (M := mX9_chances) dX9_chances_82 (q := 83) rfl (v := (0)) rfl
def rX9_chances_83 := W_istore2 (M := mX9_chances) dX9_chances_83 (q := 84) rfl
def rX9_chances_84 := W_iload2 (M := mX9_chances) dX9_chances_84 (q := 85) rfl
def rX9_chances_85 := W_iconst (M := mX9_chances) dX9_chances_85 (q := 86) rfl (v := (1)) rfl
def rX9_chances_86 := W_aload0 (M := mX9_chances) dX9_chances_86 (q := 87) rfl
def rX9_chances_86b := W_aloadR0 (M := mX9_chances) dX9_chances_86 (q := 87) rfl
def rX9_chances_87 := W_getR (M := mX9_chances) dX9_chances_87 (q := 90) rfl fl9_316 ⟨_, rfl⟩
def rX9_chances_90 := W_getI (M := mX9_chances) dX9_chances_90 (q := 93) rfl fl9_187 (Or.inl rfl)
def rX9_chances_93 := W_ishl (M := mX9_chances) dX9_chances_93 (q := 94) rfl
def rX9_chances_94 := W_icmp_ge (M := mX9_chances) dX9_chances_94 (q := 97) rfl (t := 322) rfl
def rX9_chances_97 := W_lconst (M := mX9_chances) dX9_chances_97 (q := 98) rfl (v := 1) rfl
def rX9_chances_98 := W_lstore3 (M := mX9_chances) dX9_chances_98 (q := 99) rfl
def rX9_chances_99 := W_aload0 (M := mX9_chances) dX9_chances_99 (q := 100) rfl
def rX9_chances_99b := W_aloadR0 (M := mX9_chances) dX9_chances_99 (q := 100) rfl
def rX9_chances_100 := W_invV0 (M := mX9_chances) dX9_chances_100 (q := 103) rfl ml0_9_342 rfl
def rX9_chances_103 := W_iconst (M := mX9_chances) dX9_chances_103 (q := 104) rfl (v := (0)) rfl
def rX9_chances_104 := W_istore5 (M := mX9_chances) dX9_chances_104 (q := 106) rfl
def rX9_chances_106 := W_iload5 (M := mX9_chances) dX9_chances_106 (q := 108) rfl
def rX9_chances_108 := W_aload0 (M := mX9_chances) dX9_chances_108 (q := 109) rfl
def rX9_chances_108b := W_aloadR0 (M := mX9_chances) dX9_chances_108 (q := 109) rfl
def rX9_chances_109 := W_getR (M := mX9_chances) dX9_chances_109 (q := 112) rfl fl9_316 ⟨_, rfl⟩
def rX9_chances_112 := W_getI (M := mX9_chances) dX9_chances_112 (q := 115) rfl fl9_187 (Or.inl rfl)
def rX9_chances_115 := W_icmp_ge (M := mX9_chances) dX9_chances_115 (q := 118) rfl (t := 214) rfl
def rX9_chances_118 := W_aload0 (M := mX9_chances) dX9_chances_118 (q := 119) rfl
def rX9_chances_118b := W_aloadR0 (M := mX9_chances) dX9_chances_118 (q := 119) rfl
def rX9_chances_119 := W_getA (M := mX9_chances) dX9_chances_119 (q := 122) rfl fl9_17 ⟨_, rfl⟩
def rX9_chances_122 := W_iload5 (M := mX9_chances) dX9_chances_122 (q := 124) rfl
def rX9_chances_124 := W_iald (M := mX9_chances) dX9_chances_124 (q := 125) rfl
def rX9_chances_125 := W_bipush (M := mX9_chances) dX9_chances_125 (q := 127) rfl (v := (-2)) rfl
def rX9_chances_127 := W_icmp_ne (M := mX9_chances) dX9_chances_127 (q := 130) rfl (t := 150) rfl
def rX9_chances_130 := W_lload3 (M := mX9_chances) dX9_chances_130 (q := 131) rfl
def rX9_chances_131 := W_iload2 (M := mX9_chances) dX9_chances_131 (q := 132) rfl
def rX9_chances_132 := W_iload5 (M := mX9_chances) dX9_chances_132 (q := 134) rfl
def rX9_chances_134 := W_invS2 (M := mX9_chances) dX9_chances_134 (q := 137) rfl ml1_9_281 rfl rfl rfl
def rX9_chances_137 := W_if_eq (M := mX9_chances) dX9_chances_137 (q := 140) rfl (t := 144) rfl
def rX9_chances_140 := W_lconst (M := mX9_chances) dX9_chances_140 (q := 141) rfl (v := 0) rfl
def rX9_chances_141 := W_goto (M := mX9_chances) dX9_chances_141 (t := 145) rfl
def rX9_chances_144 := W_lconst (M := mX9_chances) dX9_chances_144 (q := 145) rfl (v := 1) rfl
def rX9_chances_145 := W_lmul (M := mX9_chances) dX9_chances_145 (q := 146) rfl
def rX9_chances_146 := W_lstore3 (M := mX9_chances) dX9_chances_146 (q := 147) rfl
def rX9_chances_147 := W_goto (M := mX9_chances) dX9_chances_147 (t := 190) rfl
def rX9_chances_150 := W_lload3 (M := mX9_chances) dX9_chances_150 (q := 151) rfl
def rX9_chances_151 := W_iload2 (M := mX9_chances) dX9_chances_151 (q := 152) rfl
def rX9_chances_152 := W_iload5 (M := mX9_chances) dX9_chances_152 (q := 154) rfl
def rX9_chances_154 := W_invS2 (M := mX9_chances) dX9_chances_154 (q := 157) rfl ml1_9_281 rfl rfl rfl
def rX9_chances_157 := W_if_eq (M := mX9_chances) dX9_chances_157 (q := 160) rfl (t := 174) rfl
def rX9_chances_160 := W_aload0 (M := mX9_chances) dX9_chances_160 (q := 161) rfl
def rX9_chances_160b := W_aloadR0 (M := mX9_chances) dX9_chances_160 (q := 161) rfl
def rX9_chances_161 := W_getR (M := mX9_chances) dX9_chances_161 (q := 164) rfl fl9_316 ⟨_, rfl⟩
def rX9_chances_164 := W_getA (M := mX9_chances) dX9_chances_164 (q := 167) rfl fl9_246 ⟨_, rfl⟩
def rX9_chances_167 := W_iload5 (M := mX9_chances) dX9_chances_167 (q := 169) rfl
def rX9_chances_169 := W_iald (M := mX9_chances) dX9_chances_169 (q := 170) rfl
def rX9_chances_170 := W_i2l (M := mX9_chances) dX9_chances_170 (q := 171) rfl
def rX9_chances_171 := W_goto (M := mX9_chances) dX9_chances_171 (t := 188) rfl
def rX9_chances_174 := W_bipush (M := mX9_chances) dX9_chances_174 (q := 176) rfl (v := (100)) rfl
def rX9_chances_176 := W_aload0 (M := mX9_chances) dX9_chances_176 (q := 177) rfl
def rX9_chances_176b := W_aloadR0 (M := mX9_chances) dX9_chances_176 (q := 177) rfl
def rX9_chances_177 := W_getR (M := mX9_chances) dX9_chances_177 (q := 180) rfl fl9_316 ⟨_, rfl⟩
def rX9_chances_180 := W_getA (M := mX9_chances) dX9_chances_180 (q := 183) rfl fl9_246 ⟨_, rfl⟩
def rX9_chances_183 := W_iload5 (M := mX9_chances) dX9_chances_183 (q := 185) rfl
def rX9_chances_185 := W_iald (M := mX9_chances) dX9_chances_185 (q := 186) rfl
def rX9_chances_186 := W_isub (M := mX9_chances) dX9_chances_186 (q := 187) rfl
def rX9_chances_187 := W_i2l (M := mX9_chances) dX9_chances_187 (q := 188) rfl
def rX9_chances_188 := W_lmul (M := mX9_chances) dX9_chances_188 (q := 189) rfl
def rX9_chances_189 := W_lstore3 (M := mX9_chances) dX9_chances_189 (q := 190) rfl
def rX9_chances_190 := W_iload2 (M := mX9_chances) dX9_chances_190 (q := 191) rfl
def rX9_chances_191 := W_iload5 (M := mX9_chances) dX9_chances_191 (q := 193) rfl
def rX9_chances_193 := W_invS2 (M := mX9_chances) dX9_chances_193 (q := 196) rfl ml1_9_281 rfl rfl rfl
def rX9_chances_196 := W_if_ne (M := mX9_chances) dX9_chances_196 (q := 199) rfl (t := 208) rfl
def rX9_chances_199 := W_aload0 (M := mX9_chances) dX9_chances_199 (q := 200) rfl
def rX9_chances_199b := W_aloadR0 (M := mX9_chances) dX9_chances_199 (q := 200) rfl
def rX9_chances_200 := W_getA (M := mX9_chances) dX9_chances_200 (q := 203) rfl fl9_21 ⟨_, rfl⟩
def rX9_chances_203 := W_iload5 (M := mX9_chances) dX9_chances_203 (q := 205) rfl
def rX9_chances_205 := W_bipush (M := mX9_chances) dX9_chances_205 (q := 207) rfl (v := (-2)) rfl
def rX9_chances_207 := W_iast (M := mX9_chances) dX9_chances_207 (q := 208) rfl
def rX9_chances_208 := W_iinc5 (M := mX9_chances) dX9_chances_208 (q := 211) rfl (v := (1)) rfl
def rX9_chances_211 := W_goto (M := mX9_chances) dX9_chances_211 (t := 106) rfl
def rX9_chances_214 := W_lload3 (M := mX9_chances) dX9_chances_214 (q := 215) rfl
def rX9_chances_215 := W_lconst (M := mX9_chances) dX9_chances_215 (q := 216) rfl (v := 0) rfl
def rX9_chances_216 := W_lcmp (M := mX9_chances) dX9_chances_216 (q := 217) rfl
def rX9_chances_217 := W_if_ne (M := mX9_chances) dX9_chances_217 (q := 220) rfl (t := 223) rfl
def rX9_chances_220 := W_goto (M := mX9_chances) dX9_chances_220 (t := 316) rfl
def rX9_chances_223 := W_aload0 (M := mX9_chances) dX9_chances_223 (q := 224) rfl
def rX9_chances_223b := W_aloadR0 (M := mX9_chances) dX9_chances_223 (q := 224) rfl
def rX9_chances_224 := W_invV0 (M := mX9_chances) dX9_chances_224 (q := 227) rfl ml0_9_339 rfl
def rX9_chances_227 := W_aload0 (M := mX9_chances) dX9_chances_227 (q := 228) rfl
def rX9_chances_227b := W_aloadR0 (M := mX9_chances) dX9_chances_227 (q := 228) rfl
def rX9_chances_228 := W_iload1 (M := mX9_chances) dX9_chances_228 (q := 229) rfl
def rX9_chances_229 := W_invV1 (M := mX9_chances) dX9_chances_229 (q := 232) rfl ml0_9_333 rfl
def rX9_chances_232 := W_istore5 (M := mX9_chances) dX9_chances_232 (q := 234) rfl
def rX9_chances_234 := W_aload0 (M := mX9_chances) dX9_chances_234 (q := 235) rfl
def rX9_chances_234b := W_aloadR0 (M := mX9_chances) dX9_chances_234 (q := 235) rfl
def rX9_chances_235 := W_dupI (M := mX9_chances) dX9_chances_235 (q := 236) rfl
def rX9_chances_235b := W_dupR (M := mX9_chances) dX9_chances_235 (q := 236) rfl
def rX9_chances_236 := W_getJ (M := mX9_chances) dX9_chances_236 (q := 239) rfl fl9_431 rfl
def rX9_chances_239 := W_iload5 (M := mX9_chances) dX9_chances_239 (q := 241) rfl
def rX9_chances_241 := W_if_ne (M := mX9_chances) dX9_chances_241 (q := 244) rfl (t := 248) rfl
def rX9_chances_244 := W_lload3 (M := mX9_chances) dX9_chances_244 (q := 245) rfl
def rX9_chances_245 := W_goto (M := mX9_chances) dX9_chances_245 (t := 249) rfl
def rX9_chances_248 := W_lconst (M := mX9_chances) dX9_chances_248 (q := 249) rfl (v := 0) rfl
def rX9_chances_249 := W_ladd (M := mX9_chances) dX9_chances_249 (q := 250) rfl
def rX9_chances_250 := W_putJ (M := mX9_chances) dX9_chances_250 (q := 253) rfl fl9_431 rfl (Or.inl rfl)
def rX9_chances_253 := W_aload0 (M := mX9_chances) dX9_chances_253 (q := 254) rfl
def rX9_chances_253b := W_aloadR0 (M := mX9_chances) dX9_chances_253 (q := 254) rfl
def rX9_chances_254 := W_dupI (M := mX9_chances) dX9_chances_254 (q := 255) rfl
def rX9_chances_254b := W_dupR (M := mX9_chances) dX9_chances_254 (q := 255) rfl
def rX9_chances_255 := W_getJ (M := mX9_chances) dX9_chances_255 (q := 258) rfl fl9_434 rfl
def rX9_chances_258 := W_lload3 (M := mX9_chances) dX9_chances_258 (q := 259) rfl
def rX9_chances_259 := W_iload5 (M := mX9_chances) dX9_chances_259 (q := 261) rfl
def rX9_chances_261 := W_invS1 (M := mX9_chances) dX9_chances_261 (q := 264) rfl ml1_9_336 rfl rfl rfl
def rX9_chances_264 := W_i2l (M := mX9_chances) dX9_chances_264 (q := 265) rfl
def rX9_chances_265 := W_lmul (M := mX9_chances) dX9_chances_265 (q := 266) rfl
def rX9_chances_266 := W_ladd (M := mX9_chances) dX9_chances_266 (q := 267) rfl
def rX9_chances_267 := W_putJ (M := mX9_chances) dX9_chances_267 (q := 270) rfl fl9_434 rfl (Or.inl rfl)
def rX9_chances_270 := W_iconst (M := mX9_chances) dX9_chances_270 (q := 271) rfl (v := (0)) rfl
def rX9_chances_271 := W_istore6 (M := mX9_chances) dX9_chances_271 (q := 273) rfl
def rX9_chances_273 := W_iload6 (M := mX9_chances) dX9_chances_273 (q := 275) rfl
def rX9_chances_275 := W_aload0 (M := mX9_chances) dX9_chances_275 (q := 276) rfl
def rX9_chances_275b := W_aloadR0 (M := mX9_chances) dX9_chances_275 (q := 276) rfl
def rX9_chances_276 := W_getR (M := mX9_chances) dX9_chances_276 (q := 279) rfl fl9_316 ⟨_, rfl⟩
def rX9_chances_279 := W_getI (M := mX9_chances) dX9_chances_279 (q := 282) rfl fl9_187 (Or.inl rfl)
def rX9_chances_282 := W_icmp_ge (M := mX9_chances) dX9_chances_282 (q := 285) rfl (t := 316) rfl
def rX9_chances_285 := W_aload0 (M := mX9_chances) dX9_chances_285 (q := 286) rfl
def rX9_chances_285b := W_aloadR0 (M := mX9_chances) dX9_chances_285 (q := 286) rfl
def rX9_chances_286 := W_getA (M := mX9_chances) dX9_chances_286 (q := 289) rfl fl9_45 ⟨_, rfl⟩
def rX9_chances_289 := W_iload6 (M := mX9_chances) dX9_chances_289 (q := 291) rfl
def rX9_chances_291 := W_dup2IR (M := mX9_chances) dX9_chances_291 (q := 292) rfl
def rX9_chances_292 := W_lald (M := mX9_chances) dX9_chances_292 (q := 293) rfl
def rX9_chances_293 := W_iload5 (M := mX9_chances) dX9_chances_293 (q := 295) rfl
def rX9_chances_295 := W_iload6 (M := mX9_chances) dX9_chances_295 (q := 297) rfl
def rX9_chances_297 := W_invS2 (M := mX9_chances) dX9_chances_297 (q := 300) rfl ml1_9_281 rfl rfl rfl
def rX9_chances_300 := W_if_eq (M := mX9_chances) dX9_chances_300 (q := 303) rfl (t := 307) rfl
def rX9_chances_303 := W_lload3 (M := mX9_chances) dX9_chances_303 (q := 304) rfl
def rX9_chances_304 := W_goto (M := mX9_chances) dX9_chances_304 (t := 308) rfl
def rX9_chances_307 := W_lconst (M := mX9_chances) dX9_chances_307 (q := 308) rfl (v := 0) rfl
def rX9_chances_308 := W_ladd (M := mX9_chances) dX9_chances_308 (q := 309) rfl
def rX9_chances_309 := W_last (M := mX9_chances) dX9_chances_309 (q := 310) rfl
def rX9_chances_310 := W_iinc6 (M := mX9_chances) dX9_chances_310 (q := 313) rfl (v := (1)) rfl
def rX9_chances_313 := W_goto (M := mX9_chances) dX9_chances_313 (t := 273) rfl
def rX9_chances_316 := W_iinc2 (M := mX9_chances) dX9_chances_316 (q := 319) rfl (v := (1)) rfl
def rX9_chances_319 := W_goto (M := mX9_chances) dX9_chances_319 (t := 84) rfl
def rX9_chances_322 := W_vret (M := mX9_chances) dX9_chances_322 rfl
-- X9_codes
theorem eX9_codes {d : Nat} {h : qH} {Q : Option (Option Value) → qH → Prop} {s0 : Nat} : WM d mX9_codes [.ref s0] h Q = WP d mX9_codes (0, 0) 0 [some (.ref s0), none, none] [] h Q := rfl
def rX9_codes_0 := W_iconst (M := mX9_codes) dX9_codes_0 (q := 1) rfl (v := (1)) rfl
def rX9_codes_1 := W_istore1 (M := mX9_codes) dX9_codes_1 (q := 2) rfl
def rX9_codes_2 := W_iconst (M := mX9_codes) dX9_codes_2 (q := 3) rfl (v := (0)) rfl
def rX9_codes_3 := W_istore2 (M := mX9_codes) dX9_codes_3 (q := 4) rfl
def rX9_codes_4 := W_iload2 (M := mX9_codes) dX9_codes_4 (q := 5) rfl
def rX9_codes_5 := W_aload0 (M := mX9_codes) dX9_codes_5 (q := 6) rfl
def rX9_codes_5b := W_aloadR0 (M := mX9_codes) dX9_codes_5 (q := 6) rfl
def rX9_codes_6 := W_invV0 (M := mX9_codes) dX9_codes_6 (q := 9) rfl ml0_9_379 rfl
def rX9_codes_9 := W_icmp_ge (M := mX9_codes) dX9_codes_9 (q := 12) rfl (t := 28) rfl
def rX9_codes_12 := W_iload1 (M := mX9_codes) dX9_codes_12 (q := 13) rfl
def rX9_codes_13 := W_aload0 (M := mX9_codes) dX9_codes_13 (q := 14) rfl
def rX9_codes_13b := W_aloadR0 (M := mX9_codes) dX9_codes_13 (q := 14) rfl
def rX9_codes_14 := W_getR (M := mX9_codes) dX9_codes_14 (q := 17) rfl fl9_316 ⟨_, rfl⟩
def rX9_codes_17 := W_getI (M := mX9_codes) dX9_codes_17 (q := 20) rfl fl9_187 (Or.inl rfl)
def rX9_codes_20 := W_imul (M := mX9_codes) dX9_codes_20 (q := 21) rfl
def rX9_codes_21 := W_istore1 (M := mX9_codes) dX9_codes_21 (q := 22) rfl
def rX9_codes_22 := W_iinc2 (M := mX9_codes) dX9_codes_22 (q := 25) rfl (v := (1)) rfl
def rX9_codes_25 := W_goto (M := mX9_codes) dX9_codes_25 (t := 4) rfl
def rX9_codes_28 := W_iload1 (M := mX9_codes) dX9_codes_28 (q := 29) rfl
def rX9_codes_29 := W_iret (M := mX9_codes) dX9_codes_29 rfl
-- X9_common
theorem eX9_common {d : Nat} {h : qH} {Q : Option (Option Value) → qH → Prop} {x1 : Int64} {x2 : Int64} : WM d mX9_common [.long x1, .long x2] h Q = WP d mX9_common (0, 0) 0 [some (.long x1), none, some (.long x2), none, none, none, none, none, none, none] [] h Q := rfl
def rX9_common_0 := W_lload0 (M := mX9_common) dX9_common_0 (q := 1) rfl
def rX9_common_1 := W_lstore4 (M := mX9_common) dX9_common_1 (q := 3) rfl
def rX9_common_3 := W_lload2 (M := mX9_common) dX9_common_3 (q := 4) rfl
def rX9_common_4 := W_lstore6 (M := mX9_common) dX9_common_4 (q := 6) rfl
def rX9_common_6 := W_lload6 (M := mX9_common) dX9_common_6 (q := 8) rfl
def rX9_common_8 := W_lconst (M := mX9_common) dX9_common_8 (q := 9) rfl (v := 0) rfl
def rX9_common_9 := W_lcmp (M := mX9_common) dX9_common_9 (q := 10) rfl
def rX9_common_10 := W_if_eq (M := mX9_common) dX9_common_10 (q := 13) rfl (t := 31) rfl
def rX9_common_13 := W_lload4 (M := mX9_common) dX9_common_13 (q := 15) rfl
def rX9_common_15 := W_lload6 (M := mX9_common) dX9_common_15 (q := 17) rfl
def rX9_common_17 := W_lrem (M := mX9_common) dX9_common_17 (q := 18) rfl
def rX9_common_18 := W_lstore8 (M := mX9_common) dX9_common_18 (q := 20) rfl
def rX9_common_20 := W_lload6 (M := mX9_common) dX9_common_20 (q := 22) rfl
def rX9_common_22 := W_lstore4 (M := mX9_common) dX9_common_22 (q := 24) rfl
def rX9_common_24 := W_lload8 (M := mX9_common) dX9_common_24 (q := 26) rfl
def rX9_common_26 := W_lstore6 (M := mX9_common) dX9_common_26 (q := 28) rfl
def rX9_common_28 := W_goto (M := mX9_common) dX9_common_28 (t := 6) rfl
def rX9_common_31 := W_lload4 (M := mX9_common) dX9_common_31 (q := 33) rfl
def rX9_common_33 := W_lret (M := mX9_common) dX9_common_33 rfl
-- X9_couldRing
theorem eX9_couldRing {d : Nat} {h : qH} {Q : Option (Option Value) → qH → Prop} {s0 : Nat} : WM d mX9_couldRing [.ref s0] h Q = WP d mX9_couldRing (0, 0) 0 [some (.ref s0), none, none, none] [] h Q := rfl
def rX9_couldRing_0 := W_aload0 (M := mX9_couldRing) dX9_couldRing_0 (q := 1) rfl
def rX9_couldRing_0b := W_aloadR0 (M := mX9_couldRing) dX9_couldRing_0 (q := 1) rfl
def rX9_couldRing_1 := W_iconst (M := mX9_couldRing) dX9_couldRing_1 (q := 2) rfl (v := (0)) rfl
def rX9_couldRing_2 := W_putI (M := mX9_couldRing) dX9_couldRing_2 (q := 5) rfl fl9_52 rfl (Or.inl rfl)
def rX9_couldRing_5 := W_aload0 (M := mX9_couldRing) dX9_couldRing_5 (q := 6) rfl
def rX9_couldRing_5b := W_aloadR0 (M := mX9_couldRing) dX9_couldRing_5 (q := 6) rfl
def rX9_couldRing_6 := W_getR (M := mX9_couldRing) dX9_couldRing_6 (q := 9) rfl fl9_316 ⟨_, rfl⟩
def rX9_couldRing_9 := W_ifnonnull (M := mX9_couldRing) dX9_couldRing_9 (q := 12) rfl (t := 18) rfl
def rX9_couldRing_9b := W_ifnonnullN (M := mX9_couldRing) dX9_couldRing_9 (q := 12) rfl (t := 18) rfl
def rX9_couldRing_12 := W_aload0 (M := mX9_couldRing) dX9_couldRing_12 (q := 13) rfl
def rX9_couldRing_12b := W_aloadR0 (M := mX9_couldRing) dX9_couldRing_12 (q := 13) rfl
def rX9_couldRing_13 := W_iconst (M := mX9_couldRing) dX9_couldRing_13 (q := 14) rfl (v := (1)) rfl
def rX9_couldRing_14 := W_invV1 (M := mX9_couldRing) dX9_couldRing_14 (q := 17) rfl ml0_9_58 rfl
def rX9_couldRing_17 := W_iret (M := mX9_couldRing) dX9_couldRing_17 rfl
def rX9_couldRing_18 := W_iconst (M := mX9_couldRing) dX9_couldRing_18 (q := 19) rfl (v := (0)) rfl
def rX9_couldRing_19 := W_istore1 (M := mX9_couldRing) dX9_couldRing_19 (q := 20) rfl
def rX9_couldRing_20 := W_iconst (M := mX9_couldRing) dX9_couldRing_20 (q := 21) rfl (v := (0)) rfl
def rX9_couldRing_21 := W_istore2 (M := mX9_couldRing) dX9_couldRing_21 (q := 22) rfl
def rX9_couldRing_22 := W_iload2 (M := mX9_couldRing) dX9_couldRing_22 (q := 23) rfl
def rX9_couldRing_23 := W_aload0 (M := mX9_couldRing) dX9_couldRing_23 (q := 24) rfl
def rX9_couldRing_23b := W_aloadR0 (M := mX9_couldRing) dX9_couldRing_23 (q := 24) rfl
def rX9_couldRing_24 := W_invV0 (M := mX9_couldRing) dX9_couldRing_24 (q := 27) rfl ml0_9_382 rfl
def rX9_couldRing_27 := W_icmp_ge (M := mX9_couldRing) dX9_couldRing_27 (q := 30) rfl (t := 89) rfl
def rX9_couldRing_30 := W_aload0 (M := mX9_couldRing) dX9_couldRing_30 (q := 31) rfl
def rX9_couldRing_30b := W_aloadR0 (M := mX9_couldRing) dX9_couldRing_30 (q := 31) rfl
def rX9_couldRing_31 := W_iload2 (M := mX9_couldRing) dX9_couldRing_31 (q := 32) rfl
def rX9_couldRing_32 := W_invV1 (M := mX9_couldRing) dX9_couldRing_32 (q := 35) rfl ml0_9_385 rfl
def rX9_couldRing_35 := W_if_ne (M := mX9_couldRing) dX9_couldRing_35 (q := 38) rfl (t := 41) rfl
def rX9_couldRing_38 := W_goto (M := mX9_couldRing) dX9_couldRing_38 (t := 83) rfl
def rX9_couldRing_41 := W_iconst (M := mX9_couldRing) dX9_couldRing_41 (q := 42) rfl (v := (0)) rfl
def rX9_couldRing_42 := W_istore3 (M := mX9_couldRing) dX9_couldRing_42 (q := 43) rfl
def rX9_couldRing_43 := W_iload3 (M := mX9_couldRing) dX9_couldRing_43 (q := 44) rfl
def rX9_couldRing_44 := W_aload0 (M := mX9_couldRing) dX9_couldRing_44 (q := 45) rfl
def rX9_couldRing_44b := W_aloadR0 (M := mX9_couldRing) dX9_couldRing_44 (q := 45) rfl
def rX9_couldRing_45 := W_invV0 (M := mX9_couldRing) dX9_couldRing_45 (q := 48) rfl ml0_9_379 rfl
def rX9_couldRing_48 := W_icmp_ge (M := mX9_couldRing) dX9_couldRing_48 (q := 51) rfl (t := 83) rfl
def rX9_couldRing_51 := W_iload1 (M := mX9_couldRing) dX9_couldRing_51 (q := 52) rfl
def rX9_couldRing_52 := W_aload0 (M := mX9_couldRing) dX9_couldRing_52 (q := 53) rfl
def rX9_couldRing_52b := W_aloadR0 (M := mX9_couldRing) dX9_couldRing_52 (q := 53) rfl
def rX9_couldRing_53 := W_getA (M := mX9_couldRing) dX9_couldRing_53 (q := 56) rfl fl9_39 ⟨_, rfl⟩
def rX9_couldRing_56 := W_iload3 (M := mX9_couldRing) dX9_couldRing_56 (q := 57) rfl
def rX9_couldRing_57 := W_iald (M := mX9_couldRing) dX9_couldRing_57 (q := 58) rfl
def rX9_couldRing_58 := W_bipush (M := mX9_couldRing) dX9_couldRing_58 (q := 60) rfl (v := (-2)) rfl
def rX9_couldRing_60 := W_icmp_ne (M := mX9_couldRing) dX9_couldRing_60 (q := 63) rfl (t := 67) rfl
def rX9_couldRing_63 := W_iconst (M := mX9_couldRing) dX9_couldRing_63 (q := 64) rfl (v := (0)) rfl
def rX9_couldRing_64 := W_goto (M := mX9_couldRing) dX9_couldRing_64 (t := 75) rfl
def rX9_couldRing_67 := W_iconst (M := mX9_couldRing) dX9_couldRing_67 (q := 68) rfl (v := (1)) rfl
def rX9_couldRing_68 := W_aload0 (M := mX9_couldRing) dX9_couldRing_68 (q := 69) rfl
def rX9_couldRing_68b := W_aloadR0 (M := mX9_couldRing) dX9_couldRing_68 (q := 69) rfl
def rX9_couldRing_69 := W_getA (M := mX9_couldRing) dX9_couldRing_69 (q := 72) rfl fl9_39 ⟨_, rfl⟩
def rX9_couldRing_72 := W_iload3 (M := mX9_couldRing) dX9_couldRing_72 (q := 73) rfl
def rX9_couldRing_73 := W_iald (M := mX9_couldRing) dX9_couldRing_73 (q := 74) rfl
def rX9_couldRing_74 := W_ishl (M := mX9_couldRing) dX9_couldRing_74 (q := 75) rfl
def rX9_couldRing_75 := W_ior (M := mX9_couldRing) dX9_couldRing_75 (q := 76) rfl
def rX9_couldRing_76 := W_istore1 (M := mX9_couldRing) dX9_couldRing_76 (q := 77) rfl
def rX9_couldRing_77 := W_iinc3 (M := mX9_couldRing) dX9_couldRing_77 (q := 80) rfl (v := (1)) rfl
def rX9_couldRing_80 := W_goto (M := mX9_couldRing) dX9_couldRing_80 (t := 43) rfl
def rX9_couldRing_83 := W_iinc2 (M := mX9_couldRing) dX9_couldRing_83 (q := 86) rfl (v := (1)) rfl
def rX9_couldRing_86 := W_goto (M := mX9_couldRing) dX9_couldRing_86 (t := 22) rfl
def rX9_couldRing_89 := W_aload0 (M := mX9_couldRing) dX9_couldRing_89 (q := 90) rfl
def rX9_couldRing_89b := W_aloadR0 (M := mX9_couldRing) dX9_couldRing_89 (q := 90) rfl
def rX9_couldRing_90 := W_iload1 (M := mX9_couldRing) dX9_couldRing_90 (q := 91) rfl
def rX9_couldRing_91 := W_invV1 (M := mX9_couldRing) dX9_couldRing_91 (q := 94) rfl ml0_9_62 rfl
def rX9_couldRing_94 := W_iret (M := mX9_couldRing) dX9_couldRing_94 rfl
-- X9_day
theorem eX9_day {d : Nat} {h : qH} {Q : Option (Option Value) → qH → Prop} {s0 : Nat} : WM d mX9_day [.ref s0] h Q = WP d mX9_day (0, 0) 0 [some (.ref s0)] [] h Q := rfl
def rX9_day_0 := W_aload0 (M := mX9_day) dX9_day_0 (q := 1) rfl
def rX9_day_0b := W_aloadR0 (M := mX9_day) dX9_day_0 (q := 1) rfl
def rX9_day_1 := W_iconst (M := mX9_day) dX9_day_1 (q := 2) rfl (v := (0)) rfl
def rX9_day_2 := W_putI (M := mX9_day) dX9_day_2 (q := 5) rfl fl9_52 rfl (Or.inl rfl)
def rX9_day_5 := W_aload0 (M := mX9_day) dX9_day_5 (q := 6) rfl
def rX9_day_5b := W_aloadR0 (M := mX9_day) dX9_day_5 (q := 6) rfl
def rX9_day_6 := W_getR (M := mX9_day) dX9_day_6 (q := 9) rfl fl9_316 ⟨_, rfl⟩
def rX9_day_9 := W_ifnonnull (M := mX9_day) dX9_day_9 (q := 12) rfl (t := 18) rfl
def rX9_day_9b := W_ifnonnullN (M := mX9_day) dX9_day_9 (q := 12) rfl (t := 18) rfl
def rX9_day_12 := W_aload0 (M := mX9_day) dX9_day_12 (q := 13) rfl
def rX9_day_12b := W_aloadR0 (M := mX9_day) dX9_day_12 (q := 13) rfl
def rX9_day_13 := W_iconst (M := mX9_day) dX9_day_13 (q := 14) rfl (v := (1)) rfl
def rX9_day_14 := W_invV1 (M := mX9_day) dX9_day_14 (q := 17) rfl ml0_9_58 rfl
def rX9_day_17 := W_iret (M := mX9_day) dX9_day_17 rfl
def rX9_day_18 := W_aload0 (M := mX9_day) dX9_day_18 (q := 19) rfl
def rX9_day_18b := W_aloadR0 (M := mX9_day) dX9_day_18 (q := 19) rfl
def rX9_day_19 := W_getA (M := mX9_day) dX9_day_19 (q := 22) rfl fl9_17 ⟨_, rfl⟩
def rX9_day_22 := W_bipush (M := mX9_day) dX9_day_22 (q := 24) rfl (v := (9)) rfl
def rX9_day_24 := W_iald (M := mX9_day) dX9_day_24 (q := 25) rfl
def rX9_day_25 := W_bipush (M := mX9_day) dX9_day_25 (q := 27) rfl (v := (90)) rfl
def rX9_day_27 := W_icmp_ne (M := mX9_day) dX9_day_27 (q := 30) rfl (t := 36) rfl
def rX9_day_30 := W_aload0 (M := mX9_day) dX9_day_30 (q := 31) rfl
def rX9_day_30b := W_aloadR0 (M := mX9_day) dX9_day_30 (q := 31) rfl
def rX9_day_31 := W_iconst (M := mX9_day) dX9_day_31 (q := 32) rfl (v := (3)) rfl
def rX9_day_32 := W_invV1 (M := mX9_day) dX9_day_32 (q := 35) rfl ml0_9_58 rfl
def rX9_day_35 := W_iret (M := mX9_day) dX9_day_35 rfl
def rX9_day_36 := W_aload0 (M := mX9_day) dX9_day_36 (q := 37) rfl
def rX9_day_36b := W_aloadR0 (M := mX9_day) dX9_day_36 (q := 37) rfl
def rX9_day_37 := W_invV0 (M := mX9_day) dX9_day_37 (q := 40) rfl ml0_9_462 rfl
def rX9_day_40 := W_aload0 (M := mX9_day) dX9_day_40 (q := 41) rfl
def rX9_day_40b := W_aloadR0 (M := mX9_day) dX9_day_40 (q := 41) rfl
def rX9_day_41 := W_getA (M := mX9_day) dX9_day_41 (q := 44) rfl fl9_17 ⟨_, rfl⟩
def rX9_day_44 := W_bipush (M := mX9_day) dX9_day_44 (q := 46) rfl (v := (9)) rfl
def rX9_day_46 := W_dup2IR (M := mX9_day) dX9_day_46 (q := 47) rfl
def rX9_day_47 := W_iald (M := mX9_day) dX9_day_47 (q := 48) rfl
def rX9_day_48 := W_iconst (M := mX9_day) dX9_day_48 (q := 49) rfl (v := (1)) rfl
def rX9_day_49 := W_iadd (M := mX9_day) dX9_day_49 (q := 50) rfl
def rX9_day_50 := W_iast (M := mX9_day) dX9_day_50 (q := 51) rfl
def rX9_day_51 := W_aload0 (M := mX9_day) dX9_day_51 (q := 52) rfl
def rX9_day_51b := W_aloadR0 (M := mX9_day) dX9_day_51 (q := 52) rfl
def rX9_day_52 := W_invV0 (M := mX9_day) dX9_day_52 (q := 55) rfl ml0_9_348 rfl
def rX9_day_55 := W_aload0 (M := mX9_day) dX9_day_55 (q := 56) rfl
def rX9_day_55b := W_aloadR0 (M := mX9_day) dX9_day_55 (q := 56) rfl
def rX9_day_56 := W_aload0 (M := mX9_day) dX9_day_56 (q := 57) rfl
def rX9_day_56b := W_aloadR0 (M := mX9_day) dX9_day_56 (q := 57) rfl
def rX9_day_57 := W_aload0 (M := mX9_day) dX9_day_57 (q := 58) rfl
def rX9_day_57b := W_aloadR0 (M := mX9_day) dX9_day_57 (q := 58) rfl
def rX9_day_58 := W_getA (M := mX9_day) dX9_day_58 (q := 61) rfl fl9_17 ⟨_, rfl⟩
def rX9_day_61 := W_bipush (M := mX9_day) dX9_day_61 (q := 63) rfl (v := (9)) rfl
def rX9_day_63 := W_iald (M := mX9_day) dX9_day_63 (q := 64) rfl
def rX9_day_64 := W_invV1 (M := mX9_day) dX9_day_64 (q := 67) rfl ml0_9_333 rfl
def rX9_day_67 := W_aload0 (M := mX9_day) dX9_day_67 (q := 68) rfl
def rX9_day_67b := W_aloadR0 (M := mX9_day) dX9_day_67 (q := 68) rfl
def rX9_day_68 := W_aload0 (M := mX9_day) dX9_day_68 (q := 69) rfl
def rX9_day_68b := W_aloadR0 (M := mX9_day) dX9_day_68 (q := 69) rfl
def rX9_day_69 := W_getA (M := mX9_day) dX9_day_69 (q := 72) rfl fl9_17 ⟨_, rfl⟩
def rX9_day_72 := W_bipush (M := mX9_day) dX9_day_72 (q := 74) rfl (v := (9)) rfl
def rX9_day_74 := W_iald (M := mX9_day) dX9_day_74 (q := 75) rfl
def rX9_day_75 := W_iconst (M := mX9_day) dX9_day_75 (q := 76) rfl (v := (1)) rfl
def rX9_day_76 := W_isub (M := mX9_day) dX9_day_76 (q := 77) rfl
def rX9_day_77 := W_invV1 (M := mX9_day) dX9_day_77 (q := 80) rfl ml0_9_333 rfl
def rX9_day_80 := W_iconst (M := mX9_day) dX9_day_80 (q := 81) rfl (v := (-1)) rfl
def rX9_day_81 := W_ixor (M := mX9_day) dX9_day_81 (q := 82) rfl
def rX9_day_82 := W_iand (M := mX9_day) dX9_day_82 (q := 83) rfl
def rX9_day_83 := W_invV1 (M := mX9_day) dX9_day_83 (q := 86) rfl ml0_9_62 rfl
def rX9_day_86 := W_iret (M := mX9_day) dX9_day_86 rfl
-- X9_denied
theorem eX9_denied {d : Nat} {h : qH} {Q : Option (Option Value) → qH → Prop} {s0 : Nat} {x1 : Int32} : WM d mX9_denied [.ref s0, .int x1] h Q = WP d mX9_denied (0, 0) 0 [some (.ref s0), some (.int x1)] [] h Q := rfl
def rX9_denied_0 := W_aload0 (M := mX9_denied) dX9_denied_0 (q := 1) rfl
def rX9_denied_0b := W_aloadR0 (M := mX9_denied) dX9_denied_0 (q := 1) rfl
def rX9_denied_1 := W_iload1 (M := mX9_denied) dX9_denied_1 (q := 2) rfl
def rX9_denied_2 := W_invV1 (M := mX9_denied) dX9_denied_2 (q := 5) rfl ml0_9_58 rfl
def rX9_denied_5 := W_popI (M := mX9_denied) dX9_denied_5 (q := 6) rfl
def rX9_denied_6 := W_iconst (M := mX9_denied) dX9_denied_6 (q := 7) rfl (v := (0)) rfl
def rX9_denied_7 := W_zret (M := mX9_denied) dX9_denied_7 rfl
-- X9_dumbDay
theorem eX9_dumbDay {d : Nat} {h : qH} {Q : Option (Option Value) → qH → Prop} {s0 : Nat} : WM d mX9_dumbDay [.ref s0] h Q = WP d mX9_dumbDay (0, 0) 0 [some (.ref s0), none] [] h Q := rfl
def rX9_dumbDay_0 := W_aload0 (M := mX9_dumbDay) dX9_dumbDay_0 (q := 1) rfl
def rX9_dumbDay_0b := W_aloadR0 (M := mX9_dumbDay) dX9_dumbDay_0 (q := 1) rfl
def rX9_dumbDay_1 := W_iconst (M := mX9_dumbDay) dX9_dumbDay_1 (q := 2) rfl (v := (0)) rfl
def rX9_dumbDay_2 := W_putI (M := mX9_dumbDay) dX9_dumbDay_2 (q := 5) rfl fl9_52 rfl (Or.inl rfl)
def rX9_dumbDay_5 := W_aload0 (M := mX9_dumbDay) dX9_dumbDay_5 (q := 6) rfl
def rX9_dumbDay_5b := W_aloadR0 (M := mX9_dumbDay) dX9_dumbDay_5 (q := 6) rfl
def rX9_dumbDay_6 := W_getR (M := mX9_dumbDay) dX9_dumbDay_6 (q := 9) rfl fl9_316 ⟨_, rfl⟩
def rX9_dumbDay_9 := W_ifnonnull (M := mX9_dumbDay) dX9_dumbDay_9 (q := 12) rfl (t := 18) rfl
def rX9_dumbDay_9b := W_ifnonnullN (M := mX9_dumbDay) dX9_dumbDay_9 (q := 12) rfl (t := 18) rfl
def rX9_dumbDay_12 := W_aload0 (M := mX9_dumbDay) dX9_dumbDay_12 (q := 13) rfl
def rX9_dumbDay_12b := W_aloadR0 (M := mX9_dumbDay) dX9_dumbDay_12 (q := 13) rfl
def rX9_dumbDay_13 := W_iconst (M := mX9_dumbDay) dX9_dumbDay_13 (q := 14) rfl (v := (1)) rfl
def rX9_dumbDay_14 := W_invV1 (M := mX9_dumbDay) dX9_dumbDay_14 (q := 17) rfl ml0_9_58 rfl
def rX9_dumbDay_17 := W_iret (M := mX9_dumbDay) dX9_dumbDay_17 rfl
def rX9_dumbDay_18 := W_aload0 (M := mX9_dumbDay) dX9_dumbDay_18 (q := 19) rfl
def rX9_dumbDay_18b := W_aloadR0 (M := mX9_dumbDay) dX9_dumbDay_18 (q := 19) rfl
def rX9_dumbDay_19 := W_invV0 (M := mX9_dumbDay) dX9_dumbDay_19 (q := 22) rfl ml0_9_348 rfl
def rX9_dumbDay_22 := W_aload0 (M := mX9_dumbDay) dX9_dumbDay_22 (q := 23) rfl
def rX9_dumbDay_22b := W_aloadR0 (M := mX9_dumbDay) dX9_dumbDay_22 (q := 23) rfl
def rX9_dumbDay_23 := W_getA (M := mX9_dumbDay) dX9_dumbDay_23 (q := 26) rfl fl9_17 ⟨_, rfl⟩
def rX9_dumbDay_26 := W_bipush (M := mX9_dumbDay) dX9_dumbDay_26 (q := 28) rfl (v := (9)) rfl
def rX9_dumbDay_28 := W_iald (M := mX9_dumbDay) dX9_dumbDay_28 (q := 29) rfl
def rX9_dumbDay_29 := W_istore1 (M := mX9_dumbDay) dX9_dumbDay_29 (q := 30) rfl
def rX9_dumbDay_30 := W_iload1 (M := mX9_dumbDay) dX9_dumbDay_30 (q := 31) rfl
def rX9_dumbDay_31 := W_bipush (M := mX9_dumbDay) dX9_dumbDay_31 (q := 33) rfl (v := (90)) rfl
def rX9_dumbDay_33 := W_icmp_gt (M := mX9_dumbDay) dX9_dumbDay_33 (q := 36) rfl (t := 66) rfl
def rX9_dumbDay_36 := W_aload0 (M := mX9_dumbDay) dX9_dumbDay_36 (q := 37) rfl
def rX9_dumbDay_36b := W_aloadR0 (M := mX9_dumbDay) dX9_dumbDay_36 (q := 37) rfl
def rX9_dumbDay_37 := W_iload1 (M := mX9_dumbDay) dX9_dumbDay_37 (q := 38) rfl
def rX9_dumbDay_38 := W_invV1 (M := mX9_dumbDay) dX9_dumbDay_38 (q := 41) rfl ml0_9_358 rfl
def rX9_dumbDay_41 := W_bipush (M := mX9_dumbDay) dX9_dumbDay_41 (q := 43) rfl (v := (-2)) rfl
def rX9_dumbDay_43 := W_icmp_eq (M := mX9_dumbDay) dX9_dumbDay_43 (q := 46) rfl (t := 60) rfl
def rX9_dumbDay_46 := W_aload0 (M := mX9_dumbDay) dX9_dumbDay_46 (q := 47) rfl
def rX9_dumbDay_46b := W_aloadR0 (M := mX9_dumbDay) dX9_dumbDay_46 (q := 47) rfl
def rX9_dumbDay_47 := W_iload1 (M := mX9_dumbDay) dX9_dumbDay_47 (q := 48) rfl
def rX9_dumbDay_48 := W_invV1 (M := mX9_dumbDay) dX9_dumbDay_48 (q := 51) rfl ml0_9_370 rfl
def rX9_dumbDay_51 := W_if_ne (M := mX9_dumbDay) dX9_dumbDay_51 (q := 54) rfl (t := 60) rfl
def rX9_dumbDay_54 := W_aload0 (M := mX9_dumbDay) dX9_dumbDay_54 (q := 55) rfl
def rX9_dumbDay_54b := W_aloadR0 (M := mX9_dumbDay) dX9_dumbDay_54 (q := 55) rfl
def rX9_dumbDay_55 := W_iload1 (M := mX9_dumbDay) dX9_dumbDay_55 (q := 56) rfl
def rX9_dumbDay_56 := W_invV1 (M := mX9_dumbDay) dX9_dumbDay_56 (q := 59) rfl ml0_9_62 rfl
def rX9_dumbDay_59 := W_iret (M := mX9_dumbDay) dX9_dumbDay_59 rfl
def rX9_dumbDay_60 := W_iinc1 (M := mX9_dumbDay) dX9_dumbDay_60 (q := 63) rfl (v := (1)) rfl
def rX9_dumbDay_63 := W_goto (M := mX9_dumbDay) dX9_dumbDay_63 (t := 30) rfl
def rX9_dumbDay_66 := W_aload0 (M := mX9_dumbDay) dX9_dumbDay_66 (q := 67) rfl
def rX9_dumbDay_66b := W_aloadR0 (M := mX9_dumbDay) dX9_dumbDay_66 (q := 67) rfl
def rX9_dumbDay_67 := W_bipush (M := mX9_dumbDay) dX9_dumbDay_67 (q := 69) rfl (v := (-2)) rfl
def rX9_dumbDay_69 := W_invV1 (M := mX9_dumbDay) dX9_dumbDay_69 (q := 72) rfl ml0_9_62 rfl
def rX9_dumbDay_72 := W_iret (M := mX9_dumbDay) dX9_dumbDay_72 rfl
-- X9_eatsSemicolon
theorem eX9_eatsSemicolon {d : Nat} {h : qH} {Q : Option (Option Value) → qH → Prop} {s0 : Nat} : WM d mX9_eatsSemicolon [.ref s0] h Q = WP d mX9_eatsSemicolon (0, 0) 0 [some (.ref s0), none] [] h Q := rfl
def rX9_eatsSemicolon_0 := W_aload0 (M := mX9_eatsSemicolon) dX9_eatsSemicolon_0 (q := 1) rfl
def rX9_eatsSemicolon_0b := W_aloadR0 (M := mX9_eatsSemicolon) dX9_eatsSemicolon_0 (q := 1) rfl
def rX9_eatsSemicolon_1 := W_getI (M := mX9_eatsSemicolon) dX9_eatsSemicolon_1 (q := 4) rfl fl9_84 (Or.inl rfl)
def rX9_eatsSemicolon_4 := W_iconst (M := mX9_eatsSemicolon) dX9_eatsSemicolon_4 (q := 5) rfl (v := (4)) rfl
def rX9_eatsSemicolon_5 := W_icmp_ne (M := mX9_eatsSemicolon) dX9_eatsSemicolon_5 (q := 8) rfl (t := 12) rfl
def rX9_eatsSemicolon_8 := W_iconst (M := mX9_eatsSemicolon) dX9_eatsSemicolon_8 (q := 9) rfl (v := (1)) rfl
def rX9_eatsSemicolon_9 := W_goto (M := mX9_eatsSemicolon) dX9_eatsSemicolon_9 (t := 13) rfl
def rX9_eatsSemicolon_12 := W_iconst (M := mX9_eatsSemicolon) dX9_eatsSemicolon_12 (q := 13) rfl (v := (0)) rfl
def rX9_eatsSemicolon_13 := W_istore1 (M := mX9_eatsSemicolon) dX9_eatsSemicolon_13 (q := 14) rfl
def rX9_eatsSemicolon_14 := W_iload1 (M := mX9_eatsSemicolon) dX9_eatsSemicolon_14 (q := 15) rfl
def rX9_eatsSemicolon_15 := W_if_eq (M := mX9_eatsSemicolon) dX9_eatsSemicolon_15 (q := 18) rfl (t := 22) rfl
def rX9_eatsSemicolon_18 := W_aload0 (M := mX9_eatsSemicolon) dX9_eatsSemicolon_18 (q := 19) rfl
def rX9_eatsSemicolon_18b := W_aloadR0 (M := mX9_eatsSemicolon) dX9_eatsSemicolon_18 (q := 19) rfl
def rX9_eatsSemicolon_19 := W_invV0 (M := mX9_eatsSemicolon) dX9_eatsSemicolon_19 (q := 22) rfl ml0_9_120 rfl
def rX9_eatsSemicolon_22 := W_iload1 (M := mX9_eatsSemicolon) dX9_eatsSemicolon_22 (q := 23) rfl
def rX9_eatsSemicolon_23 := W_zret (M := mX9_eatsSemicolon) dX9_eatsSemicolon_23 rfl
-- X9_everBurnt
theorem eX9_everBurnt {d : Nat} {h : qH} {Q : Option (Option Value) → qH → Prop} {s0 : Nat} : WM d mX9_everBurnt [.ref s0] h Q = WP d mX9_everBurnt (0, 0) 0 [some (.ref s0)] [] h Q := rfl
def rX9_everBurnt_0 := W_aload0 (M := mX9_everBurnt) dX9_everBurnt_0 (q := 1) rfl
def rX9_everBurnt_0b := W_aloadR0 (M := mX9_everBurnt) dX9_everBurnt_0 (q := 1) rfl
def rX9_everBurnt_1 := W_sipush (M := mX9_everBurnt) dX9_everBurnt_1 (q := 4) rfl (v := (9998)) rfl
def rX9_everBurnt_4 := W_invV1 (M := mX9_everBurnt) dX9_everBurnt_4 (q := 7) rfl ml0_9_333 rfl
def rX9_everBurnt_7 := W_invS1 (M := mX9_everBurnt) dX9_everBurnt_7 (q := 10) rfl ml1_9_336 rfl rfl rfl
def rX9_everBurnt_10 := W_iret (M := mX9_everBurnt) dX9_everBurnt_10 rfl
-- X9_fault
theorem eX9_fault {d : Nat} {h : qH} {Q : Option (Option Value) → qH → Prop} {s0 : Nat} : WM d mX9_fault [.ref s0] h Q = WP d mX9_fault (0, 0) 0 [some (.ref s0)] [] h Q := rfl
def rX9_fault_0 := W_aload0 (M := mX9_fault) dX9_fault_0 (q := 1) rfl
def rX9_fault_0b := W_aloadR0 (M := mX9_fault) dX9_fault_0 (q := 1) rfl
def rX9_fault_1 := W_iconst (M := mX9_fault) dX9_fault_1 (q := 2) rfl (v := (0)) rfl
def rX9_fault_2 := W_putI (M := mX9_fault) dX9_fault_2 (q := 5) rfl fl9_52 rfl (Or.inl rfl)
def rX9_fault_5 := W_aload0 (M := mX9_fault) dX9_fault_5 (q := 6) rfl
def rX9_fault_5b := W_aloadR0 (M := mX9_fault) dX9_fault_5 (q := 6) rfl
def rX9_fault_6 := W_getI (M := mX9_fault) dX9_fault_6 (q := 9) rfl fl9_110 (Or.inl rfl)
def rX9_fault_9 := W_iret (M := mX9_fault) dX9_fault_9 rfl
-- X9_feed
theorem eX9_feed {d : Nat} {h : qH} {Q : Option (Option Value) → qH → Prop} {s0 : Nat} {x1 : Int32} {x2 : Int32} {x3 : Int32} {x4 : Int32} {x5 : Int32} : WM d mX9_feed [.ref s0, .int x1, .int x2, .int x3, .int x4, .int x5] h Q = WP d mX9_feed (0, 0) 0 [some (.ref s0), some (.int x1), some (.int x2), some (.int x3), some (.int x4), some (.int x5), none, none] [] h Q := rfl
def rX9_feed_0 := W_aload0 (M := mX9_feed) dX9_feed_0 (q := 1) rfl
def rX9_feed_0b := W_aloadR0 (M := mX9_feed) dX9_feed_0 (q := 1) rfl
def rX9_feed_1 := W_iconst (M := mX9_feed) dX9_feed_1 (q := 2) rfl (v := (0)) rfl
def rX9_feed_2 := W_putI (M := mX9_feed) dX9_feed_2 (q := 5) rfl fl9_52 rfl (Or.inl rfl)
def rX9_feed_5 := W_aload0 (M := mX9_feed) dX9_feed_5 (q := 6) rfl
def rX9_feed_5b := W_aloadR0 (M := mX9_feed) dX9_feed_5 (q := 6) rfl
def rX9_feed_6 := W_getI (M := mX9_feed) dX9_feed_6 (q := 9) rfl fl9_309 (Or.inl rfl)
def rX9_feed_9 := W_bipush (M := mX9_feed) dX9_feed_9 (q := 11) rfl (v := (20)) rfl
def rX9_feed_11 := W_iadd (M := mX9_feed) dX9_feed_11 (q := 12) rfl
def rX9_feed_12 := W_sipush (M := mX9_feed) dX9_feed_12 (q := 15) rfl (v := (900)) rfl
def rX9_feed_15 := W_icmp_le (M := mX9_feed) dX9_feed_15 (q := 18) rfl (t := 20) rfl
def rX9_feed_18 := W_iconst (M := mX9_feed) dX9_feed_18 (q := 19) rfl (v := (-1)) rfl
def rX9_feed_19 := W_iret (M := mX9_feed) dX9_feed_19 rfl
def rX9_feed_20 := W_iconst (M := mX9_feed) dX9_feed_20 (q := 21) rfl (v := (0)) rfl
def rX9_feed_21 := W_istore6 (M := mX9_feed) dX9_feed_21 (q := 23) rfl
def rX9_feed_23 := W_iload6 (M := mX9_feed) dX9_feed_23 (q := 25) rfl
def rX9_feed_25 := W_bipush (M := mX9_feed) dX9_feed_25 (q := 27) rfl (v := (20)) rfl
def rX9_feed_27 := W_icmp_ge (M := mX9_feed) dX9_feed_27 (q := 30) rfl (t := 117) rfl
def rX9_feed_30 := W_iload6 (M := mX9_feed) dX9_feed_30 (q := 32) rfl
def rX9_feed_32 := W_iconst (M := mX9_feed) dX9_feed_32 (q := 33) rfl (v := (4)) rfl
def rX9_feed_33 := W_icmp_ge (M := mX9_feed) dX9_feed_33 (q := 36) rfl (t := 40) rfl
def rX9_feed_36 := W_iload1 (M := mX9_feed) dX9_feed_36 (q := 37) rfl
def rX9_feed_37 := W_goto (M := mX9_feed) dX9_feed_37 (t := 76) rfl
def rX9_feed_40 := W_iload6 (M := mX9_feed) dX9_feed_40 (q := 42) rfl
def rX9_feed_42 := W_bipush (M := mX9_feed) dX9_feed_42 (q := 44) rfl (v := (8)) rfl
def rX9_feed_44 := W_icmp_ge (M := mX9_feed) dX9_feed_44 (q := 47) rfl (t := 51) rfl
def rX9_feed_47 := W_iload2 (M := mX9_feed) dX9_feed_47 (q := 48) rfl
def rX9_feed_48 := W_goto (M := mX9_feed) dX9_feed_48 (t := 76) rfl
def rX9_feed_51 := W_iload6 (M := mX9_feed) dX9_feed_51 (q := 53) rfl
def rX9_feed_53 := W_bipush (M := mX9_feed) dX9_feed_53 (q := 55) rfl (v := (12)) rfl
def rX9_feed_55 := W_icmp_ge (M := mX9_feed) dX9_feed_55 (q := 58) rfl (t := 62) rfl
def rX9_feed_58 := W_iload3 (M := mX9_feed) dX9_feed_58 (q := 59) rfl
def rX9_feed_59 := W_goto (M := mX9_feed) dX9_feed_59 (t := 76) rfl
def rX9_feed_62 := W_iload6 (M := mX9_feed) dX9_feed_62 (q := 64) rfl
def rX9_feed_64 := W_bipush (M := mX9_feed) dX9_feed_64 (q := 66) rfl (v := (16)) rfl
def rX9_feed_66 := W_icmp_ge (M := mX9_feed) dX9_feed_66 (q := 69) rfl (t := 74) rfl
def rX9_feed_69 := W_iload4 (M := mX9_feed) dX9_feed_69 (q := 71) rfl
def rX9_feed_71 := W_goto (M := mX9_feed) dX9_feed_71 (t := 76) rfl
def rX9_feed_74 := W_iload5 (M := mX9_feed) dX9_feed_74 (q := 76) rfl
def rX9_feed_76 := W_istore7 (M := mX9_feed) dX9_feed_76 (q := 78) rfl
def rX9_feed_78 := W_aload0 (M := mX9_feed) dX9_feed_78 (q := 79) rfl
def rX9_feed_78b := W_aloadR0 (M := mX9_feed) dX9_feed_78 (q := 79) rfl
def rX9_feed_79 := W_getA (M := mX9_feed) dX9_feed_79 (q := 82) rfl fl9_13 ⟨_, rfl⟩
def rX9_feed_82 := W_aload0 (M := mX9_feed) dX9_feed_82 (q := 83) rfl
def rX9_feed_82b := W_aloadR0 (M := mX9_feed) dX9_feed_82 (q := 83) rfl
def rX9_feed_83 := W_getI (M := mX9_feed) dX9_feed_83 (q := 86) rfl fl9_309 (Or.inl rfl)
def rX9_feed_86 := W_iload7 (M := mX9_feed) dX9_feed_86 (q := 88) rfl
def rX9_feed_88 := W_bipush (M := mX9_feed) dX9_feed_88 (q := 90) rfl (v := (24)) rfl
def rX9_feed_90 := W_bipush (M := mX9_feed) dX9_feed_90 (q := 92) rfl (v := (8)) rfl
def rX9_feed_92 := W_iload6 (M := mX9_feed) dX9_feed_92 (q := 94) rfl
def rX9_feed_94 := W_iconst (M := mX9_feed) dX9_feed_94 (q := 95) rfl (v := (4)) rfl
def rX9_feed_95 := W_irem (M := mX9_feed) dX9_feed_95 (q := 96) rfl
def rX9_feed_96 := W_imul (M := mX9_feed) dX9_feed_96 (q := 97) rfl
def rX9_feed_97 := W_isub (M := mX9_feed) dX9_feed_97 (q := 98) rfl
def rX9_feed_98 := W_ishr (M := mX9_feed) dX9_feed_98 (q := 99) rfl
def rX9_feed_99 := W_i2b (M := mX9_feed) dX9_feed_99 (q := 100) rfl
def rX9_feed_100 := W_bast (M := mX9_feed) dX9_feed_100 (q := 101) rfl
def rX9_feed_101 := W_aload0 (M := mX9_feed) dX9_feed_101 (q := 102) rfl
def rX9_feed_101b := W_aloadR0 (M := mX9_feed) dX9_feed_101 (q := 102) rfl
def rX9_feed_102 := W_dupI (M := mX9_feed) dX9_feed_102 (q := 103) rfl
def rX9_feed_102b := W_dupR (M := mX9_feed) dX9_feed_102 (q := 103) rfl
def rX9_feed_103 := W_getI (M := mX9_feed) dX9_feed_103 (q := 106) rfl fl9_309 (Or.inl rfl)
def rX9_feed_106 := W_iconst (M := mX9_feed) dX9_feed_106 (q := 107) rfl (v := (1)) rfl
def rX9_feed_107 := W_iadd (M := mX9_feed) dX9_feed_107 (q := 108) rfl
def rX9_feed_108 := W_putI (M := mX9_feed) dX9_feed_108 (q := 111) rfl fl9_309 rfl (Or.inl rfl)
def rX9_feed_111 := W_iinc6 (M := mX9_feed) dX9_feed_111 (q := 114) rfl (v := (1)) rfl
def rX9_feed_114 := W_goto (M := mX9_feed) dX9_feed_114 (t := 23) rfl
def rX9_feed_117 := W_aload0 (M := mX9_feed) dX9_feed_117 (q := 118) rfl
def rX9_feed_117b := W_aloadR0 (M := mX9_feed) dX9_feed_117 (q := 118) rfl
def rX9_feed_118 := W_getI (M := mX9_feed) dX9_feed_118 (q := 121) rfl fl9_309 (Or.inl rfl)
def rX9_feed_121 := W_iret (M := mX9_feed) dX9_feed_121 rfl
-- X9_finds
theorem eX9_finds {d : Nat} {h : qH} {Q : Option (Option Value) → qH → Prop} {s0 : Nat} : WM d mX9_finds [.ref s0] h Q = WP d mX9_finds (0, 0) 0 [some (.ref s0)] [] h Q := rfl
def rX9_finds_0 := W_aload0 (M := mX9_finds) dX9_finds_0 (q := 1) rfl
def rX9_finds_0b := W_aloadR0 (M := mX9_finds) dX9_finds_0 (q := 1) rfl
def rX9_finds_1 := W_invV0 (M := mX9_finds) dX9_finds_1 (q := 4) rfl ml0_9_342 rfl
def rX9_finds_4 := W_aload0 (M := mX9_finds) dX9_finds_4 (q := 5) rfl
def rX9_finds_4b := W_aloadR0 (M := mX9_finds) dX9_finds_4 (q := 5) rfl
def rX9_finds_5 := W_invV0 (M := mX9_finds) dX9_finds_5 (q := 8) rfl ml0_9_339 rfl
def rX9_finds_8 := W_vret (M := mX9_finds) dX9_finds_8 rfl
-- X9_fitAt
theorem eX9_fitAt {d : Nat} {h : qH} {Q : Option (Option Value) → qH → Prop} {s0 : Nat} {x1 : Int32} {x2 : Int32} : WM d mX9_fitAt [.ref s0, .int x1, .int x2] h Q = WP d mX9_fitAt (0, 0) 0 [some (.ref s0), some (.int x1), some (.int x2)] [] h Q := rfl
def rX9_fitAt_0 := W_aload0 (M := mX9_fitAt) dX9_fitAt_0 (q := 1) rfl
def rX9_fitAt_0b := W_aloadR0 (M := mX9_fitAt) dX9_fitAt_0 (q := 1) rfl
def rX9_fitAt_1 := W_iconst (M := mX9_fitAt) dX9_fitAt_1 (q := 2) rfl (v := (0)) rfl
def rX9_fitAt_2 := W_putI (M := mX9_fitAt) dX9_fitAt_2 (q := 5) rfl fl9_52 rfl (Or.inl rfl)
def rX9_fitAt_5 := W_aload0 (M := mX9_fitAt) dX9_fitAt_5 (q := 6) rfl
def rX9_fitAt_5b := W_aloadR0 (M := mX9_fitAt) dX9_fitAt_5 (q := 6) rfl
def rX9_fitAt_6 := W_getR (M := mX9_fitAt) dX9_fitAt_6 (q := 9) rfl fl9_316 ⟨_, rfl⟩
def rX9_fitAt_9 := W_ifnull (M := mX9_fitAt) dX9_fitAt_9 (q := 12) rfl (t := 31) rfl
def rX9_fitAt_9b := W_ifnullN (M := mX9_fitAt) dX9_fitAt_9 (q := 12) rfl (t := 31) rfl
def rX9_fitAt_12 := W_iload1 (M := mX9_fitAt) dX9_fitAt_12 (q := 13) rfl
def rX9_fitAt_13 := W_if_lt (M := mX9_fitAt) dX9_fitAt_13 (q := 16) rfl (t := 31) rfl
def rX9_fitAt_16 := W_iload2 (M := mX9_fitAt) dX9_fitAt_16 (q := 17) rfl
def rX9_fitAt_17 := W_if_lt (M := mX9_fitAt) dX9_fitAt_17 (q := 20) rfl (t := 31) rfl
def rX9_fitAt_20 := W_iload2 (M := mX9_fitAt) dX9_fitAt_20 (q := 21) rfl
def rX9_fitAt_21 := W_aload0 (M := mX9_fitAt) dX9_fitAt_21 (q := 22) rfl
def rX9_fitAt_21b := W_aloadR0 (M := mX9_fitAt) dX9_fitAt_21 (q := 22) rfl
def rX9_fitAt_22 := W_getR (M := mX9_fitAt) dX9_fitAt_22 (q := 25) rfl fl9_316 ⟨_, rfl⟩
def rX9_fitAt_25 := W_getI (M := mX9_fitAt) dX9_fitAt_25 (q := 28) rfl fl9_292 (Or.inl rfl)
def rX9_fitAt_28 := W_icmp_lt (M := mX9_fitAt) dX9_fitAt_28 (q := 31) rfl (t := 37) rfl
def rX9_fitAt_31 := W_aload0 (M := mX9_fitAt) dX9_fitAt_31 (q := 32) rfl
def rX9_fitAt_31b := W_aloadR0 (M := mX9_fitAt) dX9_fitAt_31 (q := 32) rfl
def rX9_fitAt_32 := W_iconst (M := mX9_fitAt) dX9_fitAt_32 (q := 33) rfl (v := (1)) rfl
def rX9_fitAt_33 := W_invV1 (M := mX9_fitAt) dX9_fitAt_33 (q := 36) rfl ml0_9_58 rfl
def rX9_fitAt_36 := W_iret (M := mX9_fitAt) dX9_fitAt_36 rfl
def rX9_fitAt_37 := W_aload0 (M := mX9_fitAt) dX9_fitAt_37 (q := 38) rfl
def rX9_fitAt_37b := W_aloadR0 (M := mX9_fitAt) dX9_fitAt_37 (q := 38) rfl
def rX9_fitAt_38 := W_iload1 (M := mX9_fitAt) dX9_fitAt_38 (q := 39) rfl
def rX9_fitAt_39 := W_invV1 (M := mX9_fitAt) dX9_fitAt_39 (q := 42) rfl ml0_9_409 rfl
def rX9_fitAt_42 := W_aload0 (M := mX9_fitAt) dX9_fitAt_42 (q := 43) rfl
def rX9_fitAt_42b := W_aloadR0 (M := mX9_fitAt) dX9_fitAt_42 (q := 43) rfl
def rX9_fitAt_43 := W_getI (M := mX9_fitAt) dX9_fitAt_43 (q := 46) rfl fl9_397 (Or.inl rfl)
def rX9_fitAt_46 := W_iconst (M := mX9_fitAt) dX9_fitAt_46 (q := 47) rfl (v := (-1)) rfl
def rX9_fitAt_47 := W_icmp_ne (M := mX9_fitAt) dX9_fitAt_47 (q := 50) rfl (t := 58) rfl
def rX9_fitAt_50 := W_aload0 (M := mX9_fitAt) dX9_fitAt_50 (q := 51) rfl
def rX9_fitAt_50b := W_aloadR0 (M := mX9_fitAt) dX9_fitAt_50 (q := 51) rfl
def rX9_fitAt_51 := W_iconst (M := mX9_fitAt) dX9_fitAt_51 (q := 52) rfl (v := (1)) rfl
def rX9_fitAt_52 := W_invV1 (M := mX9_fitAt) dX9_fitAt_52 (q := 55) rfl ml0_9_58 rfl
def rX9_fitAt_55 := W_goto (M := mX9_fitAt) dX9_fitAt_55 (t := 71) rfl
def rX9_fitAt_58 := W_aload0 (M := mX9_fitAt) dX9_fitAt_58 (q := 59) rfl
def rX9_fitAt_58b := W_aloadR0 (M := mX9_fitAt) dX9_fitAt_58 (q := 59) rfl
def rX9_fitAt_59 := W_aload0 (M := mX9_fitAt) dX9_fitAt_59 (q := 60) rfl
def rX9_fitAt_59b := W_aloadR0 (M := mX9_fitAt) dX9_fitAt_59 (q := 60) rfl
def rX9_fitAt_60 := W_aload0 (M := mX9_fitAt) dX9_fitAt_60 (q := 61) rfl
def rX9_fitAt_60b := W_aloadR0 (M := mX9_fitAt) dX9_fitAt_60 (q := 61) rfl
def rX9_fitAt_61 := W_getI (M := mX9_fitAt) dX9_fitAt_61 (q := 64) rfl fl9_397 (Or.inl rfl)
def rX9_fitAt_64 := W_iload2 (M := mX9_fitAt) dX9_fitAt_64 (q := 65) rfl
def rX9_fitAt_65 := W_invV2 (M := mX9_fitAt) dX9_fitAt_65 (q := 68) rfl ml0_9_403 rfl
def rX9_fitAt_68 := W_invV1 (M := mX9_fitAt) dX9_fitAt_68 (q := 71) rfl ml0_9_62 rfl
def rX9_fitAt_71 := W_iret (M := mX9_fitAt) dX9_fitAt_71 rfl
-- X9_fitCodes
theorem eX9_fitCodes {d : Nat} {h : qH} {Q : Option (Option Value) → qH → Prop} {s0 : Nat} : WM d mX9_fitCodes [.ref s0] h Q = WP d mX9_fitCodes (0, 0) 0 [some (.ref s0), none, none] [] h Q := rfl
def rX9_fitCodes_0 := W_iconst (M := mX9_fitCodes) dX9_fitCodes_0 (q := 1) rfl (v := (1)) rfl
def rX9_fitCodes_1 := W_istore1 (M := mX9_fitCodes) dX9_fitCodes_1 (q := 2) rfl
def rX9_fitCodes_2 := W_iconst (M := mX9_fitCodes) dX9_fitCodes_2 (q := 3) rfl (v := (0)) rfl
def rX9_fitCodes_3 := W_istore2 (M := mX9_fitCodes) dX9_fitCodes_3 (q := 4) rfl
def rX9_fitCodes_4 := W_iload2 (M := mX9_fitCodes) dX9_fitCodes_4 (q := 5) rfl
def rX9_fitCodes_5 := W_aload0 (M := mX9_fitCodes) dX9_fitCodes_5 (q := 6) rfl
def rX9_fitCodes_5b := W_aloadR0 (M := mX9_fitCodes) dX9_fitCodes_5 (q := 6) rfl
def rX9_fitCodes_6 := W_getR (M := mX9_fitCodes) dX9_fitCodes_6 (q := 9) rfl fl9_316 ⟨_, rfl⟩
def rX9_fitCodes_9 := W_getI (M := mX9_fitCodes) dX9_fitCodes_9 (q := 12) rfl fl9_292 (Or.inl rfl)
def rX9_fitCodes_12 := W_icmp_ge (M := mX9_fitCodes) dX9_fitCodes_12 (q := 15) rfl (t := 26) rfl
def rX9_fitCodes_15 := W_iload1 (M := mX9_fitCodes) dX9_fitCodes_15 (q := 16) rfl
def rX9_fitCodes_16 := W_bipush (M := mX9_fitCodes) dX9_fitCodes_16 (q := 18) rfl (v := (11)) rfl
def rX9_fitCodes_18 := W_imul (M := mX9_fitCodes) dX9_fitCodes_18 (q := 19) rfl
def rX9_fitCodes_19 := W_istore1 (M := mX9_fitCodes) dX9_fitCodes_19 (q := 20) rfl
def rX9_fitCodes_20 := W_iinc2 (M := mX9_fitCodes) dX9_fitCodes_20 (q := 23) rfl (v := (1)) rfl
def rX9_fitCodes_23 := W_goto (M := mX9_fitCodes) dX9_fitCodes_23 (t := 4) rfl
def rX9_fitCodes_26 := W_iload1 (M := mX9_fitCodes) dX9_fitCodes_26 (q := 27) rfl
def rX9_fitCodes_27 := W_iret (M := mX9_fitCodes) dX9_fitCodes_27 rfl
-- X9_fitDay
theorem eX9_fitDay {d : Nat} {h : qH} {Q : Option (Option Value) → qH → Prop} {s0 : Nat} {x1 : Int32} {x2 : Int32} : WM d mX9_fitDay [.ref s0, .int x1, .int x2] h Q = WP d mX9_fitDay (0, 0) 0 [some (.ref s0), some (.int x1), some (.int x2), none, none] [] h Q := rfl
def rX9_fitDay_0 := W_iload1 (M := mX9_fitDay) dX9_fitDay_0 (q := 1) rfl
def rX9_fitDay_1 := W_istore3 (M := mX9_fitDay) dX9_fitDay_1 (q := 2) rfl
def rX9_fitDay_2 := W_aload0 (M := mX9_fitDay) dX9_fitDay_2 (q := 3) rfl
def rX9_fitDay_2b := W_aloadR0 (M := mX9_fitDay) dX9_fitDay_2 (q := 3) rfl
def rX9_fitDay_3 := W_getR (M := mX9_fitDay) dX9_fitDay_3 (q := 6) rfl fl9_316 ⟨_, rfl⟩
def rX9_fitDay_6 := W_getI (M := mX9_fitDay) dX9_fitDay_6 (q := 9) rfl fl9_292 (Or.inl rfl)
def rX9_fitDay_9 := W_iconst (M := mX9_fitDay) dX9_fitDay_9 (q := 10) rfl (v := (1)) rfl
def rX9_fitDay_10 := W_isub (M := mX9_fitDay) dX9_fitDay_10 (q := 11) rfl
def rX9_fitDay_11 := W_istore4 (M := mX9_fitDay) dX9_fitDay_11 (q := 13) rfl
def rX9_fitDay_13 := W_iload4 (M := mX9_fitDay) dX9_fitDay_13 (q := 15) rfl
def rX9_fitDay_15 := W_iload2 (M := mX9_fitDay) dX9_fitDay_15 (q := 16) rfl
def rX9_fitDay_16 := W_icmp_le (M := mX9_fitDay) dX9_fitDay_16 (q := 19) rfl (t := 30) rfl
def rX9_fitDay_19 := W_iload3 (M := mX9_fitDay) dX9_fitDay_19 (q := 20) rfl
def rX9_fitDay_20 := W_bipush (M := mX9_fitDay) dX9_fitDay_20 (q := 22) rfl (v := (11)) rfl
def rX9_fitDay_22 := W_idiv (M := mX9_fitDay) dX9_fitDay_22 (q := 23) rfl
def rX9_fitDay_23 := W_istore3 (M := mX9_fitDay) dX9_fitDay_23 (q := 24) rfl
def rX9_fitDay_24 := W_iinc4 (M := mX9_fitDay) dX9_fitDay_24 (q := 27) rfl (v := (-1)) rfl
def rX9_fitDay_27 := W_goto (M := mX9_fitDay) dX9_fitDay_27 (t := 13) rfl
def rX9_fitDay_30 := W_iload3 (M := mX9_fitDay) dX9_fitDay_30 (q := 31) rfl
def rX9_fitDay_31 := W_bipush (M := mX9_fitDay) dX9_fitDay_31 (q := 33) rfl (v := (11)) rfl
def rX9_fitDay_33 := W_irem (M := mX9_fitDay) dX9_fitDay_33 (q := 34) rfl
def rX9_fitDay_34 := W_bipush (M := mX9_fitDay) dX9_fitDay_34 (q := 36) rfl (v := (10)) rfl
def rX9_fitDay_36 := W_icmp_ne (M := mX9_fitDay) dX9_fitDay_36 (q := 39) rfl (t := 44) rfl
def rX9_fitDay_39 := W_bipush (M := mX9_fitDay) dX9_fitDay_39 (q := 41) rfl (v := (-2)) rfl
def rX9_fitDay_41 := W_goto (M := mX9_fitDay) dX9_fitDay_41 (t := 48) rfl
def rX9_fitDay_44 := W_iload3 (M := mX9_fitDay) dX9_fitDay_44 (q := 45) rfl
def rX9_fitDay_45 := W_bipush (M := mX9_fitDay) dX9_fitDay_45 (q := 47) rfl (v := (11)) rfl
def rX9_fitDay_47 := W_irem (M := mX9_fitDay) dX9_fitDay_47 (q := 48) rfl
def rX9_fitDay_48 := W_iret (M := mX9_fitDay) dX9_fitDay_48 rfl
-- X9_fits
theorem eX9_fits {d : Nat} {h : qH} {Q : Option (Option Value) → qH → Prop} {s0 : Nat} : WM d mX9_fits [.ref s0] h Q = WP d mX9_fits (0, 0) 0 [some (.ref s0)] [] h Q := rfl
def rX9_fits_0 := W_aload0 (M := mX9_fits) dX9_fits_0 (q := 1) rfl
def rX9_fits_0b := W_aloadR0 (M := mX9_fits) dX9_fits_0 (q := 1) rfl
def rX9_fits_1 := W_iconst (M := mX9_fits) dX9_fits_1 (q := 2) rfl (v := (0)) rfl
def rX9_fits_2 := W_putI (M := mX9_fits) dX9_fits_2 (q := 5) rfl fl9_52 rfl (Or.inl rfl)
def rX9_fits_5 := W_aload0 (M := mX9_fits) dX9_fits_5 (q := 6) rfl
def rX9_fits_5b := W_aloadR0 (M := mX9_fits) dX9_fits_5 (q := 6) rfl
def rX9_fits_6 := W_getR (M := mX9_fits) dX9_fits_6 (q := 9) rfl fl9_316 ⟨_, rfl⟩
def rX9_fits_9 := W_ifnonnull (M := mX9_fits) dX9_fits_9 (q := 12) rfl (t := 18) rfl
def rX9_fits_9b := W_ifnonnullN (M := mX9_fits) dX9_fits_9 (q := 12) rfl (t := 18) rfl
def rX9_fits_12 := W_aload0 (M := mX9_fits) dX9_fits_12 (q := 13) rfl
def rX9_fits_12b := W_aloadR0 (M := mX9_fits) dX9_fits_12 (q := 13) rfl
def rX9_fits_13 := W_iconst (M := mX9_fits) dX9_fits_13 (q := 14) rfl (v := (1)) rfl
def rX9_fits_14 := W_invV1 (M := mX9_fits) dX9_fits_14 (q := 17) rfl ml0_9_58 rfl
def rX9_fits_17 := W_iret (M := mX9_fits) dX9_fits_17 rfl
def rX9_fits_18 := W_aload0 (M := mX9_fits) dX9_fits_18 (q := 19) rfl
def rX9_fits_18b := W_aloadR0 (M := mX9_fits) dX9_fits_18 (q := 19) rfl
def rX9_fits_19 := W_iconst (M := mX9_fits) dX9_fits_19 (q := 20) rfl (v := (-1)) rfl
def rX9_fits_20 := W_invV1 (M := mX9_fits) dX9_fits_20 (q := 23) rfl ml0_9_409 rfl
def rX9_fits_23 := W_aload0 (M := mX9_fits) dX9_fits_23 (q := 24) rfl
def rX9_fits_23b := W_aloadR0 (M := mX9_fits) dX9_fits_23 (q := 24) rfl
def rX9_fits_24 := W_aload0 (M := mX9_fits) dX9_fits_24 (q := 25) rfl
def rX9_fits_24b := W_aloadR0 (M := mX9_fits) dX9_fits_24 (q := 25) rfl
def rX9_fits_25 := W_getI (M := mX9_fits) dX9_fits_25 (q := 28) rfl fl9_394 (Or.inl rfl)
def rX9_fits_28 := W_invV1 (M := mX9_fits) dX9_fits_28 (q := 31) rfl ml0_9_62 rfl
def rX9_fits_31 := W_iret (M := mX9_fits) dX9_fits_31 rfl
-- X9_fitting
theorem eX9_fitting {d : Nat} {h : qH} {Q : Option (Option Value) → qH → Prop} {s0 : Nat} {x1 : Int32} : WM d mX9_fitting [.ref s0, .int x1] h Q = WP d mX9_fitting (0, 0) 0 [some (.ref s0), some (.int x1), none, none, none] [] h Q := rfl
def rX9_fitting_0 := W_aload0 (M := mX9_fitting) dX9_fitting_0 (q := 1) rfl
def rX9_fitting_0b := W_aloadR0 (M := mX9_fitting) dX9_fitting_0 (q := 1) rfl
def rX9_fitting_1 := W_iconst (M := mX9_fitting) dX9_fitting_1 (q := 2) rfl (v := (0)) rfl
def rX9_fitting_2 := W_putI (M := mX9_fitting) dX9_fitting_2 (q := 5) rfl fl9_394 rfl (Or.inl rfl)
def rX9_fitting_5 := W_aload0 (M := mX9_fitting) dX9_fitting_5 (q := 6) rfl
def rX9_fitting_5b := W_aloadR0 (M := mX9_fitting) dX9_fitting_5 (q := 6) rfl
def rX9_fitting_6 := W_iconst (M := mX9_fitting) dX9_fitting_6 (q := 7) rfl (v := (-1)) rfl
def rX9_fitting_7 := W_putI (M := mX9_fitting) dX9_fitting_7 (q := 10) rfl fl9_397 rfl (Or.inl rfl)
def rX9_fitting_10 := W_iconst (M := mX9_fitting) dX9_fitting_10 (q := 11) rfl (v := (0)) rfl
def rX9_fitting_11 := W_istore2 (M := mX9_fitting) dX9_fitting_11 (q := 12) rfl
def rX9_fitting_12 := W_iload2 (M := mX9_fitting) dX9_fitting_12 (q := 13) rfl
def rX9_fitting_13 := W_sipush (M := mX9_fitting) dX9_fitting_13 (q := 16) rfl (v := (637)) rfl
def rX9_fitting_16 := W_icmp_ge (M := mX9_fitting) dX9_fitting_16 (q := 19) rfl (t := 32) rfl
def rX9_fitting_19 := W_aload0 (M := mX9_fitting) dX9_fitting_19 (q := 20) rfl
def rX9_fitting_19b := W_aloadR0 (M := mX9_fitting) dX9_fitting_19 (q := 20) rfl
def rX9_fitting_20 := W_getA (M := mX9_fitting) dX9_fitting_20 (q := 23) rfl fl9_42 ⟨_, rfl⟩
def rX9_fitting_23 := W_iload2 (M := mX9_fitting) dX9_fitting_23 (q := 24) rfl
def rX9_fitting_24 := W_iconst (M := mX9_fitting) dX9_fitting_24 (q := 25) rfl (v := (0)) rfl
def rX9_fitting_25 := W_iast (M := mX9_fitting) dX9_fitting_25 (q := 26) rfl
def rX9_fitting_26 := W_iinc2 (M := mX9_fitting) dX9_fitting_26 (q := 29) rfl (v := (1)) rfl
def rX9_fitting_29 := W_goto (M := mX9_fitting) dX9_fitting_29 (t := 12) rfl
def rX9_fitting_32 := W_iconst (M := mX9_fitting) dX9_fitting_32 (q := 33) rfl (v := (0)) rfl
def rX9_fitting_33 := W_istore2 (M := mX9_fitting) dX9_fitting_33 (q := 34) rfl
def rX9_fitting_34 := W_iload2 (M := mX9_fitting) dX9_fitting_34 (q := 35) rfl
def rX9_fitting_35 := W_aload0 (M := mX9_fitting) dX9_fitting_35 (q := 36) rfl
def rX9_fitting_35b := W_aloadR0 (M := mX9_fitting) dX9_fitting_35 (q := 36) rfl
def rX9_fitting_36 := W_invV0 (M := mX9_fitting) dX9_fitting_36 (q := 39) rfl ml0_9_400 rfl
def rX9_fitting_39 := W_icmp_ge (M := mX9_fitting) dX9_fitting_39 (q := 42) rfl (t := 175) rfl
def rX9_fitting_42 := W_aload0 (M := mX9_fitting) dX9_fitting_42 (q := 43) rfl
def rX9_fitting_42b := W_aloadR0 (M := mX9_fitting) dX9_fitting_42 (q := 43) rfl
def rX9_fitting_43 := W_invV0 (M := mX9_fitting) dX9_fitting_43 (q := 46) rfl ml0_9_318 rfl
def rX9_fitting_46 := W_iconst (M := mX9_fitting) dX9_fitting_46 (q := 47) rfl (v := (0)) rfl
def rX9_fitting_47 := W_istore3 (M := mX9_fitting) dX9_fitting_47 (q := 48) rfl
def rX9_fitting_48 := W_iload3 (M := mX9_fitting) dX9_fitting_48 (q := 49) rfl
def rX9_fitting_49 := W_aload0 (M := mX9_fitting) dX9_fitting_49 (q := 50) rfl
def rX9_fitting_49b := W_aloadR0 (M := mX9_fitting) dX9_fitting_49 (q := 50) rfl
def rX9_fitting_50 := W_getR (M := mX9_fitting) dX9_fitting_50 (q := 53) rfl fl9_316 ⟨_, rfl⟩
def rX9_fitting_53 := W_getI (M := mX9_fitting) dX9_fitting_53 (q := 56) rfl fl9_292 (Or.inl rfl)
def rX9_fitting_56 := W_icmp_ge (M := mX9_fitting) dX9_fitting_56 (q := 59) rfl (t := 85) rfl
def rX9_fitting_59 := W_aload0 (M := mX9_fitting) dX9_fitting_59 (q := 60) rfl
def rX9_fitting_59b := W_aloadR0 (M := mX9_fitting) dX9_fitting_59 (q := 60) rfl
def rX9_fitting_60 := W_getA (M := mX9_fitting) dX9_fitting_60 (q := 63) rfl fl9_21 ⟨_, rfl⟩
def rX9_fitting_63 := W_aload0 (M := mX9_fitting) dX9_fitting_63 (q := 64) rfl
def rX9_fitting_63b := W_aloadR0 (M := mX9_fitting) dX9_fitting_63 (q := 64) rfl
def rX9_fitting_64 := W_getR (M := mX9_fitting) dX9_fitting_64 (q := 67) rfl fl9_316 ⟨_, rfl⟩
def rX9_fitting_67 := W_getA (M := mX9_fitting) dX9_fitting_67 (q := 70) rfl fl9_298 ⟨_, rfl⟩
def rX9_fitting_70 := W_iload3 (M := mX9_fitting) dX9_fitting_70 (q := 71) rfl
def rX9_fitting_71 := W_iald (M := mX9_fitting) dX9_fitting_71 (q := 72) rfl
def rX9_fitting_72 := W_aload0 (M := mX9_fitting) dX9_fitting_72 (q := 73) rfl
def rX9_fitting_72b := W_aloadR0 (M := mX9_fitting) dX9_fitting_72 (q := 73) rfl
def rX9_fitting_73 := W_iload2 (M := mX9_fitting) dX9_fitting_73 (q := 74) rfl
def rX9_fitting_74 := W_iload3 (M := mX9_fitting) dX9_fitting_74 (q := 75) rfl
def rX9_fitting_75 := W_invV2 (M := mX9_fitting) dX9_fitting_75 (q := 78) rfl ml0_9_403 rfl
def rX9_fitting_78 := W_iast (M := mX9_fitting) dX9_fitting_78 (q := 79) rfl
def rX9_fitting_79 := W_iinc3 (M := mX9_fitting) dX9_fitting_79 (q := 82) rfl (v := (1)) rfl
def rX9_fitting_82 := W_goto (M := mX9_fitting) dX9_fitting_82 (t := 48) rfl
def rX9_fitting_85 := W_aload0 (M := mX9_fitting) dX9_fitting_85 (q := 86) rfl
def rX9_fitting_85b := W_aloadR0 (M := mX9_fitting) dX9_fitting_85 (q := 86) rfl
def rX9_fitting_86 := W_invV0 (M := mX9_fitting) dX9_fitting_86 (q := 89) rfl ml0_9_406 rfl
def rX9_fitting_89 := W_bipush (M := mX9_fitting) dX9_fitting_89 (q := 91) rfl (v := (-2)) rfl
def rX9_fitting_91 := W_icmp_eq (M := mX9_fitting) dX9_fitting_91 (q := 94) rfl (t := 97) rfl
def rX9_fitting_94 := W_goto (M := mX9_fitting) dX9_fitting_94 (t := 169) rfl
def rX9_fitting_97 := W_aload0 (M := mX9_fitting) dX9_fitting_97 (q := 98) rfl
def rX9_fitting_97b := W_aloadR0 (M := mX9_fitting) dX9_fitting_97 (q := 98) rfl
def rX9_fitting_98 := W_getI (M := mX9_fitting) dX9_fitting_98 (q := 101) rfl fl9_394 (Or.inl rfl)
def rX9_fitting_101 := W_iload1 (M := mX9_fitting) dX9_fitting_101 (q := 102) rfl
def rX9_fitting_102 := W_icmp_ne (M := mX9_fitting) dX9_fitting_102 (q := 105) rfl (t := 110) rfl
def rX9_fitting_105 := W_aload0 (M := mX9_fitting) dX9_fitting_105 (q := 106) rfl
def rX9_fitting_105b := W_aloadR0 (M := mX9_fitting) dX9_fitting_105 (q := 106) rfl
def rX9_fitting_106 := W_iload2 (M := mX9_fitting) dX9_fitting_106 (q := 107) rfl
def rX9_fitting_107 := W_putI (M := mX9_fitting) dX9_fitting_107 (q := 110) rfl fl9_397 rfl (Or.inl rfl)
def rX9_fitting_110 := W_aload0 (M := mX9_fitting) dX9_fitting_110 (q := 111) rfl
def rX9_fitting_110b := W_aloadR0 (M := mX9_fitting) dX9_fitting_110 (q := 111) rfl
def rX9_fitting_111 := W_dupI (M := mX9_fitting) dX9_fitting_111 (q := 112) rfl
def rX9_fitting_111b := W_dupR (M := mX9_fitting) dX9_fitting_111 (q := 112) rfl
def rX9_fitting_112 := W_getI (M := mX9_fitting) dX9_fitting_112 (q := 115) rfl fl9_394 (Or.inl rfl)
def rX9_fitting_115 := W_iconst (M := mX9_fitting) dX9_fitting_115 (q := 116) rfl (v := (1)) rfl
def rX9_fitting_116 := W_iadd (M := mX9_fitting) dX9_fitting_116 (q := 117) rfl
def rX9_fitting_117 := W_putI (M := mX9_fitting) dX9_fitting_117 (q := 120) rfl fl9_394 rfl (Or.inl rfl)
def rX9_fitting_120 := W_iconst (M := mX9_fitting) dX9_fitting_120 (q := 121) rfl (v := (0)) rfl
def rX9_fitting_121 := W_istore3 (M := mX9_fitting) dX9_fitting_121 (q := 122) rfl
def rX9_fitting_122 := W_iload3 (M := mX9_fitting) dX9_fitting_122 (q := 123) rfl
def rX9_fitting_123 := W_bipush (M := mX9_fitting) dX9_fitting_123 (q := 125) rfl (v := (90)) rfl
def rX9_fitting_125 := W_icmp_gt (M := mX9_fitting) dX9_fitting_125 (q := 128) rfl (t := 169) rfl
def rX9_fitting_128 := W_aload0 (M := mX9_fitting) dX9_fitting_128 (q := 129) rfl
def rX9_fitting_128b := W_aloadR0 (M := mX9_fitting) dX9_fitting_128 (q := 129) rfl
def rX9_fitting_129 := W_iload3 (M := mX9_fitting) dX9_fitting_129 (q := 130) rfl
def rX9_fitting_130 := W_invV1 (M := mX9_fitting) dX9_fitting_130 (q := 133) rfl ml0_9_358 rfl
def rX9_fitting_133 := W_istore4 (M := mX9_fitting) dX9_fitting_133 (q := 135) rfl
def rX9_fitting_135 := W_aload0 (M := mX9_fitting) dX9_fitting_135 (q := 136) rfl
def rX9_fitting_135b := W_aloadR0 (M := mX9_fitting) dX9_fitting_135 (q := 136) rfl
def rX9_fitting_136 := W_getA (M := mX9_fitting) dX9_fitting_136 (q := 139) rfl fl9_42 ⟨_, rfl⟩
def rX9_fitting_139 := W_bipush (M := mX9_fitting) dX9_fitting_139 (q := 141) rfl (v := (7)) rfl
def rX9_fitting_141 := W_iload3 (M := mX9_fitting) dX9_fitting_141 (q := 142) rfl
def rX9_fitting_142 := W_imul (M := mX9_fitting) dX9_fitting_142 (q := 143) rfl
def rX9_fitting_143 := W_iload4 (M := mX9_fitting) dX9_fitting_143 (q := 145) rfl
def rX9_fitting_145 := W_bipush (M := mX9_fitting) dX9_fitting_145 (q := 147) rfl (v := (-2)) rfl
def rX9_fitting_147 := W_icmp_ne (M := mX9_fitting) dX9_fitting_147 (q := 150) rfl (t := 155) rfl
def rX9_fitting_150 := W_bipush (M := mX9_fitting) dX9_fitting_150 (q := 152) rfl (v := (6)) rfl
def rX9_fitting_152 := W_goto (M := mX9_fitting) dX9_fitting_152 (t := 157) rfl
def rX9_fitting_155 := W_iload4 (M := mX9_fitting) dX9_fitting_155 (q := 157) rfl
def rX9_fitting_157 := W_iadd (M := mX9_fitting) dX9_fitting_157 (q := 158) rfl
def rX9_fitting_158 := W_dup2IR (M := mX9_fitting) dX9_fitting_158 (q := 159) rfl
def rX9_fitting_159 := W_iald (M := mX9_fitting) dX9_fitting_159 (q := 160) rfl
def rX9_fitting_160 := W_iconst (M := mX9_fitting) dX9_fitting_160 (q := 161) rfl (v := (1)) rfl
def rX9_fitting_161 := W_iadd (M := mX9_fitting) dX9_fitting_161 (q := 162) rfl
def rX9_fitting_162 := W_iast (M := mX9_fitting) dX9_fitting_162 (q := 163) rfl
def rX9_fitting_163 := W_iinc3 (M := mX9_fitting) dX9_fitting_163 (q := 166) rfl (v := (1)) rfl
def rX9_fitting_166 := W_goto (M := mX9_fitting) dX9_fitting_166 (t := 122) rfl
def rX9_fitting_169 := W_iinc2 (M := mX9_fitting) dX9_fitting_169 (q := 172) rfl (v := (1)) rfl
def rX9_fitting_172 := W_goto (M := mX9_fitting) dX9_fitting_172 (t := 34) rfl
def rX9_fitting_175 := W_vret (M := mX9_fitting) dX9_fitting_175 rfl
-- X9_flaw
theorem eX9_flaw {d : Nat} {h : qH} {Q : Option (Option Value) → qH → Prop} {s0 : Nat} {x1 : Int32} : WM d mX9_flaw [.ref s0, .int x1] h Q = WP d mX9_flaw (0, 0) 0 [some (.ref s0), some (.int x1)] [] h Q := rfl
def rX9_flaw_0 := W_aload0 (M := mX9_flaw) dX9_flaw_0 (q := 1) rfl
def rX9_flaw_0b := W_aloadR0 (M := mX9_flaw) dX9_flaw_0 (q := 1) rfl
def rX9_flaw_1 := W_getI (M := mX9_flaw) dX9_flaw_1 (q := 4) rfl fl9_84 (Or.inl rfl)
def rX9_flaw_4 := W_iconst (M := mX9_flaw) dX9_flaw_4 (q := 5) rfl (v := (5)) rfl
def rX9_flaw_5 := W_icmp_ne (M := mX9_flaw) dX9_flaw_5 (q := 8) rfl (t := 9) rfl
def rX9_flaw_8 := W_vret (M := mX9_flaw) dX9_flaw_8 rfl
def rX9_flaw_9 := W_aload0 (M := mX9_flaw) dX9_flaw_9 (q := 10) rfl
def rX9_flaw_9b := W_aloadR0 (M := mX9_flaw) dX9_flaw_9 (q := 10) rfl
def rX9_flaw_10 := W_iload1 (M := mX9_flaw) dX9_flaw_10 (q := 11) rfl
def rX9_flaw_11 := W_putI (M := mX9_flaw) dX9_flaw_11 (q := 14) rfl fl9_110 rfl (Or.inl rfl)
def rX9_flaw_14 := W_aload0 (M := mX9_flaw) dX9_flaw_14 (q := 15) rfl
def rX9_flaw_14b := W_aloadR0 (M := mX9_flaw) dX9_flaw_14 (q := 15) rfl
def rX9_flaw_15 := W_aload0 (M := mX9_flaw) dX9_flaw_15 (q := 16) rfl
def rX9_flaw_15b := W_aloadR0 (M := mX9_flaw) dX9_flaw_15 (q := 16) rfl
def rX9_flaw_16 := W_getI (M := mX9_flaw) dX9_flaw_16 (q := 19) rfl fl9_93 (Or.inl rfl)
def rX9_flaw_19 := W_putI (M := mX9_flaw) dX9_flaw_19 (q := 22) rfl fl9_113 rfl (Or.inl rfl)
def rX9_flaw_22 := W_aload0 (M := mX9_flaw) dX9_flaw_22 (q := 23) rfl
def rX9_flaw_22b := W_aloadR0 (M := mX9_flaw) dX9_flaw_22 (q := 23) rfl
def rX9_flaw_23 := W_iconst (M := mX9_flaw) dX9_flaw_23 (q := 24) rfl (v := (5)) rfl
def rX9_flaw_24 := W_putI (M := mX9_flaw) dX9_flaw_24 (q := 27) rfl fl9_84 rfl (Or.inl rfl)
def rX9_flaw_27 := W_vret (M := mX9_flaw) dX9_flaw_27 rfl
-- X9_flies
theorem eX9_flies {d : Nat} {h : qH} {Q : Option (Option Value) → qH → Prop} {s0 : Nat} {x1 : Int32} : WM d mX9_flies [.ref s0, .int x1] h Q = WP d mX9_flies (0, 0) 0 [some (.ref s0), some (.int x1)] [] h Q := rfl
def rX9_flies_0 := W_iload1 (M := mX9_flies) dX9_flies_0 (q := 1) rfl
def rX9_flies_1 := W_aload0 (M := mX9_flies) dX9_flies_1 (q := 2) rfl
def rX9_flies_1b := W_aloadR0 (M := mX9_flies) dX9_flies_1 (q := 2) rfl
def rX9_flies_2 := W_getI (M := mX9_flies) dX9_flies_2 (q := 5) rfl fl9_33 (Or.inl rfl)
def rX9_flies_5 := W_icmp_eq (M := mX9_flies) dX9_flies_5 (q := 8) rfl (t := 48) rfl
def rX9_flies_8 := W_aload0 (M := mX9_flies) dX9_flies_8 (q := 9) rfl
def rX9_flies_8b := W_aloadR0 (M := mX9_flies) dX9_flies_8 (q := 9) rfl
def rX9_flies_9 := W_getA (M := mX9_flies) dX9_flies_9 (q := 12) rfl fl9_21 ⟨_, rfl⟩
def rX9_flies_12 := W_bipush (M := mX9_flies) dX9_flies_12 (q := 14) rfl (v := (6)) rfl
def rX9_flies_14 := W_iald (M := mX9_flies) dX9_flies_14 (q := 15) rfl
def rX9_flies_15 := W_aload0 (M := mX9_flies) dX9_flies_15 (q := 16) rfl
def rX9_flies_15b := W_aloadR0 (M := mX9_flies) dX9_flies_15 (q := 16) rfl
def rX9_flies_16 := W_getR (M := mX9_flies) dX9_flies_16 (q := 19) rfl fl9_316 ⟨_, rfl⟩
def rX9_flies_19 := W_getA (M := mX9_flies) dX9_flies_19 (q := 22) rfl fl9_260 ⟨_, rfl⟩
def rX9_flies_22 := W_iload1 (M := mX9_flies) dX9_flies_22 (q := 23) rfl
def rX9_flies_23 := W_iald (M := mX9_flies) dX9_flies_23 (q := 24) rfl
def rX9_flies_24 := W_invS2 (M := mX9_flies) dX9_flies_24 (q := 27) rfl ml1_9_281 rfl rfl rfl
def rX9_flies_27 := W_if_ne (M := mX9_flies) dX9_flies_27 (q := 30) rfl (t := 48) rfl
def rX9_flies_30 := W_aload0 (M := mX9_flies) dX9_flies_30 (q := 31) rfl
def rX9_flies_30b := W_aloadR0 (M := mX9_flies) dX9_flies_30 (q := 31) rfl
def rX9_flies_31 := W_getR (M := mX9_flies) dX9_flies_31 (q := 34) rfl fl9_316 ⟨_, rfl⟩
def rX9_flies_34 := W_iload1 (M := mX9_flies) dX9_flies_34 (q := 35) rfl
def rX9_flies_35 := W_invV1 (M := mX9_flies) dX9_flies_35 (q := 38) rfl ml0_9_327 rfl
def rX9_flies_38 := W_sipush (M := mX9_flies) dX9_flies_38 (q := 41) rfl (v := (9999)) rfl
def rX9_flies_41 := W_icmp_ge (M := mX9_flies) dX9_flies_41 (q := 44) rfl (t := 48) rfl
def rX9_flies_44 := W_iconst (M := mX9_flies) dX9_flies_44 (q := 45) rfl (v := (1)) rfl
def rX9_flies_45 := W_goto (M := mX9_flies) dX9_flies_45 (t := 49) rfl
def rX9_flies_48 := W_iconst (M := mX9_flies) dX9_flies_48 (q := 49) rfl (v := (0)) rfl
def rX9_flies_49 := W_zret (M := mX9_flies) dX9_flies_49 rfl
-- X9_fraction
theorem eX9_fraction {d : Nat} {h : qH} {Q : Option (Option Value) → qH → Prop} {s0 : Nat} {x1 : Int64} {x2 : Int64} {x3 : Int32} : WM d mX9_fraction [.ref s0, .long x1, .long x2, .int x3] h Q = WP d mX9_fraction (0, 0) 0 [some (.ref s0), some (.long x1), none, some (.long x2), none, some (.int x3)] [] h Q := rfl
def rX9_fraction_0 := W_aload0 (M := mX9_fraction) dX9_fraction_0 (q := 1) rfl
def rX9_fraction_0b := W_aloadR0 (M := mX9_fraction) dX9_fraction_0 (q := 1) rfl
def rX9_fraction_1 := W_iconst (M := mX9_fraction) dX9_fraction_1 (q := 2) rfl (v := (0)) rfl
def rX9_fraction_2 := W_invV1 (M := mX9_fraction) dX9_fraction_2 (q := 5) rfl ml0_9_62 rfl
def rX9_fraction_5 := W_popI (M := mX9_fraction) dX9_fraction_5 (q := 6) rfl
def rX9_fraction_6 := W_iload5 (M := mX9_fraction) dX9_fraction_6 (q := 8) rfl
def rX9_fraction_8 := W_if_eq (M := mX9_fraction) dX9_fraction_8 (q := 11) rfl (t := 15) rfl
def rX9_fraction_11 := W_lload3 (M := mX9_fraction) dX9_fraction_11 (q := 12) rfl
def rX9_fraction_12 := W_goto (M := mX9_fraction) dX9_fraction_12 (t := 16) rfl
def rX9_fraction_15 := W_lload1 (M := mX9_fraction) dX9_fraction_15 (q := 16) rfl
def rX9_fraction_16 := W_lload1 (M := mX9_fraction) dX9_fraction_16 (q := 17) rfl
def rX9_fraction_17 := W_lload3 (M := mX9_fraction) dX9_fraction_17 (q := 18) rfl
def rX9_fraction_18 := W_invS2 (M := mX9_fraction) dX9_fraction_18 (q := 21) rfl ml1_9_65 rfl rfl rfl
def rX9_fraction_21 := W_ldiv (M := mX9_fraction) dX9_fraction_21 (q := 22) rfl
def rX9_fraction_22 := W_lret (M := mX9_fraction) dX9_fraction_22 rfl
-- X9_gets
theorem eX9_gets {d : Nat} {h : qH} {Q : Option (Option Value) → qH → Prop} {s0 : Nat} {x1 : Int32} {x2 : Int32} : WM d mX9_gets [.ref s0, .int x1, .int x2] h Q = WP d mX9_gets (0, 0) 0 [some (.ref s0), some (.int x1), some (.int x2)] [] h Q := rfl
def rX9_gets_0 := W_iload1 (M := mX9_gets) dX9_gets_0 (q := 1) rfl
def rX9_gets_1 := W_if_eq (M := mX9_gets) dX9_gets_1 (q := 4) rfl (t := 24) rfl
def rX9_gets_4 := W_iload2 (M := mX9_gets) dX9_gets_4 (q := 5) rfl
def rX9_gets_5 := W_if_eq (M := mX9_gets) dX9_gets_5 (q := 8) rfl (t := 12) rfl
def rX9_gets_8 := W_iconst (M := mX9_gets) dX9_gets_8 (q := 9) rfl (v := (1)) rfl
def rX9_gets_9 := W_goto (M := mX9_gets) dX9_gets_9 (t := 13) rfl
def rX9_gets_12 := W_iconst (M := mX9_gets) dX9_gets_12 (q := 13) rfl (v := (4)) rfl
def rX9_gets_13 := W_aload0 (M := mX9_gets) dX9_gets_13 (q := 14) rfl
def rX9_gets_13b := W_aloadR0 (M := mX9_gets) dX9_gets_13 (q := 14) rfl
def rX9_gets_14 := W_getR (M := mX9_gets) dX9_gets_14 (q := 17) rfl fl9_316 ⟨_, rfl⟩
def rX9_gets_17 := W_getI (M := mX9_gets) dX9_gets_17 (q := 20) rfl fl9_165 (Or.inl rfl)
def rX9_gets_20 := W_isub (M := mX9_gets) dX9_gets_20 (q := 21) rfl
def rX9_gets_21 := W_goto (M := mX9_gets) dX9_gets_21 (t := 33) rfl
def rX9_gets_24 := W_iload2 (M := mX9_gets) dX9_gets_24 (q := 25) rfl
def rX9_gets_25 := W_if_eq (M := mX9_gets) dX9_gets_25 (q := 28) rfl (t := 32) rfl
def rX9_gets_28 := W_iconst (M := mX9_gets) dX9_gets_28 (q := 29) rfl (v := (3)) rfl
def rX9_gets_29 := W_goto (M := mX9_gets) dX9_gets_29 (t := 33) rfl
def rX9_gets_32 := W_iconst (M := mX9_gets) dX9_gets_32 (q := 33) rfl (v := (0)) rfl
def rX9_gets_33 := W_iret (M := mX9_gets) dX9_gets_33 rfl
-- X9_glassesToCome
theorem eX9_glassesToCome {d : Nat} {h : qH} {Q : Option (Option Value) → qH → Prop} {s0 : Nat} : WM d mX9_glassesToCome [.ref s0] h Q = WP d mX9_glassesToCome (0, 0) 0 [some (.ref s0), none, none] [] h Q := rfl
def rX9_glassesToCome_0 := W_iconst (M := mX9_glassesToCome) dX9_glassesToCome_0 (q := 1) rfl (v := (0)) rfl
def rX9_glassesToCome_1 := W_istore1 (M := mX9_glassesToCome) dX9_glassesToCome_1 (q := 2) rfl
def rX9_glassesToCome_2 := W_iconst (M := mX9_glassesToCome) dX9_glassesToCome_2 (q := 3) rfl (v := (0)) rfl
def rX9_glassesToCome_3 := W_istore2 (M := mX9_glassesToCome) dX9_glassesToCome_3 (q := 4) rfl
def rX9_glassesToCome_4 := W_iload2 (M := mX9_glassesToCome) dX9_glassesToCome_4 (q := 5) rfl
def rX9_glassesToCome_5 := W_aload0 (M := mX9_glassesToCome) dX9_glassesToCome_5 (q := 6) rfl
def rX9_glassesToCome_5b := W_aloadR0 (M := mX9_glassesToCome) dX9_glassesToCome_5 (q := 6) rfl
def rX9_glassesToCome_6 := W_getR (M := mX9_glassesToCome) dX9_glassesToCome_6 (q := 9) rfl fl9_316 ⟨_, rfl⟩
def rX9_glassesToCome_9 := W_getI (M := mX9_glassesToCome) dX9_glassesToCome_9 (q := 12) rfl fl9_287 (Or.inl rfl)
def rX9_glassesToCome_12 := W_icmp_ge (M := mX9_glassesToCome) dX9_glassesToCome_12 (q := 15) rfl (t := 48) rfl
def rX9_glassesToCome_15 := W_iload1 (M := mX9_glassesToCome) dX9_glassesToCome_15 (q := 16) rfl
def rX9_glassesToCome_16 := W_aload0 (M := mX9_glassesToCome) dX9_glassesToCome_16 (q := 17) rfl
def rX9_glassesToCome_16b := W_aloadR0 (M := mX9_glassesToCome) dX9_glassesToCome_16 (q := 17) rfl
def rX9_glassesToCome_17 := W_getR (M := mX9_glassesToCome) dX9_glassesToCome_17 (q := 20) rfl fl9_316 ⟨_, rfl⟩
def rX9_glassesToCome_20 := W_getA (M := mX9_glassesToCome) dX9_glassesToCome_20 (q := 23) rfl fl9_290 ⟨_, rfl⟩
def rX9_glassesToCome_23 := W_iload2 (M := mX9_glassesToCome) dX9_glassesToCome_23 (q := 24) rfl
def rX9_glassesToCome_24 := W_iald (M := mX9_glassesToCome) dX9_glassesToCome_24 (q := 25) rfl
def rX9_glassesToCome_25 := W_aload0 (M := mX9_glassesToCome) dX9_glassesToCome_25 (q := 26) rfl
def rX9_glassesToCome_25b := W_aloadR0 (M := mX9_glassesToCome) dX9_glassesToCome_25 (q := 26) rfl
def rX9_glassesToCome_26 := W_getA (M := mX9_glassesToCome) dX9_glassesToCome_26 (q := 29) rfl fl9_17 ⟨_, rfl⟩
def rX9_glassesToCome_29 := W_bipush (M := mX9_glassesToCome) dX9_glassesToCome_29 (q := 31) rfl (v := (9)) rfl
def rX9_glassesToCome_31 := W_iald (M := mX9_glassesToCome) dX9_glassesToCome_31 (q := 32) rfl
def rX9_glassesToCome_32 := W_icmp_lt (M := mX9_glassesToCome) dX9_glassesToCome_32 (q := 35) rfl (t := 39) rfl
def rX9_glassesToCome_35 := W_iconst (M := mX9_glassesToCome) dX9_glassesToCome_35 (q := 36) rfl (v := (1)) rfl
def rX9_glassesToCome_36 := W_goto (M := mX9_glassesToCome) dX9_glassesToCome_36 (t := 40) rfl
def rX9_glassesToCome_39 := W_iconst (M := mX9_glassesToCome) dX9_glassesToCome_39 (q := 40) rfl (v := (0)) rfl
def rX9_glassesToCome_40 := W_iadd (M := mX9_glassesToCome) dX9_glassesToCome_40 (q := 41) rfl
def rX9_glassesToCome_41 := W_istore1 (M := mX9_glassesToCome) dX9_glassesToCome_41 (q := 42) rfl
def rX9_glassesToCome_42 := W_iinc2 (M := mX9_glassesToCome) dX9_glassesToCome_42 (q := 45) rfl (v := (1)) rfl
def rX9_glassesToCome_45 := W_goto (M := mX9_glassesToCome) dX9_glassesToCome_45 (t := 4) rfl
def rX9_glassesToCome_48 := W_iload1 (M := mX9_glassesToCome) dX9_glassesToCome_48 (q := 49) rfl
def rX9_glassesToCome_49 := W_iret (M := mX9_glassesToCome) dX9_glassesToCome_49 rfl
-- X9_goesOn
theorem eX9_goesOn {d : Nat} {h : qH} {Q : Option (Option Value) → qH → Prop} {s0 : Nat} : WM d mX9_goesOn [.ref s0] h Q = WP d mX9_goesOn (0, 0) 0 [some (.ref s0), none, none] [] h Q := rfl
def rX9_goesOn_0 := W_aload0 (M := mX9_goesOn) dX9_goesOn_0 (q := 1) rfl
def rX9_goesOn_0b := W_aloadR0 (M := mX9_goesOn) dX9_goesOn_0 (q := 1) rfl
def rX9_goesOn_1 := W_getI (M := mX9_goesOn) dX9_goesOn_1 (q := 4) rfl fl9_84 (Or.inl rfl)
def rX9_goesOn_4 := W_iconst (M := mX9_goesOn) dX9_goesOn_4 (q := 5) rfl (v := (5)) rfl
def rX9_goesOn_5 := W_icmp_ne (M := mX9_goesOn) dX9_goesOn_5 (q := 8) rfl (t := 9) rfl
def rX9_goesOn_8 := W_vret (M := mX9_goesOn) dX9_goesOn_8 rfl
def rX9_goesOn_9 := W_aload0 (M := mX9_goesOn) dX9_goesOn_9 (q := 10) rfl
def rX9_goesOn_9b := W_aloadR0 (M := mX9_goesOn) dX9_goesOn_9 (q := 10) rfl
def rX9_goesOn_10 := W_aload0 (M := mX9_goesOn) dX9_goesOn_10 (q := 11) rfl
def rX9_goesOn_10b := W_aloadR0 (M := mX9_goesOn) dX9_goesOn_10 (q := 11) rfl
def rX9_goesOn_11 := W_getI (M := mX9_goesOn) dX9_goesOn_11 (q := 14) rfl fl9_87 (Or.inl rfl)
def rX9_goesOn_14 := W_invV1 (M := mX9_goesOn) dX9_goesOn_14 (q := 17) rfl ml0_9_90 rfl
def rX9_goesOn_17 := W_bipush (M := mX9_goesOn) dX9_goesOn_17 (q := 19) rfl (v := (32)) rfl
def rX9_goesOn_19 := W_icmp_ne (M := mX9_goesOn) dX9_goesOn_19 (q := 22) rfl (t := 35) rfl
def rX9_goesOn_22 := W_aload0 (M := mX9_goesOn) dX9_goesOn_22 (q := 23) rfl
def rX9_goesOn_22b := W_aloadR0 (M := mX9_goesOn) dX9_goesOn_22 (q := 23) rfl
def rX9_goesOn_23 := W_dupI (M := mX9_goesOn) dX9_goesOn_23 (q := 24) rfl
def rX9_goesOn_23b := W_dupR (M := mX9_goesOn) dX9_goesOn_23 (q := 24) rfl
def rX9_goesOn_24 := W_getI (M := mX9_goesOn) dX9_goesOn_24 (q := 27) rfl fl9_87 (Or.inl rfl)
def rX9_goesOn_27 := W_iconst (M := mX9_goesOn) dX9_goesOn_27 (q := 28) rfl (v := (1)) rfl
def rX9_goesOn_28 := W_iadd (M := mX9_goesOn) dX9_goesOn_28 (q := 29) rfl
def rX9_goesOn_29 := W_putI (M := mX9_goesOn) dX9_goesOn_29 (q := 32) rfl fl9_87 rfl (Or.inl rfl)
def rX9_goesOn_32 := W_goto (M := mX9_goesOn) dX9_goesOn_32 (t := 9) rfl
def rX9_goesOn_35 := W_aload0 (M := mX9_goesOn) dX9_goesOn_35 (q := 36) rfl
def rX9_goesOn_35b := W_aloadR0 (M := mX9_goesOn) dX9_goesOn_35 (q := 36) rfl
def rX9_goesOn_36 := W_aload0 (M := mX9_goesOn) dX9_goesOn_36 (q := 37) rfl
def rX9_goesOn_36b := W_aloadR0 (M := mX9_goesOn) dX9_goesOn_36 (q := 37) rfl
def rX9_goesOn_37 := W_getI (M := mX9_goesOn) dX9_goesOn_37 (q := 40) rfl fl9_87 (Or.inl rfl)
def rX9_goesOn_40 := W_putI (M := mX9_goesOn) dX9_goesOn_40 (q := 43) rfl fl9_93 rfl (Or.inl rfl)
def rX9_goesOn_43 := W_aload0 (M := mX9_goesOn) dX9_goesOn_43 (q := 44) rfl
def rX9_goesOn_43b := W_aloadR0 (M := mX9_goesOn) dX9_goesOn_43 (q := 44) rfl
def rX9_goesOn_44 := W_iconst (M := mX9_goesOn) dX9_goesOn_44 (q := 45) rfl (v := (0)) rfl
def rX9_goesOn_45 := W_putI (M := mX9_goesOn) dX9_goesOn_45 (q := 48) rfl fl9_84 rfl (Or.inl rfl)
def rX9_goesOn_48 := W_aload0 (M := mX9_goesOn) dX9_goesOn_48 (q := 49) rfl
def rX9_goesOn_48b := W_aloadR0 (M := mX9_goesOn) dX9_goesOn_48 (q := 49) rfl
def rX9_goesOn_49 := W_aload0 (M := mX9_goesOn) dX9_goesOn_49 (q := 50) rfl
def rX9_goesOn_49b := W_aloadR0 (M := mX9_goesOn) dX9_goesOn_49 (q := 50) rfl
def rX9_goesOn_50 := W_getI (M := mX9_goesOn) dX9_goesOn_50 (q := 53) rfl fl9_87 (Or.inl rfl)
def rX9_goesOn_53 := W_invV1 (M := mX9_goesOn) dX9_goesOn_53 (q := 56) rfl ml0_9_90 rfl
def rX9_goesOn_56 := W_istore1 (M := mX9_goesOn) dX9_goesOn_56 (q := 57) rfl
def rX9_goesOn_57 := W_iconst (M := mX9_goesOn) dX9_goesOn_57 (q := 58) rfl (v := (0)) rfl
def rX9_goesOn_58 := W_istore2 (M := mX9_goesOn) dX9_goesOn_58 (q := 59) rfl
def rX9_goesOn_59 := W_iload1 (M := mX9_goesOn) dX9_goesOn_59 (q := 60) rfl
def rX9_goesOn_60 := W_iconst (M := mX9_goesOn) dX9_goesOn_60 (q := 61) rfl (v := (-1)) rfl
def rX9_goesOn_61 := W_icmp_ne (M := mX9_goesOn) dX9_goesOn_61 (q := 64) rfl (t := 72) rfl
def rX9_goesOn_64 := W_aload0 (M := mX9_goesOn) dX9_goesOn_64 (q := 65) rfl
def rX9_goesOn_64b := W_aloadR0 (M := mX9_goesOn) dX9_goesOn_64 (q := 65) rfl
def rX9_goesOn_65 := W_iconst (M := mX9_goesOn) dX9_goesOn_65 (q := 66) rfl (v := (1)) rfl
def rX9_goesOn_66 := W_putI (M := mX9_goesOn) dX9_goesOn_66 (q := 69) rfl fl9_84 rfl (Or.inl rfl)
def rX9_goesOn_69 := W_goto (M := mX9_goesOn) dX9_goesOn_69 (t := 265) rfl
def rX9_goesOn_72 := W_iload1 (M := mX9_goesOn) dX9_goesOn_72 (q := 73) rfl
def rX9_goesOn_73 := W_invS1 (M := mX9_goesOn) dX9_goesOn_73 (q := 76) rfl ml1_9_96 rfl rfl rfl
def rX9_goesOn_76 := W_if_eq (M := mX9_goesOn) dX9_goesOn_76 (q := 79) rfl (t := 161) rfl
def rX9_goesOn_79 := W_aload0 (M := mX9_goesOn) dX9_goesOn_79 (q := 80) rfl
def rX9_goesOn_79b := W_aloadR0 (M := mX9_goesOn) dX9_goesOn_79 (q := 80) rfl
def rX9_goesOn_80 := W_lconst (M := mX9_goesOn) dX9_goesOn_80 (q := 81) rfl (v := 0) rfl
def rX9_goesOn_81 := W_putJ (M := mX9_goesOn) dX9_goesOn_81 (q := 84) rfl fl9_100 rfl (Or.inl rfl)
def rX9_goesOn_84 := W_aload0 (M := mX9_goesOn) dX9_goesOn_84 (q := 85) rfl
def rX9_goesOn_84b := W_aloadR0 (M := mX9_goesOn) dX9_goesOn_84 (q := 85) rfl
def rX9_goesOn_85 := W_aload0 (M := mX9_goesOn) dX9_goesOn_85 (q := 86) rfl
def rX9_goesOn_85b := W_aloadR0 (M := mX9_goesOn) dX9_goesOn_85 (q := 86) rfl
def rX9_goesOn_86 := W_getI (M := mX9_goesOn) dX9_goesOn_86 (q := 89) rfl fl9_87 (Or.inl rfl)
def rX9_goesOn_89 := W_invV1 (M := mX9_goesOn) dX9_goesOn_89 (q := 92) rfl ml0_9_90 rfl
def rX9_goesOn_92 := W_invS1 (M := mX9_goesOn) dX9_goesOn_92 (q := 95) rfl ml1_9_96 rfl rfl rfl
def rX9_goesOn_95 := W_if_eq (M := mX9_goesOn) dX9_goesOn_95 (q := 98) rfl (t := 147) rfl
def rX9_goesOn_98 := W_iload2 (M := mX9_goesOn) dX9_goesOn_98 (q := 99) rfl
def rX9_goesOn_99 := W_bipush (M := mX9_goesOn) dX9_goesOn_99 (q := 101) rfl (v := (8)) rfl
def rX9_goesOn_101 := W_icmp_ge (M := mX9_goesOn) dX9_goesOn_101 (q := 104) rfl (t := 131) rfl
def rX9_goesOn_104 := W_aload0 (M := mX9_goesOn) dX9_goesOn_104 (q := 105) rfl
def rX9_goesOn_104b := W_aloadR0 (M := mX9_goesOn) dX9_goesOn_104 (q := 105) rfl
def rX9_goesOn_105 := W_ldc2_w (M := mX9_goesOn) dX9_goesOn_105 (q := 108) rfl cj9_78
def rX9_goesOn_108 := W_aload0 (M := mX9_goesOn) dX9_goesOn_108 (q := 109) rfl
def rX9_goesOn_108b := W_aloadR0 (M := mX9_goesOn) dX9_goesOn_108 (q := 109) rfl
def rX9_goesOn_109 := W_getJ (M := mX9_goesOn) dX9_goesOn_109 (q := 112) rfl fl9_100 rfl
def rX9_goesOn_112 := W_lmul (M := mX9_goesOn) dX9_goesOn_112 (q := 113) rfl
def rX9_goesOn_113 := W_aload0 (M := mX9_goesOn) dX9_goesOn_113 (q := 114) rfl
def rX9_goesOn_113b := W_aloadR0 (M := mX9_goesOn) dX9_goesOn_113 (q := 114) rfl
def rX9_goesOn_114 := W_aload0 (M := mX9_goesOn) dX9_goesOn_114 (q := 115) rfl
def rX9_goesOn_114b := W_aloadR0 (M := mX9_goesOn) dX9_goesOn_114 (q := 115) rfl
def rX9_goesOn_115 := W_getI (M := mX9_goesOn) dX9_goesOn_115 (q := 118) rfl fl9_87 (Or.inl rfl)
def rX9_goesOn_118 := W_invV1 (M := mX9_goesOn) dX9_goesOn_118 (q := 121) rfl ml0_9_90 rfl
def rX9_goesOn_121 := W_bipush (M := mX9_goesOn) dX9_goesOn_121 (q := 123) rfl (v := (97)) rfl
def rX9_goesOn_123 := W_isub (M := mX9_goesOn) dX9_goesOn_123 (q := 124) rfl
def rX9_goesOn_124 := W_iconst (M := mX9_goesOn) dX9_goesOn_124 (q := 125) rfl (v := (1)) rfl
def rX9_goesOn_125 := W_iadd (M := mX9_goesOn) dX9_goesOn_125 (q := 126) rfl
def rX9_goesOn_126 := W_i2l (M := mX9_goesOn) dX9_goesOn_126 (q := 127) rfl
def rX9_goesOn_127 := W_ladd (M := mX9_goesOn) dX9_goesOn_127 (q := 128) rfl
def rX9_goesOn_128 := W_putJ (M := mX9_goesOn) dX9_goesOn_128 (q := 131) rfl fl9_100 rfl (Or.inl rfl)
def rX9_goesOn_131 := W_iinc2 (M := mX9_goesOn) dX9_goesOn_131 (q := 134) rfl (v := (1)) rfl
def rX9_goesOn_134 := W_aload0 (M := mX9_goesOn) dX9_goesOn_134 (q := 135) rfl
def rX9_goesOn_134b := W_aloadR0 (M := mX9_goesOn) dX9_goesOn_134 (q := 135) rfl
def rX9_goesOn_135 := W_dupI (M := mX9_goesOn) dX9_goesOn_135 (q := 136) rfl
def rX9_goesOn_135b := W_dupR (M := mX9_goesOn) dX9_goesOn_135 (q := 136) rfl
def rX9_goesOn_136 := W_getI (M := mX9_goesOn) dX9_goesOn_136 (q := 139) rfl fl9_87 (Or.inl rfl)
def rX9_goesOn_139 := W_iconst (M := mX9_goesOn) dX9_goesOn_139 (q := 140) rfl (v := (1)) rfl
def rX9_goesOn_140 := W_iadd (M := mX9_goesOn) dX9_goesOn_140 (q := 141) rfl
def rX9_goesOn_141 := W_putI (M := mX9_goesOn) dX9_goesOn_141 (q := 144) rfl fl9_87 rfl (Or.inl rfl)
def rX9_goesOn_144 := W_goto (M := mX9_goesOn) dX9_goesOn_144 (t := 84) rfl
def rX9_goesOn_147 := W_iload2 (M := mX9_goesOn) dX9_goesOn_147 (q := 148) rfl
def rX9_goesOn_148 := W_bipush (M := mX9_goesOn) dX9_goesOn_148 (q := 150) rfl (v := (8)) rfl
def rX9_goesOn_150 := W_icmp_gt (M := mX9_goesOn) dX9_goesOn_150 (q := 153) rfl (t := 265) rfl
def rX9_goesOn_153 := W_aload0 (M := mX9_goesOn) dX9_goesOn_153 (q := 154) rfl
def rX9_goesOn_153b := W_aloadR0 (M := mX9_goesOn) dX9_goesOn_153 (q := 154) rfl
def rX9_goesOn_154 := W_iconst (M := mX9_goesOn) dX9_goesOn_154 (q := 155) rfl (v := (2)) rfl
def rX9_goesOn_155 := W_putI (M := mX9_goesOn) dX9_goesOn_155 (q := 158) rfl fl9_84 rfl (Or.inl rfl)
def rX9_goesOn_158 := W_goto (M := mX9_goesOn) dX9_goesOn_158 (t := 265) rfl
def rX9_goesOn_161 := W_iload1 (M := mX9_goesOn) dX9_goesOn_161 (q := 162) rfl
def rX9_goesOn_162 := W_invS1 (M := mX9_goesOn) dX9_goesOn_162 (q := 165) rfl ml1_9_104 rfl rfl rfl
def rX9_goesOn_165 := W_if_eq (M := mX9_goesOn) dX9_goesOn_165 (q := 168) rfl (t := 244) rfl
def rX9_goesOn_168 := W_aload0 (M := mX9_goesOn) dX9_goesOn_168 (q := 169) rfl
def rX9_goesOn_168b := W_aloadR0 (M := mX9_goesOn) dX9_goesOn_168 (q := 169) rfl
def rX9_goesOn_169 := W_iconst (M := mX9_goesOn) dX9_goesOn_169 (q := 170) rfl (v := (0)) rfl
def rX9_goesOn_170 := W_putI (M := mX9_goesOn) dX9_goesOn_170 (q := 173) rfl fl9_107 rfl (Or.inl rfl)
def rX9_goesOn_173 := W_aload0 (M := mX9_goesOn) dX9_goesOn_173 (q := 174) rfl
def rX9_goesOn_173b := W_aloadR0 (M := mX9_goesOn) dX9_goesOn_173 (q := 174) rfl
def rX9_goesOn_174 := W_aload0 (M := mX9_goesOn) dX9_goesOn_174 (q := 175) rfl
def rX9_goesOn_174b := W_aloadR0 (M := mX9_goesOn) dX9_goesOn_174 (q := 175) rfl
def rX9_goesOn_175 := W_getI (M := mX9_goesOn) dX9_goesOn_175 (q := 178) rfl fl9_87 (Or.inl rfl)
def rX9_goesOn_178 := W_invV1 (M := mX9_goesOn) dX9_goesOn_178 (q := 181) rfl ml0_9_90 rfl
def rX9_goesOn_181 := W_invS1 (M := mX9_goesOn) dX9_goesOn_181 (q := 184) rfl ml1_9_104 rfl rfl rfl
def rX9_goesOn_184 := W_if_eq (M := mX9_goesOn) dX9_goesOn_184 (q := 187) rfl (t := 231) rfl
def rX9_goesOn_187 := W_iload2 (M := mX9_goesOn) dX9_goesOn_187 (q := 188) rfl
def rX9_goesOn_188 := W_iconst (M := mX9_goesOn) dX9_goesOn_188 (q := 189) rfl (v := (3)) rfl
def rX9_goesOn_189 := W_icmp_ge (M := mX9_goesOn) dX9_goesOn_189 (q := 192) rfl (t := 215) rfl
def rX9_goesOn_192 := W_aload0 (M := mX9_goesOn) dX9_goesOn_192 (q := 193) rfl
def rX9_goesOn_192b := W_aloadR0 (M := mX9_goesOn) dX9_goesOn_192 (q := 193) rfl
def rX9_goesOn_193 := W_bipush (M := mX9_goesOn) dX9_goesOn_193 (q := 195) rfl (v := (10)) rfl
def rX9_goesOn_195 := W_aload0 (M := mX9_goesOn) dX9_goesOn_195 (q := 196) rfl
def rX9_goesOn_195b := W_aloadR0 (M := mX9_goesOn) dX9_goesOn_195 (q := 196) rfl
def rX9_goesOn_196 := W_getI (M := mX9_goesOn) dX9_goesOn_196 (q := 199) rfl fl9_107 (Or.inl rfl)
def rX9_goesOn_199 := W_imul (M := mX9_goesOn) dX9_goesOn_199 (q := 200) rfl
def rX9_goesOn_200 := W_aload0 (M := mX9_goesOn) dX9_goesOn_200 (q := 201) rfl
def rX9_goesOn_200b := W_aloadR0 (M := mX9_goesOn) dX9_goesOn_200 (q := 201) rfl
def rX9_goesOn_201 := W_aload0 (M := mX9_goesOn) dX9_goesOn_201 (q := 202) rfl
def rX9_goesOn_201b := W_aloadR0 (M := mX9_goesOn) dX9_goesOn_201 (q := 202) rfl
def rX9_goesOn_202 := W_getI (M := mX9_goesOn) dX9_goesOn_202 (q := 205) rfl fl9_87 (Or.inl rfl)
def rX9_goesOn_205 := W_invV1 (M := mX9_goesOn) dX9_goesOn_205 (q := 208) rfl ml0_9_90 rfl
def rX9_goesOn_208 := W_iadd (M := mX9_goesOn) dX9_goesOn_208 (q := 209) rfl
def rX9_goesOn_209 := W_bipush (M := mX9_goesOn) dX9_goesOn_209 (q := 211) rfl (v := (48)) rfl
def rX9_goesOn_211 := W_isub (M := mX9_goesOn) dX9_goesOn_211 (q := 212) rfl
def rX9_goesOn_212 := W_putI (M := mX9_goesOn) dX9_goesOn_212 (q := 215) rfl fl9_107 rfl (Or.inl rfl)
def rX9_goesOn_215 := W_iinc2 (M := mX9_goesOn) dX9_goesOn_215 (q := 218) rfl (v := (1)) rfl
def rX9_goesOn_218 := W_aload0 (M := mX9_goesOn) dX9_goesOn_218 (q := 219) rfl
def rX9_goesOn_218b := W_aloadR0 (M := mX9_goesOn) dX9_goesOn_218 (q := 219) rfl
def rX9_goesOn_219 := W_dupI (M := mX9_goesOn) dX9_goesOn_219 (q := 220) rfl
def rX9_goesOn_219b := W_dupR (M := mX9_goesOn) dX9_goesOn_219 (q := 220) rfl
def rX9_goesOn_220 := W_getI (M := mX9_goesOn) dX9_goesOn_220 (q := 223) rfl fl9_87 (Or.inl rfl)
def rX9_goesOn_223 := W_iconst (M := mX9_goesOn) dX9_goesOn_223 (q := 224) rfl (v := (1)) rfl
def rX9_goesOn_224 := W_iadd (M := mX9_goesOn) dX9_goesOn_224 (q := 225) rfl
def rX9_goesOn_225 := W_putI (M := mX9_goesOn) dX9_goesOn_225 (q := 228) rfl fl9_87 rfl (Or.inl rfl)
def rX9_goesOn_228 := W_goto (M := mX9_goesOn) dX9_goesOn_228 (t := 173) rfl
def rX9_goesOn_231 := W_iload2 (M := mX9_goesOn) dX9_goesOn_231 (q := 232) rfl
def rX9_goesOn_232 := W_iconst (M := mX9_goesOn) dX9_goesOn_232 (q := 233) rfl (v := (3)) rfl
def rX9_goesOn_233 := W_icmp_gt (M := mX9_goesOn) dX9_goesOn_233 (q := 236) rfl (t := 265) rfl
def rX9_goesOn_236 := W_aload0 (M := mX9_goesOn) dX9_goesOn_236 (q := 237) rfl
def rX9_goesOn_236b := W_aloadR0 (M := mX9_goesOn) dX9_goesOn_236 (q := 237) rfl
def rX9_goesOn_237 := W_iconst (M := mX9_goesOn) dX9_goesOn_237 (q := 238) rfl (v := (3)) rfl
def rX9_goesOn_238 := W_putI (M := mX9_goesOn) dX9_goesOn_238 (q := 241) rfl fl9_84 rfl (Or.inl rfl)
def rX9_goesOn_241 := W_goto (M := mX9_goesOn) dX9_goesOn_241 (t := 265) rfl
def rX9_goesOn_244 := W_iload1 (M := mX9_goesOn) dX9_goesOn_244 (q := 245) rfl
def rX9_goesOn_245 := W_bipush (M := mX9_goesOn) dX9_goesOn_245 (q := 247) rfl (v := (59)) rfl
def rX9_goesOn_247 := W_icmp_ne (M := mX9_goesOn) dX9_goesOn_247 (q := 250) rfl (t := 265) rfl
def rX9_goesOn_250 := W_aload0 (M := mX9_goesOn) dX9_goesOn_250 (q := 251) rfl
def rX9_goesOn_250b := W_aloadR0 (M := mX9_goesOn) dX9_goesOn_250 (q := 251) rfl
def rX9_goesOn_251 := W_iconst (M := mX9_goesOn) dX9_goesOn_251 (q := 252) rfl (v := (4)) rfl
def rX9_goesOn_252 := W_putI (M := mX9_goesOn) dX9_goesOn_252 (q := 255) rfl fl9_84 rfl (Or.inl rfl)
def rX9_goesOn_255 := W_aload0 (M := mX9_goesOn) dX9_goesOn_255 (q := 256) rfl
def rX9_goesOn_255b := W_aloadR0 (M := mX9_goesOn) dX9_goesOn_255 (q := 256) rfl
def rX9_goesOn_256 := W_dupI (M := mX9_goesOn) dX9_goesOn_256 (q := 257) rfl
def rX9_goesOn_256b := W_dupR (M := mX9_goesOn) dX9_goesOn_256 (q := 257) rfl
def rX9_goesOn_257 := W_getI (M := mX9_goesOn) dX9_goesOn_257 (q := 260) rfl fl9_87 (Or.inl rfl)
def rX9_goesOn_260 := W_iconst (M := mX9_goesOn) dX9_goesOn_260 (q := 261) rfl (v := (1)) rfl
def rX9_goesOn_261 := W_iadd (M := mX9_goesOn) dX9_goesOn_261 (q := 262) rfl
def rX9_goesOn_262 := W_putI (M := mX9_goesOn) dX9_goesOn_262 (q := 265) rfl fl9_87 rfl (Or.inl rfl)
def rX9_goesOn_265 := W_vret (M := mX9_goesOn) dX9_goesOn_265 rfl
-- X9_good
theorem eX9_good {d : Nat} {h : qH} {Q : Option (Option Value) → qH → Prop} {s0 : Nat} {x1 : Int32} : WM d mX9_good [.ref s0, .int x1] h Q = WP d mX9_good (0, 0) 0 [some (.ref s0), some (.int x1)] [] h Q := rfl
def rX9_good_0 := W_aload0 (M := mX9_good) dX9_good_0 (q := 1) rfl
def rX9_good_0b := W_aloadR0 (M := mX9_good) dX9_good_0 (q := 1) rfl
def rX9_good_1 := W_iconst (M := mX9_good) dX9_good_1 (q := 2) rfl (v := (0)) rfl
def rX9_good_2 := W_putI (M := mX9_good) dX9_good_2 (q := 5) rfl fl9_55 rfl (Or.inl rfl)
def rX9_good_5 := W_aload0 (M := mX9_good) dX9_good_5 (q := 6) rfl
def rX9_good_5b := W_aloadR0 (M := mX9_good) dX9_good_5 (q := 6) rfl
def rX9_good_6 := W_iconst (M := mX9_good) dX9_good_6 (q := 7) rfl (v := (-1)) rfl
def rX9_good_7 := W_putI (M := mX9_good) dX9_good_7 (q := 10) rfl fl9_9 rfl (Or.inl rfl)
def rX9_good_10 := W_iload1 (M := mX9_good) dX9_good_10 (q := 11) rfl
def rX9_good_11 := W_iret (M := mX9_good) dX9_good_11 rfl
-- X9_granted
theorem eX9_granted {d : Nat} {h : qH} {Q : Option (Option Value) → qH → Prop} {s0 : Nat} : WM d mX9_granted [.ref s0] h Q = WP d mX9_granted (0, 0) 0 [some (.ref s0)] [] h Q := rfl
def rX9_granted_0 := W_aload0 (M := mX9_granted) dX9_granted_0 (q := 1) rfl
def rX9_granted_0b := W_aloadR0 (M := mX9_granted) dX9_granted_0 (q := 1) rfl
def rX9_granted_1 := W_iconst (M := mX9_granted) dX9_granted_1 (q := 2) rfl (v := (0)) rfl
def rX9_granted_2 := W_invV1 (M := mX9_granted) dX9_granted_2 (q := 5) rfl ml0_9_62 rfl
def rX9_granted_5 := W_popI (M := mX9_granted) dX9_granted_5 (q := 6) rfl
def rX9_granted_6 := W_iconst (M := mX9_granted) dX9_granted_6 (q := 7) rfl (v := (1)) rfl
def rX9_granted_7 := W_zret (M := mX9_granted) dX9_granted_7 rfl
-- X9_holds
theorem eX9_holds {d : Nat} {h : qH} {Q : Option (Option Value) → qH → Prop} {s0 : Nat} : WM d mX9_holds [.ref s0] h Q = WP d mX9_holds (0, 0) 0 [some (.ref s0), none] [] h Q := rfl
def rX9_holds_0 := W_iconst (M := mX9_holds) dX9_holds_0 (q := 1) rfl (v := (0)) rfl
def rX9_holds_1 := W_istore1 (M := mX9_holds) dX9_holds_1 (q := 2) rfl
def rX9_holds_2 := W_iload1 (M := mX9_holds) dX9_holds_2 (q := 3) rfl
def rX9_holds_3 := W_bipush (M := mX9_holds) dX9_holds_3 (q := 5) rfl (v := (10)) rfl
def rX9_holds_5 := W_icmp_ge (M := mX9_holds) dX9_holds_5 (q := 8) rfl (t := 26) rfl
def rX9_holds_8 := W_aload0 (M := mX9_holds) dX9_holds_8 (q := 9) rfl
def rX9_holds_8b := W_aloadR0 (M := mX9_holds) dX9_holds_8 (q := 9) rfl
def rX9_holds_9 := W_getA (M := mX9_holds) dX9_holds_9 (q := 12) rfl fl9_36 ⟨_, rfl⟩
def rX9_holds_12 := W_iload1 (M := mX9_holds) dX9_holds_12 (q := 13) rfl
def rX9_holds_13 := W_aload0 (M := mX9_holds) dX9_holds_13 (q := 14) rfl
def rX9_holds_13b := W_aloadR0 (M := mX9_holds) dX9_holds_13 (q := 14) rfl
def rX9_holds_14 := W_getA (M := mX9_holds) dX9_holds_14 (q := 17) rfl fl9_21 ⟨_, rfl⟩
def rX9_holds_17 := W_iload1 (M := mX9_holds) dX9_holds_17 (q := 18) rfl
def rX9_holds_18 := W_iald (M := mX9_holds) dX9_holds_18 (q := 19) rfl
def rX9_holds_19 := W_iast (M := mX9_holds) dX9_holds_19 (q := 20) rfl
def rX9_holds_20 := W_iinc1 (M := mX9_holds) dX9_holds_20 (q := 23) rfl (v := (1)) rfl
def rX9_holds_23 := W_goto (M := mX9_holds) dX9_holds_23 (t := 2) rfl
def rX9_holds_26 := W_vret (M := mX9_holds) dX9_holds_26 rfl
-- X9_house
theorem eX9_house {d : Nat} {h : qH} {Q : Option (Option Value) → qH → Prop} {s0 : Nat} {x1 : Int32} {x2 : Int32} : WM d mX9_house [.ref s0, .int x1, .int x2] h Q = WP d mX9_house (0, 0) 0 [some (.ref s0), some (.int x1), some (.int x2)] [] h Q := rfl
def rX9_house_0 := W_aload0 (M := mX9_house) dX9_house_0 (q := 1) rfl
def rX9_house_0b := W_aloadR0 (M := mX9_house) dX9_house_0 (q := 1) rfl
def rX9_house_1 := W_iconst (M := mX9_house) dX9_house_1 (q := 2) rfl (v := (0)) rfl
def rX9_house_2 := W_putI (M := mX9_house) dX9_house_2 (q := 5) rfl fl9_52 rfl (Or.inl rfl)
def rX9_house_5 := W_aload0 (M := mX9_house) dX9_house_5 (q := 6) rfl
def rX9_house_5b := W_aloadR0 (M := mX9_house) dX9_house_5 (q := 6) rfl
def rX9_house_6 := W_iload1 (M := mX9_house) dX9_house_6 (q := 7) rfl
def rX9_house_7 := W_invV1 (M := mX9_house) dX9_house_7 (q := 10) rfl ml0_9_345 rfl
def rX9_house_10 := W_if_eq (M := mX9_house) dX9_house_10 (q := 13) rfl (t := 22) rfl
def rX9_house_13 := W_iload2 (M := mX9_house) dX9_house_13 (q := 14) rfl
def rX9_house_14 := W_iconst (M := mX9_house) dX9_house_14 (q := 15) rfl (v := (0)) rfl
def rX9_house_15 := W_iconst (M := mX9_house) dX9_house_15 (q := 16) rfl (v := (5)) rfl
def rX9_house_16 := W_invS3 (M := mX9_house) dX9_house_16 (q := 19) rfl ml1_9_131 rfl rfl rfl
def rX9_house_19 := W_if_ne (M := mX9_house) dX9_house_19 (q := 22) rfl (t := 28) rfl
def rX9_house_22 := W_aload0 (M := mX9_house) dX9_house_22 (q := 23) rfl
def rX9_house_22b := W_aloadR0 (M := mX9_house) dX9_house_22 (q := 23) rfl
def rX9_house_23 := W_iconst (M := mX9_house) dX9_house_23 (q := 24) rfl (v := (1)) rfl
def rX9_house_24 := W_invV1 (M := mX9_house) dX9_house_24 (q := 27) rfl ml0_9_58 rfl
def rX9_house_27 := W_iret (M := mX9_house) dX9_house_27 rfl
def rX9_house_28 := W_iload2 (M := mX9_house) dX9_house_28 (q := 29) rfl
def rX9_house_29 := W_tab (M := mX9_house) (k := 0) dX9_house_29 [64, 78, 89, 103, 117] (df := 141) rfl rfl (by decide) (by decide) 0 rfl
def rX9_house_64 := W_aload0 (M := mX9_house) dX9_house_64 (q := 65) rfl
def rX9_house_64b := W_aloadR0 (M := mX9_house) dX9_house_64 (q := 65) rfl
def rX9_house_65 := W_aload0 (M := mX9_house) dX9_house_65 (q := 66) rfl
def rX9_house_65b := W_aloadR0 (M := mX9_house) dX9_house_65 (q := 66) rfl
def rX9_house_66 := W_getR (M := mX9_house) dX9_house_66 (q := 69) rfl fl9_316 ⟨_, rfl⟩
def rX9_house_69 := W_getA (M := mX9_house) dX9_house_69 (q := 72) rfl fl9_240 ⟨_, rfl⟩
def rX9_house_72 := W_iload1 (M := mX9_house) dX9_house_72 (q := 73) rfl
def rX9_house_73 := W_iald (M := mX9_house) dX9_house_73 (q := 74) rfl
def rX9_house_74 := W_invV1 (M := mX9_house) dX9_house_74 (q := 77) rfl ml0_9_62 rfl
def rX9_house_77 := W_iret (M := mX9_house) dX9_house_77 rfl
def rX9_house_78 := W_aload0 (M := mX9_house) dX9_house_78 (q := 79) rfl
def rX9_house_78b := W_aloadR0 (M := mX9_house) dX9_house_78 (q := 79) rfl
def rX9_house_79 := W_aload0 (M := mX9_house) dX9_house_79 (q := 80) rfl
def rX9_house_79b := W_aloadR0 (M := mX9_house) dX9_house_79 (q := 80) rfl
def rX9_house_80 := W_getA (M := mX9_house) dX9_house_80 (q := 83) rfl fl9_17 ⟨_, rfl⟩
def rX9_house_83 := W_iload1 (M := mX9_house) dX9_house_83 (q := 84) rfl
def rX9_house_84 := W_iald (M := mX9_house) dX9_house_84 (q := 85) rfl
def rX9_house_85 := W_invV1 (M := mX9_house) dX9_house_85 (q := 88) rfl ml0_9_62 rfl
def rX9_house_88 := W_iret (M := mX9_house) dX9_house_88 rfl
def rX9_house_89 := W_aload0 (M := mX9_house) dX9_house_89 (q := 90) rfl
def rX9_house_89b := W_aloadR0 (M := mX9_house) dX9_house_89 (q := 90) rfl
def rX9_house_90 := W_aload0 (M := mX9_house) dX9_house_90 (q := 91) rfl
def rX9_house_90b := W_aloadR0 (M := mX9_house) dX9_house_90 (q := 91) rfl
def rX9_house_91 := W_getR (M := mX9_house) dX9_house_91 (q := 94) rfl fl9_316 ⟨_, rfl⟩
def rX9_house_94 := W_getA (M := mX9_house) dX9_house_94 (q := 97) rfl fl9_246 ⟨_, rfl⟩
def rX9_house_97 := W_iload1 (M := mX9_house) dX9_house_97 (q := 98) rfl
def rX9_house_98 := W_iald (M := mX9_house) dX9_house_98 (q := 99) rfl
def rX9_house_99 := W_invV1 (M := mX9_house) dX9_house_99 (q := 102) rfl ml0_9_62 rfl
def rX9_house_102 := W_iret (M := mX9_house) dX9_house_102 rfl
def rX9_house_103 := W_aload0 (M := mX9_house) dX9_house_103 (q := 104) rfl
def rX9_house_103b := W_aloadR0 (M := mX9_house) dX9_house_103 (q := 104) rfl
def rX9_house_104 := W_aload0 (M := mX9_house) dX9_house_104 (q := 105) rfl
def rX9_house_104b := W_aloadR0 (M := mX9_house) dX9_house_104 (q := 105) rfl
def rX9_house_105 := W_getR (M := mX9_house) dX9_house_105 (q := 108) rfl fl9_316 ⟨_, rfl⟩
def rX9_house_108 := W_getA (M := mX9_house) dX9_house_108 (q := 111) rfl fl9_268 ⟨_, rfl⟩
def rX9_house_111 := W_iload1 (M := mX9_house) dX9_house_111 (q := 112) rfl
def rX9_house_112 := W_iald (M := mX9_house) dX9_house_112 (q := 113) rfl
def rX9_house_113 := W_invV1 (M := mX9_house) dX9_house_113 (q := 116) rfl ml0_9_62 rfl
def rX9_house_116 := W_iret (M := mX9_house) dX9_house_116 rfl
def rX9_house_117 := W_aload0 (M := mX9_house) dX9_house_117 (q := 118) rfl
def rX9_house_117b := W_aloadR0 (M := mX9_house) dX9_house_117 (q := 118) rfl
def rX9_house_118 := W_aload0 (M := mX9_house) dX9_house_118 (q := 119) rfl
def rX9_house_118b := W_aloadR0 (M := mX9_house) dX9_house_118 (q := 119) rfl
def rX9_house_119 := W_getA (M := mX9_house) dX9_house_119 (q := 122) rfl fl9_17 ⟨_, rfl⟩
def rX9_house_122 := W_bipush (M := mX9_house) dX9_house_122 (q := 124) rfl (v := (7)) rfl
def rX9_house_124 := W_iald (M := mX9_house) dX9_house_124 (q := 125) rfl
def rX9_house_125 := W_iload1 (M := mX9_house) dX9_house_125 (q := 126) rfl
def rX9_house_126 := W_invS2 (M := mX9_house) dX9_house_126 (q := 129) rfl ml1_9_281 rfl rfl rfl
def rX9_house_129 := W_if_eq (M := mX9_house) dX9_house_129 (q := 132) rfl (t := 136) rfl
def rX9_house_132 := W_iconst (M := mX9_house) dX9_house_132 (q := 133) rfl (v := (1)) rfl
def rX9_house_133 := W_goto (M := mX9_house) dX9_house_133 (t := 137) rfl
def rX9_house_136 := W_iconst (M := mX9_house) dX9_house_136 (q := 137) rfl (v := (0)) rfl
def rX9_house_137 := W_invV1 (M := mX9_house) dX9_house_137 (q := 140) rfl ml0_9_62 rfl
def rX9_house_140 := W_iret (M := mX9_house) dX9_house_140 rfl
def rX9_house_141 := W_aload0 (M := mX9_house) dX9_house_141 (q := 142) rfl
def rX9_house_141b := W_aloadR0 (M := mX9_house) dX9_house_141 (q := 142) rfl
def rX9_house_142 := W_aload0 (M := mX9_house) dX9_house_142 (q := 143) rfl
def rX9_house_142b := W_aloadR0 (M := mX9_house) dX9_house_142 (q := 143) rfl
def rX9_house_143 := W_getA (M := mX9_house) dX9_house_143 (q := 146) rfl fl9_17 ⟨_, rfl⟩
def rX9_house_146 := W_bipush (M := mX9_house) dX9_house_146 (q := 148) rfl (v := (8)) rfl
def rX9_house_148 := W_iald (M := mX9_house) dX9_house_148 (q := 149) rfl
def rX9_house_149 := W_iload1 (M := mX9_house) dX9_house_149 (q := 150) rfl
def rX9_house_150 := W_invS2 (M := mX9_house) dX9_house_150 (q := 153) rfl ml1_9_281 rfl rfl rfl
def rX9_house_153 := W_if_eq (M := mX9_house) dX9_house_153 (q := 156) rfl (t := 160) rfl
def rX9_house_156 := W_iconst (M := mX9_house) dX9_house_156 (q := 157) rfl (v := (1)) rfl
def rX9_house_157 := W_goto (M := mX9_house) dX9_house_157 (t := 161) rfl
def rX9_house_160 := W_iconst (M := mX9_house) dX9_house_160 (q := 161) rfl (v := (0)) rfl
def rX9_house_161 := W_invV1 (M := mX9_house) dX9_house_161 (q := 164) rfl ml0_9_62 rfl
def rX9_house_164 := W_iret (M := mX9_house) dX9_house_164 rfl
-- X9_houseAtHand
theorem eX9_houseAtHand {d : Nat} {h : qH} {Q : Option (Option Value) → qH → Prop} {s0 : Nat} : WM d mX9_houseAtHand [.ref s0] h Q = WP d mX9_houseAtHand (0, 0) 0 [some (.ref s0), none] [] h Q := rfl
def rX9_houseAtHand_0 := W_aload0 (M := mX9_houseAtHand) dX9_houseAtHand_0 (q := 1) rfl
def rX9_houseAtHand_0b := W_aloadR0 (M := mX9_houseAtHand) dX9_houseAtHand_0 (q := 1) rfl
def rX9_houseAtHand_1 := W_invV0 (M := mX9_houseAtHand) dX9_houseAtHand_1 (q := 4) rfl ml0_9_170 rfl
def rX9_houseAtHand_4 := W_if_ne (M := mX9_houseAtHand) dX9_houseAtHand_4 (q := 7) rfl (t := 12) rfl
def rX9_houseAtHand_7 := W_aload0 (M := mX9_houseAtHand) dX9_houseAtHand_7 (q := 8) rfl
def rX9_houseAtHand_7b := W_aloadR0 (M := mX9_houseAtHand) dX9_houseAtHand_7 (q := 8) rfl
def rX9_houseAtHand_8 := W_iconst (M := mX9_houseAtHand) dX9_houseAtHand_8 (q := 9) rfl (v := (1)) rfl
def rX9_houseAtHand_9 := W_invV1 (M := mX9_houseAtHand) dX9_houseAtHand_9 (q := 12) rfl ml0_9_127 rfl
def rX9_houseAtHand_12 := W_aload0 (M := mX9_houseAtHand) dX9_houseAtHand_12 (q := 13) rfl
def rX9_houseAtHand_12b := W_aloadR0 (M := mX9_houseAtHand) dX9_houseAtHand_12 (q := 13) rfl
def rX9_houseAtHand_13 := W_getR (M := mX9_houseAtHand) dX9_houseAtHand_13 (q := 16) rfl fl9_161 ⟨_, rfl⟩
def rX9_houseAtHand_16 := W_aload0 (M := mX9_houseAtHand) dX9_houseAtHand_16 (q := 17) rfl
def rX9_houseAtHand_16b := W_aloadR0 (M := mX9_houseAtHand) dX9_houseAtHand_16 (q := 17) rfl
def rX9_houseAtHand_17 := W_getJ (M := mX9_houseAtHand) dX9_houseAtHand_17 (q := 20) rfl fl9_100 rfl
def rX9_houseAtHand_20 := W_invV1 (M := mX9_houseAtHand) dX9_houseAtHand_20 (q := 23) rfl ml0_9_174 rfl
def rX9_houseAtHand_23 := W_istore1 (M := mX9_houseAtHand) dX9_houseAtHand_23 (q := 24) rfl
def rX9_houseAtHand_24 := W_iload1 (M := mX9_houseAtHand) dX9_houseAtHand_24 (q := 25) rfl
def rX9_houseAtHand_25 := W_iconst (M := mX9_houseAtHand) dX9_houseAtHand_25 (q := 26) rfl (v := (-1)) rfl
def rX9_houseAtHand_26 := W_icmp_ne (M := mX9_houseAtHand) dX9_houseAtHand_26 (q := 29) rfl (t := 34) rfl
def rX9_houseAtHand_29 := W_aload0 (M := mX9_houseAtHand) dX9_houseAtHand_29 (q := 30) rfl
def rX9_houseAtHand_29b := W_aloadR0 (M := mX9_houseAtHand) dX9_houseAtHand_29 (q := 30) rfl
def rX9_houseAtHand_30 := W_iconst (M := mX9_houseAtHand) dX9_houseAtHand_30 (q := 31) rfl (v := (2)) rfl
def rX9_houseAtHand_31 := W_invV1 (M := mX9_houseAtHand) dX9_houseAtHand_31 (q := 34) rfl ml0_9_127 rfl
def rX9_houseAtHand_34 := W_aload0 (M := mX9_houseAtHand) dX9_houseAtHand_34 (q := 35) rfl
def rX9_houseAtHand_34b := W_aloadR0 (M := mX9_houseAtHand) dX9_houseAtHand_34 (q := 35) rfl
def rX9_houseAtHand_35 := W_getI (M := mX9_houseAtHand) dX9_houseAtHand_35 (q := 38) rfl fl9_84 (Or.inl rfl)
def rX9_houseAtHand_38 := W_iconst (M := mX9_houseAtHand) dX9_houseAtHand_38 (q := 39) rfl (v := (5)) rfl
def rX9_houseAtHand_39 := W_icmp_ne (M := mX9_houseAtHand) dX9_houseAtHand_39 (q := 42) rfl (t := 46) rfl
def rX9_houseAtHand_42 := W_iconst (M := mX9_houseAtHand) dX9_houseAtHand_42 (q := 43) rfl (v := (0)) rfl
def rX9_houseAtHand_43 := W_goto (M := mX9_houseAtHand) dX9_houseAtHand_43 (t := 47) rfl
def rX9_houseAtHand_46 := W_iload1 (M := mX9_houseAtHand) dX9_houseAtHand_46 (q := 47) rfl
def rX9_houseAtHand_47 := W_iret (M := mX9_houseAtHand) dX9_houseAtHand_47 rfl
-- X9_image
theorem eX9_image {d : Nat} {h : qH} {Q : Option (Option Value) → qH → Prop} {s0 : Nat} : WM d mX9_image [.ref s0] h Q = WP d mX9_image (0, 0) 0 [some (.ref s0), none] [] h Q := rfl
def rX9_image_0 := W_aload0 (M := mX9_image) dX9_image_0 (q := 1) rfl
def rX9_image_0b := W_aloadR0 (M := mX9_image) dX9_image_0 (q := 1) rfl
def rX9_image_1 := W_iconst (M := mX9_image) dX9_image_1 (q := 2) rfl (v := (0)) rfl
def rX9_image_2 := W_putI (M := mX9_image) dX9_image_2 (q := 5) rfl fl9_52 rfl (Or.inl rfl)
def rX9_image_5 := W_aload0 (M := mX9_image) dX9_image_5 (q := 6) rfl
def rX9_image_5b := W_aloadR0 (M := mX9_image) dX9_image_5 (q := 6) rfl
def rX9_image_6 := W_getR (M := mX9_image) dX9_image_6 (q := 9) rfl fl9_316 ⟨_, rfl⟩
def rX9_image_9 := W_ifnonnull (M := mX9_image) dX9_image_9 (q := 12) rfl (t := 18) rfl
def rX9_image_9b := W_ifnonnullN (M := mX9_image) dX9_image_9 (q := 12) rfl (t := 18) rfl
def rX9_image_12 := W_aload0 (M := mX9_image) dX9_image_12 (q := 13) rfl
def rX9_image_12b := W_aloadR0 (M := mX9_image) dX9_image_12 (q := 13) rfl
def rX9_image_13 := W_iconst (M := mX9_image) dX9_image_13 (q := 14) rfl (v := (1)) rfl
def rX9_image_14 := W_invV1 (M := mX9_image) dX9_image_14 (q := 17) rfl ml0_9_58 rfl
def rX9_image_17 := W_iret (M := mX9_image) dX9_image_17 rfl
def rX9_image_18 := W_aload0 (M := mX9_image) dX9_image_18 (q := 19) rfl
def rX9_image_18b := W_aloadR0 (M := mX9_image) dX9_image_18 (q := 19) rfl
def rX9_image_19 := W_getI (M := mX9_image) dX9_image_19 (q := 22) rfl fl9_324 (Or.inl rfl)
def rX9_image_22 := W_iconst (M := mX9_image) dX9_image_22 (q := 23) rfl (v := (3)) rfl
def rX9_image_23 := W_icmp_ne (M := mX9_image) dX9_image_23 (q := 26) rfl (t := 32) rfl
def rX9_image_26 := W_aload0 (M := mX9_image) dX9_image_26 (q := 27) rfl
def rX9_image_26b := W_aloadR0 (M := mX9_image) dX9_image_26 (q := 27) rfl
def rX9_image_27 := W_iconst (M := mX9_image) dX9_image_27 (q := 28) rfl (v := (3)) rfl
def rX9_image_28 := W_invV1 (M := mX9_image) dX9_image_28 (q := 31) rfl ml0_9_58 rfl
def rX9_image_31 := W_iret (M := mX9_image) dX9_image_31 rfl
def rX9_image_32 := W_iconst (M := mX9_image) dX9_image_32 (q := 33) rfl (v := (0)) rfl
def rX9_image_33 := W_istore1 (M := mX9_image) dX9_image_33 (q := 34) rfl
def rX9_image_34 := W_iload1 (M := mX9_image) dX9_image_34 (q := 35) rfl
def rX9_image_35 := W_bipush (M := mX9_image) dX9_image_35 (q := 37) rfl (v := (10)) rfl
def rX9_image_37 := W_icmp_ge (M := mX9_image) dX9_image_37 (q := 40) rfl (t := 66) rfl
def rX9_image_40 := W_aload0 (M := mX9_image) dX9_image_40 (q := 41) rfl
def rX9_image_40b := W_aloadR0 (M := mX9_image) dX9_image_40 (q := 41) rfl
def rX9_image_41 := W_getA (M := mX9_image) dX9_image_41 (q := 44) rfl fl9_27 ⟨_, rfl⟩
def rX9_image_44 := W_bipush (M := mX9_image) dX9_image_44 (q := 46) rfl (v := (10)) rfl
def rX9_image_46 := W_aload0 (M := mX9_image) dX9_image_46 (q := 47) rfl
def rX9_image_46b := W_aloadR0 (M := mX9_image) dX9_image_46 (q := 47) rfl
def rX9_image_47 := W_getI (M := mX9_image) dX9_image_47 (q := 50) rfl fl9_324 (Or.inl rfl)
def rX9_image_50 := W_imul (M := mX9_image) dX9_image_50 (q := 51) rfl
def rX9_image_51 := W_iload1 (M := mX9_image) dX9_image_51 (q := 52) rfl
def rX9_image_52 := W_iadd (M := mX9_image) dX9_image_52 (q := 53) rfl
def rX9_image_53 := W_aload0 (M := mX9_image) dX9_image_53 (q := 54) rfl
def rX9_image_53b := W_aloadR0 (M := mX9_image) dX9_image_53 (q := 54) rfl
def rX9_image_54 := W_getA (M := mX9_image) dX9_image_54 (q := 57) rfl fl9_17 ⟨_, rfl⟩
def rX9_image_57 := W_iload1 (M := mX9_image) dX9_image_57 (q := 58) rfl
def rX9_image_58 := W_iald (M := mX9_image) dX9_image_58 (q := 59) rfl
def rX9_image_59 := W_iast (M := mX9_image) dX9_image_59 (q := 60) rfl
def rX9_image_60 := W_iinc1 (M := mX9_image) dX9_image_60 (q := 63) rfl (v := (1)) rfl
def rX9_image_63 := W_goto (M := mX9_image) dX9_image_63 (t := 34) rfl
def rX9_image_66 := W_aload0 (M := mX9_image) dX9_image_66 (q := 67) rfl
def rX9_image_66b := W_aloadR0 (M := mX9_image) dX9_image_66 (q := 67) rfl
def rX9_image_67 := W_dupI (M := mX9_image) dX9_image_67 (q := 68) rfl
def rX9_image_67b := W_dupR (M := mX9_image) dX9_image_67 (q := 68) rfl
def rX9_image_68 := W_getI (M := mX9_image) dX9_image_68 (q := 71) rfl fl9_324 (Or.inl rfl)
def rX9_image_71 := W_iconst (M := mX9_image) dX9_image_71 (q := 72) rfl (v := (1)) rfl
def rX9_image_72 := W_iadd (M := mX9_image) dX9_image_72 (q := 73) rfl
def rX9_image_73 := W_putI (M := mX9_image) dX9_image_73 (q := 76) rfl fl9_324 rfl (Or.inl rfl)
def rX9_image_76 := W_aload0 (M := mX9_image) dX9_image_76 (q := 77) rfl
def rX9_image_76b := W_aloadR0 (M := mX9_image) dX9_image_76 (q := 77) rfl
def rX9_image_77 := W_aload0 (M := mX9_image) dX9_image_77 (q := 78) rfl
def rX9_image_77b := W_aloadR0 (M := mX9_image) dX9_image_77 (q := 78) rfl
def rX9_image_78 := W_getI (M := mX9_image) dX9_image_78 (q := 81) rfl fl9_324 (Or.inl rfl)
def rX9_image_81 := W_iconst (M := mX9_image) dX9_image_81 (q := 82) rfl (v := (1)) rfl
def rX9_image_82 := W_isub (M := mX9_image) dX9_image_82 (q := 83) rfl
def rX9_image_83 := W_invV1 (M := mX9_image) dX9_image_83 (q := 86) rfl ml0_9_62 rfl
def rX9_image_86 := W_iret (M := mX9_image) dX9_image_86 rfl
-- X9_in
theorem eX9_in {d : Nat} {h : qH} {Q : Option (Option Value) → qH → Prop} {x1 : Int32} {x2 : Int32} {x3 : Int32} : WM d mX9_in [.int x1, .int x2, .int x3] h Q = WP d mX9_in (0, 0) 0 [some (.int x1), some (.int x2), some (.int x3)] [] h Q := rfl
def rX9_in_0 := W_iload0 (M := mX9_in) dX9_in_0 (q := 1) rfl
def rX9_in_1 := W_iload1 (M := mX9_in) dX9_in_1 (q := 2) rfl
def rX9_in_2 := W_icmp_lt (M := mX9_in) dX9_in_2 (q := 5) rfl (t := 14) rfl
def rX9_in_5 := W_iload0 (M := mX9_in) dX9_in_5 (q := 6) rfl
def rX9_in_6 := W_iload2 (M := mX9_in) dX9_in_6 (q := 7) rfl
def rX9_in_7 := W_icmp_gt (M := mX9_in) dX9_in_7 (q := 10) rfl (t := 14) rfl
def rX9_in_10 := W_iconst (M := mX9_in) dX9_in_10 (q := 11) rfl (v := (1)) rfl
def rX9_in_11 := W_goto (M := mX9_in) dX9_in_11 (t := 15) rfl
def rX9_in_14 := W_iconst (M := mX9_in) dX9_in_14 (q := 15) rfl (v := (0)) rfl
def rX9_in_15 := W_zret (M := mX9_in) dX9_in_15 rfl
-- X9_init
theorem eX9_init {d : Nat} {h : qH} {Q : Option (Option Value) → qH → Prop} {s0 : Nat} : WM d mX9_init [.ref s0] h Q = WP d mX9_init (0, 0) 0 [some (.ref s0)] [] h Q := rfl
def rX9_init_0 := W_aload0 (M := mX9_init) dX9_init_0 (q := 1) rfl
def rX9_init_0b := W_aloadR0 (M := mX9_init) dX9_init_0 (q := 1) rfl
def rX9_init_1 := W_objI (M := mX9_init) dX9_init_1 (q := 4) rfl ml10_9_3 ml2n_9_3 ml3n_9_3
def rX9_init_4 := W_aload0 (M := mX9_init) dX9_init_4 (q := 5) rfl
def rX9_init_4b := W_aloadR0 (M := mX9_init) dX9_init_4 (q := 5) rfl
def rX9_init_5 := W_iconst (M := mX9_init) dX9_init_5 (q := 6) rfl (v := (-1)) rfl
def rX9_init_6 := W_putI (M := mX9_init) dX9_init_6 (q := 9) rfl fl9_9 rfl (Or.inl rfl)
def rX9_init_9 := W_aload0 (M := mX9_init) dX9_init_9 (q := 10) rfl
def rX9_init_9b := W_aloadR0 (M := mX9_init) dX9_init_9 (q := 10) rfl
def rX9_init_10 := W_sipush (M := mX9_init) dX9_init_10 (q := 13) rfl (v := (900)) rfl
def rX9_init_13 := W_newa (M := mX9_init) dX9_init_13 (q := 15) rfl
def rX9_init_15 := W_putA (M := mX9_init) dX9_init_15 (q := 18) rfl fl9_13 ⟨_, rfl⟩ (Or.inr ⟨rfl, rfl, rfl⟩)
def rX9_init_18 := W_aload0 (M := mX9_init) dX9_init_18 (q := 19) rfl
def rX9_init_18b := W_aloadR0 (M := mX9_init) dX9_init_18 (q := 19) rfl
def rX9_init_19 := W_bipush (M := mX9_init) dX9_init_19 (q := 21) rfl (v := (10)) rfl
def rX9_init_21 := W_newa (M := mX9_init) dX9_init_21 (q := 23) rfl
def rX9_init_23 := W_putA (M := mX9_init) dX9_init_23 (q := 26) rfl fl9_17 ⟨_, rfl⟩ (Or.inr ⟨rfl, rfl, rfl⟩)
def rX9_init_26 := W_aload0 (M := mX9_init) dX9_init_26 (q := 27) rfl
def rX9_init_26b := W_aloadR0 (M := mX9_init) dX9_init_26 (q := 27) rfl
def rX9_init_27 := W_bipush (M := mX9_init) dX9_init_27 (q := 29) rfl (v := (10)) rfl
def rX9_init_29 := W_newa (M := mX9_init) dX9_init_29 (q := 31) rfl
def rX9_init_31 := W_putA (M := mX9_init) dX9_init_31 (q := 34) rfl fl9_21 ⟨_, rfl⟩ (Or.inr ⟨rfl, rfl, rfl⟩)
def rX9_init_34 := W_aload0 (M := mX9_init) dX9_init_34 (q := 35) rfl
def rX9_init_34b := W_aloadR0 (M := mX9_init) dX9_init_34 (q := 35) rfl
def rX9_init_35 := W_sipush (M := mX9_init) dX9_init_35 (q := 38) rfl (v := (160)) rfl
def rX9_init_38 := W_newa (M := mX9_init) dX9_init_38 (q := 40) rfl
def rX9_init_40 := W_putA (M := mX9_init) dX9_init_40 (q := 43) rfl fl9_24 ⟨_, rfl⟩ (Or.inr ⟨rfl, rfl, rfl⟩)
def rX9_init_43 := W_aload0 (M := mX9_init) dX9_init_43 (q := 44) rfl
def rX9_init_43b := W_aloadR0 (M := mX9_init) dX9_init_43 (q := 44) rfl
def rX9_init_44 := W_bipush (M := mX9_init) dX9_init_44 (q := 46) rfl (v := (30)) rfl
def rX9_init_46 := W_newa (M := mX9_init) dX9_init_46 (q := 48) rfl
def rX9_init_48 := W_putA (M := mX9_init) dX9_init_48 (q := 51) rfl fl9_27 ⟨_, rfl⟩ (Or.inr ⟨rfl, rfl, rfl⟩)
def rX9_init_51 := W_aload0 (M := mX9_init) dX9_init_51 (q := 52) rfl
def rX9_init_51b := W_aloadR0 (M := mX9_init) dX9_init_51 (q := 52) rfl
def rX9_init_52 := W_bipush (M := mX9_init) dX9_init_52 (q := 54) rfl (v := (6)) rfl
def rX9_init_54 := W_newa (M := mX9_init) dX9_init_54 (q := 56) rfl
def rX9_init_56 := W_putA (M := mX9_init) dX9_init_56 (q := 59) rfl fl9_30 ⟨_, rfl⟩ (Or.inr ⟨rfl, rfl, rfl⟩)
def rX9_init_59 := W_aload0 (M := mX9_init) dX9_init_59 (q := 60) rfl
def rX9_init_59b := W_aloadR0 (M := mX9_init) dX9_init_59 (q := 60) rfl
def rX9_init_60 := W_iconst (M := mX9_init) dX9_init_60 (q := 61) rfl (v := (-1)) rfl
def rX9_init_61 := W_putI (M := mX9_init) dX9_init_61 (q := 64) rfl fl9_33 rfl (Or.inl rfl)
def rX9_init_64 := W_aload0 (M := mX9_init) dX9_init_64 (q := 65) rfl
def rX9_init_64b := W_aloadR0 (M := mX9_init) dX9_init_64 (q := 65) rfl
def rX9_init_65 := W_bipush (M := mX9_init) dX9_init_65 (q := 67) rfl (v := (10)) rfl
def rX9_init_67 := W_newa (M := mX9_init) dX9_init_67 (q := 69) rfl
def rX9_init_69 := W_putA (M := mX9_init) dX9_init_69 (q := 72) rfl fl9_36 ⟨_, rfl⟩ (Or.inr ⟨rfl, rfl, rfl⟩)
def rX9_init_72 := W_aload0 (M := mX9_init) dX9_init_72 (q := 73) rfl
def rX9_init_72b := W_aloadR0 (M := mX9_init) dX9_init_72 (q := 73) rfl
def rX9_init_73 := W_iconst (M := mX9_init) dX9_init_73 (q := 74) rfl (v := (4)) rfl
def rX9_init_74 := W_newa (M := mX9_init) dX9_init_74 (q := 76) rfl
def rX9_init_76 := W_putA (M := mX9_init) dX9_init_76 (q := 79) rfl fl9_39 ⟨_, rfl⟩ (Or.inr ⟨rfl, rfl, rfl⟩)
def rX9_init_79 := W_aload0 (M := mX9_init) dX9_init_79 (q := 80) rfl
def rX9_init_79b := W_aloadR0 (M := mX9_init) dX9_init_79 (q := 80) rfl
def rX9_init_80 := W_sipush (M := mX9_init) dX9_init_80 (q := 83) rfl (v := (637)) rfl
def rX9_init_83 := W_newa (M := mX9_init) dX9_init_83 (q := 85) rfl
def rX9_init_85 := W_putA (M := mX9_init) dX9_init_85 (q := 88) rfl fl9_42 ⟨_, rfl⟩ (Or.inr ⟨rfl, rfl, rfl⟩)
def rX9_init_88 := W_aload0 (M := mX9_init) dX9_init_88 (q := 89) rfl
def rX9_init_88b := W_aloadR0 (M := mX9_init) dX9_init_88 (q := 89) rfl
def rX9_init_89 := W_bipush (M := mX9_init) dX9_init_89 (q := 91) rfl (v := (6)) rfl
def rX9_init_91 := W_newa (M := mX9_init) dX9_init_91 (q := 93) rfl
def rX9_init_93 := W_putA (M := mX9_init) dX9_init_93 (q := 96) rfl fl9_45 ⟨_, rfl⟩ (Or.inr ⟨rfl, rfl, rfl⟩)
def rX9_init_96 := W_aload0 (M := mX9_init) dX9_init_96 (q := 97) rfl
def rX9_init_96b := W_aloadR0 (M := mX9_init) dX9_init_96 (q := 97) rfl
def rX9_init_97 := W_bipush (M := mX9_init) dX9_init_97 (q := 99) rfl (v := (6)) rfl
def rX9_init_99 := W_newa (M := mX9_init) dX9_init_99 (q := 101) rfl
def rX9_init_101 := W_putA (M := mX9_init) dX9_init_101 (q := 104) rfl fl9_49 ⟨_, rfl⟩ (Or.inr ⟨rfl, rfl, rfl⟩)
def rX9_init_104 := W_vret (M := mX9_init) dX9_init_104 rfl
-- X9_isDigit
theorem eX9_isDigit {d : Nat} {h : qH} {Q : Option (Option Value) → qH → Prop} {x1 : Int32} : WM d mX9_isDigit [.int x1] h Q = WP d mX9_isDigit (0, 0) 0 [some (.int x1)] [] h Q := rfl
def rX9_isDigit_0 := W_iload0 (M := mX9_isDigit) dX9_isDigit_0 (q := 1) rfl
def rX9_isDigit_1 := W_bipush (M := mX9_isDigit) dX9_isDigit_1 (q := 3) rfl (v := (48)) rfl
def rX9_isDigit_3 := W_icmp_lt (M := mX9_isDigit) dX9_isDigit_3 (q := 6) rfl (t := 16) rfl
def rX9_isDigit_6 := W_iload0 (M := mX9_isDigit) dX9_isDigit_6 (q := 7) rfl
def rX9_isDigit_7 := W_bipush (M := mX9_isDigit) dX9_isDigit_7 (q := 9) rfl (v := (57)) rfl
def rX9_isDigit_9 := W_icmp_gt (M := mX9_isDigit) dX9_isDigit_9 (q := 12) rfl (t := 16) rfl
def rX9_isDigit_12 := W_iconst (M := mX9_isDigit) dX9_isDigit_12 (q := 13) rfl (v := (1)) rfl
def rX9_isDigit_13 := W_goto (M := mX9_isDigit) dX9_isDigit_13 (t := 17) rfl
def rX9_isDigit_16 := W_iconst (M := mX9_isDigit) dX9_isDigit_16 (q := 17) rfl (v := (0)) rfl
def rX9_isDigit_17 := W_zret (M := mX9_isDigit) dX9_isDigit_17 rfl
-- X9_isHouse
theorem eX9_isHouse {d : Nat} {h : qH} {Q : Option (Option Value) → qH → Prop} {s0 : Nat} {x1 : Int32} : WM d mX9_isHouse [.ref s0, .int x1] h Q = WP d mX9_isHouse (0, 0) 0 [some (.ref s0), some (.int x1)] [] h Q := rfl
def rX9_isHouse_0 := W_aload0 (M := mX9_isHouse) dX9_isHouse_0 (q := 1) rfl
def rX9_isHouse_0b := W_aloadR0 (M := mX9_isHouse) dX9_isHouse_0 (q := 1) rfl
def rX9_isHouse_1 := W_getR (M := mX9_isHouse) dX9_isHouse_1 (q := 4) rfl fl9_316 ⟨_, rfl⟩
def rX9_isHouse_4 := W_ifnull (M := mX9_isHouse) dX9_isHouse_4 (q := 7) rfl (t := 26) rfl
def rX9_isHouse_4b := W_ifnullN (M := mX9_isHouse) dX9_isHouse_4 (q := 7) rfl (t := 26) rfl
def rX9_isHouse_7 := W_iload1 (M := mX9_isHouse) dX9_isHouse_7 (q := 8) rfl
def rX9_isHouse_8 := W_if_lt (M := mX9_isHouse) dX9_isHouse_8 (q := 11) rfl (t := 26) rfl
def rX9_isHouse_11 := W_iload1 (M := mX9_isHouse) dX9_isHouse_11 (q := 12) rfl
def rX9_isHouse_12 := W_aload0 (M := mX9_isHouse) dX9_isHouse_12 (q := 13) rfl
def rX9_isHouse_12b := W_aloadR0 (M := mX9_isHouse) dX9_isHouse_12 (q := 13) rfl
def rX9_isHouse_13 := W_getR (M := mX9_isHouse) dX9_isHouse_13 (q := 16) rfl fl9_316 ⟨_, rfl⟩
def rX9_isHouse_16 := W_getI (M := mX9_isHouse) dX9_isHouse_16 (q := 19) rfl fl9_187 (Or.inl rfl)
def rX9_isHouse_19 := W_icmp_ge (M := mX9_isHouse) dX9_isHouse_19 (q := 22) rfl (t := 26) rfl
def rX9_isHouse_22 := W_iconst (M := mX9_isHouse) dX9_isHouse_22 (q := 23) rfl (v := (1)) rfl
def rX9_isHouse_23 := W_goto (M := mX9_isHouse) dX9_isHouse_23 (t := 27) rfl
def rX9_isHouse_26 := W_iconst (M := mX9_isHouse) dX9_isHouse_26 (q := 27) rfl (v := (0)) rfl
def rX9_isHouse_27 := W_zret (M := mX9_isHouse) dX9_isHouse_27 rfl
-- X9_isLetter
theorem eX9_isLetter {d : Nat} {h : qH} {Q : Option (Option Value) → qH → Prop} {x1 : Int32} : WM d mX9_isLetter [.int x1] h Q = WP d mX9_isLetter (0, 0) 0 [some (.int x1)] [] h Q := rfl
def rX9_isLetter_0 := W_iload0 (M := mX9_isLetter) dX9_isLetter_0 (q := 1) rfl
def rX9_isLetter_1 := W_bipush (M := mX9_isLetter) dX9_isLetter_1 (q := 3) rfl (v := (97)) rfl
def rX9_isLetter_3 := W_icmp_lt (M := mX9_isLetter) dX9_isLetter_3 (q := 6) rfl (t := 16) rfl
def rX9_isLetter_6 := W_iload0 (M := mX9_isLetter) dX9_isLetter_6 (q := 7) rfl
def rX9_isLetter_7 := W_bipush (M := mX9_isLetter) dX9_isLetter_7 (q := 9) rfl (v := (122)) rfl
def rX9_isLetter_9 := W_icmp_gt (M := mX9_isLetter) dX9_isLetter_9 (q := 12) rfl (t := 16) rfl
def rX9_isLetter_12 := W_iconst (M := mX9_isLetter) dX9_isLetter_12 (q := 13) rfl (v := (1)) rfl
def rX9_isLetter_13 := W_goto (M := mX9_isLetter) dX9_isLetter_13 (t := 17) rfl
def rX9_isLetter_16 := W_iconst (M := mX9_isLetter) dX9_isLetter_16 (q := 17) rfl (v := (0)) rfl
def rX9_isLetter_17 := W_zret (M := mX9_isLetter) dX9_isLetter_17 rfl
-- X9_isName
theorem eX9_isName {d : Nat} {h : qH} {Q : Option (Option Value) → qH → Prop} {s0 : Nat} : WM d mX9_isName [.ref s0] h Q = WP d mX9_isName (0, 0) 0 [some (.ref s0)] [] h Q := rfl
def rX9_isName_0 := W_aload0 (M := mX9_isName) dX9_isName_0 (q := 1) rfl
def rX9_isName_0b := W_aloadR0 (M := mX9_isName) dX9_isName_0 (q := 1) rfl
def rX9_isName_1 := W_getI (M := mX9_isName) dX9_isName_1 (q := 4) rfl fl9_84 (Or.inl rfl)
def rX9_isName_4 := W_iconst (M := mX9_isName) dX9_isName_4 (q := 5) rfl (v := (2)) rfl
def rX9_isName_5 := W_icmp_ne (M := mX9_isName) dX9_isName_5 (q := 8) rfl (t := 53) rfl
def rX9_isName_8 := W_aload0 (M := mX9_isName) dX9_isName_8 (q := 9) rfl
def rX9_isName_8b := W_aloadR0 (M := mX9_isName) dX9_isName_8 (q := 9) rfl
def rX9_isName_9 := W_ldc (M := mX9_isName) dX9_isName_9 (q := 11) rfl cs9_143
def rX9_isName_11 := W_invV1 (M := mX9_isName) dX9_isName_11 (q := 14) rfl ml0_9_123 rfl
def rX9_isName_14 := W_if_ne (M := mX9_isName) dX9_isName_14 (q := 17) rfl (t := 53) rfl
def rX9_isName_17 := W_aload0 (M := mX9_isName) dX9_isName_17 (q := 18) rfl
def rX9_isName_17b := W_aloadR0 (M := mX9_isName) dX9_isName_17 (q := 18) rfl
def rX9_isName_18 := W_ldc (M := mX9_isName) dX9_isName_18 (q := 20) rfl cs9_145
def rX9_isName_20 := W_invV1 (M := mX9_isName) dX9_isName_20 (q := 23) rfl ml0_9_123 rfl
def rX9_isName_23 := W_if_ne (M := mX9_isName) dX9_isName_23 (q := 26) rfl (t := 53) rfl
def rX9_isName_26 := W_aload0 (M := mX9_isName) dX9_isName_26 (q := 27) rfl
def rX9_isName_26b := W_aloadR0 (M := mX9_isName) dX9_isName_26 (q := 27) rfl
def rX9_isName_27 := W_ldc (M := mX9_isName) dX9_isName_27 (q := 29) rfl cs9_147
def rX9_isName_29 := W_invV1 (M := mX9_isName) dX9_isName_29 (q := 32) rfl ml0_9_123 rfl
def rX9_isName_32 := W_if_ne (M := mX9_isName) dX9_isName_32 (q := 35) rfl (t := 53) rfl
def rX9_isName_35 := W_aload0 (M := mX9_isName) dX9_isName_35 (q := 36) rfl
def rX9_isName_35b := W_aloadR0 (M := mX9_isName) dX9_isName_35 (q := 36) rfl
def rX9_isName_36 := W_ldc (M := mX9_isName) dX9_isName_36 (q := 38) rfl cs9_149
def rX9_isName_38 := W_invV1 (M := mX9_isName) dX9_isName_38 (q := 41) rfl ml0_9_123 rfl
def rX9_isName_41 := W_if_ne (M := mX9_isName) dX9_isName_41 (q := 44) rfl (t := 53) rfl
def rX9_isName_44 := W_aload0 (M := mX9_isName) dX9_isName_44 (q := 45) rfl
def rX9_isName_44b := W_aloadR0 (M := mX9_isName) dX9_isName_44 (q := 45) rfl
def rX9_isName_45 := W_ldc (M := mX9_isName) dX9_isName_45 (q := 47) rfl cs9_151
def rX9_isName_47 := W_invV1 (M := mX9_isName) dX9_isName_47 (q := 50) rfl ml0_9_123 rfl
def rX9_isName_50 := W_if_eq (M := mX9_isName) dX9_isName_50 (q := 53) rfl (t := 55) rfl
def rX9_isName_53 := W_iconst (M := mX9_isName) dX9_isName_53 (q := 54) rfl (v := (0)) rfl
def rX9_isName_54 := W_zret (M := mX9_isName) dX9_isName_54 rfl
def rX9_isName_55 := W_aload0 (M := mX9_isName) dX9_isName_55 (q := 56) rfl
def rX9_isName_55b := W_aloadR0 (M := mX9_isName) dX9_isName_55 (q := 56) rfl
def rX9_isName_56 := W_ldc (M := mX9_isName) dX9_isName_56 (q := 58) rfl cs9_153
def rX9_isName_58 := W_invV1 (M := mX9_isName) dX9_isName_58 (q := 61) rfl ml0_9_123 rfl
def rX9_isName_61 := W_if_ne (M := mX9_isName) dX9_isName_61 (q := 64) rfl (t := 95) rfl
def rX9_isName_64 := W_aload0 (M := mX9_isName) dX9_isName_64 (q := 65) rfl
def rX9_isName_64b := W_aloadR0 (M := mX9_isName) dX9_isName_64 (q := 65) rfl
def rX9_isName_65 := W_ldc (M := mX9_isName) dX9_isName_65 (q := 67) rfl cs9_155
def rX9_isName_67 := W_invV1 (M := mX9_isName) dX9_isName_67 (q := 70) rfl ml0_9_123 rfl
def rX9_isName_70 := W_if_ne (M := mX9_isName) dX9_isName_70 (q := 73) rfl (t := 95) rfl
def rX9_isName_73 := W_aload0 (M := mX9_isName) dX9_isName_73 (q := 74) rfl
def rX9_isName_73b := W_aloadR0 (M := mX9_isName) dX9_isName_73 (q := 74) rfl
def rX9_isName_74 := W_ldc (M := mX9_isName) dX9_isName_74 (q := 76) rfl cs9_157
def rX9_isName_76 := W_invV1 (M := mX9_isName) dX9_isName_76 (q := 79) rfl ml0_9_123 rfl
def rX9_isName_79 := W_if_ne (M := mX9_isName) dX9_isName_79 (q := 82) rfl (t := 95) rfl
def rX9_isName_82 := W_aload0 (M := mX9_isName) dX9_isName_82 (q := 83) rfl
def rX9_isName_82b := W_aloadR0 (M := mX9_isName) dX9_isName_82 (q := 83) rfl
def rX9_isName_83 := W_ldc (M := mX9_isName) dX9_isName_83 (q := 85) rfl cs9_159
def rX9_isName_85 := W_invV1 (M := mX9_isName) dX9_isName_85 (q := 88) rfl ml0_9_123 rfl
def rX9_isName_88 := W_if_ne (M := mX9_isName) dX9_isName_88 (q := 91) rfl (t := 95) rfl
def rX9_isName_91 := W_iconst (M := mX9_isName) dX9_isName_91 (q := 92) rfl (v := (1)) rfl
def rX9_isName_92 := W_goto (M := mX9_isName) dX9_isName_92 (t := 96) rfl
def rX9_isName_95 := W_iconst (M := mX9_isName) dX9_isName_95 (q := 96) rfl (v := (0)) rfl
def rX9_isName_96 := W_zret (M := mX9_isName) dX9_isName_96 rfl
-- X9_isRest
theorem eX9_isRest {d : Nat} {h : qH} {Q : Option (Option Value) → qH → Prop} {s0 : Nat} {x1 : Int32} : WM d mX9_isRest [.ref s0, .int x1] h Q = WP d mX9_isRest (0, 0) 0 [some (.ref s0), some (.int x1), none, none] [] h Q := rfl
def rX9_isRest_0 := W_iload1 (M := mX9_isRest) dX9_isRest_0 (q := 1) rfl
def rX9_isRest_1 := W_iconst (M := mX9_isRest) dX9_isRest_1 (q := 2) rfl (v := (1)) rfl
def rX9_isRest_2 := W_icmp_le (M := mX9_isRest) dX9_isRest_2 (q := 5) rfl (t := 9) rfl
def rX9_isRest_5 := W_iconst (M := mX9_isRest) dX9_isRest_5 (q := 6) rfl (v := (1)) rfl
def rX9_isRest_6 := W_goto (M := mX9_isRest) dX9_isRest_6 (t := 10) rfl
def rX9_isRest_9 := W_iconst (M := mX9_isRest) dX9_isRest_9 (q := 10) rfl (v := (0)) rfl
def rX9_isRest_10 := W_istore2 (M := mX9_isRest) dX9_isRest_10 (q := 11) rfl
def rX9_isRest_11 := W_iload1 (M := mX9_isRest) dX9_isRest_11 (q := 12) rfl
def rX9_isRest_12 := W_iconst (M := mX9_isRest) dX9_isRest_12 (q := 13) rfl (v := (2)) rfl
def rX9_isRest_13 := W_irem (M := mX9_isRest) dX9_isRest_13 (q := 14) rfl
def rX9_isRest_14 := W_iconst (M := mX9_isRest) dX9_isRest_14 (q := 15) rfl (v := (1)) rfl
def rX9_isRest_15 := W_icmp_ne (M := mX9_isRest) dX9_isRest_15 (q := 18) rfl (t := 22) rfl
def rX9_isRest_18 := W_iconst (M := mX9_isRest) dX9_isRest_18 (q := 19) rfl (v := (1)) rfl
def rX9_isRest_19 := W_goto (M := mX9_isRest) dX9_isRest_19 (t := 23) rfl
def rX9_isRest_22 := W_iconst (M := mX9_isRest) dX9_isRest_22 (q := 23) rfl (v := (0)) rfl
def rX9_isRest_23 := W_istore3 (M := mX9_isRest) dX9_isRest_23 (q := 24) rfl
def rX9_isRest_24 := W_aload0 (M := mX9_isRest) dX9_isRest_24 (q := 25) rfl
def rX9_isRest_24b := W_aloadR0 (M := mX9_isRest) dX9_isRest_24 (q := 25) rfl
def rX9_isRest_25 := W_iload2 (M := mX9_isRest) dX9_isRest_25 (q := 26) rfl
def rX9_isRest_26 := W_if_ne (M := mX9_isRest) dX9_isRest_26 (q := 29) rfl (t := 33) rfl
def rX9_isRest_29 := W_iconst (M := mX9_isRest) dX9_isRest_29 (q := 30) rfl (v := (1)) rfl
def rX9_isRest_30 := W_goto (M := mX9_isRest) dX9_isRest_30 (t := 34) rfl
def rX9_isRest_33 := W_iconst (M := mX9_isRest) dX9_isRest_33 (q := 34) rfl (v := (0)) rfl
def rX9_isRest_34 := W_iload3 (M := mX9_isRest) dX9_isRest_34 (q := 35) rfl
def rX9_isRest_35 := W_invV2 (M := mX9_isRest) dX9_isRest_35 (q := 38) rfl ml0_9_421 rfl
def rX9_isRest_38 := W_aload0 (M := mX9_isRest) dX9_isRest_38 (q := 39) rfl
def rX9_isRest_38b := W_aloadR0 (M := mX9_isRest) dX9_isRest_38 (q := 39) rfl
def rX9_isRest_39 := W_iload2 (M := mX9_isRest) dX9_isRest_39 (q := 40) rfl
def rX9_isRest_40 := W_iload3 (M := mX9_isRest) dX9_isRest_40 (q := 41) rfl
def rX9_isRest_41 := W_invV2 (M := mX9_isRest) dX9_isRest_41 (q := 44) rfl ml0_9_421 rfl
def rX9_isRest_44 := W_icmp_gt (M := mX9_isRest) dX9_isRest_44 (q := 47) rfl (t := 74) rfl
def rX9_isRest_47 := W_aload0 (M := mX9_isRest) dX9_isRest_47 (q := 48) rfl
def rX9_isRest_47b := W_aloadR0 (M := mX9_isRest) dX9_isRest_47 (q := 48) rfl
def rX9_isRest_48 := W_iload3 (M := mX9_isRest) dX9_isRest_48 (q := 49) rfl
def rX9_isRest_49 := W_if_ne (M := mX9_isRest) dX9_isRest_49 (q := 52) rfl (t := 56) rfl
def rX9_isRest_52 := W_iconst (M := mX9_isRest) dX9_isRest_52 (q := 53) rfl (v := (1)) rfl
def rX9_isRest_53 := W_goto (M := mX9_isRest) dX9_isRest_53 (t := 57) rfl
def rX9_isRest_56 := W_iconst (M := mX9_isRest) dX9_isRest_56 (q := 57) rfl (v := (0)) rfl
def rX9_isRest_57 := W_iload2 (M := mX9_isRest) dX9_isRest_57 (q := 58) rfl
def rX9_isRest_58 := W_invV2 (M := mX9_isRest) dX9_isRest_58 (q := 61) rfl ml0_9_421 rfl
def rX9_isRest_61 := W_aload0 (M := mX9_isRest) dX9_isRest_61 (q := 62) rfl
def rX9_isRest_61b := W_aloadR0 (M := mX9_isRest) dX9_isRest_61 (q := 62) rfl
def rX9_isRest_62 := W_iload3 (M := mX9_isRest) dX9_isRest_62 (q := 63) rfl
def rX9_isRest_63 := W_iload2 (M := mX9_isRest) dX9_isRest_63 (q := 64) rfl
def rX9_isRest_64 := W_invV2 (M := mX9_isRest) dX9_isRest_64 (q := 67) rfl ml0_9_421 rfl
def rX9_isRest_67 := W_icmp_gt (M := mX9_isRest) dX9_isRest_67 (q := 70) rfl (t := 74) rfl
def rX9_isRest_70 := W_iconst (M := mX9_isRest) dX9_isRest_70 (q := 71) rfl (v := (1)) rfl
def rX9_isRest_71 := W_goto (M := mX9_isRest) dX9_isRest_71 (t := 75) rfl
def rX9_isRest_74 := W_iconst (M := mX9_isRest) dX9_isRest_74 (q := 75) rfl (v := (0)) rfl
def rX9_isRest_75 := W_zret (M := mX9_isRest) dX9_isRest_75 rfl
-- X9_isWay
theorem eX9_isWay {d : Nat} {h : qH} {Q : Option (Option Value) → qH → Prop} {s0 : Nat} {x1 : Int32} : WM d mX9_isWay [.ref s0, .int x1] h Q = WP d mX9_isWay (0, 0) 0 [some (.ref s0), some (.int x1), none, none, none, none, none, none] [] h Q := rfl
def rX9_isWay_0 := W_aload0 (M := mX9_isWay) dX9_isWay_0 (q := 1) rfl
def rX9_isWay_0b := W_aloadR0 (M := mX9_isWay) dX9_isWay_0 (q := 1) rfl
def rX9_isWay_1 := W_invV0 (M := mX9_isWay) dX9_isWay_1 (q := 4) rfl ml0_9_379 rfl
def rX9_isWay_4 := W_istore2 (M := mX9_isWay) dX9_isWay_4 (q := 5) rfl
def rX9_isWay_5 := W_aload0 (M := mX9_isWay) dX9_isWay_5 (q := 6) rfl
def rX9_isWay_5b := W_aloadR0 (M := mX9_isWay) dX9_isWay_5 (q := 6) rfl
def rX9_isWay_6 := W_invV0 (M := mX9_isWay) dX9_isWay_6 (q := 9) rfl ml0_9_382 rfl
def rX9_isWay_9 := W_istore3 (M := mX9_isWay) dX9_isWay_9 (q := 10) rfl
def rX9_isWay_10 := W_aload0 (M := mX9_isWay) dX9_isWay_10 (q := 11) rfl
def rX9_isWay_10b := W_aloadR0 (M := mX9_isWay) dX9_isWay_10 (q := 11) rfl
def rX9_isWay_11 := W_invV0 (M := mX9_isWay) dX9_isWay_11 (q := 14) rfl ml0_9_348 rfl
def rX9_isWay_14 := W_iconst (M := mX9_isWay) dX9_isWay_14 (q := 15) rfl (v := (0)) rfl
def rX9_isWay_15 := W_istore4 (M := mX9_isWay) dX9_isWay_15 (q := 17) rfl
def rX9_isWay_17 := W_iload4 (M := mX9_isWay) dX9_isWay_17 (q := 19) rfl
def rX9_isWay_19 := W_iload2 (M := mX9_isWay) dX9_isWay_19 (q := 20) rfl
def rX9_isWay_20 := W_icmp_ge (M := mX9_isWay) dX9_isWay_20 (q := 23) rfl (t := 139) rfl
def rX9_isWay_23 := W_iload3 (M := mX9_isWay) dX9_isWay_23 (q := 24) rfl
def rX9_isWay_24 := W_aload0 (M := mX9_isWay) dX9_isWay_24 (q := 25) rfl
def rX9_isWay_24b := W_aloadR0 (M := mX9_isWay) dX9_isWay_24 (q := 25) rfl
def rX9_isWay_25 := W_getR (M := mX9_isWay) dX9_isWay_25 (q := 28) rfl fl9_316 ⟨_, rfl⟩
def rX9_isWay_28 := W_getI (M := mX9_isWay) dX9_isWay_28 (q := 31) rfl fl9_187 (Or.inl rfl)
def rX9_isWay_31 := W_idiv (M := mX9_isWay) dX9_isWay_31 (q := 32) rfl
def rX9_isWay_32 := W_istore3 (M := mX9_isWay) dX9_isWay_32 (q := 33) rfl
def rX9_isWay_33 := W_iload1 (M := mX9_isWay) dX9_isWay_33 (q := 34) rfl
def rX9_isWay_34 := W_iload3 (M := mX9_isWay) dX9_isWay_34 (q := 35) rfl
def rX9_isWay_35 := W_idiv (M := mX9_isWay) dX9_isWay_35 (q := 36) rfl
def rX9_isWay_36 := W_aload0 (M := mX9_isWay) dX9_isWay_36 (q := 37) rfl
def rX9_isWay_36b := W_aloadR0 (M := mX9_isWay) dX9_isWay_36 (q := 37) rfl
def rX9_isWay_37 := W_getR (M := mX9_isWay) dX9_isWay_37 (q := 40) rfl fl9_316 ⟨_, rfl⟩
def rX9_isWay_40 := W_getI (M := mX9_isWay) dX9_isWay_40 (q := 43) rfl fl9_187 (Or.inl rfl)
def rX9_isWay_43 := W_irem (M := mX9_isWay) dX9_isWay_43 (q := 44) rfl
def rX9_isWay_44 := W_istore5 (M := mX9_isWay) dX9_isWay_44 (q := 46) rfl
def rX9_isWay_46 := W_aload0 (M := mX9_isWay) dX9_isWay_46 (q := 47) rfl
def rX9_isWay_46b := W_aloadR0 (M := mX9_isWay) dX9_isWay_46 (q := 47) rfl
def rX9_isWay_47 := W_getR (M := mX9_isWay) dX9_isWay_47 (q := 50) rfl fl9_316 ⟨_, rfl⟩
def rX9_isWay_50 := W_getA (M := mX9_isWay) dX9_isWay_50 (q := 53) rfl fl9_290 ⟨_, rfl⟩
def rX9_isWay_53 := W_aload0 (M := mX9_isWay) dX9_isWay_53 (q := 54) rfl
def rX9_isWay_53b := W_aloadR0 (M := mX9_isWay) dX9_isWay_53 (q := 54) rfl
def rX9_isWay_54 := W_getR (M := mX9_isWay) dX9_isWay_54 (q := 57) rfl fl9_316 ⟨_, rfl⟩
def rX9_isWay_57 := W_getI (M := mX9_isWay) dX9_isWay_57 (q := 60) rfl fl9_287 (Or.inl rfl)
def rX9_isWay_60 := W_iload2 (M := mX9_isWay) dX9_isWay_60 (q := 61) rfl
def rX9_isWay_61 := W_isub (M := mX9_isWay) dX9_isWay_61 (q := 62) rfl
def rX9_isWay_62 := W_iload4 (M := mX9_isWay) dX9_isWay_62 (q := 64) rfl
def rX9_isWay_64 := W_iadd (M := mX9_isWay) dX9_isWay_64 (q := 65) rfl
def rX9_isWay_65 := W_iald (M := mX9_isWay) dX9_isWay_65 (q := 66) rfl
def rX9_isWay_66 := W_istore6 (M := mX9_isWay) dX9_isWay_66 (q := 68) rfl
def rX9_isWay_68 := W_aload0 (M := mX9_isWay) dX9_isWay_68 (q := 69) rfl
def rX9_isWay_68b := W_aloadR0 (M := mX9_isWay) dX9_isWay_68 (q := 69) rfl
def rX9_isWay_69 := W_iload6 (M := mX9_isWay) dX9_isWay_69 (q := 71) rfl
def rX9_isWay_71 := W_invV1 (M := mX9_isWay) dX9_isWay_71 (q := 74) rfl ml0_9_370 rfl
def rX9_isWay_74 := W_istore7 (M := mX9_isWay) dX9_isWay_74 (q := 76) rfl
def rX9_isWay_76 := W_iload7 (M := mX9_isWay) dX9_isWay_76 (q := 78) rfl
def rX9_isWay_78 := W_if_ne (M := mX9_isWay) dX9_isWay_78 (q := 81) rfl (t := 89) rfl
def rX9_isWay_81 := W_iload5 (M := mX9_isWay) dX9_isWay_81 (q := 83) rfl
def rX9_isWay_83 := W_if_eq (M := mX9_isWay) dX9_isWay_83 (q := 86) rfl (t := 101) rfl
def rX9_isWay_86 := W_goto (M := mX9_isWay) dX9_isWay_86 (t := 99) rfl
def rX9_isWay_89 := W_iload7 (M := mX9_isWay) dX9_isWay_89 (q := 91) rfl
def rX9_isWay_91 := W_iload5 (M := mX9_isWay) dX9_isWay_91 (q := 93) rfl
def rX9_isWay_93 := W_invS2 (M := mX9_isWay) dX9_isWay_93 (q := 96) rfl ml1_9_281 rfl rfl rfl
def rX9_isWay_96 := W_if_ne (M := mX9_isWay) dX9_isWay_96 (q := 99) rfl (t := 101) rfl
def rX9_isWay_99 := W_iconst (M := mX9_isWay) dX9_isWay_99 (q := 100) rfl (v := (0)) rfl
def rX9_isWay_100 := W_zret (M := mX9_isWay) dX9_isWay_100 rfl
def rX9_isWay_101 := W_aload0 (M := mX9_isWay) dX9_isWay_101 (q := 102) rfl
def rX9_isWay_101b := W_aloadR0 (M := mX9_isWay) dX9_isWay_101 (q := 102) rfl
def rX9_isWay_102 := W_getA (M := mX9_isWay) dX9_isWay_102 (q := 105) rfl fl9_39 ⟨_, rfl⟩
def rX9_isWay_105 := W_iload4 (M := mX9_isWay) dX9_isWay_105 (q := 107) rfl
def rX9_isWay_107 := W_iload7 (M := mX9_isWay) dX9_isWay_107 (q := 109) rfl
def rX9_isWay_109 := W_if_ne (M := mX9_isWay) dX9_isWay_109 (q := 112) rfl (t := 117) rfl
def rX9_isWay_112 := W_bipush (M := mX9_isWay) dX9_isWay_112 (q := 114) rfl (v := (-2)) rfl
def rX9_isWay_114 := W_goto (M := mX9_isWay) dX9_isWay_114 (t := 119) rfl
def rX9_isWay_117 := W_iload5 (M := mX9_isWay) dX9_isWay_117 (q := 119) rfl
def rX9_isWay_119 := W_iast (M := mX9_isWay) dX9_isWay_119 (q := 120) rfl
def rX9_isWay_120 := W_iload7 (M := mX9_isWay) dX9_isWay_120 (q := 122) rfl
def rX9_isWay_122 := W_if_eq (M := mX9_isWay) dX9_isWay_122 (q := 125) rfl (t := 133) rfl
def rX9_isWay_125 := W_aload0 (M := mX9_isWay) dX9_isWay_125 (q := 126) rfl
def rX9_isWay_125b := W_aloadR0 (M := mX9_isWay) dX9_isWay_125 (q := 126) rfl
def rX9_isWay_126 := W_iload5 (M := mX9_isWay) dX9_isWay_126 (q := 128) rfl
def rX9_isWay_128 := W_iload6 (M := mX9_isWay) dX9_isWay_128 (q := 130) rfl
def rX9_isWay_130 := W_invV2 (M := mX9_isWay) dX9_isWay_130 (q := 133) rfl ml0_9_364 rfl
def rX9_isWay_133 := W_iinc4 (M := mX9_isWay) dX9_isWay_133 (q := 136) rfl (v := (1)) rfl
def rX9_isWay_136 := W_goto (M := mX9_isWay) dX9_isWay_136 (t := 17) rfl
def rX9_isWay_139 := W_iconst (M := mX9_isWay) dX9_isWay_139 (q := 140) rfl (v := (1)) rfl
def rX9_isWay_140 := W_zret (M := mX9_isWay) dX9_isWay_140 rfl
-- X9_isWord
theorem eX9_isWord {d : Nat} {h : qH} {Q : Option (Option Value) → qH → Prop} {s0 : Nat} {x1 : Nat} : WM d mX9_isWord [.ref s0, .retAddr x1] h Q = WP d mX9_isWord (0, 0) 0 [some (.ref s0), some (.retAddr x1)] [] h Q := rfl
def rX9_isWord_0 := W_aload0 (M := mX9_isWord) dX9_isWord_0 (q := 1) rfl
def rX9_isWord_0b := W_aloadR0 (M := mX9_isWord) dX9_isWord_0 (q := 1) rfl
def rX9_isWord_1 := W_getI (M := mX9_isWord) dX9_isWord_1 (q := 4) rfl fl9_84 (Or.inl rfl)
def rX9_isWord_4 := W_iconst (M := mX9_isWord) dX9_isWord_4 (q := 5) rfl (v := (2)) rfl
def rX9_isWord_5 := W_icmp_ne (M := mX9_isWord) dX9_isWord_5 (q := 8) rfl (t := 24) rfl
def rX9_isWord_8 := W_aload0 (M := mX9_isWord) dX9_isWord_8 (q := 9) rfl
def rX9_isWord_8b := W_aloadR0 (M := mX9_isWord) dX9_isWord_8 (q := 9) rfl
def rX9_isWord_9 := W_getJ (M := mX9_isWord) dX9_isWord_9 (q := 12) rfl fl9_100 rfl
def rX9_isWord_12 := W_aload1 (M := mX9_isWord) dX9_isWord_12 (q := 13) rfl
def rX9_isWord_12b := W_aloadR1 (M := mX9_isWord) dX9_isWord_12 (q := 13) rfl
def rX9_isWord_13 := W_invS1 (M := mX9_isWord) dX9_isWord_13 (q := 16) rfl ml1_9_116 rfl rfl rfl
def rX9_isWord_16 := W_lcmp (M := mX9_isWord) dX9_isWord_16 (q := 17) rfl
def rX9_isWord_17 := W_if_ne (M := mX9_isWord) dX9_isWord_17 (q := 20) rfl (t := 24) rfl
def rX9_isWord_20 := W_iconst (M := mX9_isWord) dX9_isWord_20 (q := 21) rfl (v := (1)) rfl
def rX9_isWord_21 := W_goto (M := mX9_isWord) dX9_isWord_21 (t := 25) rfl
def rX9_isWord_24 := W_iconst (M := mX9_isWord) dX9_isWord_24 (q := 25) rfl (v := (0)) rfl
def rX9_isWord_25 := W_zret (M := mX9_isWord) dX9_isWord_25 rfl
-- X9_isWorked
theorem eX9_isWorked {d : Nat} {h : qH} {Q : Option (Option Value) → qH → Prop} {s0 : Nat} {x1 : Int32} : WM d mX9_isWorked [.ref s0, .int x1] h Q = WP d mX9_isWorked (0, 0) 0 [some (.ref s0), some (.int x1), none, none] [] h Q := rfl
def rX9_isWorked_0 := W_iconst (M := mX9_isWorked) dX9_isWorked_0 (q := 1) rfl (v := (0)) rfl
def rX9_isWorked_1 := W_istore2 (M := mX9_isWorked) dX9_isWorked_1 (q := 2) rfl
def rX9_isWorked_2 := W_iconst (M := mX9_isWorked) dX9_isWorked_2 (q := 3) rfl (v := (0)) rfl
def rX9_isWorked_3 := W_istore3 (M := mX9_isWorked) dX9_isWorked_3 (q := 4) rfl
def rX9_isWorked_4 := W_iload3 (M := mX9_isWorked) dX9_isWorked_4 (q := 5) rfl
def rX9_isWorked_5 := W_aload0 (M := mX9_isWorked) dX9_isWorked_5 (q := 6) rfl
def rX9_isWorked_5b := W_aloadR0 (M := mX9_isWorked) dX9_isWorked_5 (q := 6) rfl
def rX9_isWorked_6 := W_invV0 (M := mX9_isWorked) dX9_isWorked_6 (q := 9) rfl ml0_9_382 rfl
def rX9_isWorked_9 := W_icmp_ge (M := mX9_isWorked) dX9_isWorked_9 (q := 12) rfl (t := 43) rfl
def rX9_isWorked_12 := W_iload1 (M := mX9_isWorked) dX9_isWorked_12 (q := 13) rfl
def rX9_isWorked_13 := W_if_lt (M := mX9_isWorked) dX9_isWorked_13 (q := 16) rfl (t := 43) rfl
def rX9_isWorked_16 := W_aload0 (M := mX9_isWorked) dX9_isWorked_16 (q := 17) rfl
def rX9_isWorked_16b := W_aloadR0 (M := mX9_isWorked) dX9_isWorked_16 (q := 17) rfl
def rX9_isWorked_17 := W_iload3 (M := mX9_isWorked) dX9_isWorked_17 (q := 18) rfl
def rX9_isWorked_18 := W_invV1 (M := mX9_isWorked) dX9_isWorked_18 (q := 21) rfl ml0_9_385 rfl
def rX9_isWorked_21 := W_if_ne (M := mX9_isWorked) dX9_isWorked_21 (q := 24) rfl (t := 27) rfl
def rX9_isWorked_24 := W_goto (M := mX9_isWorked) dX9_isWorked_24 (t := 37) rfl
def rX9_isWorked_27 := W_iload2 (M := mX9_isWorked) dX9_isWorked_27 (q := 28) rfl
def rX9_isWorked_28 := W_iload1 (M := mX9_isWorked) dX9_isWorked_28 (q := 29) rfl
def rX9_isWorked_29 := W_icmp_ne (M := mX9_isWorked) dX9_isWorked_29 (q := 32) rfl (t := 34) rfl
def rX9_isWorked_32 := W_iconst (M := mX9_isWorked) dX9_isWorked_32 (q := 33) rfl (v := (1)) rfl
def rX9_isWorked_33 := W_zret (M := mX9_isWorked) dX9_isWorked_33 rfl
def rX9_isWorked_34 := W_iinc2 (M := mX9_isWorked) dX9_isWorked_34 (q := 37) rfl (v := (1)) rfl
def rX9_isWorked_37 := W_iinc3 (M := mX9_isWorked) dX9_isWorked_37 (q := 40) rfl (v := (1)) rfl
def rX9_isWorked_40 := W_goto (M := mX9_isWorked) dX9_isWorked_40 (t := 4) rfl
def rX9_isWorked_43 := W_iconst (M := mX9_isWorked) dX9_isWorked_43 (q := 44) rfl (v := (0)) rfl
def rX9_isWorked_44 := W_zret (M := mX9_isWorked) dX9_isWorked_44 rfl
-- X9_judge
theorem eX9_judge {d : Nat} {h : qH} {Q : Option (Option Value) → qH → Prop} {s0 : Nat} : WM d mX9_judge [.ref s0] h Q = WP d mX9_judge (0, 0) 0 [some (.ref s0)] [] h Q := rfl
def rX9_judge_0 := W_aload0 (M := mX9_judge) dX9_judge_0 (q := 1) rfl
def rX9_judge_0b := W_aloadR0 (M := mX9_judge) dX9_judge_0 (q := 1) rfl
def rX9_judge_1 := W_iconst (M := mX9_judge) dX9_judge_1 (q := 2) rfl (v := (0)) rfl
def rX9_judge_2 := W_putI (M := mX9_judge) dX9_judge_2 (q := 5) rfl fl9_52 rfl (Or.inl rfl)
def rX9_judge_5 := W_aload0 (M := mX9_judge) dX9_judge_5 (q := 6) rfl
def rX9_judge_5b := W_aloadR0 (M := mX9_judge) dX9_judge_5 (q := 6) rfl
def rX9_judge_6 := W_getR (M := mX9_judge) dX9_judge_6 (q := 9) rfl fl9_316 ⟨_, rfl⟩
def rX9_judge_9 := W_ifnonnull (M := mX9_judge) dX9_judge_9 (q := 12) rfl (t := 18) rfl
def rX9_judge_9b := W_ifnonnullN (M := mX9_judge) dX9_judge_9 (q := 12) rfl (t := 18) rfl
def rX9_judge_12 := W_aload0 (M := mX9_judge) dX9_judge_12 (q := 13) rfl
def rX9_judge_12b := W_aloadR0 (M := mX9_judge) dX9_judge_12 (q := 13) rfl
def rX9_judge_13 := W_iconst (M := mX9_judge) dX9_judge_13 (q := 14) rfl (v := (1)) rfl
def rX9_judge_14 := W_invV1 (M := mX9_judge) dX9_judge_14 (q := 17) rfl ml0_9_58 rfl
def rX9_judge_17 := W_iret (M := mX9_judge) dX9_judge_17 rfl
def rX9_judge_18 := W_aload0 (M := mX9_judge) dX9_judge_18 (q := 19) rfl
def rX9_judge_18b := W_aloadR0 (M := mX9_judge) dX9_judge_18 (q := 19) rfl
def rX9_judge_19 := W_invV0 (M := mX9_judge) dX9_judge_19 (q := 22) rfl ml0_9_318 rfl
def rX9_judge_22 := W_aload0 (M := mX9_judge) dX9_judge_22 (q := 23) rfl
def rX9_judge_22b := W_aloadR0 (M := mX9_judge) dX9_judge_22 (q := 23) rfl
def rX9_judge_23 := W_aload0 (M := mX9_judge) dX9_judge_23 (q := 24) rfl
def rX9_judge_23b := W_aloadR0 (M := mX9_judge) dX9_judge_23 (q := 24) rfl
def rX9_judge_24 := W_invV0 (M := mX9_judge) dX9_judge_24 (q := 27) rfl ml0_9_406 rfl
def rX9_judge_27 := W_invV1 (M := mX9_judge) dX9_judge_27 (q := 30) rfl ml0_9_62 rfl
def rX9_judge_30 := W_iret (M := mX9_judge) dX9_judge_30 rfl
-- X9_lastDay
theorem eX9_lastDay {d : Nat} {h : qH} {Q : Option (Option Value) → qH → Prop} {s0 : Nat} : WM d mX9_lastDay [.ref s0] h Q = WP d mX9_lastDay (0, 0) 0 [some (.ref s0), none, none] [] h Q := rfl
def rX9_lastDay_0 := W_aload0 (M := mX9_lastDay) dX9_lastDay_0 (q := 1) rfl
def rX9_lastDay_0b := W_aloadR0 (M := mX9_lastDay) dX9_lastDay_0 (q := 1) rfl
def rX9_lastDay_1 := W_iconst (M := mX9_lastDay) dX9_lastDay_1 (q := 2) rfl (v := (0)) rfl
def rX9_lastDay_2 := W_putI (M := mX9_lastDay) dX9_lastDay_2 (q := 5) rfl fl9_52 rfl (Or.inl rfl)
def rX9_lastDay_5 := W_aload0 (M := mX9_lastDay) dX9_lastDay_5 (q := 6) rfl
def rX9_lastDay_5b := W_aloadR0 (M := mX9_lastDay) dX9_lastDay_5 (q := 6) rfl
def rX9_lastDay_6 := W_getR (M := mX9_lastDay) dX9_lastDay_6 (q := 9) rfl fl9_316 ⟨_, rfl⟩
def rX9_lastDay_9 := W_ifnonnull (M := mX9_lastDay) dX9_lastDay_9 (q := 12) rfl (t := 18) rfl
def rX9_lastDay_9b := W_ifnonnullN (M := mX9_lastDay) dX9_lastDay_9 (q := 12) rfl (t := 18) rfl
def rX9_lastDay_12 := W_aload0 (M := mX9_lastDay) dX9_lastDay_12 (q := 13) rfl
def rX9_lastDay_12b := W_aloadR0 (M := mX9_lastDay) dX9_lastDay_12 (q := 13) rfl
def rX9_lastDay_13 := W_iconst (M := mX9_lastDay) dX9_lastDay_13 (q := 14) rfl (v := (1)) rfl
def rX9_lastDay_14 := W_invV1 (M := mX9_lastDay) dX9_lastDay_14 (q := 17) rfl ml0_9_58 rfl
def rX9_lastDay_17 := W_iret (M := mX9_lastDay) dX9_lastDay_17 rfl
def rX9_lastDay_18 := W_aload0 (M := mX9_lastDay) dX9_lastDay_18 (q := 19) rfl
def rX9_lastDay_18b := W_aloadR0 (M := mX9_lastDay) dX9_lastDay_18 (q := 19) rfl
def rX9_lastDay_19 := W_invV0 (M := mX9_lastDay) dX9_lastDay_19 (q := 22) rfl ml0_9_348 rfl
def rX9_lastDay_22 := W_bipush (M := mX9_lastDay) dX9_lastDay_22 (q := 24) rfl (v := (-2)) rfl
def rX9_lastDay_24 := W_istore1 (M := mX9_lastDay) dX9_lastDay_24 (q := 25) rfl
def rX9_lastDay_25 := W_iconst (M := mX9_lastDay) dX9_lastDay_25 (q := 26) rfl (v := (0)) rfl
def rX9_lastDay_26 := W_istore2 (M := mX9_lastDay) dX9_lastDay_26 (q := 27) rfl
def rX9_lastDay_27 := W_iload2 (M := mX9_lastDay) dX9_lastDay_27 (q := 28) rfl
def rX9_lastDay_28 := W_aload0 (M := mX9_lastDay) dX9_lastDay_28 (q := 29) rfl
def rX9_lastDay_28b := W_aloadR0 (M := mX9_lastDay) dX9_lastDay_28 (q := 29) rfl
def rX9_lastDay_29 := W_getR (M := mX9_lastDay) dX9_lastDay_29 (q := 32) rfl fl9_316 ⟨_, rfl⟩
def rX9_lastDay_32 := W_getI (M := mX9_lastDay) dX9_lastDay_32 (q := 35) rfl fl9_187 (Or.inl rfl)
def rX9_lastDay_35 := W_icmp_ge (M := mX9_lastDay) dX9_lastDay_35 (q := 38) rfl (t := 73) rfl
def rX9_lastDay_38 := W_aload0 (M := mX9_lastDay) dX9_lastDay_38 (q := 39) rfl
def rX9_lastDay_38b := W_aloadR0 (M := mX9_lastDay) dX9_lastDay_38 (q := 39) rfl
def rX9_lastDay_39 := W_getA (M := mX9_lastDay) dX9_lastDay_39 (q := 42) rfl fl9_30 ⟨_, rfl⟩
def rX9_lastDay_42 := W_iload2 (M := mX9_lastDay) dX9_lastDay_42 (q := 43) rfl
def rX9_lastDay_43 := W_iald (M := mX9_lastDay) dX9_lastDay_43 (q := 44) rfl
def rX9_lastDay_44 := W_sipush (M := mX9_lastDay) dX9_lastDay_44 (q := 47) rfl (v := (9999)) rfl
def rX9_lastDay_47 := W_icmp_ge (M := mX9_lastDay) dX9_lastDay_47 (q := 50) rfl (t := 67) rfl
def rX9_lastDay_50 := W_aload0 (M := mX9_lastDay) dX9_lastDay_50 (q := 51) rfl
def rX9_lastDay_50b := W_aloadR0 (M := mX9_lastDay) dX9_lastDay_50 (q := 51) rfl
def rX9_lastDay_51 := W_getA (M := mX9_lastDay) dX9_lastDay_51 (q := 54) rfl fl9_30 ⟨_, rfl⟩
def rX9_lastDay_54 := W_iload2 (M := mX9_lastDay) dX9_lastDay_54 (q := 55) rfl
def rX9_lastDay_55 := W_iald (M := mX9_lastDay) dX9_lastDay_55 (q := 56) rfl
def rX9_lastDay_56 := W_iload1 (M := mX9_lastDay) dX9_lastDay_56 (q := 57) rfl
def rX9_lastDay_57 := W_icmp_le (M := mX9_lastDay) dX9_lastDay_57 (q := 60) rfl (t := 67) rfl
def rX9_lastDay_60 := W_aload0 (M := mX9_lastDay) dX9_lastDay_60 (q := 61) rfl
def rX9_lastDay_60b := W_aloadR0 (M := mX9_lastDay) dX9_lastDay_60 (q := 61) rfl
def rX9_lastDay_61 := W_getA (M := mX9_lastDay) dX9_lastDay_61 (q := 64) rfl fl9_30 ⟨_, rfl⟩
def rX9_lastDay_64 := W_iload2 (M := mX9_lastDay) dX9_lastDay_64 (q := 65) rfl
def rX9_lastDay_65 := W_iald (M := mX9_lastDay) dX9_lastDay_65 (q := 66) rfl
def rX9_lastDay_66 := W_istore1 (M := mX9_lastDay) dX9_lastDay_66 (q := 67) rfl
def rX9_lastDay_67 := W_iinc2 (M := mX9_lastDay) dX9_lastDay_67 (q := 70) rfl (v := (1)) rfl
def rX9_lastDay_70 := W_goto (M := mX9_lastDay) dX9_lastDay_70 (t := 27) rfl
def rX9_lastDay_73 := W_aload0 (M := mX9_lastDay) dX9_lastDay_73 (q := 74) rfl
def rX9_lastDay_73b := W_aloadR0 (M := mX9_lastDay) dX9_lastDay_73 (q := 74) rfl
def rX9_lastDay_74 := W_iload1 (M := mX9_lastDay) dX9_lastDay_74 (q := 75) rfl
def rX9_lastDay_75 := W_invV1 (M := mX9_lastDay) dX9_lastDay_75 (q := 78) rfl ml0_9_62 rfl
def rX9_lastDay_78 := W_iret (M := mX9_lastDay) dX9_lastDay_78 rfl
-- X9_led
theorem eX9_led {d : Nat} {h : qH} {Q : Option (Option Value) → qH → Prop} {s0 : Nat} {x1 : Int32} : WM d mX9_led [.ref s0, .int x1] h Q = WP d mX9_led (0, 0) 0 [some (.ref s0), some (.int x1), none, none] [] h Q := rfl
def rX9_led_0 := W_aload0 (M := mX9_led) dX9_led_0 (q := 1) rfl
def rX9_led_0b := W_aloadR0 (M := mX9_led) dX9_led_0 (q := 1) rfl
def rX9_led_1 := W_iconst (M := mX9_led) dX9_led_1 (q := 2) rfl (v := (0)) rfl
def rX9_led_2 := W_putI (M := mX9_led) dX9_led_2 (q := 5) rfl fl9_52 rfl (Or.inl rfl)
def rX9_led_5 := W_iconst (M := mX9_led) dX9_led_5 (q := 6) rfl (v := (0)) rfl
def rX9_led_6 := W_istore2 (M := mX9_led) dX9_led_6 (q := 7) rfl
def rX9_led_7 := W_aload0 (M := mX9_led) dX9_led_7 (q := 8) rfl
def rX9_led_7b := W_aloadR0 (M := mX9_led) dX9_led_7 (q := 8) rfl
def rX9_led_8 := W_getR (M := mX9_led) dX9_led_8 (q := 11) rfl fl9_316 ⟨_, rfl⟩
def rX9_led_11 := W_ifnull (M := mX9_led) dX9_led_11 (q := 14) rfl (t := 18) rfl
def rX9_led_11b := W_ifnullN (M := mX9_led) dX9_led_11 (q := 14) rfl (t := 18) rfl
def rX9_led_14 := W_aload0 (M := mX9_led) dX9_led_14 (q := 15) rfl
def rX9_led_14b := W_aloadR0 (M := mX9_led) dX9_led_14 (q := 15) rfl
def rX9_led_15 := W_invV0 (M := mX9_led) dX9_led_15 (q := 18) rfl ml0_9_348 rfl
def rX9_led_18 := W_iconst (M := mX9_led) dX9_led_18 (q := 19) rfl (v := (0)) rfl
def rX9_led_19 := W_istore3 (M := mX9_led) dX9_led_19 (q := 20) rfl
def rX9_led_20 := W_aload0 (M := mX9_led) dX9_led_20 (q := 21) rfl
def rX9_led_20b := W_aloadR0 (M := mX9_led) dX9_led_20 (q := 21) rfl
def rX9_led_21 := W_getR (M := mX9_led) dX9_led_21 (q := 24) rfl fl9_316 ⟨_, rfl⟩
def rX9_led_24 := W_ifnull (M := mX9_led) dX9_led_24 (q := 27) rfl (t := 69) rfl
def rX9_led_24b := W_ifnullN (M := mX9_led) dX9_led_24 (q := 27) rfl (t := 69) rfl
def rX9_led_27 := W_iload3 (M := mX9_led) dX9_led_27 (q := 28) rfl
def rX9_led_28 := W_aload0 (M := mX9_led) dX9_led_28 (q := 29) rfl
def rX9_led_28b := W_aloadR0 (M := mX9_led) dX9_led_28 (q := 29) rfl
def rX9_led_29 := W_getR (M := mX9_led) dX9_led_29 (q := 32) rfl fl9_316 ⟨_, rfl⟩
def rX9_led_32 := W_getI (M := mX9_led) dX9_led_32 (q := 35) rfl fl9_187 (Or.inl rfl)
def rX9_led_35 := W_icmp_ge (M := mX9_led) dX9_led_35 (q := 38) rfl (t := 69) rfl
def rX9_led_38 := W_aload0 (M := mX9_led) dX9_led_38 (q := 39) rfl
def rX9_led_38b := W_aloadR0 (M := mX9_led) dX9_led_38 (q := 39) rfl
def rX9_led_39 := W_getA (M := mX9_led) dX9_led_39 (q := 42) rfl fl9_30 ⟨_, rfl⟩
def rX9_led_42 := W_iload3 (M := mX9_led) dX9_led_42 (q := 43) rfl
def rX9_led_43 := W_iald (M := mX9_led) dX9_led_43 (q := 44) rfl
def rX9_led_44 := W_sipush (M := mX9_led) dX9_led_44 (q := 47) rfl (v := (9999)) rfl
def rX9_led_47 := W_icmp_ge (M := mX9_led) dX9_led_47 (q := 50) rfl (t := 53) rfl
def rX9_led_50 := W_goto (M := mX9_led) dX9_led_50 (t := 63) rfl
def rX9_led_53 := W_iload2 (M := mX9_led) dX9_led_53 (q := 54) rfl
def rX9_led_54 := W_iload1 (M := mX9_led) dX9_led_54 (q := 55) rfl
def rX9_led_55 := W_icmp_ne (M := mX9_led) dX9_led_55 (q := 58) rfl (t := 60) rfl
def rX9_led_58 := W_iload3 (M := mX9_led) dX9_led_58 (q := 59) rfl
def rX9_led_59 := W_iret (M := mX9_led) dX9_led_59 rfl
def rX9_led_60 := W_iinc2 (M := mX9_led) dX9_led_60 (q := 63) rfl (v := (1)) rfl
def rX9_led_63 := W_iinc3 (M := mX9_led) dX9_led_63 (q := 66) rfl (v := (1)) rfl
def rX9_led_66 := W_goto (M := mX9_led) dX9_led_66 (t := 20) rfl
def rX9_led_69 := W_aload0 (M := mX9_led) dX9_led_69 (q := 70) rfl
def rX9_led_69b := W_aloadR0 (M := mX9_led) dX9_led_69 (q := 70) rfl
def rX9_led_70 := W_iconst (M := mX9_led) dX9_led_70 (q := 71) rfl (v := (1)) rfl
def rX9_led_71 := W_putI (M := mX9_led) dX9_led_71 (q := 74) rfl fl9_52 rfl (Or.inl rfl)
def rX9_led_74 := W_iconst (M := mX9_led) dX9_led_74 (q := 75) rfl (v := (0)) rfl
def rX9_led_75 := W_iret (M := mX9_led) dX9_led_75 rfl
-- X9_letsGo
theorem eX9_letsGo {d : Nat} {h : qH} {Q : Option (Option Value) → qH → Prop} {s0 : Nat} : WM d mX9_letsGo [.ref s0] h Q = WP d mX9_letsGo (0, 0) 0 [some (.ref s0), none] [] h Q := rfl
def rX9_letsGo_0 := W_iconst (M := mX9_letsGo) dX9_letsGo_0 (q := 1) rfl (v := (0)) rfl
def rX9_letsGo_1 := W_istore1 (M := mX9_letsGo) dX9_letsGo_1 (q := 2) rfl
def rX9_letsGo_2 := W_iload1 (M := mX9_letsGo) dX9_letsGo_2 (q := 3) rfl
def rX9_letsGo_3 := W_bipush (M := mX9_letsGo) dX9_letsGo_3 (q := 5) rfl (v := (10)) rfl
def rX9_letsGo_5 := W_icmp_ge (M := mX9_letsGo) dX9_letsGo_5 (q := 8) rfl (t := 26) rfl
def rX9_letsGo_8 := W_aload0 (M := mX9_letsGo) dX9_letsGo_8 (q := 9) rfl
def rX9_letsGo_8b := W_aloadR0 (M := mX9_letsGo) dX9_letsGo_8 (q := 9) rfl
def rX9_letsGo_9 := W_getA (M := mX9_letsGo) dX9_letsGo_9 (q := 12) rfl fl9_21 ⟨_, rfl⟩
def rX9_letsGo_12 := W_iload1 (M := mX9_letsGo) dX9_letsGo_12 (q := 13) rfl
def rX9_letsGo_13 := W_aload0 (M := mX9_letsGo) dX9_letsGo_13 (q := 14) rfl
def rX9_letsGo_13b := W_aloadR0 (M := mX9_letsGo) dX9_letsGo_13 (q := 14) rfl
def rX9_letsGo_14 := W_getA (M := mX9_letsGo) dX9_letsGo_14 (q := 17) rfl fl9_36 ⟨_, rfl⟩
def rX9_letsGo_17 := W_iload1 (M := mX9_letsGo) dX9_letsGo_17 (q := 18) rfl
def rX9_letsGo_18 := W_iald (M := mX9_letsGo) dX9_letsGo_18 (q := 19) rfl
def rX9_letsGo_19 := W_iast (M := mX9_letsGo) dX9_letsGo_19 (q := 20) rfl
def rX9_letsGo_20 := W_iinc1 (M := mX9_letsGo) dX9_letsGo_20 (q := 23) rfl (v := (1)) rfl
def rX9_letsGo_23 := W_goto (M := mX9_letsGo) dX9_letsGo_23 (t := 2) rfl
def rX9_letsGo_26 := W_aload0 (M := mX9_letsGo) dX9_letsGo_26 (q := 27) rfl
def rX9_letsGo_26b := W_aloadR0 (M := mX9_letsGo) dX9_letsGo_26 (q := 27) rfl
def rX9_letsGo_27 := W_invV0 (M := mX9_letsGo) dX9_letsGo_27 (q := 30) rfl ml0_9_339 rfl
def rX9_letsGo_30 := W_vret (M := mX9_letsGo) dX9_letsGo_30 rfl
-- X9_lineBegins
theorem eX9_lineBegins {d : Nat} {h : qH} {Q : Option (Option Value) → qH → Prop} {s0 : Nat} {x1 : Int32} {x2 : Int32} : WM d mX9_lineBegins [.ref s0, .int x1, .int x2] h Q = WP d mX9_lineBegins (0, 0) 0 [some (.ref s0), some (.int x1), some (.int x2)] [] h Q := rfl
def rX9_lineBegins_0 := W_iload1 (M := mX9_lineBegins) dX9_lineBegins_0 (q := 1) rfl
def rX9_lineBegins_1 := W_iload2 (M := mX9_lineBegins) dX9_lineBegins_1 (q := 2) rfl
def rX9_lineBegins_2 := W_icmp_ne (M := mX9_lineBegins) dX9_lineBegins_2 (q := 5) rfl (t := 10) rfl
def rX9_lineBegins_5 := W_aload0 (M := mX9_lineBegins) dX9_lineBegins_5 (q := 6) rfl
def rX9_lineBegins_5b := W_aloadR0 (M := mX9_lineBegins) dX9_lineBegins_5 (q := 6) rfl
def rX9_lineBegins_6 := W_iconst (M := mX9_lineBegins) dX9_lineBegins_6 (q := 7) rfl (v := (5)) rfl
def rX9_lineBegins_7 := W_invV1 (M := mX9_lineBegins) dX9_lineBegins_7 (q := 10) rfl ml0_9_127 rfl
def rX9_lineBegins_10 := W_aload0 (M := mX9_lineBegins) dX9_lineBegins_10 (q := 11) rfl
def rX9_lineBegins_10b := W_aloadR0 (M := mX9_lineBegins) dX9_lineBegins_10 (q := 11) rfl
def rX9_lineBegins_11 := W_getR (M := mX9_lineBegins) dX9_lineBegins_11 (q := 14) rfl fl9_161 ⟨_, rfl⟩
def rX9_lineBegins_14 := W_getI (M := mX9_lineBegins) dX9_lineBegins_14 (q := 17) rfl fl9_165 (Or.inl rfl)
def rX9_lineBegins_17 := W_iconst (M := mX9_lineBegins) dX9_lineBegins_17 (q := 18) rfl (v := (-1)) rfl
def rX9_lineBegins_18 := W_icmp_ne (M := mX9_lineBegins) dX9_lineBegins_18 (q := 21) rfl (t := 27) rfl
def rX9_lineBegins_21 := W_aload0 (M := mX9_lineBegins) dX9_lineBegins_21 (q := 22) rfl
def rX9_lineBegins_21b := W_aloadR0 (M := mX9_lineBegins) dX9_lineBegins_21 (q := 22) rfl
def rX9_lineBegins_22 := W_bipush (M := mX9_lineBegins) dX9_lineBegins_22 (q := 24) rfl (v := (6)) rfl
def rX9_lineBegins_24 := W_invV1 (M := mX9_lineBegins) dX9_lineBegins_24 (q := 27) rfl ml0_9_127 rfl
def rX9_lineBegins_27 := W_aload0 (M := mX9_lineBegins) dX9_lineBegins_27 (q := 28) rfl
def rX9_lineBegins_27b := W_aloadR0 (M := mX9_lineBegins) dX9_lineBegins_27 (q := 28) rfl
def rX9_lineBegins_28 := W_invV0 (M := mX9_lineBegins) dX9_lineBegins_28 (q := 31) rfl ml0_9_120 rfl
def rX9_lineBegins_31 := W_vret (M := mX9_lineBegins) dX9_lineBegins_31 rfl
-- X9_litBy
theorem eX9_litBy {d : Nat} {h : qH} {Q : Option (Option Value) → qH → Prop} {s0 : Nat} {x1 : Int32} : WM d mX9_litBy [.ref s0, .int x1] h Q = WP d mX9_litBy (0, 0) 0 [some (.ref s0), some (.int x1), none, none] [] h Q := rfl
def rX9_litBy_0 := W_aload0 (M := mX9_litBy) dX9_litBy_0 (q := 1) rfl
def rX9_litBy_0b := W_aloadR0 (M := mX9_litBy) dX9_litBy_0 (q := 1) rfl
def rX9_litBy_1 := W_iconst (M := mX9_litBy) dX9_litBy_1 (q := 2) rfl (v := (0)) rfl
def rX9_litBy_2 := W_putI (M := mX9_litBy) dX9_litBy_2 (q := 5) rfl fl9_52 rfl (Or.inl rfl)
def rX9_litBy_5 := W_aload0 (M := mX9_litBy) dX9_litBy_5 (q := 6) rfl
def rX9_litBy_5b := W_aloadR0 (M := mX9_litBy) dX9_litBy_5 (q := 6) rfl
def rX9_litBy_6 := W_iload1 (M := mX9_litBy) dX9_litBy_6 (q := 7) rfl
def rX9_litBy_7 := W_invV1 (M := mX9_litBy) dX9_litBy_7 (q := 10) rfl ml0_9_345 rfl
def rX9_litBy_10 := W_if_ne (M := mX9_litBy) dX9_litBy_10 (q := 13) rfl (t := 19) rfl
def rX9_litBy_13 := W_aload0 (M := mX9_litBy) dX9_litBy_13 (q := 14) rfl
def rX9_litBy_13b := W_aloadR0 (M := mX9_litBy) dX9_litBy_13 (q := 14) rfl
def rX9_litBy_14 := W_iconst (M := mX9_litBy) dX9_litBy_14 (q := 15) rfl (v := (1)) rfl
def rX9_litBy_15 := W_invV1 (M := mX9_litBy) dX9_litBy_15 (q := 18) rfl ml0_9_58 rfl
def rX9_litBy_18 := W_iret (M := mX9_litBy) dX9_litBy_18 rfl
def rX9_litBy_19 := W_aload0 (M := mX9_litBy) dX9_litBy_19 (q := 20) rfl
def rX9_litBy_19b := W_aloadR0 (M := mX9_litBy) dX9_litBy_19 (q := 20) rfl
def rX9_litBy_20 := W_invV0 (M := mX9_litBy) dX9_litBy_20 (q := 23) rfl ml0_9_348 rfl
def rX9_litBy_23 := W_bipush (M := mX9_litBy) dX9_litBy_23 (q := 25) rfl (v := (-2)) rfl
def rX9_litBy_25 := W_istore2 (M := mX9_litBy) dX9_litBy_25 (q := 26) rfl
def rX9_litBy_26 := W_aload0 (M := mX9_litBy) dX9_litBy_26 (q := 27) rfl
def rX9_litBy_26b := W_aloadR0 (M := mX9_litBy) dX9_litBy_26 (q := 27) rfl
def rX9_litBy_27 := W_getA (M := mX9_litBy) dX9_litBy_27 (q := 30) rfl fl9_30 ⟨_, rfl⟩
def rX9_litBy_30 := W_iload1 (M := mX9_litBy) dX9_litBy_30 (q := 31) rfl
def rX9_litBy_31 := W_iald (M := mX9_litBy) dX9_litBy_31 (q := 32) rfl
def rX9_litBy_32 := W_sipush (M := mX9_litBy) dX9_litBy_32 (q := 35) rfl (v := (9999)) rfl
def rX9_litBy_35 := W_icmp_eq (M := mX9_litBy) dX9_litBy_35 (q := 38) rfl (t := 53) rfl
def rX9_litBy_38 := W_aload0 (M := mX9_litBy) dX9_litBy_38 (q := 39) rfl
def rX9_litBy_38b := W_aloadR0 (M := mX9_litBy) dX9_litBy_38 (q := 39) rfl
def rX9_litBy_39 := W_getA (M := mX9_litBy) dX9_litBy_39 (q := 42) rfl fl9_21 ⟨_, rfl⟩
def rX9_litBy_42 := W_iload1 (M := mX9_litBy) dX9_litBy_42 (q := 43) rfl
def rX9_litBy_43 := W_iald (M := mX9_litBy) dX9_litBy_43 (q := 44) rfl
def rX9_litBy_44 := W_aload0 (M := mX9_litBy) dX9_litBy_44 (q := 45) rfl
def rX9_litBy_44b := W_aloadR0 (M := mX9_litBy) dX9_litBy_44 (q := 45) rfl
def rX9_litBy_45 := W_getA (M := mX9_litBy) dX9_litBy_45 (q := 48) rfl fl9_30 ⟨_, rfl⟩
def rX9_litBy_48 := W_iload1 (M := mX9_litBy) dX9_litBy_48 (q := 49) rfl
def rX9_litBy_49 := W_iald (M := mX9_litBy) dX9_litBy_49 (q := 50) rfl
def rX9_litBy_50 := W_icmp_ne (M := mX9_litBy) dX9_litBy_50 (q := 53) rfl (t := 60) rfl
def rX9_litBy_53 := W_aload0 (M := mX9_litBy) dX9_litBy_53 (q := 54) rfl
def rX9_litBy_53b := W_aloadR0 (M := mX9_litBy) dX9_litBy_53 (q := 54) rfl
def rX9_litBy_54 := W_bipush (M := mX9_litBy) dX9_litBy_54 (q := 56) rfl (v := (-2)) rfl
def rX9_litBy_56 := W_invV1 (M := mX9_litBy) dX9_litBy_56 (q := 59) rfl ml0_9_62 rfl
def rX9_litBy_59 := W_iret (M := mX9_litBy) dX9_litBy_59 rfl
def rX9_litBy_60 := W_iconst (M := mX9_litBy) dX9_litBy_60 (q := 61) rfl (v := (0)) rfl
def rX9_litBy_61 := W_istore3 (M := mX9_litBy) dX9_litBy_61 (q := 62) rfl
def rX9_litBy_62 := W_iload3 (M := mX9_litBy) dX9_litBy_62 (q := 63) rfl
def rX9_litBy_63 := W_aload0 (M := mX9_litBy) dX9_litBy_63 (q := 64) rfl
def rX9_litBy_63b := W_aloadR0 (M := mX9_litBy) dX9_litBy_63 (q := 64) rfl
def rX9_litBy_64 := W_getR (M := mX9_litBy) dX9_litBy_64 (q := 67) rfl fl9_316 ⟨_, rfl⟩
def rX9_litBy_67 := W_getI (M := mX9_litBy) dX9_litBy_67 (q := 70) rfl fl9_248 (Or.inl rfl)
def rX9_litBy_70 := W_icmp_ge (M := mX9_litBy) dX9_litBy_70 (q := 73) rfl (t := 164) rfl
def rX9_litBy_73 := W_aload0 (M := mX9_litBy) dX9_litBy_73 (q := 74) rfl
def rX9_litBy_73b := W_aloadR0 (M := mX9_litBy) dX9_litBy_73 (q := 74) rfl
def rX9_litBy_74 := W_getR (M := mX9_litBy) dX9_litBy_74 (q := 77) rfl fl9_316 ⟨_, rfl⟩
def rX9_litBy_77 := W_getA (M := mX9_litBy) dX9_litBy_77 (q := 80) rfl fl9_263 ⟨_, rfl⟩
def rX9_litBy_80 := W_iload3 (M := mX9_litBy) dX9_litBy_80 (q := 81) rfl
def rX9_litBy_81 := W_iald (M := mX9_litBy) dX9_litBy_81 (q := 82) rfl
def rX9_litBy_82 := W_iload1 (M := mX9_litBy) dX9_litBy_82 (q := 83) rfl
def rX9_litBy_83 := W_icmp_ne (M := mX9_litBy) dX9_litBy_83 (q := 86) rfl (t := 158) rfl
def rX9_litBy_86 := W_aload0 (M := mX9_litBy) dX9_litBy_86 (q := 87) rfl
def rX9_litBy_86b := W_aloadR0 (M := mX9_litBy) dX9_litBy_86 (q := 87) rfl
def rX9_litBy_87 := W_iload3 (M := mX9_litBy) dX9_litBy_87 (q := 88) rfl
def rX9_litBy_88 := W_invV1 (M := mX9_litBy) dX9_litBy_88 (q := 91) rfl ml0_9_330 rfl
def rX9_litBy_91 := W_if_eq (M := mX9_litBy) dX9_litBy_91 (q := 94) rfl (t := 158) rfl
def rX9_litBy_94 := W_aload0 (M := mX9_litBy) dX9_litBy_94 (q := 95) rfl
def rX9_litBy_94b := W_aloadR0 (M := mX9_litBy) dX9_litBy_94 (q := 95) rfl
def rX9_litBy_95 := W_getA (M := mX9_litBy) dX9_litBy_95 (q := 98) rfl fl9_30 ⟨_, rfl⟩
def rX9_litBy_98 := W_aload0 (M := mX9_litBy) dX9_litBy_98 (q := 99) rfl
def rX9_litBy_98b := W_aloadR0 (M := mX9_litBy) dX9_litBy_98 (q := 99) rfl
def rX9_litBy_99 := W_getR (M := mX9_litBy) dX9_litBy_99 (q := 102) rfl fl9_316 ⟨_, rfl⟩
def rX9_litBy_102 := W_getA (M := mX9_litBy) dX9_litBy_102 (q := 105) rfl fl9_260 ⟨_, rfl⟩
def rX9_litBy_105 := W_iload3 (M := mX9_litBy) dX9_litBy_105 (q := 106) rfl
def rX9_litBy_106 := W_iald (M := mX9_litBy) dX9_litBy_106 (q := 107) rfl
def rX9_litBy_107 := W_iald (M := mX9_litBy) dX9_litBy_107 (q := 108) rfl
def rX9_litBy_108 := W_aload0 (M := mX9_litBy) dX9_litBy_108 (q := 109) rfl
def rX9_litBy_108b := W_aloadR0 (M := mX9_litBy) dX9_litBy_108 (q := 109) rfl
def rX9_litBy_109 := W_getR (M := mX9_litBy) dX9_litBy_109 (q := 112) rfl fl9_316 ⟨_, rfl⟩
def rX9_litBy_112 := W_iload3 (M := mX9_litBy) dX9_litBy_112 (q := 113) rfl
def rX9_litBy_113 := W_invV1 (M := mX9_litBy) dX9_litBy_113 (q := 116) rfl ml0_9_327 rfl
def rX9_litBy_116 := W_iadd (M := mX9_litBy) dX9_litBy_116 (q := 117) rfl
def rX9_litBy_117 := W_aload0 (M := mX9_litBy) dX9_litBy_117 (q := 118) rfl
def rX9_litBy_117b := W_aloadR0 (M := mX9_litBy) dX9_litBy_117 (q := 118) rfl
def rX9_litBy_118 := W_getA (M := mX9_litBy) dX9_litBy_118 (q := 121) rfl fl9_30 ⟨_, rfl⟩
def rX9_litBy_121 := W_iload1 (M := mX9_litBy) dX9_litBy_121 (q := 122) rfl
def rX9_litBy_122 := W_iald (M := mX9_litBy) dX9_litBy_122 (q := 123) rfl
def rX9_litBy_123 := W_icmp_eq (M := mX9_litBy) dX9_litBy_123 (q := 126) rfl (t := 129) rfl
def rX9_litBy_126 := W_goto (M := mX9_litBy) dX9_litBy_126 (t := 158) rfl
def rX9_litBy_129 := W_iload2 (M := mX9_litBy) dX9_litBy_129 (q := 130) rfl
def rX9_litBy_130 := W_bipush (M := mX9_litBy) dX9_litBy_130 (q := 132) rfl (v := (-2)) rfl
def rX9_litBy_132 := W_icmp_eq (M := mX9_litBy) dX9_litBy_132 (q := 135) rfl (t := 148) rfl
def rX9_litBy_135 := W_aload0 (M := mX9_litBy) dX9_litBy_135 (q := 136) rfl
def rX9_litBy_135b := W_aloadR0 (M := mX9_litBy) dX9_litBy_135 (q := 136) rfl
def rX9_litBy_136 := W_getR (M := mX9_litBy) dX9_litBy_136 (q := 139) rfl fl9_316 ⟨_, rfl⟩
def rX9_litBy_139 := W_getA (M := mX9_litBy) dX9_litBy_139 (q := 142) rfl fl9_260 ⟨_, rfl⟩
def rX9_litBy_142 := W_iload3 (M := mX9_litBy) dX9_litBy_142 (q := 143) rfl
def rX9_litBy_143 := W_iald (M := mX9_litBy) dX9_litBy_143 (q := 144) rfl
def rX9_litBy_144 := W_iload2 (M := mX9_litBy) dX9_litBy_144 (q := 145) rfl
def rX9_litBy_145 := W_icmp_ge (M := mX9_litBy) dX9_litBy_145 (q := 148) rfl (t := 158) rfl
def rX9_litBy_148 := W_aload0 (M := mX9_litBy) dX9_litBy_148 (q := 149) rfl
def rX9_litBy_148b := W_aloadR0 (M := mX9_litBy) dX9_litBy_148 (q := 149) rfl
def rX9_litBy_149 := W_getR (M := mX9_litBy) dX9_litBy_149 (q := 152) rfl fl9_316 ⟨_, rfl⟩
def rX9_litBy_152 := W_getA (M := mX9_litBy) dX9_litBy_152 (q := 155) rfl fl9_260 ⟨_, rfl⟩
def rX9_litBy_155 := W_iload3 (M := mX9_litBy) dX9_litBy_155 (q := 156) rfl
def rX9_litBy_156 := W_iald (M := mX9_litBy) dX9_litBy_156 (q := 157) rfl
def rX9_litBy_157 := W_istore2 (M := mX9_litBy) dX9_litBy_157 (q := 158) rfl
def rX9_litBy_158 := W_iinc3 (M := mX9_litBy) dX9_litBy_158 (q := 161) rfl (v := (1)) rfl
def rX9_litBy_161 := W_goto (M := mX9_litBy) dX9_litBy_161 (t := 62) rfl
def rX9_litBy_164 := W_aload0 (M := mX9_litBy) dX9_litBy_164 (q := 165) rfl
def rX9_litBy_164b := W_aloadR0 (M := mX9_litBy) dX9_litBy_164 (q := 165) rfl
def rX9_litBy_165 := W_iload2 (M := mX9_litBy) dX9_litBy_165 (q := 166) rfl
def rX9_litBy_166 := W_invV1 (M := mX9_litBy) dX9_litBy_166 (q := 169) rfl ml0_9_62 rfl
def rX9_litBy_169 := W_iret (M := mX9_litBy) dX9_litBy_169 rfl
