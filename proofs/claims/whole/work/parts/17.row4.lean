-- X9_lost
theorem eX9_lost {d : Nat} {h : qH} {Q : Option (Option Value) → qH → Prop} {s0 : Nat} {x1 : Int32} : WM d mX9_lost [.ref s0, .int x1] h Q = WP d mX9_lost (0, 0) 0 [some (.ref s0), some (.int x1)] [] h Q := rfl
def rX9_lost_0 := W_aload0 (M := mX9_lost) dX9_lost_0 (q := 1) rfl
def rX9_lost_0b := W_aloadR0 (M := mX9_lost) dX9_lost_0 (q := 1) rfl
def rX9_lost_1 := W_iload1 (M := mX9_lost) dX9_lost_1 (q := 2) rfl
def rX9_lost_2 := W_invV1 (M := mX9_lost) dX9_lost_2 (q := 5) rfl ml0_9_58 rfl
def rX9_lost_5 := W_popI (M := mX9_lost) dX9_lost_5 (q := 6) rfl
def rX9_lost_6 := W_bipush (M := mX9_lost) dX9_lost_6 (q := 8) rfl (v := (-100)) rfl
def rX9_lost_8 := W_iret (M := mX9_lost) dX9_lost_8 rfl
-- X9_mean
theorem eX9_mean {d : Nat} {h : qH} {Q : Option (Option Value) → qH → Prop} {s0 : Nat} {x1 : Int32} {x2 : Int32} : WM d mX9_mean [.ref s0, .int x1, .int x2] h Q = WP d mX9_mean (0, 0) 0 [some (.ref s0), some (.int x1), some (.int x2), none] [] h Q := rfl
def rX9_mean_0 := W_aload0 (M := mX9_mean) dX9_mean_0 (q := 1) rfl
def rX9_mean_0b := W_aloadR0 (M := mX9_mean) dX9_mean_0 (q := 1) rfl
def rX9_mean_1 := W_iconst (M := mX9_mean) dX9_mean_1 (q := 2) rfl (v := (0)) rfl
def rX9_mean_2 := W_putI (M := mX9_mean) dX9_mean_2 (q := 5) rfl fl9_52 rfl (Or.inl rfl)
def rX9_mean_5 := W_aload0 (M := mX9_mean) dX9_mean_5 (q := 6) rfl
def rX9_mean_5b := W_aloadR0 (M := mX9_mean) dX9_mean_5 (q := 6) rfl
def rX9_mean_6 := W_aload0 (M := mX9_mean) dX9_mean_6 (q := 7) rfl
def rX9_mean_6b := W_aloadR0 (M := mX9_mean) dX9_mean_6 (q := 7) rfl
def rX9_mean_7 := W_getR (M := mX9_mean) dX9_mean_7 (q := 10) rfl fl9_316 ⟨_, rfl⟩
def rX9_mean_10 := W_ifnull (M := mX9_mean) dX9_mean_10 (q := 13) rfl (t := 17) rfl
def rX9_mean_10b := W_ifnullN (M := mX9_mean) dX9_mean_10 (q := 13) rfl (t := 17) rfl
def rX9_mean_13 := W_iconst (M := mX9_mean) dX9_mean_13 (q := 14) rfl (v := (1)) rfl
def rX9_mean_14 := W_goto (M := mX9_mean) dX9_mean_14 (t := 18) rfl
def rX9_mean_17 := W_iconst (M := mX9_mean) dX9_mean_17 (q := 18) rfl (v := (0)) rfl
def rX9_mean_18 := W_iload1 (M := mX9_mean) dX9_mean_18 (q := 19) rfl
def rX9_mean_19 := W_iconst (M := mX9_mean) dX9_mean_19 (q := 20) rfl (v := (0)) rfl
def rX9_mean_20 := W_invV3 (M := mX9_mean) dX9_mean_20 (q := 23) rfl ml0_9_354 rfl
def rX9_mean_23 := W_istore3 (M := mX9_mean) dX9_mean_23 (q := 24) rfl
def rX9_mean_24 := W_iload3 (M := mX9_mean) dX9_mean_24 (q := 25) rfl
def rX9_mean_25 := W_if_le (M := mX9_mean) dX9_mean_25 (q := 28) rfl (t := 35) rfl
def rX9_mean_28 := W_aload0 (M := mX9_mean) dX9_mean_28 (q := 29) rfl
def rX9_mean_28b := W_aloadR0 (M := mX9_mean) dX9_mean_28 (q := 29) rfl
def rX9_mean_29 := W_iload3 (M := mX9_mean) dX9_mean_29 (q := 30) rfl
def rX9_mean_30 := W_invV1 (M := mX9_mean) dX9_mean_30 (q := 33) rfl ml0_9_58 rfl
def rX9_mean_33 := W_i2l (M := mX9_mean) dX9_mean_33 (q := 34) rfl
def rX9_mean_34 := W_lret (M := mX9_mean) dX9_mean_34 rfl
def rX9_mean_35 := W_aload0 (M := mX9_mean) dX9_mean_35 (q := 36) rfl
def rX9_mean_35b := W_aloadR0 (M := mX9_mean) dX9_mean_35 (q := 36) rfl
def rX9_mean_36 := W_iload1 (M := mX9_mean) dX9_mean_36 (q := 37) rfl
def rX9_mean_37 := W_invV1 (M := mX9_mean) dX9_mean_37 (q := 40) rfl ml0_9_439 rfl
def rX9_mean_40 := W_aload0 (M := mX9_mean) dX9_mean_40 (q := 41) rfl
def rX9_mean_40b := W_aloadR0 (M := mX9_mean) dX9_mean_40 (q := 41) rfl
def rX9_mean_41 := W_aload0 (M := mX9_mean) dX9_mean_41 (q := 42) rfl
def rX9_mean_41b := W_aloadR0 (M := mX9_mean) dX9_mean_41 (q := 42) rfl
def rX9_mean_42 := W_getJ (M := mX9_mean) dX9_mean_42 (q := 45) rfl fl9_434 rfl
def rX9_mean_45 := W_aload0 (M := mX9_mean) dX9_mean_45 (q := 46) rfl
def rX9_mean_45b := W_aloadR0 (M := mX9_mean) dX9_mean_45 (q := 46) rfl
def rX9_mean_46 := W_getJ (M := mX9_mean) dX9_mean_46 (q := 49) rfl fl9_428 rfl
def rX9_mean_49 := W_iload2 (M := mX9_mean) dX9_mean_49 (q := 50) rfl
def rX9_mean_50 := W_invV3 (M := mX9_mean) dX9_mean_50 (q := 53) rfl ml0_9_442 rfl
def rX9_mean_53 := W_lret (M := mX9_mean) dX9_mean_53 rfl
-- X9_mend
theorem eX9_mend {d : Nat} {h : qH} {Q : Option (Option Value) → qH → Prop} {s0 : Nat} {x1 : Int32} : WM d mX9_mend [.ref s0, .int x1] h Q = WP d mX9_mend (0, 0) 0 [some (.ref s0), some (.int x1)] [] h Q := rfl
def rX9_mend_0 := W_aload0 (M := mX9_mend) dX9_mend_0 (q := 1) rfl
def rX9_mend_0b := W_aloadR0 (M := mX9_mend) dX9_mend_0 (q := 1) rfl
def rX9_mend_1 := W_iconst (M := mX9_mend) dX9_mend_1 (q := 2) rfl (v := (0)) rfl
def rX9_mend_2 := W_putI (M := mX9_mend) dX9_mend_2 (q := 5) rfl fl9_52 rfl (Or.inl rfl)
def rX9_mend_5 := W_aload0 (M := mX9_mend) dX9_mend_5 (q := 6) rfl
def rX9_mend_5b := W_aloadR0 (M := mX9_mend) dX9_mend_5 (q := 6) rfl
def rX9_mend_6 := W_iload1 (M := mX9_mend) dX9_mend_6 (q := 7) rfl
def rX9_mend_7 := W_iconst (M := mX9_mend) dX9_mend_7 (q := 8) rfl (v := (0)) rfl
def rX9_mend_8 := W_invV2 (M := mX9_mend) dX9_mend_8 (q := 11) rfl ml0_9_471 rfl
def rX9_mend_11 := W_zret (M := mX9_mend) dX9_mend_11 rfl
-- X9_needs
theorem eX9_needs {d : Nat} {h : qH} {Q : Option (Option Value) → qH → Prop} {s0 : Nat} {x1 : Nat} : WM d mX9_needs [.ref s0, .retAddr x1] h Q = WP d mX9_needs (0, 0) 0 [some (.ref s0), some (.retAddr x1)] [] h Q := rfl
def rX9_needs_0 := W_aload0 (M := mX9_needs) dX9_needs_0 (q := 1) rfl
def rX9_needs_0b := W_aloadR0 (M := mX9_needs) dX9_needs_0 (q := 1) rfl
def rX9_needs_1 := W_aload1 (M := mX9_needs) dX9_needs_1 (q := 2) rfl
def rX9_needs_1b := W_aloadR1 (M := mX9_needs) dX9_needs_1 (q := 2) rfl
def rX9_needs_2 := W_invV1 (M := mX9_needs) dX9_needs_2 (q := 5) rfl ml0_9_123 rfl
def rX9_needs_5 := W_if_ne (M := mX9_needs) dX9_needs_5 (q := 8) rfl (t := 13) rfl
def rX9_needs_8 := W_aload0 (M := mX9_needs) dX9_needs_8 (q := 9) rfl
def rX9_needs_8b := W_aloadR0 (M := mX9_needs) dX9_needs_8 (q := 9) rfl
def rX9_needs_9 := W_iconst (M := mX9_needs) dX9_needs_9 (q := 10) rfl (v := (1)) rfl
def rX9_needs_10 := W_invV1 (M := mX9_needs) dX9_needs_10 (q := 13) rfl ml0_9_127 rfl
def rX9_needs_13 := W_aload0 (M := mX9_needs) dX9_needs_13 (q := 14) rfl
def rX9_needs_13b := W_aloadR0 (M := mX9_needs) dX9_needs_13 (q := 14) rfl
def rX9_needs_14 := W_invV0 (M := mX9_needs) dX9_needs_14 (q := 17) rfl ml0_9_120 rfl
def rX9_needs_17 := W_vret (M := mX9_needs) dX9_needs_17 rfl
-- X9_next
theorem eX9_next {d : Nat} {h : qH} {Q : Option (Option Value) → qH → Prop} {s0 : Nat} {x1 : Int32} : WM d mX9_next [.ref s0, .int x1] h Q = WP d mX9_next (0, 0) 0 [some (.ref s0), some (.int x1), none] [] h Q := rfl
def rX9_next_0 := W_aload0 (M := mX9_next) dX9_next_0 (q := 1) rfl
def rX9_next_0b := W_aloadR0 (M := mX9_next) dX9_next_0 (q := 1) rfl
def rX9_next_1 := W_iconst (M := mX9_next) dX9_next_1 (q := 2) rfl (v := (0)) rfl
def rX9_next_2 := W_putI (M := mX9_next) dX9_next_2 (q := 5) rfl fl9_52 rfl (Or.inl rfl)
def rX9_next_5 := W_aload0 (M := mX9_next) dX9_next_5 (q := 6) rfl
def rX9_next_5b := W_aloadR0 (M := mX9_next) dX9_next_5 (q := 6) rfl
def rX9_next_6 := W_aload0 (M := mX9_next) dX9_next_6 (q := 7) rfl
def rX9_next_6b := W_aloadR0 (M := mX9_next) dX9_next_6 (q := 7) rfl
def rX9_next_7 := W_getR (M := mX9_next) dX9_next_7 (q := 10) rfl fl9_316 ⟨_, rfl⟩
def rX9_next_10 := W_ifnull (M := mX9_next) dX9_next_10 (q := 13) rfl (t := 17) rfl
def rX9_next_10b := W_ifnullN (M := mX9_next) dX9_next_10 (q := 13) rfl (t := 17) rfl
def rX9_next_13 := W_iconst (M := mX9_next) dX9_next_13 (q := 14) rfl (v := (1)) rfl
def rX9_next_14 := W_goto (M := mX9_next) dX9_next_14 (t := 18) rfl
def rX9_next_17 := W_iconst (M := mX9_next) dX9_next_17 (q := 18) rfl (v := (0)) rfl
def rX9_next_18 := W_iload1 (M := mX9_next) dX9_next_18 (q := 19) rfl
def rX9_next_19 := W_iconst (M := mX9_next) dX9_next_19 (q := 20) rfl (v := (0)) rfl
def rX9_next_20 := W_invV3 (M := mX9_next) dX9_next_20 (q := 23) rfl ml0_9_354 rfl
def rX9_next_23 := W_istore2 (M := mX9_next) dX9_next_23 (q := 24) rfl
def rX9_next_24 := W_iload2 (M := mX9_next) dX9_next_24 (q := 25) rfl
def rX9_next_25 := W_if_le (M := mX9_next) dX9_next_25 (q := 28) rfl (t := 34) rfl
def rX9_next_28 := W_aload0 (M := mX9_next) dX9_next_28 (q := 29) rfl
def rX9_next_28b := W_aloadR0 (M := mX9_next) dX9_next_28 (q := 29) rfl
def rX9_next_29 := W_iload2 (M := mX9_next) dX9_next_29 (q := 30) rfl
def rX9_next_30 := W_invV1 (M := mX9_next) dX9_next_30 (q := 33) rfl ml0_9_58 rfl
def rX9_next_33 := W_iret (M := mX9_next) dX9_next_33 rfl
def rX9_next_34 := W_aload0 (M := mX9_next) dX9_next_34 (q := 35) rfl
def rX9_next_34b := W_aloadR0 (M := mX9_next) dX9_next_34 (q := 35) rfl
def rX9_next_35 := W_invV0 (M := mX9_next) dX9_next_35 (q := 38) rfl ml0_9_348 rfl
def rX9_next_38 := W_aload0 (M := mX9_next) dX9_next_38 (q := 39) rfl
def rX9_next_38b := W_aloadR0 (M := mX9_next) dX9_next_38 (q := 39) rfl
def rX9_next_39 := W_aload0 (M := mX9_next) dX9_next_39 (q := 40) rfl
def rX9_next_39b := W_aloadR0 (M := mX9_next) dX9_next_39 (q := 40) rfl
def rX9_next_40 := W_iload1 (M := mX9_next) dX9_next_40 (q := 41) rfl
def rX9_next_41 := W_invV1 (M := mX9_next) dX9_next_41 (q := 44) rfl ml0_9_358 rfl
def rX9_next_44 := W_invV1 (M := mX9_next) dX9_next_44 (q := 47) rfl ml0_9_62 rfl
def rX9_next_47 := W_iret (M := mX9_next) dX9_next_47 rfl
-- X9_nextBy
theorem eX9_nextBy {d : Nat} {h : qH} {Q : Option (Option Value) → qH → Prop} {s0 : Nat} {x1 : Int32} {x2 : Int32} : WM d mX9_nextBy [.ref s0, .int x1, .int x2] h Q = WP d mX9_nextBy (0, 0) 0 [some (.ref s0), some (.int x1), some (.int x2), none] [] h Q := rfl
def rX9_nextBy_0 := W_aload0 (M := mX9_nextBy) dX9_nextBy_0 (q := 1) rfl
def rX9_nextBy_0b := W_aloadR0 (M := mX9_nextBy) dX9_nextBy_0 (q := 1) rfl
def rX9_nextBy_1 := W_iconst (M := mX9_nextBy) dX9_nextBy_1 (q := 2) rfl (v := (0)) rfl
def rX9_nextBy_2 := W_putI (M := mX9_nextBy) dX9_nextBy_2 (q := 5) rfl fl9_52 rfl (Or.inl rfl)
def rX9_nextBy_5 := W_aload0 (M := mX9_nextBy) dX9_nextBy_5 (q := 6) rfl
def rX9_nextBy_5b := W_aloadR0 (M := mX9_nextBy) dX9_nextBy_5 (q := 6) rfl
def rX9_nextBy_6 := W_aload0 (M := mX9_nextBy) dX9_nextBy_6 (q := 7) rfl
def rX9_nextBy_6b := W_aloadR0 (M := mX9_nextBy) dX9_nextBy_6 (q := 7) rfl
def rX9_nextBy_7 := W_iload1 (M := mX9_nextBy) dX9_nextBy_7 (q := 8) rfl
def rX9_nextBy_8 := W_invV1 (M := mX9_nextBy) dX9_nextBy_8 (q := 11) rfl ml0_9_345 rfl
def rX9_nextBy_11 := W_iload2 (M := mX9_nextBy) dX9_nextBy_11 (q := 12) rfl
def rX9_nextBy_12 := W_iconst (M := mX9_nextBy) dX9_nextBy_12 (q := 13) rfl (v := (0)) rfl
def rX9_nextBy_13 := W_invV3 (M := mX9_nextBy) dX9_nextBy_13 (q := 16) rfl ml0_9_354 rfl
def rX9_nextBy_16 := W_istore3 (M := mX9_nextBy) dX9_nextBy_16 (q := 17) rfl
def rX9_nextBy_17 := W_iload3 (M := mX9_nextBy) dX9_nextBy_17 (q := 18) rfl
def rX9_nextBy_18 := W_if_le (M := mX9_nextBy) dX9_nextBy_18 (q := 21) rfl (t := 27) rfl
def rX9_nextBy_21 := W_aload0 (M := mX9_nextBy) dX9_nextBy_21 (q := 22) rfl
def rX9_nextBy_21b := W_aloadR0 (M := mX9_nextBy) dX9_nextBy_21 (q := 22) rfl
def rX9_nextBy_22 := W_iload3 (M := mX9_nextBy) dX9_nextBy_22 (q := 23) rfl
def rX9_nextBy_23 := W_invV1 (M := mX9_nextBy) dX9_nextBy_23 (q := 26) rfl ml0_9_58 rfl
def rX9_nextBy_26 := W_iret (M := mX9_nextBy) dX9_nextBy_26 rfl
def rX9_nextBy_27 := W_aload0 (M := mX9_nextBy) dX9_nextBy_27 (q := 28) rfl
def rX9_nextBy_27b := W_aloadR0 (M := mX9_nextBy) dX9_nextBy_27 (q := 28) rfl
def rX9_nextBy_28 := W_iconst (M := mX9_nextBy) dX9_nextBy_28 (q := 29) rfl (v := (-1)) rfl
def rX9_nextBy_29 := W_invV1 (M := mX9_nextBy) dX9_nextBy_29 (q := 32) rfl ml0_9_409 rfl
def rX9_nextBy_32 := W_aload0 (M := mX9_nextBy) dX9_nextBy_32 (q := 33) rfl
def rX9_nextBy_32b := W_aloadR0 (M := mX9_nextBy) dX9_nextBy_32 (q := 33) rfl
def rX9_nextBy_33 := W_aload0 (M := mX9_nextBy) dX9_nextBy_33 (q := 34) rfl
def rX9_nextBy_33b := W_aloadR0 (M := mX9_nextBy) dX9_nextBy_33 (q := 34) rfl
def rX9_nextBy_34 := W_getA (M := mX9_nextBy) dX9_nextBy_34 (q := 37) rfl fl9_42 ⟨_, rfl⟩
def rX9_nextBy_37 := W_bipush (M := mX9_nextBy) dX9_nextBy_37 (q := 39) rfl (v := (7)) rfl
def rX9_nextBy_39 := W_iload2 (M := mX9_nextBy) dX9_nextBy_39 (q := 40) rfl
def rX9_nextBy_40 := W_imul (M := mX9_nextBy) dX9_nextBy_40 (q := 41) rfl
def rX9_nextBy_41 := W_iload1 (M := mX9_nextBy) dX9_nextBy_41 (q := 42) rfl
def rX9_nextBy_42 := W_iadd (M := mX9_nextBy) dX9_nextBy_42 (q := 43) rfl
def rX9_nextBy_43 := W_iald (M := mX9_nextBy) dX9_nextBy_43 (q := 44) rfl
def rX9_nextBy_44 := W_invV1 (M := mX9_nextBy) dX9_nextBy_44 (q := 47) rfl ml0_9_62 rfl
def rX9_nextBy_47 := W_iret (M := mX9_nextBy) dX9_nextBy_47 rfl
-- X9_nextOn
theorem eX9_nextOn {d : Nat} {h : qH} {Q : Option (Option Value) → qH → Prop} {s0 : Nat} {x1 : Int32} : WM d mX9_nextOn [.ref s0, .int x1] h Q = WP d mX9_nextOn (0, 0) 0 [some (.ref s0), some (.int x1), none, none] [] h Q := rfl
def rX9_nextOn_0 := W_bipush (M := mX9_nextOn) dX9_nextOn_0 (q := 2) rfl (v := (-2)) rfl
def rX9_nextOn_2 := W_istore2 (M := mX9_nextOn) dX9_nextOn_2 (q := 3) rfl
def rX9_nextOn_3 := W_iconst (M := mX9_nextOn) dX9_nextOn_3 (q := 4) rfl (v := (0)) rfl
def rX9_nextOn_4 := W_istore3 (M := mX9_nextOn) dX9_nextOn_4 (q := 5) rfl
def rX9_nextOn_5 := W_iload3 (M := mX9_nextOn) dX9_nextOn_5 (q := 6) rfl
def rX9_nextOn_6 := W_aload0 (M := mX9_nextOn) dX9_nextOn_6 (q := 7) rfl
def rX9_nextOn_6b := W_aloadR0 (M := mX9_nextOn) dX9_nextOn_6 (q := 7) rfl
def rX9_nextOn_7 := W_getR (M := mX9_nextOn) dX9_nextOn_7 (q := 10) rfl fl9_316 ⟨_, rfl⟩
def rX9_nextOn_10 := W_getI (M := mX9_nextOn) dX9_nextOn_10 (q := 13) rfl fl9_187 (Or.inl rfl)
def rX9_nextOn_13 := W_icmp_ge (M := mX9_nextOn) dX9_nextOn_13 (q := 16) rfl (t := 81) rfl
def rX9_nextOn_16 := W_aload0 (M := mX9_nextOn) dX9_nextOn_16 (q := 17) rfl
def rX9_nextOn_16b := W_aloadR0 (M := mX9_nextOn) dX9_nextOn_16 (q := 17) rfl
def rX9_nextOn_17 := W_getA (M := mX9_nextOn) dX9_nextOn_17 (q := 20) rfl fl9_21 ⟨_, rfl⟩
def rX9_nextOn_20 := W_bipush (M := mX9_nextOn) dX9_nextOn_20 (q := 22) rfl (v := (8)) rfl
def rX9_nextOn_22 := W_iald (M := mX9_nextOn) dX9_nextOn_22 (q := 23) rfl
def rX9_nextOn_23 := W_iload3 (M := mX9_nextOn) dX9_nextOn_23 (q := 24) rfl
def rX9_nextOn_24 := W_invS2 (M := mX9_nextOn) dX9_nextOn_24 (q := 27) rfl ml1_9_281 rfl rfl rfl
def rX9_nextOn_27 := W_if_ne (M := mX9_nextOn) dX9_nextOn_27 (q := 30) rfl (t := 75) rfl
def rX9_nextOn_30 := W_aload0 (M := mX9_nextOn) dX9_nextOn_30 (q := 31) rfl
def rX9_nextOn_30b := W_aloadR0 (M := mX9_nextOn) dX9_nextOn_30 (q := 31) rfl
def rX9_nextOn_31 := W_getA (M := mX9_nextOn) dX9_nextOn_31 (q := 34) rfl fl9_30 ⟨_, rfl⟩
def rX9_nextOn_34 := W_iload3 (M := mX9_nextOn) dX9_nextOn_34 (q := 35) rfl
def rX9_nextOn_35 := W_iald (M := mX9_nextOn) dX9_nextOn_35 (q := 36) rfl
def rX9_nextOn_36 := W_iload1 (M := mX9_nextOn) dX9_nextOn_36 (q := 37) rfl
def rX9_nextOn_37 := W_icmp_le (M := mX9_nextOn) dX9_nextOn_37 (q := 40) rfl (t := 75) rfl
def rX9_nextOn_40 := W_aload0 (M := mX9_nextOn) dX9_nextOn_40 (q := 41) rfl
def rX9_nextOn_40b := W_aloadR0 (M := mX9_nextOn) dX9_nextOn_40 (q := 41) rfl
def rX9_nextOn_41 := W_getA (M := mX9_nextOn) dX9_nextOn_41 (q := 44) rfl fl9_30 ⟨_, rfl⟩
def rX9_nextOn_44 := W_iload3 (M := mX9_nextOn) dX9_nextOn_44 (q := 45) rfl
def rX9_nextOn_45 := W_iald (M := mX9_nextOn) dX9_nextOn_45 (q := 46) rfl
def rX9_nextOn_46 := W_sipush (M := mX9_nextOn) dX9_nextOn_46 (q := 49) rfl (v := (9999)) rfl
def rX9_nextOn_49 := W_icmp_ge (M := mX9_nextOn) dX9_nextOn_49 (q := 52) rfl (t := 75) rfl
def rX9_nextOn_52 := W_iload2 (M := mX9_nextOn) dX9_nextOn_52 (q := 53) rfl
def rX9_nextOn_53 := W_bipush (M := mX9_nextOn) dX9_nextOn_53 (q := 55) rfl (v := (-2)) rfl
def rX9_nextOn_55 := W_icmp_eq (M := mX9_nextOn) dX9_nextOn_55 (q := 58) rfl (t := 73) rfl
def rX9_nextOn_58 := W_aload0 (M := mX9_nextOn) dX9_nextOn_58 (q := 59) rfl
def rX9_nextOn_58b := W_aloadR0 (M := mX9_nextOn) dX9_nextOn_58 (q := 59) rfl
def rX9_nextOn_59 := W_getA (M := mX9_nextOn) dX9_nextOn_59 (q := 62) rfl fl9_30 ⟨_, rfl⟩
def rX9_nextOn_62 := W_iload3 (M := mX9_nextOn) dX9_nextOn_62 (q := 63) rfl
def rX9_nextOn_63 := W_iald (M := mX9_nextOn) dX9_nextOn_63 (q := 64) rfl
def rX9_nextOn_64 := W_aload0 (M := mX9_nextOn) dX9_nextOn_64 (q := 65) rfl
def rX9_nextOn_64b := W_aloadR0 (M := mX9_nextOn) dX9_nextOn_64 (q := 65) rfl
def rX9_nextOn_65 := W_getA (M := mX9_nextOn) dX9_nextOn_65 (q := 68) rfl fl9_30 ⟨_, rfl⟩
def rX9_nextOn_68 := W_iload2 (M := mX9_nextOn) dX9_nextOn_68 (q := 69) rfl
def rX9_nextOn_69 := W_iald (M := mX9_nextOn) dX9_nextOn_69 (q := 70) rfl
def rX9_nextOn_70 := W_icmp_ge (M := mX9_nextOn) dX9_nextOn_70 (q := 73) rfl (t := 75) rfl
def rX9_nextOn_73 := W_iload3 (M := mX9_nextOn) dX9_nextOn_73 (q := 74) rfl
def rX9_nextOn_74 := W_istore2 (M := mX9_nextOn) dX9_nextOn_74 (q := 75) rfl
def rX9_nextOn_75 := W_iinc3 (M := mX9_nextOn) dX9_nextOn_75 (q := 78) rfl (v := (1)) rfl
def rX9_nextOn_78 := W_goto (M := mX9_nextOn) dX9_nextOn_78 (t := 5) rfl
def rX9_nextOn_81 := W_iload2 (M := mX9_nextOn) dX9_nextOn_81 (q := 82) rfl
def rX9_nextOn_82 := W_iret (M := mX9_nextOn) dX9_nextOn_82 rfl
-- X9_odds
theorem eX9_odds {d : Nat} {h : qH} {Q : Option (Option Value) → qH → Prop} {s0 : Nat} {x1 : Int32} {x2 : Int32} {x3 : Int32} : WM d mX9_odds [.ref s0, .int x1, .int x2, .int x3] h Q = WP d mX9_odds (0, 0) 0 [some (.ref s0), some (.int x1), some (.int x2), some (.int x3), none] [] h Q := rfl
def rX9_odds_0 := W_aload0 (M := mX9_odds) dX9_odds_0 (q := 1) rfl
def rX9_odds_0b := W_aloadR0 (M := mX9_odds) dX9_odds_0 (q := 1) rfl
def rX9_odds_1 := W_iconst (M := mX9_odds) dX9_odds_1 (q := 2) rfl (v := (0)) rfl
def rX9_odds_2 := W_putI (M := mX9_odds) dX9_odds_2 (q := 5) rfl fl9_52 rfl (Or.inl rfl)
def rX9_odds_5 := W_aload0 (M := mX9_odds) dX9_odds_5 (q := 6) rfl
def rX9_odds_5b := W_aloadR0 (M := mX9_odds) dX9_odds_5 (q := 6) rfl
def rX9_odds_6 := W_aload0 (M := mX9_odds) dX9_odds_6 (q := 7) rfl
def rX9_odds_6b := W_aloadR0 (M := mX9_odds) dX9_odds_6 (q := 7) rfl
def rX9_odds_7 := W_iload1 (M := mX9_odds) dX9_odds_7 (q := 8) rfl
def rX9_odds_8 := W_invV1 (M := mX9_odds) dX9_odds_8 (q := 11) rfl ml0_9_345 rfl
def rX9_odds_11 := W_iload2 (M := mX9_odds) dX9_odds_11 (q := 12) rfl
def rX9_odds_12 := W_iconst (M := mX9_odds) dX9_odds_12 (q := 13) rfl (v := (0)) rfl
def rX9_odds_13 := W_invV3 (M := mX9_odds) dX9_odds_13 (q := 16) rfl ml0_9_354 rfl
def rX9_odds_16 := W_istore4 (M := mX9_odds) dX9_odds_16 (q := 18) rfl
def rX9_odds_18 := W_iload4 (M := mX9_odds) dX9_odds_18 (q := 20) rfl
def rX9_odds_20 := W_if_le (M := mX9_odds) dX9_odds_20 (q := 23) rfl (t := 31) rfl
def rX9_odds_23 := W_aload0 (M := mX9_odds) dX9_odds_23 (q := 24) rfl
def rX9_odds_23b := W_aloadR0 (M := mX9_odds) dX9_odds_23 (q := 24) rfl
def rX9_odds_24 := W_iload4 (M := mX9_odds) dX9_odds_24 (q := 26) rfl
def rX9_odds_26 := W_invV1 (M := mX9_odds) dX9_odds_26 (q := 29) rfl ml0_9_58 rfl
def rX9_odds_29 := W_i2l (M := mX9_odds) dX9_odds_29 (q := 30) rfl
def rX9_odds_30 := W_lret (M := mX9_odds) dX9_odds_30 rfl
def rX9_odds_31 := W_aload0 (M := mX9_odds) dX9_odds_31 (q := 32) rfl
def rX9_odds_31b := W_aloadR0 (M := mX9_odds) dX9_odds_31 (q := 32) rfl
def rX9_odds_32 := W_iload2 (M := mX9_odds) dX9_odds_32 (q := 33) rfl
def rX9_odds_33 := W_invV1 (M := mX9_odds) dX9_odds_33 (q := 36) rfl ml0_9_439 rfl
def rX9_odds_36 := W_aload0 (M := mX9_odds) dX9_odds_36 (q := 37) rfl
def rX9_odds_36b := W_aloadR0 (M := mX9_odds) dX9_odds_36 (q := 37) rfl
def rX9_odds_37 := W_aload0 (M := mX9_odds) dX9_odds_37 (q := 38) rfl
def rX9_odds_37b := W_aloadR0 (M := mX9_odds) dX9_odds_37 (q := 38) rfl
def rX9_odds_38 := W_getA (M := mX9_odds) dX9_odds_38 (q := 41) rfl fl9_45 ⟨_, rfl⟩
def rX9_odds_41 := W_iload1 (M := mX9_odds) dX9_odds_41 (q := 42) rfl
def rX9_odds_42 := W_lald (M := mX9_odds) dX9_odds_42 (q := 43) rfl
def rX9_odds_43 := W_aload0 (M := mX9_odds) dX9_odds_43 (q := 44) rfl
def rX9_odds_43b := W_aloadR0 (M := mX9_odds) dX9_odds_43 (q := 44) rfl
def rX9_odds_44 := W_getJ (M := mX9_odds) dX9_odds_44 (q := 47) rfl fl9_428 rfl
def rX9_odds_47 := W_iload3 (M := mX9_odds) dX9_odds_47 (q := 48) rfl
def rX9_odds_48 := W_invV3 (M := mX9_odds) dX9_odds_48 (q := 51) rfl ml0_9_442 rfl
def rX9_odds_51 := W_lret (M := mX9_odds) dX9_odds_51 rfl
-- X9_orNobody
theorem eX9_orNobody {d : Nat} {h : qH} {Q : Option (Option Value) → qH → Prop} {x1 : Int32} : WM d mX9_orNobody [.int x1] h Q = WP d mX9_orNobody (0, 0) 0 [some (.int x1)] [] h Q := rfl
def rX9_orNobody_0 := W_iload0 (M := mX9_orNobody) dX9_orNobody_0 (q := 1) rfl
def rX9_orNobody_1 := W_sipush (M := mX9_orNobody) dX9_orNobody_1 (q := 4) rfl (v := (9999)) rfl
def rX9_orNobody_4 := W_icmp_lt (M := mX9_orNobody) dX9_orNobody_4 (q := 7) rfl (t := 12) rfl
def rX9_orNobody_7 := W_bipush (M := mX9_orNobody) dX9_orNobody_7 (q := 9) rfl (v := (-2)) rfl
def rX9_orNobody_9 := W_goto (M := mX9_orNobody) dX9_orNobody_9 (t := 13) rfl
def rX9_orNobody_12 := W_iload0 (M := mX9_orNobody) dX9_orNobody_12 (q := 13) rfl
def rX9_orNobody_13 := W_iret (M := mX9_orNobody) dX9_orNobody_13 rfl
-- X9_packed
theorem eX9_packed {d : Nat} {h : qH} {Q : Option (Option Value) → qH → Prop} {x1 : Nat} : WM d mX9_packed [.retAddr x1] h Q = WP d mX9_packed (0, 0) 0 [some (.retAddr x1), none, none, none] [] h Q := rfl
def rX9_packed_0 := W_lconst (M := mX9_packed) dX9_packed_0 (q := 1) rfl (v := 0) rfl
def rX9_packed_1 := W_lstore1 (M := mX9_packed) dX9_packed_1 (q := 2) rfl
def rX9_packed_2 := W_iconst (M := mX9_packed) dX9_packed_2 (q := 3) rfl (v := (0)) rfl
def rX9_packed_3 := W_istore3 (M := mX9_packed) dX9_packed_3 (q := 4) rfl
def rX9_packed_4 := W_iload3 (M := mX9_packed) dX9_packed_4 (q := 5) rfl
def rX9_packed_5 := W_aload0 (M := mX9_packed) dX9_packed_5 (q := 6) rfl
def rX9_packed_5b := W_aloadR0 (M := mX9_packed) dX9_packed_5 (q := 6) rfl
def rX9_packed_6 := W_invT0 (M := mX9_packed) dX9_packed_6 (q := 9) rfl ml0_9_72 rfl rfl rfl rfl
def rX9_packed_9 := W_icmp_ge (M := mX9_packed) dX9_packed_9 (q := 12) rfl (t := 36) rfl
def rX9_packed_12 := W_ldc2_w (M := mX9_packed) dX9_packed_12 (q := 15) rfl cj9_78
def rX9_packed_15 := W_lload1 (M := mX9_packed) dX9_packed_15 (q := 16) rfl
def rX9_packed_16 := W_lmul (M := mX9_packed) dX9_packed_16 (q := 17) rfl
def rX9_packed_17 := W_aload0 (M := mX9_packed) dX9_packed_17 (q := 18) rfl
def rX9_packed_17b := W_aloadR0 (M := mX9_packed) dX9_packed_17 (q := 18) rfl
def rX9_packed_18 := W_iload3 (M := mX9_packed) dX9_packed_18 (q := 19) rfl
def rX9_packed_19 := W_invT1 (M := mX9_packed) dX9_packed_19 (q := 22) rfl ml0_9_80 rfl rfl rfl rfl
def rX9_packed_22 := W_bipush (M := mX9_packed) dX9_packed_22 (q := 24) rfl (v := (97)) rfl
def rX9_packed_24 := W_isub (M := mX9_packed) dX9_packed_24 (q := 25) rfl
def rX9_packed_25 := W_iconst (M := mX9_packed) dX9_packed_25 (q := 26) rfl (v := (1)) rfl
def rX9_packed_26 := W_iadd (M := mX9_packed) dX9_packed_26 (q := 27) rfl
def rX9_packed_27 := W_i2l (M := mX9_packed) dX9_packed_27 (q := 28) rfl
def rX9_packed_28 := W_ladd (M := mX9_packed) dX9_packed_28 (q := 29) rfl
def rX9_packed_29 := W_lstore1 (M := mX9_packed) dX9_packed_29 (q := 30) rfl
def rX9_packed_30 := W_iinc3 (M := mX9_packed) dX9_packed_30 (q := 33) rfl (v := (1)) rfl
def rX9_packed_33 := W_goto (M := mX9_packed) dX9_packed_33 (t := 4) rfl
def rX9_packed_36 := W_lload1 (M := mX9_packed) dX9_packed_36 (q := 37) rfl
def rX9_packed_37 := W_lret (M := mX9_packed) dX9_packed_37 rfl
-- X9_pull
theorem eX9_pull {d : Nat} {h : qH} {Q : Option (Option Value) → qH → Prop} {s0 : Nat} {x1 : Int32} : WM d mX9_pull [.ref s0, .int x1] h Q = WP d mX9_pull (0, 0) 0 [some (.ref s0), some (.int x1)] [] h Q := rfl
def rX9_pull_0 := W_aload0 (M := mX9_pull) dX9_pull_0 (q := 1) rfl
def rX9_pull_0b := W_aloadR0 (M := mX9_pull) dX9_pull_0 (q := 1) rfl
def rX9_pull_1 := W_iconst (M := mX9_pull) dX9_pull_1 (q := 2) rfl (v := (0)) rfl
def rX9_pull_2 := W_putI (M := mX9_pull) dX9_pull_2 (q := 5) rfl fl9_52 rfl (Or.inl rfl)
def rX9_pull_5 := W_aload0 (M := mX9_pull) dX9_pull_5 (q := 6) rfl
def rX9_pull_5b := W_aloadR0 (M := mX9_pull) dX9_pull_5 (q := 6) rfl
def rX9_pull_6 := W_iload1 (M := mX9_pull) dX9_pull_6 (q := 7) rfl
def rX9_pull_7 := W_iconst (M := mX9_pull) dX9_pull_7 (q := 8) rfl (v := (1)) rfl
def rX9_pull_8 := W_invV2 (M := mX9_pull) dX9_pull_8 (q := 11) rfl ml0_9_471 rfl
def rX9_pull_11 := W_zret (M := mX9_pull) dX9_pull_11 rfl
-- X9_quiet
theorem eX9_quiet {d : Nat} {h : qH} {Q : Option (Option Value) → qH → Prop} {s0 : Nat} {x1 : Int32} {x2 : Int32} : WM d mX9_quiet [.ref s0, .int x1, .int x2] h Q = WP d mX9_quiet (0, 0) 0 [some (.ref s0), some (.int x1), some (.int x2), none] [] h Q := rfl
def rX9_quiet_0 := W_aload0 (M := mX9_quiet) dX9_quiet_0 (q := 1) rfl
def rX9_quiet_0b := W_aloadR0 (M := mX9_quiet) dX9_quiet_0 (q := 1) rfl
def rX9_quiet_1 := W_iconst (M := mX9_quiet) dX9_quiet_1 (q := 2) rfl (v := (0)) rfl
def rX9_quiet_2 := W_putI (M := mX9_quiet) dX9_quiet_2 (q := 5) rfl fl9_52 rfl (Or.inl rfl)
def rX9_quiet_5 := W_aload0 (M := mX9_quiet) dX9_quiet_5 (q := 6) rfl
def rX9_quiet_5b := W_aloadR0 (M := mX9_quiet) dX9_quiet_5 (q := 6) rfl
def rX9_quiet_6 := W_aload0 (M := mX9_quiet) dX9_quiet_6 (q := 7) rfl
def rX9_quiet_6b := W_aloadR0 (M := mX9_quiet) dX9_quiet_6 (q := 7) rfl
def rX9_quiet_7 := W_getR (M := mX9_quiet) dX9_quiet_7 (q := 10) rfl fl9_316 ⟨_, rfl⟩
def rX9_quiet_10 := W_ifnull (M := mX9_quiet) dX9_quiet_10 (q := 13) rfl (t := 17) rfl
def rX9_quiet_10b := W_ifnullN (M := mX9_quiet) dX9_quiet_10 (q := 13) rfl (t := 17) rfl
def rX9_quiet_13 := W_iconst (M := mX9_quiet) dX9_quiet_13 (q := 14) rfl (v := (1)) rfl
def rX9_quiet_14 := W_goto (M := mX9_quiet) dX9_quiet_14 (t := 18) rfl
def rX9_quiet_17 := W_iconst (M := mX9_quiet) dX9_quiet_17 (q := 18) rfl (v := (0)) rfl
def rX9_quiet_18 := W_iload1 (M := mX9_quiet) dX9_quiet_18 (q := 19) rfl
def rX9_quiet_19 := W_iconst (M := mX9_quiet) dX9_quiet_19 (q := 20) rfl (v := (0)) rfl
def rX9_quiet_20 := W_invV3 (M := mX9_quiet) dX9_quiet_20 (q := 23) rfl ml0_9_354 rfl
def rX9_quiet_23 := W_istore3 (M := mX9_quiet) dX9_quiet_23 (q := 24) rfl
def rX9_quiet_24 := W_iload3 (M := mX9_quiet) dX9_quiet_24 (q := 25) rfl
def rX9_quiet_25 := W_if_le (M := mX9_quiet) dX9_quiet_25 (q := 28) rfl (t := 35) rfl
def rX9_quiet_28 := W_aload0 (M := mX9_quiet) dX9_quiet_28 (q := 29) rfl
def rX9_quiet_28b := W_aloadR0 (M := mX9_quiet) dX9_quiet_28 (q := 29) rfl
def rX9_quiet_29 := W_iload3 (M := mX9_quiet) dX9_quiet_29 (q := 30) rfl
def rX9_quiet_30 := W_invV1 (M := mX9_quiet) dX9_quiet_30 (q := 33) rfl ml0_9_58 rfl
def rX9_quiet_33 := W_i2l (M := mX9_quiet) dX9_quiet_33 (q := 34) rfl
def rX9_quiet_34 := W_lret (M := mX9_quiet) dX9_quiet_34 rfl
def rX9_quiet_35 := W_aload0 (M := mX9_quiet) dX9_quiet_35 (q := 36) rfl
def rX9_quiet_35b := W_aloadR0 (M := mX9_quiet) dX9_quiet_35 (q := 36) rfl
def rX9_quiet_36 := W_iload1 (M := mX9_quiet) dX9_quiet_36 (q := 37) rfl
def rX9_quiet_37 := W_invV1 (M := mX9_quiet) dX9_quiet_37 (q := 40) rfl ml0_9_439 rfl
def rX9_quiet_40 := W_aload0 (M := mX9_quiet) dX9_quiet_40 (q := 41) rfl
def rX9_quiet_40b := W_aloadR0 (M := mX9_quiet) dX9_quiet_40 (q := 41) rfl
def rX9_quiet_41 := W_aload0 (M := mX9_quiet) dX9_quiet_41 (q := 42) rfl
def rX9_quiet_41b := W_aloadR0 (M := mX9_quiet) dX9_quiet_41 (q := 42) rfl
def rX9_quiet_42 := W_getJ (M := mX9_quiet) dX9_quiet_42 (q := 45) rfl fl9_431 rfl
def rX9_quiet_45 := W_aload0 (M := mX9_quiet) dX9_quiet_45 (q := 46) rfl
def rX9_quiet_45b := W_aloadR0 (M := mX9_quiet) dX9_quiet_45 (q := 46) rfl
def rX9_quiet_46 := W_getJ (M := mX9_quiet) dX9_quiet_46 (q := 49) rfl fl9_428 rfl
def rX9_quiet_49 := W_iload2 (M := mX9_quiet) dX9_quiet_49 (q := 50) rfl
def rX9_quiet_50 := W_invV3 (M := mX9_quiet) dX9_quiet_50 (q := 53) rfl ml0_9_442 rfl
def rX9_quiet_53 := W_lret (M := mX9_quiet) dX9_quiet_53 rfl
-- X9_readAll
theorem eX9_readAll {d : Nat} {h : qH} {Q : Option (Option Value) → qH → Prop} {s0 : Nat} : WM d mX9_readAll [.ref s0] h Q = WP d mX9_readAll (0, 0) 0 [some (.ref s0), none] [] h Q := rfl
def rX9_readAll_0 := W_iconst (M := mX9_readAll) dX9_readAll_0 (q := 1) rfl (v := (1)) rfl
def rX9_readAll_1 := W_istore1 (M := mX9_readAll) dX9_readAll_1 (q := 2) rfl
def rX9_readAll_2 := W_iload1 (M := mX9_readAll) dX9_readAll_2 (q := 3) rfl
def rX9_readAll_3 := W_if_eq (M := mX9_readAll) dX9_readAll_3 (q := 6) rfl (t := 18) rfl
def rX9_readAll_6 := W_aload0 (M := mX9_readAll) dX9_readAll_6 (q := 7) rfl
def rX9_readAll_6b := W_aloadR0 (M := mX9_readAll) dX9_readAll_6 (q := 7) rfl
def rX9_readAll_7 := W_invV0 (M := mX9_readAll) dX9_readAll_7 (q := 10) rfl ml0_9_181 rfl
def rX9_readAll_10 := W_aload0 (M := mX9_readAll) dX9_readAll_10 (q := 11) rfl
def rX9_readAll_10b := W_aloadR0 (M := mX9_readAll) dX9_readAll_10 (q := 11) rfl
def rX9_readAll_11 := W_invV0 (M := mX9_readAll) dX9_readAll_11 (q := 14) rfl ml0_9_184 rfl
def rX9_readAll_14 := W_istore1 (M := mX9_readAll) dX9_readAll_14 (q := 15) rfl
def rX9_readAll_15 := W_goto (M := mX9_readAll) dX9_readAll_15 (t := 2) rfl
def rX9_readAll_18 := W_aload0 (M := mX9_readAll) dX9_readAll_18 (q := 19) rfl
def rX9_readAll_18b := W_aloadR0 (M := mX9_readAll) dX9_readAll_18 (q := 19) rfl
def rX9_readAll_19 := W_getI (M := mX9_readAll) dX9_readAll_19 (q := 22) rfl fl9_84 (Or.inl rfl)
def rX9_readAll_22 := W_iconst (M := mX9_readAll) dX9_readAll_22 (q := 23) rfl (v := (1)) rfl
def rX9_readAll_23 := W_icmp_eq (M := mX9_readAll) dX9_readAll_23 (q := 26) rfl (t := 31) rfl
def rX9_readAll_26 := W_aload0 (M := mX9_readAll) dX9_readAll_26 (q := 27) rfl
def rX9_readAll_26b := W_aloadR0 (M := mX9_readAll) dX9_readAll_26 (q := 27) rfl
def rX9_readAll_27 := W_iconst (M := mX9_readAll) dX9_readAll_27 (q := 28) rfl (v := (1)) rfl
def rX9_readAll_28 := W_invV1 (M := mX9_readAll) dX9_readAll_28 (q := 31) rfl ml0_9_127 rfl
def rX9_readAll_31 := W_aload0 (M := mX9_readAll) dX9_readAll_31 (q := 32) rfl
def rX9_readAll_31b := W_aloadR0 (M := mX9_readAll) dX9_readAll_31 (q := 32) rfl
def rX9_readAll_32 := W_getR (M := mX9_readAll) dX9_readAll_32 (q := 35) rfl fl9_161 ⟨_, rfl⟩
def rX9_readAll_35 := W_getI (M := mX9_readAll) dX9_readAll_35 (q := 38) rfl fl9_187 (Or.inl rfl)
def rX9_readAll_38 := W_if_ne (M := mX9_readAll) dX9_readAll_38 (q := 41) rfl (t := 47) rfl
def rX9_readAll_41 := W_aload0 (M := mX9_readAll) dX9_readAll_41 (q := 42) rfl
def rX9_readAll_41b := W_aloadR0 (M := mX9_readAll) dX9_readAll_41 (q := 42) rfl
def rX9_readAll_42 := W_bipush (M := mX9_readAll) dX9_readAll_42 (q := 44) rfl (v := (6)) rfl
def rX9_readAll_44 := W_invV1 (M := mX9_readAll) dX9_readAll_44 (q := 47) rfl ml0_9_127 rfl
def rX9_readAll_47 := W_vret (M := mX9_readAll) dX9_readAll_47 rfl
-- X9_readDoes
theorem eX9_readDoes {d : Nat} {h : qH} {Q : Option (Option Value) → qH → Prop} {s0 : Nat} : WM d mX9_readDoes [.ref s0] h Q = WP d mX9_readDoes (0, 0) 0 [some (.ref s0), none, none] [] h Q := rfl
def rX9_readDoes_0 := W_aload0 (M := mX9_readDoes) dX9_readDoes_0 (q := 1) rfl
def rX9_readDoes_0b := W_aloadR0 (M := mX9_readDoes) dX9_readDoes_0 (q := 1) rfl
def rX9_readDoes_1 := W_iconst (M := mX9_readDoes) dX9_readDoes_1 (q := 2) rfl (v := (0)) rfl
def rX9_readDoes_2 := W_iconst (M := mX9_readDoes) dX9_readDoes_2 (q := 3) rfl (v := (1)) rfl
def rX9_readDoes_3 := W_invV2 (M := mX9_readDoes) dX9_readDoes_3 (q := 6) rfl ml0_9_219 rfl
def rX9_readDoes_6 := W_aload0 (M := mX9_readDoes) dX9_readDoes_6 (q := 7) rfl
def rX9_readDoes_6b := W_aloadR0 (M := mX9_readDoes) dX9_readDoes_6 (q := 7) rfl
def rX9_readDoes_7 := W_invV0 (M := mX9_readDoes) dX9_readDoes_7 (q := 10) rfl ml0_9_178 rfl
def rX9_readDoes_10 := W_istore1 (M := mX9_readDoes) dX9_readDoes_10 (q := 11) rfl
def rX9_readDoes_11 := W_aload0 (M := mX9_readDoes) dX9_readDoes_11 (q := 12) rfl
def rX9_readDoes_11b := W_aloadR0 (M := mX9_readDoes) dX9_readDoes_11 (q := 12) rfl
def rX9_readDoes_12 := W_getI (M := mX9_readDoes) dX9_readDoes_12 (q := 15) rfl fl9_84 (Or.inl rfl)
def rX9_readDoes_15 := W_iconst (M := mX9_readDoes) dX9_readDoes_15 (q := 16) rfl (v := (5)) rfl
def rX9_readDoes_16 := W_icmp_eq (M := mX9_readDoes) dX9_readDoes_16 (q := 19) rfl (t := 36) rfl
def rX9_readDoes_19 := W_aload0 (M := mX9_readDoes) dX9_readDoes_19 (q := 20) rfl
def rX9_readDoes_19b := W_aloadR0 (M := mX9_readDoes) dX9_readDoes_19 (q := 20) rfl
def rX9_readDoes_20 := W_getR (M := mX9_readDoes) dX9_readDoes_20 (q := 23) rfl fl9_161 ⟨_, rfl⟩
def rX9_readDoes_23 := W_getA (M := mX9_readDoes) dX9_readDoes_23 (q := 26) rfl fl9_268 ⟨_, rfl⟩
def rX9_readDoes_26 := W_iload1 (M := mX9_readDoes) dX9_readDoes_26 (q := 27) rfl
def rX9_readDoes_27 := W_iald (M := mX9_readDoes) dX9_readDoes_27 (q := 28) rfl
def rX9_readDoes_28 := W_if_le (M := mX9_readDoes) dX9_readDoes_28 (q := 31) rfl (t := 36) rfl
def rX9_readDoes_31 := W_aload0 (M := mX9_readDoes) dX9_readDoes_31 (q := 32) rfl
def rX9_readDoes_31b := W_aloadR0 (M := mX9_readDoes) dX9_readDoes_31 (q := 32) rfl
def rX9_readDoes_32 := W_iconst (M := mX9_readDoes) dX9_readDoes_32 (q := 33) rfl (v := (3)) rfl
def rX9_readDoes_33 := W_invV1 (M := mX9_readDoes) dX9_readDoes_33 (q := 36) rfl ml0_9_127 rfl
def rX9_readDoes_36 := W_aload0 (M := mX9_readDoes) dX9_readDoes_36 (q := 37) rfl
def rX9_readDoes_36b := W_aloadR0 (M := mX9_readDoes) dX9_readDoes_36 (q := 37) rfl
def rX9_readDoes_37 := W_invV0 (M := mX9_readDoes) dX9_readDoes_37 (q := 40) rfl ml0_9_120 rfl
def rX9_readDoes_40 := W_aload0 (M := mX9_readDoes) dX9_readDoes_40 (q := 41) rfl
def rX9_readDoes_40b := W_aloadR0 (M := mX9_readDoes) dX9_readDoes_40 (q := 41) rfl
def rX9_readDoes_41 := W_ldc_w (M := mX9_readDoes) dX9_readDoes_41 (q := 44) rfl cs9_270
def rX9_readDoes_44 := W_invV1 (M := mX9_readDoes) dX9_readDoes_44 (q := 47) rfl ml0_9_123 rfl
def rX9_readDoes_47 := W_if_eq (M := mX9_readDoes) dX9_readDoes_47 (q := 50) rfl (t := 54) rfl
def rX9_readDoes_50 := W_iconst (M := mX9_readDoes) dX9_readDoes_50 (q := 51) rfl (v := (1)) rfl
def rX9_readDoes_51 := W_goto (M := mX9_readDoes) dX9_readDoes_51 (t := 83) rfl
def rX9_readDoes_54 := W_aload0 (M := mX9_readDoes) dX9_readDoes_54 (q := 55) rfl
def rX9_readDoes_54b := W_aloadR0 (M := mX9_readDoes) dX9_readDoes_54 (q := 55) rfl
def rX9_readDoes_55 := W_ldc_w (M := mX9_readDoes) dX9_readDoes_55 (q := 58) rfl cs9_272
def rX9_readDoes_58 := W_invV1 (M := mX9_readDoes) dX9_readDoes_58 (q := 61) rfl ml0_9_123 rfl
def rX9_readDoes_61 := W_if_eq (M := mX9_readDoes) dX9_readDoes_61 (q := 64) rfl (t := 68) rfl
def rX9_readDoes_64 := W_iconst (M := mX9_readDoes) dX9_readDoes_64 (q := 65) rfl (v := (2)) rfl
def rX9_readDoes_65 := W_goto (M := mX9_readDoes) dX9_readDoes_65 (t := 83) rfl
def rX9_readDoes_68 := W_aload0 (M := mX9_readDoes) dX9_readDoes_68 (q := 69) rfl
def rX9_readDoes_68b := W_aloadR0 (M := mX9_readDoes) dX9_readDoes_68 (q := 69) rfl
def rX9_readDoes_69 := W_ldc_w (M := mX9_readDoes) dX9_readDoes_69 (q := 72) rfl cs9_274
def rX9_readDoes_72 := W_invV1 (M := mX9_readDoes) dX9_readDoes_72 (q := 75) rfl ml0_9_123 rfl
def rX9_readDoes_75 := W_if_eq (M := mX9_readDoes) dX9_readDoes_75 (q := 78) rfl (t := 82) rfl
def rX9_readDoes_78 := W_iconst (M := mX9_readDoes) dX9_readDoes_78 (q := 79) rfl (v := (3)) rfl
def rX9_readDoes_79 := W_goto (M := mX9_readDoes) dX9_readDoes_79 (t := 83) rfl
def rX9_readDoes_82 := W_iconst (M := mX9_readDoes) dX9_readDoes_82 (q := 83) rfl (v := (-1)) rfl
def rX9_readDoes_83 := W_istore2 (M := mX9_readDoes) dX9_readDoes_83 (q := 84) rfl
def rX9_readDoes_84 := W_iload2 (M := mX9_readDoes) dX9_readDoes_84 (q := 85) rfl
def rX9_readDoes_85 := W_iconst (M := mX9_readDoes) dX9_readDoes_85 (q := 86) rfl (v := (-1)) rfl
def rX9_readDoes_86 := W_icmp_ne (M := mX9_readDoes) dX9_readDoes_86 (q := 89) rfl (t := 94) rfl
def rX9_readDoes_89 := W_aload0 (M := mX9_readDoes) dX9_readDoes_89 (q := 90) rfl
def rX9_readDoes_89b := W_aloadR0 (M := mX9_readDoes) dX9_readDoes_89 (q := 90) rfl
def rX9_readDoes_90 := W_iconst (M := mX9_readDoes) dX9_readDoes_90 (q := 91) rfl (v := (1)) rfl
def rX9_readDoes_91 := W_invV1 (M := mX9_readDoes) dX9_readDoes_91 (q := 94) rfl ml0_9_127 rfl
def rX9_readDoes_94 := W_aload0 (M := mX9_readDoes) dX9_readDoes_94 (q := 95) rfl
def rX9_readDoes_94b := W_aloadR0 (M := mX9_readDoes) dX9_readDoes_94 (q := 95) rfl
def rX9_readDoes_95 := W_invV0 (M := mX9_readDoes) dX9_readDoes_95 (q := 98) rfl ml0_9_120 rfl
def rX9_readDoes_98 := W_aload0 (M := mX9_readDoes) dX9_readDoes_98 (q := 99) rfl
def rX9_readDoes_98b := W_aloadR0 (M := mX9_readDoes) dX9_readDoes_98 (q := 99) rfl
def rX9_readDoes_99 := W_getI (M := mX9_readDoes) dX9_readDoes_99 (q := 102) rfl fl9_84 (Or.inl rfl)
def rX9_readDoes_102 := W_iconst (M := mX9_readDoes) dX9_readDoes_102 (q := 103) rfl (v := (5)) rfl
def rX9_readDoes_103 := W_icmp_ne (M := mX9_readDoes) dX9_readDoes_103 (q := 106) rfl (t := 107) rfl
def rX9_readDoes_106 := W_vret (M := mX9_readDoes) dX9_readDoes_106 rfl
def rX9_readDoes_107 := W_aload0 (M := mX9_readDoes) dX9_readDoes_107 (q := 108) rfl
def rX9_readDoes_107b := W_aloadR0 (M := mX9_readDoes) dX9_readDoes_107 (q := 108) rfl
def rX9_readDoes_108 := W_getR (M := mX9_readDoes) dX9_readDoes_108 (q := 111) rfl fl9_161 ⟨_, rfl⟩
def rX9_readDoes_111 := W_getA (M := mX9_readDoes) dX9_readDoes_111 (q := 114) rfl fl9_268 ⟨_, rfl⟩
def rX9_readDoes_114 := W_iload1 (M := mX9_readDoes) dX9_readDoes_114 (q := 115) rfl
def rX9_readDoes_115 := W_iload2 (M := mX9_readDoes) dX9_readDoes_115 (q := 116) rfl
def rX9_readDoes_116 := W_iast (M := mX9_readDoes) dX9_readDoes_116 (q := 117) rfl
def rX9_readDoes_117 := W_aload0 (M := mX9_readDoes) dX9_readDoes_117 (q := 118) rfl
def rX9_readDoes_117b := W_aloadR0 (M := mX9_readDoes) dX9_readDoes_117 (q := 118) rfl
def rX9_readDoes_118 := W_getR (M := mX9_readDoes) dX9_readDoes_118 (q := 121) rfl fl9_161 ⟨_, rfl⟩
def rX9_readDoes_121 := W_dupI (M := mX9_readDoes) dX9_readDoes_121 (q := 122) rfl
def rX9_readDoes_121b := W_dupR (M := mX9_readDoes) dX9_readDoes_121 (q := 122) rfl
def rX9_readDoes_122 := W_getI (M := mX9_readDoes) dX9_readDoes_122 (q := 125) rfl fl9_276 (Or.inl rfl)
def rX9_readDoes_125 := W_iconst (M := mX9_readDoes) dX9_readDoes_125 (q := 126) rfl (v := (1)) rfl
def rX9_readDoes_126 := W_iadd (M := mX9_readDoes) dX9_readDoes_126 (q := 127) rfl
def rX9_readDoes_127 := W_putI (M := mX9_readDoes) dX9_readDoes_127 (q := 130) rfl fl9_276 rfl (Or.inl rfl)
def rX9_readDoes_130 := W_vret (M := mX9_readDoes) dX9_readDoes_130 rfl
-- X9_readGlass
theorem eX9_readGlass {d : Nat} {h : qH} {Q : Option (Option Value) → qH → Prop} {s0 : Nat} : WM d mX9_readGlass [.ref s0] h Q = WP d mX9_readGlass (0, 0) 0 [some (.ref s0), none] [] h Q := rfl
def rX9_readGlass_0 := W_aload0 (M := mX9_readGlass) dX9_readGlass_0 (q := 1) rfl
def rX9_readGlass_0b := W_aloadR0 (M := mX9_readGlass) dX9_readGlass_0 (q := 1) rfl
def rX9_readGlass_1 := W_aload0 (M := mX9_readGlass) dX9_readGlass_1 (q := 2) rfl
def rX9_readGlass_1b := W_aloadR0 (M := mX9_readGlass) dX9_readGlass_1 (q := 2) rfl
def rX9_readGlass_2 := W_getR (M := mX9_readGlass) dX9_readGlass_2 (q := 5) rfl fl9_161 ⟨_, rfl⟩
def rX9_readGlass_5 := W_getI (M := mX9_readGlass) dX9_readGlass_5 (q := 8) rfl fl9_287 (Or.inl rfl)
def rX9_readGlass_8 := W_iconst (M := mX9_readGlass) dX9_readGlass_8 (q := 9) rfl (v := (4)) rfl
def rX9_readGlass_9 := W_invV2 (M := mX9_readGlass) dX9_readGlass_9 (q := 12) rfl ml0_9_219 rfl
def rX9_readGlass_12 := W_aload0 (M := mX9_readGlass) dX9_readGlass_12 (q := 13) rfl
def rX9_readGlass_12b := W_aloadR0 (M := mX9_readGlass) dX9_readGlass_12 (q := 13) rfl
def rX9_readGlass_13 := W_ldc (M := mX9_readGlass) dX9_readGlass_13 (q := 15) rfl cs9_233
def rX9_readGlass_15 := W_invV1 (M := mX9_readGlass) dX9_readGlass_15 (q := 18) rfl ml0_9_135 rfl
def rX9_readGlass_18 := W_aload0 (M := mX9_readGlass) dX9_readGlass_18 (q := 19) rfl
def rX9_readGlass_18b := W_aloadR0 (M := mX9_readGlass) dX9_readGlass_18 (q := 19) rfl
def rX9_readGlass_19 := W_aload0 (M := mX9_readGlass) dX9_readGlass_19 (q := 20) rfl
def rX9_readGlass_19b := W_aloadR0 (M := mX9_readGlass) dX9_readGlass_19 (q := 20) rfl
def rX9_readGlass_20 := W_getR (M := mX9_readGlass) dX9_readGlass_20 (q := 23) rfl fl9_161 ⟨_, rfl⟩
def rX9_readGlass_23 := W_getI (M := mX9_readGlass) dX9_readGlass_23 (q := 26) rfl fl9_287 (Or.inl rfl)
def rX9_readGlass_26 := W_if_ne (M := mX9_readGlass) dX9_readGlass_26 (q := 29) rfl (t := 33) rfl
def rX9_readGlass_29 := W_iconst (M := mX9_readGlass) dX9_readGlass_29 (q := 30) rfl (v := (0)) rfl
def rX9_readGlass_30 := W_goto (M := mX9_readGlass) dX9_readGlass_30 (t := 52) rfl
def rX9_readGlass_33 := W_aload0 (M := mX9_readGlass) dX9_readGlass_33 (q := 34) rfl
def rX9_readGlass_33b := W_aloadR0 (M := mX9_readGlass) dX9_readGlass_33 (q := 34) rfl
def rX9_readGlass_34 := W_getR (M := mX9_readGlass) dX9_readGlass_34 (q := 37) rfl fl9_161 ⟨_, rfl⟩
def rX9_readGlass_37 := W_getA (M := mX9_readGlass) dX9_readGlass_37 (q := 40) rfl fl9_290 ⟨_, rfl⟩
def rX9_readGlass_40 := W_aload0 (M := mX9_readGlass) dX9_readGlass_40 (q := 41) rfl
def rX9_readGlass_40b := W_aloadR0 (M := mX9_readGlass) dX9_readGlass_40 (q := 41) rfl
def rX9_readGlass_41 := W_getR (M := mX9_readGlass) dX9_readGlass_41 (q := 44) rfl fl9_161 ⟨_, rfl⟩
def rX9_readGlass_44 := W_getI (M := mX9_readGlass) dX9_readGlass_44 (q := 47) rfl fl9_287 (Or.inl rfl)
def rX9_readGlass_47 := W_iconst (M := mX9_readGlass) dX9_readGlass_47 (q := 48) rfl (v := (1)) rfl
def rX9_readGlass_48 := W_isub (M := mX9_readGlass) dX9_readGlass_48 (q := 49) rfl
def rX9_readGlass_49 := W_iald (M := mX9_readGlass) dX9_readGlass_49 (q := 50) rfl
def rX9_readGlass_50 := W_iconst (M := mX9_readGlass) dX9_readGlass_50 (q := 51) rfl (v := (1)) rfl
def rX9_readGlass_51 := W_iadd (M := mX9_readGlass) dX9_readGlass_51 (q := 52) rfl
def rX9_readGlass_52 := W_bipush (M := mX9_readGlass) dX9_readGlass_52 (q := 54) rfl (v := (30)) rfl
def rX9_readGlass_54 := W_invV2 (M := mX9_readGlass) dX9_readGlass_54 (q := 57) rfl ml0_9_139 rfl
def rX9_readGlass_57 := W_istore1 (M := mX9_readGlass) dX9_readGlass_57 (q := 58) rfl
def rX9_readGlass_58 := W_aload0 (M := mX9_readGlass) dX9_readGlass_58 (q := 59) rfl
def rX9_readGlass_58b := W_aloadR0 (M := mX9_readGlass) dX9_readGlass_58 (q := 59) rfl
def rX9_readGlass_59 := W_getI (M := mX9_readGlass) dX9_readGlass_59 (q := 62) rfl fl9_84 (Or.inl rfl)
def rX9_readGlass_62 := W_iconst (M := mX9_readGlass) dX9_readGlass_62 (q := 63) rfl (v := (5)) rfl
def rX9_readGlass_63 := W_icmp_ne (M := mX9_readGlass) dX9_readGlass_63 (q := 66) rfl (t := 67) rfl
def rX9_readGlass_66 := W_vret (M := mX9_readGlass) dX9_readGlass_66 rfl
def rX9_readGlass_67 := W_aload0 (M := mX9_readGlass) dX9_readGlass_67 (q := 68) rfl
def rX9_readGlass_67b := W_aloadR0 (M := mX9_readGlass) dX9_readGlass_67 (q := 68) rfl
def rX9_readGlass_68 := W_getR (M := mX9_readGlass) dX9_readGlass_68 (q := 71) rfl fl9_161 ⟨_, rfl⟩
def rX9_readGlass_71 := W_getA (M := mX9_readGlass) dX9_readGlass_71 (q := 74) rfl fl9_290 ⟨_, rfl⟩
def rX9_readGlass_74 := W_aload0 (M := mX9_readGlass) dX9_readGlass_74 (q := 75) rfl
def rX9_readGlass_74b := W_aloadR0 (M := mX9_readGlass) dX9_readGlass_74 (q := 75) rfl
def rX9_readGlass_75 := W_getR (M := mX9_readGlass) dX9_readGlass_75 (q := 78) rfl fl9_161 ⟨_, rfl⟩
def rX9_readGlass_78 := W_getI (M := mX9_readGlass) dX9_readGlass_78 (q := 81) rfl fl9_287 (Or.inl rfl)
def rX9_readGlass_81 := W_iload1 (M := mX9_readGlass) dX9_readGlass_81 (q := 82) rfl
def rX9_readGlass_82 := W_iast (M := mX9_readGlass) dX9_readGlass_82 (q := 83) rfl
def rX9_readGlass_83 := W_aload0 (M := mX9_readGlass) dX9_readGlass_83 (q := 84) rfl
def rX9_readGlass_83b := W_aloadR0 (M := mX9_readGlass) dX9_readGlass_83 (q := 84) rfl
def rX9_readGlass_84 := W_getR (M := mX9_readGlass) dX9_readGlass_84 (q := 87) rfl fl9_161 ⟨_, rfl⟩
def rX9_readGlass_87 := W_dupI (M := mX9_readGlass) dX9_readGlass_87 (q := 88) rfl
def rX9_readGlass_87b := W_dupR (M := mX9_readGlass) dX9_readGlass_87 (q := 88) rfl
def rX9_readGlass_88 := W_getI (M := mX9_readGlass) dX9_readGlass_88 (q := 91) rfl fl9_287 (Or.inl rfl)
def rX9_readGlass_91 := W_iconst (M := mX9_readGlass) dX9_readGlass_91 (q := 92) rfl (v := (1)) rfl
def rX9_readGlass_92 := W_iadd (M := mX9_readGlass) dX9_readGlass_92 (q := 93) rfl
def rX9_readGlass_93 := W_putI (M := mX9_readGlass) dX9_readGlass_93 (q := 96) rfl fl9_287 rfl (Or.inl rfl)
def rX9_readGlass_96 := W_vret (M := mX9_readGlass) dX9_readGlass_96 rfl
-- X9_readHouse
theorem eX9_readHouse {d : Nat} {h : qH} {Q : Option (Option Value) → qH → Prop} {s0 : Nat} : WM d mX9_readHouse [.ref s0] h Q = WP d mX9_readHouse (0, 0) 0 [some (.ref s0), none, none, none, none, none, none, none] [] h Q := rfl
def rX9_readHouse_0 := W_aload0 (M := mX9_readHouse) dX9_readHouse_0 (q := 1) rfl
def rX9_readHouse_0b := W_aloadR0 (M := mX9_readHouse) dX9_readHouse_0 (q := 1) rfl
def rX9_readHouse_1 := W_aload0 (M := mX9_readHouse) dX9_readHouse_1 (q := 2) rfl
def rX9_readHouse_1b := W_aloadR0 (M := mX9_readHouse) dX9_readHouse_1 (q := 2) rfl
def rX9_readHouse_2 := W_getR (M := mX9_readHouse) dX9_readHouse_2 (q := 5) rfl fl9_161 ⟨_, rfl⟩
def rX9_readHouse_5 := W_getI (M := mX9_readHouse) dX9_readHouse_5 (q := 8) rfl fl9_187 (Or.inl rfl)
def rX9_readHouse_8 := W_bipush (M := mX9_readHouse) dX9_readHouse_8 (q := 10) rfl (v := (6)) rfl
def rX9_readHouse_10 := W_invV2 (M := mX9_readHouse) dX9_readHouse_10 (q := 13) rfl ml0_9_219 rfl
def rX9_readHouse_13 := W_aload0 (M := mX9_readHouse) dX9_readHouse_13 (q := 14) rfl
def rX9_readHouse_13b := W_aloadR0 (M := mX9_readHouse) dX9_readHouse_13 (q := 14) rfl
def rX9_readHouse_14 := W_invV0 (M := mX9_readHouse) dX9_readHouse_14 (q := 17) rfl ml0_9_170 rfl
def rX9_readHouse_17 := W_if_ne (M := mX9_readHouse) dX9_readHouse_17 (q := 20) rfl (t := 25) rfl
def rX9_readHouse_20 := W_aload0 (M := mX9_readHouse) dX9_readHouse_20 (q := 21) rfl
def rX9_readHouse_20b := W_aloadR0 (M := mX9_readHouse) dX9_readHouse_20 (q := 21) rfl
def rX9_readHouse_21 := W_iconst (M := mX9_readHouse) dX9_readHouse_21 (q := 22) rfl (v := (1)) rfl
def rX9_readHouse_22 := W_invV1 (M := mX9_readHouse) dX9_readHouse_22 (q := 25) rfl ml0_9_127 rfl
def rX9_readHouse_25 := W_aload0 (M := mX9_readHouse) dX9_readHouse_25 (q := 26) rfl
def rX9_readHouse_25b := W_aloadR0 (M := mX9_readHouse) dX9_readHouse_25 (q := 26) rfl
def rX9_readHouse_26 := W_getR (M := mX9_readHouse) dX9_readHouse_26 (q := 29) rfl fl9_161 ⟨_, rfl⟩
def rX9_readHouse_29 := W_aload0 (M := mX9_readHouse) dX9_readHouse_29 (q := 30) rfl
def rX9_readHouse_29b := W_aloadR0 (M := mX9_readHouse) dX9_readHouse_29 (q := 30) rfl
def rX9_readHouse_30 := W_getJ (M := mX9_readHouse) dX9_readHouse_30 (q := 33) rfl fl9_100 rfl
def rX9_readHouse_33 := W_invV1 (M := mX9_readHouse) dX9_readHouse_33 (q := 36) rfl ml0_9_174 rfl
def rX9_readHouse_36 := W_iconst (M := mX9_readHouse) dX9_readHouse_36 (q := 37) rfl (v := (-1)) rfl
def rX9_readHouse_37 := W_icmp_eq (M := mX9_readHouse) dX9_readHouse_37 (q := 40) rfl (t := 45) rfl
def rX9_readHouse_40 := W_aload0 (M := mX9_readHouse) dX9_readHouse_40 (q := 41) rfl
def rX9_readHouse_40b := W_aloadR0 (M := mX9_readHouse) dX9_readHouse_40 (q := 41) rfl
def rX9_readHouse_41 := W_iconst (M := mX9_readHouse) dX9_readHouse_41 (q := 42) rfl (v := (3)) rfl
def rX9_readHouse_42 := W_invV1 (M := mX9_readHouse) dX9_readHouse_42 (q := 45) rfl ml0_9_127 rfl
def rX9_readHouse_45 := W_aload0 (M := mX9_readHouse) dX9_readHouse_45 (q := 46) rfl
def rX9_readHouse_45b := W_aloadR0 (M := mX9_readHouse) dX9_readHouse_45 (q := 46) rfl
def rX9_readHouse_46 := W_getJ (M := mX9_readHouse) dX9_readHouse_46 (q := 49) rfl fl9_100 rfl
def rX9_readHouse_49 := W_lstore1 (M := mX9_readHouse) dX9_readHouse_49 (q := 50) rfl
def rX9_readHouse_50 := W_aload0 (M := mX9_readHouse) dX9_readHouse_50 (q := 51) rfl
def rX9_readHouse_50b := W_aloadR0 (M := mX9_readHouse) dX9_readHouse_50 (q := 51) rfl
def rX9_readHouse_51 := W_invV0 (M := mX9_readHouse) dX9_readHouse_51 (q := 54) rfl ml0_9_120 rfl
def rX9_readHouse_54 := W_aload0 (M := mX9_readHouse) dX9_readHouse_54 (q := 55) rfl
def rX9_readHouse_54b := W_aloadR0 (M := mX9_readHouse) dX9_readHouse_54 (q := 55) rfl
def rX9_readHouse_55 := W_ldc (M := mX9_readHouse) dX9_readHouse_55 (q := 57) rfl cs9_223
def rX9_readHouse_57 := W_invV1 (M := mX9_readHouse) dX9_readHouse_57 (q := 60) rfl ml0_9_123 rfl
def rX9_readHouse_60 := W_if_eq (M := mX9_readHouse) dX9_readHouse_60 (q := 63) rfl (t := 67) rfl
def rX9_readHouse_63 := W_iconst (M := mX9_readHouse) dX9_readHouse_63 (q := 64) rfl (v := (0)) rfl
def rX9_readHouse_64 := W_goto (M := mX9_readHouse) dX9_readHouse_64 (t := 107) rfl
def rX9_readHouse_67 := W_aload0 (M := mX9_readHouse) dX9_readHouse_67 (q := 68) rfl
def rX9_readHouse_67b := W_aloadR0 (M := mX9_readHouse) dX9_readHouse_67 (q := 68) rfl
def rX9_readHouse_68 := W_ldc (M := mX9_readHouse) dX9_readHouse_68 (q := 70) rfl cs9_225
def rX9_readHouse_70 := W_invV1 (M := mX9_readHouse) dX9_readHouse_70 (q := 73) rfl ml0_9_123 rfl
def rX9_readHouse_73 := W_if_eq (M := mX9_readHouse) dX9_readHouse_73 (q := 76) rfl (t := 80) rfl
def rX9_readHouse_76 := W_iconst (M := mX9_readHouse) dX9_readHouse_76 (q := 77) rfl (v := (1)) rfl
def rX9_readHouse_77 := W_goto (M := mX9_readHouse) dX9_readHouse_77 (t := 107) rfl
def rX9_readHouse_80 := W_aload0 (M := mX9_readHouse) dX9_readHouse_80 (q := 81) rfl
def rX9_readHouse_80b := W_aloadR0 (M := mX9_readHouse) dX9_readHouse_80 (q := 81) rfl
def rX9_readHouse_81 := W_ldc (M := mX9_readHouse) dX9_readHouse_81 (q := 83) rfl cs9_227
def rX9_readHouse_83 := W_invV1 (M := mX9_readHouse) dX9_readHouse_83 (q := 86) rfl ml0_9_123 rfl
def rX9_readHouse_86 := W_if_eq (M := mX9_readHouse) dX9_readHouse_86 (q := 89) rfl (t := 93) rfl
def rX9_readHouse_89 := W_iconst (M := mX9_readHouse) dX9_readHouse_89 (q := 90) rfl (v := (2)) rfl
def rX9_readHouse_90 := W_goto (M := mX9_readHouse) dX9_readHouse_90 (t := 107) rfl
def rX9_readHouse_93 := W_aload0 (M := mX9_readHouse) dX9_readHouse_93 (q := 94) rfl
def rX9_readHouse_93b := W_aloadR0 (M := mX9_readHouse) dX9_readHouse_93 (q := 94) rfl
def rX9_readHouse_94 := W_ldc (M := mX9_readHouse) dX9_readHouse_94 (q := 96) rfl cs9_229
def rX9_readHouse_96 := W_invV1 (M := mX9_readHouse) dX9_readHouse_96 (q := 99) rfl ml0_9_123 rfl
def rX9_readHouse_99 := W_if_eq (M := mX9_readHouse) dX9_readHouse_99 (q := 102) rfl (t := 106) rfl
def rX9_readHouse_102 := W_iconst (M := mX9_readHouse) dX9_readHouse_102 (q := 103) rfl (v := (3)) rfl
def rX9_readHouse_103 := W_goto (M := mX9_readHouse) dX9_readHouse_103 (t := 107) rfl
def rX9_readHouse_106 := W_iconst (M := mX9_readHouse) dX9_readHouse_106 (q := 107) rfl (v := (-1)) rfl
def rX9_readHouse_107 := W_istore3 (M := mX9_readHouse) dX9_readHouse_107 (q := 108) rfl
def rX9_readHouse_108 := W_iload3 (M := mX9_readHouse) dX9_readHouse_108 (q := 109) rfl
def rX9_readHouse_109 := W_iconst (M := mX9_readHouse) dX9_readHouse_109 (q := 110) rfl (v := (-1)) rfl
def rX9_readHouse_110 := W_icmp_ne (M := mX9_readHouse) dX9_readHouse_110 (q := 113) rfl (t := 118) rfl
def rX9_readHouse_113 := W_aload0 (M := mX9_readHouse) dX9_readHouse_113 (q := 114) rfl
def rX9_readHouse_113b := W_aloadR0 (M := mX9_readHouse) dX9_readHouse_113 (q := 114) rfl
def rX9_readHouse_114 := W_iconst (M := mX9_readHouse) dX9_readHouse_114 (q := 115) rfl (v := (1)) rfl
def rX9_readHouse_115 := W_invV1 (M := mX9_readHouse) dX9_readHouse_115 (q := 118) rfl ml0_9_127 rfl
def rX9_readHouse_118 := W_aload0 (M := mX9_readHouse) dX9_readHouse_118 (q := 119) rfl
def rX9_readHouse_118b := W_aloadR0 (M := mX9_readHouse) dX9_readHouse_118 (q := 119) rfl
def rX9_readHouse_119 := W_invV0 (M := mX9_readHouse) dX9_readHouse_119 (q := 122) rfl ml0_9_120 rfl
def rX9_readHouse_122 := W_aload0 (M := mX9_readHouse) dX9_readHouse_122 (q := 123) rfl
def rX9_readHouse_122b := W_aloadR0 (M := mX9_readHouse) dX9_readHouse_122 (q := 123) rfl
def rX9_readHouse_123 := W_ldc (M := mX9_readHouse) dX9_readHouse_123 (q := 125) rfl cs9_231
def rX9_readHouse_125 := W_invV1 (M := mX9_readHouse) dX9_readHouse_125 (q := 128) rfl ml0_9_123 rfl
def rX9_readHouse_128 := W_istore4 (M := mX9_readHouse) dX9_readHouse_128 (q := 130) rfl
def rX9_readHouse_130 := W_bipush (M := mX9_readHouse) dX9_readHouse_130 (q := 132) rfl (v := (-2)) rfl
def rX9_readHouse_132 := W_istore5 (M := mX9_readHouse) dX9_readHouse_132 (q := 134) rfl
def rX9_readHouse_134 := W_iconst (M := mX9_readHouse) dX9_readHouse_134 (q := 135) rfl (v := (0)) rfl
def rX9_readHouse_135 := W_istore6 (M := mX9_readHouse) dX9_readHouse_135 (q := 137) rfl
def rX9_readHouse_137 := W_iload4 (M := mX9_readHouse) dX9_readHouse_137 (q := 139) rfl
def rX9_readHouse_139 := W_if_eq (M := mX9_readHouse) dX9_readHouse_139 (q := 142) rfl (t := 149) rfl
def rX9_readHouse_142 := W_aload0 (M := mX9_readHouse) dX9_readHouse_142 (q := 143) rfl
def rX9_readHouse_142b := W_aloadR0 (M := mX9_readHouse) dX9_readHouse_142 (q := 143) rfl
def rX9_readHouse_143 := W_invV0 (M := mX9_readHouse) dX9_readHouse_143 (q := 146) rfl ml0_9_120 rfl
def rX9_readHouse_146 := W_goto (M := mX9_readHouse) dX9_readHouse_146 (t := 171) rfl
def rX9_readHouse_149 := W_aload0 (M := mX9_readHouse) dX9_readHouse_149 (q := 150) rfl
def rX9_readHouse_149b := W_aloadR0 (M := mX9_readHouse) dX9_readHouse_149 (q := 150) rfl
def rX9_readHouse_150 := W_ldc (M := mX9_readHouse) dX9_readHouse_150 (q := 152) rfl cs9_233
def rX9_readHouse_152 := W_iconst (M := mX9_readHouse) dX9_readHouse_152 (q := 153) rfl (v := (0)) rfl
def rX9_readHouse_153 := W_bipush (M := mX9_readHouse) dX9_readHouse_153 (q := 155) rfl (v := (60)) rfl
def rX9_readHouse_155 := W_invV3 (M := mX9_readHouse) dX9_readHouse_155 (q := 158) rfl ml0_9_215 rfl
def rX9_readHouse_158 := W_istore5 (M := mX9_readHouse) dX9_readHouse_158 (q := 160) rfl
def rX9_readHouse_160 := W_aload0 (M := mX9_readHouse) dX9_readHouse_160 (q := 161) rfl
def rX9_readHouse_160b := W_aloadR0 (M := mX9_readHouse) dX9_readHouse_160 (q := 161) rfl
def rX9_readHouse_161 := W_ldc (M := mX9_readHouse) dX9_readHouse_161 (q := 163) rfl cs9_235
def rX9_readHouse_163 := W_iconst (M := mX9_readHouse) dX9_readHouse_163 (q := 164) rfl (v := (0)) rfl
def rX9_readHouse_164 := W_bipush (M := mX9_readHouse) dX9_readHouse_164 (q := 166) rfl (v := (100)) rfl
def rX9_readHouse_166 := W_invV3 (M := mX9_readHouse) dX9_readHouse_166 (q := 169) rfl ml0_9_215 rfl
def rX9_readHouse_169 := W_istore6 (M := mX9_readHouse) dX9_readHouse_169 (q := 171) rfl
def rX9_readHouse_171 := W_aload0 (M := mX9_readHouse) dX9_readHouse_171 (q := 172) rfl
def rX9_readHouse_171b := W_aloadR0 (M := mX9_readHouse) dX9_readHouse_171 (q := 172) rfl
def rX9_readHouse_172 := W_getI (M := mX9_readHouse) dX9_readHouse_172 (q := 175) rfl fl9_84 (Or.inl rfl)
def rX9_readHouse_175 := W_iconst (M := mX9_readHouse) dX9_readHouse_175 (q := 176) rfl (v := (5)) rfl
def rX9_readHouse_176 := W_icmp_ne (M := mX9_readHouse) dX9_readHouse_176 (q := 179) rfl (t := 180) rfl
def rX9_readHouse_179 := W_vret (M := mX9_readHouse) dX9_readHouse_179 rfl
def rX9_readHouse_180 := W_aload0 (M := mX9_readHouse) dX9_readHouse_180 (q := 181) rfl
def rX9_readHouse_180b := W_aloadR0 (M := mX9_readHouse) dX9_readHouse_180 (q := 181) rfl
def rX9_readHouse_181 := W_getR (M := mX9_readHouse) dX9_readHouse_181 (q := 184) rfl fl9_161 ⟨_, rfl⟩
def rX9_readHouse_184 := W_getI (M := mX9_readHouse) dX9_readHouse_184 (q := 187) rfl fl9_187 (Or.inl rfl)
def rX9_readHouse_187 := W_istore7 (M := mX9_readHouse) dX9_readHouse_187 (q := 189) rfl
def rX9_readHouse_189 := W_aload0 (M := mX9_readHouse) dX9_readHouse_189 (q := 190) rfl
def rX9_readHouse_189b := W_aloadR0 (M := mX9_readHouse) dX9_readHouse_189 (q := 190) rfl
def rX9_readHouse_190 := W_getR (M := mX9_readHouse) dX9_readHouse_190 (q := 193) rfl fl9_161 ⟨_, rfl⟩
def rX9_readHouse_193 := W_getA (M := mX9_readHouse) dX9_readHouse_193 (q := 196) rfl fl9_237 ⟨_, rfl⟩
def rX9_readHouse_196 := W_iload7 (M := mX9_readHouse) dX9_readHouse_196 (q := 198) rfl
def rX9_readHouse_198 := W_lload1 (M := mX9_readHouse) dX9_readHouse_198 (q := 199) rfl
def rX9_readHouse_199 := W_last (M := mX9_readHouse) dX9_readHouse_199 (q := 200) rfl
def rX9_readHouse_200 := W_aload0 (M := mX9_readHouse) dX9_readHouse_200 (q := 201) rfl
def rX9_readHouse_200b := W_aloadR0 (M := mX9_readHouse) dX9_readHouse_200 (q := 201) rfl
def rX9_readHouse_201 := W_getR (M := mX9_readHouse) dX9_readHouse_201 (q := 204) rfl fl9_161 ⟨_, rfl⟩
def rX9_readHouse_204 := W_getA (M := mX9_readHouse) dX9_readHouse_204 (q := 207) rfl fl9_240 ⟨_, rfl⟩
def rX9_readHouse_207 := W_iload7 (M := mX9_readHouse) dX9_readHouse_207 (q := 209) rfl
def rX9_readHouse_209 := W_iload3 (M := mX9_readHouse) dX9_readHouse_209 (q := 210) rfl
def rX9_readHouse_210 := W_iast (M := mX9_readHouse) dX9_readHouse_210 (q := 211) rfl
def rX9_readHouse_211 := W_aload0 (M := mX9_readHouse) dX9_readHouse_211 (q := 212) rfl
def rX9_readHouse_211b := W_aloadR0 (M := mX9_readHouse) dX9_readHouse_211 (q := 212) rfl
def rX9_readHouse_212 := W_getR (M := mX9_readHouse) dX9_readHouse_212 (q := 215) rfl fl9_161 ⟨_, rfl⟩
def rX9_readHouse_215 := W_getA (M := mX9_readHouse) dX9_readHouse_215 (q := 218) rfl fl9_243 ⟨_, rfl⟩
def rX9_readHouse_218 := W_iload7 (M := mX9_readHouse) dX9_readHouse_218 (q := 220) rfl
def rX9_readHouse_220 := W_iload5 (M := mX9_readHouse) dX9_readHouse_220 (q := 222) rfl
def rX9_readHouse_222 := W_iast (M := mX9_readHouse) dX9_readHouse_222 (q := 223) rfl
def rX9_readHouse_223 := W_aload0 (M := mX9_readHouse) dX9_readHouse_223 (q := 224) rfl
def rX9_readHouse_223b := W_aloadR0 (M := mX9_readHouse) dX9_readHouse_223 (q := 224) rfl
def rX9_readHouse_224 := W_getR (M := mX9_readHouse) dX9_readHouse_224 (q := 227) rfl fl9_161 ⟨_, rfl⟩
def rX9_readHouse_227 := W_getA (M := mX9_readHouse) dX9_readHouse_227 (q := 230) rfl fl9_246 ⟨_, rfl⟩
def rX9_readHouse_230 := W_iload7 (M := mX9_readHouse) dX9_readHouse_230 (q := 232) rfl
def rX9_readHouse_232 := W_iload6 (M := mX9_readHouse) dX9_readHouse_232 (q := 234) rfl
def rX9_readHouse_234 := W_iast (M := mX9_readHouse) dX9_readHouse_234 (q := 235) rfl
def rX9_readHouse_235 := W_aload0 (M := mX9_readHouse) dX9_readHouse_235 (q := 236) rfl
def rX9_readHouse_235b := W_aloadR0 (M := mX9_readHouse) dX9_readHouse_235 (q := 236) rfl
def rX9_readHouse_236 := W_getR (M := mX9_readHouse) dX9_readHouse_236 (q := 239) rfl fl9_161 ⟨_, rfl⟩
def rX9_readHouse_239 := W_dupI (M := mX9_readHouse) dX9_readHouse_239 (q := 240) rfl
def rX9_readHouse_239b := W_dupR (M := mX9_readHouse) dX9_readHouse_239 (q := 240) rfl
def rX9_readHouse_240 := W_getI (M := mX9_readHouse) dX9_readHouse_240 (q := 243) rfl fl9_187 (Or.inl rfl)
def rX9_readHouse_243 := W_iconst (M := mX9_readHouse) dX9_readHouse_243 (q := 244) rfl (v := (1)) rfl
def rX9_readHouse_244 := W_iadd (M := mX9_readHouse) dX9_readHouse_244 (q := 245) rfl
def rX9_readHouse_245 := W_putI (M := mX9_readHouse) dX9_readHouse_245 (q := 248) rfl fl9_187 rfl (Or.inl rfl)
def rX9_readHouse_248 := W_vret (M := mX9_readHouse) dX9_readHouse_248 rfl
-- X9_readHouseName
theorem eX9_readHouseName {d : Nat} {h : qH} {Q : Option (Option Value) → qH → Prop} {s0 : Nat} : WM d mX9_readHouseName [.ref s0] h Q = WP d mX9_readHouseName (0, 0) 0 [some (.ref s0), none] [] h Q := rfl
def rX9_readHouseName_0 := W_aload0 (M := mX9_readHouseName) dX9_readHouseName_0 (q := 1) rfl
def rX9_readHouseName_0b := W_aloadR0 (M := mX9_readHouseName) dX9_readHouseName_0 (q := 1) rfl
def rX9_readHouseName_1 := W_invV0 (M := mX9_readHouseName) dX9_readHouseName_1 (q := 4) rfl ml0_9_178 rfl
def rX9_readHouseName_4 := W_istore1 (M := mX9_readHouseName) dX9_readHouseName_4 (q := 5) rfl
def rX9_readHouseName_5 := W_aload0 (M := mX9_readHouseName) dX9_readHouseName_5 (q := 6) rfl
def rX9_readHouseName_5b := W_aloadR0 (M := mX9_readHouseName) dX9_readHouseName_5 (q := 6) rfl
def rX9_readHouseName_6 := W_invV0 (M := mX9_readHouseName) dX9_readHouseName_6 (q := 9) rfl ml0_9_120 rfl
def rX9_readHouseName_9 := W_iload1 (M := mX9_readHouseName) dX9_readHouseName_9 (q := 10) rfl
def rX9_readHouseName_10 := W_iret (M := mX9_readHouseName) dX9_readHouseName_10 rfl
-- X9_readLine
theorem eX9_readLine {d : Nat} {h : qH} {Q : Option (Option Value) → qH → Prop} {s0 : Nat} : WM d mX9_readLine [.ref s0] h Q = WP d mX9_readLine (0, 0) 0 [some (.ref s0)] [] h Q := rfl
def rX9_readLine_0 := W_aload0 (M := mX9_readLine) dX9_readLine_0 (q := 1) rfl
def rX9_readLine_0b := W_aloadR0 (M := mX9_readLine) dX9_readLine_0 (q := 1) rfl
def rX9_readLine_1 := W_ldc (M := mX9_readLine) dX9_readLine_1 (q := 3) rfl cs9_143
def rX9_readLine_3 := W_invV1 (M := mX9_readLine) dX9_readLine_3 (q := 6) rfl ml0_9_123 rfl
def rX9_readLine_6 := W_if_eq (M := mX9_readLine) dX9_readLine_6 (q := 9) rfl (t := 16) rfl
def rX9_readLine_9 := W_aload0 (M := mX9_readLine) dX9_readLine_9 (q := 10) rfl
def rX9_readLine_9b := W_aloadR0 (M := mX9_readLine) dX9_readLine_9 (q := 10) rfl
def rX9_readLine_10 := W_invV0 (M := mX9_readLine) dX9_readLine_10 (q := 13) rfl ml0_9_190 rfl
def rX9_readLine_13 := W_goto (M := mX9_readLine) dX9_readLine_13 (t := 133) rfl
def rX9_readLine_16 := W_aload0 (M := mX9_readLine) dX9_readLine_16 (q := 17) rfl
def rX9_readLine_16b := W_aloadR0 (M := mX9_readLine) dX9_readLine_16 (q := 17) rfl
def rX9_readLine_17 := W_ldc (M := mX9_readLine) dX9_readLine_17 (q := 19) rfl cs9_145
def rX9_readLine_19 := W_invV1 (M := mX9_readLine) dX9_readLine_19 (q := 22) rfl ml0_9_123 rfl
def rX9_readLine_22 := W_if_eq (M := mX9_readLine) dX9_readLine_22 (q := 25) rfl (t := 32) rfl
def rX9_readLine_25 := W_aload0 (M := mX9_readLine) dX9_readLine_25 (q := 26) rfl
def rX9_readLine_25b := W_aloadR0 (M := mX9_readLine) dX9_readLine_25 (q := 26) rfl
def rX9_readLine_26 := W_invV0 (M := mX9_readLine) dX9_readLine_26 (q := 29) rfl ml0_9_193 rfl
def rX9_readLine_29 := W_goto (M := mX9_readLine) dX9_readLine_29 (t := 133) rfl
def rX9_readLine_32 := W_aload0 (M := mX9_readLine) dX9_readLine_32 (q := 33) rfl
def rX9_readLine_32b := W_aloadR0 (M := mX9_readLine) dX9_readLine_32 (q := 33) rfl
def rX9_readLine_33 := W_ldc (M := mX9_readLine) dX9_readLine_33 (q := 35) rfl cs9_147
def rX9_readLine_35 := W_invV1 (M := mX9_readLine) dX9_readLine_35 (q := 38) rfl ml0_9_123 rfl
def rX9_readLine_38 := W_if_eq (M := mX9_readLine) dX9_readLine_38 (q := 41) rfl (t := 48) rfl
def rX9_readLine_41 := W_aload0 (M := mX9_readLine) dX9_readLine_41 (q := 42) rfl
def rX9_readLine_41b := W_aloadR0 (M := mX9_readLine) dX9_readLine_41 (q := 42) rfl
def rX9_readLine_42 := W_invV0 (M := mX9_readLine) dX9_readLine_42 (q := 45) rfl ml0_9_196 rfl
def rX9_readLine_45 := W_goto (M := mX9_readLine) dX9_readLine_45 (t := 133) rfl
def rX9_readLine_48 := W_aload0 (M := mX9_readLine) dX9_readLine_48 (q := 49) rfl
def rX9_readLine_48b := W_aloadR0 (M := mX9_readLine) dX9_readLine_48 (q := 49) rfl
def rX9_readLine_49 := W_ldc (M := mX9_readLine) dX9_readLine_49 (q := 51) rfl cs9_149
def rX9_readLine_51 := W_invV1 (M := mX9_readLine) dX9_readLine_51 (q := 54) rfl ml0_9_123 rfl
def rX9_readLine_54 := W_if_eq (M := mX9_readLine) dX9_readLine_54 (q := 57) rfl (t := 64) rfl
def rX9_readLine_57 := W_aload0 (M := mX9_readLine) dX9_readLine_57 (q := 58) rfl
def rX9_readLine_57b := W_aloadR0 (M := mX9_readLine) dX9_readLine_57 (q := 58) rfl
def rX9_readLine_58 := W_invV0 (M := mX9_readLine) dX9_readLine_58 (q := 61) rfl ml0_9_199 rfl
def rX9_readLine_61 := W_goto (M := mX9_readLine) dX9_readLine_61 (t := 133) rfl
def rX9_readLine_64 := W_aload0 (M := mX9_readLine) dX9_readLine_64 (q := 65) rfl
def rX9_readLine_64b := W_aloadR0 (M := mX9_readLine) dX9_readLine_64 (q := 65) rfl
def rX9_readLine_65 := W_ldc (M := mX9_readLine) dX9_readLine_65 (q := 67) rfl cs9_151
def rX9_readLine_67 := W_invV1 (M := mX9_readLine) dX9_readLine_67 (q := 70) rfl ml0_9_123 rfl
def rX9_readLine_70 := W_if_eq (M := mX9_readLine) dX9_readLine_70 (q := 73) rfl (t := 80) rfl
def rX9_readLine_73 := W_aload0 (M := mX9_readLine) dX9_readLine_73 (q := 74) rfl
def rX9_readLine_73b := W_aloadR0 (M := mX9_readLine) dX9_readLine_73 (q := 74) rfl
def rX9_readLine_74 := W_invV0 (M := mX9_readLine) dX9_readLine_74 (q := 77) rfl ml0_9_202 rfl
def rX9_readLine_77 := W_goto (M := mX9_readLine) dX9_readLine_77 (t := 133) rfl
def rX9_readLine_80 := W_aload0 (M := mX9_readLine) dX9_readLine_80 (q := 81) rfl
def rX9_readLine_80b := W_aloadR0 (M := mX9_readLine) dX9_readLine_80 (q := 81) rfl
def rX9_readLine_81 := W_ldc (M := mX9_readLine) dX9_readLine_81 (q := 83) rfl cs9_153
def rX9_readLine_83 := W_invV1 (M := mX9_readLine) dX9_readLine_83 (q := 86) rfl ml0_9_123 rfl
def rX9_readLine_86 := W_if_eq (M := mX9_readLine) dX9_readLine_86 (q := 89) rfl (t := 96) rfl
def rX9_readLine_89 := W_aload0 (M := mX9_readLine) dX9_readLine_89 (q := 90) rfl
def rX9_readLine_89b := W_aloadR0 (M := mX9_readLine) dX9_readLine_89 (q := 90) rfl
def rX9_readLine_90 := W_invV0 (M := mX9_readLine) dX9_readLine_90 (q := 93) rfl ml0_9_205 rfl
def rX9_readLine_93 := W_goto (M := mX9_readLine) dX9_readLine_93 (t := 133) rfl
def rX9_readLine_96 := W_aload0 (M := mX9_readLine) dX9_readLine_96 (q := 97) rfl
def rX9_readLine_96b := W_aloadR0 (M := mX9_readLine) dX9_readLine_96 (q := 97) rfl
def rX9_readLine_97 := W_ldc (M := mX9_readLine) dX9_readLine_97 (q := 99) rfl cs9_155
def rX9_readLine_99 := W_invV1 (M := mX9_readLine) dX9_readLine_99 (q := 102) rfl ml0_9_123 rfl
def rX9_readLine_102 := W_if_eq (M := mX9_readLine) dX9_readLine_102 (q := 105) rfl (t := 112) rfl
def rX9_readLine_105 := W_aload0 (M := mX9_readLine) dX9_readLine_105 (q := 106) rfl
def rX9_readLine_105b := W_aloadR0 (M := mX9_readLine) dX9_readLine_105 (q := 106) rfl
def rX9_readLine_106 := W_invV0 (M := mX9_readLine) dX9_readLine_106 (q := 109) rfl ml0_9_208 rfl
def rX9_readLine_109 := W_goto (M := mX9_readLine) dX9_readLine_109 (t := 133) rfl
def rX9_readLine_112 := W_aload0 (M := mX9_readLine) dX9_readLine_112 (q := 113) rfl
def rX9_readLine_112b := W_aloadR0 (M := mX9_readLine) dX9_readLine_112 (q := 113) rfl
def rX9_readLine_113 := W_ldc (M := mX9_readLine) dX9_readLine_113 (q := 115) rfl cs9_157
def rX9_readLine_115 := W_invV1 (M := mX9_readLine) dX9_readLine_115 (q := 118) rfl ml0_9_123 rfl
def rX9_readLine_118 := W_if_eq (M := mX9_readLine) dX9_readLine_118 (q := 121) rfl (t := 128) rfl
def rX9_readLine_121 := W_aload0 (M := mX9_readLine) dX9_readLine_121 (q := 122) rfl
def rX9_readLine_121b := W_aloadR0 (M := mX9_readLine) dX9_readLine_121 (q := 122) rfl
def rX9_readLine_122 := W_invV0 (M := mX9_readLine) dX9_readLine_122 (q := 125) rfl ml0_9_211 rfl
def rX9_readLine_125 := W_goto (M := mX9_readLine) dX9_readLine_125 (t := 133) rfl
def rX9_readLine_128 := W_aload0 (M := mX9_readLine) dX9_readLine_128 (q := 129) rfl
def rX9_readLine_128b := W_aloadR0 (M := mX9_readLine) dX9_readLine_128 (q := 129) rfl
def rX9_readLine_129 := W_iconst (M := mX9_readLine) dX9_readLine_129 (q := 130) rfl (v := (1)) rfl
def rX9_readLine_130 := W_invV1 (M := mX9_readLine) dX9_readLine_130 (q := 133) rfl ml0_9_127 rfl
def rX9_readLine_133 := W_vret (M := mX9_readLine) dX9_readLine_133 rfl
-- X9_readPart
theorem eX9_readPart {d : Nat} {h : qH} {Q : Option (Option Value) → qH → Prop} {s0 : Nat} {x1 : Nat} {x2 : Int32} {x3 : Int32} : WM d mX9_readPart [.ref s0, .retAddr x1, .int x2, .int x3] h Q = WP d mX9_readPart (0, 0) 0 [some (.ref s0), some (.retAddr x1), some (.int x2), some (.int x3)] [] h Q := rfl
def rX9_readPart_0 := W_aload0 (M := mX9_readPart) dX9_readPart_0 (q := 1) rfl
def rX9_readPart_0b := W_aloadR0 (M := mX9_readPart) dX9_readPart_0 (q := 1) rfl
def rX9_readPart_1 := W_aload1 (M := mX9_readPart) dX9_readPart_1 (q := 2) rfl
def rX9_readPart_1b := W_aloadR1 (M := mX9_readPart) dX9_readPart_1 (q := 2) rfl
def rX9_readPart_2 := W_invV1 (M := mX9_readPart) dX9_readPart_2 (q := 5) rfl ml0_9_135 rfl
def rX9_readPart_5 := W_aload0 (M := mX9_readPart) dX9_readPart_5 (q := 6) rfl
def rX9_readPart_5b := W_aloadR0 (M := mX9_readPart) dX9_readPart_5 (q := 6) rfl
def rX9_readPart_6 := W_iload2 (M := mX9_readPart) dX9_readPart_6 (q := 7) rfl
def rX9_readPart_7 := W_iload3 (M := mX9_readPart) dX9_readPart_7 (q := 8) rfl
def rX9_readPart_8 := W_invV2 (M := mX9_readPart) dX9_readPart_8 (q := 11) rfl ml0_9_139 rfl
def rX9_readPart_11 := W_iret (M := mX9_readPart) dX9_readPart_11 rfl
-- X9_readPulled
theorem eX9_readPulled {d : Nat} {h : qH} {Q : Option (Option Value) → qH → Prop} {s0 : Nat} : WM d mX9_readPulled [.ref s0] h Q = WP d mX9_readPulled (0, 0) 0 [some (.ref s0), none] [] h Q := rfl
def rX9_readPulled_0 := W_aload0 (M := mX9_readPulled) dX9_readPulled_0 (q := 1) rfl
def rX9_readPulled_0b := W_aloadR0 (M := mX9_readPulled) dX9_readPulled_0 (q := 1) rfl
def rX9_readPulled_1 := W_iconst (M := mX9_readPulled) dX9_readPulled_1 (q := 2) rfl (v := (0)) rfl
def rX9_readPulled_2 := W_iconst (M := mX9_readPulled) dX9_readPulled_2 (q := 3) rfl (v := (1)) rfl
def rX9_readPulled_3 := W_invV2 (M := mX9_readPulled) dX9_readPulled_3 (q := 6) rfl ml0_9_219 rfl
def rX9_readPulled_6 := W_aload0 (M := mX9_readPulled) dX9_readPulled_6 (q := 7) rfl
def rX9_readPulled_6b := W_aloadR0 (M := mX9_readPulled) dX9_readPulled_6 (q := 7) rfl
def rX9_readPulled_7 := W_invV0 (M := mX9_readPulled) dX9_readPulled_7 (q := 10) rfl ml0_9_178 rfl
def rX9_readPulled_10 := W_istore1 (M := mX9_readPulled) dX9_readPulled_10 (q := 11) rfl
def rX9_readPulled_11 := W_aload0 (M := mX9_readPulled) dX9_readPulled_11 (q := 12) rfl
def rX9_readPulled_11b := W_aloadR0 (M := mX9_readPulled) dX9_readPulled_11 (q := 12) rfl
def rX9_readPulled_12 := W_getI (M := mX9_readPulled) dX9_readPulled_12 (q := 15) rfl fl9_84 (Or.inl rfl)
def rX9_readPulled_15 := W_iconst (M := mX9_readPulled) dX9_readPulled_15 (q := 16) rfl (v := (5)) rfl
def rX9_readPulled_16 := W_icmp_eq (M := mX9_readPulled) dX9_readPulled_16 (q := 19) rfl (t := 38) rfl
def rX9_readPulled_19 := W_aload0 (M := mX9_readPulled) dX9_readPulled_19 (q := 20) rfl
def rX9_readPulled_19b := W_aloadR0 (M := mX9_readPulled) dX9_readPulled_19 (q := 20) rfl
def rX9_readPulled_20 := W_getR (M := mX9_readPulled) dX9_readPulled_20 (q := 23) rfl fl9_161 ⟨_, rfl⟩
def rX9_readPulled_23 := W_getI (M := mX9_readPulled) dX9_readPulled_23 (q := 26) rfl fl9_279 (Or.inl rfl)
def rX9_readPulled_26 := W_iload1 (M := mX9_readPulled) dX9_readPulled_26 (q := 27) rfl
def rX9_readPulled_27 := W_invS2 (M := mX9_readPulled) dX9_readPulled_27 (q := 30) rfl ml1_9_281 rfl rfl rfl
def rX9_readPulled_30 := W_if_eq (M := mX9_readPulled) dX9_readPulled_30 (q := 33) rfl (t := 38) rfl
def rX9_readPulled_33 := W_aload0 (M := mX9_readPulled) dX9_readPulled_33 (q := 34) rfl
def rX9_readPulled_33b := W_aloadR0 (M := mX9_readPulled) dX9_readPulled_33 (q := 34) rfl
def rX9_readPulled_34 := W_iconst (M := mX9_readPulled) dX9_readPulled_34 (q := 35) rfl (v := (3)) rfl
def rX9_readPulled_35 := W_invV1 (M := mX9_readPulled) dX9_readPulled_35 (q := 38) rfl ml0_9_127 rfl
def rX9_readPulled_38 := W_aload0 (M := mX9_readPulled) dX9_readPulled_38 (q := 39) rfl
def rX9_readPulled_38b := W_aloadR0 (M := mX9_readPulled) dX9_readPulled_38 (q := 39) rfl
def rX9_readPulled_39 := W_invV0 (M := mX9_readPulled) dX9_readPulled_39 (q := 42) rfl ml0_9_120 rfl
def rX9_readPulled_42 := W_aload0 (M := mX9_readPulled) dX9_readPulled_42 (q := 43) rfl
def rX9_readPulled_42b := W_aloadR0 (M := mX9_readPulled) dX9_readPulled_42 (q := 43) rfl
def rX9_readPulled_43 := W_getI (M := mX9_readPulled) dX9_readPulled_43 (q := 46) rfl fl9_84 (Or.inl rfl)
def rX9_readPulled_46 := W_iconst (M := mX9_readPulled) dX9_readPulled_46 (q := 47) rfl (v := (5)) rfl
def rX9_readPulled_47 := W_icmp_ne (M := mX9_readPulled) dX9_readPulled_47 (q := 50) rfl (t := 51) rfl
def rX9_readPulled_50 := W_vret (M := mX9_readPulled) dX9_readPulled_50 rfl
def rX9_readPulled_51 := W_aload0 (M := mX9_readPulled) dX9_readPulled_51 (q := 52) rfl
def rX9_readPulled_51b := W_aloadR0 (M := mX9_readPulled) dX9_readPulled_51 (q := 52) rfl
def rX9_readPulled_52 := W_getR (M := mX9_readPulled) dX9_readPulled_52 (q := 55) rfl fl9_161 ⟨_, rfl⟩
def rX9_readPulled_55 := W_dupI (M := mX9_readPulled) dX9_readPulled_55 (q := 56) rfl
def rX9_readPulled_55b := W_dupR (M := mX9_readPulled) dX9_readPulled_55 (q := 56) rfl
def rX9_readPulled_56 := W_getI (M := mX9_readPulled) dX9_readPulled_56 (q := 59) rfl fl9_279 (Or.inl rfl)
def rX9_readPulled_59 := W_iconst (M := mX9_readPulled) dX9_readPulled_59 (q := 60) rfl (v := (1)) rfl
def rX9_readPulled_60 := W_iload1 (M := mX9_readPulled) dX9_readPulled_60 (q := 61) rfl
def rX9_readPulled_61 := W_ishl (M := mX9_readPulled) dX9_readPulled_61 (q := 62) rfl
def rX9_readPulled_62 := W_ior (M := mX9_readPulled) dX9_readPulled_62 (q := 63) rfl
def rX9_readPulled_63 := W_putI (M := mX9_readPulled) dX9_readPulled_63 (q := 66) rfl fl9_279 rfl (Or.inl rfl)
def rX9_readPulled_66 := W_aload0 (M := mX9_readPulled) dX9_readPulled_66 (q := 67) rfl
def rX9_readPulled_66b := W_aloadR0 (M := mX9_readPulled) dX9_readPulled_66 (q := 67) rfl
def rX9_readPulled_67 := W_getR (M := mX9_readPulled) dX9_readPulled_67 (q := 70) rfl fl9_161 ⟨_, rfl⟩
def rX9_readPulled_70 := W_dupI (M := mX9_readPulled) dX9_readPulled_70 (q := 71) rfl
def rX9_readPulled_70b := W_dupR (M := mX9_readPulled) dX9_readPulled_70 (q := 71) rfl
def rX9_readPulled_71 := W_getI (M := mX9_readPulled) dX9_readPulled_71 (q := 74) rfl fl9_284 (Or.inl rfl)
def rX9_readPulled_74 := W_iconst (M := mX9_readPulled) dX9_readPulled_74 (q := 75) rfl (v := (1)) rfl
def rX9_readPulled_75 := W_iadd (M := mX9_readPulled) dX9_readPulled_75 (q := 76) rfl
def rX9_readPulled_76 := W_putI (M := mX9_readPulled) dX9_readPulled_76 (q := 79) rfl fl9_284 rfl (Or.inl rfl)
def rX9_readPulled_79 := W_vret (M := mX9_readPulled) dX9_readPulled_79 rfl
-- X9_readRung
theorem eX9_readRung {d : Nat} {h : qH} {Q : Option (Option Value) → qH → Prop} {s0 : Nat} : WM d mX9_readRung [.ref s0] h Q = WP d mX9_readRung (0, 0) 0 [some (.ref s0), none, none] [] h Q := rfl
def rX9_readRung_0 := W_aload0 (M := mX9_readRung) dX9_readRung_0 (q := 1) rfl
def rX9_readRung_0b := W_aloadR0 (M := mX9_readRung) dX9_readRung_0 (q := 1) rfl
def rX9_readRung_1 := W_aload0 (M := mX9_readRung) dX9_readRung_1 (q := 2) rfl
def rX9_readRung_1b := W_aloadR0 (M := mX9_readRung) dX9_readRung_1 (q := 2) rfl
def rX9_readRung_2 := W_getR (M := mX9_readRung) dX9_readRung_2 (q := 5) rfl fl9_161 ⟨_, rfl⟩
def rX9_readRung_5 := W_getI (M := mX9_readRung) dX9_readRung_5 (q := 8) rfl fl9_300 (Or.inl rfl)
def rX9_readRung_8 := W_iconst (M := mX9_readRung) dX9_readRung_8 (q := 9) rfl (v := (4)) rfl
def rX9_readRung_9 := W_invV2 (M := mX9_readRung) dX9_readRung_9 (q := 12) rfl ml0_9_219 rfl
def rX9_readRung_12 := W_aload0 (M := mX9_readRung) dX9_readRung_12 (q := 13) rfl
def rX9_readRung_12b := W_aloadR0 (M := mX9_readRung) dX9_readRung_12 (q := 13) rfl
def rX9_readRung_13 := W_ldc (M := mX9_readRung) dX9_readRung_13 (q := 15) rfl cs9_233
def rX9_readRung_15 := W_iconst (M := mX9_readRung) dX9_readRung_15 (q := 16) rfl (v := (0)) rfl
def rX9_readRung_16 := W_bipush (M := mX9_readRung) dX9_readRung_16 (q := 18) rfl (v := (30)) rfl
def rX9_readRung_18 := W_invV3 (M := mX9_readRung) dX9_readRung_18 (q := 21) rfl ml0_9_215 rfl
def rX9_readRung_21 := W_istore1 (M := mX9_readRung) dX9_readRung_21 (q := 22) rfl
def rX9_readRung_22 := W_aload0 (M := mX9_readRung) dX9_readRung_22 (q := 23) rfl
def rX9_readRung_22b := W_aloadR0 (M := mX9_readRung) dX9_readRung_22 (q := 23) rfl
def rX9_readRung_23 := W_ldc (M := mX9_readRung) dX9_readRung_23 (q := 25) rfl cs9_159
def rX9_readRung_25 := W_invV1 (M := mX9_readRung) dX9_readRung_25 (q := 28) rfl ml0_9_123 rfl
def rX9_readRung_28 := W_if_eq (M := mX9_readRung) dX9_readRung_28 (q := 31) rfl (t := 36) rfl
def rX9_readRung_31 := W_bipush (M := mX9_readRung) dX9_readRung_31 (q := 33) rfl (v := (-2)) rfl
def rX9_readRung_33 := W_goto (M := mX9_readRung) dX9_readRung_33 (t := 40) rfl
def rX9_readRung_36 := W_aload0 (M := mX9_readRung) dX9_readRung_36 (q := 37) rfl
def rX9_readRung_36b := W_aloadR0 (M := mX9_readRung) dX9_readRung_36 (q := 37) rfl
def rX9_readRung_37 := W_invV0 (M := mX9_readRung) dX9_readRung_37 (q := 40) rfl ml0_9_178 rfl
def rX9_readRung_40 := W_istore2 (M := mX9_readRung) dX9_readRung_40 (q := 41) rfl
def rX9_readRung_41 := W_aload0 (M := mX9_readRung) dX9_readRung_41 (q := 42) rfl
def rX9_readRung_41b := W_aloadR0 (M := mX9_readRung) dX9_readRung_41 (q := 42) rfl
def rX9_readRung_42 := W_invV0 (M := mX9_readRung) dX9_readRung_42 (q := 45) rfl ml0_9_120 rfl
def rX9_readRung_45 := W_aload0 (M := mX9_readRung) dX9_readRung_45 (q := 46) rfl
def rX9_readRung_45b := W_aloadR0 (M := mX9_readRung) dX9_readRung_45 (q := 46) rfl
def rX9_readRung_46 := W_getI (M := mX9_readRung) dX9_readRung_46 (q := 49) rfl fl9_84 (Or.inl rfl)
def rX9_readRung_49 := W_iconst (M := mX9_readRung) dX9_readRung_49 (q := 50) rfl (v := (5)) rfl
def rX9_readRung_50 := W_icmp_ne (M := mX9_readRung) dX9_readRung_50 (q := 53) rfl (t := 54) rfl
def rX9_readRung_53 := W_vret (M := mX9_readRung) dX9_readRung_53 rfl
def rX9_readRung_54 := W_aload0 (M := mX9_readRung) dX9_readRung_54 (q := 55) rfl
def rX9_readRung_54b := W_aloadR0 (M := mX9_readRung) dX9_readRung_54 (q := 55) rfl
def rX9_readRung_55 := W_getR (M := mX9_readRung) dX9_readRung_55 (q := 58) rfl fl9_161 ⟨_, rfl⟩
def rX9_readRung_58 := W_getA (M := mX9_readRung) dX9_readRung_58 (q := 61) rfl fl9_303 ⟨_, rfl⟩
def rX9_readRung_61 := W_aload0 (M := mX9_readRung) dX9_readRung_61 (q := 62) rfl
def rX9_readRung_61b := W_aloadR0 (M := mX9_readRung) dX9_readRung_61 (q := 62) rfl
def rX9_readRung_62 := W_getR (M := mX9_readRung) dX9_readRung_62 (q := 65) rfl fl9_161 ⟨_, rfl⟩
def rX9_readRung_65 := W_getI (M := mX9_readRung) dX9_readRung_65 (q := 68) rfl fl9_300 (Or.inl rfl)
def rX9_readRung_68 := W_iload1 (M := mX9_readRung) dX9_readRung_68 (q := 69) rfl
def rX9_readRung_69 := W_iast (M := mX9_readRung) dX9_readRung_69 (q := 70) rfl
def rX9_readRung_70 := W_aload0 (M := mX9_readRung) dX9_readRung_70 (q := 71) rfl
def rX9_readRung_70b := W_aloadR0 (M := mX9_readRung) dX9_readRung_70 (q := 71) rfl
def rX9_readRung_71 := W_getR (M := mX9_readRung) dX9_readRung_71 (q := 74) rfl fl9_161 ⟨_, rfl⟩
def rX9_readRung_74 := W_getA (M := mX9_readRung) dX9_readRung_74 (q := 77) rfl fl9_306 ⟨_, rfl⟩
def rX9_readRung_77 := W_aload0 (M := mX9_readRung) dX9_readRung_77 (q := 78) rfl
def rX9_readRung_77b := W_aloadR0 (M := mX9_readRung) dX9_readRung_77 (q := 78) rfl
def rX9_readRung_78 := W_getR (M := mX9_readRung) dX9_readRung_78 (q := 81) rfl fl9_161 ⟨_, rfl⟩
def rX9_readRung_81 := W_getI (M := mX9_readRung) dX9_readRung_81 (q := 84) rfl fl9_300 (Or.inl rfl)
def rX9_readRung_84 := W_iload2 (M := mX9_readRung) dX9_readRung_84 (q := 85) rfl
def rX9_readRung_85 := W_iast (M := mX9_readRung) dX9_readRung_85 (q := 86) rfl
def rX9_readRung_86 := W_aload0 (M := mX9_readRung) dX9_readRung_86 (q := 87) rfl
def rX9_readRung_86b := W_aloadR0 (M := mX9_readRung) dX9_readRung_86 (q := 87) rfl
def rX9_readRung_87 := W_getR (M := mX9_readRung) dX9_readRung_87 (q := 90) rfl fl9_161 ⟨_, rfl⟩
def rX9_readRung_90 := W_dupI (M := mX9_readRung) dX9_readRung_90 (q := 91) rfl
def rX9_readRung_90b := W_dupR (M := mX9_readRung) dX9_readRung_90 (q := 91) rfl
def rX9_readRung_91 := W_getI (M := mX9_readRung) dX9_readRung_91 (q := 94) rfl fl9_300 (Or.inl rfl)
def rX9_readRung_94 := W_iconst (M := mX9_readRung) dX9_readRung_94 (q := 95) rfl (v := (1)) rfl
def rX9_readRung_95 := W_iadd (M := mX9_readRung) dX9_readRung_95 (q := 96) rfl
def rX9_readRung_96 := W_putI (M := mX9_readRung) dX9_readRung_96 (q := 99) rfl fl9_300 rfl (Or.inl rfl)
def rX9_readRung_99 := W_vret (M := mX9_readRung) dX9_readRung_99 rfl
-- X9_readSpark
theorem eX9_readSpark {d : Nat} {h : qH} {Q : Option (Option Value) → qH → Prop} {s0 : Nat} : WM d mX9_readSpark [.ref s0] h Q = WP d mX9_readSpark (0, 0) 0 [some (.ref s0), none, none, none] [] h Q := rfl
def rX9_readSpark_0 := W_aload0 (M := mX9_readSpark) dX9_readSpark_0 (q := 1) rfl
def rX9_readSpark_0b := W_aloadR0 (M := mX9_readSpark) dX9_readSpark_0 (q := 1) rfl
def rX9_readSpark_1 := W_aload0 (M := mX9_readSpark) dX9_readSpark_1 (q := 2) rfl
def rX9_readSpark_1b := W_aloadR0 (M := mX9_readSpark) dX9_readSpark_1 (q := 2) rfl
def rX9_readSpark_2 := W_getR (M := mX9_readSpark) dX9_readSpark_2 (q := 5) rfl fl9_161 ⟨_, rfl⟩
def rX9_readSpark_5 := W_getI (M := mX9_readSpark) dX9_readSpark_5 (q := 8) rfl fl9_248 (Or.inl rfl)
def rX9_readSpark_8 := W_bipush (M := mX9_readSpark) dX9_readSpark_8 (q := 10) rfl (v := (9)) rfl
def rX9_readSpark_10 := W_invV2 (M := mX9_readSpark) dX9_readSpark_10 (q := 13) rfl ml0_9_219 rfl
def rX9_readSpark_13 := W_aload0 (M := mX9_readSpark) dX9_readSpark_13 (q := 14) rfl
def rX9_readSpark_13b := W_aloadR0 (M := mX9_readSpark) dX9_readSpark_13 (q := 14) rfl
def rX9_readSpark_14 := W_invV0 (M := mX9_readSpark) dX9_readSpark_14 (q := 17) rfl ml0_9_251 rfl
def rX9_readSpark_17 := W_istore1 (M := mX9_readSpark) dX9_readSpark_17 (q := 18) rfl
def rX9_readSpark_18 := W_aload0 (M := mX9_readSpark) dX9_readSpark_18 (q := 19) rfl
def rX9_readSpark_18b := W_aloadR0 (M := mX9_readSpark) dX9_readSpark_18 (q := 19) rfl
def rX9_readSpark_19 := W_invV0 (M := mX9_readSpark) dX9_readSpark_19 (q := 22) rfl ml0_9_178 rfl
def rX9_readSpark_22 := W_istore2 (M := mX9_readSpark) dX9_readSpark_22 (q := 23) rfl
def rX9_readSpark_23 := W_aload0 (M := mX9_readSpark) dX9_readSpark_23 (q := 24) rfl
def rX9_readSpark_23b := W_aloadR0 (M := mX9_readSpark) dX9_readSpark_23 (q := 24) rfl
def rX9_readSpark_24 := W_getI (M := mX9_readSpark) dX9_readSpark_24 (q := 27) rfl fl9_84 (Or.inl rfl)
def rX9_readSpark_27 := W_iconst (M := mX9_readSpark) dX9_readSpark_27 (q := 28) rfl (v := (5)) rfl
def rX9_readSpark_28 := W_icmp_eq (M := mX9_readSpark) dX9_readSpark_28 (q := 31) rfl (t := 53) rfl
def rX9_readSpark_31 := W_iload1 (M := mX9_readSpark) dX9_readSpark_31 (q := 32) rfl
def rX9_readSpark_32 := W_iload2 (M := mX9_readSpark) dX9_readSpark_32 (q := 33) rfl
def rX9_readSpark_33 := W_icmp_eq (M := mX9_readSpark) dX9_readSpark_33 (q := 36) rfl (t := 48) rfl
def rX9_readSpark_36 := W_aload0 (M := mX9_readSpark) dX9_readSpark_36 (q := 37) rfl
def rX9_readSpark_36b := W_aloadR0 (M := mX9_readSpark) dX9_readSpark_36 (q := 37) rfl
def rX9_readSpark_37 := W_getR (M := mX9_readSpark) dX9_readSpark_37 (q := 40) rfl fl9_161 ⟨_, rfl⟩
def rX9_readSpark_40 := W_iload1 (M := mX9_readSpark) dX9_readSpark_40 (q := 41) rfl
def rX9_readSpark_41 := W_iload2 (M := mX9_readSpark) dX9_readSpark_41 (q := 42) rfl
def rX9_readSpark_42 := W_invV2 (M := mX9_readSpark) dX9_readSpark_42 (q := 45) rfl ml0_9_254 rfl
def rX9_readSpark_45 := W_if_eq (M := mX9_readSpark) dX9_readSpark_45 (q := 48) rfl (t := 53) rfl
def rX9_readSpark_48 := W_aload0 (M := mX9_readSpark) dX9_readSpark_48 (q := 49) rfl
def rX9_readSpark_48b := W_aloadR0 (M := mX9_readSpark) dX9_readSpark_48 (q := 49) rfl
def rX9_readSpark_49 := W_iconst (M := mX9_readSpark) dX9_readSpark_49 (q := 50) rfl (v := (3)) rfl
def rX9_readSpark_50 := W_invV1 (M := mX9_readSpark) dX9_readSpark_50 (q := 53) rfl ml0_9_127 rfl
def rX9_readSpark_53 := W_aload0 (M := mX9_readSpark) dX9_readSpark_53 (q := 54) rfl
def rX9_readSpark_53b := W_aloadR0 (M := mX9_readSpark) dX9_readSpark_53 (q := 54) rfl
def rX9_readSpark_54 := W_invV0 (M := mX9_readSpark) dX9_readSpark_54 (q := 57) rfl ml0_9_120 rfl
def rX9_readSpark_57 := W_aload0 (M := mX9_readSpark) dX9_readSpark_57 (q := 58) rfl
def rX9_readSpark_57b := W_aloadR0 (M := mX9_readSpark) dX9_readSpark_57 (q := 58) rfl
def rX9_readSpark_58 := W_ldc_w (M := mX9_readSpark) dX9_readSpark_58 (q := 61) rfl cs9_258
def rX9_readSpark_61 := W_iconst (M := mX9_readSpark) dX9_readSpark_61 (q := 62) rfl (v := (0)) rfl
def rX9_readSpark_62 := W_bipush (M := mX9_readSpark) dX9_readSpark_62 (q := 64) rfl (v := (9)) rfl
def rX9_readSpark_64 := W_invV3 (M := mX9_readSpark) dX9_readSpark_64 (q := 67) rfl ml0_9_215 rfl
def rX9_readSpark_67 := W_istore3 (M := mX9_readSpark) dX9_readSpark_67 (q := 68) rfl
def rX9_readSpark_68 := W_aload0 (M := mX9_readSpark) dX9_readSpark_68 (q := 69) rfl
def rX9_readSpark_68b := W_aloadR0 (M := mX9_readSpark) dX9_readSpark_68 (q := 69) rfl
def rX9_readSpark_69 := W_getI (M := mX9_readSpark) dX9_readSpark_69 (q := 72) rfl fl9_84 (Or.inl rfl)
def rX9_readSpark_72 := W_iconst (M := mX9_readSpark) dX9_readSpark_72 (q := 73) rfl (v := (5)) rfl
def rX9_readSpark_73 := W_icmp_ne (M := mX9_readSpark) dX9_readSpark_73 (q := 76) rfl (t := 77) rfl
def rX9_readSpark_76 := W_vret (M := mX9_readSpark) dX9_readSpark_76 rfl
def rX9_readSpark_77 := W_aload0 (M := mX9_readSpark) dX9_readSpark_77 (q := 78) rfl
def rX9_readSpark_77b := W_aloadR0 (M := mX9_readSpark) dX9_readSpark_77 (q := 78) rfl
def rX9_readSpark_78 := W_getR (M := mX9_readSpark) dX9_readSpark_78 (q := 81) rfl fl9_161 ⟨_, rfl⟩
def rX9_readSpark_81 := W_getA (M := mX9_readSpark) dX9_readSpark_81 (q := 84) rfl fl9_260 ⟨_, rfl⟩
def rX9_readSpark_84 := W_aload0 (M := mX9_readSpark) dX9_readSpark_84 (q := 85) rfl
def rX9_readSpark_84b := W_aloadR0 (M := mX9_readSpark) dX9_readSpark_84 (q := 85) rfl
def rX9_readSpark_85 := W_getR (M := mX9_readSpark) dX9_readSpark_85 (q := 88) rfl fl9_161 ⟨_, rfl⟩
def rX9_readSpark_88 := W_getI (M := mX9_readSpark) dX9_readSpark_88 (q := 91) rfl fl9_248 (Or.inl rfl)
def rX9_readSpark_91 := W_iload1 (M := mX9_readSpark) dX9_readSpark_91 (q := 92) rfl
def rX9_readSpark_92 := W_iast (M := mX9_readSpark) dX9_readSpark_92 (q := 93) rfl
def rX9_readSpark_93 := W_aload0 (M := mX9_readSpark) dX9_readSpark_93 (q := 94) rfl
def rX9_readSpark_93b := W_aloadR0 (M := mX9_readSpark) dX9_readSpark_93 (q := 94) rfl
def rX9_readSpark_94 := W_getR (M := mX9_readSpark) dX9_readSpark_94 (q := 97) rfl fl9_161 ⟨_, rfl⟩
def rX9_readSpark_97 := W_getA (M := mX9_readSpark) dX9_readSpark_97 (q := 100) rfl fl9_263 ⟨_, rfl⟩
def rX9_readSpark_100 := W_aload0 (M := mX9_readSpark) dX9_readSpark_100 (q := 101) rfl
def rX9_readSpark_100b := W_aloadR0 (M := mX9_readSpark) dX9_readSpark_100 (q := 101) rfl
def rX9_readSpark_101 := W_getR (M := mX9_readSpark) dX9_readSpark_101 (q := 104) rfl fl9_161 ⟨_, rfl⟩
def rX9_readSpark_104 := W_getI (M := mX9_readSpark) dX9_readSpark_104 (q := 107) rfl fl9_248 (Or.inl rfl)
def rX9_readSpark_107 := W_iload2 (M := mX9_readSpark) dX9_readSpark_107 (q := 108) rfl
def rX9_readSpark_108 := W_iast (M := mX9_readSpark) dX9_readSpark_108 (q := 109) rfl
def rX9_readSpark_109 := W_aload0 (M := mX9_readSpark) dX9_readSpark_109 (q := 110) rfl
def rX9_readSpark_109b := W_aloadR0 (M := mX9_readSpark) dX9_readSpark_109 (q := 110) rfl
def rX9_readSpark_110 := W_getR (M := mX9_readSpark) dX9_readSpark_110 (q := 113) rfl fl9_161 ⟨_, rfl⟩
def rX9_readSpark_113 := W_getA (M := mX9_readSpark) dX9_readSpark_113 (q := 116) rfl fl9_266 ⟨_, rfl⟩
def rX9_readSpark_116 := W_aload0 (M := mX9_readSpark) dX9_readSpark_116 (q := 117) rfl
def rX9_readSpark_116b := W_aloadR0 (M := mX9_readSpark) dX9_readSpark_116 (q := 117) rfl
def rX9_readSpark_117 := W_getR (M := mX9_readSpark) dX9_readSpark_117 (q := 120) rfl fl9_161 ⟨_, rfl⟩
def rX9_readSpark_120 := W_getI (M := mX9_readSpark) dX9_readSpark_120 (q := 123) rfl fl9_248 (Or.inl rfl)
def rX9_readSpark_123 := W_iload3 (M := mX9_readSpark) dX9_readSpark_123 (q := 124) rfl
def rX9_readSpark_124 := W_iast (M := mX9_readSpark) dX9_readSpark_124 (q := 125) rfl
def rX9_readSpark_125 := W_aload0 (M := mX9_readSpark) dX9_readSpark_125 (q := 126) rfl
def rX9_readSpark_125b := W_aloadR0 (M := mX9_readSpark) dX9_readSpark_125 (q := 126) rfl
def rX9_readSpark_126 := W_getR (M := mX9_readSpark) dX9_readSpark_126 (q := 129) rfl fl9_161 ⟨_, rfl⟩
def rX9_readSpark_129 := W_dupI (M := mX9_readSpark) dX9_readSpark_129 (q := 130) rfl
def rX9_readSpark_129b := W_dupR (M := mX9_readSpark) dX9_readSpark_129 (q := 130) rfl
def rX9_readSpark_130 := W_getI (M := mX9_readSpark) dX9_readSpark_130 (q := 133) rfl fl9_248 (Or.inl rfl)
def rX9_readSpark_133 := W_iconst (M := mX9_readSpark) dX9_readSpark_133 (q := 134) rfl (v := (1)) rfl
def rX9_readSpark_134 := W_iadd (M := mX9_readSpark) dX9_readSpark_134 (q := 135) rfl
def rX9_readSpark_135 := W_putI (M := mX9_readSpark) dX9_readSpark_135 (q := 138) rfl fl9_248 rfl (Or.inl rfl)
def rX9_readSpark_138 := W_vret (M := mX9_readSpark) dX9_readSpark_138 rfl
-- X9_readStreet
theorem eX9_readStreet {d : Nat} {h : qH} {Q : Option (Option Value) → qH → Prop} {s0 : Nat} : WM d mX9_readStreet [.ref s0] h Q = WP d mX9_readStreet (0, 0) 0 [some (.ref s0), none] [] h Q := rfl
def rX9_readStreet_0 := W_aload0 (M := mX9_readStreet) dX9_readStreet_0 (q := 1) rfl
def rX9_readStreet_0b := W_aloadR0 (M := mX9_readStreet) dX9_readStreet_0 (q := 1) rfl
def rX9_readStreet_1 := W_getR (M := mX9_readStreet) dX9_readStreet_1 (q := 4) rfl fl9_161 ⟨_, rfl⟩
def rX9_readStreet_4 := W_getI (M := mX9_readStreet) dX9_readStreet_4 (q := 7) rfl fl9_165 (Or.inl rfl)
def rX9_readStreet_7 := W_iconst (M := mX9_readStreet) dX9_readStreet_7 (q := 8) rfl (v := (-1)) rfl
def rX9_readStreet_8 := W_icmp_eq (M := mX9_readStreet) dX9_readStreet_8 (q := 11) rfl (t := 16) rfl
def rX9_readStreet_11 := W_aload0 (M := mX9_readStreet) dX9_readStreet_11 (q := 12) rfl
def rX9_readStreet_11b := W_aloadR0 (M := mX9_readStreet) dX9_readStreet_11 (q := 12) rfl
def rX9_readStreet_12 := W_iconst (M := mX9_readStreet) dX9_readStreet_12 (q := 13) rfl (v := (3)) rfl
def rX9_readStreet_13 := W_invV1 (M := mX9_readStreet) dX9_readStreet_13 (q := 16) rfl ml0_9_127 rfl
def rX9_readStreet_16 := W_aload0 (M := mX9_readStreet) dX9_readStreet_16 (q := 17) rfl
def rX9_readStreet_16b := W_aloadR0 (M := mX9_readStreet) dX9_readStreet_16 (q := 17) rfl
def rX9_readStreet_17 := W_invV0 (M := mX9_readStreet) dX9_readStreet_17 (q := 20) rfl ml0_9_120 rfl
def rX9_readStreet_20 := W_aload0 (M := mX9_readStreet) dX9_readStreet_20 (q := 21) rfl
def rX9_readStreet_20b := W_aloadR0 (M := mX9_readStreet) dX9_readStreet_20 (q := 21) rfl
def rX9_readStreet_21 := W_ldc (M := mX9_readStreet) dX9_readStreet_21 (q := 23) rfl cs9_214
def rX9_readStreet_23 := W_iconst (M := mX9_readStreet) dX9_readStreet_23 (q := 24) rfl (v := (0)) rfl
def rX9_readStreet_24 := W_bipush (M := mX9_readStreet) dX9_readStreet_24 (q := 26) rfl (v := (9)) rfl
def rX9_readStreet_26 := W_invV3 (M := mX9_readStreet) dX9_readStreet_26 (q := 29) rfl ml0_9_215 rfl
def rX9_readStreet_29 := W_istore1 (M := mX9_readStreet) dX9_readStreet_29 (q := 30) rfl
def rX9_readStreet_30 := W_aload0 (M := mX9_readStreet) dX9_readStreet_30 (q := 31) rfl
def rX9_readStreet_30b := W_aloadR0 (M := mX9_readStreet) dX9_readStreet_30 (q := 31) rfl
def rX9_readStreet_31 := W_getI (M := mX9_readStreet) dX9_readStreet_31 (q := 34) rfl fl9_84 (Or.inl rfl)
def rX9_readStreet_34 := W_iconst (M := mX9_readStreet) dX9_readStreet_34 (q := 35) rfl (v := (5)) rfl
def rX9_readStreet_35 := W_icmp_eq (M := mX9_readStreet) dX9_readStreet_35 (q := 38) rfl (t := 46) rfl
def rX9_readStreet_38 := W_aload0 (M := mX9_readStreet) dX9_readStreet_38 (q := 39) rfl
def rX9_readStreet_38b := W_aloadR0 (M := mX9_readStreet) dX9_readStreet_38 (q := 39) rfl
def rX9_readStreet_39 := W_getR (M := mX9_readStreet) dX9_readStreet_39 (q := 42) rfl fl9_161 ⟨_, rfl⟩
def rX9_readStreet_42 := W_iload1 (M := mX9_readStreet) dX9_readStreet_42 (q := 43) rfl
def rX9_readStreet_43 := W_putI (M := mX9_readStreet) dX9_readStreet_43 (q := 46) rfl fl9_165 rfl (Or.inl rfl)
def rX9_readStreet_46 := W_vret (M := mX9_readStreet) dX9_readStreet_46 rfl
-- X9_readUnknown
theorem eX9_readUnknown {d : Nat} {h : qH} {Q : Option (Option Value) → qH → Prop} {s0 : Nat} : WM d mX9_readUnknown [.ref s0] h Q = WP d mX9_readUnknown (0, 0) 0 [some (.ref s0), none] [] h Q := rfl
def rX9_readUnknown_0 := W_aload0 (M := mX9_readUnknown) dX9_readUnknown_0 (q := 1) rfl
def rX9_readUnknown_0b := W_aloadR0 (M := mX9_readUnknown) dX9_readUnknown_0 (q := 1) rfl
def rX9_readUnknown_1 := W_aload0 (M := mX9_readUnknown) dX9_readUnknown_1 (q := 2) rfl
def rX9_readUnknown_1b := W_aloadR0 (M := mX9_readUnknown) dX9_readUnknown_1 (q := 2) rfl
def rX9_readUnknown_2 := W_getR (M := mX9_readUnknown) dX9_readUnknown_2 (q := 5) rfl fl9_161 ⟨_, rfl⟩
def rX9_readUnknown_5 := W_getI (M := mX9_readUnknown) dX9_readUnknown_5 (q := 8) rfl fl9_292 (Or.inl rfl)
def rX9_readUnknown_8 := W_iconst (M := mX9_readUnknown) dX9_readUnknown_8 (q := 9) rfl (v := (2)) rfl
def rX9_readUnknown_9 := W_invV2 (M := mX9_readUnknown) dX9_readUnknown_9 (q := 12) rfl ml0_9_219 rfl
def rX9_readUnknown_12 := W_aload0 (M := mX9_readUnknown) dX9_readUnknown_12 (q := 13) rfl
def rX9_readUnknown_12b := W_aloadR0 (M := mX9_readUnknown) dX9_readUnknown_12 (q := 13) rfl
def rX9_readUnknown_13 := W_invV0 (M := mX9_readUnknown) dX9_readUnknown_13 (q := 16) rfl ml0_9_178 rfl
def rX9_readUnknown_16 := W_istore1 (M := mX9_readUnknown) dX9_readUnknown_16 (q := 17) rfl
def rX9_readUnknown_17 := W_aload0 (M := mX9_readUnknown) dX9_readUnknown_17 (q := 18) rfl
def rX9_readUnknown_17b := W_aloadR0 (M := mX9_readUnknown) dX9_readUnknown_17 (q := 18) rfl
def rX9_readUnknown_18 := W_getI (M := mX9_readUnknown) dX9_readUnknown_18 (q := 21) rfl fl9_84 (Or.inl rfl)
def rX9_readUnknown_21 := W_iconst (M := mX9_readUnknown) dX9_readUnknown_21 (q := 22) rfl (v := (5)) rfl
def rX9_readUnknown_22 := W_icmp_eq (M := mX9_readUnknown) dX9_readUnknown_22 (q := 25) rfl (t := 41) rfl
def rX9_readUnknown_25 := W_aload0 (M := mX9_readUnknown) dX9_readUnknown_25 (q := 26) rfl
def rX9_readUnknown_25b := W_aloadR0 (M := mX9_readUnknown) dX9_readUnknown_25 (q := 26) rfl
def rX9_readUnknown_26 := W_getR (M := mX9_readUnknown) dX9_readUnknown_26 (q := 29) rfl fl9_161 ⟨_, rfl⟩
def rX9_readUnknown_29 := W_iload1 (M := mX9_readUnknown) dX9_readUnknown_29 (q := 30) rfl
def rX9_readUnknown_30 := W_invV1 (M := mX9_readUnknown) dX9_readUnknown_30 (q := 33) rfl ml0_9_295 rfl
def rX9_readUnknown_33 := W_if_eq (M := mX9_readUnknown) dX9_readUnknown_33 (q := 36) rfl (t := 41) rfl
def rX9_readUnknown_36 := W_aload0 (M := mX9_readUnknown) dX9_readUnknown_36 (q := 37) rfl
def rX9_readUnknown_36b := W_aloadR0 (M := mX9_readUnknown) dX9_readUnknown_36 (q := 37) rfl
def rX9_readUnknown_37 := W_iconst (M := mX9_readUnknown) dX9_readUnknown_37 (q := 38) rfl (v := (3)) rfl
def rX9_readUnknown_38 := W_invV1 (M := mX9_readUnknown) dX9_readUnknown_38 (q := 41) rfl ml0_9_127 rfl
def rX9_readUnknown_41 := W_aload0 (M := mX9_readUnknown) dX9_readUnknown_41 (q := 42) rfl
def rX9_readUnknown_41b := W_aloadR0 (M := mX9_readUnknown) dX9_readUnknown_41 (q := 42) rfl
def rX9_readUnknown_42 := W_invV0 (M := mX9_readUnknown) dX9_readUnknown_42 (q := 45) rfl ml0_9_120 rfl
def rX9_readUnknown_45 := W_aload0 (M := mX9_readUnknown) dX9_readUnknown_45 (q := 46) rfl
def rX9_readUnknown_45b := W_aloadR0 (M := mX9_readUnknown) dX9_readUnknown_45 (q := 46) rfl
def rX9_readUnknown_46 := W_getI (M := mX9_readUnknown) dX9_readUnknown_46 (q := 49) rfl fl9_84 (Or.inl rfl)
def rX9_readUnknown_49 := W_iconst (M := mX9_readUnknown) dX9_readUnknown_49 (q := 50) rfl (v := (5)) rfl
def rX9_readUnknown_50 := W_icmp_ne (M := mX9_readUnknown) dX9_readUnknown_50 (q := 53) rfl (t := 54) rfl
def rX9_readUnknown_53 := W_vret (M := mX9_readUnknown) dX9_readUnknown_53 rfl
def rX9_readUnknown_54 := W_aload0 (M := mX9_readUnknown) dX9_readUnknown_54 (q := 55) rfl
def rX9_readUnknown_54b := W_aloadR0 (M := mX9_readUnknown) dX9_readUnknown_54 (q := 55) rfl
def rX9_readUnknown_55 := W_getR (M := mX9_readUnknown) dX9_readUnknown_55 (q := 58) rfl fl9_161 ⟨_, rfl⟩
def rX9_readUnknown_58 := W_getA (M := mX9_readUnknown) dX9_readUnknown_58 (q := 61) rfl fl9_298 ⟨_, rfl⟩
def rX9_readUnknown_61 := W_aload0 (M := mX9_readUnknown) dX9_readUnknown_61 (q := 62) rfl
def rX9_readUnknown_61b := W_aloadR0 (M := mX9_readUnknown) dX9_readUnknown_61 (q := 62) rfl
def rX9_readUnknown_62 := W_getR (M := mX9_readUnknown) dX9_readUnknown_62 (q := 65) rfl fl9_161 ⟨_, rfl⟩
def rX9_readUnknown_65 := W_getI (M := mX9_readUnknown) dX9_readUnknown_65 (q := 68) rfl fl9_292 (Or.inl rfl)
def rX9_readUnknown_68 := W_iload1 (M := mX9_readUnknown) dX9_readUnknown_68 (q := 69) rfl
def rX9_readUnknown_69 := W_iast (M := mX9_readUnknown) dX9_readUnknown_69 (q := 70) rfl
def rX9_readUnknown_70 := W_aload0 (M := mX9_readUnknown) dX9_readUnknown_70 (q := 71) rfl
def rX9_readUnknown_70b := W_aloadR0 (M := mX9_readUnknown) dX9_readUnknown_70 (q := 71) rfl
def rX9_readUnknown_71 := W_getR (M := mX9_readUnknown) dX9_readUnknown_71 (q := 74) rfl fl9_161 ⟨_, rfl⟩
def rX9_readUnknown_74 := W_dupI (M := mX9_readUnknown) dX9_readUnknown_74 (q := 75) rfl
def rX9_readUnknown_74b := W_dupR (M := mX9_readUnknown) dX9_readUnknown_74 (q := 75) rfl
def rX9_readUnknown_75 := W_getI (M := mX9_readUnknown) dX9_readUnknown_75 (q := 78) rfl fl9_292 (Or.inl rfl)
def rX9_readUnknown_78 := W_iconst (M := mX9_readUnknown) dX9_readUnknown_78 (q := 79) rfl (v := (1)) rfl
def rX9_readUnknown_79 := W_iadd (M := mX9_readUnknown) dX9_readUnknown_79 (q := 80) rfl
def rX9_readUnknown_80 := W_putI (M := mX9_readUnknown) dX9_readUnknown_80 (q := 83) rfl fl9_292 rfl (Or.inl rfl)
def rX9_readUnknown_83 := W_vret (M := mX9_readUnknown) dX9_readUnknown_83 rfl
-- X9_readWhole
theorem eX9_readWhole {d : Nat} {h : qH} {Q : Option (Option Value) → qH → Prop} {s0 : Nat} {x1 : Int32} {x2 : Int32} : WM d mX9_readWhole [.ref s0, .int x1, .int x2] h Q = WP d mX9_readWhole (0, 0) 0 [some (.ref s0), some (.int x1), some (.int x2), none] [] h Q := rfl
def rX9_readWhole_0 := W_aload0 (M := mX9_readWhole) dX9_readWhole_0 (q := 1) rfl
def rX9_readWhole_0b := W_aloadR0 (M := mX9_readWhole) dX9_readWhole_0 (q := 1) rfl
def rX9_readWhole_1 := W_getI (M := mX9_readWhole) dX9_readWhole_1 (q := 4) rfl fl9_84 (Or.inl rfl)
def rX9_readWhole_4 := W_iconst (M := mX9_readWhole) dX9_readWhole_4 (q := 5) rfl (v := (3)) rfl
def rX9_readWhole_5 := W_icmp_eq (M := mX9_readWhole) dX9_readWhole_5 (q := 8) rfl (t := 16) rfl
def rX9_readWhole_8 := W_aload0 (M := mX9_readWhole) dX9_readWhole_8 (q := 9) rfl
def rX9_readWhole_8b := W_aloadR0 (M := mX9_readWhole) dX9_readWhole_8 (q := 9) rfl
def rX9_readWhole_9 := W_iconst (M := mX9_readWhole) dX9_readWhole_9 (q := 10) rfl (v := (1)) rfl
def rX9_readWhole_10 := W_invV1 (M := mX9_readWhole) dX9_readWhole_10 (q := 13) rfl ml0_9_127 rfl
def rX9_readWhole_13 := W_goto (M := mX9_readWhole) dX9_readWhole_13 (t := 33) rfl
def rX9_readWhole_16 := W_aload0 (M := mX9_readWhole) dX9_readWhole_16 (q := 17) rfl
def rX9_readWhole_16b := W_aloadR0 (M := mX9_readWhole) dX9_readWhole_16 (q := 17) rfl
def rX9_readWhole_17 := W_getI (M := mX9_readWhole) dX9_readWhole_17 (q := 20) rfl fl9_107 (Or.inl rfl)
def rX9_readWhole_20 := W_iload1 (M := mX9_readWhole) dX9_readWhole_20 (q := 21) rfl
def rX9_readWhole_21 := W_iload2 (M := mX9_readWhole) dX9_readWhole_21 (q := 22) rfl
def rX9_readWhole_22 := W_invS3 (M := mX9_readWhole) dX9_readWhole_22 (q := 25) rfl ml1_9_131 rfl rfl rfl
def rX9_readWhole_25 := W_if_ne (M := mX9_readWhole) dX9_readWhole_25 (q := 28) rfl (t := 33) rfl
def rX9_readWhole_28 := W_aload0 (M := mX9_readWhole) dX9_readWhole_28 (q := 29) rfl
def rX9_readWhole_28b := W_aloadR0 (M := mX9_readWhole) dX9_readWhole_28 (q := 29) rfl
def rX9_readWhole_29 := W_iconst (M := mX9_readWhole) dX9_readWhole_29 (q := 30) rfl (v := (4)) rfl
def rX9_readWhole_30 := W_invV1 (M := mX9_readWhole) dX9_readWhole_30 (q := 33) rfl ml0_9_127 rfl
def rX9_readWhole_33 := W_aload0 (M := mX9_readWhole) dX9_readWhole_33 (q := 34) rfl
def rX9_readWhole_33b := W_aloadR0 (M := mX9_readWhole) dX9_readWhole_33 (q := 34) rfl
def rX9_readWhole_34 := W_getI (M := mX9_readWhole) dX9_readWhole_34 (q := 37) rfl fl9_84 (Or.inl rfl)
def rX9_readWhole_37 := W_iconst (M := mX9_readWhole) dX9_readWhole_37 (q := 38) rfl (v := (5)) rfl
def rX9_readWhole_38 := W_icmp_ne (M := mX9_readWhole) dX9_readWhole_38 (q := 41) rfl (t := 45) rfl
def rX9_readWhole_41 := W_iload1 (M := mX9_readWhole) dX9_readWhole_41 (q := 42) rfl
def rX9_readWhole_42 := W_goto (M := mX9_readWhole) dX9_readWhole_42 (t := 49) rfl
def rX9_readWhole_45 := W_aload0 (M := mX9_readWhole) dX9_readWhole_45 (q := 46) rfl
def rX9_readWhole_45b := W_aloadR0 (M := mX9_readWhole) dX9_readWhole_45 (q := 46) rfl
def rX9_readWhole_46 := W_getI (M := mX9_readWhole) dX9_readWhole_46 (q := 49) rfl fl9_107 (Or.inl rfl)
def rX9_readWhole_49 := W_istore3 (M := mX9_readWhole) dX9_readWhole_49 (q := 50) rfl
def rX9_readWhole_50 := W_aload0 (M := mX9_readWhole) dX9_readWhole_50 (q := 51) rfl
def rX9_readWhole_50b := W_aloadR0 (M := mX9_readWhole) dX9_readWhole_50 (q := 51) rfl
def rX9_readWhole_51 := W_invV0 (M := mX9_readWhole) dX9_readWhole_51 (q := 54) rfl ml0_9_120 rfl
def rX9_readWhole_54 := W_iload3 (M := mX9_readWhole) dX9_readWhole_54 (q := 55) rfl
def rX9_readWhole_55 := W_iret (M := mX9_readWhole) dX9_readWhole_55 rfl
-- X9_refused
theorem eX9_refused {d : Nat} {h : qH} {Q : Option (Option Value) → qH → Prop} {s0 : Nat} {x1 : Int32} : WM d mX9_refused [.ref s0, .int x1] h Q = WP d mX9_refused (0, 0) 0 [some (.ref s0), some (.int x1)] [] h Q := rfl
def rX9_refused_0 := W_aload0 (M := mX9_refused) dX9_refused_0 (q := 1) rfl
def rX9_refused_0b := W_aloadR0 (M := mX9_refused) dX9_refused_0 (q := 1) rfl
def rX9_refused_1 := W_iload1 (M := mX9_refused) dX9_refused_1 (q := 2) rfl
def rX9_refused_2 := W_putI (M := mX9_refused) dX9_refused_2 (q := 5) rfl fl9_55 rfl (Or.inl rfl)
def rX9_refused_5 := W_aload0 (M := mX9_refused) dX9_refused_5 (q := 6) rfl
def rX9_refused_5b := W_aloadR0 (M := mX9_refused) dX9_refused_5 (q := 6) rfl
def rX9_refused_6 := W_iconst (M := mX9_refused) dX9_refused_6 (q := 7) rfl (v := (-1)) rfl
def rX9_refused_7 := W_putI (M := mX9_refused) dX9_refused_7 (q := 10) rfl fl9_9 rfl (Or.inl rfl)
def rX9_refused_10 := W_iconst (M := mX9_refused) dX9_refused_10 (q := 11) rfl (v := (-1)) rfl
def rX9_refused_11 := W_iret (M := mX9_refused) dX9_refused_11 rfl
-- X9_refusesDay
theorem eX9_refusesDay {d : Nat} {h : qH} {Q : Option (Option Value) → qH → Prop} {s0 : Nat} {x1 : Int32} {x2 : Int32} {x3 : Int32} : WM d mX9_refusesDay [.ref s0, .int x1, .int x2, .int x3] h Q = WP d mX9_refusesDay (0, 0) 0 [some (.ref s0), some (.int x1), some (.int x2), some (.int x3)] [] h Q := rfl
def rX9_refusesDay_0 := W_iload1 (M := mX9_refusesDay) dX9_refusesDay_0 (q := 1) rfl
def rX9_refusesDay_1 := W_if_ne (M := mX9_refusesDay) dX9_refusesDay_1 (q := 4) rfl (t := 8) rfl
def rX9_refusesDay_4 := W_iconst (M := mX9_refusesDay) dX9_refusesDay_4 (q := 5) rfl (v := (1)) rfl
def rX9_refusesDay_5 := W_goto (M := mX9_refusesDay) dX9_refusesDay_5 (t := 23) rfl
def rX9_refusesDay_8 := W_iload2 (M := mX9_refusesDay) dX9_refusesDay_8 (q := 9) rfl
def rX9_refusesDay_9 := W_iload3 (M := mX9_refusesDay) dX9_refusesDay_9 (q := 10) rfl
def rX9_refusesDay_10 := W_bipush (M := mX9_refusesDay) dX9_refusesDay_10 (q := 12) rfl (v := (90)) rfl
def rX9_refusesDay_12 := W_invS3 (M := mX9_refusesDay) dX9_refusesDay_12 (q := 15) rfl ml1_9_131 rfl rfl rfl
def rX9_refusesDay_15 := W_if_eq (M := mX9_refusesDay) dX9_refusesDay_15 (q := 18) rfl (t := 22) rfl
def rX9_refusesDay_18 := W_iconst (M := mX9_refusesDay) dX9_refusesDay_18 (q := 19) rfl (v := (0)) rfl
def rX9_refusesDay_19 := W_goto (M := mX9_refusesDay) dX9_refusesDay_19 (t := 23) rfl
def rX9_refusesDay_22 := W_iconst (M := mX9_refusesDay) dX9_refusesDay_22 (q := 23) rfl (v := (2)) rfl
def rX9_refusesDay_23 := W_iret (M := mX9_refusesDay) dX9_refusesDay_23 rfl
-- X9_refusesTold
theorem eX9_refusesTold {d : Nat} {h : qH} {Q : Option (Option Value) → qH → Prop} {s0 : Nat} {x1 : Int32} : WM d mX9_refusesTold [.ref s0, .int x1] h Q = WP d mX9_refusesTold (0, 0) 0 [some (.ref s0), some (.int x1)] [] h Q := rfl
def rX9_refusesTold_0 := W_aload0 (M := mX9_refusesTold) dX9_refusesTold_0 (q := 1) rfl
def rX9_refusesTold_0b := W_aloadR0 (M := mX9_refusesTold) dX9_refusesTold_0 (q := 1) rfl
def rX9_refusesTold_1 := W_iload1 (M := mX9_refusesTold) dX9_refusesTold_1 (q := 2) rfl
def rX9_refusesTold_2 := W_invV1 (M := mX9_refusesTold) dX9_refusesTold_2 (q := 5) rfl ml0_9_345 rfl
def rX9_refusesTold_5 := W_if_ne (M := mX9_refusesTold) dX9_refusesTold_5 (q := 8) rfl (t := 10) rfl
def rX9_refusesTold_8 := W_iconst (M := mX9_refusesTold) dX9_refusesTold_8 (q := 9) rfl (v := (1)) rfl
def rX9_refusesTold_9 := W_iret (M := mX9_refusesTold) dX9_refusesTold_9 rfl
def rX9_refusesTold_10 := W_aload0 (M := mX9_refusesTold) dX9_refusesTold_10 (q := 11) rfl
def rX9_refusesTold_10b := W_aloadR0 (M := mX9_refusesTold) dX9_refusesTold_10 (q := 11) rfl
def rX9_refusesTold_11 := W_invV0 (M := mX9_refusesTold) dX9_refusesTold_11 (q := 14) rfl ml0_9_348 rfl
def rX9_refusesTold_14 := W_aload0 (M := mX9_refusesTold) dX9_refusesTold_14 (q := 15) rfl
def rX9_refusesTold_14b := W_aloadR0 (M := mX9_refusesTold) dX9_refusesTold_14 (q := 15) rfl
def rX9_refusesTold_15 := W_getA (M := mX9_refusesTold) dX9_refusesTold_15 (q := 18) rfl fl9_30 ⟨_, rfl⟩
def rX9_refusesTold_18 := W_iload1 (M := mX9_refusesTold) dX9_refusesTold_18 (q := 19) rfl
def rX9_refusesTold_19 := W_iald (M := mX9_refusesTold) dX9_refusesTold_19 (q := 20) rfl
def rX9_refusesTold_20 := W_aload0 (M := mX9_refusesTold) dX9_refusesTold_20 (q := 21) rfl
def rX9_refusesTold_20b := W_aloadR0 (M := mX9_refusesTold) dX9_refusesTold_20 (q := 21) rfl
def rX9_refusesTold_21 := W_getA (M := mX9_refusesTold) dX9_refusesTold_21 (q := 24) rfl fl9_21 ⟨_, rfl⟩
def rX9_refusesTold_24 := W_bipush (M := mX9_refusesTold) dX9_refusesTold_24 (q := 26) rfl (v := (9)) rfl
def rX9_refusesTold_26 := W_iald (M := mX9_refusesTold) dX9_refusesTold_26 (q := 27) rfl
def rX9_refusesTold_27 := W_icmp_gt (M := mX9_refusesTold) dX9_refusesTold_27 (q := 30) rfl (t := 34) rfl
def rX9_refusesTold_30 := W_iconst (M := mX9_refusesTold) dX9_refusesTold_30 (q := 31) rfl (v := (5)) rfl
def rX9_refusesTold_31 := W_goto (M := mX9_refusesTold) dX9_refusesTold_31 (t := 35) rfl
def rX9_refusesTold_34 := W_iconst (M := mX9_refusesTold) dX9_refusesTold_34 (q := 35) rfl (v := (0)) rfl
def rX9_refusesTold_35 := W_iret (M := mX9_refusesTold) dX9_refusesTold_35 rfl
-- X9_refusesYears
theorem eX9_refusesYears {d : Nat} {h : qH} {Q : Option (Option Value) → qH → Prop} {s0 : Nat} {x1 : Int32} {x2 : Int32} {x3 : Int32} : WM d mX9_refusesYears [.ref s0, .int x1, .int x2, .int x3] h Q = WP d mX9_refusesYears (0, 0) 0 [some (.ref s0), some (.int x1), some (.int x2), some (.int x3)] [] h Q := rfl
def rX9_refusesYears_0 := W_iload1 (M := mX9_refusesYears) dX9_refusesYears_0 (q := 1) rfl
def rX9_refusesYears_1 := W_if_ne (M := mX9_refusesYears) dX9_refusesYears_1 (q := 4) rfl (t := 8) rfl
def rX9_refusesYears_4 := W_iconst (M := mX9_refusesYears) dX9_refusesYears_4 (q := 5) rfl (v := (1)) rfl
def rX9_refusesYears_5 := W_goto (M := mX9_refusesYears) dX9_refusesYears_5 (t := 34) rfl
def rX9_refusesYears_8 := W_iload2 (M := mX9_refusesYears) dX9_refusesYears_8 (q := 9) rfl
def rX9_refusesYears_9 := W_iconst (M := mX9_refusesYears) dX9_refusesYears_9 (q := 10) rfl (v := (0)) rfl
def rX9_refusesYears_10 := W_ldc_w (M := mX9_refusesYears) dX9_refusesYears_10 (q := 13) rfl cs9_455
def rX9_refusesYears_13 := W_invS3 (M := mX9_refusesYears) dX9_refusesYears_13 (q := 16) rfl ml1_9_131 rfl rfl rfl
def rX9_refusesYears_16 := W_if_eq (M := mX9_refusesYears) dX9_refusesYears_16 (q := 19) rfl (t := 33) rfl
def rX9_refusesYears_19 := W_iload3 (M := mX9_refusesYears) dX9_refusesYears_19 (q := 20) rfl
def rX9_refusesYears_20 := W_iconst (M := mX9_refusesYears) dX9_refusesYears_20 (q := 21) rfl (v := (0)) rfl
def rX9_refusesYears_21 := W_bipush (M := mX9_refusesYears) dX9_refusesYears_21 (q := 23) rfl (v := (60)) rfl
def rX9_refusesYears_23 := W_invS3 (M := mX9_refusesYears) dX9_refusesYears_23 (q := 26) rfl ml1_9_131 rfl rfl rfl
def rX9_refusesYears_26 := W_if_eq (M := mX9_refusesYears) dX9_refusesYears_26 (q := 29) rfl (t := 33) rfl
def rX9_refusesYears_29 := W_iconst (M := mX9_refusesYears) dX9_refusesYears_29 (q := 30) rfl (v := (0)) rfl
def rX9_refusesYears_30 := W_goto (M := mX9_refusesYears) dX9_refusesYears_30 (t := 34) rfl
def rX9_refusesYears_33 := W_iconst (M := mX9_refusesYears) dX9_refusesYears_33 (q := 34) rfl (v := (2)) rfl
def rX9_refusesYears_34 := W_iret (M := mX9_refusesYears) dX9_refusesYears_34 rfl
-- X9_remembers
theorem eX9_remembers {d : Nat} {h : qH} {Q : Option (Option Value) → qH → Prop} {s0 : Nat} : WM d mX9_remembers [.ref s0] h Q = WP d mX9_remembers (0, 0) 0 [some (.ref s0), none] [] h Q := rfl
def rX9_remembers_0 := W_aload0 (M := mX9_remembers) dX9_remembers_0 (q := 1) rfl
def rX9_remembers_0b := W_aloadR0 (M := mX9_remembers) dX9_remembers_0 (q := 1) rfl
def rX9_remembers_1 := W_getI (M := mX9_remembers) dX9_remembers_1 (q := 4) rfl fl9_321 (Or.inl rfl)
def rX9_remembers_4 := W_bipush (M := mX9_remembers) dX9_remembers_4 (q := 6) rfl (v := (16)) rfl
def rX9_remembers_6 := W_icmp_ne (M := mX9_remembers) dX9_remembers_6 (q := 9) rfl (t := 49) rfl
def rX9_remembers_9 := W_iconst (M := mX9_remembers) dX9_remembers_9 (q := 10) rfl (v := (0)) rfl
def rX9_remembers_10 := W_istore1 (M := mX9_remembers) dX9_remembers_10 (q := 11) rfl
def rX9_remembers_11 := W_iload1 (M := mX9_remembers) dX9_remembers_11 (q := 12) rfl
def rX9_remembers_12 := W_sipush (M := mX9_remembers) dX9_remembers_12 (q := 15) rfl (v := (150)) rfl
def rX9_remembers_15 := W_icmp_ge (M := mX9_remembers) dX9_remembers_15 (q := 18) rfl (t := 39) rfl
def rX9_remembers_18 := W_aload0 (M := mX9_remembers) dX9_remembers_18 (q := 19) rfl
def rX9_remembers_18b := W_aloadR0 (M := mX9_remembers) dX9_remembers_18 (q := 19) rfl
def rX9_remembers_19 := W_getA (M := mX9_remembers) dX9_remembers_19 (q := 22) rfl fl9_24 ⟨_, rfl⟩
def rX9_remembers_22 := W_iload1 (M := mX9_remembers) dX9_remembers_22 (q := 23) rfl
def rX9_remembers_23 := W_aload0 (M := mX9_remembers) dX9_remembers_23 (q := 24) rfl
def rX9_remembers_23b := W_aloadR0 (M := mX9_remembers) dX9_remembers_23 (q := 24) rfl
def rX9_remembers_24 := W_getA (M := mX9_remembers) dX9_remembers_24 (q := 27) rfl fl9_24 ⟨_, rfl⟩
def rX9_remembers_27 := W_iload1 (M := mX9_remembers) dX9_remembers_27 (q := 28) rfl
def rX9_remembers_28 := W_bipush (M := mX9_remembers) dX9_remembers_28 (q := 30) rfl (v := (10)) rfl
def rX9_remembers_30 := W_iadd (M := mX9_remembers) dX9_remembers_30 (q := 31) rfl
def rX9_remembers_31 := W_iald (M := mX9_remembers) dX9_remembers_31 (q := 32) rfl
def rX9_remembers_32 := W_iast (M := mX9_remembers) dX9_remembers_32 (q := 33) rfl
def rX9_remembers_33 := W_iinc1 (M := mX9_remembers) dX9_remembers_33 (q := 36) rfl (v := (1)) rfl
def rX9_remembers_36 := W_goto (M := mX9_remembers) dX9_remembers_36 (t := 11) rfl
def rX9_remembers_39 := W_aload0 (M := mX9_remembers) dX9_remembers_39 (q := 40) rfl
def rX9_remembers_39b := W_aloadR0 (M := mX9_remembers) dX9_remembers_39 (q := 40) rfl
def rX9_remembers_40 := W_dupI (M := mX9_remembers) dX9_remembers_40 (q := 41) rfl
def rX9_remembers_40b := W_dupR (M := mX9_remembers) dX9_remembers_40 (q := 41) rfl
def rX9_remembers_41 := W_getI (M := mX9_remembers) dX9_remembers_41 (q := 44) rfl fl9_321 (Or.inl rfl)
def rX9_remembers_44 := W_iconst (M := mX9_remembers) dX9_remembers_44 (q := 45) rfl (v := (1)) rfl
def rX9_remembers_45 := W_isub (M := mX9_remembers) dX9_remembers_45 (q := 46) rfl
def rX9_remembers_46 := W_putI (M := mX9_remembers) dX9_remembers_46 (q := 49) rfl fl9_321 rfl (Or.inl rfl)
def rX9_remembers_49 := W_iconst (M := mX9_remembers) dX9_remembers_49 (q := 50) rfl (v := (0)) rfl
def rX9_remembers_50 := W_istore1 (M := mX9_remembers) dX9_remembers_50 (q := 51) rfl
def rX9_remembers_51 := W_iload1 (M := mX9_remembers) dX9_remembers_51 (q := 52) rfl
def rX9_remembers_52 := W_bipush (M := mX9_remembers) dX9_remembers_52 (q := 54) rfl (v := (10)) rfl
def rX9_remembers_54 := W_icmp_ge (M := mX9_remembers) dX9_remembers_54 (q := 57) rfl (t := 83) rfl
def rX9_remembers_57 := W_aload0 (M := mX9_remembers) dX9_remembers_57 (q := 58) rfl
def rX9_remembers_57b := W_aloadR0 (M := mX9_remembers) dX9_remembers_57 (q := 58) rfl
def rX9_remembers_58 := W_getA (M := mX9_remembers) dX9_remembers_58 (q := 61) rfl fl9_24 ⟨_, rfl⟩
def rX9_remembers_61 := W_bipush (M := mX9_remembers) dX9_remembers_61 (q := 63) rfl (v := (10)) rfl
def rX9_remembers_63 := W_aload0 (M := mX9_remembers) dX9_remembers_63 (q := 64) rfl
def rX9_remembers_63b := W_aloadR0 (M := mX9_remembers) dX9_remembers_63 (q := 64) rfl
def rX9_remembers_64 := W_getI (M := mX9_remembers) dX9_remembers_64 (q := 67) rfl fl9_321 (Or.inl rfl)
def rX9_remembers_67 := W_imul (M := mX9_remembers) dX9_remembers_67 (q := 68) rfl
def rX9_remembers_68 := W_iload1 (M := mX9_remembers) dX9_remembers_68 (q := 69) rfl
def rX9_remembers_69 := W_iadd (M := mX9_remembers) dX9_remembers_69 (q := 70) rfl
def rX9_remembers_70 := W_aload0 (M := mX9_remembers) dX9_remembers_70 (q := 71) rfl
def rX9_remembers_70b := W_aloadR0 (M := mX9_remembers) dX9_remembers_70 (q := 71) rfl
def rX9_remembers_71 := W_getA (M := mX9_remembers) dX9_remembers_71 (q := 74) rfl fl9_17 ⟨_, rfl⟩
def rX9_remembers_74 := W_iload1 (M := mX9_remembers) dX9_remembers_74 (q := 75) rfl
def rX9_remembers_75 := W_iald (M := mX9_remembers) dX9_remembers_75 (q := 76) rfl
def rX9_remembers_76 := W_iast (M := mX9_remembers) dX9_remembers_76 (q := 77) rfl
def rX9_remembers_77 := W_iinc1 (M := mX9_remembers) dX9_remembers_77 (q := 80) rfl (v := (1)) rfl
def rX9_remembers_80 := W_goto (M := mX9_remembers) dX9_remembers_80 (t := 51) rfl
def rX9_remembers_83 := W_aload0 (M := mX9_remembers) dX9_remembers_83 (q := 84) rfl
def rX9_remembers_83b := W_aloadR0 (M := mX9_remembers) dX9_remembers_83 (q := 84) rfl
def rX9_remembers_84 := W_dupI (M := mX9_remembers) dX9_remembers_84 (q := 85) rfl
def rX9_remembers_84b := W_dupR (M := mX9_remembers) dX9_remembers_84 (q := 85) rfl
def rX9_remembers_85 := W_getI (M := mX9_remembers) dX9_remembers_85 (q := 88) rfl fl9_321 (Or.inl rfl)
def rX9_remembers_88 := W_iconst (M := mX9_remembers) dX9_remembers_88 (q := 89) rfl (v := (1)) rfl
def rX9_remembers_89 := W_iadd (M := mX9_remembers) dX9_remembers_89 (q := 90) rfl
def rX9_remembers_90 := W_putI (M := mX9_remembers) dX9_remembers_90 (q := 93) rfl fl9_321 rfl (Or.inl rfl)
def rX9_remembers_93 := W_vret (M := mX9_remembers) dX9_remembers_93 rfl
-- X9_rest
theorem eX9_rest {d : Nat} {h : qH} {Q : Option (Option Value) → qH → Prop} {s0 : Nat} : WM d mX9_rest [.ref s0] h Q = WP d mX9_rest (0, 0) 0 [some (.ref s0), none] [] h Q := rfl
def rX9_rest_0 := W_aload0 (M := mX9_rest) dX9_rest_0 (q := 1) rfl
def rX9_rest_0b := W_aloadR0 (M := mX9_rest) dX9_rest_0 (q := 1) rfl
def rX9_rest_1 := W_iconst (M := mX9_rest) dX9_rest_1 (q := 2) rfl (v := (0)) rfl
def rX9_rest_2 := W_putI (M := mX9_rest) dX9_rest_2 (q := 5) rfl fl9_52 rfl (Or.inl rfl)
def rX9_rest_5 := W_aload0 (M := mX9_rest) dX9_rest_5 (q := 6) rfl
def rX9_rest_5b := W_aloadR0 (M := mX9_rest) dX9_rest_5 (q := 6) rfl
def rX9_rest_6 := W_getR (M := mX9_rest) dX9_rest_6 (q := 9) rfl fl9_316 ⟨_, rfl⟩
def rX9_rest_9 := W_ifnonnull (M := mX9_rest) dX9_rest_9 (q := 12) rfl (t := 18) rfl
def rX9_rest_9b := W_ifnonnullN (M := mX9_rest) dX9_rest_9 (q := 12) rfl (t := 18) rfl
def rX9_rest_12 := W_aload0 (M := mX9_rest) dX9_rest_12 (q := 13) rfl
def rX9_rest_12b := W_aloadR0 (M := mX9_rest) dX9_rest_12 (q := 13) rfl
def rX9_rest_13 := W_iconst (M := mX9_rest) dX9_rest_13 (q := 14) rfl (v := (1)) rfl
def rX9_rest_14 := W_invV1 (M := mX9_rest) dX9_rest_14 (q := 17) rfl ml0_9_58 rfl
def rX9_rest_17 := W_iret (M := mX9_rest) dX9_rest_17 rfl
def rX9_rest_18 := W_iconst (M := mX9_rest) dX9_rest_18 (q := 19) rfl (v := (0)) rfl
def rX9_rest_19 := W_istore1 (M := mX9_rest) dX9_rest_19 (q := 20) rfl
def rX9_rest_20 := W_iload1 (M := mX9_rest) dX9_rest_20 (q := 21) rfl
def rX9_rest_21 := W_iconst (M := mX9_rest) dX9_rest_21 (q := 22) rfl (v := (4)) rfl
def rX9_rest_22 := W_icmp_ge (M := mX9_rest) dX9_rest_22 (q := 25) rfl (t := 54) rfl
def rX9_rest_25 := W_aload0 (M := mX9_rest) dX9_rest_25 (q := 26) rfl
def rX9_rest_25b := W_aloadR0 (M := mX9_rest) dX9_rest_25 (q := 26) rfl
def rX9_rest_26 := W_iload1 (M := mX9_rest) dX9_rest_26 (q := 27) rfl
def rX9_rest_27 := W_invV1 (M := mX9_rest) dX9_rest_27 (q := 30) rfl ml0_9_425 rfl
def rX9_rest_30 := W_if_eq (M := mX9_rest) dX9_rest_30 (q := 33) rfl (t := 48) rfl
def rX9_rest_33 := W_aload0 (M := mX9_rest) dX9_rest_33 (q := 34) rfl
def rX9_rest_33b := W_aloadR0 (M := mX9_rest) dX9_rest_33 (q := 34) rfl
def rX9_rest_34 := W_bipush (M := mX9_rest) dX9_rest_34 (q := 36) rfl (v := (10)) rfl
def rX9_rest_36 := W_iload1 (M := mX9_rest) dX9_rest_36 (q := 37) rfl
def rX9_rest_37 := W_iconst (M := mX9_rest) dX9_rest_37 (q := 38) rfl (v := (2)) rfl
def rX9_rest_38 := W_idiv (M := mX9_rest) dX9_rest_38 (q := 39) rfl
def rX9_rest_39 := W_imul (M := mX9_rest) dX9_rest_39 (q := 40) rfl
def rX9_rest_40 := W_iload1 (M := mX9_rest) dX9_rest_40 (q := 41) rfl
def rX9_rest_41 := W_iconst (M := mX9_rest) dX9_rest_41 (q := 42) rfl (v := (2)) rfl
def rX9_rest_42 := W_irem (M := mX9_rest) dX9_rest_42 (q := 43) rfl
def rX9_rest_43 := W_iadd (M := mX9_rest) dX9_rest_43 (q := 44) rfl
def rX9_rest_44 := W_invV1 (M := mX9_rest) dX9_rest_44 (q := 47) rfl ml0_9_62 rfl
def rX9_rest_47 := W_iret (M := mX9_rest) dX9_rest_47 rfl
def rX9_rest_48 := W_iinc1 (M := mX9_rest) dX9_rest_48 (q := 51) rfl (v := (1)) rfl
def rX9_rest_51 := W_goto (M := mX9_rest) dX9_rest_51 (t := 20) rfl
def rX9_rest_54 := W_aload0 (M := mX9_rest) dX9_rest_54 (q := 55) rfl
def rX9_rest_54b := W_aloadR0 (M := mX9_rest) dX9_rest_54 (q := 55) rfl
def rX9_rest_55 := W_bipush (M := mX9_rest) dX9_rest_55 (q := 57) rfl (v := (-2)) rfl
def rX9_rest_57 := W_invV1 (M := mX9_rest) dX9_rest_57 (q := 60) rfl ml0_9_62 rfl
def rX9_rest_60 := W_iret (M := mX9_rest) dX9_rest_60 rfl
-- X9_rests
theorem eX9_rests {d : Nat} {h : qH} {Q : Option (Option Value) → qH → Prop} {s0 : Nat} : WM d mX9_rests [.ref s0] h Q = WP d mX9_rests (0, 0) 0 [some (.ref s0), none, none] [] h Q := rfl
def rX9_rests_0 := W_aload0 (M := mX9_rests) dX9_rests_0 (q := 1) rfl
def rX9_rests_0b := W_aloadR0 (M := mX9_rests) dX9_rests_0 (q := 1) rfl
def rX9_rests_1 := W_iconst (M := mX9_rests) dX9_rests_1 (q := 2) rfl (v := (0)) rfl
def rX9_rests_2 := W_putI (M := mX9_rests) dX9_rests_2 (q := 5) rfl fl9_52 rfl (Or.inl rfl)
def rX9_rests_5 := W_aload0 (M := mX9_rests) dX9_rests_5 (q := 6) rfl
def rX9_rests_5b := W_aloadR0 (M := mX9_rests) dX9_rests_5 (q := 6) rfl
def rX9_rests_6 := W_getR (M := mX9_rests) dX9_rests_6 (q := 9) rfl fl9_316 ⟨_, rfl⟩
def rX9_rests_9 := W_ifnonnull (M := mX9_rests) dX9_rests_9 (q := 12) rfl (t := 18) rfl
def rX9_rests_9b := W_ifnonnullN (M := mX9_rests) dX9_rests_9 (q := 12) rfl (t := 18) rfl
def rX9_rests_12 := W_aload0 (M := mX9_rests) dX9_rests_12 (q := 13) rfl
def rX9_rests_12b := W_aloadR0 (M := mX9_rests) dX9_rests_12 (q := 13) rfl
def rX9_rests_13 := W_iconst (M := mX9_rests) dX9_rests_13 (q := 14) rfl (v := (1)) rfl
def rX9_rests_14 := W_invV1 (M := mX9_rests) dX9_rests_14 (q := 17) rfl ml0_9_58 rfl
def rX9_rests_17 := W_iret (M := mX9_rests) dX9_rests_17 rfl
def rX9_rests_18 := W_iconst (M := mX9_rests) dX9_rests_18 (q := 19) rfl (v := (0)) rfl
def rX9_rests_19 := W_istore1 (M := mX9_rests) dX9_rests_19 (q := 20) rfl
def rX9_rests_20 := W_iconst (M := mX9_rests) dX9_rests_20 (q := 21) rfl (v := (0)) rfl
def rX9_rests_21 := W_istore2 (M := mX9_rests) dX9_rests_21 (q := 22) rfl
def rX9_rests_22 := W_iload2 (M := mX9_rests) dX9_rests_22 (q := 23) rfl
def rX9_rests_23 := W_iconst (M := mX9_rests) dX9_rests_23 (q := 24) rfl (v := (4)) rfl
def rX9_rests_24 := W_icmp_ge (M := mX9_rests) dX9_rests_24 (q := 27) rfl (t := 49) rfl
def rX9_rests_27 := W_iload1 (M := mX9_rests) dX9_rests_27 (q := 28) rfl
def rX9_rests_28 := W_aload0 (M := mX9_rests) dX9_rests_28 (q := 29) rfl
def rX9_rests_28b := W_aloadR0 (M := mX9_rests) dX9_rests_28 (q := 29) rfl
def rX9_rests_29 := W_iload2 (M := mX9_rests) dX9_rests_29 (q := 30) rfl
def rX9_rests_30 := W_invV1 (M := mX9_rests) dX9_rests_30 (q := 33) rfl ml0_9_425 rfl
def rX9_rests_33 := W_if_eq (M := mX9_rests) dX9_rests_33 (q := 36) rfl (t := 40) rfl
def rX9_rests_36 := W_iconst (M := mX9_rests) dX9_rests_36 (q := 37) rfl (v := (1)) rfl
def rX9_rests_37 := W_goto (M := mX9_rests) dX9_rests_37 (t := 41) rfl
def rX9_rests_40 := W_iconst (M := mX9_rests) dX9_rests_40 (q := 41) rfl (v := (0)) rfl
def rX9_rests_41 := W_iadd (M := mX9_rests) dX9_rests_41 (q := 42) rfl
def rX9_rests_42 := W_istore1 (M := mX9_rests) dX9_rests_42 (q := 43) rfl
def rX9_rests_43 := W_iinc2 (M := mX9_rests) dX9_rests_43 (q := 46) rfl (v := (1)) rfl
def rX9_rests_46 := W_goto (M := mX9_rests) dX9_rests_46 (t := 22) rfl
def rX9_rests_49 := W_aload0 (M := mX9_rests) dX9_rests_49 (q := 50) rfl
def rX9_rests_49b := W_aloadR0 (M := mX9_rests) dX9_rests_49 (q := 50) rfl
def rX9_rests_50 := W_iload1 (M := mX9_rests) dX9_rests_50 (q := 51) rfl
def rX9_rests_51 := W_invV1 (M := mX9_rests) dX9_rests_51 (q := 54) rfl ml0_9_62 rfl
def rX9_rests_54 := W_iret (M := mX9_rests) dX9_rests_54 rfl
-- X9_rings
theorem eX9_rings {d : Nat} {h : qH} {Q : Option (Option Value) → qH → Prop} {s0 : Nat} {x1 : Int32} {x2 : Int32} {x3 : Int32} : WM d mX9_rings [.ref s0, .int x1, .int x2, .int x3] h Q = WP d mX9_rings (0, 0) 0 [some (.ref s0), some (.int x1), some (.int x2), some (.int x3)] [] h Q := rfl
def rX9_rings_0 := W_aload0 (M := mX9_rings) dX9_rings_0 (q := 1) rfl
def rX9_rings_0b := W_aloadR0 (M := mX9_rings) dX9_rings_0 (q := 1) rfl
def rX9_rings_1 := W_iconst (M := mX9_rings) dX9_rings_1 (q := 2) rfl (v := (0)) rfl
def rX9_rings_2 := W_putI (M := mX9_rings) dX9_rings_2 (q := 5) rfl fl9_52 rfl (Or.inl rfl)
def rX9_rings_5 := W_aload0 (M := mX9_rings) dX9_rings_5 (q := 6) rfl
def rX9_rings_5b := W_aloadR0 (M := mX9_rings) dX9_rings_5 (q := 6) rfl
def rX9_rings_6 := W_getR (M := mX9_rings) dX9_rings_6 (q := 9) rfl fl9_316 ⟨_, rfl⟩
def rX9_rings_9 := W_ifnonnull (M := mX9_rings) dX9_rings_9 (q := 12) rfl (t := 20) rfl
def rX9_rings_9b := W_ifnonnullN (M := mX9_rings) dX9_rings_9 (q := 12) rfl (t := 20) rfl
def rX9_rings_12 := W_aload0 (M := mX9_rings) dX9_rings_12 (q := 13) rfl
def rX9_rings_12b := W_aloadR0 (M := mX9_rings) dX9_rings_12 (q := 13) rfl
def rX9_rings_13 := W_iconst (M := mX9_rings) dX9_rings_13 (q := 14) rfl (v := (1)) rfl
def rX9_rings_14 := W_invV1 (M := mX9_rings) dX9_rings_14 (q := 17) rfl ml0_9_418 rfl
def rX9_rings_17 := W_goto (M := mX9_rings) dX9_rings_17 (t := 43) rfl
def rX9_rings_20 := W_aload0 (M := mX9_rings) dX9_rings_20 (q := 21) rfl
def rX9_rings_20b := W_aloadR0 (M := mX9_rings) dX9_rings_20 (q := 21) rfl
def rX9_rings_21 := W_iload3 (M := mX9_rings) dX9_rings_21 (q := 22) rfl
def rX9_rings_22 := W_if_eq (M := mX9_rings) dX9_rings_22 (q := 25) rfl (t := 34) rfl
def rX9_rings_25 := W_aload0 (M := mX9_rings) dX9_rings_25 (q := 26) rfl
def rX9_rings_25b := W_aloadR0 (M := mX9_rings) dX9_rings_25 (q := 26) rfl
def rX9_rings_26 := W_iload2 (M := mX9_rings) dX9_rings_26 (q := 27) rfl
def rX9_rings_27 := W_iload1 (M := mX9_rings) dX9_rings_27 (q := 28) rfl
def rX9_rings_28 := W_invV2 (M := mX9_rings) dX9_rings_28 (q := 31) rfl ml0_9_421 rfl
def rX9_rings_31 := W_goto (M := mX9_rings) dX9_rings_31 (t := 40) rfl
def rX9_rings_34 := W_aload0 (M := mX9_rings) dX9_rings_34 (q := 35) rfl
def rX9_rings_34b := W_aloadR0 (M := mX9_rings) dX9_rings_34 (q := 35) rfl
def rX9_rings_35 := W_iload1 (M := mX9_rings) dX9_rings_35 (q := 36) rfl
def rX9_rings_36 := W_iload2 (M := mX9_rings) dX9_rings_36 (q := 37) rfl
def rX9_rings_37 := W_invV2 (M := mX9_rings) dX9_rings_37 (q := 40) rfl ml0_9_421 rfl
def rX9_rings_40 := W_invV1 (M := mX9_rings) dX9_rings_40 (q := 43) rfl ml0_9_62 rfl
def rX9_rings_43 := W_iret (M := mX9_rings) dX9_rings_43 rfl
-- X9_safe
theorem eX9_safe {d : Nat} {h : qH} {Q : Option (Option Value) → qH → Prop} {s0 : Nat} {x1 : Int32} : WM d mX9_safe [.ref s0, .int x1] h Q = WP d mX9_safe (0, 0) 0 [some (.ref s0), some (.int x1), none, none, none, none] [] h Q := rfl
def rX9_safe_0 := W_aload0 (M := mX9_safe) dX9_safe_0 (q := 1) rfl
def rX9_safe_0b := W_aloadR0 (M := mX9_safe) dX9_safe_0 (q := 1) rfl
def rX9_safe_1 := W_iconst (M := mX9_safe) dX9_safe_1 (q := 2) rfl (v := (0)) rfl
def rX9_safe_2 := W_putI (M := mX9_safe) dX9_safe_2 (q := 5) rfl fl9_52 rfl (Or.inl rfl)
def rX9_safe_5 := W_aload0 (M := mX9_safe) dX9_safe_5 (q := 6) rfl
def rX9_safe_5b := W_aloadR0 (M := mX9_safe) dX9_safe_5 (q := 6) rfl
def rX9_safe_6 := W_aload0 (M := mX9_safe) dX9_safe_6 (q := 7) rfl
def rX9_safe_6b := W_aloadR0 (M := mX9_safe) dX9_safe_6 (q := 7) rfl
def rX9_safe_7 := W_getR (M := mX9_safe) dX9_safe_7 (q := 10) rfl fl9_316 ⟨_, rfl⟩
def rX9_safe_10 := W_ifnull (M := mX9_safe) dX9_safe_10 (q := 13) rfl (t := 17) rfl
def rX9_safe_10b := W_ifnullN (M := mX9_safe) dX9_safe_10 (q := 13) rfl (t := 17) rfl
def rX9_safe_13 := W_iconst (M := mX9_safe) dX9_safe_13 (q := 14) rfl (v := (1)) rfl
def rX9_safe_14 := W_goto (M := mX9_safe) dX9_safe_14 (t := 18) rfl
def rX9_safe_17 := W_iconst (M := mX9_safe) dX9_safe_17 (q := 18) rfl (v := (0)) rfl
def rX9_safe_18 := W_iload1 (M := mX9_safe) dX9_safe_18 (q := 19) rfl
def rX9_safe_19 := W_iconst (M := mX9_safe) dX9_safe_19 (q := 20) rfl (v := (0)) rfl
def rX9_safe_20 := W_invV3 (M := mX9_safe) dX9_safe_20 (q := 23) rfl ml0_9_354 rfl
def rX9_safe_23 := W_istore2 (M := mX9_safe) dX9_safe_23 (q := 24) rfl
def rX9_safe_24 := W_iload2 (M := mX9_safe) dX9_safe_24 (q := 25) rfl
def rX9_safe_25 := W_if_le (M := mX9_safe) dX9_safe_25 (q := 28) rfl (t := 34) rfl
def rX9_safe_28 := W_aload0 (M := mX9_safe) dX9_safe_28 (q := 29) rfl
def rX9_safe_28b := W_aloadR0 (M := mX9_safe) dX9_safe_28 (q := 29) rfl
def rX9_safe_29 := W_iload2 (M := mX9_safe) dX9_safe_29 (q := 30) rfl
def rX9_safe_30 := W_invV1 (M := mX9_safe) dX9_safe_30 (q := 33) rfl ml0_9_58 rfl
def rX9_safe_33 := W_iret (M := mX9_safe) dX9_safe_33 rfl
def rX9_safe_34 := W_aload0 (M := mX9_safe) dX9_safe_34 (q := 35) rfl
def rX9_safe_34b := W_aloadR0 (M := mX9_safe) dX9_safe_34 (q := 35) rfl
def rX9_safe_35 := W_invV0 (M := mX9_safe) dX9_safe_35 (q := 38) rfl ml0_9_348 rfl
def rX9_safe_38 := W_aload0 (M := mX9_safe) dX9_safe_38 (q := 39) rfl
def rX9_safe_38b := W_aloadR0 (M := mX9_safe) dX9_safe_38 (q := 39) rfl
def rX9_safe_39 := W_aload0 (M := mX9_safe) dX9_safe_39 (q := 40) rfl
def rX9_safe_39b := W_aloadR0 (M := mX9_safe) dX9_safe_39 (q := 40) rfl
def rX9_safe_40 := W_getA (M := mX9_safe) dX9_safe_40 (q := 43) rfl fl9_17 ⟨_, rfl⟩
def rX9_safe_43 := W_bipush (M := mX9_safe) dX9_safe_43 (q := 45) rfl (v := (9)) rfl
def rX9_safe_45 := W_iald (M := mX9_safe) dX9_safe_45 (q := 46) rfl
def rX9_safe_46 := W_invV1 (M := mX9_safe) dX9_safe_46 (q := 49) rfl ml0_9_333 rfl
def rX9_safe_49 := W_istore3 (M := mX9_safe) dX9_safe_49 (q := 50) rfl
def rX9_safe_50 := W_bipush (M := mX9_safe) dX9_safe_50 (q := 52) rfl (v := (-2)) rfl
def rX9_safe_52 := W_istore4 (M := mX9_safe) dX9_safe_52 (q := 54) rfl
def rX9_safe_54 := W_iconst (M := mX9_safe) dX9_safe_54 (q := 55) rfl (v := (0)) rfl
def rX9_safe_55 := W_istore5 (M := mX9_safe) dX9_safe_55 (q := 57) rfl
def rX9_safe_57 := W_iload5 (M := mX9_safe) dX9_safe_57 (q := 59) rfl
def rX9_safe_59 := W_iconst (M := mX9_safe) dX9_safe_59 (q := 60) rfl (v := (1)) rfl
def rX9_safe_60 := W_aload0 (M := mX9_safe) dX9_safe_60 (q := 61) rfl
def rX9_safe_60b := W_aloadR0 (M := mX9_safe) dX9_safe_60 (q := 61) rfl
def rX9_safe_61 := W_getR (M := mX9_safe) dX9_safe_61 (q := 64) rfl fl9_316 ⟨_, rfl⟩
def rX9_safe_64 := W_getI (M := mX9_safe) dX9_safe_64 (q := 67) rfl fl9_187 (Or.inl rfl)
def rX9_safe_67 := W_ishl (M := mX9_safe) dX9_safe_67 (q := 68) rfl
def rX9_safe_68 := W_icmp_ge (M := mX9_safe) dX9_safe_68 (q := 71) rfl (t := 133) rfl
def rX9_safe_71 := W_iload5 (M := mX9_safe) dX9_safe_71 (q := 73) rfl
def rX9_safe_73 := W_iload3 (M := mX9_safe) dX9_safe_73 (q := 74) rfl
def rX9_safe_74 := W_iand (M := mX9_safe) dX9_safe_74 (q := 75) rfl
def rX9_safe_75 := W_if_ne (M := mX9_safe) dX9_safe_75 (q := 78) rfl (t := 127) rfl
def rX9_safe_78 := W_iload4 (M := mX9_safe) dX9_safe_78 (q := 80) rfl
def rX9_safe_80 := W_bipush (M := mX9_safe) dX9_safe_80 (q := 82) rfl (v := (-2)) rfl
def rX9_safe_82 := W_icmp_eq (M := mX9_safe) dX9_safe_82 (q := 85) rfl (t := 101) rfl
def rX9_safe_85 := W_iload5 (M := mX9_safe) dX9_safe_85 (q := 87) rfl
def rX9_safe_87 := W_invS1 (M := mX9_safe) dX9_safe_87 (q := 90) rfl ml1_9_336 rfl rfl rfl
def rX9_safe_90 := W_iload4 (M := mX9_safe) dX9_safe_90 (q := 92) rfl
def rX9_safe_92 := W_invS1 (M := mX9_safe) dX9_safe_92 (q := 95) rfl ml1_9_336 rfl rfl rfl
def rX9_safe_95 := W_icmp_lt (M := mX9_safe) dX9_safe_95 (q := 98) rfl (t := 101) rfl
def rX9_safe_98 := W_goto (M := mX9_safe) dX9_safe_98 (t := 127) rfl
def rX9_safe_101 := W_aload0 (M := mX9_safe) dX9_safe_101 (q := 102) rfl
def rX9_safe_101b := W_aloadR0 (M := mX9_safe) dX9_safe_101 (q := 102) rfl
def rX9_safe_102 := W_invV0 (M := mX9_safe) dX9_safe_102 (q := 105) rfl ml0_9_348 rfl
def rX9_safe_105 := W_aload0 (M := mX9_safe) dX9_safe_105 (q := 106) rfl
def rX9_safe_105b := W_aloadR0 (M := mX9_safe) dX9_safe_105 (q := 106) rfl
def rX9_safe_106 := W_iload5 (M := mX9_safe) dX9_safe_106 (q := 108) rfl
def rX9_safe_108 := W_invV1 (M := mX9_safe) dX9_safe_108 (q := 111) rfl ml0_9_391 rfl
def rX9_safe_111 := W_aload0 (M := mX9_safe) dX9_safe_111 (q := 112) rfl
def rX9_safe_111b := W_aloadR0 (M := mX9_safe) dX9_safe_111 (q := 112) rfl
def rX9_safe_112 := W_iload1 (M := mX9_safe) dX9_safe_112 (q := 113) rfl
def rX9_safe_113 := W_invV1 (M := mX9_safe) dX9_safe_113 (q := 116) rfl ml0_9_333 rfl
def rX9_safe_116 := W_iload3 (M := mX9_safe) dX9_safe_116 (q := 117) rfl
def rX9_safe_117 := W_iconst (M := mX9_safe) dX9_safe_117 (q := 118) rfl (v := (-1)) rfl
def rX9_safe_118 := W_ixor (M := mX9_safe) dX9_safe_118 (q := 119) rfl
def rX9_safe_119 := W_iand (M := mX9_safe) dX9_safe_119 (q := 120) rfl
def rX9_safe_120 := W_if_ne (M := mX9_safe) dX9_safe_120 (q := 123) rfl (t := 127) rfl
def rX9_safe_123 := W_iload5 (M := mX9_safe) dX9_safe_123 (q := 125) rfl
def rX9_safe_125 := W_istore4 (M := mX9_safe) dX9_safe_125 (q := 127) rfl
def rX9_safe_127 := W_iinc5 (M := mX9_safe) dX9_safe_127 (q := 130) rfl (v := (1)) rfl
def rX9_safe_130 := W_goto (M := mX9_safe) dX9_safe_130 (t := 57) rfl
def rX9_safe_133 := W_aload0 (M := mX9_safe) dX9_safe_133 (q := 134) rfl
def rX9_safe_133b := W_aloadR0 (M := mX9_safe) dX9_safe_133 (q := 134) rfl
def rX9_safe_134 := W_iload4 (M := mX9_safe) dX9_safe_134 (q := 136) rfl
def rX9_safe_136 := W_invV1 (M := mX9_safe) dX9_safe_136 (q := 139) rfl ml0_9_62 rfl
def rX9_safe_139 := W_iret (M := mX9_safe) dX9_safe_139 rfl
-- X9_saves
theorem eX9_saves {d : Nat} {h : qH} {Q : Option (Option Value) → qH → Prop} {s0 : Nat} {x1 : Int32} : WM d mX9_saves [.ref s0, .int x1] h Q = WP d mX9_saves (0, 0) 0 [some (.ref s0), some (.int x1), none, none] [] h Q := rfl
def rX9_saves_0 := W_aload0 (M := mX9_saves) dX9_saves_0 (q := 1) rfl
def rX9_saves_0b := W_aloadR0 (M := mX9_saves) dX9_saves_0 (q := 1) rfl
def rX9_saves_1 := W_iconst (M := mX9_saves) dX9_saves_1 (q := 2) rfl (v := (0)) rfl
def rX9_saves_2 := W_putI (M := mX9_saves) dX9_saves_2 (q := 5) rfl fl9_52 rfl (Or.inl rfl)
def rX9_saves_5 := W_aload0 (M := mX9_saves) dX9_saves_5 (q := 6) rfl
def rX9_saves_5b := W_aloadR0 (M := mX9_saves) dX9_saves_5 (q := 6) rfl
def rX9_saves_6 := W_iload1 (M := mX9_saves) dX9_saves_6 (q := 7) rfl
def rX9_saves_7 := W_invV1 (M := mX9_saves) dX9_saves_7 (q := 10) rfl ml0_9_373 rfl
def rX9_saves_10 := W_istore2 (M := mX9_saves) dX9_saves_10 (q := 11) rfl
def rX9_saves_11 := W_iload2 (M := mX9_saves) dX9_saves_11 (q := 12) rfl
def rX9_saves_12 := W_if_le (M := mX9_saves) dX9_saves_12 (q := 15) rfl (t := 21) rfl
def rX9_saves_15 := W_aload0 (M := mX9_saves) dX9_saves_15 (q := 16) rfl
def rX9_saves_15b := W_aloadR0 (M := mX9_saves) dX9_saves_15 (q := 16) rfl
def rX9_saves_16 := W_iload2 (M := mX9_saves) dX9_saves_16 (q := 17) rfl
def rX9_saves_17 := W_invV1 (M := mX9_saves) dX9_saves_17 (q := 20) rfl ml0_9_58 rfl
def rX9_saves_20 := W_iret (M := mX9_saves) dX9_saves_20 rfl
def rX9_saves_21 := W_aload0 (M := mX9_saves) dX9_saves_21 (q := 22) rfl
def rX9_saves_21b := W_aloadR0 (M := mX9_saves) dX9_saves_21 (q := 22) rfl
def rX9_saves_22 := W_invV0 (M := mX9_saves) dX9_saves_22 (q := 25) rfl ml0_9_376 rfl
def rX9_saves_25 := W_istore3 (M := mX9_saves) dX9_saves_25 (q := 26) rfl
def rX9_saves_26 := W_aload0 (M := mX9_saves) dX9_saves_26 (q := 27) rfl
def rX9_saves_26b := W_aloadR0 (M := mX9_saves) dX9_saves_26 (q := 27) rfl
def rX9_saves_27 := W_iload1 (M := mX9_saves) dX9_saves_27 (q := 28) rfl
def rX9_saves_28 := W_aload0 (M := mX9_saves) dX9_saves_28 (q := 29) rfl
def rX9_saves_28b := W_aloadR0 (M := mX9_saves) dX9_saves_28 (q := 29) rfl
def rX9_saves_29 := W_getA (M := mX9_saves) dX9_saves_29 (q := 32) rfl fl9_21 ⟨_, rfl⟩
def rX9_saves_32 := W_bipush (M := mX9_saves) dX9_saves_32 (q := 34) rfl (v := (9)) rfl
def rX9_saves_34 := W_iald (M := mX9_saves) dX9_saves_34 (q := 35) rfl
def rX9_saves_35 := W_invV2 (M := mX9_saves) dX9_saves_35 (q := 38) rfl ml0_9_364 rfl
def rX9_saves_38 := W_aload0 (M := mX9_saves) dX9_saves_38 (q := 39) rfl
def rX9_saves_38b := W_aloadR0 (M := mX9_saves) dX9_saves_38 (q := 39) rfl
def rX9_saves_39 := W_bipush (M := mX9_saves) dX9_saves_39 (q := 41) rfl (v := (100)) rfl
def rX9_saves_41 := W_iload3 (M := mX9_saves) dX9_saves_41 (q := 42) rfl
def rX9_saves_42 := W_iadd (M := mX9_saves) dX9_saves_42 (q := 43) rfl
def rX9_saves_43 := W_aload0 (M := mX9_saves) dX9_saves_43 (q := 44) rfl
def rX9_saves_43b := W_aloadR0 (M := mX9_saves) dX9_saves_43 (q := 44) rfl
def rX9_saves_44 := W_invV0 (M := mX9_saves) dX9_saves_44 (q := 47) rfl ml0_9_376 rfl
def rX9_saves_47 := W_isub (M := mX9_saves) dX9_saves_47 (q := 48) rfl
def rX9_saves_48 := W_invV1 (M := mX9_saves) dX9_saves_48 (q := 51) rfl ml0_9_62 rfl
def rX9_saves_51 := W_iret (M := mX9_saves) dX9_saves_51 rfl
-- X9_size
theorem eX9_size {d : Nat} {h : qH} {Q : Option (Option Value) → qH → Prop} {s0 : Nat} {x1 : Int32} : WM d mX9_size [.ref s0, .int x1] h Q = WP d mX9_size (0, 0) 0 [some (.ref s0), some (.int x1)] [] h Q := rfl
def rX9_size_0 := W_aload0 (M := mX9_size) dX9_size_0 (q := 1) rfl
def rX9_size_0b := W_aloadR0 (M := mX9_size) dX9_size_0 (q := 1) rfl
def rX9_size_1 := W_iconst (M := mX9_size) dX9_size_1 (q := 2) rfl (v := (0)) rfl
def rX9_size_2 := W_putI (M := mX9_size) dX9_size_2 (q := 5) rfl fl9_52 rfl (Or.inl rfl)
def rX9_size_5 := W_iload1 (M := mX9_size) dX9_size_5 (q := 6) rfl
def rX9_size_6 := W_bipush (M := mX9_size) dX9_size_6 (q := 8) rfl (v := (11)) rfl
def rX9_size_8 := W_icmp_ne (M := mX9_size) dX9_size_8 (q := 11) rfl (t := 16) rfl
def rX9_size_11 := W_aload0 (M := mX9_size) dX9_size_11 (q := 12) rfl
def rX9_size_11b := W_aloadR0 (M := mX9_size) dX9_size_11 (q := 12) rfl
def rX9_size_12 := W_getI (M := mX9_size) dX9_size_12 (q := 15) rfl fl9_309 (Or.inl rfl)
def rX9_size_15 := W_iret (M := mX9_size) dX9_size_15 rfl
def rX9_size_16 := W_iload1 (M := mX9_size) dX9_size_16 (q := 17) rfl
def rX9_size_17 := W_iconst (M := mX9_size) dX9_size_17 (q := 18) rfl (v := (0)) rfl
def rX9_size_18 := W_bipush (M := mX9_size) dX9_size_18 (q := 20) rfl (v := (10)) rfl
def rX9_size_20 := W_invS3 (M := mX9_size) dX9_size_20 (q := 23) rfl ml1_9_131 rfl rfl rfl
def rX9_size_23 := W_if_ne (M := mX9_size) dX9_size_23 (q := 26) rfl (t := 28) rfl
def rX9_size_26 := W_iconst (M := mX9_size) dX9_size_26 (q := 27) rfl (v := (-1)) rfl
def rX9_size_27 := W_iret (M := mX9_size) dX9_size_27 rfl
def rX9_size_28 := W_aload0 (M := mX9_size) dX9_size_28 (q := 29) rfl
def rX9_size_28b := W_aloadR0 (M := mX9_size) dX9_size_28 (q := 29) rfl
def rX9_size_29 := W_getR (M := mX9_size) dX9_size_29 (q := 32) rfl fl9_316 ⟨_, rfl⟩
def rX9_size_32 := W_ifnonnull (M := mX9_size) dX9_size_32 (q := 35) rfl (t := 37) rfl
def rX9_size_32b := W_ifnonnullN (M := mX9_size) dX9_size_32 (q := 35) rfl (t := 37) rfl
def rX9_size_35 := W_iconst (M := mX9_size) dX9_size_35 (q := 36) rfl (v := (0)) rfl
def rX9_size_36 := W_iret (M := mX9_size) dX9_size_36 rfl
def rX9_size_37 := W_iload1 (M := mX9_size) dX9_size_37 (q := 38) rfl
def rX9_size_38 := W_tab (M := mX9_size) (k := 0) dX9_size_38 [92, 100, 108, 116, 124, 132, 140, 148, 156, 164] (df := 169) rfl rfl (by decide) (by decide) 0 rfl
def rX9_size_92 := W_aload0 (M := mX9_size) dX9_size_92 (q := 93) rfl
def rX9_size_92b := W_aloadR0 (M := mX9_size) dX9_size_92 (q := 93) rfl
def rX9_size_93 := W_getR (M := mX9_size) dX9_size_93 (q := 96) rfl fl9_316 ⟨_, rfl⟩
def rX9_size_96 := W_getI (M := mX9_size) dX9_size_96 (q := 99) rfl fl9_165 (Or.inl rfl)
def rX9_size_99 := W_iret (M := mX9_size) dX9_size_99 rfl
def rX9_size_100 := W_aload0 (M := mX9_size) dX9_size_100 (q := 101) rfl
def rX9_size_100b := W_aloadR0 (M := mX9_size) dX9_size_100 (q := 101) rfl
def rX9_size_101 := W_getR (M := mX9_size) dX9_size_101 (q := 104) rfl fl9_316 ⟨_, rfl⟩
def rX9_size_104 := W_getI (M := mX9_size) dX9_size_104 (q := 107) rfl fl9_187 (Or.inl rfl)
def rX9_size_107 := W_iret (M := mX9_size) dX9_size_107 rfl
def rX9_size_108 := W_aload0 (M := mX9_size) dX9_size_108 (q := 109) rfl
def rX9_size_108b := W_aloadR0 (M := mX9_size) dX9_size_108 (q := 109) rfl
def rX9_size_109 := W_getR (M := mX9_size) dX9_size_109 (q := 112) rfl fl9_316 ⟨_, rfl⟩
def rX9_size_112 := W_getI (M := mX9_size) dX9_size_112 (q := 115) rfl fl9_248 (Or.inl rfl)
def rX9_size_115 := W_iret (M := mX9_size) dX9_size_115 rfl
def rX9_size_116 := W_aload0 (M := mX9_size) dX9_size_116 (q := 117) rfl
def rX9_size_116b := W_aloadR0 (M := mX9_size) dX9_size_116 (q := 117) rfl
def rX9_size_117 := W_getR (M := mX9_size) dX9_size_117 (q := 120) rfl fl9_316 ⟨_, rfl⟩
def rX9_size_120 := W_getI (M := mX9_size) dX9_size_120 (q := 123) rfl fl9_276 (Or.inl rfl)
def rX9_size_123 := W_iret (M := mX9_size) dX9_size_123 rfl
def rX9_size_124 := W_aload0 (M := mX9_size) dX9_size_124 (q := 125) rfl
def rX9_size_124b := W_aloadR0 (M := mX9_size) dX9_size_124 (q := 125) rfl
def rX9_size_125 := W_getR (M := mX9_size) dX9_size_125 (q := 128) rfl fl9_316 ⟨_, rfl⟩
def rX9_size_128 := W_getI (M := mX9_size) dX9_size_128 (q := 131) rfl fl9_284 (Or.inl rfl)
def rX9_size_131 := W_iret (M := mX9_size) dX9_size_131 rfl
def rX9_size_132 := W_aload0 (M := mX9_size) dX9_size_132 (q := 133) rfl
def rX9_size_132b := W_aloadR0 (M := mX9_size) dX9_size_132 (q := 133) rfl
def rX9_size_133 := W_getR (M := mX9_size) dX9_size_133 (q := 136) rfl fl9_316 ⟨_, rfl⟩
def rX9_size_136 := W_getI (M := mX9_size) dX9_size_136 (q := 139) rfl fl9_287 (Or.inl rfl)
def rX9_size_139 := W_iret (M := mX9_size) dX9_size_139 rfl
def rX9_size_140 := W_aload0 (M := mX9_size) dX9_size_140 (q := 141) rfl
def rX9_size_140b := W_aloadR0 (M := mX9_size) dX9_size_140 (q := 141) rfl
def rX9_size_141 := W_getR (M := mX9_size) dX9_size_141 (q := 144) rfl fl9_316 ⟨_, rfl⟩
def rX9_size_144 := W_getI (M := mX9_size) dX9_size_144 (q := 147) rfl fl9_292 (Or.inl rfl)
def rX9_size_147 := W_iret (M := mX9_size) dX9_size_147 rfl
def rX9_size_148 := W_aload0 (M := mX9_size) dX9_size_148 (q := 149) rfl
def rX9_size_148b := W_aloadR0 (M := mX9_size) dX9_size_148 (q := 149) rfl
def rX9_size_149 := W_getR (M := mX9_size) dX9_size_149 (q := 152) rfl fl9_316 ⟨_, rfl⟩
def rX9_size_152 := W_getI (M := mX9_size) dX9_size_152 (q := 155) rfl fl9_300 (Or.inl rfl)
def rX9_size_155 := W_iret (M := mX9_size) dX9_size_155 rfl
def rX9_size_156 := W_aload0 (M := mX9_size) dX9_size_156 (q := 157) rfl
def rX9_size_156b := W_aloadR0 (M := mX9_size) dX9_size_156 (q := 157) rfl
def rX9_size_157 := W_getA (M := mX9_size) dX9_size_157 (q := 160) rfl fl9_17 ⟨_, rfl⟩
def rX9_size_160 := W_bipush (M := mX9_size) dX9_size_160 (q := 162) rfl (v := (9)) rfl
def rX9_size_162 := W_iald (M := mX9_size) dX9_size_162 (q := 163) rfl
def rX9_size_163 := W_iret (M := mX9_size) dX9_size_163 rfl
def rX9_size_164 := W_aload0 (M := mX9_size) dX9_size_164 (q := 165) rfl
def rX9_size_164b := W_aloadR0 (M := mX9_size) dX9_size_164 (q := 165) rfl
def rX9_size_165 := W_getI (M := mX9_size) dX9_size_165 (q := 168) rfl fl9_321 (Or.inl rfl)
def rX9_size_168 := W_iret (M := mX9_size) dX9_size_168 rfl
def rX9_size_169 := W_aload0 (M := mX9_size) dX9_size_169 (q := 170) rfl
def rX9_size_169b := W_aloadR0 (M := mX9_size) dX9_size_169 (q := 170) rfl
def rX9_size_170 := W_getI (M := mX9_size) dX9_size_170 (q := 173) rfl fl9_324 (Or.inl rfl)
def rX9_size_173 := W_iret (M := mX9_size) dX9_size_173 rfl
-- X9_spark
theorem eX9_spark {d : Nat} {h : qH} {Q : Option (Option Value) → qH → Prop} {s0 : Nat} {x1 : Int32} {x2 : Int32} : WM d mX9_spark [.ref s0, .int x1, .int x2] h Q = WP d mX9_spark (0, 0) 0 [some (.ref s0), some (.int x1), some (.int x2), none] [] h Q := rfl
def rX9_spark_0 := W_aload0 (M := mX9_spark) dX9_spark_0 (q := 1) rfl
def rX9_spark_0b := W_aloadR0 (M := mX9_spark) dX9_spark_0 (q := 1) rfl
def rX9_spark_1 := W_iconst (M := mX9_spark) dX9_spark_1 (q := 2) rfl (v := (0)) rfl
def rX9_spark_2 := W_putI (M := mX9_spark) dX9_spark_2 (q := 5) rfl fl9_52 rfl (Or.inl rfl)
def rX9_spark_5 := W_aload0 (M := mX9_spark) dX9_spark_5 (q := 6) rfl
def rX9_spark_5b := W_aloadR0 (M := mX9_spark) dX9_spark_5 (q := 6) rfl
def rX9_spark_6 := W_iload1 (M := mX9_spark) dX9_spark_6 (q := 7) rfl
def rX9_spark_7 := W_invV1 (M := mX9_spark) dX9_spark_7 (q := 10) rfl ml0_9_345 rfl
def rX9_spark_10 := W_if_eq (M := mX9_spark) dX9_spark_10 (q := 13) rfl (t := 26) rfl
def rX9_spark_13 := W_aload0 (M := mX9_spark) dX9_spark_13 (q := 14) rfl
def rX9_spark_13b := W_aloadR0 (M := mX9_spark) dX9_spark_13 (q := 14) rfl
def rX9_spark_14 := W_iload2 (M := mX9_spark) dX9_spark_14 (q := 15) rfl
def rX9_spark_15 := W_invV1 (M := mX9_spark) dX9_spark_15 (q := 18) rfl ml0_9_345 rfl
def rX9_spark_18 := W_if_eq (M := mX9_spark) dX9_spark_18 (q := 21) rfl (t := 26) rfl
def rX9_spark_21 := W_iload1 (M := mX9_spark) dX9_spark_21 (q := 22) rfl
def rX9_spark_22 := W_iload2 (M := mX9_spark) dX9_spark_22 (q := 23) rfl
def rX9_spark_23 := W_icmp_ne (M := mX9_spark) dX9_spark_23 (q := 26) rfl (t := 32) rfl
def rX9_spark_26 := W_aload0 (M := mX9_spark) dX9_spark_26 (q := 27) rfl
def rX9_spark_26b := W_aloadR0 (M := mX9_spark) dX9_spark_26 (q := 27) rfl
def rX9_spark_27 := W_iconst (M := mX9_spark) dX9_spark_27 (q := 28) rfl (v := (1)) rfl
def rX9_spark_28 := W_invV1 (M := mX9_spark) dX9_spark_28 (q := 31) rfl ml0_9_58 rfl
def rX9_spark_31 := W_iret (M := mX9_spark) dX9_spark_31 rfl
def rX9_spark_32 := W_aload0 (M := mX9_spark) dX9_spark_32 (q := 33) rfl
def rX9_spark_32b := W_aloadR0 (M := mX9_spark) dX9_spark_32 (q := 33) rfl
def rX9_spark_33 := W_invV0 (M := mX9_spark) dX9_spark_33 (q := 36) rfl ml0_9_342 rfl
def rX9_spark_36 := W_iconst (M := mX9_spark) dX9_spark_36 (q := 37) rfl (v := (0)) rfl
def rX9_spark_37 := W_istore3 (M := mX9_spark) dX9_spark_37 (q := 38) rfl
def rX9_spark_38 := W_iload3 (M := mX9_spark) dX9_spark_38 (q := 39) rfl
def rX9_spark_39 := W_aload0 (M := mX9_spark) dX9_spark_39 (q := 40) rfl
def rX9_spark_39b := W_aloadR0 (M := mX9_spark) dX9_spark_39 (q := 40) rfl
def rX9_spark_40 := W_getR (M := mX9_spark) dX9_spark_40 (q := 43) rfl fl9_316 ⟨_, rfl⟩
def rX9_spark_43 := W_getI (M := mX9_spark) dX9_spark_43 (q := 46) rfl fl9_248 (Or.inl rfl)
def rX9_spark_46 := W_icmp_ge (M := mX9_spark) dX9_spark_46 (q := 49) rfl (t := 102) rfl
def rX9_spark_49 := W_aload0 (M := mX9_spark) dX9_spark_49 (q := 50) rfl
def rX9_spark_49b := W_aloadR0 (M := mX9_spark) dX9_spark_49 (q := 50) rfl
def rX9_spark_50 := W_getR (M := mX9_spark) dX9_spark_50 (q := 53) rfl fl9_316 ⟨_, rfl⟩
def rX9_spark_53 := W_getA (M := mX9_spark) dX9_spark_53 (q := 56) rfl fl9_260 ⟨_, rfl⟩
def rX9_spark_56 := W_iload3 (M := mX9_spark) dX9_spark_56 (q := 57) rfl
def rX9_spark_57 := W_iald (M := mX9_spark) dX9_spark_57 (q := 58) rfl
def rX9_spark_58 := W_iload1 (M := mX9_spark) dX9_spark_58 (q := 59) rfl
def rX9_spark_59 := W_icmp_ne (M := mX9_spark) dX9_spark_59 (q := 62) rfl (t := 96) rfl
def rX9_spark_62 := W_aload0 (M := mX9_spark) dX9_spark_62 (q := 63) rfl
def rX9_spark_62b := W_aloadR0 (M := mX9_spark) dX9_spark_62 (q := 63) rfl
def rX9_spark_63 := W_getR (M := mX9_spark) dX9_spark_63 (q := 66) rfl fl9_316 ⟨_, rfl⟩
def rX9_spark_66 := W_getA (M := mX9_spark) dX9_spark_66 (q := 69) rfl fl9_263 ⟨_, rfl⟩
def rX9_spark_69 := W_iload3 (M := mX9_spark) dX9_spark_69 (q := 70) rfl
def rX9_spark_70 := W_iald (M := mX9_spark) dX9_spark_70 (q := 71) rfl
def rX9_spark_71 := W_iload2 (M := mX9_spark) dX9_spark_71 (q := 72) rfl
def rX9_spark_72 := W_icmp_ne (M := mX9_spark) dX9_spark_72 (q := 75) rfl (t := 96) rfl
def rX9_spark_75 := W_aload0 (M := mX9_spark) dX9_spark_75 (q := 76) rfl
def rX9_spark_75b := W_aloadR0 (M := mX9_spark) dX9_spark_75 (q := 76) rfl
def rX9_spark_76 := W_iload3 (M := mX9_spark) dX9_spark_76 (q := 77) rfl
def rX9_spark_77 := W_invV1 (M := mX9_spark) dX9_spark_77 (q := 80) rfl ml0_9_330 rfl
def rX9_spark_80 := W_if_eq (M := mX9_spark) dX9_spark_80 (q := 83) rfl (t := 96) rfl
def rX9_spark_83 := W_aload0 (M := mX9_spark) dX9_spark_83 (q := 84) rfl
def rX9_spark_83b := W_aloadR0 (M := mX9_spark) dX9_spark_83 (q := 84) rfl
def rX9_spark_84 := W_aload0 (M := mX9_spark) dX9_spark_84 (q := 85) rfl
def rX9_spark_84b := W_aloadR0 (M := mX9_spark) dX9_spark_84 (q := 85) rfl
def rX9_spark_85 := W_getR (M := mX9_spark) dX9_spark_85 (q := 88) rfl fl9_316 ⟨_, rfl⟩
def rX9_spark_88 := W_iload3 (M := mX9_spark) dX9_spark_88 (q := 89) rfl
def rX9_spark_89 := W_invV1 (M := mX9_spark) dX9_spark_89 (q := 92) rfl ml0_9_327 rfl
def rX9_spark_92 := W_invV1 (M := mX9_spark) dX9_spark_92 (q := 95) rfl ml0_9_62 rfl
def rX9_spark_95 := W_iret (M := mX9_spark) dX9_spark_95 rfl
def rX9_spark_96 := W_iinc3 (M := mX9_spark) dX9_spark_96 (q := 99) rfl (v := (1)) rfl
def rX9_spark_99 := W_goto (M := mX9_spark) dX9_spark_99 (t := 38) rfl
def rX9_spark_102 := W_aload0 (M := mX9_spark) dX9_spark_102 (q := 103) rfl
def rX9_spark_102b := W_aloadR0 (M := mX9_spark) dX9_spark_102 (q := 103) rfl
def rX9_spark_103 := W_bipush (M := mX9_spark) dX9_spark_103 (q := 105) rfl (v := (-2)) rfl
def rX9_spark_105 := W_invV1 (M := mX9_spark) dX9_spark_105 (q := 108) rfl ml0_9_62 rfl
def rX9_spark_108 := W_iret (M := mX9_spark) dX9_spark_108 rfl
-- X9_street
theorem eX9_street {d : Nat} {h : qH} {Q : Option (Option Value) → qH → Prop} {s0 : Nat} {x1 : Int32} : WM d mX9_street [.ref s0, .int x1] h Q = WP d mX9_street (0, 0) 0 [some (.ref s0), some (.int x1), none] [] h Q := rfl
def rX9_street_0 := W_aload0 (M := mX9_street) dX9_street_0 (q := 1) rfl
def rX9_street_0b := W_aloadR0 (M := mX9_street) dX9_street_0 (q := 1) rfl
def rX9_street_1 := W_iconst (M := mX9_street) dX9_street_1 (q := 2) rfl (v := (0)) rfl
def rX9_street_2 := W_putI (M := mX9_street) dX9_street_2 (q := 5) rfl fl9_52 rfl (Or.inl rfl)
def rX9_street_5 := W_iload1 (M := mX9_street) dX9_street_5 (q := 6) rfl
def rX9_street_6 := W_if_lt (M := mX9_street) dX9_street_6 (q := 9) rfl (t := 17) rfl
def rX9_street_9 := W_iload1 (M := mX9_street) dX9_street_9 (q := 10) rfl
def rX9_street_10 := W_aload0 (M := mX9_street) dX9_street_10 (q := 11) rfl
def rX9_street_10b := W_aloadR0 (M := mX9_street) dX9_street_10 (q := 11) rfl
def rX9_street_11 := W_getI (M := mX9_street) dX9_street_11 (q := 14) rfl fl9_309 (Or.inl rfl)
def rX9_street_14 := W_icmp_le (M := mX9_street) dX9_street_14 (q := 17) rfl (t := 23) rfl
def rX9_street_17 := W_aload0 (M := mX9_street) dX9_street_17 (q := 18) rfl
def rX9_street_17b := W_aloadR0 (M := mX9_street) dX9_street_17 (q := 18) rfl
def rX9_street_18 := W_iconst (M := mX9_street) dX9_street_18 (q := 19) rfl (v := (2)) rfl
def rX9_street_19 := W_invV1 (M := mX9_street) dX9_street_19 (q := 22) rfl ml0_9_58 rfl
def rX9_street_22 := W_iret (M := mX9_street) dX9_street_22 rfl
def rX9_street_23 := W_aload0 (M := mX9_street) dX9_street_23 (q := 24) rfl
def rX9_street_23b := W_aloadR0 (M := mX9_street) dX9_street_23 (q := 24) rfl
def rX9_street_24 := W_iload1 (M := mX9_street) dX9_street_24 (q := 25) rfl
def rX9_street_25 := W_putI (M := mX9_street) dX9_street_25 (q := 28) rfl fl9_69 rfl (Or.inl rfl)
def rX9_street_28 := W_aload0 (M := mX9_street) dX9_street_28 (q := 29) rfl
def rX9_street_28b := W_aloadR0 (M := mX9_street) dX9_street_28 (q := 29) rfl
def rX9_street_29 := W_iconst (M := mX9_street) dX9_street_29 (q := 30) rfl (v := (0)) rfl
def rX9_street_30 := W_putI (M := mX9_street) dX9_street_30 (q := 33) rfl fl9_309 rfl (Or.inl rfl)
def rX9_street_33 := W_aload0 (M := mX9_street) dX9_street_33 (q := 34) rfl
def rX9_street_33b := W_aloadR0 (M := mX9_street) dX9_street_33 (q := 34) rfl
def rX9_street_34 := W_iconst (M := mX9_street) dX9_street_34 (q := 35) rfl (v := (0)) rfl
def rX9_street_35 := W_putI (M := mX9_street) dX9_street_35 (q := 38) rfl fl9_87 rfl (Or.inl rfl)
def rX9_street_38 := W_aload0 (M := mX9_street) dX9_street_38 (q := 39) rfl
def rX9_street_38b := W_aloadR0 (M := mX9_street) dX9_street_38 (q := 39) rfl
def rX9_street_39 := W_iconst (M := mX9_street) dX9_street_39 (q := 40) rfl (v := (0)) rfl
def rX9_street_40 := W_putI (M := mX9_street) dX9_street_40 (q := 43) rfl fl9_110 rfl (Or.inl rfl)
def rX9_street_43 := W_aload0 (M := mX9_street) dX9_street_43 (q := 44) rfl
def rX9_street_43b := W_aloadR0 (M := mX9_street) dX9_street_43 (q := 44) rfl
def rX9_street_44 := W_new (M := mX9_street) dX9_street_44 (q := 47) rfl cl9_166 (by decide)
def rX9_street_47 := W_dupI (M := mX9_street) dX9_street_47 (q := 48) rfl
def rX9_street_47b := W_dupR (M := mX9_street) dX9_street_47 (q := 48) rfl
def rX9_street_48 := W_invN0 (M := mX9_street) dX9_street_48 (q := 51) rfl ml3_9_312 ml2n_9_312 rfl
def rX9_street_51 := W_putR (M := mX9_street) dX9_street_51 (q := 54) rfl fl9_161 ⟨_, rfl⟩ (Or.inl rfl)
def rX9_street_54 := W_aload0 (M := mX9_street) dX9_street_54 (q := 55) rfl
def rX9_street_54b := W_aloadR0 (M := mX9_street) dX9_street_54 (q := 55) rfl
def rX9_street_55 := W_iconst (M := mX9_street) dX9_street_55 (q := 56) rfl (v := (0)) rfl
def rX9_street_56 := W_putI (M := mX9_street) dX9_street_56 (q := 59) rfl fl9_84 rfl (Or.inl rfl)
def rX9_street_59 := W_aload0 (M := mX9_street) dX9_street_59 (q := 60) rfl
def rX9_street_59b := W_aloadR0 (M := mX9_street) dX9_street_59 (q := 60) rfl
def rX9_street_60 := W_invV0 (M := mX9_street) dX9_street_60 (q := 63) rfl ml0_9_120 rfl
def rX9_street_63 := W_aload0 (M := mX9_street) dX9_street_63 (q := 64) rfl
def rX9_street_63b := W_aloadR0 (M := mX9_street) dX9_street_63 (q := 64) rfl
def rX9_street_64 := W_invV0 (M := mX9_street) dX9_street_64 (q := 67) rfl ml0_9_313 rfl
def rX9_street_67 := W_aload0 (M := mX9_street) dX9_street_67 (q := 68) rfl
def rX9_street_67b := W_aloadR0 (M := mX9_street) dX9_street_67 (q := 68) rfl
def rX9_street_68 := W_getI (M := mX9_street) dX9_street_68 (q := 71) rfl fl9_110 (Or.inl rfl)
def rX9_street_71 := W_if_le (M := mX9_street) dX9_street_71 (q := 74) rfl (t := 89) rfl
def rX9_street_74 := W_aload0 (M := mX9_street) dX9_street_74 (q := 75) rfl
def rX9_street_74b := W_aloadR0 (M := mX9_street) dX9_street_74 (q := 75) rfl
def rX9_street_75 := W_iconst (M := mX9_street) dX9_street_75 (q := 76) rfl (v := (4)) rfl
def rX9_street_76 := W_putI (M := mX9_street) dX9_street_76 (q := 79) rfl fl9_55 rfl (Or.inl rfl)
def rX9_street_79 := W_aload0 (M := mX9_street) dX9_street_79 (q := 80) rfl
def rX9_street_79b := W_aloadR0 (M := mX9_street) dX9_street_79 (q := 80) rfl
def rX9_street_80 := W_aload0 (M := mX9_street) dX9_street_80 (q := 81) rfl
def rX9_street_80b := W_aloadR0 (M := mX9_street) dX9_street_80 (q := 81) rfl
def rX9_street_81 := W_getI (M := mX9_street) dX9_street_81 (q := 84) rfl fl9_113 (Or.inl rfl)
def rX9_street_84 := W_putI (M := mX9_street) dX9_street_84 (q := 87) rfl fl9_9 rfl (Or.inl rfl)
def rX9_street_87 := W_iconst (M := mX9_street) dX9_street_87 (q := 88) rfl (v := (-1)) rfl
def rX9_street_88 := W_iret (M := mX9_street) dX9_street_88 rfl
def rX9_street_89 := W_aload0 (M := mX9_street) dX9_street_89 (q := 90) rfl
def rX9_street_89b := W_aloadR0 (M := mX9_street) dX9_street_89 (q := 90) rfl
def rX9_street_90 := W_aload0 (M := mX9_street) dX9_street_90 (q := 91) rfl
def rX9_street_90b := W_aloadR0 (M := mX9_street) dX9_street_90 (q := 91) rfl
def rX9_street_91 := W_getR (M := mX9_street) dX9_street_91 (q := 94) rfl fl9_161 ⟨_, rfl⟩
def rX9_street_94 := W_putR (M := mX9_street) dX9_street_94 (q := 97) rfl fl9_316 ⟨_, rfl⟩ (Or.inl rfl)
def rX9_street_97 := W_aload0 (M := mX9_street) dX9_street_97 (q := 98) rfl
def rX9_street_97b := W_aloadR0 (M := mX9_street) dX9_street_97 (q := 98) rfl
def rX9_street_98 := W_invV0 (M := mX9_street) dX9_street_98 (q := 101) rfl ml0_9_318 rfl
def rX9_street_101 := W_iconst (M := mX9_street) dX9_street_101 (q := 102) rfl (v := (0)) rfl
def rX9_street_102 := W_istore2 (M := mX9_street) dX9_street_102 (q := 103) rfl
def rX9_street_103 := W_iload2 (M := mX9_street) dX9_street_103 (q := 104) rfl
def rX9_street_104 := W_bipush (M := mX9_street) dX9_street_104 (q := 106) rfl (v := (10)) rfl
def rX9_street_106 := W_icmp_ge (M := mX9_street) dX9_street_106 (q := 109) rfl (t := 127) rfl
def rX9_street_109 := W_aload0 (M := mX9_street) dX9_street_109 (q := 110) rfl
def rX9_street_109b := W_aloadR0 (M := mX9_street) dX9_street_109 (q := 110) rfl
def rX9_street_110 := W_getA (M := mX9_street) dX9_street_110 (q := 113) rfl fl9_17 ⟨_, rfl⟩
def rX9_street_113 := W_iload2 (M := mX9_street) dX9_street_113 (q := 114) rfl
def rX9_street_114 := W_aload0 (M := mX9_street) dX9_street_114 (q := 115) rfl
def rX9_street_114b := W_aloadR0 (M := mX9_street) dX9_street_114 (q := 115) rfl
def rX9_street_115 := W_getA (M := mX9_street) dX9_street_115 (q := 118) rfl fl9_21 ⟨_, rfl⟩
def rX9_street_118 := W_iload2 (M := mX9_street) dX9_street_118 (q := 119) rfl
def rX9_street_119 := W_iald (M := mX9_street) dX9_street_119 (q := 120) rfl
def rX9_street_120 := W_iast (M := mX9_street) dX9_street_120 (q := 121) rfl
def rX9_street_121 := W_iinc2 (M := mX9_street) dX9_street_121 (q := 124) rfl (v := (1)) rfl
def rX9_street_124 := W_goto (M := mX9_street) dX9_street_124 (t := 103) rfl
def rX9_street_127 := W_aload0 (M := mX9_street) dX9_street_127 (q := 128) rfl
def rX9_street_127b := W_aloadR0 (M := mX9_street) dX9_street_127 (q := 128) rfl
def rX9_street_128 := W_iconst (M := mX9_street) dX9_street_128 (q := 129) rfl (v := (0)) rfl
def rX9_street_129 := W_putI (M := mX9_street) dX9_street_129 (q := 132) rfl fl9_321 rfl (Or.inl rfl)
def rX9_street_132 := W_aload0 (M := mX9_street) dX9_street_132 (q := 133) rfl
def rX9_street_132b := W_aloadR0 (M := mX9_street) dX9_street_132 (q := 133) rfl
def rX9_street_133 := W_iconst (M := mX9_street) dX9_street_133 (q := 134) rfl (v := (0)) rfl
def rX9_street_134 := W_putI (M := mX9_street) dX9_street_134 (q := 137) rfl fl9_324 rfl (Or.inl rfl)
def rX9_street_137 := W_aload0 (M := mX9_street) dX9_street_137 (q := 138) rfl
def rX9_street_137b := W_aloadR0 (M := mX9_street) dX9_street_137 (q := 138) rfl
def rX9_street_138 := W_aload0 (M := mX9_street) dX9_street_138 (q := 139) rfl
def rX9_street_138b := W_aloadR0 (M := mX9_street) dX9_street_138 (q := 139) rfl
def rX9_street_139 := W_getR (M := mX9_street) dX9_street_139 (q := 142) rfl fl9_316 ⟨_, rfl⟩
def rX9_street_142 := W_getI (M := mX9_street) dX9_street_142 (q := 145) rfl fl9_187 (Or.inl rfl)
def rX9_street_145 := W_invV1 (M := mX9_street) dX9_street_145 (q := 148) rfl ml0_9_62 rfl
def rX9_street_148 := W_iret (M := mX9_street) dX9_street_148 rfl
-- X9_tell
theorem eX9_tell {d : Nat} {h : qH} {Q : Option (Option Value) → qH → Prop} {s0 : Nat} {x1 : Int32} : WM d mX9_tell [.ref s0, .int x1] h Q = WP d mX9_tell (0, 0) 0 [some (.ref s0), some (.int x1), none, none] [] h Q := rfl
def rX9_tell_0 := W_aload0 (M := mX9_tell) dX9_tell_0 (q := 1) rfl
def rX9_tell_0b := W_aloadR0 (M := mX9_tell) dX9_tell_0 (q := 1) rfl
def rX9_tell_1 := W_iconst (M := mX9_tell) dX9_tell_1 (q := 2) rfl (v := (0)) rfl
def rX9_tell_2 := W_putI (M := mX9_tell) dX9_tell_2 (q := 5) rfl fl9_52 rfl (Or.inl rfl)
def rX9_tell_5 := W_aload0 (M := mX9_tell) dX9_tell_5 (q := 6) rfl
def rX9_tell_5b := W_aloadR0 (M := mX9_tell) dX9_tell_5 (q := 6) rfl
def rX9_tell_6 := W_iload1 (M := mX9_tell) dX9_tell_6 (q := 7) rfl
def rX9_tell_7 := W_invV1 (M := mX9_tell) dX9_tell_7 (q := 10) rfl ml0_9_373 rfl
def rX9_tell_10 := W_istore2 (M := mX9_tell) dX9_tell_10 (q := 11) rfl
def rX9_tell_11 := W_iload2 (M := mX9_tell) dX9_tell_11 (q := 12) rfl
def rX9_tell_12 := W_if_ne (M := mX9_tell) dX9_tell_12 (q := 15) rfl (t := 31) rfl
def rX9_tell_15 := W_aload0 (M := mX9_tell) dX9_tell_15 (q := 16) rfl
def rX9_tell_15b := W_aloadR0 (M := mX9_tell) dX9_tell_15 (q := 16) rfl
def rX9_tell_16 := W_getA (M := mX9_tell) dX9_tell_16 (q := 19) rfl fl9_17 ⟨_, rfl⟩
def rX9_tell_19 := W_bipush (M := mX9_tell) dX9_tell_19 (q := 21) rfl (v := (7)) rfl
def rX9_tell_21 := W_iald (M := mX9_tell) dX9_tell_21 (q := 22) rfl
def rX9_tell_22 := W_iload1 (M := mX9_tell) dX9_tell_22 (q := 23) rfl
def rX9_tell_23 := W_invS2 (M := mX9_tell) dX9_tell_23 (q := 26) rfl ml1_9_281 rfl rfl rfl
def rX9_tell_26 := W_if_eq (M := mX9_tell) dX9_tell_26 (q := 29) rfl (t := 31) rfl
def rX9_tell_29 := W_iconst (M := mX9_tell) dX9_tell_29 (q := 30) rfl (v := (5)) rfl
def rX9_tell_30 := W_istore2 (M := mX9_tell) dX9_tell_30 (q := 31) rfl
def rX9_tell_31 := W_iload2 (M := mX9_tell) dX9_tell_31 (q := 32) rfl
def rX9_tell_32 := W_if_le (M := mX9_tell) dX9_tell_32 (q := 35) rfl (t := 41) rfl
def rX9_tell_35 := W_aload0 (M := mX9_tell) dX9_tell_35 (q := 36) rfl
def rX9_tell_35b := W_aloadR0 (M := mX9_tell) dX9_tell_35 (q := 36) rfl
def rX9_tell_36 := W_iload2 (M := mX9_tell) dX9_tell_36 (q := 37) rfl
def rX9_tell_37 := W_invV1 (M := mX9_tell) dX9_tell_37 (q := 40) rfl ml0_9_58 rfl
def rX9_tell_40 := W_iret (M := mX9_tell) dX9_tell_40 rfl
def rX9_tell_41 := W_aload0 (M := mX9_tell) dX9_tell_41 (q := 42) rfl
def rX9_tell_41b := W_aloadR0 (M := mX9_tell) dX9_tell_41 (q := 42) rfl
def rX9_tell_42 := W_invV0 (M := mX9_tell) dX9_tell_42 (q := 45) rfl ml0_9_462 rfl
def rX9_tell_45 := W_aload0 (M := mX9_tell) dX9_tell_45 (q := 46) rfl
def rX9_tell_45b := W_aloadR0 (M := mX9_tell) dX9_tell_45 (q := 46) rfl
def rX9_tell_46 := W_iload1 (M := mX9_tell) dX9_tell_46 (q := 47) rfl
def rX9_tell_47 := W_aload0 (M := mX9_tell) dX9_tell_47 (q := 48) rfl
def rX9_tell_47b := W_aloadR0 (M := mX9_tell) dX9_tell_47 (q := 48) rfl
def rX9_tell_48 := W_getA (M := mX9_tell) dX9_tell_48 (q := 51) rfl fl9_17 ⟨_, rfl⟩
def rX9_tell_51 := W_bipush (M := mX9_tell) dX9_tell_51 (q := 53) rfl (v := (9)) rfl
def rX9_tell_53 := W_iald (M := mX9_tell) dX9_tell_53 (q := 54) rfl
def rX9_tell_54 := W_invV2 (M := mX9_tell) dX9_tell_54 (q := 57) rfl ml0_9_364 rfl
def rX9_tell_57 := W_iconst (M := mX9_tell) dX9_tell_57 (q := 58) rfl (v := (0)) rfl
def rX9_tell_58 := W_istore3 (M := mX9_tell) dX9_tell_58 (q := 59) rfl
def rX9_tell_59 := W_iload3 (M := mX9_tell) dX9_tell_59 (q := 60) rfl
def rX9_tell_60 := W_bipush (M := mX9_tell) dX9_tell_60 (q := 62) rfl (v := (10)) rfl
def rX9_tell_62 := W_icmp_ge (M := mX9_tell) dX9_tell_62 (q := 65) rfl (t := 83) rfl
def rX9_tell_65 := W_aload0 (M := mX9_tell) dX9_tell_65 (q := 66) rfl
def rX9_tell_65b := W_aloadR0 (M := mX9_tell) dX9_tell_65 (q := 66) rfl
def rX9_tell_66 := W_getA (M := mX9_tell) dX9_tell_66 (q := 69) rfl fl9_17 ⟨_, rfl⟩
def rX9_tell_69 := W_iload3 (M := mX9_tell) dX9_tell_69 (q := 70) rfl
def rX9_tell_70 := W_aload0 (M := mX9_tell) dX9_tell_70 (q := 71) rfl
def rX9_tell_70b := W_aloadR0 (M := mX9_tell) dX9_tell_70 (q := 71) rfl
def rX9_tell_71 := W_getA (M := mX9_tell) dX9_tell_71 (q := 74) rfl fl9_21 ⟨_, rfl⟩
def rX9_tell_74 := W_iload3 (M := mX9_tell) dX9_tell_74 (q := 75) rfl
def rX9_tell_75 := W_iald (M := mX9_tell) dX9_tell_75 (q := 76) rfl
def rX9_tell_76 := W_iast (M := mX9_tell) dX9_tell_76 (q := 77) rfl
def rX9_tell_77 := W_iinc3 (M := mX9_tell) dX9_tell_77 (q := 80) rfl (v := (1)) rfl
def rX9_tell_80 := W_goto (M := mX9_tell) dX9_tell_80 (t := 59) rfl
def rX9_tell_83 := W_aload0 (M := mX9_tell) dX9_tell_83 (q := 84) rfl
def rX9_tell_83b := W_aloadR0 (M := mX9_tell) dX9_tell_83 (q := 84) rfl
def rX9_tell_84 := W_aload0 (M := mX9_tell) dX9_tell_84 (q := 85) rfl
def rX9_tell_84b := W_aloadR0 (M := mX9_tell) dX9_tell_84 (q := 85) rfl
def rX9_tell_85 := W_getA (M := mX9_tell) dX9_tell_85 (q := 88) rfl fl9_30 ⟨_, rfl⟩
def rX9_tell_88 := W_iload1 (M := mX9_tell) dX9_tell_88 (q := 89) rfl
def rX9_tell_89 := W_iald (M := mX9_tell) dX9_tell_89 (q := 90) rfl
def rX9_tell_90 := W_invS1 (M := mX9_tell) dX9_tell_90 (q := 93) rfl ml1_9_351 rfl rfl rfl
def rX9_tell_93 := W_invV1 (M := mX9_tell) dX9_tell_93 (q := 96) rfl ml0_9_62 rfl
def rX9_tell_96 := W_iret (M := mX9_tell) dX9_tell_96 rfl
-- X9_tells
theorem eX9_tells {d : Nat} {h : qH} {Q : Option (Option Value) → qH → Prop} {s0 : Nat} {x1 : Int32} {x2 : Int32} : WM d mX9_tells [.ref s0, .int x1, .int x2] h Q = WP d mX9_tells (0, 0) 0 [some (.ref s0), some (.int x1), some (.int x2)] [] h Q := rfl
def rX9_tells_0 := W_aload0 (M := mX9_tells) dX9_tells_0 (q := 1) rfl
def rX9_tells_0b := W_aloadR0 (M := mX9_tells) dX9_tells_0 (q := 1) rfl
def rX9_tells_1 := W_getA (M := mX9_tells) dX9_tells_1 (q := 4) rfl fl9_21 ⟨_, rfl⟩
def rX9_tells_4 := W_bipush (M := mX9_tells) dX9_tells_4 (q := 6) rfl (v := (7)) rfl
def rX9_tells_6 := W_iald (M := mX9_tells) dX9_tells_6 (q := 7) rfl
def rX9_tells_7 := W_iload1 (M := mX9_tells) dX9_tells_7 (q := 8) rfl
def rX9_tells_8 := W_invS2 (M := mX9_tells) dX9_tells_8 (q := 11) rfl ml1_9_281 rfl rfl rfl
def rX9_tells_11 := W_if_ne (M := mX9_tells) dX9_tells_11 (q := 14) rfl (t := 24) rfl
def rX9_tells_14 := W_aload0 (M := mX9_tells) dX9_tells_14 (q := 15) rfl
def rX9_tells_14b := W_aloadR0 (M := mX9_tells) dX9_tells_14 (q := 15) rfl
def rX9_tells_15 := W_getA (M := mX9_tells) dX9_tells_15 (q := 18) rfl fl9_30 ⟨_, rfl⟩
def rX9_tells_18 := W_iload1 (M := mX9_tells) dX9_tells_18 (q := 19) rfl
def rX9_tells_19 := W_iald (M := mX9_tells) dX9_tells_19 (q := 20) rfl
def rX9_tells_20 := W_iload2 (M := mX9_tells) dX9_tells_20 (q := 21) rfl
def rX9_tells_21 := W_icmp_gt (M := mX9_tells) dX9_tells_21 (q := 24) rfl (t := 25) rfl
def rX9_tells_24 := W_vret (M := mX9_tells) dX9_tells_24 rfl
def rX9_tells_25 := W_aload0 (M := mX9_tells) dX9_tells_25 (q := 26) rfl
def rX9_tells_25b := W_aloadR0 (M := mX9_tells) dX9_tells_25 (q := 26) rfl
def rX9_tells_26 := W_getA (M := mX9_tells) dX9_tells_26 (q := 29) rfl fl9_21 ⟨_, rfl⟩
def rX9_tells_29 := W_bipush (M := mX9_tells) dX9_tells_29 (q := 31) rfl (v := (7)) rfl
def rX9_tells_31 := W_dup2IR (M := mX9_tells) dX9_tells_31 (q := 32) rfl
def rX9_tells_32 := W_iald (M := mX9_tells) dX9_tells_32 (q := 33) rfl
def rX9_tells_33 := W_iconst (M := mX9_tells) dX9_tells_33 (q := 34) rfl (v := (1)) rfl
def rX9_tells_34 := W_iload1 (M := mX9_tells) dX9_tells_34 (q := 35) rfl
def rX9_tells_35 := W_ishl (M := mX9_tells) dX9_tells_35 (q := 36) rfl
def rX9_tells_36 := W_ior (M := mX9_tells) dX9_tells_36 (q := 37) rfl
def rX9_tells_37 := W_iast (M := mX9_tells) dX9_tells_37 (q := 38) rfl
def rX9_tells_38 := W_aload0 (M := mX9_tells) dX9_tells_38 (q := 39) rfl
def rX9_tells_38b := W_aloadR0 (M := mX9_tells) dX9_tells_38 (q := 39) rfl
def rX9_tells_39 := W_getR (M := mX9_tells) dX9_tells_39 (q := 42) rfl fl9_316 ⟨_, rfl⟩
def rX9_tells_42 := W_getA (M := mX9_tells) dX9_tells_42 (q := 45) rfl fl9_268 ⟨_, rfl⟩
def rX9_tells_45 := W_iload1 (M := mX9_tells) dX9_tells_45 (q := 46) rfl
def rX9_tells_46 := W_iald (M := mX9_tells) dX9_tells_46 (q := 47) rfl
def rX9_tells_47 := W_iconst (M := mX9_tells) dX9_tells_47 (q := 48) rfl (v := (1)) rfl
def rX9_tells_48 := W_icmp_ne (M := mX9_tells) dX9_tells_48 (q := 51) rfl (t := 59) rfl
def rX9_tells_51 := W_aload0 (M := mX9_tells) dX9_tells_51 (q := 52) rfl
def rX9_tells_51b := W_aloadR0 (M := mX9_tells) dX9_tells_51 (q := 52) rfl
def rX9_tells_52 := W_getA (M := mX9_tells) dX9_tells_52 (q := 55) rfl fl9_21 ⟨_, rfl⟩
def rX9_tells_55 := W_iload1 (M := mX9_tells) dX9_tells_55 (q := 56) rfl
def rX9_tells_56 := W_bipush (M := mX9_tells) dX9_tells_56 (q := 58) rfl (v := (-2)) rfl
def rX9_tells_58 := W_iast (M := mX9_tells) dX9_tells_58 (q := 59) rfl
def rX9_tells_59 := W_aload0 (M := mX9_tells) dX9_tells_59 (q := 60) rfl
def rX9_tells_59b := W_aloadR0 (M := mX9_tells) dX9_tells_59 (q := 60) rfl
def rX9_tells_60 := W_getR (M := mX9_tells) dX9_tells_60 (q := 63) rfl fl9_316 ⟨_, rfl⟩
def rX9_tells_63 := W_getA (M := mX9_tells) dX9_tells_63 (q := 66) rfl fl9_268 ⟨_, rfl⟩
def rX9_tells_66 := W_iload1 (M := mX9_tells) dX9_tells_66 (q := 67) rfl
def rX9_tells_67 := W_iald (M := mX9_tells) dX9_tells_67 (q := 68) rfl
def rX9_tells_68 := W_iconst (M := mX9_tells) dX9_tells_68 (q := 69) rfl (v := (2)) rfl
def rX9_tells_69 := W_icmp_ne (M := mX9_tells) dX9_tells_69 (q := 72) rfl (t := 85) rfl
def rX9_tells_72 := W_aload0 (M := mX9_tells) dX9_tells_72 (q := 73) rfl
def rX9_tells_72b := W_aloadR0 (M := mX9_tells) dX9_tells_72 (q := 73) rfl
def rX9_tells_73 := W_getA (M := mX9_tells) dX9_tells_73 (q := 76) rfl fl9_21 ⟨_, rfl⟩
def rX9_tells_76 := W_bipush (M := mX9_tells) dX9_tells_76 (q := 78) rfl (v := (6)) rfl
def rX9_tells_78 := W_dup2IR (M := mX9_tells) dX9_tells_78 (q := 79) rfl
def rX9_tells_79 := W_iald (M := mX9_tells) dX9_tells_79 (q := 80) rfl
def rX9_tells_80 := W_iconst (M := mX9_tells) dX9_tells_80 (q := 81) rfl (v := (1)) rfl
def rX9_tells_81 := W_iload1 (M := mX9_tells) dX9_tells_81 (q := 82) rfl
def rX9_tells_82 := W_ishl (M := mX9_tells) dX9_tells_82 (q := 83) rfl
def rX9_tells_83 := W_ior (M := mX9_tells) dX9_tells_83 (q := 84) rfl
def rX9_tells_84 := W_iast (M := mX9_tells) dX9_tells_84 (q := 85) rfl
def rX9_tells_85 := W_aload0 (M := mX9_tells) dX9_tells_85 (q := 86) rfl
def rX9_tells_85b := W_aloadR0 (M := mX9_tells) dX9_tells_85 (q := 86) rfl
def rX9_tells_86 := W_getR (M := mX9_tells) dX9_tells_86 (q := 89) rfl fl9_316 ⟨_, rfl⟩
def rX9_tells_89 := W_getA (M := mX9_tells) dX9_tells_89 (q := 92) rfl fl9_268 ⟨_, rfl⟩
def rX9_tells_92 := W_iload1 (M := mX9_tells) dX9_tells_92 (q := 93) rfl
def rX9_tells_93 := W_iald (M := mX9_tells) dX9_tells_93 (q := 94) rfl
def rX9_tells_94 := W_iconst (M := mX9_tells) dX9_tells_94 (q := 95) rfl (v := (3)) rfl
def rX9_tells_95 := W_icmp_ne (M := mX9_tells) dX9_tells_95 (q := 98) rfl (t := 117) rfl
def rX9_tells_98 := W_aload0 (M := mX9_tells) dX9_tells_98 (q := 99) rfl
def rX9_tells_98b := W_aloadR0 (M := mX9_tells) dX9_tells_98 (q := 99) rfl
def rX9_tells_99 := W_getA (M := mX9_tells) dX9_tells_99 (q := 102) rfl fl9_21 ⟨_, rfl⟩
def rX9_tells_102 := W_iload1 (M := mX9_tells) dX9_tells_102 (q := 103) rfl
def rX9_tells_103 := W_iald (M := mX9_tells) dX9_tells_103 (q := 104) rfl
def rX9_tells_104 := W_if_le (M := mX9_tells) dX9_tells_104 (q := 107) rfl (t := 117) rfl
def rX9_tells_107 := W_aload0 (M := mX9_tells) dX9_tells_107 (q := 108) rfl
def rX9_tells_107b := W_aloadR0 (M := mX9_tells) dX9_tells_107 (q := 108) rfl
def rX9_tells_108 := W_getA (M := mX9_tells) dX9_tells_108 (q := 111) rfl fl9_21 ⟨_, rfl⟩
def rX9_tells_111 := W_iload1 (M := mX9_tells) dX9_tells_111 (q := 112) rfl
def rX9_tells_112 := W_dup2IR (M := mX9_tells) dX9_tells_112 (q := 113) rfl
def rX9_tells_113 := W_iald (M := mX9_tells) dX9_tells_113 (q := 114) rfl
def rX9_tells_114 := W_iconst (M := mX9_tells) dX9_tells_114 (q := 115) rfl (v := (1)) rfl
def rX9_tells_115 := W_isub (M := mX9_tells) dX9_tells_115 (q := 116) rfl
def rX9_tells_116 := W_iast (M := mX9_tells) dX9_tells_116 (q := 117) rfl
def rX9_tells_117 := W_aload0 (M := mX9_tells) dX9_tells_117 (q := 118) rfl
def rX9_tells_117b := W_aloadR0 (M := mX9_tells) dX9_tells_117 (q := 118) rfl
def rX9_tells_118 := W_invV0 (M := mX9_tells) dX9_tells_118 (q := 121) rfl ml0_9_339 rfl
def rX9_tells_121 := W_vret (M := mX9_tells) dX9_tells_121 rfl
-- X9_tellsAll
theorem eX9_tellsAll {d : Nat} {h : qH} {Q : Option (Option Value) → qH → Prop} {s0 : Nat} {x1 : Int32} : WM d mX9_tellsAll [.ref s0, .int x1] h Q = WP d mX9_tellsAll (0, 0) 0 [some (.ref s0), some (.int x1), none] [] h Q := rfl
def rX9_tellsAll_0 := W_iconst (M := mX9_tellsAll) dX9_tellsAll_0 (q := 1) rfl (v := (0)) rfl
def rX9_tellsAll_1 := W_istore2 (M := mX9_tellsAll) dX9_tellsAll_1 (q := 2) rfl
def rX9_tellsAll_2 := W_iload2 (M := mX9_tellsAll) dX9_tellsAll_2 (q := 3) rfl
def rX9_tellsAll_3 := W_aload0 (M := mX9_tellsAll) dX9_tellsAll_3 (q := 4) rfl
def rX9_tellsAll_3b := W_aloadR0 (M := mX9_tellsAll) dX9_tellsAll_3 (q := 4) rfl
def rX9_tellsAll_4 := W_getR (M := mX9_tellsAll) dX9_tellsAll_4 (q := 7) rfl fl9_316 ⟨_, rfl⟩
def rX9_tellsAll_7 := W_getI (M := mX9_tellsAll) dX9_tellsAll_7 (q := 10) rfl fl9_187 (Or.inl rfl)
def rX9_tellsAll_10 := W_icmp_ge (M := mX9_tellsAll) dX9_tellsAll_10 (q := 13) rfl (t := 136) rfl
def rX9_tellsAll_13 := W_iload1 (M := mX9_tellsAll) dX9_tellsAll_13 (q := 14) rfl
def rX9_tellsAll_14 := W_iload2 (M := mX9_tellsAll) dX9_tellsAll_14 (q := 15) rfl
def rX9_tellsAll_15 := W_invS2 (M := mX9_tellsAll) dX9_tellsAll_15 (q := 18) rfl ml1_9_281 rfl rfl rfl
def rX9_tellsAll_18 := W_if_eq (M := mX9_tellsAll) dX9_tellsAll_18 (q := 21) rfl (t := 130) rfl
def rX9_tellsAll_21 := W_aload0 (M := mX9_tellsAll) dX9_tellsAll_21 (q := 22) rfl
def rX9_tellsAll_21b := W_aloadR0 (M := mX9_tellsAll) dX9_tellsAll_21 (q := 22) rfl
def rX9_tellsAll_22 := W_getA (M := mX9_tellsAll) dX9_tellsAll_22 (q := 25) rfl fl9_21 ⟨_, rfl⟩
def rX9_tellsAll_25 := W_bipush (M := mX9_tellsAll) dX9_tellsAll_25 (q := 27) rfl (v := (7)) rfl
def rX9_tellsAll_27 := W_iald (M := mX9_tellsAll) dX9_tellsAll_27 (q := 28) rfl
def rX9_tellsAll_28 := W_iload2 (M := mX9_tellsAll) dX9_tellsAll_28 (q := 29) rfl
def rX9_tellsAll_29 := W_invS2 (M := mX9_tellsAll) dX9_tellsAll_29 (q := 32) rfl ml1_9_281 rfl rfl rfl
def rX9_tellsAll_32 := W_if_eq (M := mX9_tellsAll) dX9_tellsAll_32 (q := 35) rfl (t := 38) rfl
def rX9_tellsAll_35 := W_goto (M := mX9_tellsAll) dX9_tellsAll_35 (t := 130) rfl
def rX9_tellsAll_38 := W_aload0 (M := mX9_tellsAll) dX9_tellsAll_38 (q := 39) rfl
def rX9_tellsAll_38b := W_aloadR0 (M := mX9_tellsAll) dX9_tellsAll_38 (q := 39) rfl
def rX9_tellsAll_39 := W_getA (M := mX9_tellsAll) dX9_tellsAll_39 (q := 42) rfl fl9_21 ⟨_, rfl⟩
def rX9_tellsAll_42 := W_bipush (M := mX9_tellsAll) dX9_tellsAll_42 (q := 44) rfl (v := (7)) rfl
def rX9_tellsAll_44 := W_dup2IR (M := mX9_tellsAll) dX9_tellsAll_44 (q := 45) rfl
def rX9_tellsAll_45 := W_iald (M := mX9_tellsAll) dX9_tellsAll_45 (q := 46) rfl
def rX9_tellsAll_46 := W_iconst (M := mX9_tellsAll) dX9_tellsAll_46 (q := 47) rfl (v := (1)) rfl
def rX9_tellsAll_47 := W_iload2 (M := mX9_tellsAll) dX9_tellsAll_47 (q := 48) rfl
def rX9_tellsAll_48 := W_ishl (M := mX9_tellsAll) dX9_tellsAll_48 (q := 49) rfl
def rX9_tellsAll_49 := W_ior (M := mX9_tellsAll) dX9_tellsAll_49 (q := 50) rfl
def rX9_tellsAll_50 := W_iast (M := mX9_tellsAll) dX9_tellsAll_50 (q := 51) rfl
def rX9_tellsAll_51 := W_aload0 (M := mX9_tellsAll) dX9_tellsAll_51 (q := 52) rfl
def rX9_tellsAll_51b := W_aloadR0 (M := mX9_tellsAll) dX9_tellsAll_51 (q := 52) rfl
def rX9_tellsAll_52 := W_getR (M := mX9_tellsAll) dX9_tellsAll_52 (q := 55) rfl fl9_316 ⟨_, rfl⟩
def rX9_tellsAll_55 := W_getA (M := mX9_tellsAll) dX9_tellsAll_55 (q := 58) rfl fl9_268 ⟨_, rfl⟩
def rX9_tellsAll_58 := W_iload2 (M := mX9_tellsAll) dX9_tellsAll_58 (q := 59) rfl
def rX9_tellsAll_59 := W_iald (M := mX9_tellsAll) dX9_tellsAll_59 (q := 60) rfl
def rX9_tellsAll_60 := W_iconst (M := mX9_tellsAll) dX9_tellsAll_60 (q := 61) rfl (v := (1)) rfl
def rX9_tellsAll_61 := W_icmp_ne (M := mX9_tellsAll) dX9_tellsAll_61 (q := 64) rfl (t := 72) rfl
def rX9_tellsAll_64 := W_aload0 (M := mX9_tellsAll) dX9_tellsAll_64 (q := 65) rfl
def rX9_tellsAll_64b := W_aloadR0 (M := mX9_tellsAll) dX9_tellsAll_64 (q := 65) rfl
def rX9_tellsAll_65 := W_getA (M := mX9_tellsAll) dX9_tellsAll_65 (q := 68) rfl fl9_21 ⟨_, rfl⟩
def rX9_tellsAll_68 := W_iload2 (M := mX9_tellsAll) dX9_tellsAll_68 (q := 69) rfl
def rX9_tellsAll_69 := W_bipush (M := mX9_tellsAll) dX9_tellsAll_69 (q := 71) rfl (v := (-2)) rfl
def rX9_tellsAll_71 := W_iast (M := mX9_tellsAll) dX9_tellsAll_71 (q := 72) rfl
def rX9_tellsAll_72 := W_aload0 (M := mX9_tellsAll) dX9_tellsAll_72 (q := 73) rfl
def rX9_tellsAll_72b := W_aloadR0 (M := mX9_tellsAll) dX9_tellsAll_72 (q := 73) rfl
def rX9_tellsAll_73 := W_getR (M := mX9_tellsAll) dX9_tellsAll_73 (q := 76) rfl fl9_316 ⟨_, rfl⟩
def rX9_tellsAll_76 := W_getA (M := mX9_tellsAll) dX9_tellsAll_76 (q := 79) rfl fl9_268 ⟨_, rfl⟩
def rX9_tellsAll_79 := W_iload2 (M := mX9_tellsAll) dX9_tellsAll_79 (q := 80) rfl
def rX9_tellsAll_80 := W_iald (M := mX9_tellsAll) dX9_tellsAll_80 (q := 81) rfl
def rX9_tellsAll_81 := W_iconst (M := mX9_tellsAll) dX9_tellsAll_81 (q := 82) rfl (v := (2)) rfl
def rX9_tellsAll_82 := W_icmp_ne (M := mX9_tellsAll) dX9_tellsAll_82 (q := 85) rfl (t := 98) rfl
def rX9_tellsAll_85 := W_aload0 (M := mX9_tellsAll) dX9_tellsAll_85 (q := 86) rfl
def rX9_tellsAll_85b := W_aloadR0 (M := mX9_tellsAll) dX9_tellsAll_85 (q := 86) rfl
def rX9_tellsAll_86 := W_getA (M := mX9_tellsAll) dX9_tellsAll_86 (q := 89) rfl fl9_21 ⟨_, rfl⟩
def rX9_tellsAll_89 := W_bipush (M := mX9_tellsAll) dX9_tellsAll_89 (q := 91) rfl (v := (6)) rfl
def rX9_tellsAll_91 := W_dup2IR (M := mX9_tellsAll) dX9_tellsAll_91 (q := 92) rfl
def rX9_tellsAll_92 := W_iald (M := mX9_tellsAll) dX9_tellsAll_92 (q := 93) rfl
def rX9_tellsAll_93 := W_iconst (M := mX9_tellsAll) dX9_tellsAll_93 (q := 94) rfl (v := (1)) rfl
def rX9_tellsAll_94 := W_iload2 (M := mX9_tellsAll) dX9_tellsAll_94 (q := 95) rfl
def rX9_tellsAll_95 := W_ishl (M := mX9_tellsAll) dX9_tellsAll_95 (q := 96) rfl
def rX9_tellsAll_96 := W_ior (M := mX9_tellsAll) dX9_tellsAll_96 (q := 97) rfl
def rX9_tellsAll_97 := W_iast (M := mX9_tellsAll) dX9_tellsAll_97 (q := 98) rfl
def rX9_tellsAll_98 := W_aload0 (M := mX9_tellsAll) dX9_tellsAll_98 (q := 99) rfl
def rX9_tellsAll_98b := W_aloadR0 (M := mX9_tellsAll) dX9_tellsAll_98 (q := 99) rfl
def rX9_tellsAll_99 := W_getR (M := mX9_tellsAll) dX9_tellsAll_99 (q := 102) rfl fl9_316 ⟨_, rfl⟩
def rX9_tellsAll_102 := W_getA (M := mX9_tellsAll) dX9_tellsAll_102 (q := 105) rfl fl9_268 ⟨_, rfl⟩
def rX9_tellsAll_105 := W_iload2 (M := mX9_tellsAll) dX9_tellsAll_105 (q := 106) rfl
def rX9_tellsAll_106 := W_iald (M := mX9_tellsAll) dX9_tellsAll_106 (q := 107) rfl
def rX9_tellsAll_107 := W_iconst (M := mX9_tellsAll) dX9_tellsAll_107 (q := 108) rfl (v := (3)) rfl
def rX9_tellsAll_108 := W_icmp_ne (M := mX9_tellsAll) dX9_tellsAll_108 (q := 111) rfl (t := 130) rfl
def rX9_tellsAll_111 := W_aload0 (M := mX9_tellsAll) dX9_tellsAll_111 (q := 112) rfl
def rX9_tellsAll_111b := W_aloadR0 (M := mX9_tellsAll) dX9_tellsAll_111 (q := 112) rfl
def rX9_tellsAll_112 := W_getA (M := mX9_tellsAll) dX9_tellsAll_112 (q := 115) rfl fl9_21 ⟨_, rfl⟩
def rX9_tellsAll_115 := W_iload2 (M := mX9_tellsAll) dX9_tellsAll_115 (q := 116) rfl
def rX9_tellsAll_116 := W_iald (M := mX9_tellsAll) dX9_tellsAll_116 (q := 117) rfl
def rX9_tellsAll_117 := W_if_le (M := mX9_tellsAll) dX9_tellsAll_117 (q := 120) rfl (t := 130) rfl
def rX9_tellsAll_120 := W_aload0 (M := mX9_tellsAll) dX9_tellsAll_120 (q := 121) rfl
def rX9_tellsAll_120b := W_aloadR0 (M := mX9_tellsAll) dX9_tellsAll_120 (q := 121) rfl
def rX9_tellsAll_121 := W_getA (M := mX9_tellsAll) dX9_tellsAll_121 (q := 124) rfl fl9_21 ⟨_, rfl⟩
def rX9_tellsAll_124 := W_iload2 (M := mX9_tellsAll) dX9_tellsAll_124 (q := 125) rfl
def rX9_tellsAll_125 := W_dup2IR (M := mX9_tellsAll) dX9_tellsAll_125 (q := 126) rfl
def rX9_tellsAll_126 := W_iald (M := mX9_tellsAll) dX9_tellsAll_126 (q := 127) rfl
def rX9_tellsAll_127 := W_iconst (M := mX9_tellsAll) dX9_tellsAll_127 (q := 128) rfl (v := (1)) rfl
def rX9_tellsAll_128 := W_isub (M := mX9_tellsAll) dX9_tellsAll_128 (q := 129) rfl
def rX9_tellsAll_129 := W_iast (M := mX9_tellsAll) dX9_tellsAll_129 (q := 130) rfl
def rX9_tellsAll_130 := W_iinc2 (M := mX9_tellsAll) dX9_tellsAll_130 (q := 133) rfl (v := (1)) rfl
def rX9_tellsAll_133 := W_goto (M := mX9_tellsAll) dX9_tellsAll_133 (t := 2) rfl
def rX9_tellsAll_136 := W_aload0 (M := mX9_tellsAll) dX9_tellsAll_136 (q := 137) rfl
def rX9_tellsAll_136b := W_aloadR0 (M := mX9_tellsAll) dX9_tellsAll_136 (q := 137) rfl
def rX9_tellsAll_137 := W_invV0 (M := mX9_tellsAll) dX9_tellsAll_137 (q := 140) rfl ml0_9_339 rfl
def rX9_tellsAll_140 := W_vret (M := mX9_tellsAll) dX9_tellsAll_140 rfl
-- X9_thrown
theorem eX9_thrown {d : Nat} {h : qH} {Q : Option (Option Value) → qH → Prop} {s0 : Nat} : WM d mX9_thrown [.ref s0] h Q = WP d mX9_thrown (0, 0) 0 [some (.ref s0)] [] h Q := rfl
def rX9_thrown_0 := W_aload0 (M := mX9_thrown) dX9_thrown_0 (q := 1) rfl
def rX9_thrown_0b := W_aloadR0 (M := mX9_thrown) dX9_thrown_0 (q := 1) rfl
def rX9_thrown_1 := W_getI (M := mX9_thrown) dX9_thrown_1 (q := 4) rfl fl9_52 (Or.inl rfl)
def rX9_thrown_4 := W_iret (M := mX9_thrown) dX9_thrown_4 rfl
-- X9_tries
theorem eX9_tries {d : Nat} {h : qH} {Q : Option (Option Value) → qH → Prop} {s0 : Nat} : WM d mX9_tries [.ref s0] h Q = WP d mX9_tries (0, 0) 0 [some (.ref s0), none, none, none, none] [] h Q := rfl
def rX9_tries_0 := W_aload0 (M := mX9_tries) dX9_tries_0 (q := 1) rfl
def rX9_tries_0b := W_aloadR0 (M := mX9_tries) dX9_tries_0 (q := 1) rfl
def rX9_tries_1 := W_iconst (M := mX9_tries) dX9_tries_1 (q := 2) rfl (v := (-1)) rfl
def rX9_tries_2 := W_invV1 (M := mX9_tries) dX9_tries_2 (q := 5) rfl ml0_9_409 rfl
def rX9_tries_5 := W_bipush (M := mX9_tries) dX9_tries_5 (q := 7) rfl (v := (-2)) rfl
def rX9_tries_7 := W_istore1 (M := mX9_tries) dX9_tries_7 (q := 8) rfl
def rX9_tries_8 := W_aload0 (M := mX9_tries) dX9_tries_8 (q := 9) rfl
def rX9_tries_8b := W_aloadR0 (M := mX9_tries) dX9_tries_8 (q := 9) rfl
def rX9_tries_9 := W_bipush (M := mX9_tries) dX9_tries_9 (q := 11) rfl (v := (-2)) rfl
def rX9_tries_11 := W_putI (M := mX9_tries) dX9_tries_11 (q := 14) rfl fl9_412 rfl (Or.inl rfl)
def rX9_tries_14 := W_iconst (M := mX9_tries) dX9_tries_14 (q := 15) rfl (v := (0)) rfl
def rX9_tries_15 := W_istore2 (M := mX9_tries) dX9_tries_15 (q := 16) rfl
def rX9_tries_16 := W_iload2 (M := mX9_tries) dX9_tries_16 (q := 17) rfl
def rX9_tries_17 := W_bipush (M := mX9_tries) dX9_tries_17 (q := 19) rfl (v := (20)) rfl
def rX9_tries_19 := W_icmp_gt (M := mX9_tries) dX9_tries_19 (q := 22) rfl (t := 106) rfl
def rX9_tries_22 := W_aload0 (M := mX9_tries) dX9_tries_22 (q := 23) rfl
def rX9_tries_22b := W_aloadR0 (M := mX9_tries) dX9_tries_22 (q := 23) rfl
def rX9_tries_23 := W_getI (M := mX9_tries) dX9_tries_23 (q := 26) rfl fl9_394 (Or.inl rfl)
def rX9_tries_26 := W_if_le (M := mX9_tries) dX9_tries_26 (q := 29) rfl (t := 106) rfl
def rX9_tries_29 := W_iconst (M := mX9_tries) dX9_tries_29 (q := 30) rfl (v := (0)) rfl
def rX9_tries_30 := W_istore3 (M := mX9_tries) dX9_tries_30 (q := 31) rfl
def rX9_tries_31 := W_iconst (M := mX9_tries) dX9_tries_31 (q := 32) rfl (v := (0)) rfl
def rX9_tries_32 := W_istore4 (M := mX9_tries) dX9_tries_32 (q := 34) rfl
def rX9_tries_34 := W_iload4 (M := mX9_tries) dX9_tries_34 (q := 36) rfl
def rX9_tries_36 := W_bipush (M := mX9_tries) dX9_tries_36 (q := 38) rfl (v := (6)) rfl
def rX9_tries_38 := W_icmp_gt (M := mX9_tries) dX9_tries_38 (q := 41) rfl (t := 76) rfl
def rX9_tries_41 := W_aload0 (M := mX9_tries) dX9_tries_41 (q := 42) rfl
def rX9_tries_41b := W_aloadR0 (M := mX9_tries) dX9_tries_41 (q := 42) rfl
def rX9_tries_42 := W_getA (M := mX9_tries) dX9_tries_42 (q := 45) rfl fl9_42 ⟨_, rfl⟩
def rX9_tries_45 := W_bipush (M := mX9_tries) dX9_tries_45 (q := 47) rfl (v := (7)) rfl
def rX9_tries_47 := W_iload2 (M := mX9_tries) dX9_tries_47 (q := 48) rfl
def rX9_tries_48 := W_imul (M := mX9_tries) dX9_tries_48 (q := 49) rfl
def rX9_tries_49 := W_iload4 (M := mX9_tries) dX9_tries_49 (q := 51) rfl
def rX9_tries_51 := W_iadd (M := mX9_tries) dX9_tries_51 (q := 52) rfl
def rX9_tries_52 := W_iald (M := mX9_tries) dX9_tries_52 (q := 53) rfl
def rX9_tries_53 := W_iload3 (M := mX9_tries) dX9_tries_53 (q := 54) rfl
def rX9_tries_54 := W_icmp_le (M := mX9_tries) dX9_tries_54 (q := 57) rfl (t := 70) rfl
def rX9_tries_57 := W_aload0 (M := mX9_tries) dX9_tries_57 (q := 58) rfl
def rX9_tries_57b := W_aloadR0 (M := mX9_tries) dX9_tries_57 (q := 58) rfl
def rX9_tries_58 := W_getA (M := mX9_tries) dX9_tries_58 (q := 61) rfl fl9_42 ⟨_, rfl⟩
def rX9_tries_61 := W_bipush (M := mX9_tries) dX9_tries_61 (q := 63) rfl (v := (7)) rfl
def rX9_tries_63 := W_iload2 (M := mX9_tries) dX9_tries_63 (q := 64) rfl
def rX9_tries_64 := W_imul (M := mX9_tries) dX9_tries_64 (q := 65) rfl
def rX9_tries_65 := W_iload4 (M := mX9_tries) dX9_tries_65 (q := 67) rfl
def rX9_tries_67 := W_iadd (M := mX9_tries) dX9_tries_67 (q := 68) rfl
def rX9_tries_68 := W_iald (M := mX9_tries) dX9_tries_68 (q := 69) rfl
def rX9_tries_69 := W_istore3 (M := mX9_tries) dX9_tries_69 (q := 70) rfl
def rX9_tries_70 := W_iinc4 (M := mX9_tries) dX9_tries_70 (q := 73) rfl (v := (1)) rfl
def rX9_tries_73 := W_goto (M := mX9_tries) dX9_tries_73 (t := 34) rfl
def rX9_tries_76 := W_iload1 (M := mX9_tries) dX9_tries_76 (q := 77) rfl
def rX9_tries_77 := W_bipush (M := mX9_tries) dX9_tries_77 (q := 79) rfl (v := (-2)) rfl
def rX9_tries_79 := W_icmp_eq (M := mX9_tries) dX9_tries_79 (q := 82) rfl (t := 93) rfl
def rX9_tries_82 := W_iload3 (M := mX9_tries) dX9_tries_82 (q := 83) rfl
def rX9_tries_83 := W_aload0 (M := mX9_tries) dX9_tries_83 (q := 84) rfl
def rX9_tries_83b := W_aloadR0 (M := mX9_tries) dX9_tries_83 (q := 84) rfl
def rX9_tries_84 := W_getI (M := mX9_tries) dX9_tries_84 (q := 87) rfl fl9_412 (Or.inl rfl)
def rX9_tries_87 := W_icmp_lt (M := mX9_tries) dX9_tries_87 (q := 90) rfl (t := 93) rfl
def rX9_tries_90 := W_goto (M := mX9_tries) dX9_tries_90 (t := 100) rfl
def rX9_tries_93 := W_iload2 (M := mX9_tries) dX9_tries_93 (q := 94) rfl
def rX9_tries_94 := W_istore1 (M := mX9_tries) dX9_tries_94 (q := 95) rfl
def rX9_tries_95 := W_aload0 (M := mX9_tries) dX9_tries_95 (q := 96) rfl
def rX9_tries_95b := W_aloadR0 (M := mX9_tries) dX9_tries_95 (q := 96) rfl
def rX9_tries_96 := W_iload3 (M := mX9_tries) dX9_tries_96 (q := 97) rfl
def rX9_tries_97 := W_putI (M := mX9_tries) dX9_tries_97 (q := 100) rfl fl9_412 rfl (Or.inl rfl)
def rX9_tries_100 := W_iinc2 (M := mX9_tries) dX9_tries_100 (q := 103) rfl (v := (1)) rfl
def rX9_tries_103 := W_goto (M := mX9_tries) dX9_tries_103 (t := 16) rfl
def rX9_tries_106 := W_iload1 (M := mX9_tries) dX9_tries_106 (q := 107) rfl
def rX9_tries_107 := W_iret (M := mX9_tries) dX9_tries_107 rfl
-- X9_trouble
theorem eX9_trouble {d : Nat} {h : qH} {Q : Option (Option Value) → qH → Prop} {s0 : Nat} : WM d mX9_trouble [.ref s0] h Q = WP d mX9_trouble (0, 0) 0 [some (.ref s0)] [] h Q := rfl
def rX9_trouble_0 := W_aload0 (M := mX9_trouble) dX9_trouble_0 (q := 1) rfl
def rX9_trouble_0b := W_aloadR0 (M := mX9_trouble) dX9_trouble_0 (q := 1) rfl
def rX9_trouble_1 := W_iconst (M := mX9_trouble) dX9_trouble_1 (q := 2) rfl (v := (0)) rfl
def rX9_trouble_2 := W_putI (M := mX9_trouble) dX9_trouble_2 (q := 5) rfl fl9_52 rfl (Or.inl rfl)
def rX9_trouble_5 := W_aload0 (M := mX9_trouble) dX9_trouble_5 (q := 6) rfl
def rX9_trouble_5b := W_aloadR0 (M := mX9_trouble) dX9_trouble_5 (q := 6) rfl
def rX9_trouble_6 := W_getI (M := mX9_trouble) dX9_trouble_6 (q := 9) rfl fl9_55 (Or.inl rfl)
def rX9_trouble_9 := W_iret (M := mX9_trouble) dX9_trouble_9 rfl
-- X9_tryDay
theorem eX9_tryDay {d : Nat} {h : qH} {Q : Option (Option Value) → qH → Prop} {s0 : Nat} : WM d mX9_tryDay [.ref s0] h Q = WP d mX9_tryDay (0, 0) 0 [some (.ref s0)] [] h Q := rfl
def rX9_tryDay_0 := W_aload0 (M := mX9_tryDay) dX9_tryDay_0 (q := 1) rfl
def rX9_tryDay_0b := W_aloadR0 (M := mX9_tryDay) dX9_tryDay_0 (q := 1) rfl
def rX9_tryDay_1 := W_iconst (M := mX9_tryDay) dX9_tryDay_1 (q := 2) rfl (v := (0)) rfl
def rX9_tryDay_2 := W_putI (M := mX9_tryDay) dX9_tryDay_2 (q := 5) rfl fl9_52 rfl (Or.inl rfl)
def rX9_tryDay_5 := W_aload0 (M := mX9_tryDay) dX9_tryDay_5 (q := 6) rfl
def rX9_tryDay_5b := W_aloadR0 (M := mX9_tryDay) dX9_tryDay_5 (q := 6) rfl
def rX9_tryDay_6 := W_getR (M := mX9_tryDay) dX9_tryDay_6 (q := 9) rfl fl9_316 ⟨_, rfl⟩
def rX9_tryDay_9 := W_ifnonnull (M := mX9_tryDay) dX9_tryDay_9 (q := 12) rfl (t := 20) rfl
def rX9_tryDay_9b := W_ifnonnullN (M := mX9_tryDay) dX9_tryDay_9 (q := 12) rfl (t := 20) rfl
def rX9_tryDay_12 := W_aload0 (M := mX9_tryDay) dX9_tryDay_12 (q := 13) rfl
def rX9_tryDay_12b := W_aloadR0 (M := mX9_tryDay) dX9_tryDay_12 (q := 13) rfl
def rX9_tryDay_13 := W_iconst (M := mX9_tryDay) dX9_tryDay_13 (q := 14) rfl (v := (1)) rfl
def rX9_tryDay_14 := W_invV1 (M := mX9_tryDay) dX9_tryDay_14 (q := 17) rfl ml0_9_58 rfl
def rX9_tryDay_17 := W_goto (M := mX9_tryDay) dX9_tryDay_17 (t := 28) rfl
def rX9_tryDay_20 := W_aload0 (M := mX9_tryDay) dX9_tryDay_20 (q := 21) rfl
def rX9_tryDay_20b := W_aloadR0 (M := mX9_tryDay) dX9_tryDay_20 (q := 21) rfl
def rX9_tryDay_21 := W_aload0 (M := mX9_tryDay) dX9_tryDay_21 (q := 22) rfl
def rX9_tryDay_21b := W_aloadR0 (M := mX9_tryDay) dX9_tryDay_21 (q := 22) rfl
def rX9_tryDay_22 := W_invV0 (M := mX9_tryDay) dX9_tryDay_22 (q := 25) rfl ml0_9_415 rfl
def rX9_tryDay_25 := W_invV1 (M := mX9_tryDay) dX9_tryDay_25 (q := 28) rfl ml0_9_62 rfl
def rX9_tryDay_28 := W_iret (M := mX9_tryDay) dX9_tryDay_28 rfl
-- X9_tryLeaves
theorem eX9_tryLeaves {d : Nat} {h : qH} {Q : Option (Option Value) → qH → Prop} {s0 : Nat} : WM d mX9_tryLeaves [.ref s0] h Q = WP d mX9_tryLeaves (0, 0) 0 [some (.ref s0)] [] h Q := rfl
def rX9_tryLeaves_0 := W_aload0 (M := mX9_tryLeaves) dX9_tryLeaves_0 (q := 1) rfl
def rX9_tryLeaves_0b := W_aloadR0 (M := mX9_tryLeaves) dX9_tryLeaves_0 (q := 1) rfl
def rX9_tryLeaves_1 := W_iconst (M := mX9_tryLeaves) dX9_tryLeaves_1 (q := 2) rfl (v := (0)) rfl
def rX9_tryLeaves_2 := W_putI (M := mX9_tryLeaves) dX9_tryLeaves_2 (q := 5) rfl fl9_52 rfl (Or.inl rfl)
def rX9_tryLeaves_5 := W_aload0 (M := mX9_tryLeaves) dX9_tryLeaves_5 (q := 6) rfl
def rX9_tryLeaves_5b := W_aloadR0 (M := mX9_tryLeaves) dX9_tryLeaves_5 (q := 6) rfl
def rX9_tryLeaves_6 := W_getR (M := mX9_tryLeaves) dX9_tryLeaves_6 (q := 9) rfl fl9_316 ⟨_, rfl⟩
def rX9_tryLeaves_9 := W_ifnonnull (M := mX9_tryLeaves) dX9_tryLeaves_9 (q := 12) rfl (t := 18) rfl
def rX9_tryLeaves_9b := W_ifnonnullN (M := mX9_tryLeaves) dX9_tryLeaves_9 (q := 12) rfl (t := 18) rfl
def rX9_tryLeaves_12 := W_aload0 (M := mX9_tryLeaves) dX9_tryLeaves_12 (q := 13) rfl
def rX9_tryLeaves_12b := W_aloadR0 (M := mX9_tryLeaves) dX9_tryLeaves_12 (q := 13) rfl
def rX9_tryLeaves_13 := W_iconst (M := mX9_tryLeaves) dX9_tryLeaves_13 (q := 14) rfl (v := (1)) rfl
def rX9_tryLeaves_14 := W_invV1 (M := mX9_tryLeaves) dX9_tryLeaves_14 (q := 17) rfl ml0_9_58 rfl
def rX9_tryLeaves_17 := W_iret (M := mX9_tryLeaves) dX9_tryLeaves_17 rfl
def rX9_tryLeaves_18 := W_aload0 (M := mX9_tryLeaves) dX9_tryLeaves_18 (q := 19) rfl
def rX9_tryLeaves_18b := W_aloadR0 (M := mX9_tryLeaves) dX9_tryLeaves_18 (q := 19) rfl
def rX9_tryLeaves_19 := W_invV0 (M := mX9_tryLeaves) dX9_tryLeaves_19 (q := 22) rfl ml0_9_415 rfl
def rX9_tryLeaves_22 := W_popI (M := mX9_tryLeaves) dX9_tryLeaves_22 (q := 23) rfl
def rX9_tryLeaves_23 := W_aload0 (M := mX9_tryLeaves) dX9_tryLeaves_23 (q := 24) rfl
def rX9_tryLeaves_23b := W_aloadR0 (M := mX9_tryLeaves) dX9_tryLeaves_23 (q := 24) rfl
def rX9_tryLeaves_24 := W_aload0 (M := mX9_tryLeaves) dX9_tryLeaves_24 (q := 25) rfl
def rX9_tryLeaves_24b := W_aloadR0 (M := mX9_tryLeaves) dX9_tryLeaves_24 (q := 25) rfl
def rX9_tryLeaves_25 := W_getI (M := mX9_tryLeaves) dX9_tryLeaves_25 (q := 28) rfl fl9_412 (Or.inl rfl)
def rX9_tryLeaves_28 := W_invV1 (M := mX9_tryLeaves) dX9_tryLeaves_28 (q := 31) rfl ml0_9_62 rfl
def rX9_tryLeaves_31 := W_iret (M := mX9_tryLeaves) dX9_tryLeaves_31 rfl
-- X9_undo
theorem eX9_undo {d : Nat} {h : qH} {Q : Option (Option Value) → qH → Prop} {s0 : Nat} : WM d mX9_undo [.ref s0] h Q = WP d mX9_undo (0, 0) 0 [some (.ref s0), none] [] h Q := rfl
def rX9_undo_0 := W_aload0 (M := mX9_undo) dX9_undo_0 (q := 1) rfl
def rX9_undo_0b := W_aloadR0 (M := mX9_undo) dX9_undo_0 (q := 1) rfl
def rX9_undo_1 := W_iconst (M := mX9_undo) dX9_undo_1 (q := 2) rfl (v := (0)) rfl
def rX9_undo_2 := W_putI (M := mX9_undo) dX9_undo_2 (q := 5) rfl fl9_52 rfl (Or.inl rfl)
def rX9_undo_5 := W_aload0 (M := mX9_undo) dX9_undo_5 (q := 6) rfl
def rX9_undo_5b := W_aloadR0 (M := mX9_undo) dX9_undo_5 (q := 6) rfl
def rX9_undo_6 := W_getR (M := mX9_undo) dX9_undo_6 (q := 9) rfl fl9_316 ⟨_, rfl⟩
def rX9_undo_9 := W_ifnull (M := mX9_undo) dX9_undo_9 (q := 12) rfl (t := 19) rfl
def rX9_undo_9b := W_ifnullN (M := mX9_undo) dX9_undo_9 (q := 12) rfl (t := 19) rfl
def rX9_undo_12 := W_aload0 (M := mX9_undo) dX9_undo_12 (q := 13) rfl
def rX9_undo_12b := W_aloadR0 (M := mX9_undo) dX9_undo_12 (q := 13) rfl
def rX9_undo_13 := W_getI (M := mX9_undo) dX9_undo_13 (q := 16) rfl fl9_321 (Or.inl rfl)
def rX9_undo_16 := W_if_ne (M := mX9_undo) dX9_undo_16 (q := 19) rfl (t := 26) rfl
def rX9_undo_19 := W_aload0 (M := mX9_undo) dX9_undo_19 (q := 20) rfl
def rX9_undo_19b := W_aloadR0 (M := mX9_undo) dX9_undo_19 (q := 20) rfl
def rX9_undo_20 := W_bipush (M := mX9_undo) dX9_undo_20 (q := 22) rfl (v := (6)) rfl
def rX9_undo_22 := W_invV1 (M := mX9_undo) dX9_undo_22 (q := 25) rfl ml0_9_465 rfl
def rX9_undo_25 := W_zret (M := mX9_undo) dX9_undo_25 rfl
def rX9_undo_26 := W_aload0 (M := mX9_undo) dX9_undo_26 (q := 27) rfl
def rX9_undo_26b := W_aloadR0 (M := mX9_undo) dX9_undo_26 (q := 27) rfl
def rX9_undo_27 := W_dupI (M := mX9_undo) dX9_undo_27 (q := 28) rfl
def rX9_undo_27b := W_dupR (M := mX9_undo) dX9_undo_27 (q := 28) rfl
def rX9_undo_28 := W_getI (M := mX9_undo) dX9_undo_28 (q := 31) rfl fl9_321 (Or.inl rfl)
def rX9_undo_31 := W_iconst (M := mX9_undo) dX9_undo_31 (q := 32) rfl (v := (1)) rfl
def rX9_undo_32 := W_isub (M := mX9_undo) dX9_undo_32 (q := 33) rfl
def rX9_undo_33 := W_putI (M := mX9_undo) dX9_undo_33 (q := 36) rfl fl9_321 rfl (Or.inl rfl)
def rX9_undo_36 := W_iconst (M := mX9_undo) dX9_undo_36 (q := 37) rfl (v := (0)) rfl
def rX9_undo_37 := W_istore1 (M := mX9_undo) dX9_undo_37 (q := 38) rfl
def rX9_undo_38 := W_iload1 (M := mX9_undo) dX9_undo_38 (q := 39) rfl
def rX9_undo_39 := W_bipush (M := mX9_undo) dX9_undo_39 (q := 41) rfl (v := (10)) rfl
def rX9_undo_41 := W_icmp_ge (M := mX9_undo) dX9_undo_41 (q := 44) rfl (t := 70) rfl
def rX9_undo_44 := W_aload0 (M := mX9_undo) dX9_undo_44 (q := 45) rfl
def rX9_undo_44b := W_aloadR0 (M := mX9_undo) dX9_undo_44 (q := 45) rfl
def rX9_undo_45 := W_getA (M := mX9_undo) dX9_undo_45 (q := 48) rfl fl9_17 ⟨_, rfl⟩
def rX9_undo_48 := W_iload1 (M := mX9_undo) dX9_undo_48 (q := 49) rfl
def rX9_undo_49 := W_aload0 (M := mX9_undo) dX9_undo_49 (q := 50) rfl
def rX9_undo_49b := W_aloadR0 (M := mX9_undo) dX9_undo_49 (q := 50) rfl
def rX9_undo_50 := W_getA (M := mX9_undo) dX9_undo_50 (q := 53) rfl fl9_24 ⟨_, rfl⟩
def rX9_undo_53 := W_bipush (M := mX9_undo) dX9_undo_53 (q := 55) rfl (v := (10)) rfl
def rX9_undo_55 := W_aload0 (M := mX9_undo) dX9_undo_55 (q := 56) rfl
def rX9_undo_55b := W_aloadR0 (M := mX9_undo) dX9_undo_55 (q := 56) rfl
def rX9_undo_56 := W_getI (M := mX9_undo) dX9_undo_56 (q := 59) rfl fl9_321 (Or.inl rfl)
def rX9_undo_59 := W_imul (M := mX9_undo) dX9_undo_59 (q := 60) rfl
def rX9_undo_60 := W_iload1 (M := mX9_undo) dX9_undo_60 (q := 61) rfl
def rX9_undo_61 := W_iadd (M := mX9_undo) dX9_undo_61 (q := 62) rfl
def rX9_undo_62 := W_iald (M := mX9_undo) dX9_undo_62 (q := 63) rfl
def rX9_undo_63 := W_iast (M := mX9_undo) dX9_undo_63 (q := 64) rfl
def rX9_undo_64 := W_iinc1 (M := mX9_undo) dX9_undo_64 (q := 67) rfl (v := (1)) rfl
def rX9_undo_67 := W_goto (M := mX9_undo) dX9_undo_67 (t := 38) rfl
def rX9_undo_70 := W_aload0 (M := mX9_undo) dX9_undo_70 (q := 71) rfl
def rX9_undo_70b := W_aloadR0 (M := mX9_undo) dX9_undo_70 (q := 71) rfl
def rX9_undo_71 := W_invV0 (M := mX9_undo) dX9_undo_71 (q := 74) rfl ml0_9_468 rfl
def rX9_undo_74 := W_zret (M := mX9_undo) dX9_undo_74 rfl
-- X9_wayAt
theorem eX9_wayAt {d : Nat} {h : qH} {Q : Option (Option Value) → qH → Prop} {s0 : Nat} {x1 : Int32} {x2 : Int32} : WM d mX9_wayAt [.ref s0, .int x1, .int x2] h Q = WP d mX9_wayAt (0, 0) 0 [some (.ref s0), some (.int x1), some (.int x2)] [] h Q := rfl
def rX9_wayAt_0 := W_aload0 (M := mX9_wayAt) dX9_wayAt_0 (q := 1) rfl
def rX9_wayAt_0b := W_aloadR0 (M := mX9_wayAt) dX9_wayAt_0 (q := 1) rfl
def rX9_wayAt_1 := W_iconst (M := mX9_wayAt) dX9_wayAt_1 (q := 2) rfl (v := (0)) rfl
def rX9_wayAt_2 := W_putI (M := mX9_wayAt) dX9_wayAt_2 (q := 5) rfl fl9_52 rfl (Or.inl rfl)
def rX9_wayAt_5 := W_aload0 (M := mX9_wayAt) dX9_wayAt_5 (q := 6) rfl
def rX9_wayAt_5b := W_aloadR0 (M := mX9_wayAt) dX9_wayAt_5 (q := 6) rfl
def rX9_wayAt_6 := W_getR (M := mX9_wayAt) dX9_wayAt_6 (q := 9) rfl fl9_316 ⟨_, rfl⟩
def rX9_wayAt_9 := W_ifnull (M := mX9_wayAt) dX9_wayAt_9 (q := 12) rfl (t := 32) rfl
def rX9_wayAt_9b := W_ifnullN (M := mX9_wayAt) dX9_wayAt_9 (q := 12) rfl (t := 32) rfl
def rX9_wayAt_12 := W_iload2 (M := mX9_wayAt) dX9_wayAt_12 (q := 13) rfl
def rX9_wayAt_13 := W_if_lt (M := mX9_wayAt) dX9_wayAt_13 (q := 16) rfl (t := 32) rfl
def rX9_wayAt_16 := W_iload2 (M := mX9_wayAt) dX9_wayAt_16 (q := 17) rfl
def rX9_wayAt_17 := W_aload0 (M := mX9_wayAt) dX9_wayAt_17 (q := 18) rfl
def rX9_wayAt_17b := W_aloadR0 (M := mX9_wayAt) dX9_wayAt_17 (q := 18) rfl
def rX9_wayAt_18 := W_invV0 (M := mX9_wayAt) dX9_wayAt_18 (q := 21) rfl ml0_9_379 rfl
def rX9_wayAt_21 := W_icmp_ge (M := mX9_wayAt) dX9_wayAt_21 (q := 24) rfl (t := 32) rfl
def rX9_wayAt_24 := W_aload0 (M := mX9_wayAt) dX9_wayAt_24 (q := 25) rfl
def rX9_wayAt_24b := W_aloadR0 (M := mX9_wayAt) dX9_wayAt_24 (q := 25) rfl
def rX9_wayAt_25 := W_iload1 (M := mX9_wayAt) dX9_wayAt_25 (q := 26) rfl
def rX9_wayAt_26 := W_invV1 (M := mX9_wayAt) dX9_wayAt_26 (q := 29) rfl ml0_9_388 rfl
def rX9_wayAt_29 := W_if_ne (M := mX9_wayAt) dX9_wayAt_29 (q := 32) rfl (t := 38) rfl
def rX9_wayAt_32 := W_aload0 (M := mX9_wayAt) dX9_wayAt_32 (q := 33) rfl
def rX9_wayAt_32b := W_aloadR0 (M := mX9_wayAt) dX9_wayAt_32 (q := 33) rfl
def rX9_wayAt_33 := W_iconst (M := mX9_wayAt) dX9_wayAt_33 (q := 34) rfl (v := (1)) rfl
def rX9_wayAt_34 := W_invV1 (M := mX9_wayAt) dX9_wayAt_34 (q := 37) rfl ml0_9_58 rfl
def rX9_wayAt_37 := W_iret (M := mX9_wayAt) dX9_wayAt_37 rfl
def rX9_wayAt_38 := W_aload0 (M := mX9_wayAt) dX9_wayAt_38 (q := 39) rfl
def rX9_wayAt_38b := W_aloadR0 (M := mX9_wayAt) dX9_wayAt_38 (q := 39) rfl
def rX9_wayAt_39 := W_aload0 (M := mX9_wayAt) dX9_wayAt_39 (q := 40) rfl
def rX9_wayAt_39b := W_aloadR0 (M := mX9_wayAt) dX9_wayAt_39 (q := 40) rfl
def rX9_wayAt_40 := W_getA (M := mX9_wayAt) dX9_wayAt_40 (q := 43) rfl fl9_39 ⟨_, rfl⟩
def rX9_wayAt_43 := W_iload2 (M := mX9_wayAt) dX9_wayAt_43 (q := 44) rfl
def rX9_wayAt_44 := W_iald (M := mX9_wayAt) dX9_wayAt_44 (q := 45) rfl
def rX9_wayAt_45 := W_invV1 (M := mX9_wayAt) dX9_wayAt_45 (q := 48) rfl ml0_9_62 rfl
def rX9_wayAt_48 := W_iret (M := mX9_wayAt) dX9_wayAt_48 rfl
-- X9_wayBurnt
theorem eX9_wayBurnt {d : Nat} {h : qH} {Q : Option (Option Value) → qH → Prop} {s0 : Nat} {x1 : Int32} : WM d mX9_wayBurnt [.ref s0, .int x1] h Q = WP d mX9_wayBurnt (0, 0) 0 [some (.ref s0), some (.int x1)] [] h Q := rfl
def rX9_wayBurnt_0 := W_aload0 (M := mX9_wayBurnt) dX9_wayBurnt_0 (q := 1) rfl
def rX9_wayBurnt_0b := W_aloadR0 (M := mX9_wayBurnt) dX9_wayBurnt_0 (q := 1) rfl
def rX9_wayBurnt_1 := W_iconst (M := mX9_wayBurnt) dX9_wayBurnt_1 (q := 2) rfl (v := (0)) rfl
def rX9_wayBurnt_2 := W_putI (M := mX9_wayBurnt) dX9_wayBurnt_2 (q := 5) rfl fl9_52 rfl (Or.inl rfl)
def rX9_wayBurnt_5 := W_aload0 (M := mX9_wayBurnt) dX9_wayBurnt_5 (q := 6) rfl
def rX9_wayBurnt_5b := W_aloadR0 (M := mX9_wayBurnt) dX9_wayBurnt_5 (q := 6) rfl
def rX9_wayBurnt_6 := W_getR (M := mX9_wayBurnt) dX9_wayBurnt_6 (q := 9) rfl fl9_316 ⟨_, rfl⟩
def rX9_wayBurnt_9 := W_ifnull (M := mX9_wayBurnt) dX9_wayBurnt_9 (q := 12) rfl (t := 20) rfl
def rX9_wayBurnt_9b := W_ifnullN (M := mX9_wayBurnt) dX9_wayBurnt_9 (q := 12) rfl (t := 20) rfl
def rX9_wayBurnt_12 := W_aload0 (M := mX9_wayBurnt) dX9_wayBurnt_12 (q := 13) rfl
def rX9_wayBurnt_12b := W_aloadR0 (M := mX9_wayBurnt) dX9_wayBurnt_12 (q := 13) rfl
def rX9_wayBurnt_13 := W_iload1 (M := mX9_wayBurnt) dX9_wayBurnt_13 (q := 14) rfl
def rX9_wayBurnt_14 := W_invV1 (M := mX9_wayBurnt) dX9_wayBurnt_14 (q := 17) rfl ml0_9_388 rfl
def rX9_wayBurnt_17 := W_if_ne (M := mX9_wayBurnt) dX9_wayBurnt_17 (q := 20) rfl (t := 26) rfl
def rX9_wayBurnt_20 := W_aload0 (M := mX9_wayBurnt) dX9_wayBurnt_20 (q := 21) rfl
def rX9_wayBurnt_20b := W_aloadR0 (M := mX9_wayBurnt) dX9_wayBurnt_20 (q := 21) rfl
def rX9_wayBurnt_21 := W_iconst (M := mX9_wayBurnt) dX9_wayBurnt_21 (q := 22) rfl (v := (1)) rfl
def rX9_wayBurnt_22 := W_invV1 (M := mX9_wayBurnt) dX9_wayBurnt_22 (q := 25) rfl ml0_9_58 rfl
def rX9_wayBurnt_25 := W_iret (M := mX9_wayBurnt) dX9_wayBurnt_25 rfl
def rX9_wayBurnt_26 := W_aload0 (M := mX9_wayBurnt) dX9_wayBurnt_26 (q := 27) rfl
def rX9_wayBurnt_26b := W_aloadR0 (M := mX9_wayBurnt) dX9_wayBurnt_26 (q := 27) rfl
def rX9_wayBurnt_27 := W_aload0 (M := mX9_wayBurnt) dX9_wayBurnt_27 (q := 28) rfl
def rX9_wayBurnt_27b := W_aloadR0 (M := mX9_wayBurnt) dX9_wayBurnt_27 (q := 28) rfl
def rX9_wayBurnt_28 := W_bipush (M := mX9_wayBurnt) dX9_wayBurnt_28 (q := 30) rfl (v := (60)) rfl
def rX9_wayBurnt_30 := W_invV1 (M := mX9_wayBurnt) dX9_wayBurnt_30 (q := 33) rfl ml0_9_333 rfl
def rX9_wayBurnt_33 := W_invS1 (M := mX9_wayBurnt) dX9_wayBurnt_33 (q := 36) rfl ml1_9_336 rfl rfl rfl
def rX9_wayBurnt_36 := W_invV1 (M := mX9_wayBurnt) dX9_wayBurnt_36 (q := 39) rfl ml0_9_62 rfl
def rX9_wayBurnt_39 := W_iret (M := mX9_wayBurnt) dX9_wayBurnt_39 rfl
-- X9_ways
theorem eX9_ways {d : Nat} {h : qH} {Q : Option (Option Value) → qH → Prop} {s0 : Nat} : WM d mX9_ways [.ref s0] h Q = WP d mX9_ways (0, 0) 0 [some (.ref s0), none, none] [] h Q := rfl
def rX9_ways_0 := W_aload0 (M := mX9_ways) dX9_ways_0 (q := 1) rfl
def rX9_ways_0b := W_aloadR0 (M := mX9_ways) dX9_ways_0 (q := 1) rfl
def rX9_ways_1 := W_iconst (M := mX9_ways) dX9_ways_1 (q := 2) rfl (v := (0)) rfl
def rX9_ways_2 := W_putI (M := mX9_ways) dX9_ways_2 (q := 5) rfl fl9_52 rfl (Or.inl rfl)
def rX9_ways_5 := W_aload0 (M := mX9_ways) dX9_ways_5 (q := 6) rfl
def rX9_ways_5b := W_aloadR0 (M := mX9_ways) dX9_ways_5 (q := 6) rfl
def rX9_ways_6 := W_getR (M := mX9_ways) dX9_ways_6 (q := 9) rfl fl9_316 ⟨_, rfl⟩
def rX9_ways_9 := W_ifnonnull (M := mX9_ways) dX9_ways_9 (q := 12) rfl (t := 18) rfl
def rX9_ways_9b := W_ifnonnullN (M := mX9_ways) dX9_ways_9 (q := 12) rfl (t := 18) rfl
def rX9_ways_12 := W_aload0 (M := mX9_ways) dX9_ways_12 (q := 13) rfl
def rX9_ways_12b := W_aloadR0 (M := mX9_ways) dX9_ways_12 (q := 13) rfl
def rX9_ways_13 := W_iconst (M := mX9_ways) dX9_ways_13 (q := 14) rfl (v := (1)) rfl
def rX9_ways_14 := W_invV1 (M := mX9_ways) dX9_ways_14 (q := 17) rfl ml0_9_58 rfl
def rX9_ways_17 := W_iret (M := mX9_ways) dX9_ways_17 rfl
def rX9_ways_18 := W_iconst (M := mX9_ways) dX9_ways_18 (q := 19) rfl (v := (0)) rfl
def rX9_ways_19 := W_istore1 (M := mX9_ways) dX9_ways_19 (q := 20) rfl
def rX9_ways_20 := W_iconst (M := mX9_ways) dX9_ways_20 (q := 21) rfl (v := (0)) rfl
def rX9_ways_21 := W_istore2 (M := mX9_ways) dX9_ways_21 (q := 22) rfl
def rX9_ways_22 := W_iload2 (M := mX9_ways) dX9_ways_22 (q := 23) rfl
def rX9_ways_23 := W_aload0 (M := mX9_ways) dX9_ways_23 (q := 24) rfl
def rX9_ways_23b := W_aloadR0 (M := mX9_ways) dX9_ways_23 (q := 24) rfl
def rX9_ways_24 := W_invV0 (M := mX9_ways) dX9_ways_24 (q := 27) rfl ml0_9_382 rfl
def rX9_ways_27 := W_icmp_ge (M := mX9_ways) dX9_ways_27 (q := 30) rfl (t := 52) rfl
def rX9_ways_30 := W_iload1 (M := mX9_ways) dX9_ways_30 (q := 31) rfl
def rX9_ways_31 := W_aload0 (M := mX9_ways) dX9_ways_31 (q := 32) rfl
def rX9_ways_31b := W_aloadR0 (M := mX9_ways) dX9_ways_31 (q := 32) rfl
def rX9_ways_32 := W_iload2 (M := mX9_ways) dX9_ways_32 (q := 33) rfl
def rX9_ways_33 := W_invV1 (M := mX9_ways) dX9_ways_33 (q := 36) rfl ml0_9_385 rfl
def rX9_ways_36 := W_if_eq (M := mX9_ways) dX9_ways_36 (q := 39) rfl (t := 43) rfl
def rX9_ways_39 := W_iconst (M := mX9_ways) dX9_ways_39 (q := 40) rfl (v := (1)) rfl
def rX9_ways_40 := W_goto (M := mX9_ways) dX9_ways_40 (t := 44) rfl
def rX9_ways_43 := W_iconst (M := mX9_ways) dX9_ways_43 (q := 44) rfl (v := (0)) rfl
def rX9_ways_44 := W_iadd (M := mX9_ways) dX9_ways_44 (q := 45) rfl
def rX9_ways_45 := W_istore1 (M := mX9_ways) dX9_ways_45 (q := 46) rfl
def rX9_ways_46 := W_iinc2 (M := mX9_ways) dX9_ways_46 (q := 49) rfl (v := (1)) rfl
def rX9_ways_49 := W_goto (M := mX9_ways) dX9_ways_49 (t := 22) rfl
def rX9_ways_52 := W_aload0 (M := mX9_ways) dX9_ways_52 (q := 53) rfl
def rX9_ways_52b := W_aloadR0 (M := mX9_ways) dX9_ways_52 (q := 53) rfl
def rX9_ways_53 := W_iload1 (M := mX9_ways) dX9_ways_53 (q := 54) rfl
def rX9_ways_54 := W_invV1 (M := mX9_ways) dX9_ways_54 (q := 57) rfl ml0_9_62 rfl
def rX9_ways_57 := W_iret (M := mX9_ways) dX9_ways_57 rfl
-- X9_where
theorem eX9_where {d : Nat} {h : qH} {Q : Option (Option Value) → qH → Prop} {s0 : Nat} : WM d mX9_where [.ref s0] h Q = WP d mX9_where (0, 0) 0 [some (.ref s0)] [] h Q := rfl
def rX9_where_0 := W_aload0 (M := mX9_where) dX9_where_0 (q := 1) rfl
def rX9_where_0b := W_aloadR0 (M := mX9_where) dX9_where_0 (q := 1) rfl
def rX9_where_1 := W_iconst (M := mX9_where) dX9_where_1 (q := 2) rfl (v := (0)) rfl
def rX9_where_2 := W_putI (M := mX9_where) dX9_where_2 (q := 5) rfl fl9_52 rfl (Or.inl rfl)
def rX9_where_5 := W_aload0 (M := mX9_where) dX9_where_5 (q := 6) rfl
def rX9_where_5b := W_aloadR0 (M := mX9_where) dX9_where_5 (q := 6) rfl
def rX9_where_6 := W_getI (M := mX9_where) dX9_where_6 (q := 9) rfl fl9_9 (Or.inl rfl)
def rX9_where_9 := W_iret (M := mX9_where) dX9_where_9 rfl
-- X9_wires
theorem eX9_wires {d : Nat} {h : qH} {Q : Option (Option Value) → qH → Prop} {s0 : Nat} {x1 : Int32} {x2 : Int32} : WM d mX9_wires [.ref s0, .int x1, .int x2] h Q = WP d mX9_wires (0, 0) 0 [some (.ref s0), some (.int x1), some (.int x2)] [] h Q := rfl
def rX9_wires_0 := W_aload0 (M := mX9_wires) dX9_wires_0 (q := 1) rfl
def rX9_wires_0b := W_aloadR0 (M := mX9_wires) dX9_wires_0 (q := 1) rfl
def rX9_wires_1 := W_iload1 (M := mX9_wires) dX9_wires_1 (q := 2) rfl
def rX9_wires_2 := W_invV1 (M := mX9_wires) dX9_wires_2 (q := 5) rfl ml0_9_345 rfl
def rX9_wires_5 := W_if_ne (M := mX9_wires) dX9_wires_5 (q := 8) rfl (t := 14) rfl
def rX9_wires_8 := W_aload0 (M := mX9_wires) dX9_wires_8 (q := 9) rfl
def rX9_wires_8b := W_aloadR0 (M := mX9_wires) dX9_wires_8 (q := 9) rfl
def rX9_wires_9 := W_iconst (M := mX9_wires) dX9_wires_9 (q := 10) rfl (v := (1)) rfl
def rX9_wires_10 := W_invV1 (M := mX9_wires) dX9_wires_10 (q := 13) rfl ml0_9_465 rfl
def rX9_wires_13 := W_zret (M := mX9_wires) dX9_wires_13 rfl
def rX9_wires_14 := W_aload0 (M := mX9_wires) dX9_wires_14 (q := 15) rfl
def rX9_wires_14b := W_aloadR0 (M := mX9_wires) dX9_wires_14 (q := 15) rfl
def rX9_wires_15 := W_getA (M := mX9_wires) dX9_wires_15 (q := 18) rfl fl9_17 ⟨_, rfl⟩
def rX9_wires_18 := W_bipush (M := mX9_wires) dX9_wires_18 (q := 20) rfl (v := (8)) rfl
def rX9_wires_20 := W_iald (M := mX9_wires) dX9_wires_20 (q := 21) rfl
def rX9_wires_21 := W_iload1 (M := mX9_wires) dX9_wires_21 (q := 22) rfl
def rX9_wires_22 := W_invS2 (M := mX9_wires) dX9_wires_22 (q := 25) rfl ml1_9_281 rfl rfl rfl
def rX9_wires_25 := W_iload2 (M := mX9_wires) dX9_wires_25 (q := 26) rfl
def rX9_wires_26 := W_icmp_ne (M := mX9_wires) dX9_wires_26 (q := 29) rfl (t := 35) rfl
def rX9_wires_29 := W_aload0 (M := mX9_wires) dX9_wires_29 (q := 30) rfl
def rX9_wires_29b := W_aloadR0 (M := mX9_wires) dX9_wires_29 (q := 30) rfl
def rX9_wires_30 := W_iconst (M := mX9_wires) dX9_wires_30 (q := 31) rfl (v := (5)) rfl
def rX9_wires_31 := W_invV1 (M := mX9_wires) dX9_wires_31 (q := 34) rfl ml0_9_465 rfl
def rX9_wires_34 := W_zret (M := mX9_wires) dX9_wires_34 rfl
def rX9_wires_35 := W_aload0 (M := mX9_wires) dX9_wires_35 (q := 36) rfl
def rX9_wires_35b := W_aloadR0 (M := mX9_wires) dX9_wires_35 (q := 36) rfl
def rX9_wires_36 := W_invV0 (M := mX9_wires) dX9_wires_36 (q := 39) rfl ml0_9_462 rfl
def rX9_wires_39 := W_aload0 (M := mX9_wires) dX9_wires_39 (q := 40) rfl
def rX9_wires_39b := W_aloadR0 (M := mX9_wires) dX9_wires_39 (q := 40) rfl
def rX9_wires_40 := W_getA (M := mX9_wires) dX9_wires_40 (q := 43) rfl fl9_17 ⟨_, rfl⟩
def rX9_wires_43 := W_bipush (M := mX9_wires) dX9_wires_43 (q := 45) rfl (v := (8)) rfl
def rX9_wires_45 := W_dup2IR (M := mX9_wires) dX9_wires_45 (q := 46) rfl
def rX9_wires_46 := W_iald (M := mX9_wires) dX9_wires_46 (q := 47) rfl
def rX9_wires_47 := W_iconst (M := mX9_wires) dX9_wires_47 (q := 48) rfl (v := (1)) rfl
def rX9_wires_48 := W_iload1 (M := mX9_wires) dX9_wires_48 (q := 49) rfl
def rX9_wires_49 := W_ishl (M := mX9_wires) dX9_wires_49 (q := 50) rfl
def rX9_wires_50 := W_ixor (M := mX9_wires) dX9_wires_50 (q := 51) rfl
def rX9_wires_51 := W_iast (M := mX9_wires) dX9_wires_51 (q := 52) rfl
def rX9_wires_52 := W_aload0 (M := mX9_wires) dX9_wires_52 (q := 53) rfl
def rX9_wires_52b := W_aloadR0 (M := mX9_wires) dX9_wires_52 (q := 53) rfl
def rX9_wires_53 := W_invV0 (M := mX9_wires) dX9_wires_53 (q := 56) rfl ml0_9_468 rfl
def rX9_wires_56 := W_zret (M := mX9_wires) dX9_wires_56 rfl
-- X9_works
theorem eX9_works {d : Nat} {h : qH} {Q : Option (Option Value) → qH → Prop} {s0 : Nat} : WM d mX9_works [.ref s0] h Q = WP d mX9_works (0, 0) 0 [some (.ref s0), none] [] h Q := rfl
def rX9_works_0 := W_iconst (M := mX9_works) dX9_works_0 (q := 1) rfl (v := (0)) rfl
def rX9_works_1 := W_istore1 (M := mX9_works) dX9_works_1 (q := 2) rfl
def rX9_works_2 := W_iload1 (M := mX9_works) dX9_works_2 (q := 3) rfl
def rX9_works_3 := W_bipush (M := mX9_works) dX9_works_3 (q := 5) rfl (v := (10)) rfl
def rX9_works_5 := W_icmp_ge (M := mX9_works) dX9_works_5 (q := 8) rfl (t := 26) rfl
def rX9_works_8 := W_aload0 (M := mX9_works) dX9_works_8 (q := 9) rfl
def rX9_works_8b := W_aloadR0 (M := mX9_works) dX9_works_8 (q := 9) rfl
def rX9_works_9 := W_getA (M := mX9_works) dX9_works_9 (q := 12) rfl fl9_21 ⟨_, rfl⟩
def rX9_works_12 := W_iload1 (M := mX9_works) dX9_works_12 (q := 13) rfl
def rX9_works_13 := W_aload0 (M := mX9_works) dX9_works_13 (q := 14) rfl
def rX9_works_13b := W_aloadR0 (M := mX9_works) dX9_works_13 (q := 14) rfl
def rX9_works_14 := W_getA (M := mX9_works) dX9_works_14 (q := 17) rfl fl9_17 ⟨_, rfl⟩
def rX9_works_17 := W_iload1 (M := mX9_works) dX9_works_17 (q := 18) rfl
def rX9_works_18 := W_iald (M := mX9_works) dX9_works_18 (q := 19) rfl
def rX9_works_19 := W_iast (M := mX9_works) dX9_works_19 (q := 20) rfl
def rX9_works_20 := W_iinc1 (M := mX9_works) dX9_works_20 (q := 23) rfl (v := (1)) rfl
def rX9_works_23 := W_goto (M := mX9_works) dX9_works_23 (t := 2) rfl
def rX9_works_26 := W_vret (M := mX9_works) dX9_works_26 rfl
-- X9_worstYear
theorem eX9_worstYear {d : Nat} {h : qH} {Q : Option (Option Value) → qH → Prop} {s0 : Nat} {x1 : Int32} {x2 : Int32} : WM d mX9_worstYear [.ref s0, .int x1, .int x2] h Q = WP d mX9_worstYear (0, 0) 0 [some (.ref s0), some (.int x1), some (.int x2), none] [] h Q := rfl
def rX9_worstYear_0 := W_aload0 (M := mX9_worstYear) dX9_worstYear_0 (q := 1) rfl
def rX9_worstYear_0b := W_aloadR0 (M := mX9_worstYear) dX9_worstYear_0 (q := 1) rfl
def rX9_worstYear_1 := W_iconst (M := mX9_worstYear) dX9_worstYear_1 (q := 2) rfl (v := (0)) rfl
def rX9_worstYear_2 := W_putI (M := mX9_worstYear) dX9_worstYear_2 (q := 5) rfl fl9_52 rfl (Or.inl rfl)
def rX9_worstYear_5 := W_aload0 (M := mX9_worstYear) dX9_worstYear_5 (q := 6) rfl
def rX9_worstYear_5b := W_aloadR0 (M := mX9_worstYear) dX9_worstYear_5 (q := 6) rfl
def rX9_worstYear_6 := W_aload0 (M := mX9_worstYear) dX9_worstYear_6 (q := 7) rfl
def rX9_worstYear_6b := W_aloadR0 (M := mX9_worstYear) dX9_worstYear_6 (q := 7) rfl
def rX9_worstYear_7 := W_getR (M := mX9_worstYear) dX9_worstYear_7 (q := 10) rfl fl9_316 ⟨_, rfl⟩
def rX9_worstYear_10 := W_ifnull (M := mX9_worstYear) dX9_worstYear_10 (q := 13) rfl (t := 17) rfl
def rX9_worstYear_10b := W_ifnullN (M := mX9_worstYear) dX9_worstYear_10 (q := 13) rfl (t := 17) rfl
def rX9_worstYear_13 := W_iconst (M := mX9_worstYear) dX9_worstYear_13 (q := 14) rfl (v := (1)) rfl
def rX9_worstYear_14 := W_goto (M := mX9_worstYear) dX9_worstYear_14 (t := 18) rfl
def rX9_worstYear_17 := W_iconst (M := mX9_worstYear) dX9_worstYear_17 (q := 18) rfl (v := (0)) rfl
def rX9_worstYear_18 := W_iload1 (M := mX9_worstYear) dX9_worstYear_18 (q := 19) rfl
def rX9_worstYear_19 := W_iload2 (M := mX9_worstYear) dX9_worstYear_19 (q := 20) rfl
def rX9_worstYear_20 := W_invV3 (M := mX9_worstYear) dX9_worstYear_20 (q := 23) rfl ml0_9_456 rfl
def rX9_worstYear_23 := W_istore3 (M := mX9_worstYear) dX9_worstYear_23 (q := 24) rfl
def rX9_worstYear_24 := W_iload3 (M := mX9_worstYear) dX9_worstYear_24 (q := 25) rfl
def rX9_worstYear_25 := W_if_le (M := mX9_worstYear) dX9_worstYear_25 (q := 28) rfl (t := 34) rfl
def rX9_worstYear_28 := W_aload0 (M := mX9_worstYear) dX9_worstYear_28 (q := 29) rfl
def rX9_worstYear_28b := W_aloadR0 (M := mX9_worstYear) dX9_worstYear_28 (q := 29) rfl
def rX9_worstYear_29 := W_iload3 (M := mX9_worstYear) dX9_worstYear_29 (q := 30) rfl
def rX9_worstYear_30 := W_invV1 (M := mX9_worstYear) dX9_worstYear_30 (q := 33) rfl ml0_9_58 rfl
def rX9_worstYear_33 := W_iret (M := mX9_worstYear) dX9_worstYear_33 rfl
def rX9_worstYear_34 := W_aload0 (M := mX9_worstYear) dX9_worstYear_34 (q := 35) rfl
def rX9_worstYear_34b := W_aloadR0 (M := mX9_worstYear) dX9_worstYear_34 (q := 35) rfl
def rX9_worstYear_35 := W_iload1 (M := mX9_worstYear) dX9_worstYear_35 (q := 36) rfl
def rX9_worstYear_36 := W_iload2 (M := mX9_worstYear) dX9_worstYear_36 (q := 37) rfl
def rX9_worstYear_37 := W_invV2 (M := mX9_worstYear) dX9_worstYear_37 (q := 40) rfl ml0_9_459 rfl
def rX9_worstYear_40 := W_aload0 (M := mX9_worstYear) dX9_worstYear_40 (q := 41) rfl
def rX9_worstYear_40b := W_aloadR0 (M := mX9_worstYear) dX9_worstYear_40 (q := 41) rfl
def rX9_worstYear_41 := W_aload0 (M := mX9_worstYear) dX9_worstYear_41 (q := 42) rfl
def rX9_worstYear_41b := W_aloadR0 (M := mX9_worstYear) dX9_worstYear_41 (q := 42) rfl
def rX9_worstYear_42 := W_getI (M := mX9_worstYear) dX9_worstYear_42 (q := 45) rfl fl9_446 (Or.inl rfl)
def rX9_worstYear_45 := W_invV1 (M := mX9_worstYear) dX9_worstYear_45 (q := 48) rfl ml0_9_62 rfl
def rX9_worstYear_48 := W_iret (M := mX9_worstYear) dX9_worstYear_48 rfl
-- X9_wrong
theorem eX9_wrong {d : Nat} {h : qH} {Q : Option (Option Value) → qH → Prop} {s0 : Nat} : WM d mX9_wrong [.ref s0] h Q = WP d mX9_wrong (0, 0) 0 [some (.ref s0), none] [] h Q := rfl
def rX9_wrong_0 := W_aload0 (M := mX9_wrong) dX9_wrong_0 (q := 1) rfl
def rX9_wrong_0b := W_aloadR0 (M := mX9_wrong) dX9_wrong_0 (q := 1) rfl
def rX9_wrong_1 := W_invV0 (M := mX9_wrong) dX9_wrong_1 (q := 4) rfl ml0_9_339 rfl
def rX9_wrong_4 := W_iconst (M := mX9_wrong) dX9_wrong_4 (q := 5) rfl (v := (0)) rfl
def rX9_wrong_5 := W_istore1 (M := mX9_wrong) dX9_wrong_5 (q := 6) rfl
def rX9_wrong_6 := W_iload1 (M := mX9_wrong) dX9_wrong_6 (q := 7) rfl
def rX9_wrong_7 := W_aload0 (M := mX9_wrong) dX9_wrong_7 (q := 8) rfl
def rX9_wrong_7b := W_aloadR0 (M := mX9_wrong) dX9_wrong_7 (q := 8) rfl
def rX9_wrong_8 := W_getR (M := mX9_wrong) dX9_wrong_8 (q := 11) rfl fl9_316 ⟨_, rfl⟩
def rX9_wrong_11 := W_getI (M := mX9_wrong) dX9_wrong_11 (q := 14) rfl fl9_300 (Or.inl rfl)
def rX9_wrong_14 := W_icmp_ge (M := mX9_wrong) dX9_wrong_14 (q := 17) rfl (t := 50) rfl
def rX9_wrong_17 := W_aload0 (M := mX9_wrong) dX9_wrong_17 (q := 18) rfl
def rX9_wrong_17b := W_aloadR0 (M := mX9_wrong) dX9_wrong_17 (q := 18) rfl
def rX9_wrong_18 := W_aload0 (M := mX9_wrong) dX9_wrong_18 (q := 19) rfl
def rX9_wrong_18b := W_aloadR0 (M := mX9_wrong) dX9_wrong_18 (q := 19) rfl
def rX9_wrong_19 := W_getR (M := mX9_wrong) dX9_wrong_19 (q := 22) rfl fl9_316 ⟨_, rfl⟩
def rX9_wrong_22 := W_getA (M := mX9_wrong) dX9_wrong_22 (q := 25) rfl fl9_303 ⟨_, rfl⟩
def rX9_wrong_25 := W_iload1 (M := mX9_wrong) dX9_wrong_25 (q := 26) rfl
def rX9_wrong_26 := W_iald (M := mX9_wrong) dX9_wrong_26 (q := 27) rfl
def rX9_wrong_27 := W_invV1 (M := mX9_wrong) dX9_wrong_27 (q := 30) rfl ml0_9_358 rfl
def rX9_wrong_30 := W_aload0 (M := mX9_wrong) dX9_wrong_30 (q := 31) rfl
def rX9_wrong_30b := W_aloadR0 (M := mX9_wrong) dX9_wrong_30 (q := 31) rfl
def rX9_wrong_31 := W_getR (M := mX9_wrong) dX9_wrong_31 (q := 34) rfl fl9_316 ⟨_, rfl⟩
def rX9_wrong_34 := W_getA (M := mX9_wrong) dX9_wrong_34 (q := 37) rfl fl9_306 ⟨_, rfl⟩
def rX9_wrong_37 := W_iload1 (M := mX9_wrong) dX9_wrong_37 (q := 38) rfl
def rX9_wrong_38 := W_iald (M := mX9_wrong) dX9_wrong_38 (q := 39) rfl
def rX9_wrong_39 := W_icmp_eq (M := mX9_wrong) dX9_wrong_39 (q := 42) rfl (t := 44) rfl
def rX9_wrong_42 := W_iload1 (M := mX9_wrong) dX9_wrong_42 (q := 43) rfl
def rX9_wrong_43 := W_iret (M := mX9_wrong) dX9_wrong_43 rfl
def rX9_wrong_44 := W_iinc1 (M := mX9_wrong) dX9_wrong_44 (q := 47) rfl (v := (1)) rfl
def rX9_wrong_47 := W_goto (M := mX9_wrong) dX9_wrong_47 (t := 6) rfl
def rX9_wrong_50 := W_bipush (M := mX9_wrong) dX9_wrong_50 (q := 52) rfl (v := (-2)) rfl
def rX9_wrong_52 := W_iret (M := mX9_wrong) dX9_wrong_52 rfl
-- X9_years
theorem eX9_years {d : Nat} {h : qH} {Q : Option (Option Value) → qH → Prop} {s0 : Nat} {x1 : Int32} {x2 : Int32} {x3 : Int32} : WM d mX9_years [.ref s0, .int x1, .int x2, .int x3] h Q = WP d mX9_years (0, 0) 0 [some (.ref s0), some (.int x1), some (.int x2), some (.int x3), none] [] h Q := rfl
def rX9_years_0 := W_aload0 (M := mX9_years) dX9_years_0 (q := 1) rfl
def rX9_years_0b := W_aloadR0 (M := mX9_years) dX9_years_0 (q := 1) rfl
def rX9_years_1 := W_iconst (M := mX9_years) dX9_years_1 (q := 2) rfl (v := (0)) rfl
def rX9_years_2 := W_putI (M := mX9_years) dX9_years_2 (q := 5) rfl fl9_52 rfl (Or.inl rfl)
def rX9_years_5 := W_aload0 (M := mX9_years) dX9_years_5 (q := 6) rfl
def rX9_years_5b := W_aloadR0 (M := mX9_years) dX9_years_5 (q := 6) rfl
def rX9_years_6 := W_aload0 (M := mX9_years) dX9_years_6 (q := 7) rfl
def rX9_years_6b := W_aloadR0 (M := mX9_years) dX9_years_6 (q := 7) rfl
def rX9_years_7 := W_iload1 (M := mX9_years) dX9_years_7 (q := 8) rfl
def rX9_years_8 := W_invV1 (M := mX9_years) dX9_years_8 (q := 11) rfl ml0_9_345 rfl
def rX9_years_11 := W_iload2 (M := mX9_years) dX9_years_11 (q := 12) rfl
def rX9_years_12 := W_iload3 (M := mX9_years) dX9_years_12 (q := 13) rfl
def rX9_years_13 := W_invV3 (M := mX9_years) dX9_years_13 (q := 16) rfl ml0_9_456 rfl
def rX9_years_16 := W_istore4 (M := mX9_years) dX9_years_16 (q := 18) rfl
def rX9_years_18 := W_iload4 (M := mX9_years) dX9_years_18 (q := 20) rfl
def rX9_years_20 := W_if_le (M := mX9_years) dX9_years_20 (q := 23) rfl (t := 30) rfl
def rX9_years_23 := W_aload0 (M := mX9_years) dX9_years_23 (q := 24) rfl
def rX9_years_23b := W_aloadR0 (M := mX9_years) dX9_years_23 (q := 24) rfl
def rX9_years_24 := W_iload4 (M := mX9_years) dX9_years_24 (q := 26) rfl
def rX9_years_26 := W_invV1 (M := mX9_years) dX9_years_26 (q := 29) rfl ml0_9_58 rfl
def rX9_years_29 := W_iret (M := mX9_years) dX9_years_29 rfl
def rX9_years_30 := W_aload0 (M := mX9_years) dX9_years_30 (q := 31) rfl
def rX9_years_30b := W_aloadR0 (M := mX9_years) dX9_years_30 (q := 31) rfl
def rX9_years_31 := W_iload2 (M := mX9_years) dX9_years_31 (q := 32) rfl
def rX9_years_32 := W_iload3 (M := mX9_years) dX9_years_32 (q := 33) rfl
def rX9_years_33 := W_invV2 (M := mX9_years) dX9_years_33 (q := 36) rfl ml0_9_459 rfl
def rX9_years_36 := W_aload0 (M := mX9_years) dX9_years_36 (q := 37) rfl
def rX9_years_36b := W_aloadR0 (M := mX9_years) dX9_years_36 (q := 37) rfl
def rX9_years_37 := W_aload0 (M := mX9_years) dX9_years_37 (q := 38) rfl
def rX9_years_37b := W_aloadR0 (M := mX9_years) dX9_years_37 (q := 38) rfl
def rX9_years_38 := W_getA (M := mX9_years) dX9_years_38 (q := 41) rfl fl9_49 ⟨_, rfl⟩
def rX9_years_41 := W_iload1 (M := mX9_years) dX9_years_41 (q := 42) rfl
def rX9_years_42 := W_iald (M := mX9_years) dX9_years_42 (q := 43) rfl
def rX9_years_43 := W_invV1 (M := mX9_years) dX9_years_43 (q := 46) rfl ml0_9_62 rfl
def rX9_years_46 := W_iret (M := mX9_years) dX9_years_46 rfl
-- X9_yearsAll
theorem eX9_yearsAll {d : Nat} {h : qH} {Q : Option (Option Value) → qH → Prop} {s0 : Nat} {x1 : Int32} {x2 : Int32} : WM d mX9_yearsAll [.ref s0, .int x1, .int x2] h Q = WP d mX9_yearsAll (0, 0) 0 [some (.ref s0), some (.int x1), some (.int x2), none, none, none, none] [] h Q := rfl
def rX9_yearsAll_0 := W_iload1 (M := mX9_yearsAll) dX9_yearsAll_0 (q := 1) rfl
def rX9_yearsAll_1 := W_istore3 (M := mX9_yearsAll) dX9_yearsAll_1 (q := 2) rfl
def rX9_yearsAll_2 := W_aload0 (M := mX9_yearsAll) dX9_yearsAll_2 (q := 3) rfl
def rX9_yearsAll_2b := W_aloadR0 (M := mX9_yearsAll) dX9_yearsAll_2 (q := 3) rfl
def rX9_yearsAll_3 := W_iconst (M := mX9_yearsAll) dX9_yearsAll_3 (q := 4) rfl (v := (0)) rfl
def rX9_yearsAll_4 := W_putI (M := mX9_yearsAll) dX9_yearsAll_4 (q := 7) rfl fl9_446 rfl (Or.inl rfl)
def rX9_yearsAll_7 := W_iconst (M := mX9_yearsAll) dX9_yearsAll_7 (q := 8) rfl (v := (0)) rfl
def rX9_yearsAll_8 := W_istore4 (M := mX9_yearsAll) dX9_yearsAll_8 (q := 10) rfl
def rX9_yearsAll_10 := W_iload4 (M := mX9_yearsAll) dX9_yearsAll_10 (q := 12) rfl
def rX9_yearsAll_12 := W_bipush (M := mX9_yearsAll) dX9_yearsAll_12 (q := 14) rfl (v := (6)) rfl
def rX9_yearsAll_14 := W_icmp_ge (M := mX9_yearsAll) dX9_yearsAll_14 (q := 17) rfl (t := 31) rfl
def rX9_yearsAll_17 := W_aload0 (M := mX9_yearsAll) dX9_yearsAll_17 (q := 18) rfl
def rX9_yearsAll_17b := W_aloadR0 (M := mX9_yearsAll) dX9_yearsAll_17 (q := 18) rfl
def rX9_yearsAll_18 := W_getA (M := mX9_yearsAll) dX9_yearsAll_18 (q := 21) rfl fl9_49 ⟨_, rfl⟩
def rX9_yearsAll_21 := W_iload4 (M := mX9_yearsAll) dX9_yearsAll_21 (q := 23) rfl
def rX9_yearsAll_23 := W_iconst (M := mX9_yearsAll) dX9_yearsAll_23 (q := 24) rfl (v := (0)) rfl
def rX9_yearsAll_24 := W_iast (M := mX9_yearsAll) dX9_yearsAll_24 (q := 25) rfl
def rX9_yearsAll_25 := W_iinc4 (M := mX9_yearsAll) dX9_yearsAll_25 (q := 28) rfl (v := (1)) rfl
def rX9_yearsAll_28 := W_goto (M := mX9_yearsAll) dX9_yearsAll_28 (t := 10) rfl
def rX9_yearsAll_31 := W_iconst (M := mX9_yearsAll) dX9_yearsAll_31 (q := 32) rfl (v := (0)) rfl
def rX9_yearsAll_32 := W_istore4 (M := mX9_yearsAll) dX9_yearsAll_32 (q := 34) rfl
def rX9_yearsAll_34 := W_iload4 (M := mX9_yearsAll) dX9_yearsAll_34 (q := 36) rfl
def rX9_yearsAll_36 := W_iload2 (M := mX9_yearsAll) dX9_yearsAll_36 (q := 37) rfl
def rX9_yearsAll_37 := W_icmp_ge (M := mX9_yearsAll) dX9_yearsAll_37 (q := 40) rfl (t := 207) rfl
def rX9_yearsAll_40 := W_aload0 (M := mX9_yearsAll) dX9_yearsAll_40 (q := 41) rfl
def rX9_yearsAll_40b := W_aloadR0 (M := mX9_yearsAll) dX9_yearsAll_40 (q := 41) rfl
def rX9_yearsAll_41 := W_invV0 (M := mX9_yearsAll) dX9_yearsAll_41 (q := 44) rfl ml0_9_342 rfl
def rX9_yearsAll_44 := W_iconst (M := mX9_yearsAll) dX9_yearsAll_44 (q := 45) rfl (v := (0)) rfl
def rX9_yearsAll_45 := W_istore5 (M := mX9_yearsAll) dX9_yearsAll_45 (q := 47) rfl
def rX9_yearsAll_47 := W_iload5 (M := mX9_yearsAll) dX9_yearsAll_47 (q := 49) rfl
def rX9_yearsAll_49 := W_aload0 (M := mX9_yearsAll) dX9_yearsAll_49 (q := 50) rfl
def rX9_yearsAll_49b := W_aloadR0 (M := mX9_yearsAll) dX9_yearsAll_49 (q := 50) rfl
def rX9_yearsAll_50 := W_getR (M := mX9_yearsAll) dX9_yearsAll_50 (q := 53) rfl fl9_316 ⟨_, rfl⟩
def rX9_yearsAll_53 := W_getI (M := mX9_yearsAll) dX9_yearsAll_53 (q := 56) rfl fl9_187 (Or.inl rfl)
def rX9_yearsAll_56 := W_icmp_ge (M := mX9_yearsAll) dX9_yearsAll_56 (q := 59) rfl (t := 122) rfl
def rX9_yearsAll_59 := W_aload0 (M := mX9_yearsAll) dX9_yearsAll_59 (q := 60) rfl
def rX9_yearsAll_59b := W_aloadR0 (M := mX9_yearsAll) dX9_yearsAll_59 (q := 60) rfl
def rX9_yearsAll_60 := W_getA (M := mX9_yearsAll) dX9_yearsAll_60 (q := 63) rfl fl9_17 ⟨_, rfl⟩
def rX9_yearsAll_63 := W_iload5 (M := mX9_yearsAll) dX9_yearsAll_63 (q := 65) rfl
def rX9_yearsAll_65 := W_iald (M := mX9_yearsAll) dX9_yearsAll_65 (q := 66) rfl
def rX9_yearsAll_66 := W_bipush (M := mX9_yearsAll) dX9_yearsAll_66 (q := 68) rfl (v := (-2)) rfl
def rX9_yearsAll_68 := W_icmp_ne (M := mX9_yearsAll) dX9_yearsAll_68 (q := 71) rfl (t := 74) rfl
def rX9_yearsAll_71 := W_goto (M := mX9_yearsAll) dX9_yearsAll_71 (t := 116) rfl
def rX9_yearsAll_74 := W_ldc2_w (M := mX9_yearsAll) dX9_yearsAll_74 (q := 77) rfl cj9_449
def rX9_yearsAll_77 := W_iload3 (M := mX9_yearsAll) dX9_yearsAll_77 (q := 78) rfl
def rX9_yearsAll_78 := W_i2l (M := mX9_yearsAll) dX9_yearsAll_78 (q := 79) rfl
def rX9_yearsAll_79 := W_lmul (M := mX9_yearsAll) dX9_yearsAll_79 (q := 80) rfl
def rX9_yearsAll_80 := W_ldc2_w (M := mX9_yearsAll) dX9_yearsAll_80 (q := 83) rfl cj9_451
def rX9_yearsAll_83 := W_ladd (M := mX9_yearsAll) dX9_yearsAll_83 (q := 84) rfl
def rX9_yearsAll_84 := W_ldc2_w (M := mX9_yearsAll) dX9_yearsAll_84 (q := 87) rfl cj9_453
def rX9_yearsAll_87 := W_lrem (M := mX9_yearsAll) dX9_yearsAll_87 (q := 88) rfl
def rX9_yearsAll_88 := W_l2i (M := mX9_yearsAll) dX9_yearsAll_88 (q := 89) rfl
def rX9_yearsAll_89 := W_istore3 (M := mX9_yearsAll) dX9_yearsAll_89 (q := 90) rfl
def rX9_yearsAll_90 := W_iload3 (M := mX9_yearsAll) dX9_yearsAll_90 (q := 91) rfl
def rX9_yearsAll_91 := W_bipush (M := mX9_yearsAll) dX9_yearsAll_91 (q := 93) rfl (v := (100)) rfl
def rX9_yearsAll_93 := W_irem (M := mX9_yearsAll) dX9_yearsAll_93 (q := 94) rfl
def rX9_yearsAll_94 := W_aload0 (M := mX9_yearsAll) dX9_yearsAll_94 (q := 95) rfl
def rX9_yearsAll_94b := W_aloadR0 (M := mX9_yearsAll) dX9_yearsAll_94 (q := 95) rfl
def rX9_yearsAll_95 := W_getR (M := mX9_yearsAll) dX9_yearsAll_95 (q := 98) rfl fl9_316 ⟨_, rfl⟩
def rX9_yearsAll_98 := W_getA (M := mX9_yearsAll) dX9_yearsAll_98 (q := 101) rfl fl9_246 ⟨_, rfl⟩
def rX9_yearsAll_101 := W_iload5 (M := mX9_yearsAll) dX9_yearsAll_101 (q := 103) rfl
def rX9_yearsAll_103 := W_iald (M := mX9_yearsAll) dX9_yearsAll_103 (q := 104) rfl
def rX9_yearsAll_104 := W_icmp_lt (M := mX9_yearsAll) dX9_yearsAll_104 (q := 107) rfl (t := 116) rfl
def rX9_yearsAll_107 := W_aload0 (M := mX9_yearsAll) dX9_yearsAll_107 (q := 108) rfl
def rX9_yearsAll_107b := W_aloadR0 (M := mX9_yearsAll) dX9_yearsAll_107 (q := 108) rfl
def rX9_yearsAll_108 := W_getA (M := mX9_yearsAll) dX9_yearsAll_108 (q := 111) rfl fl9_21 ⟨_, rfl⟩
def rX9_yearsAll_111 := W_iload5 (M := mX9_yearsAll) dX9_yearsAll_111 (q := 113) rfl
def rX9_yearsAll_113 := W_bipush (M := mX9_yearsAll) dX9_yearsAll_113 (q := 115) rfl (v := (-2)) rfl
def rX9_yearsAll_115 := W_iast (M := mX9_yearsAll) dX9_yearsAll_115 (q := 116) rfl
def rX9_yearsAll_116 := W_iinc5 (M := mX9_yearsAll) dX9_yearsAll_116 (q := 119) rfl (v := (1)) rfl
def rX9_yearsAll_119 := W_goto (M := mX9_yearsAll) dX9_yearsAll_119 (t := 47) rfl
def rX9_yearsAll_122 := W_aload0 (M := mX9_yearsAll) dX9_yearsAll_122 (q := 123) rfl
def rX9_yearsAll_122b := W_aloadR0 (M := mX9_yearsAll) dX9_yearsAll_122 (q := 123) rfl
def rX9_yearsAll_123 := W_invV0 (M := mX9_yearsAll) dX9_yearsAll_123 (q := 126) rfl ml0_9_339 rfl
def rX9_yearsAll_126 := W_aload0 (M := mX9_yearsAll) dX9_yearsAll_126 (q := 127) rfl
def rX9_yearsAll_126b := W_aloadR0 (M := mX9_yearsAll) dX9_yearsAll_126 (q := 127) rfl
def rX9_yearsAll_127 := W_bipush (M := mX9_yearsAll) dX9_yearsAll_127 (q := 129) rfl (v := (90)) rfl
def rX9_yearsAll_129 := W_invV1 (M := mX9_yearsAll) dX9_yearsAll_129 (q := 132) rfl ml0_9_333 rfl
def rX9_yearsAll_132 := W_istore5 (M := mX9_yearsAll) dX9_yearsAll_132 (q := 134) rfl
def rX9_yearsAll_134 := W_iload5 (M := mX9_yearsAll) dX9_yearsAll_134 (q := 136) rfl
def rX9_yearsAll_136 := W_invS1 (M := mX9_yearsAll) dX9_yearsAll_136 (q := 139) rfl ml1_9_336 rfl rfl rfl
def rX9_yearsAll_139 := W_aload0 (M := mX9_yearsAll) dX9_yearsAll_139 (q := 140) rfl
def rX9_yearsAll_139b := W_aloadR0 (M := mX9_yearsAll) dX9_yearsAll_139 (q := 140) rfl
def rX9_yearsAll_140 := W_getI (M := mX9_yearsAll) dX9_yearsAll_140 (q := 143) rfl fl9_446 (Or.inl rfl)
def rX9_yearsAll_143 := W_icmp_le (M := mX9_yearsAll) dX9_yearsAll_143 (q := 146) rfl (t := 155) rfl
def rX9_yearsAll_146 := W_aload0 (M := mX9_yearsAll) dX9_yearsAll_146 (q := 147) rfl
def rX9_yearsAll_146b := W_aloadR0 (M := mX9_yearsAll) dX9_yearsAll_146 (q := 147) rfl
def rX9_yearsAll_147 := W_iload5 (M := mX9_yearsAll) dX9_yearsAll_147 (q := 149) rfl
def rX9_yearsAll_149 := W_invS1 (M := mX9_yearsAll) dX9_yearsAll_149 (q := 152) rfl ml1_9_336 rfl rfl rfl
def rX9_yearsAll_152 := W_putI (M := mX9_yearsAll) dX9_yearsAll_152 (q := 155) rfl fl9_446 rfl (Or.inl rfl)
def rX9_yearsAll_155 := W_iconst (M := mX9_yearsAll) dX9_yearsAll_155 (q := 156) rfl (v := (0)) rfl
def rX9_yearsAll_156 := W_istore6 (M := mX9_yearsAll) dX9_yearsAll_156 (q := 158) rfl
def rX9_yearsAll_158 := W_iload6 (M := mX9_yearsAll) dX9_yearsAll_158 (q := 160) rfl
def rX9_yearsAll_160 := W_aload0 (M := mX9_yearsAll) dX9_yearsAll_160 (q := 161) rfl
def rX9_yearsAll_160b := W_aloadR0 (M := mX9_yearsAll) dX9_yearsAll_160 (q := 161) rfl
def rX9_yearsAll_161 := W_getR (M := mX9_yearsAll) dX9_yearsAll_161 (q := 164) rfl fl9_316 ⟨_, rfl⟩
def rX9_yearsAll_164 := W_getI (M := mX9_yearsAll) dX9_yearsAll_164 (q := 167) rfl fl9_187 (Or.inl rfl)
def rX9_yearsAll_167 := W_icmp_ge (M := mX9_yearsAll) dX9_yearsAll_167 (q := 170) rfl (t := 201) rfl
def rX9_yearsAll_170 := W_aload0 (M := mX9_yearsAll) dX9_yearsAll_170 (q := 171) rfl
def rX9_yearsAll_170b := W_aloadR0 (M := mX9_yearsAll) dX9_yearsAll_170 (q := 171) rfl
def rX9_yearsAll_171 := W_getA (M := mX9_yearsAll) dX9_yearsAll_171 (q := 174) rfl fl9_49 ⟨_, rfl⟩
def rX9_yearsAll_174 := W_iload6 (M := mX9_yearsAll) dX9_yearsAll_174 (q := 176) rfl
def rX9_yearsAll_176 := W_dup2IR (M := mX9_yearsAll) dX9_yearsAll_176 (q := 177) rfl
def rX9_yearsAll_177 := W_iald (M := mX9_yearsAll) dX9_yearsAll_177 (q := 178) rfl
def rX9_yearsAll_178 := W_iload5 (M := mX9_yearsAll) dX9_yearsAll_178 (q := 180) rfl
def rX9_yearsAll_180 := W_iload6 (M := mX9_yearsAll) dX9_yearsAll_180 (q := 182) rfl
def rX9_yearsAll_182 := W_invS2 (M := mX9_yearsAll) dX9_yearsAll_182 (q := 185) rfl ml1_9_281 rfl rfl rfl
def rX9_yearsAll_185 := W_if_eq (M := mX9_yearsAll) dX9_yearsAll_185 (q := 188) rfl (t := 192) rfl
def rX9_yearsAll_188 := W_iconst (M := mX9_yearsAll) dX9_yearsAll_188 (q := 189) rfl (v := (1)) rfl
def rX9_yearsAll_189 := W_goto (M := mX9_yearsAll) dX9_yearsAll_189 (t := 193) rfl
def rX9_yearsAll_192 := W_iconst (M := mX9_yearsAll) dX9_yearsAll_192 (q := 193) rfl (v := (0)) rfl
def rX9_yearsAll_193 := W_iadd (M := mX9_yearsAll) dX9_yearsAll_193 (q := 194) rfl
def rX9_yearsAll_194 := W_iast (M := mX9_yearsAll) dX9_yearsAll_194 (q := 195) rfl
def rX9_yearsAll_195 := W_iinc6 (M := mX9_yearsAll) dX9_yearsAll_195 (q := 198) rfl (v := (1)) rfl
def rX9_yearsAll_198 := W_goto (M := mX9_yearsAll) dX9_yearsAll_198 (t := 158) rfl
def rX9_yearsAll_201 := W_iinc4 (M := mX9_yearsAll) dX9_yearsAll_201 (q := 204) rfl (v := (1)) rfl
def rX9_yearsAll_204 := W_goto (M := mX9_yearsAll) dX9_yearsAll_204 (t := 34) rfl
def rX9_yearsAll_207 := W_vret (M := mX9_yearsAll) dX9_yearsAll_207 rfl
