-- X3_unpack
theorem eX3_unpack {d : Nat} {h : qH} {Q : Option (Option Value) → qH → Prop} {s0 : Nat} {x1 : Int32} : WM d mX3_unpack [.ref s0, .int x1] h Q = WP d mX3_unpack (0, 0) 0 [some (.ref s0), some (.int x1)] [] h Q := rfl
def rX3_unpack_0 := W_aload0 (M := mX3_unpack) dX3_unpack_0 (q := 1) rfl
def rX3_unpack_0b := W_aloadR0 (M := mX3_unpack) dX3_unpack_0 (q := 1) rfl
def rX3_unpack_1 := W_iload1 (M := mX3_unpack) dX3_unpack_1 (q := 2) rfl
def rX3_unpack_2 := W_bipush (M := mX3_unpack) dX3_unpack_2 (q := 4) rfl (v := (63)) rfl
def rX3_unpack_4 := W_iand (M := mX3_unpack) dX3_unpack_4 (q := 5) rfl
def rX3_unpack_5 := W_putI (M := mX3_unpack) dX3_unpack_5 (q := 8) rfl fl3_18 rfl (Or.inl rfl)
def rX3_unpack_8 := W_aload0 (M := mX3_unpack) dX3_unpack_8 (q := 9) rfl
def rX3_unpack_8b := W_aloadR0 (M := mX3_unpack) dX3_unpack_8 (q := 9) rfl
def rX3_unpack_9 := W_iload1 (M := mX3_unpack) dX3_unpack_9 (q := 10) rfl
def rX3_unpack_10 := W_bipush (M := mX3_unpack) dX3_unpack_10 (q := 12) rfl (v := (6)) rfl
def rX3_unpack_12 := W_ishr (M := mX3_unpack) dX3_unpack_12 (q := 13) rfl
def rX3_unpack_13 := W_bipush (M := mX3_unpack) dX3_unpack_13 (q := 15) rfl (v := (63)) rfl
def rX3_unpack_15 := W_iand (M := mX3_unpack) dX3_unpack_15 (q := 16) rfl
def rX3_unpack_16 := W_putI (M := mX3_unpack) dX3_unpack_16 (q := 19) rfl fl3_22 rfl (Or.inl rfl)
def rX3_unpack_19 := W_aload0 (M := mX3_unpack) dX3_unpack_19 (q := 20) rfl
def rX3_unpack_19b := W_aloadR0 (M := mX3_unpack) dX3_unpack_19 (q := 20) rfl
def rX3_unpack_20 := W_iload1 (M := mX3_unpack) dX3_unpack_20 (q := 21) rfl
def rX3_unpack_21 := W_bipush (M := mX3_unpack) dX3_unpack_21 (q := 23) rfl (v := (12)) rfl
def rX3_unpack_23 := W_ishr (M := mX3_unpack) dX3_unpack_23 (q := 24) rfl
def rX3_unpack_24 := W_putI (M := mX3_unpack) dX3_unpack_24 (q := 27) rfl fl3_25 rfl (Or.inl rfl)
def rX3_unpack_27 := W_vret (M := mX3_unpack) dX3_unpack_27 rfl
-- X4_causeOf
theorem eX4_causeOf {d : Nat} {h : qH} {Q : Option (Option Value) → qH → Prop} {s0 : Nat} {x1 : Int32} {x2 : Int32} : WM d mX4_causeOf [.ref s0, .int x1, .int x2] h Q = WP d mX4_causeOf (0, 0) 0 [some (.ref s0), some (.int x1), some (.int x2)] [] h Q := rfl
def rX4_causeOf_0 := W_aload0 (M := mX4_causeOf) dX4_causeOf_0 (q := 1) rfl
def rX4_causeOf_0b := W_aloadR0 (M := mX4_causeOf) dX4_causeOf_0 (q := 1) rfl
def rX4_causeOf_1 := W_getA (M := mX4_causeOf) dX4_causeOf_1 (q := 4) rfl fl4_15 ⟨_, rfl⟩
def rX4_causeOf_4 := W_iload1 (M := mX4_causeOf) dX4_causeOf_4 (q := 5) rfl
def rX4_causeOf_5 := W_iald (M := mX4_causeOf) dX4_causeOf_5 (q := 6) rfl
def rX4_causeOf_6 := W_bipush (M := mX4_causeOf) dX4_causeOf_6 (q := 8) rfl (v := (-2)) rfl
def rX4_causeOf_8 := W_icmp_eq (M := mX4_causeOf) dX4_causeOf_8 (q := 11) rfl (t := 19) rfl
def rX4_causeOf_11 := W_iload2 (M := mX4_causeOf) dX4_causeOf_11 (q := 12) rfl
def rX4_causeOf_12 := W_iload1 (M := mX4_causeOf) dX4_causeOf_12 (q := 13) rfl
def rX4_causeOf_13 := W_ishr (M := mX4_causeOf) dX4_causeOf_13 (q := 14) rfl
def rX4_causeOf_14 := W_iconst (M := mX4_causeOf) dX4_causeOf_14 (q := 15) rfl (v := (1)) rfl
def rX4_causeOf_15 := W_iand (M := mX4_causeOf) dX4_causeOf_15 (q := 16) rfl
def rX4_causeOf_16 := W_if_ne (M := mX4_causeOf) dX4_causeOf_16 (q := 19) rfl (t := 26) rfl
def rX4_causeOf_19 := W_aload0 (M := mX4_causeOf) dX4_causeOf_19 (q := 20) rfl
def rX4_causeOf_19b := W_aloadR0 (M := mX4_causeOf) dX4_causeOf_19 (q := 20) rfl
def rX4_causeOf_20 := W_getA (M := mX4_causeOf) dX4_causeOf_20 (q := 23) rfl fl4_15 ⟨_, rfl⟩
def rX4_causeOf_23 := W_iload1 (M := mX4_causeOf) dX4_causeOf_23 (q := 24) rfl
def rX4_causeOf_24 := W_iald (M := mX4_causeOf) dX4_causeOf_24 (q := 25) rfl
def rX4_causeOf_25 := W_iret (M := mX4_causeOf) dX4_causeOf_25 rfl
def rX4_causeOf_26 := W_aload0 (M := mX4_causeOf) dX4_causeOf_26 (q := 27) rfl
def rX4_causeOf_26b := W_aloadR0 (M := mX4_causeOf) dX4_causeOf_26 (q := 27) rfl
def rX4_causeOf_27 := W_getA (M := mX4_causeOf) dX4_causeOf_27 (q := 30) rfl fl4_21 ⟨_, rfl⟩
def rX4_causeOf_30 := W_iload1 (M := mX4_causeOf) dX4_causeOf_30 (q := 31) rfl
def rX4_causeOf_31 := W_iald (M := mX4_causeOf) dX4_causeOf_31 (q := 32) rfl
def rX4_causeOf_32 := W_iconst (M := mX4_causeOf) dX4_causeOf_32 (q := 33) rfl (v := (1)) rfl
def rX4_causeOf_33 := W_icmp_ne (M := mX4_causeOf) dX4_causeOf_33 (q := 36) rfl (t := 39) rfl
def rX4_causeOf_36 := W_bipush (M := mX4_causeOf) dX4_causeOf_36 (q := 38) rfl (v := (-2)) rfl
def rX4_causeOf_38 := W_iret (M := mX4_causeOf) dX4_causeOf_38 rfl
def rX4_causeOf_39 := W_aload0 (M := mX4_causeOf) dX4_causeOf_39 (q := 40) rfl
def rX4_causeOf_39b := W_aloadR0 (M := mX4_causeOf) dX4_causeOf_39 (q := 40) rfl
def rX4_causeOf_40 := W_getA (M := mX4_causeOf) dX4_causeOf_40 (q := 43) rfl fl4_21 ⟨_, rfl⟩
def rX4_causeOf_43 := W_iload1 (M := mX4_causeOf) dX4_causeOf_43 (q := 44) rfl
def rX4_causeOf_44 := W_iald (M := mX4_causeOf) dX4_causeOf_44 (q := 45) rfl
def rX4_causeOf_45 := W_iconst (M := mX4_causeOf) dX4_causeOf_45 (q := 46) rfl (v := (3)) rfl
def rX4_causeOf_46 := W_icmp_ne (M := mX4_causeOf) dX4_causeOf_46 (q := 49) rfl (t := 64) rfl
def rX4_causeOf_49 := W_iconst (M := mX4_causeOf) dX4_causeOf_49 (q := 50) rfl (v := (0)) rfl
def rX4_causeOf_50 := W_aload0 (M := mX4_causeOf) dX4_causeOf_50 (q := 51) rfl
def rX4_causeOf_50b := W_aloadR0 (M := mX4_causeOf) dX4_causeOf_50 (q := 51) rfl
def rX4_causeOf_51 := W_getA (M := mX4_causeOf) dX4_causeOf_51 (q := 54) rfl fl4_15 ⟨_, rfl⟩
def rX4_causeOf_54 := W_iload1 (M := mX4_causeOf) dX4_causeOf_54 (q := 55) rfl
def rX4_causeOf_55 := W_iald (M := mX4_causeOf) dX4_causeOf_55 (q := 56) rfl
def rX4_causeOf_56 := W_iconst (M := mX4_causeOf) dX4_causeOf_56 (q := 57) rfl (v := (1)) rfl
def rX4_causeOf_57 := W_isub (M := mX4_causeOf) dX4_causeOf_57 (q := 58) rfl
def rX4_causeOf_58 := W_max (M := mX4_causeOf) dX4_causeOf_58 (q := 61) rfl ml11_4_67 ml1n_4_67
def rX4_causeOf_61 := W_goto (M := mX4_causeOf) dX4_causeOf_61 (t := 70) rfl
def rX4_causeOf_64 := W_aload0 (M := mX4_causeOf) dX4_causeOf_64 (q := 65) rfl
def rX4_causeOf_64b := W_aloadR0 (M := mX4_causeOf) dX4_causeOf_64 (q := 65) rfl
def rX4_causeOf_65 := W_getA (M := mX4_causeOf) dX4_causeOf_65 (q := 68) rfl fl4_15 ⟨_, rfl⟩
def rX4_causeOf_68 := W_iload1 (M := mX4_causeOf) dX4_causeOf_68 (q := 69) rfl
def rX4_causeOf_69 := W_iald (M := mX4_causeOf) dX4_causeOf_69 (q := 70) rfl
def rX4_causeOf_70 := W_iret (M := mX4_causeOf) dX4_causeOf_70 rfl
-- X4_clear
theorem eX4_clear {d : Nat} {h : qH} {Q : Option (Option Value) → qH → Prop} {s0 : Nat} : WM d mX4_clear [.ref s0] h Q = WP d mX4_clear (0, 0) 0 [some (.ref s0)] [] h Q := rfl
def rX4_clear_0 := W_aload0 (M := mX4_clear) dX4_clear_0 (q := 1) rfl
def rX4_clear_0b := W_aloadR0 (M := mX4_clear) dX4_clear_0 (q := 1) rfl
def rX4_clear_1 := W_iconst (M := mX4_clear) dX4_clear_1 (q := 2) rfl (v := (0)) rfl
def rX4_clear_2 := W_putI (M := mX4_clear) dX4_clear_2 (q := 5) rfl fl4_45 rfl (Or.inl rfl)
def rX4_clear_5 := W_aload0 (M := mX4_clear) dX4_clear_5 (q := 6) rfl
def rX4_clear_5b := W_aloadR0 (M := mX4_clear) dX4_clear_5 (q := 6) rfl
def rX4_clear_6 := W_iconst (M := mX4_clear) dX4_clear_6 (q := 7) rfl (v := (0)) rfl
def rX4_clear_7 := W_putI (M := mX4_clear) dX4_clear_7 (q := 10) rfl fl4_49 rfl (Or.inl rfl)
def rX4_clear_10 := W_aload0 (M := mX4_clear) dX4_clear_10 (q := 11) rfl
def rX4_clear_10b := W_aloadR0 (M := mX4_clear) dX4_clear_10 (q := 11) rfl
def rX4_clear_11 := W_iconst (M := mX4_clear) dX4_clear_11 (q := 12) rfl (v := (0)) rfl
def rX4_clear_12 := W_putI (M := mX4_clear) dX4_clear_12 (q := 15) rfl fl4_52 rfl (Or.inl rfl)
def rX4_clear_15 := W_aload0 (M := mX4_clear) dX4_clear_15 (q := 16) rfl
def rX4_clear_15b := W_aloadR0 (M := mX4_clear) dX4_clear_15 (q := 16) rfl
def rX4_clear_16 := W_iconst (M := mX4_clear) dX4_clear_16 (q := 17) rfl (v := (0)) rfl
def rX4_clear_17 := W_putI (M := mX4_clear) dX4_clear_17 (q := 20) rfl fl4_55 rfl (Or.inl rfl)
def rX4_clear_20 := W_aload0 (M := mX4_clear) dX4_clear_20 (q := 21) rfl
def rX4_clear_20b := W_aloadR0 (M := mX4_clear) dX4_clear_20 (q := 21) rfl
def rX4_clear_21 := W_iconst (M := mX4_clear) dX4_clear_21 (q := 22) rfl (v := (0)) rfl
def rX4_clear_22 := W_putI (M := mX4_clear) dX4_clear_22 (q := 25) rfl fl4_58 rfl (Or.inl rfl)
def rX4_clear_25 := W_aload0 (M := mX4_clear) dX4_clear_25 (q := 26) rfl
def rX4_clear_25b := W_aloadR0 (M := mX4_clear) dX4_clear_25 (q := 26) rfl
def rX4_clear_26 := W_iconst (M := mX4_clear) dX4_clear_26 (q := 27) rfl (v := (0)) rfl
def rX4_clear_27 := W_putI (M := mX4_clear) dX4_clear_27 (q := 30) rfl fl4_61 rfl (Or.inl rfl)
def rX4_clear_30 := W_aload0 (M := mX4_clear) dX4_clear_30 (q := 31) rfl
def rX4_clear_30b := W_aloadR0 (M := mX4_clear) dX4_clear_30 (q := 31) rfl
def rX4_clear_31 := W_iconst (M := mX4_clear) dX4_clear_31 (q := 32) rfl (v := (0)) rfl
def rX4_clear_32 := W_putI (M := mX4_clear) dX4_clear_32 (q := 35) rfl fl4_64 rfl (Or.inl rfl)
def rX4_clear_35 := W_vret (M := mX4_clear) dX4_clear_35 rfl
-- X4_cutBy
theorem eX4_cutBy {d : Nat} {h : qH} {Q : Option (Option Value) → qH → Prop} {s0 : Nat} {x1 : Int32} : WM d mX4_cutBy [.ref s0, .int x1] h Q = WP d mX4_cutBy (0, 0) 0 [some (.ref s0), some (.int x1), none, none] [] h Q := rfl
def rX4_cutBy_0 := W_iconst (M := mX4_cutBy) dX4_cutBy_0 (q := 1) rfl (v := (0)) rfl
def rX4_cutBy_1 := W_istore2 (M := mX4_cutBy) dX4_cutBy_1 (q := 2) rfl
def rX4_cutBy_2 := W_iconst (M := mX4_cutBy) dX4_cutBy_2 (q := 3) rfl (v := (0)) rfl
def rX4_cutBy_3 := W_istore3 (M := mX4_cutBy) dX4_cutBy_3 (q := 4) rfl
def rX4_cutBy_4 := W_iload3 (M := mX4_cutBy) dX4_cutBy_4 (q := 5) rfl
def rX4_cutBy_5 := W_aload0 (M := mX4_cutBy) dX4_cutBy_5 (q := 6) rfl
def rX4_cutBy_5b := W_aloadR0 (M := mX4_cutBy) dX4_cutBy_5 (q := 6) rfl
def rX4_cutBy_6 := W_getI (M := mX4_cutBy) dX4_cutBy_6 (q := 9) rfl fl4_49 (Or.inl rfl)
def rX4_cutBy_9 := W_icmp_ge (M := mX4_cutBy) dX4_cutBy_9 (q := 12) rfl (t := 43) rfl
def rX4_cutBy_12 := W_iload1 (M := mX4_cutBy) dX4_cutBy_12 (q := 13) rfl
def rX4_cutBy_13 := W_iload3 (M := mX4_cutBy) dX4_cutBy_13 (q := 14) rfl
def rX4_cutBy_14 := W_ishr (M := mX4_cutBy) dX4_cutBy_14 (q := 15) rfl
def rX4_cutBy_15 := W_iconst (M := mX4_cutBy) dX4_cutBy_15 (q := 16) rfl (v := (1)) rfl
def rX4_cutBy_16 := W_iand (M := mX4_cutBy) dX4_cutBy_16 (q := 17) rfl
def rX4_cutBy_17 := W_iconst (M := mX4_cutBy) dX4_cutBy_17 (q := 18) rfl (v := (1)) rfl
def rX4_cutBy_18 := W_icmp_ne (M := mX4_cutBy) dX4_cutBy_18 (q := 21) rfl (t := 37) rfl
def rX4_cutBy_21 := W_aload0 (M := mX4_cutBy) dX4_cutBy_21 (q := 22) rfl
def rX4_cutBy_21b := W_aloadR0 (M := mX4_cutBy) dX4_cutBy_21 (q := 22) rfl
def rX4_cutBy_22 := W_getA (M := mX4_cutBy) dX4_cutBy_22 (q := 25) rfl fl4_21 ⟨_, rfl⟩
def rX4_cutBy_25 := W_iload3 (M := mX4_cutBy) dX4_cutBy_25 (q := 26) rfl
def rX4_cutBy_26 := W_iald (M := mX4_cutBy) dX4_cutBy_26 (q := 27) rfl
def rX4_cutBy_27 := W_iconst (M := mX4_cutBy) dX4_cutBy_27 (q := 28) rfl (v := (2)) rfl
def rX4_cutBy_28 := W_icmp_ne (M := mX4_cutBy) dX4_cutBy_28 (q := 31) rfl (t := 37) rfl
def rX4_cutBy_31 := W_iload2 (M := mX4_cutBy) dX4_cutBy_31 (q := 32) rfl
def rX4_cutBy_32 := W_iconst (M := mX4_cutBy) dX4_cutBy_32 (q := 33) rfl (v := (1)) rfl
def rX4_cutBy_33 := W_iload3 (M := mX4_cutBy) dX4_cutBy_33 (q := 34) rfl
def rX4_cutBy_34 := W_ishl (M := mX4_cutBy) dX4_cutBy_34 (q := 35) rfl
def rX4_cutBy_35 := W_ior (M := mX4_cutBy) dX4_cutBy_35 (q := 36) rfl
def rX4_cutBy_36 := W_istore2 (M := mX4_cutBy) dX4_cutBy_36 (q := 37) rfl
def rX4_cutBy_37 := W_iinc3 (M := mX4_cutBy) dX4_cutBy_37 (q := 40) rfl (v := (1)) rfl
def rX4_cutBy_40 := W_goto (M := mX4_cutBy) dX4_cutBy_40 (t := 4) rfl
def rX4_cutBy_43 := W_iload2 (M := mX4_cutBy) dX4_cutBy_43 (q := 44) rfl
def rX4_cutBy_44 := W_iret (M := mX4_cutBy) dX4_cutBy_44 rfl
-- X4_doers
theorem eX4_doers {d : Nat} {h : qH} {Q : Option (Option Value) → qH → Prop} {s0 : Nat} : WM d mX4_doers [.ref s0] h Q = WP d mX4_doers (0, 0) 0 [some (.ref s0), none, none] [] h Q := rfl
def rX4_doers_0 := W_iconst (M := mX4_doers) dX4_doers_0 (q := 1) rfl (v := (0)) rfl
def rX4_doers_1 := W_istore1 (M := mX4_doers) dX4_doers_1 (q := 2) rfl
def rX4_doers_2 := W_iconst (M := mX4_doers) dX4_doers_2 (q := 3) rfl (v := (0)) rfl
def rX4_doers_3 := W_istore2 (M := mX4_doers) dX4_doers_3 (q := 4) rfl
def rX4_doers_4 := W_iload2 (M := mX4_doers) dX4_doers_4 (q := 5) rfl
def rX4_doers_5 := W_aload0 (M := mX4_doers) dX4_doers_5 (q := 6) rfl
def rX4_doers_5b := W_aloadR0 (M := mX4_doers) dX4_doers_5 (q := 6) rfl
def rX4_doers_6 := W_getI (M := mX4_doers) dX4_doers_6 (q := 9) rfl fl4_49 (Or.inl rfl)
def rX4_doers_9 := W_icmp_ge (M := mX4_doers) dX4_doers_9 (q := 12) rfl (t := 30) rfl
def rX4_doers_12 := W_aload0 (M := mX4_doers) dX4_doers_12 (q := 13) rfl
def rX4_doers_12b := W_aloadR0 (M := mX4_doers) dX4_doers_12 (q := 13) rfl
def rX4_doers_13 := W_getA (M := mX4_doers) dX4_doers_13 (q := 16) rfl fl4_21 ⟨_, rfl⟩
def rX4_doers_16 := W_iload2 (M := mX4_doers) dX4_doers_16 (q := 17) rfl
def rX4_doers_17 := W_iald (M := mX4_doers) dX4_doers_17 (q := 18) rfl
def rX4_doers_18 := W_if_eq (M := mX4_doers) dX4_doers_18 (q := 21) rfl (t := 24) rfl
def rX4_doers_21 := W_iinc1 (M := mX4_doers) dX4_doers_21 (q := 24) rfl (v := (1)) rfl
def rX4_doers_24 := W_iinc2 (M := mX4_doers) dX4_doers_24 (q := 27) rfl (v := (1)) rfl
def rX4_doers_27 := W_goto (M := mX4_doers) dX4_doers_27 (t := 4) rfl
def rX4_doers_30 := W_iload1 (M := mX4_doers) dX4_doers_30 (q := 31) rfl
def rX4_doers_31 := W_iret (M := mX4_doers) dX4_doers_31 rfl
-- X4_init
theorem eX4_init {d : Nat} {h : qH} {Q : Option (Option Value) → qH → Prop} {s0 : Nat} : WM d mX4_init [.ref s0] h Q = WP d mX4_init (0, 0) 0 [some (.ref s0)] [] h Q := rfl
def rX4_init_0 := W_aload0 (M := mX4_init) dX4_init_0 (q := 1) rfl
def rX4_init_0b := W_aloadR0 (M := mX4_init) dX4_init_0 (q := 1) rfl
def rX4_init_1 := W_objI (M := mX4_init) dX4_init_1 (q := 4) rfl ml10_4_3 ml2n_4_3 ml3n_4_3
def rX4_init_4 := W_aload0 (M := mX4_init) dX4_init_4 (q := 5) rfl
def rX4_init_4b := W_aloadR0 (M := mX4_init) dX4_init_4 (q := 5) rfl
def rX4_init_5 := W_bipush (M := mX4_init) dX4_init_5 (q := 7) rfl (v := (6)) rfl
def rX4_init_7 := W_newa (M := mX4_init) dX4_init_7 (q := 9) rfl
def rX4_init_9 := W_putA (M := mX4_init) dX4_init_9 (q := 12) rfl fl4_9 ⟨_, rfl⟩ (Or.inr ⟨rfl, rfl, rfl⟩)
def rX4_init_12 := W_aload0 (M := mX4_init) dX4_init_12 (q := 13) rfl
def rX4_init_12b := W_aloadR0 (M := mX4_init) dX4_init_12 (q := 13) rfl
def rX4_init_13 := W_bipush (M := mX4_init) dX4_init_13 (q := 15) rfl (v := (6)) rfl
def rX4_init_15 := W_newa (M := mX4_init) dX4_init_15 (q := 17) rfl
def rX4_init_17 := W_putA (M := mX4_init) dX4_init_17 (q := 20) rfl fl4_15 ⟨_, rfl⟩ (Or.inr ⟨rfl, rfl, rfl⟩)
def rX4_init_20 := W_aload0 (M := mX4_init) dX4_init_20 (q := 21) rfl
def rX4_init_20b := W_aloadR0 (M := mX4_init) dX4_init_20 (q := 21) rfl
def rX4_init_21 := W_bipush (M := mX4_init) dX4_init_21 (q := 23) rfl (v := (6)) rfl
def rX4_init_23 := W_newa (M := mX4_init) dX4_init_23 (q := 25) rfl
def rX4_init_25 := W_putA (M := mX4_init) dX4_init_25 (q := 28) rfl fl4_18 ⟨_, rfl⟩ (Or.inr ⟨rfl, rfl, rfl⟩)
def rX4_init_28 := W_aload0 (M := mX4_init) dX4_init_28 (q := 29) rfl
def rX4_init_28b := W_aloadR0 (M := mX4_init) dX4_init_28 (q := 29) rfl
def rX4_init_29 := W_bipush (M := mX4_init) dX4_init_29 (q := 31) rfl (v := (6)) rfl
def rX4_init_31 := W_newa (M := mX4_init) dX4_init_31 (q := 33) rfl
def rX4_init_33 := W_putA (M := mX4_init) dX4_init_33 (q := 36) rfl fl4_21 ⟨_, rfl⟩ (Or.inr ⟨rfl, rfl, rfl⟩)
def rX4_init_36 := W_aload0 (M := mX4_init) dX4_init_36 (q := 37) rfl
def rX4_init_36b := W_aloadR0 (M := mX4_init) dX4_init_36 (q := 37) rfl
def rX4_init_37 := W_bipush (M := mX4_init) dX4_init_37 (q := 39) rfl (v := (9)) rfl
def rX4_init_39 := W_newa (M := mX4_init) dX4_init_39 (q := 41) rfl
def rX4_init_41 := W_putA (M := mX4_init) dX4_init_41 (q := 44) rfl fl4_24 ⟨_, rfl⟩ (Or.inr ⟨rfl, rfl, rfl⟩)
def rX4_init_44 := W_aload0 (M := mX4_init) dX4_init_44 (q := 45) rfl
def rX4_init_44b := W_aloadR0 (M := mX4_init) dX4_init_44 (q := 45) rfl
def rX4_init_45 := W_bipush (M := mX4_init) dX4_init_45 (q := 47) rfl (v := (9)) rfl
def rX4_init_47 := W_newa (M := mX4_init) dX4_init_47 (q := 49) rfl
def rX4_init_49 := W_putA (M := mX4_init) dX4_init_49 (q := 52) rfl fl4_27 ⟨_, rfl⟩ (Or.inr ⟨rfl, rfl, rfl⟩)
def rX4_init_52 := W_aload0 (M := mX4_init) dX4_init_52 (q := 53) rfl
def rX4_init_52b := W_aloadR0 (M := mX4_init) dX4_init_52 (q := 53) rfl
def rX4_init_53 := W_bipush (M := mX4_init) dX4_init_53 (q := 55) rfl (v := (9)) rfl
def rX4_init_55 := W_newa (M := mX4_init) dX4_init_55 (q := 57) rfl
def rX4_init_57 := W_putA (M := mX4_init) dX4_init_57 (q := 60) rfl fl4_30 ⟨_, rfl⟩ (Or.inr ⟨rfl, rfl, rfl⟩)
def rX4_init_60 := W_aload0 (M := mX4_init) dX4_init_60 (q := 61) rfl
def rX4_init_60b := W_aloadR0 (M := mX4_init) dX4_init_60 (q := 61) rfl
def rX4_init_61 := W_iconst (M := mX4_init) dX4_init_61 (q := 62) rfl (v := (4)) rfl
def rX4_init_62 := W_newa (M := mX4_init) dX4_init_62 (q := 64) rfl
def rX4_init_64 := W_putA (M := mX4_init) dX4_init_64 (q := 67) rfl fl4_33 ⟨_, rfl⟩ (Or.inr ⟨rfl, rfl, rfl⟩)
def rX4_init_67 := W_aload0 (M := mX4_init) dX4_init_67 (q := 68) rfl
def rX4_init_67b := W_aloadR0 (M := mX4_init) dX4_init_67 (q := 68) rfl
def rX4_init_68 := W_iconst (M := mX4_init) dX4_init_68 (q := 69) rfl (v := (2)) rfl
def rX4_init_69 := W_newa (M := mX4_init) dX4_init_69 (q := 71) rfl
def rX4_init_71 := W_putA (M := mX4_init) dX4_init_71 (q := 74) rfl fl4_36 ⟨_, rfl⟩ (Or.inr ⟨rfl, rfl, rfl⟩)
def rX4_init_74 := W_aload0 (M := mX4_init) dX4_init_74 (q := 75) rfl
def rX4_init_74b := W_aloadR0 (M := mX4_init) dX4_init_74 (q := 75) rfl
def rX4_init_75 := W_iconst (M := mX4_init) dX4_init_75 (q := 76) rfl (v := (4)) rfl
def rX4_init_76 := W_newa (M := mX4_init) dX4_init_76 (q := 78) rfl
def rX4_init_78 := W_putA (M := mX4_init) dX4_init_78 (q := 81) rfl fl4_39 ⟨_, rfl⟩ (Or.inr ⟨rfl, rfl, rfl⟩)
def rX4_init_81 := W_aload0 (M := mX4_init) dX4_init_81 (q := 82) rfl
def rX4_init_81b := W_aloadR0 (M := mX4_init) dX4_init_81 (q := 82) rfl
def rX4_init_82 := W_iconst (M := mX4_init) dX4_init_82 (q := 83) rfl (v := (4)) rfl
def rX4_init_83 := W_newa (M := mX4_init) dX4_init_83 (q := 85) rfl
def rX4_init_85 := W_putA (M := mX4_init) dX4_init_85 (q := 88) rfl fl4_42 ⟨_, rfl⟩ (Or.inr ⟨rfl, rfl, rfl⟩)
def rX4_init_88 := W_vret (M := mX4_init) dX4_init_88 rfl
-- X4_lagOf
theorem eX4_lagOf {d : Nat} {h : qH} {Q : Option (Option Value) → qH → Prop} {s0 : Nat} {x1 : Int32} {x2 : Int32} {x3 : Int32} : WM d mX4_lagOf [.ref s0, .int x1, .int x2, .int x3] h Q = WP d mX4_lagOf (0, 0) 0 [some (.ref s0), some (.int x1), some (.int x2), some (.int x3), none] [] h Q := rfl
def rX4_lagOf_0 := W_aload0 (M := mX4_lagOf) dX4_lagOf_0 (q := 1) rfl
def rX4_lagOf_0b := W_aloadR0 (M := mX4_lagOf) dX4_lagOf_0 (q := 1) rfl
def rX4_lagOf_1 := W_iload1 (M := mX4_lagOf) dX4_lagOf_1 (q := 2) rfl
def rX4_lagOf_2 := W_iload2 (M := mX4_lagOf) dX4_lagOf_2 (q := 3) rfl
def rX4_lagOf_3 := W_invV2 (M := mX4_lagOf) dX4_lagOf_3 (q := 6) rfl ml0_4_73 rfl
def rX4_lagOf_6 := W_istore4 (M := mX4_lagOf) dX4_lagOf_6 (q := 8) rfl
def rX4_lagOf_8 := W_iload4 (M := mX4_lagOf) dX4_lagOf_8 (q := 10) rfl
def rX4_lagOf_10 := W_iconst (M := mX4_lagOf) dX4_lagOf_10 (q := 11) rfl (v := (-1)) rfl
def rX4_lagOf_11 := W_icmp_eq (M := mX4_lagOf) dX4_lagOf_11 (q := 14) rfl (t := 23) rfl
def rX4_lagOf_14 := W_iload3 (M := mX4_lagOf) dX4_lagOf_14 (q := 15) rfl
def rX4_lagOf_15 := W_iload1 (M := mX4_lagOf) dX4_lagOf_15 (q := 16) rfl
def rX4_lagOf_16 := W_ishr (M := mX4_lagOf) dX4_lagOf_16 (q := 17) rfl
def rX4_lagOf_17 := W_iconst (M := mX4_lagOf) dX4_lagOf_17 (q := 18) rfl (v := (1)) rfl
def rX4_lagOf_18 := W_iand (M := mX4_lagOf) dX4_lagOf_18 (q := 19) rfl
def rX4_lagOf_19 := W_iconst (M := mX4_lagOf) dX4_lagOf_19 (q := 20) rfl (v := (1)) rfl
def rX4_lagOf_20 := W_icmp_ne (M := mX4_lagOf) dX4_lagOf_20 (q := 23) rfl (t := 29) rfl
def rX4_lagOf_23 := W_sipush (M := mX4_lagOf) dX4_lagOf_23 (q := 26) rfl (v := (1000)) rfl
def rX4_lagOf_26 := W_goto (M := mX4_lagOf) dX4_lagOf_26 (t := 36) rfl
def rX4_lagOf_29 := W_aload0 (M := mX4_lagOf) dX4_lagOf_29 (q := 30) rfl
def rX4_lagOf_29b := W_aloadR0 (M := mX4_lagOf) dX4_lagOf_29 (q := 30) rfl
def rX4_lagOf_30 := W_getA (M := mX4_lagOf) dX4_lagOf_30 (q := 33) rfl fl4_30 ⟨_, rfl⟩
def rX4_lagOf_33 := W_iload4 (M := mX4_lagOf) dX4_lagOf_33 (q := 35) rfl
def rX4_lagOf_35 := W_iald (M := mX4_lagOf) dX4_lagOf_35 (q := 36) rfl
def rX4_lagOf_36 := W_iret (M := mX4_lagOf) dX4_lagOf_36 rfl
-- X4_sparkOf
theorem eX4_sparkOf {d : Nat} {h : qH} {Q : Option (Option Value) → qH → Prop} {s0 : Nat} {x1 : Int32} {x2 : Int32} : WM d mX4_sparkOf [.ref s0, .int x1, .int x2] h Q = WP d mX4_sparkOf (0, 0) 0 [some (.ref s0), some (.int x1), some (.int x2), none] [] h Q := rfl
def rX4_sparkOf_0 := W_iconst (M := mX4_sparkOf) dX4_sparkOf_0 (q := 1) rfl (v := (0)) rfl
def rX4_sparkOf_1 := W_istore3 (M := mX4_sparkOf) dX4_sparkOf_1 (q := 2) rfl
def rX4_sparkOf_2 := W_iload3 (M := mX4_sparkOf) dX4_sparkOf_2 (q := 3) rfl
def rX4_sparkOf_3 := W_aload0 (M := mX4_sparkOf) dX4_sparkOf_3 (q := 4) rfl
def rX4_sparkOf_3b := W_aloadR0 (M := mX4_sparkOf) dX4_sparkOf_3 (q := 4) rfl
def rX4_sparkOf_4 := W_getI (M := mX4_sparkOf) dX4_sparkOf_4 (q := 7) rfl fl4_55 (Or.inl rfl)
def rX4_sparkOf_7 := W_icmp_ge (M := mX4_sparkOf) dX4_sparkOf_7 (q := 10) rfl (t := 38) rfl
def rX4_sparkOf_10 := W_aload0 (M := mX4_sparkOf) dX4_sparkOf_10 (q := 11) rfl
def rX4_sparkOf_10b := W_aloadR0 (M := mX4_sparkOf) dX4_sparkOf_10 (q := 11) rfl
def rX4_sparkOf_11 := W_getA (M := mX4_sparkOf) dX4_sparkOf_11 (q := 14) rfl fl4_24 ⟨_, rfl⟩
def rX4_sparkOf_14 := W_iload3 (M := mX4_sparkOf) dX4_sparkOf_14 (q := 15) rfl
def rX4_sparkOf_15 := W_iald (M := mX4_sparkOf) dX4_sparkOf_15 (q := 16) rfl
def rX4_sparkOf_16 := W_iload1 (M := mX4_sparkOf) dX4_sparkOf_16 (q := 17) rfl
def rX4_sparkOf_17 := W_icmp_ne (M := mX4_sparkOf) dX4_sparkOf_17 (q := 20) rfl (t := 32) rfl
def rX4_sparkOf_20 := W_aload0 (M := mX4_sparkOf) dX4_sparkOf_20 (q := 21) rfl
def rX4_sparkOf_20b := W_aloadR0 (M := mX4_sparkOf) dX4_sparkOf_20 (q := 21) rfl
def rX4_sparkOf_21 := W_getA (M := mX4_sparkOf) dX4_sparkOf_21 (q := 24) rfl fl4_27 ⟨_, rfl⟩
def rX4_sparkOf_24 := W_iload3 (M := mX4_sparkOf) dX4_sparkOf_24 (q := 25) rfl
def rX4_sparkOf_25 := W_iald (M := mX4_sparkOf) dX4_sparkOf_25 (q := 26) rfl
def rX4_sparkOf_26 := W_iload2 (M := mX4_sparkOf) dX4_sparkOf_26 (q := 27) rfl
def rX4_sparkOf_27 := W_icmp_ne (M := mX4_sparkOf) dX4_sparkOf_27 (q := 30) rfl (t := 32) rfl
def rX4_sparkOf_30 := W_iload3 (M := mX4_sparkOf) dX4_sparkOf_30 (q := 31) rfl
def rX4_sparkOf_31 := W_iret (M := mX4_sparkOf) dX4_sparkOf_31 rfl
def rX4_sparkOf_32 := W_iinc3 (M := mX4_sparkOf) dX4_sparkOf_32 (q := 35) rfl (v := (1)) rfl
def rX4_sparkOf_35 := W_goto (M := mX4_sparkOf) dX4_sparkOf_35 (t := 2) rfl
def rX4_sparkOf_38 := W_iconst (M := mX4_sparkOf) dX4_sparkOf_38 (q := 39) rfl (v := (-1)) rfl
def rX4_sparkOf_39 := W_iret (M := mX4_sparkOf) dX4_sparkOf_39 rfl
-- X5_add
theorem eX5_add {d : Nat} {h : qH} {Q : Option (Option Value) → qH → Prop} {s0 : Nat} {x1 : Int32} : WM d mX5_add [.ref s0, .int x1] h Q = WP d mX5_add (0, 0) 0 [some (.ref s0), some (.int x1), none] [] h Q := rfl
def rX5_add_0 := W_bipush (M := mX5_add) dX5_add_0 (q := 2) rfl (v := (24)) rfl
def rX5_add_2 := W_istore2 (M := mX5_add) dX5_add_2 (q := 3) rfl
def rX5_add_3 := W_iload2 (M := mX5_add) dX5_add_3 (q := 4) rfl
def rX5_add_4 := W_if_lt (M := mX5_add) dX5_add_4 (q := 7) rfl (t := 55) rfl
def rX5_add_7 := W_aload0 (M := mX5_add) dX5_add_7 (q := 8) rfl
def rX5_add_7b := W_aloadR0 (M := mX5_add) dX5_add_7 (q := 8) rfl
def rX5_add_8 := W_getI (M := mX5_add) dX5_add_8 (q := 11) rfl fl5_15 (Or.inl rfl)
def rX5_add_11 := W_if_lt (M := mX5_add) dX5_add_11 (q := 14) rfl (t := 49) rfl
def rX5_add_14 := W_aload0 (M := mX5_add) dX5_add_14 (q := 15) rfl
def rX5_add_14b := W_aloadR0 (M := mX5_add) dX5_add_14 (q := 15) rfl
def rX5_add_15 := W_getI (M := mX5_add) dX5_add_15 (q := 18) rfl fl5_15 (Or.inl rfl)
def rX5_add_18 := W_aload0 (M := mX5_add) dX5_add_18 (q := 19) rfl
def rX5_add_18b := W_aloadR0 (M := mX5_add) dX5_add_18 (q := 19) rfl
def rX5_add_19 := W_getA (M := mX5_add) dX5_add_19 (q := 22) rfl fl5_9 ⟨_, rfl⟩
def rX5_add_22 := W_alen (M := mX5_add) dX5_add_22 (q := 23) rfl
def rX5_add_23 := W_icmp_ge (M := mX5_add) dX5_add_23 (q := 26) rfl (t := 49) rfl
def rX5_add_26 := W_aload0 (M := mX5_add) dX5_add_26 (q := 27) rfl
def rX5_add_26b := W_aloadR0 (M := mX5_add) dX5_add_26 (q := 27) rfl
def rX5_add_27 := W_getA (M := mX5_add) dX5_add_27 (q := 30) rfl fl5_9 ⟨_, rfl⟩
def rX5_add_30 := W_aload0 (M := mX5_add) dX5_add_30 (q := 31) rfl
def rX5_add_30b := W_aloadR0 (M := mX5_add) dX5_add_30 (q := 31) rfl
def rX5_add_31 := W_getI (M := mX5_add) dX5_add_31 (q := 34) rfl fl5_15 (Or.inl rfl)
def rX5_add_34 := W_iload1 (M := mX5_add) dX5_add_34 (q := 35) rfl
def rX5_add_35 := W_iload2 (M := mX5_add) dX5_add_35 (q := 36) rfl
def rX5_add_36 := W_ishr (M := mX5_add) dX5_add_36 (q := 37) rfl
def rX5_add_37 := W_i2b (M := mX5_add) dX5_add_37 (q := 38) rfl
def rX5_add_38 := W_bast (M := mX5_add) dX5_add_38 (q := 39) rfl
def rX5_add_39 := W_aload0 (M := mX5_add) dX5_add_39 (q := 40) rfl
def rX5_add_39b := W_aloadR0 (M := mX5_add) dX5_add_39 (q := 40) rfl
def rX5_add_40 := W_dupI (M := mX5_add) dX5_add_40 (q := 41) rfl
def rX5_add_40b := W_dupR (M := mX5_add) dX5_add_40 (q := 41) rfl
def rX5_add_41 := W_getI (M := mX5_add) dX5_add_41 (q := 44) rfl fl5_15 (Or.inl rfl)
def rX5_add_44 := W_iconst (M := mX5_add) dX5_add_44 (q := 45) rfl (v := (1)) rfl
def rX5_add_45 := W_iadd (M := mX5_add) dX5_add_45 (q := 46) rfl
def rX5_add_46 := W_putI (M := mX5_add) dX5_add_46 (q := 49) rfl fl5_15 rfl (Or.inl rfl)
def rX5_add_49 := W_iinc2 (M := mX5_add) dX5_add_49 (q := 52) rfl (v := (-8)) rfl
def rX5_add_52 := W_goto (M := mX5_add) dX5_add_52 (t := 3) rfl
def rX5_add_55 := W_vret (M := mX5_add) dX5_add_55 rfl
-- X5_at
theorem eX5_at {d : Nat} {h : qH} {Q : Option (Option Value) → qH → Prop} {s0 : Nat} {x1 : Int32} : WM d mX5_at [.ref s0, .int x1] h Q = WP d mX5_at (0, 0) 0 [some (.ref s0), some (.int x1)] [] h Q := rfl
def rX5_at_0 := W_iload1 (M := mX5_at) dX5_at_0 (q := 1) rfl
def rX5_at_1 := W_if_lt (M := mX5_at) dX5_at_1 (q := 4) rfl (t := 26) rfl
def rX5_at_4 := W_iload1 (M := mX5_at) dX5_at_4 (q := 5) rfl
def rX5_at_5 := W_aload0 (M := mX5_at) dX5_at_5 (q := 6) rfl
def rX5_at_5b := W_aloadR0 (M := mX5_at) dX5_at_5 (q := 6) rfl
def rX5_at_6 := W_getA (M := mX5_at) dX5_at_6 (q := 9) rfl fl5_9 ⟨_, rfl⟩
def rX5_at_9 := W_alen (M := mX5_at) dX5_at_9 (q := 10) rfl
def rX5_at_10 := W_icmp_ge (M := mX5_at) dX5_at_10 (q := 13) rfl (t := 26) rfl
def rX5_at_13 := W_aload0 (M := mX5_at) dX5_at_13 (q := 14) rfl
def rX5_at_13b := W_aloadR0 (M := mX5_at) dX5_at_13 (q := 14) rfl
def rX5_at_14 := W_getA (M := mX5_at) dX5_at_14 (q := 17) rfl fl5_9 ⟨_, rfl⟩
def rX5_at_17 := W_iload1 (M := mX5_at) dX5_at_17 (q := 18) rfl
def rX5_at_18 := W_bald (M := mX5_at) dX5_at_18 (q := 19) rfl
def rX5_at_19 := W_sipush (M := mX5_at) dX5_at_19 (q := 22) rfl (v := (255)) rfl
def rX5_at_22 := W_iand (M := mX5_at) dX5_at_22 (q := 23) rfl
def rX5_at_23 := W_goto (M := mX5_at) dX5_at_23 (t := 27) rfl
def rX5_at_26 := W_iconst (M := mX5_at) dX5_at_26 (q := 27) rfl (v := (0)) rfl
def rX5_at_27 := W_iret (M := mX5_at) dX5_at_27 rfl
-- X5_init
theorem eX5_init {d : Nat} {h : qH} {Q : Option (Option Value) → qH → Prop} {s0 : Nat} : WM d mX5_init [.ref s0] h Q = WP d mX5_init (0, 0) 0 [some (.ref s0)] [] h Q := rfl
def rX5_init_0 := W_aload0 (M := mX5_init) dX5_init_0 (q := 1) rfl
def rX5_init_0b := W_aloadR0 (M := mX5_init) dX5_init_0 (q := 1) rfl
def rX5_init_1 := W_objI (M := mX5_init) dX5_init_1 (q := 4) rfl ml10_5_3 ml2n_5_3 ml3n_5_3
def rX5_init_4 := W_aload0 (M := mX5_init) dX5_init_4 (q := 5) rfl
def rX5_init_4b := W_aloadR0 (M := mX5_init) dX5_init_4 (q := 5) rfl
def rX5_init_5 := W_sipush (M := mX5_init) dX5_init_5 (q := 8) rfl (v := (900)) rfl
def rX5_init_8 := W_newa (M := mX5_init) dX5_init_8 (q := 10) rfl
def rX5_init_10 := W_putA (M := mX5_init) dX5_init_10 (q := 13) rfl fl5_9 ⟨_, rfl⟩ (Or.inr ⟨rfl, rfl, rfl⟩)
def rX5_init_13 := W_vret (M := mX5_init) dX5_init_13 rfl
-- X6_burntOf
theorem eX6_burntOf {d : Nat} {h : qH} {Q : Option (Option Value) → qH → Prop} {s0 : Nat} {x1 : Int32} : WM d mX6_burntOf [.ref s0, .int x1] h Q = WP d mX6_burntOf (0, 0) 0 [some (.ref s0), some (.int x1)] [] h Q := rfl
def rX6_burntOf_0 := W_aload0 (M := mX6_burntOf) dX6_burntOf_0 (q := 1) rfl
def rX6_burntOf_0b := W_aloadR0 (M := mX6_burntOf) dX6_burntOf_0 (q := 1) rfl
def rX6_burntOf_1 := W_getR (M := mX6_burntOf) dX6_burntOf_1 (q := 4) rfl fl6_15 ⟨_, rfl⟩
def rX6_burntOf_4 := W_aload0 (M := mX6_burntOf) dX6_burntOf_4 (q := 5) rfl
def rX6_burntOf_4b := W_aloadR0 (M := mX6_burntOf) dX6_burntOf_4 (q := 5) rfl
def rX6_burntOf_5 := W_getA (M := mX6_burntOf) dX6_burntOf_5 (q := 8) rfl fl6_11 ⟨_, rfl⟩
def rX6_burntOf_8 := W_iload1 (M := mX6_burntOf) dX6_burntOf_8 (q := 9) rfl
def rX6_burntOf_9 := W_iald (M := mX6_burntOf) dX6_burntOf_9 (q := 10) rfl
def rX6_burntOf_10 := W_bipush (M := mX6_burntOf) dX6_burntOf_10 (q := 12) rfl (v := (16)) rfl
def rX6_burntOf_12 := W_ishr (M := mX6_burntOf) dX6_burntOf_12 (q := 13) rfl
def rX6_burntOf_13 := W_bipush (M := mX6_burntOf) dX6_burntOf_13 (q := 15) rfl (v := (60)) rfl
def rX6_burntOf_15 := W_invV2 (M := mX6_burntOf) dX6_burntOf_15 (q := 18) rfl ml0_6_75 rfl
def rX6_burntOf_18 := W_invS1 (M := mX6_burntOf) dX6_burntOf_18 (q := 21) rfl ml1_6_79 rfl rfl rfl
def rX6_burntOf_21 := W_iret (M := mX6_burntOf) dX6_burntOf_21 rfl
-- X6_go
theorem eX6_go {d : Nat} {h : qH} {Q : Option (Option Value) → qH → Prop} {s0 : Nat} {x1 : Int32} {x2 : Int32} {x3 : Int32} : WM d mX6_go [.ref s0, .int x1, .int x2, .int x3] h Q = WP d mX6_go (0, 0) 0 [some (.ref s0), some (.int x1), some (.int x2), some (.int x3), none, none] [] h Q := rfl
def rX6_go_0 := W_iload1 (M := mX6_go) dX6_go_0 (q := 1) rfl
def rX6_go_1 := W_aload0 (M := mX6_go) dX6_go_1 (q := 2) rfl
def rX6_go_1b := W_aloadR0 (M := mX6_go) dX6_go_1 (q := 2) rfl
def rX6_go_2 := W_getI (M := mX6_go) dX6_go_2 (q := 5) rfl fl6_61 (Or.inl rfl)
def rX6_go_5 := W_icmp_ge (M := mX6_go) dX6_go_5 (q := 8) rfl (t := 13) rfl
def rX6_go_8 := W_iload1 (M := mX6_go) dX6_go_8 (q := 9) rfl
def rX6_go_9 := W_iconst (M := mX6_go) dX6_go_9 (q := 10) rfl (v := (4)) rfl
def rX6_go_10 := W_icmp_lt (M := mX6_go) dX6_go_10 (q := 13) rfl (t := 49) rfl
def rX6_go_13 := W_aload0 (M := mX6_go) dX6_go_13 (q := 14) rfl
def rX6_go_13b := W_aloadR0 (M := mX6_go) dX6_go_13 (q := 14) rfl
def rX6_go_14 := W_getI (M := mX6_go) dX6_go_14 (q := 17) rfl fl6_38 (Or.inl rfl)
def rX6_go_17 := W_sipush (M := mX6_go) dX6_go_17 (q := 20) rfl (v := (1296)) rfl
def rX6_go_20 := W_icmp_ge (M := mX6_go) dX6_go_20 (q := 23) rfl (t := 48) rfl
def rX6_go_23 := W_aload0 (M := mX6_go) dX6_go_23 (q := 24) rfl
def rX6_go_23b := W_aloadR0 (M := mX6_go) dX6_go_23 (q := 24) rfl
def rX6_go_24 := W_getA (M := mX6_go) dX6_go_24 (q := 27) rfl fl6_11 ⟨_, rfl⟩
def rX6_go_27 := W_aload0 (M := mX6_go) dX6_go_27 (q := 28) rfl
def rX6_go_27b := W_aloadR0 (M := mX6_go) dX6_go_27 (q := 28) rfl
def rX6_go_28 := W_getI (M := mX6_go) dX6_go_28 (q := 31) rfl fl6_38 (Or.inl rfl)
def rX6_go_31 := W_iload2 (M := mX6_go) dX6_go_31 (q := 32) rfl
def rX6_go_32 := W_bipush (M := mX6_go) dX6_go_32 (q := 34) rfl (v := (16)) rfl
def rX6_go_34 := W_ishl (M := mX6_go) dX6_go_34 (q := 35) rfl
def rX6_go_35 := W_iload3 (M := mX6_go) dX6_go_35 (q := 36) rfl
def rX6_go_36 := W_ior (M := mX6_go) dX6_go_36 (q := 37) rfl
def rX6_go_37 := W_iast (M := mX6_go) dX6_go_37 (q := 38) rfl
def rX6_go_38 := W_aload0 (M := mX6_go) dX6_go_38 (q := 39) rfl
def rX6_go_38b := W_aloadR0 (M := mX6_go) dX6_go_38 (q := 39) rfl
def rX6_go_39 := W_dupI (M := mX6_go) dX6_go_39 (q := 40) rfl
def rX6_go_39b := W_dupR (M := mX6_go) dX6_go_39 (q := 40) rfl
def rX6_go_40 := W_getI (M := mX6_go) dX6_go_40 (q := 43) rfl fl6_38 (Or.inl rfl)
def rX6_go_43 := W_iconst (M := mX6_go) dX6_go_43 (q := 44) rfl (v := (1)) rfl
def rX6_go_44 := W_iadd (M := mX6_go) dX6_go_44 (q := 45) rfl
def rX6_go_45 := W_putI (M := mX6_go) dX6_go_45 (q := 48) rfl fl6_38 rfl (Or.inl rfl)
def rX6_go_48 := W_vret (M := mX6_go) dX6_go_48 rfl
def rX6_go_49 := W_aload0 (M := mX6_go) dX6_go_49 (q := 50) rfl
def rX6_go_49b := W_aloadR0 (M := mX6_go) dX6_go_49 (q := 50) rfl
def rX6_go_50 := W_getR (M := mX6_go) dX6_go_50 (q := 53) rfl fl6_15 ⟨_, rfl⟩
def rX6_go_53 := W_iload2 (M := mX6_go) dX6_go_53 (q := 54) rfl
def rX6_go_54 := W_aload0 (M := mX6_go) dX6_go_54 (q := 55) rfl
def rX6_go_54b := W_aloadR0 (M := mX6_go) dX6_go_54 (q := 55) rfl
def rX6_go_55 := W_getI (M := mX6_go) dX6_go_55 (q := 58) rfl fl6_34 (Or.inl rfl)
def rX6_go_58 := W_aload0 (M := mX6_go) dX6_go_58 (q := 59) rfl
def rX6_go_58b := W_aloadR0 (M := mX6_go) dX6_go_58 (q := 59) rfl
def rX6_go_59 := W_getR (M := mX6_go) dX6_go_59 (q := 62) rfl fl6_15 ⟨_, rfl⟩
def rX6_go_62 := W_getR (M := mX6_go) dX6_go_62 (q := 65) rfl fl6_47 ⟨_, rfl⟩
def rX6_go_65 := W_getA (M := mX6_go) dX6_go_65 (q := 68) rfl fl6_58 ⟨_, rfl⟩
def rX6_go_68 := W_aload0 (M := mX6_go) dX6_go_68 (q := 69) rfl
def rX6_go_68b := W_aloadR0 (M := mX6_go) dX6_go_68 (q := 69) rfl
def rX6_go_69 := W_getI (M := mX6_go) dX6_go_69 (q := 72) rfl fl6_44 (Or.inl rfl)
def rX6_go_72 := W_iload1 (M := mX6_go) dX6_go_72 (q := 73) rfl
def rX6_go_73 := W_iadd (M := mX6_go) dX6_go_73 (q := 74) rfl
def rX6_go_74 := W_iald (M := mX6_go) dX6_go_74 (q := 75) rfl
def rX6_go_75 := W_invV3 (M := mX6_go) dX6_go_75 (q := 78) rfl ml0_6_68 rfl
def rX6_go_78 := W_istore4 (M := mX6_go) dX6_go_78 (q := 80) rfl
def rX6_go_80 := W_iload4 (M := mX6_go) dX6_go_80 (q := 82) rfl
def rX6_go_82 := W_if_ne (M := mX6_go) dX6_go_82 (q := 85) rfl (t := 95) rfl
def rX6_go_85 := W_aload0 (M := mX6_go) dX6_go_85 (q := 86) rfl
def rX6_go_85b := W_aloadR0 (M := mX6_go) dX6_go_85 (q := 86) rfl
def rX6_go_86 := W_iload1 (M := mX6_go) dX6_go_86 (q := 87) rfl
def rX6_go_87 := W_iconst (M := mX6_go) dX6_go_87 (q := 88) rfl (v := (1)) rfl
def rX6_go_88 := W_iadd (M := mX6_go) dX6_go_88 (q := 89) rfl
def rX6_go_89 := W_iload2 (M := mX6_go) dX6_go_89 (q := 90) rfl
def rX6_go_90 := W_iload3 (M := mX6_go) dX6_go_90 (q := 91) rfl
def rX6_go_91 := W_invV3 (M := mX6_go) dX6_go_91 (q := 94) rfl ml0_6_64 rfl
def rX6_go_94 := W_vret (M := mX6_go) dX6_go_94 rfl
def rX6_go_95 := W_aload0 (M := mX6_go) dX6_go_95 (q := 96) rfl
def rX6_go_95b := W_aloadR0 (M := mX6_go) dX6_go_95 (q := 96) rfl
def rX6_go_96 := W_dupI (M := mX6_go) dX6_go_96 (q := 97) rfl
def rX6_go_96b := W_dupR (M := mX6_go) dX6_go_96 (q := 97) rfl
def rX6_go_97 := W_getI (M := mX6_go) dX6_go_97 (q := 100) rfl fl6_41 (Or.inl rfl)
def rX6_go_100 := W_iload4 (M := mX6_go) dX6_go_100 (q := 102) rfl
def rX6_go_102 := W_ior (M := mX6_go) dX6_go_102 (q := 103) rfl
def rX6_go_103 := W_putI (M := mX6_go) dX6_go_103 (q := 106) rfl fl6_41 rfl (Or.inl rfl)
def rX6_go_106 := W_iconst (M := mX6_go) dX6_go_106 (q := 107) rfl (v := (0)) rfl
def rX6_go_107 := W_istore5 (M := mX6_go) dX6_go_107 (q := 109) rfl
def rX6_go_109 := W_iload5 (M := mX6_go) dX6_go_109 (q := 111) rfl
def rX6_go_111 := W_aload0 (M := mX6_go) dX6_go_111 (q := 112) rfl
def rX6_go_111b := W_aloadR0 (M := mX6_go) dX6_go_111 (q := 112) rfl
def rX6_go_112 := W_getR (M := mX6_go) dX6_go_112 (q := 115) rfl fl6_15 ⟨_, rfl⟩
def rX6_go_115 := W_getR (M := mX6_go) dX6_go_115 (q := 118) rfl fl6_47 ⟨_, rfl⟩
def rX6_go_118 := W_getI (M := mX6_go) dX6_go_118 (q := 121) rfl fl6_72 (Or.inl rfl)
def rX6_go_121 := W_icmp_ge (M := mX6_go) dX6_go_121 (q := 124) rfl (t := 164) rfl
def rX6_go_124 := W_iload4 (M := mX6_go) dX6_go_124 (q := 126) rfl
def rX6_go_126 := W_iload5 (M := mX6_go) dX6_go_126 (q := 128) rfl
def rX6_go_128 := W_ishr (M := mX6_go) dX6_go_128 (q := 129) rfl
def rX6_go_129 := W_iconst (M := mX6_go) dX6_go_129 (q := 130) rfl (v := (1)) rfl
def rX6_go_130 := W_iand (M := mX6_go) dX6_go_130 (q := 131) rfl
def rX6_go_131 := W_iconst (M := mX6_go) dX6_go_131 (q := 132) rfl (v := (1)) rfl
def rX6_go_132 := W_icmp_ne (M := mX6_go) dX6_go_132 (q := 135) rfl (t := 158) rfl
def rX6_go_135 := W_aload0 (M := mX6_go) dX6_go_135 (q := 136) rfl
def rX6_go_135b := W_aloadR0 (M := mX6_go) dX6_go_135 (q := 136) rfl
def rX6_go_136 := W_iload1 (M := mX6_go) dX6_go_136 (q := 137) rfl
def rX6_go_137 := W_iconst (M := mX6_go) dX6_go_137 (q := 138) rfl (v := (1)) rfl
def rX6_go_138 := W_iadd (M := mX6_go) dX6_go_138 (q := 139) rfl
def rX6_go_139 := W_iload2 (M := mX6_go) dX6_go_139 (q := 140) rfl
def rX6_go_140 := W_iconst (M := mX6_go) dX6_go_140 (q := 141) rfl (v := (1)) rfl
def rX6_go_141 := W_iload5 (M := mX6_go) dX6_go_141 (q := 143) rfl
def rX6_go_143 := W_ishl (M := mX6_go) dX6_go_143 (q := 144) rfl
def rX6_go_144 := W_ior (M := mX6_go) dX6_go_144 (q := 145) rfl
def rX6_go_145 := W_iload3 (M := mX6_go) dX6_go_145 (q := 146) rfl
def rX6_go_146 := W_iload5 (M := mX6_go) dX6_go_146 (q := 148) rfl
def rX6_go_148 := W_iconst (M := mX6_go) dX6_go_148 (q := 149) rfl (v := (1)) rfl
def rX6_go_149 := W_iadd (M := mX6_go) dX6_go_149 (q := 150) rfl
def rX6_go_150 := W_iconst (M := mX6_go) dX6_go_150 (q := 151) rfl (v := (4)) rfl
def rX6_go_151 := W_iload1 (M := mX6_go) dX6_go_151 (q := 152) rfl
def rX6_go_152 := W_imul (M := mX6_go) dX6_go_152 (q := 153) rfl
def rX6_go_153 := W_ishl (M := mX6_go) dX6_go_153 (q := 154) rfl
def rX6_go_154 := W_ior (M := mX6_go) dX6_go_154 (q := 155) rfl
def rX6_go_155 := W_invV3 (M := mX6_go) dX6_go_155 (q := 158) rfl ml0_6_64 rfl
def rX6_go_158 := W_iinc5 (M := mX6_go) dX6_go_158 (q := 161) rfl (v := (1)) rfl
def rX6_go_161 := W_goto (M := mX6_go) dX6_go_161 (t := 109) rfl
def rX6_go_164 := W_vret (M := mX6_go) dX6_go_164 rfl
-- X6_init
theorem eX6_init {d : Nat} {h : qH} {Q : Option (Option Value) → qH → Prop} {s0 : Nat} {x1 : Nat} : WM d mX6_init [.ref s0, .ref x1] h Q = WP d mX6_init (0, 0) 0 [some (.ref s0), some (.ref x1)] [] h Q := rfl
def rX6_init_0 := W_aload0 (M := mX6_init) dX6_init_0 (q := 1) rfl
def rX6_init_0b := W_aloadR0 (M := mX6_init) dX6_init_0 (q := 1) rfl
def rX6_init_1 := W_objI (M := mX6_init) dX6_init_1 (q := 4) rfl ml10_6_3 ml2n_6_3 ml3n_6_3
def rX6_init_4 := W_aload0 (M := mX6_init) dX6_init_4 (q := 5) rfl
def rX6_init_4b := W_aloadR0 (M := mX6_init) dX6_init_4 (q := 5) rfl
def rX6_init_5 := W_sipush (M := mX6_init) dX6_init_5 (q := 8) rfl (v := (1296)) rfl
def rX6_init_8 := W_newa (M := mX6_init) dX6_init_8 (q := 10) rfl
def rX6_init_10 := W_putA (M := mX6_init) dX6_init_10 (q := 13) rfl fl6_11 ⟨_, rfl⟩ (Or.inr ⟨rfl, rfl, rfl⟩)
def rX6_init_13 := W_aload0 (M := mX6_init) dX6_init_13 (q := 14) rfl
def rX6_init_13b := W_aloadR0 (M := mX6_init) dX6_init_13 (q := 14) rfl
def rX6_init_14 := W_aload1 (M := mX6_init) dX6_init_14 (q := 15) rfl
def rX6_init_14b := W_aloadR1 (M := mX6_init) dX6_init_14 (q := 15) rfl
def rX6_init_15 := W_putR (M := mX6_init) dX6_init_15 (q := 18) rfl fl6_15 ⟨_, rfl⟩ (Or.inr ⟨rfl, rfl, rfl⟩)
def rX6_init_18 := W_vret (M := mX6_init) dX6_init_18 rfl
-- X6_make
theorem eX6_make {d : Nat} {h : qH} {Q : Option (Option Value) → qH → Prop} {s0 : Nat} {x1 : Nat} : WM d mX6_make [.ref s0, .ref x1] h Q = WP d mX6_make (0, 0) 0 [some (.ref s0), some (.ref x1)] [] h Q := rfl
def rX6_make_0 := W_aload0 (M := mX6_make) dX6_make_0 (q := 1) rfl
def rX6_make_0b := W_aloadR0 (M := mX6_make) dX6_make_0 (q := 1) rfl
def rX6_make_1 := W_getI (M := mX6_make) dX6_make_1 (q := 4) rfl fl6_19 (Or.inr rfl)
def rX6_make_4 := W_if_eq (M := mX6_make) dX6_make_4 (q := 7) rfl (t := 41) rfl
def rX6_make_7 := W_aload0 (M := mX6_make) dX6_make_7 (q := 8) rfl
def rX6_make_7b := W_aloadR0 (M := mX6_make) dX6_make_7 (q := 8) rfl
def rX6_make_8 := W_getI (M := mX6_make) dX6_make_8 (q := 11) rfl fl6_23 (Or.inl rfl)
def rX6_make_11 := W_aload1 (M := mX6_make) dX6_make_11 (q := 12) rfl
def rX6_make_11b := W_aloadR1 (M := mX6_make) dX6_make_11 (q := 12) rfl
def rX6_make_12 := W_getI (M := mX6_make) dX6_make_12 (q := 15) rfl fl6_27 (Or.inl rfl)
def rX6_make_15 := W_icmp_ne (M := mX6_make) dX6_make_15 (q := 18) rfl (t := 41) rfl
def rX6_make_18 := W_aload0 (M := mX6_make) dX6_make_18 (q := 19) rfl
def rX6_make_18b := W_aloadR0 (M := mX6_make) dX6_make_18 (q := 19) rfl
def rX6_make_19 := W_getI (M := mX6_make) dX6_make_19 (q := 22) rfl fl6_30 (Or.inl rfl)
def rX6_make_22 := W_aload1 (M := mX6_make) dX6_make_22 (q := 23) rfl
def rX6_make_22b := W_aloadR1 (M := mX6_make) dX6_make_22 (q := 23) rfl
def rX6_make_23 := W_getI (M := mX6_make) dX6_make_23 (q := 26) rfl fl6_33 (Or.inl rfl)
def rX6_make_26 := W_icmp_ne (M := mX6_make) dX6_make_26 (q := 29) rfl (t := 41) rfl
def rX6_make_29 := W_aload0 (M := mX6_make) dX6_make_29 (q := 30) rfl
def rX6_make_29b := W_aloadR0 (M := mX6_make) dX6_make_29 (q := 30) rfl
def rX6_make_30 := W_getI (M := mX6_make) dX6_make_30 (q := 33) rfl fl6_34 (Or.inl rfl)
def rX6_make_33 := W_aload1 (M := mX6_make) dX6_make_33 (q := 34) rfl
def rX6_make_33b := W_aloadR1 (M := mX6_make) dX6_make_33 (q := 34) rfl
def rX6_make_34 := W_getI (M := mX6_make) dX6_make_34 (q := 37) rfl fl6_37 (Or.inl rfl)
def rX6_make_37 := W_icmp_ne (M := mX6_make) dX6_make_37 (q := 40) rfl (t := 41) rfl
def rX6_make_40 := W_vret (M := mX6_make) dX6_make_40 rfl
def rX6_make_41 := W_aload0 (M := mX6_make) dX6_make_41 (q := 42) rfl
def rX6_make_41b := W_aloadR0 (M := mX6_make) dX6_make_41 (q := 42) rfl
def rX6_make_42 := W_iconst (M := mX6_make) dX6_make_42 (q := 43) rfl (v := (1)) rfl
def rX6_make_43 := W_putZ (M := mX6_make) dX6_make_43 (q := 46) rfl fl6_19 rfl (Or.inl rfl)
def rX6_make_46 := W_aload0 (M := mX6_make) dX6_make_46 (q := 47) rfl
def rX6_make_46b := W_aloadR0 (M := mX6_make) dX6_make_46 (q := 47) rfl
def rX6_make_47 := W_aload1 (M := mX6_make) dX6_make_47 (q := 48) rfl
def rX6_make_47b := W_aloadR1 (M := mX6_make) dX6_make_47 (q := 48) rfl
def rX6_make_48 := W_getI (M := mX6_make) dX6_make_48 (q := 51) rfl fl6_27 (Or.inl rfl)
def rX6_make_51 := W_putI (M := mX6_make) dX6_make_51 (q := 54) rfl fl6_23 rfl (Or.inl rfl)
def rX6_make_54 := W_aload0 (M := mX6_make) dX6_make_54 (q := 55) rfl
def rX6_make_54b := W_aloadR0 (M := mX6_make) dX6_make_54 (q := 55) rfl
def rX6_make_55 := W_aload1 (M := mX6_make) dX6_make_55 (q := 56) rfl
def rX6_make_55b := W_aloadR1 (M := mX6_make) dX6_make_55 (q := 56) rfl
def rX6_make_56 := W_getI (M := mX6_make) dX6_make_56 (q := 59) rfl fl6_33 (Or.inl rfl)
def rX6_make_59 := W_putI (M := mX6_make) dX6_make_59 (q := 62) rfl fl6_30 rfl (Or.inl rfl)
def rX6_make_62 := W_aload0 (M := mX6_make) dX6_make_62 (q := 63) rfl
def rX6_make_62b := W_aloadR0 (M := mX6_make) dX6_make_62 (q := 63) rfl
def rX6_make_63 := W_aload1 (M := mX6_make) dX6_make_63 (q := 64) rfl
def rX6_make_63b := W_aloadR1 (M := mX6_make) dX6_make_63 (q := 64) rfl
def rX6_make_64 := W_getI (M := mX6_make) dX6_make_64 (q := 67) rfl fl6_37 (Or.inl rfl)
def rX6_make_67 := W_putI (M := mX6_make) dX6_make_67 (q := 70) rfl fl6_34 rfl (Or.inl rfl)
def rX6_make_70 := W_aload0 (M := mX6_make) dX6_make_70 (q := 71) rfl
def rX6_make_70b := W_aloadR0 (M := mX6_make) dX6_make_70 (q := 71) rfl
def rX6_make_71 := W_iconst (M := mX6_make) dX6_make_71 (q := 72) rfl (v := (0)) rfl
def rX6_make_72 := W_putI (M := mX6_make) dX6_make_72 (q := 75) rfl fl6_38 rfl (Or.inl rfl)
def rX6_make_75 := W_aload0 (M := mX6_make) dX6_make_75 (q := 76) rfl
def rX6_make_75b := W_aloadR0 (M := mX6_make) dX6_make_75 (q := 76) rfl
def rX6_make_76 := W_iconst (M := mX6_make) dX6_make_76 (q := 77) rfl (v := (0)) rfl
def rX6_make_77 := W_putI (M := mX6_make) dX6_make_77 (q := 80) rfl fl6_41 rfl (Or.inl rfl)
def rX6_make_80 := W_aload0 (M := mX6_make) dX6_make_80 (q := 81) rfl
def rX6_make_80b := W_aloadR0 (M := mX6_make) dX6_make_80 (q := 81) rfl
def rX6_make_81 := W_iconst (M := mX6_make) dX6_make_81 (q := 82) rfl (v := (0)) rfl
def rX6_make_82 := W_putI (M := mX6_make) dX6_make_82 (q := 85) rfl fl6_44 rfl (Or.inl rfl)
def rX6_make_85 := W_aload0 (M := mX6_make) dX6_make_85 (q := 86) rfl
def rX6_make_85b := W_aloadR0 (M := mX6_make) dX6_make_85 (q := 86) rfl
def rX6_make_86 := W_getI (M := mX6_make) dX6_make_86 (q := 89) rfl fl6_44 (Or.inl rfl)
def rX6_make_89 := W_aload0 (M := mX6_make) dX6_make_89 (q := 90) rfl
def rX6_make_89b := W_aloadR0 (M := mX6_make) dX6_make_89 (q := 90) rfl
def rX6_make_90 := W_getR (M := mX6_make) dX6_make_90 (q := 93) rfl fl6_15 ⟨_, rfl⟩
def rX6_make_93 := W_getR (M := mX6_make) dX6_make_93 (q := 96) rfl fl6_47 ⟨_, rfl⟩
def rX6_make_96 := W_getI (M := mX6_make) dX6_make_96 (q := 99) rfl fl6_53 (Or.inl rfl)
def rX6_make_99 := W_icmp_ge (M := mX6_make) dX6_make_99 (q := 102) rfl (t := 137) rfl
def rX6_make_102 := W_aload0 (M := mX6_make) dX6_make_102 (q := 103) rfl
def rX6_make_102b := W_aloadR0 (M := mX6_make) dX6_make_102 (q := 103) rfl
def rX6_make_103 := W_getR (M := mX6_make) dX6_make_103 (q := 106) rfl fl6_15 ⟨_, rfl⟩
def rX6_make_106 := W_getR (M := mX6_make) dX6_make_106 (q := 109) rfl fl6_47 ⟨_, rfl⟩
def rX6_make_109 := W_getA (M := mX6_make) dX6_make_109 (q := 112) rfl fl6_58 ⟨_, rfl⟩
def rX6_make_112 := W_aload0 (M := mX6_make) dX6_make_112 (q := 113) rfl
def rX6_make_112b := W_aloadR0 (M := mX6_make) dX6_make_112 (q := 113) rfl
def rX6_make_113 := W_getI (M := mX6_make) dX6_make_113 (q := 116) rfl fl6_44 (Or.inl rfl)
def rX6_make_116 := W_iald (M := mX6_make) dX6_make_116 (q := 117) rfl
def rX6_make_117 := W_aload0 (M := mX6_make) dX6_make_117 (q := 118) rfl
def rX6_make_117b := W_aloadR0 (M := mX6_make) dX6_make_117 (q := 118) rfl
def rX6_make_118 := W_getI (M := mX6_make) dX6_make_118 (q := 121) rfl fl6_23 (Or.inl rfl)
def rX6_make_121 := W_icmp_ge (M := mX6_make) dX6_make_121 (q := 124) rfl (t := 137) rfl
def rX6_make_124 := W_aload0 (M := mX6_make) dX6_make_124 (q := 125) rfl
def rX6_make_124b := W_aloadR0 (M := mX6_make) dX6_make_124 (q := 125) rfl
def rX6_make_125 := W_dupI (M := mX6_make) dX6_make_125 (q := 126) rfl
def rX6_make_125b := W_dupR (M := mX6_make) dX6_make_125 (q := 126) rfl
def rX6_make_126 := W_getI (M := mX6_make) dX6_make_126 (q := 129) rfl fl6_44 (Or.inl rfl)
def rX6_make_129 := W_iconst (M := mX6_make) dX6_make_129 (q := 130) rfl (v := (1)) rfl
def rX6_make_130 := W_iadd (M := mX6_make) dX6_make_130 (q := 131) rfl
def rX6_make_131 := W_putI (M := mX6_make) dX6_make_131 (q := 134) rfl fl6_44 rfl (Or.inl rfl)
def rX6_make_134 := W_goto (M := mX6_make) dX6_make_134 (t := 85) rfl
def rX6_make_137 := W_aload0 (M := mX6_make) dX6_make_137 (q := 138) rfl
def rX6_make_137b := W_aloadR0 (M := mX6_make) dX6_make_137 (q := 138) rfl
def rX6_make_138 := W_aload0 (M := mX6_make) dX6_make_138 (q := 139) rfl
def rX6_make_138b := W_aloadR0 (M := mX6_make) dX6_make_138 (q := 139) rfl
def rX6_make_139 := W_getR (M := mX6_make) dX6_make_139 (q := 142) rfl fl6_15 ⟨_, rfl⟩
def rX6_make_142 := W_getR (M := mX6_make) dX6_make_142 (q := 145) rfl fl6_47 ⟨_, rfl⟩
def rX6_make_145 := W_getI (M := mX6_make) dX6_make_145 (q := 148) rfl fl6_53 (Or.inl rfl)
def rX6_make_148 := W_aload0 (M := mX6_make) dX6_make_148 (q := 149) rfl
def rX6_make_148b := W_aloadR0 (M := mX6_make) dX6_make_148 (q := 149) rfl
def rX6_make_149 := W_getI (M := mX6_make) dX6_make_149 (q := 152) rfl fl6_44 (Or.inl rfl)
def rX6_make_152 := W_isub (M := mX6_make) dX6_make_152 (q := 153) rfl
def rX6_make_153 := W_putI (M := mX6_make) dX6_make_153 (q := 156) rfl fl6_61 rfl (Or.inl rfl)
def rX6_make_156 := W_aload0 (M := mX6_make) dX6_make_156 (q := 157) rfl
def rX6_make_156b := W_aloadR0 (M := mX6_make) dX6_make_156 (q := 157) rfl
def rX6_make_157 := W_iconst (M := mX6_make) dX6_make_157 (q := 158) rfl (v := (0)) rfl
def rX6_make_158 := W_aload0 (M := mX6_make) dX6_make_158 (q := 159) rfl
def rX6_make_158b := W_aloadR0 (M := mX6_make) dX6_make_158 (q := 159) rfl
def rX6_make_159 := W_getI (M := mX6_make) dX6_make_159 (q := 162) rfl fl6_30 (Or.inl rfl)
def rX6_make_162 := W_iconst (M := mX6_make) dX6_make_162 (q := 163) rfl (v := (0)) rfl
def rX6_make_163 := W_invV3 (M := mX6_make) dX6_make_163 (q := 166) rfl ml0_6_64 rfl
def rX6_make_166 := W_vret (M := mX6_make) dX6_make_166 rfl
-- X6_ringOf
theorem eX6_ringOf {d : Nat} {h : qH} {Q : Option (Option Value) → qH → Prop} {s0 : Nat} {x1 : Int32} {x2 : Int32} : WM d mX6_ringOf [.ref s0, .int x1, .int x2] h Q = WP d mX6_ringOf (0, 0) 0 [some (.ref s0), some (.int x1), some (.int x2), none] [] h Q := rfl
def rX6_ringOf_0 := W_aload0 (M := mX6_ringOf) dX6_ringOf_0 (q := 1) rfl
def rX6_ringOf_0b := W_aloadR0 (M := mX6_ringOf) dX6_ringOf_0 (q := 1) rfl
def rX6_ringOf_1 := W_getA (M := mX6_ringOf) dX6_ringOf_1 (q := 4) rfl fl6_11 ⟨_, rfl⟩
def rX6_ringOf_4 := W_iload1 (M := mX6_ringOf) dX6_ringOf_4 (q := 5) rfl
def rX6_ringOf_5 := W_iald (M := mX6_ringOf) dX6_ringOf_5 (q := 6) rfl
def rX6_ringOf_6 := W_iconst (M := mX6_ringOf) dX6_ringOf_6 (q := 7) rfl (v := (4)) rfl
def rX6_ringOf_7 := W_iload2 (M := mX6_ringOf) dX6_ringOf_7 (q := 8) rfl
def rX6_ringOf_8 := W_imul (M := mX6_ringOf) dX6_ringOf_8 (q := 9) rfl
def rX6_ringOf_9 := W_ishr (M := mX6_ringOf) dX6_ringOf_9 (q := 10) rfl
def rX6_ringOf_10 := W_bipush (M := mX6_ringOf) dX6_ringOf_10 (q := 12) rfl (v := (15)) rfl
def rX6_ringOf_12 := W_iand (M := mX6_ringOf) dX6_ringOf_12 (q := 13) rfl
def rX6_ringOf_13 := W_istore3 (M := mX6_ringOf) dX6_ringOf_13 (q := 14) rfl
def rX6_ringOf_14 := W_iload3 (M := mX6_ringOf) dX6_ringOf_14 (q := 15) rfl
def rX6_ringOf_15 := W_if_ne (M := mX6_ringOf) dX6_ringOf_15 (q := 18) rfl (t := 23) rfl
def rX6_ringOf_18 := W_bipush (M := mX6_ringOf) dX6_ringOf_18 (q := 20) rfl (v := (-2)) rfl
def rX6_ringOf_20 := W_goto (M := mX6_ringOf) dX6_ringOf_20 (t := 26) rfl
def rX6_ringOf_23 := W_iload3 (M := mX6_ringOf) dX6_ringOf_23 (q := 24) rfl
def rX6_ringOf_24 := W_iconst (M := mX6_ringOf) dX6_ringOf_24 (q := 25) rfl (v := (1)) rfl
def rX6_ringOf_25 := W_isub (M := mX6_ringOf) dX6_ringOf_25 (q := 26) rfl
def rX6_ringOf_26 := W_iret (M := mX6_ringOf) dX6_ringOf_26 rfl
-- X7_agrees
theorem eX7_agrees {d : Nat} {h : qH} {Q : Option (Option Value) → qH → Prop} {s0 : Nat} {x1 : Int32} : WM d mX7_agrees [.ref s0, .int x1] h Q = WP d mX7_agrees (0, 0) 0 [some (.ref s0), some (.int x1)] [] h Q := rfl
def rX7_agrees_0 := W_aload0 (M := mX7_agrees) dX7_agrees_0 (q := 1) rfl
def rX7_agrees_0b := W_aloadR0 (M := mX7_agrees) dX7_agrees_0 (q := 1) rfl
def rX7_agrees_1 := W_invV0 (M := mX7_agrees) dX7_agrees_1 (q := 4) rfl ml0_7_151 rfl
def rX7_agrees_4 := W_if_ne (M := mX7_agrees) dX7_agrees_4 (q := 7) rfl (t := 24) rfl
def rX7_agrees_7 := W_aload0 (M := mX7_agrees) dX7_agrees_7 (q := 8) rfl
def rX7_agrees_7b := W_aloadR0 (M := mX7_agrees) dX7_agrees_7 (q := 8) rfl
def rX7_agrees_8 := W_iload1 (M := mX7_agrees) dX7_agrees_8 (q := 9) rfl
def rX7_agrees_9 := W_aload0 (M := mX7_agrees) dX7_agrees_9 (q := 10) rfl
def rX7_agrees_9b := W_aloadR0 (M := mX7_agrees) dX7_agrees_9 (q := 10) rfl
def rX7_agrees_10 := W_getR (M := mX7_agrees) dX7_agrees_10 (q := 13) rfl fl7_38 ⟨_, rfl⟩
def rX7_agrees_13 := W_getI (M := mX7_agrees) dX7_agrees_13 (q := 16) rfl fl7_166 (Or.inl rfl)
def rX7_agrees_16 := W_bipush (M := mX7_agrees) dX7_agrees_16 (q := 18) rfl (v := (90)) rfl
def rX7_agrees_18 := W_invV3 (M := mX7_agrees) dX7_agrees_18 (q := 21) rfl ml0_7_75 rfl
def rX7_agrees_21 := W_if_eq (M := mX7_agrees) dX7_agrees_21 (q := 24) rfl (t := 26) rfl
def rX7_agrees_24 := W_iconst (M := mX7_agrees) dX7_agrees_24 (q := 25) rfl (v := (-1)) rfl
def rX7_agrees_25 := W_iret (M := mX7_agrees) dX7_agrees_25 rfl
def rX7_agrees_26 := W_aload0 (M := mX7_agrees) dX7_agrees_26 (q := 27) rfl
def rX7_agrees_26b := W_aloadR0 (M := mX7_agrees) dX7_agrees_26 (q := 27) rfl
def rX7_agrees_27 := W_getR (M := mX7_agrees) dX7_agrees_27 (q := 30) rfl fl7_47 ⟨_, rfl⟩
def rX7_agrees_30 := W_aload0 (M := mX7_agrees) dX7_agrees_30 (q := 31) rfl
def rX7_agrees_30b := W_aloadR0 (M := mX7_agrees) dX7_agrees_30 (q := 31) rfl
def rX7_agrees_31 := W_getR (M := mX7_agrees) dX7_agrees_31 (q := 34) rfl fl7_38 ⟨_, rfl⟩
def rX7_agrees_34 := W_getI (M := mX7_agrees) dX7_agrees_34 (q := 37) rfl fl7_121 (Or.inl rfl)
def rX7_agrees_37 := W_aload0 (M := mX7_agrees) dX7_agrees_37 (q := 38) rfl
def rX7_agrees_37b := W_aloadR0 (M := mX7_agrees) dX7_agrees_37 (q := 38) rfl
def rX7_agrees_38 := W_getR (M := mX7_agrees) dX7_agrees_38 (q := 41) rfl fl7_38 ⟨_, rfl⟩
def rX7_agrees_41 := W_getI (M := mX7_agrees) dX7_agrees_41 (q := 44) rfl fl7_134 (Or.inl rfl)
def rX7_agrees_44 := W_iload1 (M := mX7_agrees) dX7_agrees_44 (q := 45) rfl
def rX7_agrees_45 := W_invV3 (M := mX7_agrees) dX7_agrees_45 (q := 48) rfl ml0_7_169 rfl
def rX7_agrees_48 := W_iret (M := mX7_agrees) dX7_agrees_48 rfl
-- X7_back
theorem eX7_back {d : Nat} {h : qH} {Q : Option (Option Value) → qH → Prop} {s0 : Nat} {x1 : Int32} : WM d mX7_back [.ref s0, .int x1] h Q = WP d mX7_back (0, 0) 0 [some (.ref s0), some (.int x1), none] [] h Q := rfl
def rX7_back_0 := W_aload0 (M := mX7_back) dX7_back_0 (q := 1) rfl
def rX7_back_0b := W_aloadR0 (M := mX7_back) dX7_back_0 (q := 1) rfl
def rX7_back_1 := W_getR (M := mX7_back) dX7_back_1 (q := 4) rfl fl7_38 ⟨_, rfl⟩
def rX7_back_4 := W_iload1 (M := mX7_back) dX7_back_4 (q := 5) rfl
def rX7_back_5 := W_invV1 (M := mX7_back) dX7_back_5 (q := 8) rfl ml0_7_279 rfl
def rX7_back_8 := W_istore2 (M := mX7_back) dX7_back_8 (q := 9) rfl
def rX7_back_9 := W_aload0 (M := mX7_back) dX7_back_9 (q := 10) rfl
def rX7_back_9b := W_aloadR0 (M := mX7_back) dX7_back_9 (q := 10) rfl
def rX7_back_10 := W_iload2 (M := mX7_back) dX7_back_10 (q := 11) rfl
def rX7_back_11 := W_if_eq (M := mX7_back) dX7_back_11 (q := 14) rfl (t := 18) rfl
def rX7_back_14 := W_iconst (M := mX7_back) dX7_back_14 (q := 15) rfl (v := (0)) rfl
def rX7_back_15 := W_goto (M := mX7_back) dX7_back_15 (t := 19) rfl
def rX7_back_18 := W_iconst (M := mX7_back) dX7_back_18 (q := 19) rfl (v := (1)) rfl
def rX7_back_19 := W_putI (M := mX7_back) dX7_back_19 (q := 22) rfl fl7_107 rfl (Or.inl rfl)
def rX7_back_22 := W_iload2 (M := mX7_back) dX7_back_22 (q := 23) rfl
def rX7_back_23 := W_zret (M := mX7_back) dX7_back_23 rfl
-- X7_bestCut
theorem eX7_bestCut {d : Nat} {h : qH} {Q : Option (Option Value) → qH → Prop} {s0 : Nat} : WM d mX7_bestCut [.ref s0] h Q = WP d mX7_bestCut (0, 0) 0 [some (.ref s0), none, none, none, none] [] h Q := rfl
def rX7_bestCut_0 := W_aload0 (M := mX7_bestCut) dX7_bestCut_0 (q := 1) rfl
def rX7_bestCut_0b := W_aloadR0 (M := mX7_bestCut) dX7_bestCut_0 (q := 1) rfl
def rX7_bestCut_1 := W_invV0 (M := mX7_bestCut) dX7_bestCut_1 (q := 4) rfl ml0_7_151 rfl
def rX7_bestCut_4 := W_if_eq (M := mX7_bestCut) dX7_bestCut_4 (q := 7) rfl (t := 9) rfl
def rX7_bestCut_7 := W_iconst (M := mX7_bestCut) dX7_bestCut_7 (q := 8) rfl (v := (-1)) rfl
def rX7_bestCut_8 := W_iret (M := mX7_bestCut) dX7_bestCut_8 rfl
def rX7_bestCut_9 := W_bipush (M := mX7_bestCut) dX7_bestCut_9 (q := 11) rfl (v := (-2)) rfl
def rX7_bestCut_11 := W_istore1 (M := mX7_bestCut) dX7_bestCut_11 (q := 12) rfl
def rX7_bestCut_12 := W_aload0 (M := mX7_bestCut) dX7_bestCut_12 (q := 13) rfl
def rX7_bestCut_12b := W_aloadR0 (M := mX7_bestCut) dX7_bestCut_12 (q := 13) rfl
def rX7_bestCut_13 := W_aload0 (M := mX7_bestCut) dX7_bestCut_13 (q := 14) rfl
def rX7_bestCut_13b := W_aloadR0 (M := mX7_bestCut) dX7_bestCut_13 (q := 14) rfl
def rX7_bestCut_14 := W_getR (M := mX7_bestCut) dX7_bestCut_14 (q := 17) rfl fl7_38 ⟨_, rfl⟩
def rX7_bestCut_17 := W_getI (M := mX7_bestCut) dX7_bestCut_17 (q := 20) rfl fl7_121 (Or.inl rfl)
def rX7_bestCut_20 := W_invV1 (M := mX7_bestCut) dX7_bestCut_20 (q := 23) rfl ml0_7_175 rfl
def rX7_bestCut_23 := W_istore2 (M := mX7_bestCut) dX7_bestCut_23 (q := 24) rfl
def rX7_bestCut_24 := W_iconst (M := mX7_bestCut) dX7_bestCut_24 (q := 25) rfl (v := (0)) rfl
def rX7_bestCut_25 := W_istore3 (M := mX7_bestCut) dX7_bestCut_25 (q := 26) rfl
def rX7_bestCut_26 := W_iload3 (M := mX7_bestCut) dX7_bestCut_26 (q := 27) rfl
def rX7_bestCut_27 := W_aload0 (M := mX7_bestCut) dX7_bestCut_27 (q := 28) rfl
def rX7_bestCut_27b := W_aloadR0 (M := mX7_bestCut) dX7_bestCut_27 (q := 28) rfl
def rX7_bestCut_28 := W_getR (M := mX7_bestCut) dX7_bestCut_28 (q := 31) rfl fl7_10 ⟨_, rfl⟩
def rX7_bestCut_31 := W_getI (M := mX7_bestCut) dX7_bestCut_31 (q := 34) rfl fl7_205 (Or.inl rfl)
def rX7_bestCut_34 := W_icmp_ge (M := mX7_bestCut) dX7_bestCut_34 (q := 37) rfl (t := 71) rfl
def rX7_bestCut_37 := W_aload0 (M := mX7_bestCut) dX7_bestCut_37 (q := 38) rfl
def rX7_bestCut_37b := W_aloadR0 (M := mX7_bestCut) dX7_bestCut_37 (q := 38) rfl
def rX7_bestCut_38 := W_getR (M := mX7_bestCut) dX7_bestCut_38 (q := 41) rfl fl7_47 ⟨_, rfl⟩
def rX7_bestCut_41 := W_aload0 (M := mX7_bestCut) dX7_bestCut_41 (q := 42) rfl
def rX7_bestCut_41b := W_aloadR0 (M := mX7_bestCut) dX7_bestCut_41 (q := 42) rfl
def rX7_bestCut_42 := W_getR (M := mX7_bestCut) dX7_bestCut_42 (q := 45) rfl fl7_38 ⟨_, rfl⟩
def rX7_bestCut_45 := W_getI (M := mX7_bestCut) dX7_bestCut_45 (q := 48) rfl fl7_121 (Or.inl rfl)
def rX7_bestCut_48 := W_iload3 (M := mX7_bestCut) dX7_bestCut_48 (q := 49) rfl
def rX7_bestCut_49 := W_invV2 (M := mX7_bestCut) dX7_bestCut_49 (q := 52) rfl ml0_7_208 rfl
def rX7_bestCut_52 := W_istore4 (M := mX7_bestCut) dX7_bestCut_52 (q := 54) rfl
def rX7_bestCut_54 := W_iload4 (M := mX7_bestCut) dX7_bestCut_54 (q := 56) rfl
def rX7_bestCut_56 := W_iload2 (M := mX7_bestCut) dX7_bestCut_56 (q := 57) rfl
def rX7_bestCut_57 := W_icmp_ge (M := mX7_bestCut) dX7_bestCut_57 (q := 60) rfl (t := 65) rfl
def rX7_bestCut_60 := W_iload4 (M := mX7_bestCut) dX7_bestCut_60 (q := 62) rfl
def rX7_bestCut_62 := W_istore2 (M := mX7_bestCut) dX7_bestCut_62 (q := 63) rfl
def rX7_bestCut_63 := W_iload3 (M := mX7_bestCut) dX7_bestCut_63 (q := 64) rfl
def rX7_bestCut_64 := W_istore1 (M := mX7_bestCut) dX7_bestCut_64 (q := 65) rfl
def rX7_bestCut_65 := W_iinc3 (M := mX7_bestCut) dX7_bestCut_65 (q := 68) rfl (v := (1)) rfl
def rX7_bestCut_68 := W_goto (M := mX7_bestCut) dX7_bestCut_68 (t := 26) rfl
def rX7_bestCut_71 := W_iload1 (M := mX7_bestCut) dX7_bestCut_71 (q := 72) rfl
def rX7_bestCut_72 := W_iret (M := mX7_bestCut) dX7_bestCut_72 rfl
-- X7_bestTold
theorem eX7_bestTold {d : Nat} {h : qH} {Q : Option (Option Value) → qH → Prop} {s0 : Nat} : WM d mX7_bestTold [.ref s0] h Q = WP d mX7_bestTold (0, 0) 0 [some (.ref s0), none, none, none, none] [] h Q := rfl
def rX7_bestTold_0 := W_aload0 (M := mX7_bestTold) dX7_bestTold_0 (q := 1) rfl
def rX7_bestTold_0b := W_aloadR0 (M := mX7_bestTold) dX7_bestTold_0 (q := 1) rfl
def rX7_bestTold_1 := W_invV0 (M := mX7_bestTold) dX7_bestTold_1 (q := 4) rfl ml0_7_151 rfl
def rX7_bestTold_4 := W_if_eq (M := mX7_bestTold) dX7_bestTold_4 (q := 7) rfl (t := 9) rfl
def rX7_bestTold_7 := W_iconst (M := mX7_bestTold) dX7_bestTold_7 (q := 8) rfl (v := (-1)) rfl
def rX7_bestTold_8 := W_iret (M := mX7_bestTold) dX7_bestTold_8 rfl
def rX7_bestTold_9 := W_bipush (M := mX7_bestTold) dX7_bestTold_9 (q := 11) rfl (v := (-2)) rfl
def rX7_bestTold_11 := W_istore1 (M := mX7_bestTold) dX7_bestTold_11 (q := 12) rfl
def rX7_bestTold_12 := W_aload0 (M := mX7_bestTold) dX7_bestTold_12 (q := 13) rfl
def rX7_bestTold_12b := W_aloadR0 (M := mX7_bestTold) dX7_bestTold_12 (q := 13) rfl
def rX7_bestTold_13 := W_aload0 (M := mX7_bestTold) dX7_bestTold_13 (q := 14) rfl
def rX7_bestTold_13b := W_aloadR0 (M := mX7_bestTold) dX7_bestTold_13 (q := 14) rfl
def rX7_bestTold_14 := W_getR (M := mX7_bestTold) dX7_bestTold_14 (q := 17) rfl fl7_38 ⟨_, rfl⟩
def rX7_bestTold_17 := W_getI (M := mX7_bestTold) dX7_bestTold_17 (q := 20) rfl fl7_121 (Or.inl rfl)
def rX7_bestTold_20 := W_invV1 (M := mX7_bestTold) dX7_bestTold_20 (q := 23) rfl ml0_7_175 rfl
def rX7_bestTold_23 := W_istore2 (M := mX7_bestTold) dX7_bestTold_23 (q := 24) rfl
def rX7_bestTold_24 := W_iconst (M := mX7_bestTold) dX7_bestTold_24 (q := 25) rfl (v := (0)) rfl
def rX7_bestTold_25 := W_istore3 (M := mX7_bestTold) dX7_bestTold_25 (q := 26) rfl
def rX7_bestTold_26 := W_iload3 (M := mX7_bestTold) dX7_bestTold_26 (q := 27) rfl
def rX7_bestTold_27 := W_aload0 (M := mX7_bestTold) dX7_bestTold_27 (q := 28) rfl
def rX7_bestTold_27b := W_aloadR0 (M := mX7_bestTold) dX7_bestTold_27 (q := 28) rfl
def rX7_bestTold_28 := W_getR (M := mX7_bestTold) dX7_bestTold_28 (q := 31) rfl fl7_10 ⟨_, rfl⟩
def rX7_bestTold_31 := W_getI (M := mX7_bestTold) dX7_bestTold_31 (q := 34) rfl fl7_104 (Or.inl rfl)
def rX7_bestTold_34 := W_icmp_ge (M := mX7_bestTold) dX7_bestTold_34 (q := 37) rfl (t := 96) rfl
def rX7_bestTold_37 := W_aload0 (M := mX7_bestTold) dX7_bestTold_37 (q := 38) rfl
def rX7_bestTold_37b := W_aloadR0 (M := mX7_bestTold) dX7_bestTold_37 (q := 38) rfl
def rX7_bestTold_38 := W_getR (M := mX7_bestTold) dX7_bestTold_38 (q := 41) rfl fl7_47 ⟨_, rfl⟩
def rX7_bestTold_41 := W_aload0 (M := mX7_bestTold) dX7_bestTold_41 (q := 42) rfl
def rX7_bestTold_41b := W_aloadR0 (M := mX7_bestTold) dX7_bestTold_41 (q := 42) rfl
def rX7_bestTold_42 := W_getR (M := mX7_bestTold) dX7_bestTold_42 (q := 45) rfl fl7_38 ⟨_, rfl⟩
def rX7_bestTold_45 := W_getI (M := mX7_bestTold) dX7_bestTold_45 (q := 48) rfl fl7_121 (Or.inl rfl)
def rX7_bestTold_48 := W_iload3 (M := mX7_bestTold) dX7_bestTold_48 (q := 49) rfl
def rX7_bestTold_49 := W_invV2 (M := mX7_bestTold) dX7_bestTold_49 (q := 52) rfl ml0_7_142 rfl
def rX7_bestTold_52 := W_aload0 (M := mX7_bestTold) dX7_bestTold_52 (q := 53) rfl
def rX7_bestTold_52b := W_aloadR0 (M := mX7_bestTold) dX7_bestTold_52 (q := 53) rfl
def rX7_bestTold_53 := W_getR (M := mX7_bestTold) dX7_bestTold_53 (q := 56) rfl fl7_38 ⟨_, rfl⟩
def rX7_bestTold_56 := W_getI (M := mX7_bestTold) dX7_bestTold_56 (q := 59) rfl fl7_166 (Or.inl rfl)
def rX7_bestTold_59 := W_icmp_le (M := mX7_bestTold) dX7_bestTold_59 (q := 62) rfl (t := 90) rfl
def rX7_bestTold_62 := W_aload0 (M := mX7_bestTold) dX7_bestTold_62 (q := 63) rfl
def rX7_bestTold_62b := W_aloadR0 (M := mX7_bestTold) dX7_bestTold_62 (q := 63) rfl
def rX7_bestTold_63 := W_aload0 (M := mX7_bestTold) dX7_bestTold_63 (q := 64) rfl
def rX7_bestTold_63b := W_aloadR0 (M := mX7_bestTold) dX7_bestTold_63 (q := 64) rfl
def rX7_bestTold_64 := W_getR (M := mX7_bestTold) dX7_bestTold_64 (q := 67) rfl fl7_38 ⟨_, rfl⟩
def rX7_bestTold_67 := W_getI (M := mX7_bestTold) dX7_bestTold_67 (q := 70) rfl fl7_121 (Or.inl rfl)
def rX7_bestTold_70 := W_iconst (M := mX7_bestTold) dX7_bestTold_70 (q := 71) rfl (v := (1)) rfl
def rX7_bestTold_71 := W_iload3 (M := mX7_bestTold) dX7_bestTold_71 (q := 72) rfl
def rX7_bestTold_72 := W_ishl (M := mX7_bestTold) dX7_bestTold_72 (q := 73) rfl
def rX7_bestTold_73 := W_ior (M := mX7_bestTold) dX7_bestTold_73 (q := 74) rfl
def rX7_bestTold_74 := W_invV1 (M := mX7_bestTold) dX7_bestTold_74 (q := 77) rfl ml0_7_175 rfl
def rX7_bestTold_77 := W_istore4 (M := mX7_bestTold) dX7_bestTold_77 (q := 79) rfl
def rX7_bestTold_79 := W_iload4 (M := mX7_bestTold) dX7_bestTold_79 (q := 81) rfl
def rX7_bestTold_81 := W_iload2 (M := mX7_bestTold) dX7_bestTold_81 (q := 82) rfl
def rX7_bestTold_82 := W_icmp_ge (M := mX7_bestTold) dX7_bestTold_82 (q := 85) rfl (t := 90) rfl
def rX7_bestTold_85 := W_iload4 (M := mX7_bestTold) dX7_bestTold_85 (q := 87) rfl
def rX7_bestTold_87 := W_istore2 (M := mX7_bestTold) dX7_bestTold_87 (q := 88) rfl
def rX7_bestTold_88 := W_iload3 (M := mX7_bestTold) dX7_bestTold_88 (q := 89) rfl
def rX7_bestTold_89 := W_istore1 (M := mX7_bestTold) dX7_bestTold_89 (q := 90) rfl
def rX7_bestTold_90 := W_iinc3 (M := mX7_bestTold) dX7_bestTold_90 (q := 93) rfl (v := (1)) rfl
def rX7_bestTold_93 := W_goto (M := mX7_bestTold) dX7_bestTold_93 (t := 26) rfl
def rX7_bestTold_96 := W_iload1 (M := mX7_bestTold) dX7_bestTold_96 (q := 97) rfl
def rX7_bestTold_97 := W_iret (M := mX7_bestTold) dX7_bestTold_97 rfl
-- X7_bestWay
theorem eX7_bestWay {d : Nat} {h : qH} {Q : Option (Option Value) → qH → Prop} {s0 : Nat} : WM d mX7_bestWay [.ref s0] h Q = WP d mX7_bestWay (0, 0) 0 [some (.ref s0), none, none] [] h Q := rfl
def rX7_bestWay_0 := W_aload0 (M := mX7_bestWay) dX7_bestWay_0 (q := 1) rfl
def rX7_bestWay_0b := W_aloadR0 (M := mX7_bestWay) dX7_bestWay_0 (q := 1) rfl
def rX7_bestWay_1 := W_invV0 (M := mX7_bestWay) dX7_bestWay_1 (q := 4) rfl ml0_7_151 rfl
def rX7_bestWay_4 := W_if_eq (M := mX7_bestWay) dX7_bestWay_4 (q := 7) rfl (t := 9) rfl
def rX7_bestWay_7 := W_iconst (M := mX7_bestWay) dX7_bestWay_7 (q := 8) rfl (v := (-1)) rfl
def rX7_bestWay_8 := W_iret (M := mX7_bestWay) dX7_bestWay_8 rfl
def rX7_bestWay_9 := W_aload0 (M := mX7_bestWay) dX7_bestWay_9 (q := 10) rfl
def rX7_bestWay_9b := W_aloadR0 (M := mX7_bestWay) dX7_bestWay_9 (q := 10) rfl
def rX7_bestWay_10 := W_getR (M := mX7_bestWay) dX7_bestWay_10 (q := 13) rfl fl7_56 ⟨_, rfl⟩
def rX7_bestWay_13 := W_aload0 (M := mX7_bestWay) dX7_bestWay_13 (q := 14) rfl
def rX7_bestWay_13b := W_aloadR0 (M := mX7_bestWay) dX7_bestWay_13 (q := 14) rfl
def rX7_bestWay_14 := W_getR (M := mX7_bestWay) dX7_bestWay_14 (q := 17) rfl fl7_38 ⟨_, rfl⟩
def rX7_bestWay_17 := W_invV1 (M := mX7_bestWay) dX7_bestWay_17 (q := 20) rfl ml0_7_178 rfl
def rX7_bestWay_20 := W_iconst (M := mX7_bestWay) dX7_bestWay_20 (q := 21) rfl (v := (0)) rfl
def rX7_bestWay_21 := W_istore1 (M := mX7_bestWay) dX7_bestWay_21 (q := 22) rfl
def rX7_bestWay_22 := W_iconst (M := mX7_bestWay) dX7_bestWay_22 (q := 23) rfl (v := (1)) rfl
def rX7_bestWay_23 := W_istore2 (M := mX7_bestWay) dX7_bestWay_23 (q := 24) rfl
def rX7_bestWay_24 := W_iload2 (M := mX7_bestWay) dX7_bestWay_24 (q := 25) rfl
def rX7_bestWay_25 := W_aload0 (M := mX7_bestWay) dX7_bestWay_25 (q := 26) rfl
def rX7_bestWay_25b := W_aloadR0 (M := mX7_bestWay) dX7_bestWay_25 (q := 26) rfl
def rX7_bestWay_26 := W_getR (M := mX7_bestWay) dX7_bestWay_26 (q := 29) rfl fl7_56 ⟨_, rfl⟩
def rX7_bestWay_29 := W_getI (M := mX7_bestWay) dX7_bestWay_29 (q := 32) rfl fl7_182 (Or.inl rfl)
def rX7_bestWay_32 := W_icmp_ge (M := mX7_bestWay) dX7_bestWay_32 (q := 35) rfl (t := 62) rfl
def rX7_bestWay_35 := W_aload0 (M := mX7_bestWay) dX7_bestWay_35 (q := 36) rfl
def rX7_bestWay_35b := W_aloadR0 (M := mX7_bestWay) dX7_bestWay_35 (q := 36) rfl
def rX7_bestWay_36 := W_getR (M := mX7_bestWay) dX7_bestWay_36 (q := 39) rfl fl7_56 ⟨_, rfl⟩
def rX7_bestWay_39 := W_iload2 (M := mX7_bestWay) dX7_bestWay_39 (q := 40) rfl
def rX7_bestWay_40 := W_invV1 (M := mX7_bestWay) dX7_bestWay_40 (q := 43) rfl ml0_7_194 rfl
def rX7_bestWay_43 := W_aload0 (M := mX7_bestWay) dX7_bestWay_43 (q := 44) rfl
def rX7_bestWay_43b := W_aloadR0 (M := mX7_bestWay) dX7_bestWay_43 (q := 44) rfl
def rX7_bestWay_44 := W_getR (M := mX7_bestWay) dX7_bestWay_44 (q := 47) rfl fl7_56 ⟨_, rfl⟩
def rX7_bestWay_47 := W_iload1 (M := mX7_bestWay) dX7_bestWay_47 (q := 48) rfl
def rX7_bestWay_48 := W_invV1 (M := mX7_bestWay) dX7_bestWay_48 (q := 51) rfl ml0_7_194 rfl
def rX7_bestWay_51 := W_icmp_ge (M := mX7_bestWay) dX7_bestWay_51 (q := 54) rfl (t := 56) rfl
def rX7_bestWay_54 := W_iload2 (M := mX7_bestWay) dX7_bestWay_54 (q := 55) rfl
def rX7_bestWay_55 := W_istore1 (M := mX7_bestWay) dX7_bestWay_55 (q := 56) rfl
def rX7_bestWay_56 := W_iinc2 (M := mX7_bestWay) dX7_bestWay_56 (q := 59) rfl (v := (1)) rfl
def rX7_bestWay_59 := W_goto (M := mX7_bestWay) dX7_bestWay_59 (t := 24) rfl
def rX7_bestWay_62 := W_iload1 (M := mX7_bestWay) dX7_bestWay_62 (q := 63) rfl
def rX7_bestWay_63 := W_iret (M := mX7_bestWay) dX7_bestWay_63 rfl
-- X7_burnEver
theorem eX7_burnEver {d : Nat} {h : qH} {Q : Option (Option Value) → qH → Prop} {s0 : Nat} {x1 : Int32} : WM d mX7_burnEver [.ref s0, .int x1] h Q = WP d mX7_burnEver (0, 0) 0 [some (.ref s0), some (.int x1)] [] h Q := rfl
def rX7_burnEver_0 := W_aload0 (M := mX7_burnEver) dX7_burnEver_0 (q := 1) rfl
def rX7_burnEver_0b := W_aloadR0 (M := mX7_burnEver) dX7_burnEver_0 (q := 1) rfl
def rX7_burnEver_1 := W_getR (M := mX7_burnEver) dX7_burnEver_1 (q := 4) rfl fl7_47 ⟨_, rfl⟩
def rX7_burnEver_4 := W_iload1 (M := mX7_burnEver) dX7_burnEver_4 (q := 5) rfl
def rX7_burnEver_5 := W_sipush (M := mX7_burnEver) dX7_burnEver_5 (q := 8) rfl (v := (999)) rfl
def rX7_burnEver_8 := W_invV2 (M := mX7_burnEver) dX7_burnEver_8 (q := 11) rfl ml0_7_155 rfl
def rX7_burnEver_11 := W_invS1 (M := mX7_burnEver) dX7_burnEver_11 (q := 14) rfl ml1_7_200 rfl rfl rfl
def rX7_burnEver_14 := W_iret (M := mX7_burnEver) dX7_burnEver_14 rfl
-- X7_burns
theorem eX7_burns {d : Nat} {h : qH} {Q : Option (Option Value) → qH → Prop} {s0 : Nat} {x1 : Int32} : WM d mX7_burns [.ref s0, .int x1] h Q = WP d mX7_burns (0, 0) 0 [some (.ref s0), some (.int x1)] [] h Q := rfl
def rX7_burns_0 := W_aload0 (M := mX7_burns) dX7_burns_0 (q := 1) rfl
def rX7_burns_0b := W_aloadR0 (M := mX7_burns) dX7_burns_0 (q := 1) rfl
def rX7_burns_1 := W_iload1 (M := mX7_burns) dX7_burns_1 (q := 2) rfl
def rX7_burns_2 := W_invV1 (M := mX7_burns) dX7_burns_2 (q := 5) rfl ml0_7_113 rfl
def rX7_burns_5 := W_if_eq (M := mX7_burns) dX7_burns_5 (q := 8) rfl (t := 10) rfl
def rX7_burns_8 := W_iconst (M := mX7_burns) dX7_burns_8 (q := 9) rfl (v := (-1)) rfl
def rX7_burns_9 := W_iret (M := mX7_burns) dX7_burns_9 rfl
def rX7_burns_10 := W_aload0 (M := mX7_burns) dX7_burns_10 (q := 11) rfl
def rX7_burns_10b := W_aloadR0 (M := mX7_burns) dX7_burns_10 (q := 11) rfl
def rX7_burns_11 := W_getR (M := mX7_burns) dX7_burns_11 (q := 14) rfl fl7_47 ⟨_, rfl⟩
def rX7_burns_14 := W_aload0 (M := mX7_burns) dX7_burns_14 (q := 15) rfl
def rX7_burns_14b := W_aloadR0 (M := mX7_burns) dX7_burns_14 (q := 15) rfl
def rX7_burns_15 := W_getR (M := mX7_burns) dX7_burns_15 (q := 18) rfl fl7_38 ⟨_, rfl⟩
def rX7_burns_18 := W_getI (M := mX7_burns) dX7_burns_18 (q := 21) rfl fl7_121 (Or.inl rfl)
def rX7_burns_21 := W_iload1 (M := mX7_burns) dX7_burns_21 (q := 22) rfl
def rX7_burns_22 := W_invV2 (M := mX7_burns) dX7_burns_22 (q := 25) rfl ml0_7_142 rfl
def rX7_burns_25 := W_invS1 (M := mX7_burns) dX7_burns_25 (q := 28) rfl ml1_7_145 rfl rfl rfl
def rX7_burns_28 := W_iret (M := mX7_burns) dX7_burns_28 rfl
-- X7_burnsAlready
theorem eX7_burnsAlready {d : Nat} {h : qH} {Q : Option (Option Value) → qH → Prop} {s0 : Nat} {x1 : Int32} : WM d mX7_burnsAlready [.ref s0, .int x1] h Q = WP d mX7_burnsAlready (0, 0) 0 [some (.ref s0), some (.int x1)] [] h Q := rfl
def rX7_burnsAlready_0 := W_aload0 (M := mX7_burnsAlready) dX7_burnsAlready_0 (q := 1) rfl
def rX7_burnsAlready_0b := W_aloadR0 (M := mX7_burnsAlready) dX7_burnsAlready_0 (q := 1) rfl
def rX7_burnsAlready_1 := W_aload0 (M := mX7_burnsAlready) dX7_burnsAlready_1 (q := 2) rfl
def rX7_burnsAlready_1b := W_aloadR0 (M := mX7_burnsAlready) dX7_burnsAlready_1 (q := 2) rfl
def rX7_burnsAlready_2 := W_getR (M := mX7_burnsAlready) dX7_burnsAlready_2 (q := 5) rfl fl7_47 ⟨_, rfl⟩
def rX7_burnsAlready_5 := W_aload0 (M := mX7_burnsAlready) dX7_burnsAlready_5 (q := 6) rfl
def rX7_burnsAlready_5b := W_aloadR0 (M := mX7_burnsAlready) dX7_burnsAlready_5 (q := 6) rfl
def rX7_burnsAlready_6 := W_getR (M := mX7_burnsAlready) dX7_burnsAlready_6 (q := 9) rfl fl7_38 ⟨_, rfl⟩
def rX7_burnsAlready_9 := W_getI (M := mX7_burnsAlready) dX7_burnsAlready_9 (q := 12) rfl fl7_121 (Or.inl rfl)
def rX7_burnsAlready_12 := W_iload1 (M := mX7_burnsAlready) dX7_burnsAlready_12 (q := 13) rfl
def rX7_burnsAlready_13 := W_invV2 (M := mX7_burnsAlready) dX7_burnsAlready_13 (q := 16) rfl ml0_7_142 rfl
def rX7_burnsAlready_16 := W_aload0 (M := mX7_burnsAlready) dX7_burnsAlready_16 (q := 17) rfl
def rX7_burnsAlready_16b := W_aloadR0 (M := mX7_burnsAlready) dX7_burnsAlready_16 (q := 17) rfl
def rX7_burnsAlready_17 := W_getR (M := mX7_burnsAlready) dX7_burnsAlready_17 (q := 20) rfl fl7_38 ⟨_, rfl⟩
def rX7_burnsAlready_20 := W_getI (M := mX7_burnsAlready) dX7_burnsAlready_20 (q := 23) rfl fl7_166 (Or.inl rfl)
def rX7_burnsAlready_23 := W_icmp_gt (M := mX7_burnsAlready) dX7_burnsAlready_23 (q := 26) rfl (t := 30) rfl
def rX7_burnsAlready_26 := W_iconst (M := mX7_burnsAlready) dX7_burnsAlready_26 (q := 27) rfl (v := (1)) rfl
def rX7_burnsAlready_27 := W_goto (M := mX7_burnsAlready) dX7_burnsAlready_27 (t := 31) rfl
def rX7_burnsAlready_30 := W_iconst (M := mX7_burnsAlready) dX7_burnsAlready_30 (q := 31) rfl (v := (0)) rfl
def rX7_burnsAlready_31 := W_iconst (M := mX7_burnsAlready) dX7_burnsAlready_31 (q := 32) rfl (v := (5)) rfl
def rX7_burnsAlready_32 := W_invV2 (M := mX7_burnsAlready) dX7_burnsAlready_32 (q := 35) rfl ml0_7_304 rfl
def rX7_burnsAlready_35 := W_zret (M := mX7_burnsAlready) dX7_burnsAlready_35 rfl
-- X7_burnsIf
theorem eX7_burnsIf {d : Nat} {h : qH} {Q : Option (Option Value) → qH → Prop} {s0 : Nat} {x1 : Int32} {x2 : Int32} : WM d mX7_burnsIf [.ref s0, .int x1, .int x2] h Q = WP d mX7_burnsIf (0, 0) 0 [some (.ref s0), some (.int x1), some (.int x2)] [] h Q := rfl
def rX7_burnsIf_0 := W_aload0 (M := mX7_burnsIf) dX7_burnsIf_0 (q := 1) rfl
def rX7_burnsIf_0b := W_aloadR0 (M := mX7_burnsIf) dX7_burnsIf_0 (q := 1) rfl
def rX7_burnsIf_1 := W_iload1 (M := mX7_burnsIf) dX7_burnsIf_1 (q := 2) rfl
def rX7_burnsIf_2 := W_invV1 (M := mX7_burnsIf) dX7_burnsIf_2 (q := 5) rfl ml0_7_113 rfl
def rX7_burnsIf_5 := W_if_ne (M := mX7_burnsIf) dX7_burnsIf_5 (q := 8) rfl (t := 24) rfl
def rX7_burnsIf_8 := W_aload0 (M := mX7_burnsIf) dX7_burnsIf_8 (q := 9) rfl
def rX7_burnsIf_8b := W_aloadR0 (M := mX7_burnsIf) dX7_burnsIf_8 (q := 9) rfl
def rX7_burnsIf_9 := W_iload2 (M := mX7_burnsIf) dX7_burnsIf_9 (q := 10) rfl
def rX7_burnsIf_10 := W_invV1 (M := mX7_burnsIf) dX7_burnsIf_10 (q := 13) rfl ml0_7_113 rfl
def rX7_burnsIf_13 := W_if_ne (M := mX7_burnsIf) dX7_burnsIf_13 (q := 16) rfl (t := 24) rfl
def rX7_burnsIf_16 := W_aload0 (M := mX7_burnsIf) dX7_burnsIf_16 (q := 17) rfl
def rX7_burnsIf_16b := W_aloadR0 (M := mX7_burnsIf) dX7_burnsIf_16 (q := 17) rfl
def rX7_burnsIf_17 := W_iload2 (M := mX7_burnsIf) dX7_burnsIf_17 (q := 18) rfl
def rX7_burnsIf_18 := W_invV1 (M := mX7_burnsIf) dX7_burnsIf_18 (q := 21) rfl ml0_7_172 rfl
def rX7_burnsIf_21 := W_if_eq (M := mX7_burnsIf) dX7_burnsIf_21 (q := 24) rfl (t := 26) rfl
def rX7_burnsIf_24 := W_iconst (M := mX7_burnsIf) dX7_burnsIf_24 (q := 25) rfl (v := (-1)) rfl
def rX7_burnsIf_25 := W_iret (M := mX7_burnsIf) dX7_burnsIf_25 rfl
def rX7_burnsIf_26 := W_aload0 (M := mX7_burnsIf) dX7_burnsIf_26 (q := 27) rfl
def rX7_burnsIf_26b := W_aloadR0 (M := mX7_burnsIf) dX7_burnsIf_26 (q := 27) rfl
def rX7_burnsIf_27 := W_getR (M := mX7_burnsIf) dX7_burnsIf_27 (q := 30) rfl fl7_47 ⟨_, rfl⟩
def rX7_burnsIf_30 := W_aload0 (M := mX7_burnsIf) dX7_burnsIf_30 (q := 31) rfl
def rX7_burnsIf_30b := W_aloadR0 (M := mX7_burnsIf) dX7_burnsIf_30 (q := 31) rfl
def rX7_burnsIf_31 := W_getR (M := mX7_burnsIf) dX7_burnsIf_31 (q := 34) rfl fl7_38 ⟨_, rfl⟩
def rX7_burnsIf_34 := W_getI (M := mX7_burnsIf) dX7_burnsIf_34 (q := 37) rfl fl7_121 (Or.inl rfl)
def rX7_burnsIf_37 := W_iconst (M := mX7_burnsIf) dX7_burnsIf_37 (q := 38) rfl (v := (1)) rfl
def rX7_burnsIf_38 := W_iload2 (M := mX7_burnsIf) dX7_burnsIf_38 (q := 39) rfl
def rX7_burnsIf_39 := W_ishl (M := mX7_burnsIf) dX7_burnsIf_39 (q := 40) rfl
def rX7_burnsIf_40 := W_ior (M := mX7_burnsIf) dX7_burnsIf_40 (q := 41) rfl
def rX7_burnsIf_41 := W_iload1 (M := mX7_burnsIf) dX7_burnsIf_41 (q := 42) rfl
def rX7_burnsIf_42 := W_invV2 (M := mX7_burnsIf) dX7_burnsIf_42 (q := 45) rfl ml0_7_142 rfl
def rX7_burnsIf_45 := W_invS1 (M := mX7_burnsIf) dX7_burnsIf_45 (q := 48) rfl ml1_7_145 rfl rfl rfl
def rX7_burnsIf_48 := W_iret (M := mX7_burnsIf) dX7_burnsIf_48 rfl
-- X7_burnt
theorem eX7_burnt {d : Nat} {h : qH} {Q : Option (Option Value) → qH → Prop} {s0 : Nat} {x1 : Int32} : WM d mX7_burnt [.ref s0, .int x1] h Q = WP d mX7_burnt (0, 0) 0 [some (.ref s0), some (.int x1)] [] h Q := rfl
def rX7_burnt_0 := W_aload0 (M := mX7_burnt) dX7_burnt_0 (q := 1) rfl
def rX7_burnt_0b := W_aloadR0 (M := mX7_burnt) dX7_burnt_0 (q := 1) rfl
def rX7_burnt_1 := W_invV0 (M := mX7_burnt) dX7_burnt_1 (q := 4) rfl ml0_7_151 rfl
def rX7_burnt_4 := W_if_ne (M := mX7_burnt) dX7_burnt_4 (q := 7) rfl (t := 18) rfl
def rX7_burnt_7 := W_aload0 (M := mX7_burnt) dX7_burnt_7 (q := 8) rfl
def rX7_burnt_7b := W_aloadR0 (M := mX7_burnt) dX7_burnt_7 (q := 8) rfl
def rX7_burnt_8 := W_iload1 (M := mX7_burnt) dX7_burnt_8 (q := 9) rfl
def rX7_burnt_9 := W_iconst (M := mX7_burnt) dX7_burnt_9 (q := 10) rfl (v := (0)) rfl
def rX7_burnt_10 := W_bipush (M := mX7_burnt) dX7_burnt_10 (q := 12) rfl (v := (90)) rfl
def rX7_burnt_12 := W_invV3 (M := mX7_burnt) dX7_burnt_12 (q := 15) rfl ml0_7_75 rfl
def rX7_burnt_15 := W_if_eq (M := mX7_burnt) dX7_burnt_15 (q := 18) rfl (t := 20) rfl
def rX7_burnt_18 := W_iconst (M := mX7_burnt) dX7_burnt_18 (q := 19) rfl (v := (-1)) rfl
def rX7_burnt_19 := W_iret (M := mX7_burnt) dX7_burnt_19 rfl
def rX7_burnt_20 := W_aload0 (M := mX7_burnt) dX7_burnt_20 (q := 21) rfl
def rX7_burnt_20b := W_aloadR0 (M := mX7_burnt) dX7_burnt_20 (q := 21) rfl
def rX7_burnt_21 := W_getR (M := mX7_burnt) dX7_burnt_21 (q := 24) rfl fl7_47 ⟨_, rfl⟩
def rX7_burnt_24 := W_aload0 (M := mX7_burnt) dX7_burnt_24 (q := 25) rfl
def rX7_burnt_24b := W_aloadR0 (M := mX7_burnt) dX7_burnt_24 (q := 25) rfl
def rX7_burnt_25 := W_getR (M := mX7_burnt) dX7_burnt_25 (q := 28) rfl fl7_38 ⟨_, rfl⟩
def rX7_burnt_28 := W_getI (M := mX7_burnt) dX7_burnt_28 (q := 31) rfl fl7_121 (Or.inl rfl)
def rX7_burnt_31 := W_iload1 (M := mX7_burnt) dX7_burnt_31 (q := 32) rfl
def rX7_burnt_32 := W_invV2 (M := mX7_burnt) dX7_burnt_32 (q := 35) rfl ml0_7_155 rfl
def rX7_burnt_35 := W_iret (M := mX7_burnt) dX7_burnt_35 rfl
-- X7_couldRing
theorem eX7_couldRing {d : Nat} {h : qH} {Q : Option (Option Value) → qH → Prop} {s0 : Nat} : WM d mX7_couldRing [.ref s0] h Q = WP d mX7_couldRing (0, 0) 0 [some (.ref s0)] [] h Q := rfl
def rX7_couldRing_0 := W_aload0 (M := mX7_couldRing) dX7_couldRing_0 (q := 1) rfl
def rX7_couldRing_0b := W_aloadR0 (M := mX7_couldRing) dX7_couldRing_0 (q := 1) rfl
def rX7_couldRing_1 := W_invV0 (M := mX7_couldRing) dX7_couldRing_1 (q := 4) rfl ml0_7_151 rfl
def rX7_couldRing_4 := W_if_eq (M := mX7_couldRing) dX7_couldRing_4 (q := 7) rfl (t := 9) rfl
def rX7_couldRing_7 := W_iconst (M := mX7_couldRing) dX7_couldRing_7 (q := 8) rfl (v := (-1)) rfl
def rX7_couldRing_8 := W_iret (M := mX7_couldRing) dX7_couldRing_8 rfl
def rX7_couldRing_9 := W_aload0 (M := mX7_couldRing) dX7_couldRing_9 (q := 10) rfl
def rX7_couldRing_9b := W_aloadR0 (M := mX7_couldRing) dX7_couldRing_9 (q := 10) rfl
def rX7_couldRing_10 := W_getR (M := mX7_couldRing) dX7_couldRing_10 (q := 13) rfl fl7_56 ⟨_, rfl⟩
def rX7_couldRing_13 := W_aload0 (M := mX7_couldRing) dX7_couldRing_13 (q := 14) rfl
def rX7_couldRing_13b := W_aloadR0 (M := mX7_couldRing) dX7_couldRing_13 (q := 14) rfl
def rX7_couldRing_14 := W_getR (M := mX7_couldRing) dX7_couldRing_14 (q := 17) rfl fl7_38 ⟨_, rfl⟩
def rX7_couldRing_17 := W_invV1 (M := mX7_couldRing) dX7_couldRing_17 (q := 20) rfl ml0_7_178 rfl
def rX7_couldRing_20 := W_aload0 (M := mX7_couldRing) dX7_couldRing_20 (q := 21) rfl
def rX7_couldRing_20b := W_aloadR0 (M := mX7_couldRing) dX7_couldRing_20 (q := 21) rfl
def rX7_couldRing_21 := W_getR (M := mX7_couldRing) dX7_couldRing_21 (q := 24) rfl fl7_56 ⟨_, rfl⟩
def rX7_couldRing_24 := W_getI (M := mX7_couldRing) dX7_couldRing_24 (q := 27) rfl fl7_197 (Or.inl rfl)
def rX7_couldRing_27 := W_iret (M := mX7_couldRing) dX7_couldRing_27 rfl
-- X7_counted
theorem eX7_counted {d : Nat} {h : qH} {Q : Option (Option Value) → qH → Prop} {x1 : Int32} {x2 : Int32} {x3 : Int32} : WM d mX7_counted [.int x1, .int x2, .int x3] h Q = WP d mX7_counted (0, 0) 0 [some (.int x1), some (.int x2), some (.int x3)] [] h Q := rfl
def rX7_counted_0 := W_iload0 (M := mX7_counted) dX7_counted_0 (q := 1) rfl
def rX7_counted_28 := W_iload2 (M := mX7_counted) dX7_counted_28 (q := 29) rfl
def rX7_counted_29 := W_iload1 (M := mX7_counted) dX7_counted_29 (q := 30) rfl
def rX7_counted_30 := W_ishr (M := mX7_counted) dX7_counted_30 (q := 31) rfl
def rX7_counted_31 := W_iconst (M := mX7_counted) dX7_counted_31 (q := 32) rfl (v := (1)) rfl
def rX7_counted_32 := W_iand (M := mX7_counted) dX7_counted_32 (q := 33) rfl
def rX7_counted_33 := W_iret (M := mX7_counted) dX7_counted_33 rfl
def rX7_counted_34 := W_iload2 (M := mX7_counted) dX7_counted_34 (q := 35) rfl
def rX7_counted_35 := W_if_ne (M := mX7_counted) dX7_counted_35 (q := 38) rfl (t := 42) rfl
def rX7_counted_38 := W_iconst (M := mX7_counted) dX7_counted_38 (q := 39) rfl (v := (1)) rfl
def rX7_counted_39 := W_goto (M := mX7_counted) dX7_counted_39 (t := 43) rfl
def rX7_counted_42 := W_iconst (M := mX7_counted) dX7_counted_42 (q := 43) rfl (v := (0)) rfl
def rX7_counted_43 := W_iret (M := mX7_counted) dX7_counted_43 rfl
def rX7_counted_44 := W_iload2 (M := mX7_counted) dX7_counted_44 (q := 45) rfl
def rX7_counted_45 := W_invS1 (M := mX7_counted) dX7_counted_45 (q := 48) rfl ml1_7_200 rfl rfl rfl
def rX7_counted_48 := W_iret (M := mX7_counted) dX7_counted_48 rfl
-- X7_day
theorem eX7_day {d : Nat} {h : qH} {Q : Option (Option Value) → qH → Prop} {s0 : Nat} : WM d mX7_day [.ref s0] h Q = WP d mX7_day (0, 0) 0 [some (.ref s0)] [] h Q := rfl
def rX7_day_0 := W_aload0 (M := mX7_day) dX7_day_0 (q := 1) rfl
def rX7_day_0b := W_aloadR0 (M := mX7_day) dX7_day_0 (q := 1) rfl
def rX7_day_1 := W_invV0 (M := mX7_day) dX7_day_1 (q := 4) rfl ml0_7_151 rfl
def rX7_day_4 := W_if_eq (M := mX7_day) dX7_day_4 (q := 7) rfl (t := 9) rfl
def rX7_day_7 := W_iconst (M := mX7_day) dX7_day_7 (q := 8) rfl (v := (-1)) rfl
def rX7_day_8 := W_iret (M := mX7_day) dX7_day_8 rfl
def rX7_day_9 := W_aload0 (M := mX7_day) dX7_day_9 (q := 10) rfl
def rX7_day_9b := W_aloadR0 (M := mX7_day) dX7_day_9 (q := 10) rfl
def rX7_day_10 := W_getR (M := mX7_day) dX7_day_10 (q := 13) rfl fl7_38 ⟨_, rfl⟩
def rX7_day_13 := W_getI (M := mX7_day) dX7_day_13 (q := 16) rfl fl7_166 (Or.inl rfl)
def rX7_day_16 := W_bipush (M := mX7_day) dX7_day_16 (q := 18) rfl (v := (90)) rfl
def rX7_day_18 := W_icmp_lt (M := mX7_day) dX7_day_18 (q := 21) rfl (t := 27) rfl
def rX7_day_21 := W_aload0 (M := mX7_day) dX7_day_21 (q := 22) rfl
def rX7_day_21b := W_aloadR0 (M := mX7_day) dX7_day_21 (q := 22) rfl
def rX7_day_22 := W_iconst (M := mX7_day) dX7_day_22 (q := 23) rfl (v := (3)) rfl
def rX7_day_23 := W_invV1 (M := mX7_day) dX7_day_23 (q := 26) rfl ml0_7_87 rfl
def rX7_day_26 := W_iret (M := mX7_day) dX7_day_26 rfl
def rX7_day_27 := W_aload0 (M := mX7_day) dX7_day_27 (q := 28) rfl
def rX7_day_27b := W_aloadR0 (M := mX7_day) dX7_day_27 (q := 28) rfl
def rX7_day_28 := W_getR (M := mX7_day) dX7_day_28 (q := 31) rfl fl7_38 ⟨_, rfl⟩
def rX7_day_31 := W_invV0 (M := mX7_day) dX7_day_31 (q := 34) rfl ml0_7_266 rfl
def rX7_day_34 := W_aload0 (M := mX7_day) dX7_day_34 (q := 35) rfl
def rX7_day_34b := W_aloadR0 (M := mX7_day) dX7_day_34 (q := 35) rfl
def rX7_day_35 := W_getR (M := mX7_day) dX7_day_35 (q := 38) rfl fl7_38 ⟨_, rfl⟩
def rX7_day_38 := W_dupI (M := mX7_day) dX7_day_38 (q := 39) rfl
def rX7_day_38b := W_dupR (M := mX7_day) dX7_day_38 (q := 39) rfl
def rX7_day_39 := W_getI (M := mX7_day) dX7_day_39 (q := 42) rfl fl7_166 (Or.inl rfl)
def rX7_day_42 := W_iconst (M := mX7_day) dX7_day_42 (q := 43) rfl (v := (1)) rfl
def rX7_day_43 := W_iadd (M := mX7_day) dX7_day_43 (q := 44) rfl
def rX7_day_44 := W_putI (M := mX7_day) dX7_day_44 (q := 47) rfl fl7_166 rfl (Or.inl rfl)
def rX7_day_47 := W_aload0 (M := mX7_day) dX7_day_47 (q := 48) rfl
def rX7_day_47b := W_aloadR0 (M := mX7_day) dX7_day_47 (q := 48) rfl
def rX7_day_48 := W_getR (M := mX7_day) dX7_day_48 (q := 51) rfl fl7_47 ⟨_, rfl⟩
def rX7_day_51 := W_aload0 (M := mX7_day) dX7_day_51 (q := 52) rfl
def rX7_day_51b := W_aloadR0 (M := mX7_day) dX7_day_51 (q := 52) rfl
def rX7_day_52 := W_getR (M := mX7_day) dX7_day_52 (q := 55) rfl fl7_38 ⟨_, rfl⟩
def rX7_day_55 := W_getI (M := mX7_day) dX7_day_55 (q := 58) rfl fl7_121 (Or.inl rfl)
def rX7_day_58 := W_aload0 (M := mX7_day) dX7_day_58 (q := 59) rfl
def rX7_day_58b := W_aloadR0 (M := mX7_day) dX7_day_58 (q := 59) rfl
def rX7_day_59 := W_getR (M := mX7_day) dX7_day_59 (q := 62) rfl fl7_38 ⟨_, rfl⟩
def rX7_day_62 := W_getI (M := mX7_day) dX7_day_62 (q := 65) rfl fl7_166 (Or.inl rfl)
def rX7_day_65 := W_invV2 (M := mX7_day) dX7_day_65 (q := 68) rfl ml0_7_155 rfl
def rX7_day_68 := W_aload0 (M := mX7_day) dX7_day_68 (q := 69) rfl
def rX7_day_68b := W_aloadR0 (M := mX7_day) dX7_day_68 (q := 69) rfl
def rX7_day_69 := W_getR (M := mX7_day) dX7_day_69 (q := 72) rfl fl7_47 ⟨_, rfl⟩
def rX7_day_72 := W_aload0 (M := mX7_day) dX7_day_72 (q := 73) rfl
def rX7_day_72b := W_aloadR0 (M := mX7_day) dX7_day_72 (q := 73) rfl
def rX7_day_73 := W_getR (M := mX7_day) dX7_day_73 (q := 76) rfl fl7_38 ⟨_, rfl⟩
def rX7_day_76 := W_getI (M := mX7_day) dX7_day_76 (q := 79) rfl fl7_121 (Or.inl rfl)
def rX7_day_79 := W_aload0 (M := mX7_day) dX7_day_79 (q := 80) rfl
def rX7_day_79b := W_aloadR0 (M := mX7_day) dX7_day_79 (q := 80) rfl
def rX7_day_80 := W_getR (M := mX7_day) dX7_day_80 (q := 83) rfl fl7_38 ⟨_, rfl⟩
def rX7_day_83 := W_getI (M := mX7_day) dX7_day_83 (q := 86) rfl fl7_166 (Or.inl rfl)
def rX7_day_86 := W_iconst (M := mX7_day) dX7_day_86 (q := 87) rfl (v := (1)) rfl
def rX7_day_87 := W_isub (M := mX7_day) dX7_day_87 (q := 88) rfl
def rX7_day_88 := W_invV2 (M := mX7_day) dX7_day_88 (q := 91) rfl ml0_7_155 rfl
def rX7_day_91 := W_iconst (M := mX7_day) dX7_day_91 (q := 92) rfl (v := (-1)) rfl
def rX7_day_92 := W_ixor (M := mX7_day) dX7_day_92 (q := 93) rfl
def rX7_day_93 := W_iand (M := mX7_day) dX7_day_93 (q := 94) rfl
def rX7_day_94 := W_iret (M := mX7_day) dX7_day_94 rfl
-- X7_dumbDay
theorem eX7_dumbDay {d : Nat} {h : qH} {Q : Option (Option Value) → qH → Prop} {s0 : Nat} : WM d mX7_dumbDay [.ref s0] h Q = WP d mX7_dumbDay (0, 0) 0 [some (.ref s0), none] [] h Q := rfl
def rX7_dumbDay_0 := W_aload0 (M := mX7_dumbDay) dX7_dumbDay_0 (q := 1) rfl
def rX7_dumbDay_0b := W_aloadR0 (M := mX7_dumbDay) dX7_dumbDay_0 (q := 1) rfl
def rX7_dumbDay_1 := W_invV0 (M := mX7_dumbDay) dX7_dumbDay_1 (q := 4) rfl ml0_7_151 rfl
def rX7_dumbDay_4 := W_if_eq (M := mX7_dumbDay) dX7_dumbDay_4 (q := 7) rfl (t := 9) rfl
def rX7_dumbDay_7 := W_iconst (M := mX7_dumbDay) dX7_dumbDay_7 (q := 8) rfl (v := (-1)) rfl
def rX7_dumbDay_8 := W_iret (M := mX7_dumbDay) dX7_dumbDay_8 rfl
def rX7_dumbDay_9 := W_aload0 (M := mX7_dumbDay) dX7_dumbDay_9 (q := 10) rfl
def rX7_dumbDay_9b := W_aloadR0 (M := mX7_dumbDay) dX7_dumbDay_9 (q := 10) rfl
def rX7_dumbDay_10 := W_getR (M := mX7_dumbDay) dX7_dumbDay_10 (q := 13) rfl fl7_38 ⟨_, rfl⟩
def rX7_dumbDay_13 := W_getI (M := mX7_dumbDay) dX7_dumbDay_13 (q := 16) rfl fl7_166 (Or.inl rfl)
def rX7_dumbDay_16 := W_istore1 (M := mX7_dumbDay) dX7_dumbDay_16 (q := 17) rfl
def rX7_dumbDay_17 := W_iload1 (M := mX7_dumbDay) dX7_dumbDay_17 (q := 18) rfl
def rX7_dumbDay_18 := W_bipush (M := mX7_dumbDay) dX7_dumbDay_18 (q := 20) rfl (v := (90)) rfl
def rX7_dumbDay_20 := W_icmp_gt (M := mX7_dumbDay) dX7_dumbDay_20 (q := 23) rfl (t := 83) rfl
def rX7_dumbDay_23 := W_aload0 (M := mX7_dumbDay) dX7_dumbDay_23 (q := 24) rfl
def rX7_dumbDay_23b := W_aloadR0 (M := mX7_dumbDay) dX7_dumbDay_23 (q := 24) rfl
def rX7_dumbDay_24 := W_getR (M := mX7_dumbDay) dX7_dumbDay_24 (q := 27) rfl fl7_47 ⟨_, rfl⟩
def rX7_dumbDay_27 := W_aload0 (M := mX7_dumbDay) dX7_dumbDay_27 (q := 28) rfl
def rX7_dumbDay_27b := W_aloadR0 (M := mX7_dumbDay) dX7_dumbDay_27 (q := 28) rfl
def rX7_dumbDay_28 := W_getR (M := mX7_dumbDay) dX7_dumbDay_28 (q := 31) rfl fl7_38 ⟨_, rfl⟩
def rX7_dumbDay_31 := W_getI (M := mX7_dumbDay) dX7_dumbDay_31 (q := 34) rfl fl7_121 (Or.inl rfl)
def rX7_dumbDay_34 := W_aload0 (M := mX7_dumbDay) dX7_dumbDay_34 (q := 35) rfl
def rX7_dumbDay_34b := W_aloadR0 (M := mX7_dumbDay) dX7_dumbDay_34 (q := 35) rfl
def rX7_dumbDay_35 := W_getR (M := mX7_dumbDay) dX7_dumbDay_35 (q := 38) rfl fl7_38 ⟨_, rfl⟩
def rX7_dumbDay_38 := W_getI (M := mX7_dumbDay) dX7_dumbDay_38 (q := 41) rfl fl7_134 (Or.inl rfl)
def rX7_dumbDay_41 := W_iload1 (M := mX7_dumbDay) dX7_dumbDay_41 (q := 42) rfl
def rX7_dumbDay_42 := W_invV3 (M := mX7_dumbDay) dX7_dumbDay_42 (q := 45) rfl ml0_7_163 rfl
def rX7_dumbDay_45 := W_bipush (M := mX7_dumbDay) dX7_dumbDay_45 (q := 47) rfl (v := (-2)) rfl
def rX7_dumbDay_47 := W_icmp_eq (M := mX7_dumbDay) dX7_dumbDay_47 (q := 50) rfl (t := 77) rfl
def rX7_dumbDay_50 := W_aload0 (M := mX7_dumbDay) dX7_dumbDay_50 (q := 51) rfl
def rX7_dumbDay_50b := W_aloadR0 (M := mX7_dumbDay) dX7_dumbDay_50 (q := 51) rfl
def rX7_dumbDay_51 := W_getR (M := mX7_dumbDay) dX7_dumbDay_51 (q := 54) rfl fl7_47 ⟨_, rfl⟩
def rX7_dumbDay_54 := W_aload0 (M := mX7_dumbDay) dX7_dumbDay_54 (q := 55) rfl
def rX7_dumbDay_54b := W_aloadR0 (M := mX7_dumbDay) dX7_dumbDay_54 (q := 55) rfl
def rX7_dumbDay_55 := W_getR (M := mX7_dumbDay) dX7_dumbDay_55 (q := 58) rfl fl7_38 ⟨_, rfl⟩
def rX7_dumbDay_58 := W_getI (M := mX7_dumbDay) dX7_dumbDay_58 (q := 61) rfl fl7_121 (Or.inl rfl)
def rX7_dumbDay_61 := W_aload0 (M := mX7_dumbDay) dX7_dumbDay_61 (q := 62) rfl
def rX7_dumbDay_61b := W_aloadR0 (M := mX7_dumbDay) dX7_dumbDay_61 (q := 62) rfl
def rX7_dumbDay_62 := W_getR (M := mX7_dumbDay) dX7_dumbDay_62 (q := 65) rfl fl7_38 ⟨_, rfl⟩
def rX7_dumbDay_65 := W_getI (M := mX7_dumbDay) dX7_dumbDay_65 (q := 68) rfl fl7_134 (Or.inl rfl)
def rX7_dumbDay_68 := W_iload1 (M := mX7_dumbDay) dX7_dumbDay_68 (q := 69) rfl
def rX7_dumbDay_69 := W_invV3 (M := mX7_dumbDay) dX7_dumbDay_69 (q := 72) rfl ml0_7_169 rfl
def rX7_dumbDay_72 := W_if_ne (M := mX7_dumbDay) dX7_dumbDay_72 (q := 75) rfl (t := 77) rfl
def rX7_dumbDay_75 := W_iload1 (M := mX7_dumbDay) dX7_dumbDay_75 (q := 76) rfl
def rX7_dumbDay_76 := W_iret (M := mX7_dumbDay) dX7_dumbDay_76 rfl
def rX7_dumbDay_77 := W_iinc1 (M := mX7_dumbDay) dX7_dumbDay_77 (q := 80) rfl (v := (1)) rfl
def rX7_dumbDay_80 := W_goto (M := mX7_dumbDay) dX7_dumbDay_80 (t := 17) rfl
def rX7_dumbDay_83 := W_bipush (M := mX7_dumbDay) dX7_dumbDay_83 (q := 85) rfl (v := (-2)) rfl
def rX7_dumbDay_85 := W_iret (M := mX7_dumbDay) dX7_dumbDay_85 rfl
-- X7_fault
theorem eX7_fault {d : Nat} {h : qH} {Q : Option (Option Value) → qH → Prop} {s0 : Nat} : WM d mX7_fault [.ref s0] h Q = WP d mX7_fault (0, 0) 0 [some (.ref s0)] [] h Q := rfl
def rX7_fault_0 := W_aload0 (M := mX7_fault) dX7_fault_0 (q := 1) rfl
def rX7_fault_0b := W_aloadR0 (M := mX7_fault) dX7_fault_0 (q := 1) rfl
def rX7_fault_1 := W_getI (M := mX7_fault) dX7_fault_1 (q := 4) rfl fl7_86 (Or.inl rfl)
def rX7_fault_4 := W_iret (M := mX7_fault) dX7_fault_4 rfl
-- X7_feed
theorem eX7_feed {d : Nat} {h : qH} {Q : Option (Option Value) → qH → Prop} {s0 : Nat} {x1 : Int32} {x2 : Int32} {x3 : Int32} {x4 : Int32} {x5 : Int32} : WM d mX7_feed [.ref s0, .int x1, .int x2, .int x3, .int x4, .int x5] h Q = WP d mX7_feed (0, 0) 0 [some (.ref s0), some (.int x1), some (.int x2), some (.int x3), some (.int x4), some (.int x5)] [] h Q := rfl
def rX7_feed_0 := W_aload0 (M := mX7_feed) dX7_feed_0 (q := 1) rfl
def rX7_feed_0b := W_aloadR0 (M := mX7_feed) dX7_feed_0 (q := 1) rfl
def rX7_feed_1 := W_getR (M := mX7_feed) dX7_feed_1 (q := 4) rfl fl7_22 ⟨_, rfl⟩
def rX7_feed_4 := W_getI (M := mX7_feed) dX7_feed_4 (q := 7) rfl fl7_67 (Or.inl rfl)
def rX7_feed_7 := W_sipush (M := mX7_feed) dX7_feed_7 (q := 10) rfl (v := (880)) rfl
def rX7_feed_10 := W_icmp_le (M := mX7_feed) dX7_feed_10 (q := 13) rfl (t := 15) rfl
def rX7_feed_13 := W_iconst (M := mX7_feed) dX7_feed_13 (q := 14) rfl (v := (-1)) rfl
def rX7_feed_14 := W_iret (M := mX7_feed) dX7_feed_14 rfl
def rX7_feed_15 := W_aload0 (M := mX7_feed) dX7_feed_15 (q := 16) rfl
def rX7_feed_15b := W_aloadR0 (M := mX7_feed) dX7_feed_15 (q := 16) rfl
def rX7_feed_16 := W_getR (M := mX7_feed) dX7_feed_16 (q := 19) rfl fl7_22 ⟨_, rfl⟩
def rX7_feed_19 := W_iload1 (M := mX7_feed) dX7_feed_19 (q := 20) rfl
def rX7_feed_20 := W_invV1 (M := mX7_feed) dX7_feed_20 (q := 23) rfl ml0_7_71 rfl
def rX7_feed_23 := W_aload0 (M := mX7_feed) dX7_feed_23 (q := 24) rfl
def rX7_feed_23b := W_aloadR0 (M := mX7_feed) dX7_feed_23 (q := 24) rfl
def rX7_feed_24 := W_getR (M := mX7_feed) dX7_feed_24 (q := 27) rfl fl7_22 ⟨_, rfl⟩
def rX7_feed_27 := W_iload2 (M := mX7_feed) dX7_feed_27 (q := 28) rfl
def rX7_feed_28 := W_invV1 (M := mX7_feed) dX7_feed_28 (q := 31) rfl ml0_7_71 rfl
def rX7_feed_31 := W_aload0 (M := mX7_feed) dX7_feed_31 (q := 32) rfl
def rX7_feed_31b := W_aloadR0 (M := mX7_feed) dX7_feed_31 (q := 32) rfl
def rX7_feed_32 := W_getR (M := mX7_feed) dX7_feed_32 (q := 35) rfl fl7_22 ⟨_, rfl⟩
def rX7_feed_35 := W_iload3 (M := mX7_feed) dX7_feed_35 (q := 36) rfl
def rX7_feed_36 := W_invV1 (M := mX7_feed) dX7_feed_36 (q := 39) rfl ml0_7_71 rfl
def rX7_feed_39 := W_aload0 (M := mX7_feed) dX7_feed_39 (q := 40) rfl
def rX7_feed_39b := W_aloadR0 (M := mX7_feed) dX7_feed_39 (q := 40) rfl
def rX7_feed_40 := W_getR (M := mX7_feed) dX7_feed_40 (q := 43) rfl fl7_22 ⟨_, rfl⟩
def rX7_feed_43 := W_iload4 (M := mX7_feed) dX7_feed_43 (q := 45) rfl
def rX7_feed_45 := W_invV1 (M := mX7_feed) dX7_feed_45 (q := 48) rfl ml0_7_71 rfl
def rX7_feed_48 := W_aload0 (M := mX7_feed) dX7_feed_48 (q := 49) rfl
def rX7_feed_48b := W_aloadR0 (M := mX7_feed) dX7_feed_48 (q := 49) rfl
def rX7_feed_49 := W_getR (M := mX7_feed) dX7_feed_49 (q := 52) rfl fl7_22 ⟨_, rfl⟩
def rX7_feed_52 := W_iload5 (M := mX7_feed) dX7_feed_52 (q := 54) rfl
def rX7_feed_54 := W_invV1 (M := mX7_feed) dX7_feed_54 (q := 57) rfl ml0_7_71 rfl
def rX7_feed_57 := W_aload0 (M := mX7_feed) dX7_feed_57 (q := 58) rfl
def rX7_feed_57b := W_aloadR0 (M := mX7_feed) dX7_feed_57 (q := 58) rfl
def rX7_feed_58 := W_getR (M := mX7_feed) dX7_feed_58 (q := 61) rfl fl7_22 ⟨_, rfl⟩
def rX7_feed_61 := W_getI (M := mX7_feed) dX7_feed_61 (q := 64) rfl fl7_67 (Or.inl rfl)
def rX7_feed_64 := W_iret (M := mX7_feed) dX7_feed_64 rfl
-- X7_fitAt
theorem eX7_fitAt {d : Nat} {h : qH} {Q : Option (Option Value) → qH → Prop} {s0 : Nat} {x1 : Int32} {x2 : Int32} : WM d mX7_fitAt [.ref s0, .int x1, .int x2] h Q = WP d mX7_fitAt (0, 0) 0 [some (.ref s0), some (.int x1), some (.int x2)] [] h Q := rfl
def rX7_fitAt_0 := W_aload0 (M := mX7_fitAt) dX7_fitAt_0 (q := 1) rfl
def rX7_fitAt_0b := W_aloadR0 (M := mX7_fitAt) dX7_fitAt_0 (q := 1) rfl
def rX7_fitAt_1 := W_invV0 (M := mX7_fitAt) dX7_fitAt_1 (q := 4) rfl ml0_7_151 rfl
def rX7_fitAt_4 := W_if_eq (M := mX7_fitAt) dX7_fitAt_4 (q := 7) rfl (t := 9) rfl
def rX7_fitAt_7 := W_iconst (M := mX7_fitAt) dX7_fitAt_7 (q := 8) rfl (v := (-1)) rfl
def rX7_fitAt_8 := W_iret (M := mX7_fitAt) dX7_fitAt_8 rfl
def rX7_fitAt_9 := W_aload0 (M := mX7_fitAt) dX7_fitAt_9 (q := 10) rfl
def rX7_fitAt_9b := W_aloadR0 (M := mX7_fitAt) dX7_fitAt_9 (q := 10) rfl
def rX7_fitAt_10 := W_getR (M := mX7_fitAt) dX7_fitAt_10 (q := 13) rfl fl7_63 ⟨_, rfl⟩
def rX7_fitAt_13 := W_invV0 (M := mX7_fitAt) dX7_fitAt_13 (q := 16) rfl ml0_7_211 rfl
def rX7_fitAt_16 := W_iload1 (M := mX7_fitAt) dX7_fitAt_16 (q := 17) rfl
def rX7_fitAt_17 := W_if_lt (M := mX7_fitAt) dX7_fitAt_17 (q := 20) rfl (t := 46) rfl
def rX7_fitAt_20 := W_iload1 (M := mX7_fitAt) dX7_fitAt_20 (q := 21) rfl
def rX7_fitAt_21 := W_aload0 (M := mX7_fitAt) dX7_fitAt_21 (q := 22) rfl
def rX7_fitAt_21b := W_aloadR0 (M := mX7_fitAt) dX7_fitAt_21 (q := 22) rfl
def rX7_fitAt_22 := W_getR (M := mX7_fitAt) dX7_fitAt_22 (q := 25) rfl fl7_63 ⟨_, rfl⟩
def rX7_fitAt_25 := W_getI (M := mX7_fitAt) dX7_fitAt_25 (q := 28) rfl fl7_213 (Or.inl rfl)
def rX7_fitAt_28 := W_icmp_ge (M := mX7_fitAt) dX7_fitAt_28 (q := 31) rfl (t := 46) rfl
def rX7_fitAt_31 := W_iload2 (M := mX7_fitAt) dX7_fitAt_31 (q := 32) rfl
def rX7_fitAt_32 := W_if_lt (M := mX7_fitAt) dX7_fitAt_32 (q := 35) rfl (t := 46) rfl
def rX7_fitAt_35 := W_iload2 (M := mX7_fitAt) dX7_fitAt_35 (q := 36) rfl
def rX7_fitAt_36 := W_aload0 (M := mX7_fitAt) dX7_fitAt_36 (q := 37) rfl
def rX7_fitAt_36b := W_aloadR0 (M := mX7_fitAt) dX7_fitAt_36 (q := 37) rfl
def rX7_fitAt_37 := W_getR (M := mX7_fitAt) dX7_fitAt_37 (q := 40) rfl fl7_10 ⟨_, rfl⟩
def rX7_fitAt_40 := W_getI (M := mX7_fitAt) dX7_fitAt_40 (q := 43) rfl fl7_214 (Or.inl rfl)
def rX7_fitAt_43 := W_icmp_lt (M := mX7_fitAt) dX7_fitAt_43 (q := 46) rfl (t := 52) rfl
def rX7_fitAt_46 := W_aload0 (M := mX7_fitAt) dX7_fitAt_46 (q := 47) rfl
def rX7_fitAt_46b := W_aloadR0 (M := mX7_fitAt) dX7_fitAt_46 (q := 47) rfl
def rX7_fitAt_47 := W_iconst (M := mX7_fitAt) dX7_fitAt_47 (q := 48) rfl (v := (1)) rfl
def rX7_fitAt_48 := W_invV1 (M := mX7_fitAt) dX7_fitAt_48 (q := 51) rfl ml0_7_87 rfl
def rX7_fitAt_51 := W_iret (M := mX7_fitAt) dX7_fitAt_51 rfl
def rX7_fitAt_52 := W_aload0 (M := mX7_fitAt) dX7_fitAt_52 (q := 53) rfl
def rX7_fitAt_52b := W_aloadR0 (M := mX7_fitAt) dX7_fitAt_52 (q := 53) rfl
def rX7_fitAt_53 := W_getR (M := mX7_fitAt) dX7_fitAt_53 (q := 56) rfl fl7_63 ⟨_, rfl⟩
def rX7_fitAt_56 := W_aload0 (M := mX7_fitAt) dX7_fitAt_56 (q := 57) rfl
def rX7_fitAt_56b := W_aloadR0 (M := mX7_fitAt) dX7_fitAt_56 (q := 57) rfl
def rX7_fitAt_57 := W_getR (M := mX7_fitAt) dX7_fitAt_57 (q := 60) rfl fl7_63 ⟨_, rfl⟩
def rX7_fitAt_60 := W_getA (M := mX7_fitAt) dX7_fitAt_60 (q := 63) rfl fl7_217 ⟨_, rfl⟩
def rX7_fitAt_63 := W_iload1 (M := mX7_fitAt) dX7_fitAt_63 (q := 64) rfl
def rX7_fitAt_64 := W_iald (M := mX7_fitAt) dX7_fitAt_64 (q := 65) rfl
def rX7_fitAt_65 := W_iload2 (M := mX7_fitAt) dX7_fitAt_65 (q := 66) rfl
def rX7_fitAt_66 := W_invV2 (M := mX7_fitAt) dX7_fitAt_66 (q := 69) rfl ml0_7_220 rfl
def rX7_fitAt_69 := W_iret (M := mX7_fitAt) dX7_fitAt_69 rfl
-- X7_fits
theorem eX7_fits {d : Nat} {h : qH} {Q : Option (Option Value) → qH → Prop} {s0 : Nat} : WM d mX7_fits [.ref s0] h Q = WP d mX7_fits (0, 0) 0 [some (.ref s0)] [] h Q := rfl
def rX7_fits_0 := W_aload0 (M := mX7_fits) dX7_fits_0 (q := 1) rfl
def rX7_fits_0b := W_aloadR0 (M := mX7_fits) dX7_fits_0 (q := 1) rfl
def rX7_fits_1 := W_invV0 (M := mX7_fits) dX7_fits_1 (q := 4) rfl ml0_7_151 rfl
def rX7_fits_4 := W_if_eq (M := mX7_fits) dX7_fits_4 (q := 7) rfl (t := 9) rfl
def rX7_fits_7 := W_iconst (M := mX7_fits) dX7_fits_7 (q := 8) rfl (v := (-1)) rfl
def rX7_fits_8 := W_iret (M := mX7_fits) dX7_fits_8 rfl
def rX7_fits_9 := W_aload0 (M := mX7_fits) dX7_fits_9 (q := 10) rfl
def rX7_fits_9b := W_aloadR0 (M := mX7_fits) dX7_fits_9 (q := 10) rfl
def rX7_fits_10 := W_getR (M := mX7_fits) dX7_fits_10 (q := 13) rfl fl7_63 ⟨_, rfl⟩
def rX7_fits_13 := W_invV0 (M := mX7_fits) dX7_fits_13 (q := 16) rfl ml0_7_211 rfl
def rX7_fits_16 := W_aload0 (M := mX7_fits) dX7_fits_16 (q := 17) rfl
def rX7_fits_16b := W_aloadR0 (M := mX7_fits) dX7_fits_16 (q := 17) rfl
def rX7_fits_17 := W_getR (M := mX7_fits) dX7_fits_17 (q := 20) rfl fl7_63 ⟨_, rfl⟩
def rX7_fits_20 := W_getI (M := mX7_fits) dX7_fits_20 (q := 23) rfl fl7_213 (Or.inl rfl)
def rX7_fits_23 := W_iret (M := mX7_fits) dX7_fits_23 rfl
-- X7_has
theorem eX7_has {d : Nat} {h : qH} {Q : Option (Option Value) → qH → Prop} {s0 : Nat} {x1 : Int32} {x2 : Int32} : WM d mX7_has [.ref s0, .int x1, .int x2] h Q = WP d mX7_has (0, 0) 0 [some (.ref s0), some (.int x1), some (.int x2)] [] h Q := rfl
def rX7_has_0 := W_iload1 (M := mX7_has) dX7_has_0 (q := 1) rfl
def rX7_has_1 := W_if_eq (M := mX7_has) dX7_has_1 (q := 4) rfl (t := 22) rfl
def rX7_has_4 := W_iload2 (M := mX7_has) dX7_has_4 (q := 5) rfl
def rX7_has_5 := W_if_eq (M := mX7_has) dX7_has_5 (q := 8) rfl (t := 12) rfl
def rX7_has_8 := W_iconst (M := mX7_has) dX7_has_8 (q := 9) rfl (v := (1)) rfl
def rX7_has_9 := W_goto (M := mX7_has) dX7_has_9 (t := 13) rfl
def rX7_has_12 := W_iconst (M := mX7_has) dX7_has_12 (q := 13) rfl (v := (4)) rfl
def rX7_has_13 := W_aload0 (M := mX7_has) dX7_has_13 (q := 14) rfl
def rX7_has_13b := W_aloadR0 (M := mX7_has) dX7_has_13 (q := 14) rfl
def rX7_has_14 := W_getR (M := mX7_has) dX7_has_14 (q := 17) rfl fl7_10 ⟨_, rfl⟩
def rX7_has_17 := W_getI (M := mX7_has) dX7_has_17 (q := 20) rfl fl7_289 (Or.inl rfl)
def rX7_has_20 := W_isub (M := mX7_has) dX7_has_20 (q := 21) rfl
def rX7_has_21 := W_iret (M := mX7_has) dX7_has_21 rfl
def rX7_has_22 := W_iload2 (M := mX7_has) dX7_has_22 (q := 23) rfl
def rX7_has_23 := W_if_eq (M := mX7_has) dX7_has_23 (q := 26) rfl (t := 30) rfl
def rX7_has_26 := W_iconst (M := mX7_has) dX7_has_26 (q := 27) rfl (v := (3)) rfl
def rX7_has_27 := W_goto (M := mX7_has) dX7_has_27 (t := 31) rfl
def rX7_has_30 := W_iconst (M := mX7_has) dX7_has_30 (q := 31) rfl (v := (0)) rfl
def rX7_has_31 := W_iret (M := mX7_has) dX7_has_31 rfl
-- X7_house
theorem eX7_house {d : Nat} {h : qH} {Q : Option (Option Value) → qH → Prop} {s0 : Nat} {x1 : Int32} {x2 : Int32} : WM d mX7_house [.ref s0, .int x1, .int x2] h Q = WP d mX7_house (0, 0) 0 [some (.ref s0), some (.int x1), some (.int x2)] [] h Q := rfl
def rX7_house_0 := W_aload0 (M := mX7_house) dX7_house_0 (q := 1) rfl
def rX7_house_0b := W_aloadR0 (M := mX7_house) dX7_house_0 (q := 1) rfl
def rX7_house_1 := W_iload1 (M := mX7_house) dX7_house_1 (q := 2) rfl
def rX7_house_2 := W_invV1 (M := mX7_house) dX7_house_2 (q := 5) rfl ml0_7_113 rfl
def rX7_house_5 := W_if_eq (M := mX7_house) dX7_house_5 (q := 8) rfl (t := 10) rfl
def rX7_house_8 := W_iconst (M := mX7_house) dX7_house_8 (q := 9) rfl (v := (-1)) rfl
def rX7_house_9 := W_iret (M := mX7_house) dX7_house_9 rfl
def rX7_house_10 := W_iload2 (M := mX7_house) dX7_house_10 (q := 11) rfl
def rX7_house_11 := W_tab (M := mX7_house) (k := 0) dX7_house_11 [48, 58, 74, 84, 94, 106] (df := 118) rfl rfl (by decide) (by decide) 0 rfl
def rX7_house_48 := W_aload0 (M := mX7_house) dX7_house_48 (q := 49) rfl
def rX7_house_48b := W_aloadR0 (M := mX7_house) dX7_house_48 (q := 49) rfl
def rX7_house_49 := W_getR (M := mX7_house) dX7_house_49 (q := 52) rfl fl7_10 ⟨_, rfl⟩
def rX7_house_52 := W_getA (M := mX7_house) dX7_house_52 (q := 55) rfl fl7_117 ⟨_, rfl⟩
def rX7_house_55 := W_iload1 (M := mX7_house) dX7_house_55 (q := 56) rfl
def rX7_house_56 := W_iald (M := mX7_house) dX7_house_56 (q := 57) rfl
def rX7_house_57 := W_iret (M := mX7_house) dX7_house_57 rfl
def rX7_house_58 := W_aload0 (M := mX7_house) dX7_house_58 (q := 59) rfl
def rX7_house_58b := W_aloadR0 (M := mX7_house) dX7_house_58 (q := 59) rfl
def rX7_house_59 := W_getR (M := mX7_house) dX7_house_59 (q := 62) rfl fl7_10 ⟨_, rfl⟩
def rX7_house_62 := W_iload1 (M := mX7_house) dX7_house_62 (q := 63) rfl
def rX7_house_63 := W_aload0 (M := mX7_house) dX7_house_63 (q := 64) rfl
def rX7_house_63b := W_aloadR0 (M := mX7_house) dX7_house_63 (q := 64) rfl
def rX7_house_64 := W_getR (M := mX7_house) dX7_house_64 (q := 67) rfl fl7_38 ⟨_, rfl⟩
def rX7_house_67 := W_getI (M := mX7_house) dX7_house_67 (q := 70) rfl fl7_121 (Or.inl rfl)
def rX7_house_70 := W_invV2 (M := mX7_house) dX7_house_70 (q := 73) rfl ml0_7_124 rfl
def rX7_house_73 := W_iret (M := mX7_house) dX7_house_73 rfl
def rX7_house_74 := W_aload0 (M := mX7_house) dX7_house_74 (q := 75) rfl
def rX7_house_74b := W_aloadR0 (M := mX7_house) dX7_house_74 (q := 75) rfl
def rX7_house_75 := W_getR (M := mX7_house) dX7_house_75 (q := 78) rfl fl7_10 ⟨_, rfl⟩
def rX7_house_78 := W_getA (M := mX7_house) dX7_house_78 (q := 81) rfl fl7_128 ⟨_, rfl⟩
def rX7_house_81 := W_iload1 (M := mX7_house) dX7_house_81 (q := 82) rfl
def rX7_house_82 := W_iald (M := mX7_house) dX7_house_82 (q := 83) rfl
def rX7_house_83 := W_iret (M := mX7_house) dX7_house_83 rfl
def rX7_house_84 := W_aload0 (M := mX7_house) dX7_house_84 (q := 85) rfl
def rX7_house_84b := W_aloadR0 (M := mX7_house) dX7_house_84 (q := 85) rfl
def rX7_house_85 := W_getR (M := mX7_house) dX7_house_85 (q := 88) rfl fl7_10 ⟨_, rfl⟩
def rX7_house_88 := W_getA (M := mX7_house) dX7_house_88 (q := 91) rfl fl7_131 ⟨_, rfl⟩
def rX7_house_91 := W_iload1 (M := mX7_house) dX7_house_91 (q := 92) rfl
def rX7_house_92 := W_iald (M := mX7_house) dX7_house_92 (q := 93) rfl
def rX7_house_93 := W_iret (M := mX7_house) dX7_house_93 rfl
def rX7_house_94 := W_aload0 (M := mX7_house) dX7_house_94 (q := 95) rfl
def rX7_house_94b := W_aloadR0 (M := mX7_house) dX7_house_94 (q := 95) rfl
def rX7_house_95 := W_getR (M := mX7_house) dX7_house_95 (q := 98) rfl fl7_38 ⟨_, rfl⟩
def rX7_house_98 := W_getI (M := mX7_house) dX7_house_98 (q := 101) rfl fl7_121 (Or.inl rfl)
def rX7_house_101 := W_iload1 (M := mX7_house) dX7_house_101 (q := 102) rfl
def rX7_house_102 := W_ishr (M := mX7_house) dX7_house_102 (q := 103) rfl
def rX7_house_103 := W_iconst (M := mX7_house) dX7_house_103 (q := 104) rfl (v := (1)) rfl
def rX7_house_104 := W_iand (M := mX7_house) dX7_house_104 (q := 105) rfl
def rX7_house_105 := W_iret (M := mX7_house) dX7_house_105 rfl
def rX7_house_106 := W_aload0 (M := mX7_house) dX7_house_106 (q := 107) rfl
def rX7_house_106b := W_aloadR0 (M := mX7_house) dX7_house_106 (q := 107) rfl
def rX7_house_107 := W_getR (M := mX7_house) dX7_house_107 (q := 110) rfl fl7_38 ⟨_, rfl⟩
def rX7_house_110 := W_getI (M := mX7_house) dX7_house_110 (q := 113) rfl fl7_134 (Or.inl rfl)
def rX7_house_113 := W_iload1 (M := mX7_house) dX7_house_113 (q := 114) rfl
def rX7_house_114 := W_ishr (M := mX7_house) dX7_house_114 (q := 115) rfl
def rX7_house_115 := W_iconst (M := mX7_house) dX7_house_115 (q := 116) rfl (v := (1)) rfl
def rX7_house_116 := W_iand (M := mX7_house) dX7_house_116 (q := 117) rfl
def rX7_house_117 := W_iret (M := mX7_house) dX7_house_117 rfl
def rX7_house_118 := W_aload0 (M := mX7_house) dX7_house_118 (q := 119) rfl
def rX7_house_118b := W_aloadR0 (M := mX7_house) dX7_house_118 (q := 119) rfl
def rX7_house_119 := W_iconst (M := mX7_house) dX7_house_119 (q := 120) rfl (v := (1)) rfl
def rX7_house_120 := W_invV1 (M := mX7_house) dX7_house_120 (q := 123) rfl ml0_7_87 rfl
def rX7_house_123 := W_iret (M := mX7_house) dX7_house_123 rfl
-- X7_image
theorem eX7_image {d : Nat} {h : qH} {Q : Option (Option Value) → qH → Prop} {s0 : Nat} : WM d mX7_image [.ref s0] h Q = WP d mX7_image (0, 0) 0 [some (.ref s0), none] [] h Q := rfl
def rX7_image_0 := W_aload0 (M := mX7_image) dX7_image_0 (q := 1) rfl
def rX7_image_0b := W_aloadR0 (M := mX7_image) dX7_image_0 (q := 1) rfl
def rX7_image_1 := W_invV0 (M := mX7_image) dX7_image_1 (q := 4) rfl ml0_7_151 rfl
def rX7_image_4 := W_if_eq (M := mX7_image) dX7_image_4 (q := 7) rfl (t := 9) rfl
def rX7_image_7 := W_iconst (M := mX7_image) dX7_image_7 (q := 8) rfl (v := (-1)) rfl
def rX7_image_8 := W_iret (M := mX7_image) dX7_image_8 rfl
def rX7_image_9 := W_aload0 (M := mX7_image) dX7_image_9 (q := 10) rfl
def rX7_image_9b := W_aloadR0 (M := mX7_image) dX7_image_9 (q := 10) rfl
def rX7_image_10 := W_getR (M := mX7_image) dX7_image_10 (q := 13) rfl fl7_38 ⟨_, rfl⟩
def rX7_image_13 := W_invV0 (M := mX7_image) dX7_image_13 (q := 16) rfl ml0_7_275 rfl
def rX7_image_16 := W_istore1 (M := mX7_image) dX7_image_16 (q := 17) rfl
def rX7_image_17 := W_iload1 (M := mX7_image) dX7_image_17 (q := 18) rfl
def rX7_image_18 := W_iconst (M := mX7_image) dX7_image_18 (q := 19) rfl (v := (-1)) rfl
def rX7_image_19 := W_icmp_ne (M := mX7_image) dX7_image_19 (q := 22) rfl (t := 30) rfl
def rX7_image_22 := W_aload0 (M := mX7_image) dX7_image_22 (q := 23) rfl
def rX7_image_22b := W_aloadR0 (M := mX7_image) dX7_image_22 (q := 23) rfl
def rX7_image_23 := W_iconst (M := mX7_image) dX7_image_23 (q := 24) rfl (v := (3)) rfl
def rX7_image_24 := W_invV1 (M := mX7_image) dX7_image_24 (q := 27) rfl ml0_7_87 rfl
def rX7_image_27 := W_goto (M := mX7_image) dX7_image_27 (t := 31) rfl
def rX7_image_30 := W_iload1 (M := mX7_image) dX7_image_30 (q := 31) rfl
def rX7_image_31 := W_iret (M := mX7_image) dX7_image_31 rfl
-- X7_init
theorem eX7_init {d : Nat} {h : qH} {Q : Option (Option Value) → qH → Prop} {s0 : Nat} : WM d mX7_init [.ref s0] h Q = WP d mX7_init (0, 0) 0 [some (.ref s0)] [] h Q := rfl
def rX7_init_0 := W_aload0 (M := mX7_init) dX7_init_0 (q := 1) rfl
def rX7_init_0b := W_aloadR0 (M := mX7_init) dX7_init_0 (q := 1) rfl
def rX7_init_1 := W_objI (M := mX7_init) dX7_init_1 (q := 4) rfl ml10_7_1 ml2n_7_1 ml3n_7_1
def rX7_init_4 := W_aload0 (M := mX7_init) dX7_init_4 (q := 5) rfl
def rX7_init_4b := W_aloadR0 (M := mX7_init) dX7_init_4 (q := 5) rfl
def rX7_init_5 := W_new (M := mX7_init) dX7_init_5 (q := 8) rfl cl7_7 (by decide)
def rX7_init_8 := W_dupI (M := mX7_init) dX7_init_8 (q := 9) rfl
def rX7_init_8b := W_dupR (M := mX7_init) dX7_init_8 (q := 9) rfl
def rX7_init_9 := W_invN0 (M := mX7_init) dX7_init_9 (q := 12) rfl ml3_7_9 ml2n_7_9 rfl
def rX7_init_12 := W_putR (M := mX7_init) dX7_init_12 (q := 15) rfl fl7_10 ⟨_, rfl⟩ (Or.inl rfl)
def rX7_init_15 := W_aload0 (M := mX7_init) dX7_init_15 (q := 16) rfl
def rX7_init_15b := W_aloadR0 (M := mX7_init) dX7_init_15 (q := 16) rfl
def rX7_init_16 := W_new (M := mX7_init) dX7_init_16 (q := 19) rfl cl7_7 (by decide)
def rX7_init_19 := W_dupI (M := mX7_init) dX7_init_19 (q := 20) rfl
def rX7_init_19b := W_dupR (M := mX7_init) dX7_init_19 (q := 20) rfl
def rX7_init_20 := W_invN0 (M := mX7_init) dX7_init_20 (q := 23) rfl ml3_7_9 ml2n_7_9 rfl
def rX7_init_23 := W_putR (M := mX7_init) dX7_init_23 (q := 26) rfl fl7_16 ⟨_, rfl⟩ (Or.inl rfl)
def rX7_init_26 := W_aload0 (M := mX7_init) dX7_init_26 (q := 27) rfl
def rX7_init_26b := W_aloadR0 (M := mX7_init) dX7_init_26 (q := 27) rfl
def rX7_init_27 := W_new (M := mX7_init) dX7_init_27 (q := 30) rfl cl7_19 (by decide)
def rX7_init_30 := W_dupI (M := mX7_init) dX7_init_30 (q := 31) rfl
def rX7_init_30b := W_dupR (M := mX7_init) dX7_init_30 (q := 31) rfl
def rX7_init_31 := W_invN0 (M := mX7_init) dX7_init_31 (q := 34) rfl ml3_7_21 ml2n_7_21 rfl
def rX7_init_34 := W_putR (M := mX7_init) dX7_init_34 (q := 37) rfl fl7_22 ⟨_, rfl⟩ (Or.inr ⟨rfl, rfl, rfl⟩)
def rX7_init_37 := W_aload0 (M := mX7_init) dX7_init_37 (q := 38) rfl
def rX7_init_37b := W_aloadR0 (M := mX7_init) dX7_init_37 (q := 38) rfl
def rX7_init_38 := W_new (M := mX7_init) dX7_init_38 (q := 41) rfl cl7_26 (by decide)
def rX7_init_41 := W_dupI (M := mX7_init) dX7_init_41 (q := 42) rfl
def rX7_init_41b := W_dupR (M := mX7_init) dX7_init_41 (q := 42) rfl
def rX7_init_42 := W_aload0 (M := mX7_init) dX7_init_42 (q := 43) rfl
def rX7_init_42b := W_aloadR0 (M := mX7_init) dX7_init_42 (q := 43) rfl
def rX7_init_43 := W_getR (M := mX7_init) dX7_init_43 (q := 46) rfl fl7_22 ⟨_, rfl⟩
def rX7_init_46 := W_aload0 (M := mX7_init) dX7_init_46 (q := 47) rfl
def rX7_init_46b := W_aloadR0 (M := mX7_init) dX7_init_46 (q := 47) rfl
def rX7_init_47 := W_getR (M := mX7_init) dX7_init_47 (q := 50) rfl fl7_16 ⟨_, rfl⟩
def rX7_init_50 := W_invI2 (M := mX7_init) dX7_init_50 (q := 53) rfl ml2_7_28 rfl
def rX7_init_53 := W_putR (M := mX7_init) dX7_init_53 (q := 56) rfl fl7_31 ⟨_, rfl⟩ (Or.inr ⟨rfl, rfl, rfl⟩)
def rX7_init_56 := W_aload0 (M := mX7_init) dX7_init_56 (q := 57) rfl
def rX7_init_56b := W_aloadR0 (M := mX7_init) dX7_init_56 (q := 57) rfl
def rX7_init_57 := W_new (M := mX7_init) dX7_init_57 (q := 60) rfl cl7_35 (by decide)
def rX7_init_60 := W_dupI (M := mX7_init) dX7_init_60 (q := 61) rfl
def rX7_init_60b := W_dupR (M := mX7_init) dX7_init_60 (q := 61) rfl
def rX7_init_61 := W_invN0 (M := mX7_init) dX7_init_61 (q := 64) rfl ml3_7_37 ml2n_7_37 rfl
def rX7_init_64 := W_putR (M := mX7_init) dX7_init_64 (q := 67) rfl fl7_38 ⟨_, rfl⟩ (Or.inr ⟨rfl, rfl, rfl⟩)
def rX7_init_67 := W_aload0 (M := mX7_init) dX7_init_67 (q := 68) rfl
def rX7_init_67b := W_aloadR0 (M := mX7_init) dX7_init_67 (q := 68) rfl
def rX7_init_68 := W_new (M := mX7_init) dX7_init_68 (q := 71) rfl cl7_42 (by decide)
def rX7_init_71 := W_dupI (M := mX7_init) dX7_init_71 (q := 72) rfl
def rX7_init_71b := W_dupR (M := mX7_init) dX7_init_71 (q := 72) rfl
def rX7_init_72 := W_aload0 (M := mX7_init) dX7_init_72 (q := 73) rfl
def rX7_init_72b := W_aloadR0 (M := mX7_init) dX7_init_72 (q := 73) rfl
def rX7_init_73 := W_getR (M := mX7_init) dX7_init_73 (q := 76) rfl fl7_10 ⟨_, rfl⟩
def rX7_init_76 := W_invI1 (M := mX7_init) dX7_init_76 (q := 79) rfl ml2_7_44 rfl
def rX7_init_79 := W_putR (M := mX7_init) dX7_init_79 (q := 82) rfl fl7_47 ⟨_, rfl⟩ (Or.inr ⟨rfl, rfl, rfl⟩)
def rX7_init_82 := W_aload0 (M := mX7_init) dX7_init_82 (q := 83) rfl
def rX7_init_82b := W_aloadR0 (M := mX7_init) dX7_init_82 (q := 83) rfl
def rX7_init_83 := W_new (M := mX7_init) dX7_init_83 (q := 86) rfl cl7_51 (by decide)
def rX7_init_86 := W_dupI (M := mX7_init) dX7_init_86 (q := 87) rfl
def rX7_init_86b := W_dupR (M := mX7_init) dX7_init_86 (q := 87) rfl
def rX7_init_87 := W_aload0 (M := mX7_init) dX7_init_87 (q := 88) rfl
def rX7_init_87b := W_aloadR0 (M := mX7_init) dX7_init_87 (q := 88) rfl
def rX7_init_88 := W_getR (M := mX7_init) dX7_init_88 (q := 91) rfl fl7_47 ⟨_, rfl⟩
def rX7_init_91 := W_invI1 (M := mX7_init) dX7_init_91 (q := 94) rfl ml2_7_53 rfl
def rX7_init_94 := W_putR (M := mX7_init) dX7_init_94 (q := 97) rfl fl7_56 ⟨_, rfl⟩ (Or.inr ⟨rfl, rfl, rfl⟩)
def rX7_init_97 := W_aload0 (M := mX7_init) dX7_init_97 (q := 98) rfl
def rX7_init_97b := W_aloadR0 (M := mX7_init) dX7_init_97 (q := 98) rfl
def rX7_init_98 := W_new (M := mX7_init) dX7_init_98 (q := 101) rfl cl7_60 (by decide)
def rX7_init_101 := W_dupI (M := mX7_init) dX7_init_101 (q := 102) rfl
def rX7_init_101b := W_dupR (M := mX7_init) dX7_init_101 (q := 102) rfl
def rX7_init_102 := W_aload0 (M := mX7_init) dX7_init_102 (q := 103) rfl
def rX7_init_102b := W_aloadR0 (M := mX7_init) dX7_init_102 (q := 103) rfl
def rX7_init_103 := W_getR (M := mX7_init) dX7_init_103 (q := 106) rfl fl7_47 ⟨_, rfl⟩
def rX7_init_106 := W_invI1 (M := mX7_init) dX7_init_106 (q := 109) rfl ml2_7_62 rfl
def rX7_init_109 := W_putR (M := mX7_init) dX7_init_109 (q := 112) rfl fl7_63 ⟨_, rfl⟩ (Or.inr ⟨rfl, rfl, rfl⟩)
def rX7_init_112 := W_vret (M := mX7_init) dX7_init_112 rfl
-- X7_judge
theorem eX7_judge {d : Nat} {h : qH} {Q : Option (Option Value) → qH → Prop} {s0 : Nat} : WM d mX7_judge [.ref s0] h Q = WP d mX7_judge (0, 0) 0 [some (.ref s0), none] [] h Q := rfl
def rX7_judge_0 := W_aload0 (M := mX7_judge) dX7_judge_0 (q := 1) rfl
def rX7_judge_0b := W_aloadR0 (M := mX7_judge) dX7_judge_0 (q := 1) rfl
def rX7_judge_1 := W_invV0 (M := mX7_judge) dX7_judge_1 (q := 4) rfl ml0_7_151 rfl
def rX7_judge_4 := W_if_eq (M := mX7_judge) dX7_judge_4 (q := 7) rfl (t := 9) rfl
def rX7_judge_7 := W_iconst (M := mX7_judge) dX7_judge_7 (q := 8) rfl (v := (-1)) rfl
def rX7_judge_8 := W_iret (M := mX7_judge) dX7_judge_8 rfl
def rX7_judge_9 := W_iconst (M := mX7_judge) dX7_judge_9 (q := 10) rfl (v := (0)) rfl
def rX7_judge_10 := W_istore1 (M := mX7_judge) dX7_judge_10 (q := 11) rfl
def rX7_judge_11 := W_iload1 (M := mX7_judge) dX7_judge_11 (q := 12) rfl
def rX7_judge_12 := W_aload0 (M := mX7_judge) dX7_judge_12 (q := 13) rfl
def rX7_judge_12b := W_aloadR0 (M := mX7_judge) dX7_judge_12 (q := 13) rfl
def rX7_judge_13 := W_getR (M := mX7_judge) dX7_judge_13 (q := 16) rfl fl7_10 ⟨_, rfl⟩
def rX7_judge_16 := W_getI (M := mX7_judge) dX7_judge_16 (q := 19) rfl fl7_231 (Or.inl rfl)
def rX7_judge_19 := W_icmp_ge (M := mX7_judge) dX7_judge_19 (q := 22) rfl (t := 66) rfl
def rX7_judge_22 := W_aload0 (M := mX7_judge) dX7_judge_22 (q := 23) rfl
def rX7_judge_22b := W_aloadR0 (M := mX7_judge) dX7_judge_22 (q := 23) rfl
def rX7_judge_23 := W_getR (M := mX7_judge) dX7_judge_23 (q := 26) rfl fl7_47 ⟨_, rfl⟩
def rX7_judge_26 := W_iconst (M := mX7_judge) dX7_judge_26 (q := 27) rfl (v := (0)) rfl
def rX7_judge_27 := W_aload0 (M := mX7_judge) dX7_judge_27 (q := 28) rfl
def rX7_judge_27b := W_aloadR0 (M := mX7_judge) dX7_judge_27 (q := 28) rfl
def rX7_judge_28 := W_getR (M := mX7_judge) dX7_judge_28 (q := 31) rfl fl7_10 ⟨_, rfl⟩
def rX7_judge_31 := W_getI (M := mX7_judge) dX7_judge_31 (q := 34) rfl fl7_94 (Or.inl rfl)
def rX7_judge_34 := W_aload0 (M := mX7_judge) dX7_judge_34 (q := 35) rfl
def rX7_judge_34b := W_aloadR0 (M := mX7_judge) dX7_judge_34 (q := 35) rfl
def rX7_judge_35 := W_getR (M := mX7_judge) dX7_judge_35 (q := 38) rfl fl7_10 ⟨_, rfl⟩
def rX7_judge_38 := W_getA (M := mX7_judge) dX7_judge_38 (q := 41) rfl fl7_234 ⟨_, rfl⟩
def rX7_judge_41 := W_iload1 (M := mX7_judge) dX7_judge_41 (q := 42) rfl
def rX7_judge_42 := W_iald (M := mX7_judge) dX7_judge_42 (q := 43) rfl
def rX7_judge_43 := W_invV3 (M := mX7_judge) dX7_judge_43 (q := 46) rfl ml0_7_163 rfl
def rX7_judge_46 := W_aload0 (M := mX7_judge) dX7_judge_46 (q := 47) rfl
def rX7_judge_46b := W_aloadR0 (M := mX7_judge) dX7_judge_46 (q := 47) rfl
def rX7_judge_47 := W_getR (M := mX7_judge) dX7_judge_47 (q := 50) rfl fl7_10 ⟨_, rfl⟩
def rX7_judge_50 := W_getA (M := mX7_judge) dX7_judge_50 (q := 53) rfl fl7_237 ⟨_, rfl⟩
def rX7_judge_53 := W_iload1 (M := mX7_judge) dX7_judge_53 (q := 54) rfl
def rX7_judge_54 := W_iald (M := mX7_judge) dX7_judge_54 (q := 55) rfl
def rX7_judge_55 := W_icmp_eq (M := mX7_judge) dX7_judge_55 (q := 58) rfl (t := 60) rfl
def rX7_judge_58 := W_iload1 (M := mX7_judge) dX7_judge_58 (q := 59) rfl
def rX7_judge_59 := W_iret (M := mX7_judge) dX7_judge_59 rfl
def rX7_judge_60 := W_iinc1 (M := mX7_judge) dX7_judge_60 (q := 63) rfl (v := (1)) rfl
def rX7_judge_63 := W_goto (M := mX7_judge) dX7_judge_63 (t := 11) rfl
def rX7_judge_66 := W_bipush (M := mX7_judge) dX7_judge_66 (q := 68) rfl (v := (-2)) rfl
def rX7_judge_68 := W_iret (M := mX7_judge) dX7_judge_68 rfl
-- X7_lastDay
theorem eX7_lastDay {d : Nat} {h : qH} {Q : Option (Option Value) → qH → Prop} {s0 : Nat} : WM d mX7_lastDay [.ref s0] h Q = WP d mX7_lastDay (0, 0) 0 [some (.ref s0), none, none] [] h Q := rfl
def rX7_lastDay_0 := W_aload0 (M := mX7_lastDay) dX7_lastDay_0 (q := 1) rfl
def rX7_lastDay_0b := W_aloadR0 (M := mX7_lastDay) dX7_lastDay_0 (q := 1) rfl
def rX7_lastDay_1 := W_invV0 (M := mX7_lastDay) dX7_lastDay_1 (q := 4) rfl ml0_7_151 rfl
def rX7_lastDay_4 := W_if_eq (M := mX7_lastDay) dX7_lastDay_4 (q := 7) rfl (t := 9) rfl
def rX7_lastDay_7 := W_iconst (M := mX7_lastDay) dX7_lastDay_7 (q := 8) rfl (v := (-1)) rfl
def rX7_lastDay_8 := W_iret (M := mX7_lastDay) dX7_lastDay_8 rfl
def rX7_lastDay_9 := W_bipush (M := mX7_lastDay) dX7_lastDay_9 (q := 11) rfl (v := (-2)) rfl
def rX7_lastDay_11 := W_istore1 (M := mX7_lastDay) dX7_lastDay_11 (q := 12) rfl
def rX7_lastDay_12 := W_iconst (M := mX7_lastDay) dX7_lastDay_12 (q := 13) rfl (v := (0)) rfl
def rX7_lastDay_13 := W_istore2 (M := mX7_lastDay) dX7_lastDay_13 (q := 14) rfl
def rX7_lastDay_14 := W_iload2 (M := mX7_lastDay) dX7_lastDay_14 (q := 15) rfl
def rX7_lastDay_15 := W_aload0 (M := mX7_lastDay) dX7_lastDay_15 (q := 16) rfl
def rX7_lastDay_15b := W_aloadR0 (M := mX7_lastDay) dX7_lastDay_15 (q := 16) rfl
def rX7_lastDay_16 := W_getR (M := mX7_lastDay) dX7_lastDay_16 (q := 19) rfl fl7_10 ⟨_, rfl⟩
def rX7_lastDay_19 := W_getI (M := mX7_lastDay) dX7_lastDay_19 (q := 22) rfl fl7_104 (Or.inl rfl)
def rX7_lastDay_22 := W_icmp_ge (M := mX7_lastDay) dX7_lastDay_22 (q := 25) rfl (t := 54) rfl
def rX7_lastDay_25 := W_iload1 (M := mX7_lastDay) dX7_lastDay_25 (q := 26) rfl
def rX7_lastDay_26 := W_aload0 (M := mX7_lastDay) dX7_lastDay_26 (q := 27) rfl
def rX7_lastDay_26b := W_aloadR0 (M := mX7_lastDay) dX7_lastDay_26 (q := 27) rfl
def rX7_lastDay_27 := W_getR (M := mX7_lastDay) dX7_lastDay_27 (q := 30) rfl fl7_47 ⟨_, rfl⟩
def rX7_lastDay_30 := W_aload0 (M := mX7_lastDay) dX7_lastDay_30 (q := 31) rfl
def rX7_lastDay_30b := W_aloadR0 (M := mX7_lastDay) dX7_lastDay_30 (q := 31) rfl
def rX7_lastDay_31 := W_getR (M := mX7_lastDay) dX7_lastDay_31 (q := 34) rfl fl7_38 ⟨_, rfl⟩
def rX7_lastDay_34 := W_getI (M := mX7_lastDay) dX7_lastDay_34 (q := 37) rfl fl7_121 (Or.inl rfl)
def rX7_lastDay_37 := W_iload2 (M := mX7_lastDay) dX7_lastDay_37 (q := 38) rfl
def rX7_lastDay_38 := W_invV2 (M := mX7_lastDay) dX7_lastDay_38 (q := 41) rfl ml0_7_142 rfl
def rX7_lastDay_41 := W_invS1 (M := mX7_lastDay) dX7_lastDay_41 (q := 44) rfl ml1_7_145 rfl rfl rfl
def rX7_lastDay_44 := W_max (M := mX7_lastDay) dX7_lastDay_44 (q := 47) rfl ml11_7_158 ml1n_7_158
def rX7_lastDay_47 := W_istore1 (M := mX7_lastDay) dX7_lastDay_47 (q := 48) rfl
def rX7_lastDay_48 := W_iinc2 (M := mX7_lastDay) dX7_lastDay_48 (q := 51) rfl (v := (1)) rfl
def rX7_lastDay_51 := W_goto (M := mX7_lastDay) dX7_lastDay_51 (t := 14) rfl
def rX7_lastDay_54 := W_iload1 (M := mX7_lastDay) dX7_lastDay_54 (q := 55) rfl
def rX7_lastDay_55 := W_iret (M := mX7_lastDay) dX7_lastDay_55 rfl
-- X7_led
theorem eX7_led {d : Nat} {h : qH} {Q : Option (Option Value) → qH → Prop} {s0 : Nat} {x1 : Int32} : WM d mX7_led [.ref s0, .int x1] h Q = WP d mX7_led (0, 0) 0 [some (.ref s0), some (.int x1), none, none] [] h Q := rfl
def rX7_led_0 := W_iload1 (M := mX7_led) dX7_led_0 (q := 1) rfl
def rX7_led_1 := W_istore2 (M := mX7_led) dX7_led_1 (q := 2) rfl
def rX7_led_2 := W_iconst (M := mX7_led) dX7_led_2 (q := 3) rfl (v := (0)) rfl
def rX7_led_3 := W_istore3 (M := mX7_led) dX7_led_3 (q := 4) rfl
def rX7_led_4 := W_iload3 (M := mX7_led) dX7_led_4 (q := 5) rfl
def rX7_led_5 := W_aload0 (M := mX7_led) dX7_led_5 (q := 6) rfl
def rX7_led_5b := W_aloadR0 (M := mX7_led) dX7_led_5 (q := 6) rfl
def rX7_led_6 := W_getR (M := mX7_led) dX7_led_6 (q := 9) rfl fl7_10 ⟨_, rfl⟩
def rX7_led_9 := W_getI (M := mX7_led) dX7_led_9 (q := 12) rfl fl7_104 (Or.inl rfl)
def rX7_led_12 := W_icmp_ge (M := mX7_led) dX7_led_12 (q := 15) rfl (t := 51) rfl
def rX7_led_15 := W_aload0 (M := mX7_led) dX7_led_15 (q := 16) rfl
def rX7_led_15b := W_aloadR0 (M := mX7_led) dX7_led_15 (q := 16) rfl
def rX7_led_16 := W_getR (M := mX7_led) dX7_led_16 (q := 19) rfl fl7_47 ⟨_, rfl⟩
def rX7_led_19 := W_aload0 (M := mX7_led) dX7_led_19 (q := 20) rfl
def rX7_led_19b := W_aloadR0 (M := mX7_led) dX7_led_19 (q := 20) rfl
def rX7_led_20 := W_getR (M := mX7_led) dX7_led_20 (q := 23) rfl fl7_38 ⟨_, rfl⟩
def rX7_led_23 := W_getI (M := mX7_led) dX7_led_23 (q := 26) rfl fl7_121 (Or.inl rfl)
def rX7_led_26 := W_iload3 (M := mX7_led) dX7_led_26 (q := 27) rfl
def rX7_led_27 := W_invV2 (M := mX7_led) dX7_led_27 (q := 30) rfl ml0_7_142 rfl
def rX7_led_30 := W_sipush (M := mX7_led) dX7_led_30 (q := 33) rfl (v := (1000)) rfl
def rX7_led_33 := W_icmp_lt (M := mX7_led) dX7_led_33 (q := 36) rfl (t := 45) rfl
def rX7_led_36 := W_iload2 (M := mX7_led) dX7_led_36 (q := 37) rfl
def rX7_led_37 := W_if_ne (M := mX7_led) dX7_led_37 (q := 40) rfl (t := 42) rfl
def rX7_led_40 := W_iload3 (M := mX7_led) dX7_led_40 (q := 41) rfl
def rX7_led_41 := W_iret (M := mX7_led) dX7_led_41 rfl
def rX7_led_42 := W_iinc2 (M := mX7_led) dX7_led_42 (q := 45) rfl (v := (-1)) rfl
def rX7_led_45 := W_iinc3 (M := mX7_led) dX7_led_45 (q := 48) rfl (v := (1)) rfl
def rX7_led_48 := W_goto (M := mX7_led) dX7_led_48 (t := 4) rfl
def rX7_led_51 := W_throw (M := mX7_led) dX7_led_51 rfl
def rX7_led_54 := W_dupI (M := mX7_led) dX7_led_54 (q := 55) rfl
def rX7_led_54b := W_dupR (M := mX7_led) dX7_led_54 (q := 55) rfl
-- X7_litBy
theorem eX7_litBy {d : Nat} {h : qH} {Q : Option (Option Value) → qH → Prop} {s0 : Nat} {x1 : Int32} : WM d mX7_litBy [.ref s0, .int x1] h Q = WP d mX7_litBy (0, 0) 0 [some (.ref s0), some (.int x1)] [] h Q := rfl
def rX7_litBy_0 := W_aload0 (M := mX7_litBy) dX7_litBy_0 (q := 1) rfl
def rX7_litBy_0b := W_aloadR0 (M := mX7_litBy) dX7_litBy_0 (q := 1) rfl
def rX7_litBy_1 := W_iload1 (M := mX7_litBy) dX7_litBy_1 (q := 2) rfl
def rX7_litBy_2 := W_invV1 (M := mX7_litBy) dX7_litBy_2 (q := 5) rfl ml0_7_113 rfl
def rX7_litBy_5 := W_if_eq (M := mX7_litBy) dX7_litBy_5 (q := 8) rfl (t := 10) rfl
def rX7_litBy_8 := W_iconst (M := mX7_litBy) dX7_litBy_8 (q := 9) rfl (v := (-1)) rfl
def rX7_litBy_9 := W_iret (M := mX7_litBy) dX7_litBy_9 rfl
def rX7_litBy_10 := W_aload0 (M := mX7_litBy) dX7_litBy_10 (q := 11) rfl
def rX7_litBy_10b := W_aloadR0 (M := mX7_litBy) dX7_litBy_10 (q := 11) rfl
def rX7_litBy_11 := W_getR (M := mX7_litBy) dX7_litBy_11 (q := 14) rfl fl7_47 ⟨_, rfl⟩
def rX7_litBy_14 := W_aload0 (M := mX7_litBy) dX7_litBy_14 (q := 15) rfl
def rX7_litBy_14b := W_aloadR0 (M := mX7_litBy) dX7_litBy_14 (q := 15) rfl
def rX7_litBy_15 := W_getR (M := mX7_litBy) dX7_litBy_15 (q := 18) rfl fl7_38 ⟨_, rfl⟩
def rX7_litBy_18 := W_getI (M := mX7_litBy) dX7_litBy_18 (q := 21) rfl fl7_121 (Or.inl rfl)
def rX7_litBy_21 := W_iload1 (M := mX7_litBy) dX7_litBy_21 (q := 22) rfl
def rX7_litBy_22 := W_invV2 (M := mX7_litBy) dX7_litBy_22 (q := 25) rfl ml0_7_148 rfl
def rX7_litBy_25 := W_iret (M := mX7_litBy) dX7_litBy_25 rfl
-- X7_lowest
theorem eX7_lowest {d : Nat} {h : qH} {Q : Option (Option Value) → qH → Prop} {x1 : Int64} {x2 : Int64} {x3 : Int32} : WM d mX7_lowest [.long x1, .long x2, .int x3] h Q = WP d mX7_lowest (0, 0) 0 [some (.long x1), none, some (.long x2), none, some (.int x3), none, none, none, none, none, none, none] [] h Q := rfl
def rX7_lowest_0 := W_lload2 (M := mX7_lowest) dX7_lowest_0 (q := 1) rfl
def rX7_lowest_1 := W_lstore5 (M := mX7_lowest) dX7_lowest_1 (q := 3) rfl
def rX7_lowest_3 := W_lload0 (M := mX7_lowest) dX7_lowest_3 (q := 4) rfl
def rX7_lowest_4 := W_lstore7 (M := mX7_lowest) dX7_lowest_4 (q := 6) rfl
def rX7_lowest_6 := W_iconst (M := mX7_lowest) dX7_lowest_6 (q := 7) rfl (v := (0)) rfl
def rX7_lowest_7 := W_istore9 (M := mX7_lowest) dX7_lowest_7 (q := 9) rfl
def rX7_lowest_9 := W_iload9 (M := mX7_lowest) dX7_lowest_9 (q := 11) rfl
def rX7_lowest_11 := W_sipush (M := mX7_lowest) dX7_lowest_11 (q := 14) rfl (v := (200)) rfl
def rX7_lowest_14 := W_icmp_ge (M := mX7_lowest) dX7_lowest_14 (q := 17) rfl (t := 45) rfl
def rX7_lowest_17 := W_lload7 (M := mX7_lowest) dX7_lowest_17 (q := 19) rfl
def rX7_lowest_19 := W_lconst (M := mX7_lowest) dX7_lowest_19 (q := 20) rfl (v := 0) rfl
def rX7_lowest_20 := W_lcmp (M := mX7_lowest) dX7_lowest_20 (q := 21) rfl
def rX7_lowest_21 := W_if_eq (M := mX7_lowest) dX7_lowest_21 (q := 24) rfl (t := 45) rfl
def rX7_lowest_24 := W_lload5 (M := mX7_lowest) dX7_lowest_24 (q := 26) rfl
def rX7_lowest_26 := W_lload7 (M := mX7_lowest) dX7_lowest_26 (q := 28) rfl
def rX7_lowest_28 := W_lrem (M := mX7_lowest) dX7_lowest_28 (q := 29) rfl
def rX7_lowest_29 := W_lstore10 (M := mX7_lowest) dX7_lowest_29 (q := 31) rfl
def rX7_lowest_31 := W_lload7 (M := mX7_lowest) dX7_lowest_31 (q := 33) rfl
def rX7_lowest_33 := W_lstore5 (M := mX7_lowest) dX7_lowest_33 (q := 35) rfl
def rX7_lowest_35 := W_lload10 (M := mX7_lowest) dX7_lowest_35 (q := 37) rfl
def rX7_lowest_37 := W_lstore7 (M := mX7_lowest) dX7_lowest_37 (q := 39) rfl
def rX7_lowest_39 := W_iinc9 (M := mX7_lowest) dX7_lowest_39 (q := 42) rfl (v := (1)) rfl
def rX7_lowest_42 := W_goto (M := mX7_lowest) dX7_lowest_42 (t := 9) rfl
def rX7_lowest_45 := W_lload5 (M := mX7_lowest) dX7_lowest_45 (q := 47) rfl
def rX7_lowest_47 := W_lconst (M := mX7_lowest) dX7_lowest_47 (q := 48) rfl (v := 0) rfl
def rX7_lowest_48 := W_lcmp (M := mX7_lowest) dX7_lowest_48 (q := 49) rfl
def rX7_lowest_49 := W_if_gt (M := mX7_lowest) dX7_lowest_49 (q := 52) rfl (t := 63) rfl
def rX7_lowest_52 := W_iload4 (M := mX7_lowest) dX7_lowest_52 (q := 54) rfl
def rX7_lowest_54 := W_if_eq (M := mX7_lowest) dX7_lowest_54 (q := 57) rfl (t := 61) rfl
def rX7_lowest_57 := W_lconst (M := mX7_lowest) dX7_lowest_57 (q := 58) rfl (v := 1) rfl
def rX7_lowest_58 := W_goto (M := mX7_lowest) dX7_lowest_58 (t := 62) rfl
def rX7_lowest_61 := W_lconst (M := mX7_lowest) dX7_lowest_61 (q := 62) rfl (v := 0) rfl
def rX7_lowest_62 := W_lret (M := mX7_lowest) dX7_lowest_62 rfl
def rX7_lowest_63 := W_iload4 (M := mX7_lowest) dX7_lowest_63 (q := 65) rfl
def rX7_lowest_65 := W_if_eq (M := mX7_lowest) dX7_lowest_65 (q := 68) rfl (t := 75) rfl
def rX7_lowest_68 := W_lload2 (M := mX7_lowest) dX7_lowest_68 (q := 69) rfl
def rX7_lowest_69 := W_lload5 (M := mX7_lowest) dX7_lowest_69 (q := 71) rfl
def rX7_lowest_71 := W_ldiv (M := mX7_lowest) dX7_lowest_71 (q := 72) rfl
def rX7_lowest_72 := W_goto (M := mX7_lowest) dX7_lowest_72 (t := 79) rfl
def rX7_lowest_75 := W_lload0 (M := mX7_lowest) dX7_lowest_75 (q := 76) rfl
def rX7_lowest_76 := W_lload5 (M := mX7_lowest) dX7_lowest_76 (q := 78) rfl
def rX7_lowest_78 := W_ldiv (M := mX7_lowest) dX7_lowest_78 (q := 79) rfl
def rX7_lowest_79 := W_lret (M := mX7_lowest) dX7_lowest_79 rfl
-- X7_mean
theorem eX7_mean {d : Nat} {h : qH} {Q : Option (Option Value) → qH → Prop} {s0 : Nat} {x1 : Int32} {x2 : Int32} : WM d mX7_mean [.ref s0, .int x1, .int x2] h Q = WP d mX7_mean (0, 0) 0 [some (.ref s0), some (.int x1), some (.int x2)] [] h Q := rfl
def rX7_mean_0 := W_aload0 (M := mX7_mean) dX7_mean_0 (q := 1) rfl
def rX7_mean_0b := W_aloadR0 (M := mX7_mean) dX7_mean_0 (q := 1) rfl
def rX7_mean_1 := W_invV0 (M := mX7_mean) dX7_mean_1 (q := 4) rfl ml0_7_151 rfl
def rX7_mean_4 := W_if_ne (M := mX7_mean) dX7_mean_4 (q := 7) rfl (t := 18) rfl
def rX7_mean_7 := W_aload0 (M := mX7_mean) dX7_mean_7 (q := 8) rfl
def rX7_mean_7b := W_aloadR0 (M := mX7_mean) dX7_mean_7 (q := 8) rfl
def rX7_mean_8 := W_iload1 (M := mX7_mean) dX7_mean_8 (q := 9) rfl
def rX7_mean_9 := W_iconst (M := mX7_mean) dX7_mean_9 (q := 10) rfl (v := (0)) rfl
def rX7_mean_10 := W_bipush (M := mX7_mean) dX7_mean_10 (q := 12) rfl (v := (90)) rfl
def rX7_mean_12 := W_invV3 (M := mX7_mean) dX7_mean_12 (q := 15) rfl ml0_7_75 rfl
def rX7_mean_15 := W_if_eq (M := mX7_mean) dX7_mean_15 (q := 18) rfl (t := 22) rfl
def rX7_mean_18 := W_ldc2_w (M := mX7_mean) dX7_mean_18 (q := 21) rfl cj7_247
def rX7_mean_21 := W_lret (M := mX7_mean) dX7_mean_21 rfl
def rX7_mean_22 := W_aload0 (M := mX7_mean) dX7_mean_22 (q := 23) rfl
def rX7_mean_22b := W_aloadR0 (M := mX7_mean) dX7_mean_22 (q := 23) rfl
def rX7_mean_23 := W_iconst (M := mX7_mean) dX7_mean_23 (q := 24) rfl (v := (2)) rfl
def rX7_mean_24 := W_iconst (M := mX7_mean) dX7_mean_24 (q := 25) rfl (v := (0)) rfl
def rX7_mean_25 := W_iload1 (M := mX7_mean) dX7_mean_25 (q := 26) rfl
def rX7_mean_26 := W_iload2 (M := mX7_mean) dX7_mean_26 (q := 27) rfl
def rX7_mean_27 := W_invV4 (M := mX7_mean) dX7_mean_27 (q := 30) rfl ml0_7_249 rfl
def rX7_mean_30 := W_lret (M := mX7_mean) dX7_mean_30 rfl
-- X7_mend
theorem eX7_mend {d : Nat} {h : qH} {Q : Option (Option Value) → qH → Prop} {s0 : Nat} {x1 : Int32} : WM d mX7_mend [.ref s0, .int x1] h Q = WP d mX7_mend (0, 0) 0 [some (.ref s0), some (.int x1)] [] h Q := rfl
def rX7_mend_0 := W_aload0 (M := mX7_mend) dX7_mend_0 (q := 1) rfl
def rX7_mend_0b := W_aloadR0 (M := mX7_mend) dX7_mend_0 (q := 1) rfl
def rX7_mend_1 := W_iload1 (M := mX7_mend) dX7_mend_1 (q := 2) rfl
def rX7_mend_2 := W_iconst (M := mX7_mend) dX7_mend_2 (q := 3) rfl (v := (0)) rfl
def rX7_mend_3 := W_invV2 (M := mX7_mend) dX7_mend_3 (q := 6) rfl ml0_7_269 rfl
def rX7_mend_6 := W_zret (M := mX7_mend) dX7_mend_6 rfl
-- X7_next
theorem eX7_next {d : Nat} {h : qH} {Q : Option (Option Value) → qH → Prop} {s0 : Nat} {x1 : Int32} : WM d mX7_next [.ref s0, .int x1] h Q = WP d mX7_next (0, 0) 0 [some (.ref s0), some (.int x1)] [] h Q := rfl
def rX7_next_0 := W_aload0 (M := mX7_next) dX7_next_0 (q := 1) rfl
def rX7_next_0b := W_aloadR0 (M := mX7_next) dX7_next_0 (q := 1) rfl
def rX7_next_1 := W_invV0 (M := mX7_next) dX7_next_1 (q := 4) rfl ml0_7_151 rfl
def rX7_next_4 := W_if_ne (M := mX7_next) dX7_next_4 (q := 7) rfl (t := 18) rfl
def rX7_next_7 := W_aload0 (M := mX7_next) dX7_next_7 (q := 8) rfl
def rX7_next_7b := W_aloadR0 (M := mX7_next) dX7_next_7 (q := 8) rfl
def rX7_next_8 := W_iload1 (M := mX7_next) dX7_next_8 (q := 9) rfl
def rX7_next_9 := W_iconst (M := mX7_next) dX7_next_9 (q := 10) rfl (v := (0)) rfl
def rX7_next_10 := W_bipush (M := mX7_next) dX7_next_10 (q := 12) rfl (v := (90)) rfl
def rX7_next_12 := W_invV3 (M := mX7_next) dX7_next_12 (q := 15) rfl ml0_7_75 rfl
def rX7_next_15 := W_if_eq (M := mX7_next) dX7_next_15 (q := 18) rfl (t := 20) rfl
def rX7_next_18 := W_iconst (M := mX7_next) dX7_next_18 (q := 19) rfl (v := (-1)) rfl
def rX7_next_19 := W_iret (M := mX7_next) dX7_next_19 rfl
def rX7_next_20 := W_aload0 (M := mX7_next) dX7_next_20 (q := 21) rfl
def rX7_next_20b := W_aloadR0 (M := mX7_next) dX7_next_20 (q := 21) rfl
def rX7_next_21 := W_getR (M := mX7_next) dX7_next_21 (q := 24) rfl fl7_47 ⟨_, rfl⟩
def rX7_next_24 := W_aload0 (M := mX7_next) dX7_next_24 (q := 25) rfl
def rX7_next_24b := W_aloadR0 (M := mX7_next) dX7_next_24 (q := 25) rfl
def rX7_next_25 := W_getR (M := mX7_next) dX7_next_25 (q := 28) rfl fl7_38 ⟨_, rfl⟩
def rX7_next_28 := W_getI (M := mX7_next) dX7_next_28 (q := 31) rfl fl7_121 (Or.inl rfl)
def rX7_next_31 := W_aload0 (M := mX7_next) dX7_next_31 (q := 32) rfl
def rX7_next_31b := W_aloadR0 (M := mX7_next) dX7_next_31 (q := 32) rfl
def rX7_next_32 := W_getR (M := mX7_next) dX7_next_32 (q := 35) rfl fl7_38 ⟨_, rfl⟩
def rX7_next_35 := W_getI (M := mX7_next) dX7_next_35 (q := 38) rfl fl7_134 (Or.inl rfl)
def rX7_next_38 := W_iload1 (M := mX7_next) dX7_next_38 (q := 39) rfl
def rX7_next_39 := W_invV3 (M := mX7_next) dX7_next_39 (q := 42) rfl ml0_7_163 rfl
def rX7_next_42 := W_iret (M := mX7_next) dX7_next_42 rfl
-- X7_nextBy
theorem eX7_nextBy {d : Nat} {h : qH} {Q : Option (Option Value) → qH → Prop} {s0 : Nat} {x1 : Int32} {x2 : Int32} : WM d mX7_nextBy [.ref s0, .int x1, .int x2] h Q = WP d mX7_nextBy (0, 0) 0 [some (.ref s0), some (.int x1), some (.int x2), none, none] [] h Q := rfl
def rX7_nextBy_0 := W_aload0 (M := mX7_nextBy) dX7_nextBy_0 (q := 1) rfl
def rX7_nextBy_0b := W_aloadR0 (M := mX7_nextBy) dX7_nextBy_0 (q := 1) rfl
def rX7_nextBy_1 := W_iload1 (M := mX7_nextBy) dX7_nextBy_1 (q := 2) rfl
def rX7_nextBy_2 := W_invV1 (M := mX7_nextBy) dX7_nextBy_2 (q := 5) rfl ml0_7_113 rfl
def rX7_nextBy_5 := W_if_ne (M := mX7_nextBy) dX7_nextBy_5 (q := 8) rfl (t := 19) rfl
def rX7_nextBy_8 := W_aload0 (M := mX7_nextBy) dX7_nextBy_8 (q := 9) rfl
def rX7_nextBy_8b := W_aloadR0 (M := mX7_nextBy) dX7_nextBy_8 (q := 9) rfl
def rX7_nextBy_9 := W_iload2 (M := mX7_nextBy) dX7_nextBy_9 (q := 10) rfl
def rX7_nextBy_10 := W_iconst (M := mX7_nextBy) dX7_nextBy_10 (q := 11) rfl (v := (0)) rfl
def rX7_nextBy_11 := W_bipush (M := mX7_nextBy) dX7_nextBy_11 (q := 13) rfl (v := (90)) rfl
def rX7_nextBy_13 := W_invV3 (M := mX7_nextBy) dX7_nextBy_13 (q := 16) rfl ml0_7_75 rfl
def rX7_nextBy_16 := W_if_eq (M := mX7_nextBy) dX7_nextBy_16 (q := 19) rfl (t := 21) rfl
def rX7_nextBy_19 := W_iconst (M := mX7_nextBy) dX7_nextBy_19 (q := 20) rfl (v := (-1)) rfl
def rX7_nextBy_20 := W_iret (M := mX7_nextBy) dX7_nextBy_20 rfl
def rX7_nextBy_21 := W_aload0 (M := mX7_nextBy) dX7_nextBy_21 (q := 22) rfl
def rX7_nextBy_21b := W_aloadR0 (M := mX7_nextBy) dX7_nextBy_21 (q := 22) rfl
def rX7_nextBy_22 := W_getR (M := mX7_nextBy) dX7_nextBy_22 (q := 25) rfl fl7_63 ⟨_, rfl⟩
def rX7_nextBy_25 := W_invV0 (M := mX7_nextBy) dX7_nextBy_25 (q := 28) rfl ml0_7_211 rfl
def rX7_nextBy_28 := W_iconst (M := mX7_nextBy) dX7_nextBy_28 (q := 29) rfl (v := (0)) rfl
def rX7_nextBy_29 := W_istore3 (M := mX7_nextBy) dX7_nextBy_29 (q := 30) rfl
def rX7_nextBy_30 := W_iconst (M := mX7_nextBy) dX7_nextBy_30 (q := 31) rfl (v := (0)) rfl
def rX7_nextBy_31 := W_istore4 (M := mX7_nextBy) dX7_nextBy_31 (q := 33) rfl
def rX7_nextBy_33 := W_iload4 (M := mX7_nextBy) dX7_nextBy_33 (q := 35) rfl
def rX7_nextBy_35 := W_aload0 (M := mX7_nextBy) dX7_nextBy_35 (q := 36) rfl
def rX7_nextBy_35b := W_aloadR0 (M := mX7_nextBy) dX7_nextBy_35 (q := 36) rfl
def rX7_nextBy_36 := W_getR (M := mX7_nextBy) dX7_nextBy_36 (q := 39) rfl fl7_63 ⟨_, rfl⟩
def rX7_nextBy_39 := W_getI (M := mX7_nextBy) dX7_nextBy_39 (q := 42) rfl fl7_213 (Or.inl rfl)
def rX7_nextBy_42 := W_icmp_ge (M := mX7_nextBy) dX7_nextBy_42 (q := 45) rfl (t := 68) rfl
def rX7_nextBy_45 := W_aload0 (M := mX7_nextBy) dX7_nextBy_45 (q := 46) rfl
def rX7_nextBy_45b := W_aloadR0 (M := mX7_nextBy) dX7_nextBy_45 (q := 46) rfl
def rX7_nextBy_46 := W_getR (M := mX7_nextBy) dX7_nextBy_46 (q := 49) rfl fl7_63 ⟨_, rfl⟩
def rX7_nextBy_49 := W_iload4 (M := mX7_nextBy) dX7_nextBy_49 (q := 51) rfl
def rX7_nextBy_51 := W_iload2 (M := mX7_nextBy) dX7_nextBy_51 (q := 52) rfl
def rX7_nextBy_52 := W_invV2 (M := mX7_nextBy) dX7_nextBy_52 (q := 55) rfl ml0_7_223 rfl
def rX7_nextBy_55 := W_iload1 (M := mX7_nextBy) dX7_nextBy_55 (q := 56) rfl
def rX7_nextBy_56 := W_icmp_ne (M := mX7_nextBy) dX7_nextBy_56 (q := 59) rfl (t := 62) rfl
def rX7_nextBy_59 := W_iinc3 (M := mX7_nextBy) dX7_nextBy_59 (q := 62) rfl (v := (1)) rfl
def rX7_nextBy_62 := W_iinc4 (M := mX7_nextBy) dX7_nextBy_62 (q := 65) rfl (v := (1)) rfl
def rX7_nextBy_65 := W_goto (M := mX7_nextBy) dX7_nextBy_65 (t := 33) rfl
def rX7_nextBy_68 := W_iload3 (M := mX7_nextBy) dX7_nextBy_68 (q := 69) rfl
def rX7_nextBy_69 := W_iret (M := mX7_nextBy) dX7_nextBy_69 rfl
-- X7_noHouse
theorem eX7_noHouse {d : Nat} {h : qH} {Q : Option (Option Value) → qH → Prop} {s0 : Nat} {x1 : Int32} : WM d mX7_noHouse [.ref s0, .int x1] h Q = WP d mX7_noHouse (0, 0) 0 [some (.ref s0), some (.int x1)] [] h Q := rfl
def rX7_noHouse_0 := W_aload0 (M := mX7_noHouse) dX7_noHouse_0 (q := 1) rfl
def rX7_noHouse_0b := W_aloadR0 (M := mX7_noHouse) dX7_noHouse_0 (q := 1) rfl
def rX7_noHouse_1 := W_iload1 (M := mX7_noHouse) dX7_noHouse_1 (q := 2) rfl
def rX7_noHouse_2 := W_if_lt (M := mX7_noHouse) dX7_noHouse_2 (q := 5) rfl (t := 16) rfl
def rX7_noHouse_5 := W_iload1 (M := mX7_noHouse) dX7_noHouse_5 (q := 6) rfl
def rX7_noHouse_6 := W_aload0 (M := mX7_noHouse) dX7_noHouse_6 (q := 7) rfl
def rX7_noHouse_6b := W_aloadR0 (M := mX7_noHouse) dX7_noHouse_6 (q := 7) rfl
def rX7_noHouse_7 := W_getR (M := mX7_noHouse) dX7_noHouse_7 (q := 10) rfl fl7_10 ⟨_, rfl⟩
def rX7_noHouse_10 := W_getI (M := mX7_noHouse) dX7_noHouse_10 (q := 13) rfl fl7_104 (Or.inl rfl)
def rX7_noHouse_13 := W_icmp_lt (M := mX7_noHouse) dX7_noHouse_13 (q := 16) rfl (t := 20) rfl
def rX7_noHouse_16 := W_iconst (M := mX7_noHouse) dX7_noHouse_16 (q := 17) rfl (v := (1)) rfl
def rX7_noHouse_17 := W_goto (M := mX7_noHouse) dX7_noHouse_17 (t := 21) rfl
def rX7_noHouse_20 := W_iconst (M := mX7_noHouse) dX7_noHouse_20 (q := 21) rfl (v := (0)) rfl
def rX7_noHouse_21 := W_iconst (M := mX7_noHouse) dX7_noHouse_21 (q := 22) rfl (v := (1)) rfl
def rX7_noHouse_22 := W_invV2 (M := mX7_noHouse) dX7_noHouse_22 (q := 25) rfl ml0_7_304 rfl
def rX7_noHouse_25 := W_zret (M := mX7_noHouse) dX7_noHouse_25 rfl
-- X7_noStreet
theorem eX7_noStreet {d : Nat} {h : qH} {Q : Option (Option Value) → qH → Prop} {s0 : Nat} : WM d mX7_noStreet [.ref s0] h Q = WP d mX7_noStreet (0, 0) 0 [some (.ref s0)] [] h Q := rfl
def rX7_noStreet_0 := W_aload0 (M := mX7_noStreet) dX7_noStreet_0 (q := 1) rfl
def rX7_noStreet_0b := W_aloadR0 (M := mX7_noStreet) dX7_noStreet_0 (q := 1) rfl
def rX7_noStreet_1 := W_aload0 (M := mX7_noStreet) dX7_noStreet_1 (q := 2) rfl
def rX7_noStreet_1b := W_aloadR0 (M := mX7_noStreet) dX7_noStreet_1 (q := 2) rfl
def rX7_noStreet_2 := W_getR (M := mX7_noStreet) dX7_noStreet_2 (q := 5) rfl fl7_10 ⟨_, rfl⟩
def rX7_noStreet_5 := W_getI (M := mX7_noStreet) dX7_noStreet_5 (q := 8) rfl fl7_104 (Or.inl rfl)
def rX7_noStreet_8 := W_if_ne (M := mX7_noStreet) dX7_noStreet_8 (q := 11) rfl (t := 15) rfl
def rX7_noStreet_11 := W_iconst (M := mX7_noStreet) dX7_noStreet_11 (q := 12) rfl (v := (1)) rfl
def rX7_noStreet_12 := W_goto (M := mX7_noStreet) dX7_noStreet_12 (t := 16) rfl
def rX7_noStreet_15 := W_iconst (M := mX7_noStreet) dX7_noStreet_15 (q := 16) rfl (v := (0)) rfl
def rX7_noStreet_16 := W_iconst (M := mX7_noStreet) dX7_noStreet_16 (q := 17) rfl (v := (1)) rfl
def rX7_noStreet_17 := W_invV2 (M := mX7_noStreet) dX7_noStreet_17 (q := 20) rfl ml0_7_304 rfl
def rX7_noStreet_20 := W_zret (M := mX7_noStreet) dX7_noStreet_20 rfl
-- X7_noWay
theorem eX7_noWay {d : Nat} {h : qH} {Q : Option (Option Value) → qH → Prop} {s0 : Nat} {x1 : Int32} : WM d mX7_noWay [.ref s0, .int x1] h Q = WP d mX7_noWay (0, 0) 0 [some (.ref s0), some (.int x1)] [] h Q := rfl
def rX7_noWay_0 := W_aload0 (M := mX7_noWay) dX7_noWay_0 (q := 1) rfl
def rX7_noWay_0b := W_aloadR0 (M := mX7_noWay) dX7_noWay_0 (q := 1) rfl
def rX7_noWay_1 := W_invV0 (M := mX7_noWay) dX7_noWay_1 (q := 4) rfl ml0_7_151 rfl
def rX7_noWay_4 := W_if_eq (M := mX7_noWay) dX7_noWay_4 (q := 7) rfl (t := 9) rfl
def rX7_noWay_7 := W_iconst (M := mX7_noWay) dX7_noWay_7 (q := 8) rfl (v := (1)) rfl
def rX7_noWay_8 := W_zret (M := mX7_noWay) dX7_noWay_8 rfl
def rX7_noWay_9 := W_aload0 (M := mX7_noWay) dX7_noWay_9 (q := 10) rfl
def rX7_noWay_9b := W_aloadR0 (M := mX7_noWay) dX7_noWay_9 (q := 10) rfl
def rX7_noWay_10 := W_getR (M := mX7_noWay) dX7_noWay_10 (q := 13) rfl fl7_56 ⟨_, rfl⟩
def rX7_noWay_13 := W_aload0 (M := mX7_noWay) dX7_noWay_13 (q := 14) rfl
def rX7_noWay_13b := W_aloadR0 (M := mX7_noWay) dX7_noWay_13 (q := 14) rfl
def rX7_noWay_14 := W_getR (M := mX7_noWay) dX7_noWay_14 (q := 17) rfl fl7_38 ⟨_, rfl⟩
def rX7_noWay_17 := W_invV1 (M := mX7_noWay) dX7_noWay_17 (q := 20) rfl ml0_7_178 rfl
def rX7_noWay_20 := W_aload0 (M := mX7_noWay) dX7_noWay_20 (q := 21) rfl
def rX7_noWay_20b := W_aloadR0 (M := mX7_noWay) dX7_noWay_20 (q := 21) rfl
def rX7_noWay_21 := W_iload1 (M := mX7_noWay) dX7_noWay_21 (q := 22) rfl
def rX7_noWay_22 := W_if_lt (M := mX7_noWay) dX7_noWay_22 (q := 25) rfl (t := 36) rfl
def rX7_noWay_25 := W_iload1 (M := mX7_noWay) dX7_noWay_25 (q := 26) rfl
def rX7_noWay_26 := W_aload0 (M := mX7_noWay) dX7_noWay_26 (q := 27) rfl
def rX7_noWay_26b := W_aloadR0 (M := mX7_noWay) dX7_noWay_26 (q := 27) rfl
def rX7_noWay_27 := W_getR (M := mX7_noWay) dX7_noWay_27 (q := 30) rfl fl7_56 ⟨_, rfl⟩
def rX7_noWay_30 := W_getI (M := mX7_noWay) dX7_noWay_30 (q := 33) rfl fl7_182 (Or.inl rfl)
def rX7_noWay_33 := W_icmp_lt (M := mX7_noWay) dX7_noWay_33 (q := 36) rfl (t := 40) rfl
def rX7_noWay_36 := W_iconst (M := mX7_noWay) dX7_noWay_36 (q := 37) rfl (v := (1)) rfl
def rX7_noWay_37 := W_goto (M := mX7_noWay) dX7_noWay_37 (t := 41) rfl
def rX7_noWay_40 := W_iconst (M := mX7_noWay) dX7_noWay_40 (q := 41) rfl (v := (0)) rfl
def rX7_noWay_41 := W_iconst (M := mX7_noWay) dX7_noWay_41 (q := 42) rfl (v := (1)) rfl
def rX7_noWay_42 := W_invV2 (M := mX7_noWay) dX7_noWay_42 (q := 45) rfl ml0_7_304 rfl
def rX7_noWay_45 := W_zret (M := mX7_noWay) dX7_noWay_45 rfl
-- X7_noYears
theorem eX7_noYears {d : Nat} {h : qH} {Q : Option (Option Value) → qH → Prop} {s0 : Nat} {x1 : Int32} {x2 : Int32} : WM d mX7_noYears [.ref s0, .int x1, .int x2] h Q = WP d mX7_noYears (0, 0) 0 [some (.ref s0), some (.int x1), some (.int x2)] [] h Q := rfl
def rX7_noYears_0 := W_aload0 (M := mX7_noYears) dX7_noYears_0 (q := 1) rfl
def rX7_noYears_0b := W_aloadR0 (M := mX7_noYears) dX7_noYears_0 (q := 1) rfl
def rX7_noYears_1 := W_iload1 (M := mX7_noYears) dX7_noYears_1 (q := 2) rfl
def rX7_noYears_2 := W_iconst (M := mX7_noYears) dX7_noYears_2 (q := 3) rfl (v := (0)) rfl
def rX7_noYears_3 := W_ldc_w (M := mX7_noYears) dX7_noYears_3 (q := 6) rfl cs7_308
def rX7_noYears_6 := W_invV3 (M := mX7_noYears) dX7_noYears_6 (q := 9) rfl ml0_7_75 rfl
def rX7_noYears_9 := W_if_ne (M := mX7_noYears) dX7_noYears_9 (q := 12) rfl (t := 23) rfl
def rX7_noYears_12 := W_aload0 (M := mX7_noYears) dX7_noYears_12 (q := 13) rfl
def rX7_noYears_12b := W_aloadR0 (M := mX7_noYears) dX7_noYears_12 (q := 13) rfl
def rX7_noYears_13 := W_iload2 (M := mX7_noYears) dX7_noYears_13 (q := 14) rfl
def rX7_noYears_14 := W_iconst (M := mX7_noYears) dX7_noYears_14 (q := 15) rfl (v := (0)) rfl
def rX7_noYears_15 := W_bipush (M := mX7_noYears) dX7_noYears_15 (q := 17) rfl (v := (60)) rfl
def rX7_noYears_17 := W_invV3 (M := mX7_noYears) dX7_noYears_17 (q := 20) rfl ml0_7_75 rfl
def rX7_noYears_20 := W_if_eq (M := mX7_noYears) dX7_noYears_20 (q := 23) rfl (t := 27) rfl
def rX7_noYears_23 := W_iconst (M := mX7_noYears) dX7_noYears_23 (q := 24) rfl (v := (1)) rfl
def rX7_noYears_24 := W_goto (M := mX7_noYears) dX7_noYears_24 (t := 28) rfl
def rX7_noYears_27 := W_iconst (M := mX7_noYears) dX7_noYears_27 (q := 28) rfl (v := (0)) rfl
def rX7_noYears_28 := W_zret (M := mX7_noYears) dX7_noYears_28 rfl
-- X7_odds
theorem eX7_odds {d : Nat} {h : qH} {Q : Option (Option Value) → qH → Prop} {s0 : Nat} {x1 : Int32} {x2 : Int32} {x3 : Int32} : WM d mX7_odds [.ref s0, .int x1, .int x2, .int x3] h Q = WP d mX7_odds (0, 0) 0 [some (.ref s0), some (.int x1), some (.int x2), some (.int x3)] [] h Q := rfl
def rX7_odds_0 := W_aload0 (M := mX7_odds) dX7_odds_0 (q := 1) rfl
def rX7_odds_0b := W_aloadR0 (M := mX7_odds) dX7_odds_0 (q := 1) rfl
def rX7_odds_1 := W_iload1 (M := mX7_odds) dX7_odds_1 (q := 2) rfl
def rX7_odds_2 := W_invV1 (M := mX7_odds) dX7_odds_2 (q := 5) rfl ml0_7_113 rfl
def rX7_odds_5 := W_if_ne (M := mX7_odds) dX7_odds_5 (q := 8) rfl (t := 19) rfl
def rX7_odds_8 := W_aload0 (M := mX7_odds) dX7_odds_8 (q := 9) rfl
def rX7_odds_8b := W_aloadR0 (M := mX7_odds) dX7_odds_8 (q := 9) rfl
def rX7_odds_9 := W_iload2 (M := mX7_odds) dX7_odds_9 (q := 10) rfl
def rX7_odds_10 := W_iconst (M := mX7_odds) dX7_odds_10 (q := 11) rfl (v := (0)) rfl
def rX7_odds_11 := W_bipush (M := mX7_odds) dX7_odds_11 (q := 13) rfl (v := (90)) rfl
def rX7_odds_13 := W_invV3 (M := mX7_odds) dX7_odds_13 (q := 16) rfl ml0_7_75 rfl
def rX7_odds_16 := W_if_eq (M := mX7_odds) dX7_odds_16 (q := 19) rfl (t := 23) rfl
def rX7_odds_19 := W_ldc2_w (M := mX7_odds) dX7_odds_19 (q := 22) rfl cj7_247
def rX7_odds_22 := W_lret (M := mX7_odds) dX7_odds_22 rfl
def rX7_odds_23 := W_aload0 (M := mX7_odds) dX7_odds_23 (q := 24) rfl
def rX7_odds_23b := W_aloadR0 (M := mX7_odds) dX7_odds_23 (q := 24) rfl
def rX7_odds_24 := W_iconst (M := mX7_odds) dX7_odds_24 (q := 25) rfl (v := (0)) rfl
def rX7_odds_25 := W_iload1 (M := mX7_odds) dX7_odds_25 (q := 26) rfl
def rX7_odds_26 := W_iload2 (M := mX7_odds) dX7_odds_26 (q := 27) rfl
def rX7_odds_27 := W_iload3 (M := mX7_odds) dX7_odds_27 (q := 28) rfl
def rX7_odds_28 := W_invV4 (M := mX7_odds) dX7_odds_28 (q := 31) rfl ml0_7_249 rfl
def rX7_odds_31 := W_lret (M := mX7_odds) dX7_odds_31 rfl
-- X7_outside
theorem eX7_outside {d : Nat} {h : qH} {Q : Option (Option Value) → qH → Prop} {s0 : Nat} {x1 : Int32} {x2 : Int32} {x3 : Int32} : WM d mX7_outside [.ref s0, .int x1, .int x2, .int x3] h Q = WP d mX7_outside (0, 0) 0 [some (.ref s0), some (.int x1), some (.int x2), some (.int x3)] [] h Q := rfl
def rX7_outside_0 := W_aload0 (M := mX7_outside) dX7_outside_0 (q := 1) rfl
def rX7_outside_0b := W_aloadR0 (M := mX7_outside) dX7_outside_0 (q := 1) rfl
def rX7_outside_1 := W_iload1 (M := mX7_outside) dX7_outside_1 (q := 2) rfl
def rX7_outside_2 := W_iload2 (M := mX7_outside) dX7_outside_2 (q := 3) rfl
def rX7_outside_3 := W_icmp_lt (M := mX7_outside) dX7_outside_3 (q := 6) rfl (t := 11) rfl
def rX7_outside_6 := W_iload1 (M := mX7_outside) dX7_outside_6 (q := 7) rfl
def rX7_outside_7 := W_iload3 (M := mX7_outside) dX7_outside_7 (q := 8) rfl
def rX7_outside_8 := W_icmp_le (M := mX7_outside) dX7_outside_8 (q := 11) rfl (t := 15) rfl
def rX7_outside_11 := W_iconst (M := mX7_outside) dX7_outside_11 (q := 12) rfl (v := (1)) rfl
def rX7_outside_12 := W_goto (M := mX7_outside) dX7_outside_12 (t := 16) rfl
def rX7_outside_15 := W_iconst (M := mX7_outside) dX7_outside_15 (q := 16) rfl (v := (0)) rfl
def rX7_outside_16 := W_iconst (M := mX7_outside) dX7_outside_16 (q := 17) rfl (v := (2)) rfl
def rX7_outside_17 := W_invV2 (M := mX7_outside) dX7_outside_17 (q := 20) rfl ml0_7_304 rfl
def rX7_outside_20 := W_zret (M := mX7_outside) dX7_outside_20 rfl
-- X7_overAll
theorem eX7_overAll {d : Nat} {h : qH} {Q : Option (Option Value) → qH → Prop} {s0 : Nat} {x1 : Int32} {x2 : Int32} {x3 : Int32} {x4 : Int32} : WM d mX7_overAll [.ref s0, .int x1, .int x2, .int x3, .int x4] h Q = WP d mX7_overAll (0, 0) 0 [some (.ref s0), some (.int x1), some (.int x2), some (.int x3), some (.int x4), none, none, none, none, none] [] h Q := rfl
def rX7_overAll_0 := W_lconst (M := mX7_overAll) dX7_overAll_0 (q := 1) rfl (v := 0) rfl
def rX7_overAll_1 := W_lstore5 (M := mX7_overAll) dX7_overAll_1 (q := 3) rfl
def rX7_overAll_3 := W_iconst (M := mX7_overAll) dX7_overAll_3 (q := 4) rfl (v := (0)) rfl
def rX7_overAll_4 := W_istore7 (M := mX7_overAll) dX7_overAll_4 (q := 6) rfl
def rX7_overAll_6 := W_iload7 (M := mX7_overAll) dX7_overAll_6 (q := 8) rfl
def rX7_overAll_8 := W_bipush (M := mX7_overAll) dX7_overAll_8 (q := 10) rfl (v := (64)) rfl
def rX7_overAll_10 := W_icmp_ge (M := mX7_overAll) dX7_overAll_10 (q := 13) rfl (t := 75) rfl
def rX7_overAll_13 := W_aload0 (M := mX7_overAll) dX7_overAll_13 (q := 14) rfl
def rX7_overAll_13b := W_aloadR0 (M := mX7_overAll) dX7_overAll_13 (q := 14) rfl
def rX7_overAll_14 := W_getR (M := mX7_overAll) dX7_overAll_14 (q := 17) rfl fl7_47 ⟨_, rfl⟩
def rX7_overAll_17 := W_iload7 (M := mX7_overAll) dX7_overAll_17 (q := 19) rfl
def rX7_overAll_19 := W_aload0 (M := mX7_overAll) dX7_overAll_19 (q := 20) rfl
def rX7_overAll_19b := W_aloadR0 (M := mX7_overAll) dX7_overAll_19 (q := 20) rfl
def rX7_overAll_20 := W_getR (M := mX7_overAll) dX7_overAll_20 (q := 23) rfl fl7_38 ⟨_, rfl⟩
def rX7_overAll_23 := W_getI (M := mX7_overAll) dX7_overAll_23 (q := 26) rfl fl7_121 (Or.inl rfl)
def rX7_overAll_26 := W_invV2 (M := mX7_overAll) dX7_overAll_26 (q := 29) rfl ml0_7_309 rfl
def rX7_overAll_29 := W_lstore8 (M := mX7_overAll) dX7_overAll_29 (q := 31) rfl
def rX7_overAll_31 := W_lload8 (M := mX7_overAll) dX7_overAll_31 (q := 33) rfl
def rX7_overAll_33 := W_lconst (M := mX7_overAll) dX7_overAll_33 (q := 34) rfl (v := 0) rfl
def rX7_overAll_34 := W_lcmp (M := mX7_overAll) dX7_overAll_34 (q := 35) rfl
def rX7_overAll_35 := W_if_le (M := mX7_overAll) dX7_overAll_35 (q := 38) rfl (t := 69) rfl
def rX7_overAll_38 := W_lload5 (M := mX7_overAll) dX7_overAll_38 (q := 40) rfl
def rX7_overAll_40 := W_lload8 (M := mX7_overAll) dX7_overAll_40 (q := 42) rfl
def rX7_overAll_42 := W_iload1 (M := mX7_overAll) dX7_overAll_42 (q := 43) rfl
def rX7_overAll_43 := W_iload2 (M := mX7_overAll) dX7_overAll_43 (q := 44) rfl
def rX7_overAll_44 := W_aload0 (M := mX7_overAll) dX7_overAll_44 (q := 45) rfl
def rX7_overAll_44b := W_aloadR0 (M := mX7_overAll) dX7_overAll_44 (q := 45) rfl
def rX7_overAll_45 := W_getR (M := mX7_overAll) dX7_overAll_45 (q := 48) rfl fl7_47 ⟨_, rfl⟩
def rX7_overAll_48 := W_iload7 (M := mX7_overAll) dX7_overAll_48 (q := 50) rfl
def rX7_overAll_50 := W_aload0 (M := mX7_overAll) dX7_overAll_50 (q := 51) rfl
def rX7_overAll_50b := W_aloadR0 (M := mX7_overAll) dX7_overAll_50 (q := 51) rfl
def rX7_overAll_51 := W_getR (M := mX7_overAll) dX7_overAll_51 (q := 54) rfl fl7_38 ⟨_, rfl⟩
def rX7_overAll_54 := W_getI (M := mX7_overAll) dX7_overAll_54 (q := 57) rfl fl7_121 (Or.inl rfl)
def rX7_overAll_57 := W_iload3 (M := mX7_overAll) dX7_overAll_57 (q := 58) rfl
def rX7_overAll_58 := W_invV3 (M := mX7_overAll) dX7_overAll_58 (q := 61) rfl ml0_7_263 rfl
def rX7_overAll_61 := W_invS3 (M := mX7_overAll) dX7_overAll_61 (q := 64) rfl ml1_7_313 rfl rfl rfl
def rX7_overAll_64 := W_i2l (M := mX7_overAll) dX7_overAll_64 (q := 65) rfl
def rX7_overAll_65 := W_lmul (M := mX7_overAll) dX7_overAll_65 (q := 66) rfl
def rX7_overAll_66 := W_ladd (M := mX7_overAll) dX7_overAll_66 (q := 67) rfl
def rX7_overAll_67 := W_lstore5 (M := mX7_overAll) dX7_overAll_67 (q := 69) rfl
def rX7_overAll_69 := W_iinc7 (M := mX7_overAll) dX7_overAll_69 (q := 72) rfl (v := (1)) rfl
def rX7_overAll_72 := W_goto (M := mX7_overAll) dX7_overAll_72 (t := 6) rfl
def rX7_overAll_75 := W_lload5 (M := mX7_overAll) dX7_overAll_75 (q := 77) rfl
def rX7_overAll_77 := W_aload0 (M := mX7_overAll) dX7_overAll_77 (q := 78) rfl
def rX7_overAll_77b := W_aloadR0 (M := mX7_overAll) dX7_overAll_77 (q := 78) rfl
def rX7_overAll_78 := W_getR (M := mX7_overAll) dX7_overAll_78 (q := 81) rfl fl7_47 ⟨_, rfl⟩
def rX7_overAll_81 := W_aload0 (M := mX7_overAll) dX7_overAll_81 (q := 82) rfl
def rX7_overAll_81b := W_aloadR0 (M := mX7_overAll) dX7_overAll_81 (q := 82) rfl
def rX7_overAll_82 := W_getR (M := mX7_overAll) dX7_overAll_82 (q := 85) rfl fl7_38 ⟨_, rfl⟩
def rX7_overAll_85 := W_getI (M := mX7_overAll) dX7_overAll_85 (q := 88) rfl fl7_121 (Or.inl rfl)
def rX7_overAll_88 := W_invV1 (M := mX7_overAll) dX7_overAll_88 (q := 91) rfl ml0_7_316 rfl
def rX7_overAll_91 := W_iload4 (M := mX7_overAll) dX7_overAll_91 (q := 93) rfl
def rX7_overAll_93 := W_invS3 (M := mX7_overAll) dX7_overAll_93 (q := 96) rfl ml1_7_320 rfl rfl rfl
def rX7_overAll_96 := W_lret (M := mX7_overAll) dX7_overAll_96 rfl
-- X7_pull
theorem eX7_pull {d : Nat} {h : qH} {Q : Option (Option Value) → qH → Prop} {s0 : Nat} {x1 : Int32} : WM d mX7_pull [.ref s0, .int x1] h Q = WP d mX7_pull (0, 0) 0 [some (.ref s0), some (.int x1)] [] h Q := rfl
def rX7_pull_0 := W_aload0 (M := mX7_pull) dX7_pull_0 (q := 1) rfl
def rX7_pull_0b := W_aloadR0 (M := mX7_pull) dX7_pull_0 (q := 1) rfl
def rX7_pull_1 := W_iload1 (M := mX7_pull) dX7_pull_1 (q := 2) rfl
def rX7_pull_2 := W_iconst (M := mX7_pull) dX7_pull_2 (q := 3) rfl (v := (1)) rfl
def rX7_pull_3 := W_invV2 (M := mX7_pull) dX7_pull_3 (q := 6) rfl ml0_7_269 rfl
def rX7_pull_6 := W_zret (M := mX7_pull) dX7_pull_6 rfl
-- X7_quiet
theorem eX7_quiet {d : Nat} {h : qH} {Q : Option (Option Value) → qH → Prop} {s0 : Nat} {x1 : Int32} {x2 : Int32} : WM d mX7_quiet [.ref s0, .int x1, .int x2] h Q = WP d mX7_quiet (0, 0) 0 [some (.ref s0), some (.int x1), some (.int x2)] [] h Q := rfl
def rX7_quiet_0 := W_aload0 (M := mX7_quiet) dX7_quiet_0 (q := 1) rfl
def rX7_quiet_0b := W_aloadR0 (M := mX7_quiet) dX7_quiet_0 (q := 1) rfl
def rX7_quiet_1 := W_invV0 (M := mX7_quiet) dX7_quiet_1 (q := 4) rfl ml0_7_151 rfl
def rX7_quiet_4 := W_if_ne (M := mX7_quiet) dX7_quiet_4 (q := 7) rfl (t := 18) rfl
def rX7_quiet_7 := W_aload0 (M := mX7_quiet) dX7_quiet_7 (q := 8) rfl
def rX7_quiet_7b := W_aloadR0 (M := mX7_quiet) dX7_quiet_7 (q := 8) rfl
def rX7_quiet_8 := W_iload1 (M := mX7_quiet) dX7_quiet_8 (q := 9) rfl
def rX7_quiet_9 := W_iconst (M := mX7_quiet) dX7_quiet_9 (q := 10) rfl (v := (0)) rfl
def rX7_quiet_10 := W_bipush (M := mX7_quiet) dX7_quiet_10 (q := 12) rfl (v := (90)) rfl
def rX7_quiet_12 := W_invV3 (M := mX7_quiet) dX7_quiet_12 (q := 15) rfl ml0_7_75 rfl
def rX7_quiet_15 := W_if_eq (M := mX7_quiet) dX7_quiet_15 (q := 18) rfl (t := 22) rfl
def rX7_quiet_18 := W_ldc2_w (M := mX7_quiet) dX7_quiet_18 (q := 21) rfl cj7_247
def rX7_quiet_21 := W_lret (M := mX7_quiet) dX7_quiet_21 rfl
def rX7_quiet_22 := W_aload0 (M := mX7_quiet) dX7_quiet_22 (q := 23) rfl
def rX7_quiet_22b := W_aloadR0 (M := mX7_quiet) dX7_quiet_22 (q := 23) rfl
def rX7_quiet_23 := W_iconst (M := mX7_quiet) dX7_quiet_23 (q := 24) rfl (v := (1)) rfl
def rX7_quiet_24 := W_iconst (M := mX7_quiet) dX7_quiet_24 (q := 25) rfl (v := (0)) rfl
def rX7_quiet_25 := W_iload1 (M := mX7_quiet) dX7_quiet_25 (q := 26) rfl
def rX7_quiet_26 := W_iload2 (M := mX7_quiet) dX7_quiet_26 (q := 27) rfl
def rX7_quiet_27 := W_invV4 (M := mX7_quiet) dX7_quiet_27 (q := 30) rfl ml0_7_249 rfl
def rX7_quiet_30 := W_lret (M := mX7_quiet) dX7_quiet_30 rfl
-- X7_refuse
theorem eX7_refuse {d : Nat} {h : qH} {Q : Option (Option Value) → qH → Prop} {s0 : Nat} {x1 : Int32} : WM d mX7_refuse [.ref s0, .int x1] h Q = WP d mX7_refuse (0, 0) 0 [some (.ref s0), some (.int x1)] [] h Q := rfl
def rX7_refuse_0 := W_aload0 (M := mX7_refuse) dX7_refuse_0 (q := 1) rfl
def rX7_refuse_0b := W_aloadR0 (M := mX7_refuse) dX7_refuse_0 (q := 1) rfl
def rX7_refuse_1 := W_iload1 (M := mX7_refuse) dX7_refuse_1 (q := 2) rfl
def rX7_refuse_2 := W_putI (M := mX7_refuse) dX7_refuse_2 (q := 5) rfl fl7_107 rfl (Or.inl rfl)
def rX7_refuse_5 := W_iconst (M := mX7_refuse) dX7_refuse_5 (q := 6) rfl (v := (-1)) rfl
def rX7_refuse_6 := W_iret (M := mX7_refuse) dX7_refuse_6 rfl
-- X7_refusedIf
theorem eX7_refusedIf {d : Nat} {h : qH} {Q : Option (Option Value) → qH → Prop} {s0 : Nat} {x1 : Int32} {x2 : Int32} : WM d mX7_refusedIf [.ref s0, .int x1, .int x2] h Q = WP d mX7_refusedIf (0, 0) 0 [some (.ref s0), some (.int x1), some (.int x2)] [] h Q := rfl
def rX7_refusedIf_0 := W_aload0 (M := mX7_refusedIf) dX7_refusedIf_0 (q := 1) rfl
def rX7_refusedIf_0b := W_aloadR0 (M := mX7_refusedIf) dX7_refusedIf_0 (q := 1) rfl
def rX7_refusedIf_1 := W_iload1 (M := mX7_refusedIf) dX7_refusedIf_1 (q := 2) rfl
def rX7_refusedIf_2 := W_if_eq (M := mX7_refusedIf) dX7_refusedIf_2 (q := 5) rfl (t := 9) rfl
def rX7_refusedIf_5 := W_iload2 (M := mX7_refusedIf) dX7_refusedIf_5 (q := 6) rfl
def rX7_refusedIf_6 := W_goto (M := mX7_refusedIf) dX7_refusedIf_6 (t := 10) rfl
def rX7_refusedIf_9 := W_iconst (M := mX7_refusedIf) dX7_refusedIf_9 (q := 10) rfl (v := (0)) rfl
def rX7_refusedIf_10 := W_putI (M := mX7_refusedIf) dX7_refusedIf_10 (q := 13) rfl fl7_107 rfl (Or.inl rfl)
def rX7_refusedIf_13 := W_iload1 (M := mX7_refusedIf) dX7_refusedIf_13 (q := 14) rfl
def rX7_refusedIf_14 := W_zret (M := mX7_refusedIf) dX7_refusedIf_14 rfl
-- X7_rest
theorem eX7_rest {d : Nat} {h : qH} {Q : Option (Option Value) → qH → Prop} {s0 : Nat} : WM d mX7_rest [.ref s0] h Q = WP d mX7_rest (0, 0) 0 [some (.ref s0), none] [] h Q := rfl
def rX7_rest_0 := W_aload0 (M := mX7_rest) dX7_rest_0 (q := 1) rfl
def rX7_rest_0b := W_aloadR0 (M := mX7_rest) dX7_rest_0 (q := 1) rfl
def rX7_rest_1 := W_invV0 (M := mX7_rest) dX7_rest_1 (q := 4) rfl ml0_7_151 rfl
def rX7_rest_4 := W_if_eq (M := mX7_rest) dX7_rest_4 (q := 7) rfl (t := 9) rfl
def rX7_rest_7 := W_iconst (M := mX7_rest) dX7_rest_7 (q := 8) rfl (v := (-1)) rfl
def rX7_rest_8 := W_iret (M := mX7_rest) dX7_rest_8 rfl
def rX7_rest_9 := W_iconst (M := mX7_rest) dX7_rest_9 (q := 10) rfl (v := (0)) rfl
def rX7_rest_10 := W_istore1 (M := mX7_rest) dX7_rest_10 (q := 11) rfl
def rX7_rest_11 := W_iload1 (M := mX7_rest) dX7_rest_11 (q := 12) rfl
def rX7_rest_12 := W_iconst (M := mX7_rest) dX7_rest_12 (q := 13) rfl (v := (4)) rfl
def rX7_rest_13 := W_icmp_ge (M := mX7_rest) dX7_rest_13 (q := 16) rfl (t := 62) rfl
def rX7_rest_16 := W_aload0 (M := mX7_rest) dX7_rest_16 (q := 17) rfl
def rX7_rest_16b := W_aloadR0 (M := mX7_rest) dX7_rest_16 (q := 17) rfl
def rX7_rest_17 := W_iload1 (M := mX7_rest) dX7_rest_17 (q := 18) rfl
def rX7_rest_18 := W_iconst (M := mX7_rest) dX7_rest_18 (q := 19) rfl (v := (2)) rfl
def rX7_rest_19 := W_icmp_lt (M := mX7_rest) dX7_rest_19 (q := 22) rfl (t := 26) rfl
def rX7_rest_22 := W_iconst (M := mX7_rest) dX7_rest_22 (q := 23) rfl (v := (1)) rfl
def rX7_rest_23 := W_goto (M := mX7_rest) dX7_rest_23 (t := 27) rfl
def rX7_rest_26 := W_iconst (M := mX7_rest) dX7_rest_26 (q := 27) rfl (v := (0)) rfl
def rX7_rest_27 := W_iload1 (M := mX7_rest) dX7_rest_27 (q := 28) rfl
def rX7_rest_28 := W_iconst (M := mX7_rest) dX7_rest_28 (q := 29) rfl (v := (2)) rfl
def rX7_rest_29 := W_irem (M := mX7_rest) dX7_rest_29 (q := 30) rfl
def rX7_rest_30 := W_iconst (M := mX7_rest) dX7_rest_30 (q := 31) rfl (v := (1)) rfl
def rX7_rest_31 := W_icmp_ne (M := mX7_rest) dX7_rest_31 (q := 34) rfl (t := 38) rfl
def rX7_rest_34 := W_iconst (M := mX7_rest) dX7_rest_34 (q := 35) rfl (v := (1)) rfl
def rX7_rest_35 := W_goto (M := mX7_rest) dX7_rest_35 (t := 39) rfl
def rX7_rest_38 := W_iconst (M := mX7_rest) dX7_rest_38 (q := 39) rfl (v := (0)) rfl
def rX7_rest_39 := W_invV2 (M := mX7_rest) dX7_rest_39 (q := 42) rfl ml0_7_243 rfl
def rX7_rest_42 := W_if_eq (M := mX7_rest) dX7_rest_42 (q := 45) rfl (t := 56) rfl
def rX7_rest_45 := W_iload1 (M := mX7_rest) dX7_rest_45 (q := 46) rfl
def rX7_rest_46 := W_iconst (M := mX7_rest) dX7_rest_46 (q := 47) rfl (v := (2)) rfl
def rX7_rest_47 := W_idiv (M := mX7_rest) dX7_rest_47 (q := 48) rfl
def rX7_rest_48 := W_bipush (M := mX7_rest) dX7_rest_48 (q := 50) rfl (v := (10)) rfl
def rX7_rest_50 := W_imul (M := mX7_rest) dX7_rest_50 (q := 51) rfl
def rX7_rest_51 := W_iload1 (M := mX7_rest) dX7_rest_51 (q := 52) rfl
def rX7_rest_52 := W_iconst (M := mX7_rest) dX7_rest_52 (q := 53) rfl (v := (2)) rfl
def rX7_rest_53 := W_irem (M := mX7_rest) dX7_rest_53 (q := 54) rfl
def rX7_rest_54 := W_iadd (M := mX7_rest) dX7_rest_54 (q := 55) rfl
def rX7_rest_55 := W_iret (M := mX7_rest) dX7_rest_55 rfl
def rX7_rest_56 := W_iinc1 (M := mX7_rest) dX7_rest_56 (q := 59) rfl (v := (1)) rfl
def rX7_rest_59 := W_goto (M := mX7_rest) dX7_rest_59 (t := 11) rfl
def rX7_rest_62 := W_bipush (M := mX7_rest) dX7_rest_62 (q := 64) rfl (v := (-2)) rfl
def rX7_rest_64 := W_iret (M := mX7_rest) dX7_rest_64 rfl
-- X7_rests
theorem eX7_rests {d : Nat} {h : qH} {Q : Option (Option Value) → qH → Prop} {s0 : Nat} : WM d mX7_rests [.ref s0] h Q = WP d mX7_rests (0, 0) 0 [some (.ref s0), none, none] [] h Q := rfl
def rX7_rests_0 := W_aload0 (M := mX7_rests) dX7_rests_0 (q := 1) rfl
def rX7_rests_0b := W_aloadR0 (M := mX7_rests) dX7_rests_0 (q := 1) rfl
def rX7_rests_1 := W_invV0 (M := mX7_rests) dX7_rests_1 (q := 4) rfl ml0_7_151 rfl
def rX7_rests_4 := W_if_eq (M := mX7_rests) dX7_rests_4 (q := 7) rfl (t := 9) rfl
def rX7_rests_7 := W_iconst (M := mX7_rests) dX7_rests_7 (q := 8) rfl (v := (-1)) rfl
def rX7_rests_8 := W_iret (M := mX7_rests) dX7_rests_8 rfl
def rX7_rests_9 := W_iconst (M := mX7_rests) dX7_rests_9 (q := 10) rfl (v := (0)) rfl
def rX7_rests_10 := W_istore1 (M := mX7_rests) dX7_rests_10 (q := 11) rfl
def rX7_rests_11 := W_iconst (M := mX7_rests) dX7_rests_11 (q := 12) rfl (v := (0)) rfl
def rX7_rests_12 := W_istore2 (M := mX7_rests) dX7_rests_12 (q := 13) rfl
def rX7_rests_13 := W_iload2 (M := mX7_rests) dX7_rests_13 (q := 14) rfl
def rX7_rests_14 := W_iconst (M := mX7_rests) dX7_rests_14 (q := 15) rfl (v := (4)) rfl
def rX7_rests_15 := W_icmp_ge (M := mX7_rests) dX7_rests_15 (q := 18) rfl (t := 56) rfl
def rX7_rests_18 := W_aload0 (M := mX7_rests) dX7_rests_18 (q := 19) rfl
def rX7_rests_18b := W_aloadR0 (M := mX7_rests) dX7_rests_18 (q := 19) rfl
def rX7_rests_19 := W_iload2 (M := mX7_rests) dX7_rests_19 (q := 20) rfl
def rX7_rests_20 := W_iconst (M := mX7_rests) dX7_rests_20 (q := 21) rfl (v := (2)) rfl
def rX7_rests_21 := W_icmp_lt (M := mX7_rests) dX7_rests_21 (q := 24) rfl (t := 28) rfl
def rX7_rests_24 := W_iconst (M := mX7_rests) dX7_rests_24 (q := 25) rfl (v := (1)) rfl
def rX7_rests_25 := W_goto (M := mX7_rests) dX7_rests_25 (t := 29) rfl
def rX7_rests_28 := W_iconst (M := mX7_rests) dX7_rests_28 (q := 29) rfl (v := (0)) rfl
def rX7_rests_29 := W_iload2 (M := mX7_rests) dX7_rests_29 (q := 30) rfl
def rX7_rests_30 := W_iconst (M := mX7_rests) dX7_rests_30 (q := 31) rfl (v := (2)) rfl
def rX7_rests_31 := W_irem (M := mX7_rests) dX7_rests_31 (q := 32) rfl
def rX7_rests_32 := W_iconst (M := mX7_rests) dX7_rests_32 (q := 33) rfl (v := (1)) rfl
def rX7_rests_33 := W_icmp_ne (M := mX7_rests) dX7_rests_33 (q := 36) rfl (t := 40) rfl
def rX7_rests_36 := W_iconst (M := mX7_rests) dX7_rests_36 (q := 37) rfl (v := (1)) rfl
def rX7_rests_37 := W_goto (M := mX7_rests) dX7_rests_37 (t := 41) rfl
def rX7_rests_40 := W_iconst (M := mX7_rests) dX7_rests_40 (q := 41) rfl (v := (0)) rfl
def rX7_rests_41 := W_invV2 (M := mX7_rests) dX7_rests_41 (q := 44) rfl ml0_7_243 rfl
def rX7_rests_44 := W_if_eq (M := mX7_rests) dX7_rests_44 (q := 47) rfl (t := 50) rfl
def rX7_rests_47 := W_iinc1 (M := mX7_rests) dX7_rests_47 (q := 50) rfl (v := (1)) rfl
def rX7_rests_50 := W_iinc2 (M := mX7_rests) dX7_rests_50 (q := 53) rfl (v := (1)) rfl
def rX7_rests_53 := W_goto (M := mX7_rests) dX7_rests_53 (t := 13) rfl
def rX7_rests_56 := W_iload1 (M := mX7_rests) dX7_rests_56 (q := 57) rfl
def rX7_rests_57 := W_iret (M := mX7_rests) dX7_rests_57 rfl
-- X7_rings
theorem eX7_rings {d : Nat} {h : qH} {Q : Option (Option Value) → qH → Prop} {s0 : Nat} {x1 : Int32} {x2 : Int32} {x3 : Int32} : WM d mX7_rings [.ref s0, .int x1, .int x2, .int x3] h Q = WP d mX7_rings (0, 0) 0 [some (.ref s0), some (.int x1), some (.int x2), some (.int x3)] [] h Q := rfl
def rX7_rings_0 := W_aload0 (M := mX7_rings) dX7_rings_0 (q := 1) rfl
def rX7_rings_0b := W_aloadR0 (M := mX7_rings) dX7_rings_0 (q := 1) rfl
def rX7_rings_1 := W_invV0 (M := mX7_rings) dX7_rings_1 (q := 4) rfl ml0_7_151 rfl
def rX7_rings_4 := W_if_eq (M := mX7_rings) dX7_rings_4 (q := 7) rfl (t := 10) rfl
def rX7_rings_7 := W_bipush (M := mX7_rings) dX7_rings_7 (q := 9) rfl (v := (-100)) rfl
def rX7_rings_9 := W_iret (M := mX7_rings) dX7_rings_9 rfl
def rX7_rings_10 := W_iload3 (M := mX7_rings) dX7_rings_10 (q := 11) rfl
def rX7_rings_11 := W_if_eq (M := mX7_rings) dX7_rings_11 (q := 14) rfl (t := 23) rfl
def rX7_rings_14 := W_aload0 (M := mX7_rings) dX7_rings_14 (q := 15) rfl
def rX7_rings_14b := W_aloadR0 (M := mX7_rings) dX7_rings_14 (q := 15) rfl
def rX7_rings_15 := W_iload2 (M := mX7_rings) dX7_rings_15 (q := 16) rfl
def rX7_rings_16 := W_iload1 (M := mX7_rings) dX7_rings_16 (q := 17) rfl
def rX7_rings_17 := W_invV2 (M := mX7_rings) dX7_rings_17 (q := 20) rfl ml0_7_239 rfl
def rX7_rings_20 := W_goto (M := mX7_rings) dX7_rings_20 (t := 29) rfl
def rX7_rings_23 := W_aload0 (M := mX7_rings) dX7_rings_23 (q := 24) rfl
def rX7_rings_23b := W_aloadR0 (M := mX7_rings) dX7_rings_23 (q := 24) rfl
def rX7_rings_24 := W_iload1 (M := mX7_rings) dX7_rings_24 (q := 25) rfl
def rX7_rings_25 := W_iload2 (M := mX7_rings) dX7_rings_25 (q := 26) rfl
def rX7_rings_26 := W_invV2 (M := mX7_rings) dX7_rings_26 (q := 29) rfl ml0_7_239 rfl
def rX7_rings_29 := W_iret (M := mX7_rings) dX7_rings_29 rfl
-- X7_safe
theorem eX7_safe {d : Nat} {h : qH} {Q : Option (Option Value) → qH → Prop} {s0 : Nat} {x1 : Int32} : WM d mX7_safe [.ref s0, .int x1] h Q = WP d mX7_safe (0, 0) 0 [some (.ref s0), some (.int x1), none, none, none, none] [] h Q := rfl
def rX7_safe_0 := W_aload0 (M := mX7_safe) dX7_safe_0 (q := 1) rfl
def rX7_safe_0b := W_aloadR0 (M := mX7_safe) dX7_safe_0 (q := 1) rfl
def rX7_safe_1 := W_invV0 (M := mX7_safe) dX7_safe_1 (q := 4) rfl ml0_7_151 rfl
def rX7_safe_4 := W_if_ne (M := mX7_safe) dX7_safe_4 (q := 7) rfl (t := 18) rfl
def rX7_safe_7 := W_aload0 (M := mX7_safe) dX7_safe_7 (q := 8) rfl
def rX7_safe_7b := W_aloadR0 (M := mX7_safe) dX7_safe_7 (q := 8) rfl
def rX7_safe_8 := W_iload1 (M := mX7_safe) dX7_safe_8 (q := 9) rfl
def rX7_safe_9 := W_iconst (M := mX7_safe) dX7_safe_9 (q := 10) rfl (v := (0)) rfl
def rX7_safe_10 := W_bipush (M := mX7_safe) dX7_safe_10 (q := 12) rfl (v := (90)) rfl
def rX7_safe_12 := W_invV3 (M := mX7_safe) dX7_safe_12 (q := 15) rfl ml0_7_75 rfl
def rX7_safe_15 := W_if_eq (M := mX7_safe) dX7_safe_15 (q := 18) rfl (t := 20) rfl
def rX7_safe_18 := W_iconst (M := mX7_safe) dX7_safe_18 (q := 19) rfl (v := (-1)) rfl
def rX7_safe_19 := W_iret (M := mX7_safe) dX7_safe_19 rfl
def rX7_safe_20 := W_aload0 (M := mX7_safe) dX7_safe_20 (q := 21) rfl
def rX7_safe_20b := W_aloadR0 (M := mX7_safe) dX7_safe_20 (q := 21) rfl
def rX7_safe_21 := W_getR (M := mX7_safe) dX7_safe_21 (q := 24) rfl fl7_47 ⟨_, rfl⟩
def rX7_safe_24 := W_aload0 (M := mX7_safe) dX7_safe_24 (q := 25) rfl
def rX7_safe_24b := W_aloadR0 (M := mX7_safe) dX7_safe_24 (q := 25) rfl
def rX7_safe_25 := W_getR (M := mX7_safe) dX7_safe_25 (q := 28) rfl fl7_38 ⟨_, rfl⟩
def rX7_safe_28 := W_getI (M := mX7_safe) dX7_safe_28 (q := 31) rfl fl7_121 (Or.inl rfl)
def rX7_safe_31 := W_aload0 (M := mX7_safe) dX7_safe_31 (q := 32) rfl
def rX7_safe_31b := W_aloadR0 (M := mX7_safe) dX7_safe_31 (q := 32) rfl
def rX7_safe_32 := W_getR (M := mX7_safe) dX7_safe_32 (q := 35) rfl fl7_38 ⟨_, rfl⟩
def rX7_safe_35 := W_getI (M := mX7_safe) dX7_safe_35 (q := 38) rfl fl7_166 (Or.inl rfl)
def rX7_safe_38 := W_invV2 (M := mX7_safe) dX7_safe_38 (q := 41) rfl ml0_7_155 rfl
def rX7_safe_41 := W_istore2 (M := mX7_safe) dX7_safe_41 (q := 42) rfl
def rX7_safe_42 := W_bipush (M := mX7_safe) dX7_safe_42 (q := 44) rfl (v := (-2)) rfl
def rX7_safe_44 := W_istore3 (M := mX7_safe) dX7_safe_44 (q := 45) rfl
def rX7_safe_45 := W_bipush (M := mX7_safe) dX7_safe_45 (q := 47) rfl (v := (7)) rfl
def rX7_safe_47 := W_istore4 (M := mX7_safe) dX7_safe_47 (q := 49) rfl
def rX7_safe_49 := W_iconst (M := mX7_safe) dX7_safe_49 (q := 50) rfl (v := (0)) rfl
def rX7_safe_50 := W_istore5 (M := mX7_safe) dX7_safe_50 (q := 52) rfl
def rX7_safe_52 := W_iload5 (M := mX7_safe) dX7_safe_52 (q := 54) rfl
def rX7_safe_54 := W_iconst (M := mX7_safe) dX7_safe_54 (q := 55) rfl (v := (1)) rfl
def rX7_safe_55 := W_aload0 (M := mX7_safe) dX7_safe_55 (q := 56) rfl
def rX7_safe_55b := W_aloadR0 (M := mX7_safe) dX7_safe_55 (q := 56) rfl
def rX7_safe_56 := W_getR (M := mX7_safe) dX7_safe_56 (q := 59) rfl fl7_10 ⟨_, rfl⟩
def rX7_safe_59 := W_getI (M := mX7_safe) dX7_safe_59 (q := 62) rfl fl7_104 (Or.inl rfl)
def rX7_safe_62 := W_ishl (M := mX7_safe) dX7_safe_62 (q := 63) rfl
def rX7_safe_63 := W_icmp_ge (M := mX7_safe) dX7_safe_63 (q := 66) rfl (t := 124) rfl
def rX7_safe_66 := W_iload5 (M := mX7_safe) dX7_safe_66 (q := 68) rfl
def rX7_safe_68 := W_iload2 (M := mX7_safe) dX7_safe_68 (q := 69) rfl
def rX7_safe_69 := W_iand (M := mX7_safe) dX7_safe_69 (q := 70) rfl
def rX7_safe_70 := W_if_ne (M := mX7_safe) dX7_safe_70 (q := 73) rfl (t := 118) rfl
def rX7_safe_73 := W_iload5 (M := mX7_safe) dX7_safe_73 (q := 75) rfl
def rX7_safe_75 := W_invS1 (M := mX7_safe) dX7_safe_75 (q := 78) rfl ml1_7_200 rfl rfl rfl
def rX7_safe_78 := W_iload4 (M := mX7_safe) dX7_safe_78 (q := 80) rfl
def rX7_safe_80 := W_icmp_ge (M := mX7_safe) dX7_safe_80 (q := 83) rfl (t := 118) rfl
def rX7_safe_83 := W_aload0 (M := mX7_safe) dX7_safe_83 (q := 84) rfl
def rX7_safe_83b := W_aloadR0 (M := mX7_safe) dX7_safe_83 (q := 84) rfl
def rX7_safe_84 := W_getR (M := mX7_safe) dX7_safe_84 (q := 87) rfl fl7_47 ⟨_, rfl⟩
def rX7_safe_87 := W_aload0 (M := mX7_safe) dX7_safe_87 (q := 88) rfl
def rX7_safe_87b := W_aloadR0 (M := mX7_safe) dX7_safe_87 (q := 88) rfl
def rX7_safe_88 := W_getR (M := mX7_safe) dX7_safe_88 (q := 91) rfl fl7_38 ⟨_, rfl⟩
def rX7_safe_91 := W_getI (M := mX7_safe) dX7_safe_91 (q := 94) rfl fl7_121 (Or.inl rfl)
def rX7_safe_94 := W_iload5 (M := mX7_safe) dX7_safe_94 (q := 96) rfl
def rX7_safe_96 := W_ior (M := mX7_safe) dX7_safe_96 (q := 97) rfl
def rX7_safe_97 := W_iload1 (M := mX7_safe) dX7_safe_97 (q := 98) rfl
def rX7_safe_98 := W_invV2 (M := mX7_safe) dX7_safe_98 (q := 101) rfl ml0_7_155 rfl
def rX7_safe_101 := W_iload2 (M := mX7_safe) dX7_safe_101 (q := 102) rfl
def rX7_safe_102 := W_iconst (M := mX7_safe) dX7_safe_102 (q := 103) rfl (v := (-1)) rfl
def rX7_safe_103 := W_ixor (M := mX7_safe) dX7_safe_103 (q := 104) rfl
def rX7_safe_104 := W_iand (M := mX7_safe) dX7_safe_104 (q := 105) rfl
def rX7_safe_105 := W_if_ne (M := mX7_safe) dX7_safe_105 (q := 108) rfl (t := 118) rfl
def rX7_safe_108 := W_iload5 (M := mX7_safe) dX7_safe_108 (q := 110) rfl
def rX7_safe_110 := W_invS1 (M := mX7_safe) dX7_safe_110 (q := 113) rfl ml1_7_200 rfl rfl rfl
def rX7_safe_113 := W_istore4 (M := mX7_safe) dX7_safe_113 (q := 115) rfl
def rX7_safe_115 := W_iload5 (M := mX7_safe) dX7_safe_115 (q := 117) rfl
def rX7_safe_117 := W_istore3 (M := mX7_safe) dX7_safe_117 (q := 118) rfl
def rX7_safe_118 := W_iinc5 (M := mX7_safe) dX7_safe_118 (q := 121) rfl (v := (1)) rfl
def rX7_safe_121 := W_goto (M := mX7_safe) dX7_safe_121 (t := 52) rfl
def rX7_safe_124 := W_iload3 (M := mX7_safe) dX7_safe_124 (q := 125) rfl
def rX7_safe_125 := W_iret (M := mX7_safe) dX7_safe_125 rfl
-- X7_saves
theorem eX7_saves {d : Nat} {h : qH} {Q : Option (Option Value) → qH → Prop} {s0 : Nat} {x1 : Int32} : WM d mX7_saves [.ref s0, .int x1] h Q = WP d mX7_saves (0, 0) 0 [some (.ref s0), some (.int x1)] [] h Q := rfl
def rX7_saves_0 := W_aload0 (M := mX7_saves) dX7_saves_0 (q := 1) rfl
def rX7_saves_0b := W_aloadR0 (M := mX7_saves) dX7_saves_0 (q := 1) rfl
def rX7_saves_1 := W_iload1 (M := mX7_saves) dX7_saves_1 (q := 2) rfl
def rX7_saves_2 := W_invV1 (M := mX7_saves) dX7_saves_2 (q := 5) rfl ml0_7_113 rfl
def rX7_saves_5 := W_if_ne (M := mX7_saves) dX7_saves_5 (q := 8) rfl (t := 16) rfl
def rX7_saves_8 := W_aload0 (M := mX7_saves) dX7_saves_8 (q := 9) rfl
def rX7_saves_8b := W_aloadR0 (M := mX7_saves) dX7_saves_8 (q := 9) rfl
def rX7_saves_9 := W_iload1 (M := mX7_saves) dX7_saves_9 (q := 10) rfl
def rX7_saves_10 := W_invV1 (M := mX7_saves) dX7_saves_10 (q := 13) rfl ml0_7_172 rfl
def rX7_saves_13 := W_if_eq (M := mX7_saves) dX7_saves_13 (q := 16) rfl (t := 18) rfl
def rX7_saves_16 := W_iconst (M := mX7_saves) dX7_saves_16 (q := 17) rfl (v := (-1)) rfl
def rX7_saves_17 := W_iret (M := mX7_saves) dX7_saves_17 rfl
def rX7_saves_18 := W_aload0 (M := mX7_saves) dX7_saves_18 (q := 19) rfl
def rX7_saves_18b := W_aloadR0 (M := mX7_saves) dX7_saves_18 (q := 19) rfl
def rX7_saves_19 := W_aload0 (M := mX7_saves) dX7_saves_19 (q := 20) rfl
def rX7_saves_19b := W_aloadR0 (M := mX7_saves) dX7_saves_19 (q := 20) rfl
def rX7_saves_20 := W_getR (M := mX7_saves) dX7_saves_20 (q := 23) rfl fl7_38 ⟨_, rfl⟩
def rX7_saves_23 := W_getI (M := mX7_saves) dX7_saves_23 (q := 26) rfl fl7_121 (Or.inl rfl)
def rX7_saves_26 := W_invV1 (M := mX7_saves) dX7_saves_26 (q := 29) rfl ml0_7_175 rfl
def rX7_saves_29 := W_aload0 (M := mX7_saves) dX7_saves_29 (q := 30) rfl
def rX7_saves_29b := W_aloadR0 (M := mX7_saves) dX7_saves_29 (q := 30) rfl
def rX7_saves_30 := W_aload0 (M := mX7_saves) dX7_saves_30 (q := 31) rfl
def rX7_saves_30b := W_aloadR0 (M := mX7_saves) dX7_saves_30 (q := 31) rfl
def rX7_saves_31 := W_getR (M := mX7_saves) dX7_saves_31 (q := 34) rfl fl7_38 ⟨_, rfl⟩
def rX7_saves_34 := W_getI (M := mX7_saves) dX7_saves_34 (q := 37) rfl fl7_121 (Or.inl rfl)
def rX7_saves_37 := W_iconst (M := mX7_saves) dX7_saves_37 (q := 38) rfl (v := (1)) rfl
def rX7_saves_38 := W_iload1 (M := mX7_saves) dX7_saves_38 (q := 39) rfl
def rX7_saves_39 := W_ishl (M := mX7_saves) dX7_saves_39 (q := 40) rfl
def rX7_saves_40 := W_ior (M := mX7_saves) dX7_saves_40 (q := 41) rfl
def rX7_saves_41 := W_invV1 (M := mX7_saves) dX7_saves_41 (q := 44) rfl ml0_7_175 rfl
def rX7_saves_44 := W_isub (M := mX7_saves) dX7_saves_44 (q := 45) rfl
def rX7_saves_45 := W_bipush (M := mX7_saves) dX7_saves_45 (q := 47) rfl (v := (100)) rfl
def rX7_saves_47 := W_iadd (M := mX7_saves) dX7_saves_47 (q := 48) rfl
def rX7_saves_48 := W_iret (M := mX7_saves) dX7_saves_48 rfl
-- X7_shown
theorem eX7_shown {d : Nat} {h : qH} {Q : Option (Option Value) → qH → Prop} {x1 : Int32} : WM d mX7_shown [.int x1] h Q = WP d mX7_shown (0, 0) 0 [some (.int x1)] [] h Q := rfl
def rX7_shown_0 := W_iload0 (M := mX7_shown) dX7_shown_0 (q := 1) rfl
def rX7_shown_1 := W_sipush (M := mX7_shown) dX7_shown_1 (q := 4) rfl (v := (1000)) rfl
def rX7_shown_4 := W_icmp_lt (M := mX7_shown) dX7_shown_4 (q := 7) rfl (t := 12) rfl
def rX7_shown_7 := W_bipush (M := mX7_shown) dX7_shown_7 (q := 9) rfl (v := (-2)) rfl
def rX7_shown_9 := W_goto (M := mX7_shown) dX7_shown_9 (t := 13) rfl
def rX7_shown_12 := W_iload0 (M := mX7_shown) dX7_shown_12 (q := 13) rfl
def rX7_shown_13 := W_iret (M := mX7_shown) dX7_shown_13 rfl
-- X7_size
theorem eX7_size {d : Nat} {h : qH} {Q : Option (Option Value) → qH → Prop} {s0 : Nat} {x1 : Int32} : WM d mX7_size [.ref s0, .int x1] h Q = WP d mX7_size (0, 0) 0 [some (.ref s0), some (.int x1)] [] h Q := rfl
def rX7_size_0 := W_iload1 (M := mX7_size) dX7_size_0 (q := 1) rfl
def rX7_size_1 := W_tab (M := mX7_size) (k := 0) dX7_size_1 [64, 72, 80, 88, 96, 107, 115, 123, 131, 139, 147, 155] (df := 163) rfl rfl (by decide) (by decide) 0 rfl
def rX7_size_64 := W_aload0 (M := mX7_size) dX7_size_64 (q := 65) rfl
def rX7_size_64b := W_aloadR0 (M := mX7_size) dX7_size_64 (q := 65) rfl
def rX7_size_65 := W_getR (M := mX7_size) dX7_size_65 (q := 68) rfl fl7_10 ⟨_, rfl⟩
def rX7_size_68 := W_getI (M := mX7_size) dX7_size_68 (q := 71) rfl fl7_289 (Or.inl rfl)
def rX7_size_71 := W_iret (M := mX7_size) dX7_size_71 rfl
def rX7_size_72 := W_aload0 (M := mX7_size) dX7_size_72 (q := 73) rfl
def rX7_size_72b := W_aloadR0 (M := mX7_size) dX7_size_72 (q := 73) rfl
def rX7_size_73 := W_getR (M := mX7_size) dX7_size_73 (q := 76) rfl fl7_10 ⟨_, rfl⟩
def rX7_size_76 := W_getI (M := mX7_size) dX7_size_76 (q := 79) rfl fl7_104 (Or.inl rfl)
def rX7_size_79 := W_iret (M := mX7_size) dX7_size_79 rfl
def rX7_size_80 := W_aload0 (M := mX7_size) dX7_size_80 (q := 81) rfl
def rX7_size_80b := W_aloadR0 (M := mX7_size) dX7_size_80 (q := 81) rfl
def rX7_size_81 := W_getR (M := mX7_size) dX7_size_81 (q := 84) rfl fl7_10 ⟨_, rfl⟩
def rX7_size_84 := W_getI (M := mX7_size) dX7_size_84 (q := 87) rfl fl7_205 (Or.inl rfl)
def rX7_size_87 := W_iret (M := mX7_size) dX7_size_87 rfl
def rX7_size_88 := W_aload0 (M := mX7_size) dX7_size_88 (q := 89) rfl
def rX7_size_88b := W_aloadR0 (M := mX7_size) dX7_size_88 (q := 89) rfl
def rX7_size_89 := W_getR (M := mX7_size) dX7_size_89 (q := 92) rfl fl7_10 ⟨_, rfl⟩
def rX7_size_92 := W_invV0 (M := mX7_size) dX7_size_92 (q := 95) rfl ml0_7_292 rfl
def rX7_size_95 := W_iret (M := mX7_size) dX7_size_95 rfl
def rX7_size_96 := W_aload0 (M := mX7_size) dX7_size_96 (q := 97) rfl
def rX7_size_96b := W_aloadR0 (M := mX7_size) dX7_size_96 (q := 97) rfl
def rX7_size_97 := W_getR (M := mX7_size) dX7_size_97 (q := 100) rfl fl7_10 ⟨_, rfl⟩
def rX7_size_100 := W_getI (M := mX7_size) dX7_size_100 (q := 103) rfl fl7_94 (Or.inl rfl)
def rX7_size_103 := W_invS1 (M := mX7_size) dX7_size_103 (q := 106) rfl ml1_7_200 rfl rfl rfl
def rX7_size_106 := W_iret (M := mX7_size) dX7_size_106 rfl
def rX7_size_107 := W_aload0 (M := mX7_size) dX7_size_107 (q := 108) rfl
def rX7_size_107b := W_aloadR0 (M := mX7_size) dX7_size_107 (q := 108) rfl
def rX7_size_108 := W_getR (M := mX7_size) dX7_size_108 (q := 111) rfl fl7_10 ⟨_, rfl⟩
def rX7_size_111 := W_getI (M := mX7_size) dX7_size_111 (q := 114) rfl fl7_295 (Or.inl rfl)
def rX7_size_114 := W_iret (M := mX7_size) dX7_size_114 rfl
def rX7_size_115 := W_aload0 (M := mX7_size) dX7_size_115 (q := 116) rfl
def rX7_size_115b := W_aloadR0 (M := mX7_size) dX7_size_115 (q := 116) rfl
def rX7_size_116 := W_getR (M := mX7_size) dX7_size_116 (q := 119) rfl fl7_10 ⟨_, rfl⟩
def rX7_size_119 := W_getI (M := mX7_size) dX7_size_119 (q := 122) rfl fl7_214 (Or.inl rfl)
def rX7_size_122 := W_iret (M := mX7_size) dX7_size_122 rfl
def rX7_size_123 := W_aload0 (M := mX7_size) dX7_size_123 (q := 124) rfl
def rX7_size_123b := W_aloadR0 (M := mX7_size) dX7_size_123 (q := 124) rfl
def rX7_size_124 := W_getR (M := mX7_size) dX7_size_124 (q := 127) rfl fl7_10 ⟨_, rfl⟩
def rX7_size_127 := W_getI (M := mX7_size) dX7_size_127 (q := 130) rfl fl7_231 (Or.inl rfl)
def rX7_size_130 := W_iret (M := mX7_size) dX7_size_130 rfl
def rX7_size_131 := W_aload0 (M := mX7_size) dX7_size_131 (q := 132) rfl
def rX7_size_131b := W_aloadR0 (M := mX7_size) dX7_size_131 (q := 132) rfl
def rX7_size_132 := W_getR (M := mX7_size) dX7_size_132 (q := 135) rfl fl7_38 ⟨_, rfl⟩
def rX7_size_135 := W_getI (M := mX7_size) dX7_size_135 (q := 138) rfl fl7_166 (Or.inl rfl)
def rX7_size_138 := W_iret (M := mX7_size) dX7_size_138 rfl
def rX7_size_139 := W_aload0 (M := mX7_size) dX7_size_139 (q := 140) rfl
def rX7_size_139b := W_aloadR0 (M := mX7_size) dX7_size_139 (q := 140) rfl
def rX7_size_140 := W_getR (M := mX7_size) dX7_size_140 (q := 143) rfl fl7_38 ⟨_, rfl⟩
def rX7_size_143 := W_getI (M := mX7_size) dX7_size_143 (q := 146) rfl fl7_298 (Or.inl rfl)
def rX7_size_146 := W_iret (M := mX7_size) dX7_size_146 rfl
def rX7_size_147 := W_aload0 (M := mX7_size) dX7_size_147 (q := 148) rfl
def rX7_size_147b := W_aloadR0 (M := mX7_size) dX7_size_147 (q := 148) rfl
def rX7_size_148 := W_getR (M := mX7_size) dX7_size_148 (q := 151) rfl fl7_38 ⟨_, rfl⟩
def rX7_size_151 := W_getI (M := mX7_size) dX7_size_151 (q := 154) rfl fl7_301 (Or.inl rfl)
def rX7_size_154 := W_iret (M := mX7_size) dX7_size_154 rfl
def rX7_size_155 := W_aload0 (M := mX7_size) dX7_size_155 (q := 156) rfl
def rX7_size_155b := W_aloadR0 (M := mX7_size) dX7_size_155 (q := 156) rfl
def rX7_size_156 := W_getR (M := mX7_size) dX7_size_156 (q := 159) rfl fl7_22 ⟨_, rfl⟩
def rX7_size_159 := W_getI (M := mX7_size) dX7_size_159 (q := 162) rfl fl7_67 (Or.inl rfl)
def rX7_size_162 := W_iret (M := mX7_size) dX7_size_162 rfl
def rX7_size_163 := W_iconst (M := mX7_size) dX7_size_163 (q := 164) rfl (v := (-1)) rfl
def rX7_size_164 := W_iret (M := mX7_size) dX7_size_164 rfl
-- X7_spark
theorem eX7_spark {d : Nat} {h : qH} {Q : Option (Option Value) → qH → Prop} {s0 : Nat} {x1 : Int32} {x2 : Int32} : WM d mX7_spark [.ref s0, .int x1, .int x2] h Q = WP d mX7_spark (0, 0) 0 [some (.ref s0), some (.int x1), some (.int x2), none] [] h Q := rfl
def rX7_spark_0 := W_aload0 (M := mX7_spark) dX7_spark_0 (q := 1) rfl
def rX7_spark_0b := W_aloadR0 (M := mX7_spark) dX7_spark_0 (q := 1) rfl
def rX7_spark_1 := W_iload1 (M := mX7_spark) dX7_spark_1 (q := 2) rfl
def rX7_spark_2 := W_invV1 (M := mX7_spark) dX7_spark_2 (q := 5) rfl ml0_7_113 rfl
def rX7_spark_5 := W_if_ne (M := mX7_spark) dX7_spark_5 (q := 8) rfl (t := 16) rfl
def rX7_spark_8 := W_aload0 (M := mX7_spark) dX7_spark_8 (q := 9) rfl
def rX7_spark_8b := W_aloadR0 (M := mX7_spark) dX7_spark_8 (q := 9) rfl
def rX7_spark_9 := W_iload2 (M := mX7_spark) dX7_spark_9 (q := 10) rfl
def rX7_spark_10 := W_invV1 (M := mX7_spark) dX7_spark_10 (q := 13) rfl ml0_7_113 rfl
def rX7_spark_13 := W_if_eq (M := mX7_spark) dX7_spark_13 (q := 16) rfl (t := 18) rfl
def rX7_spark_16 := W_iconst (M := mX7_spark) dX7_spark_16 (q := 17) rfl (v := (-1)) rfl
def rX7_spark_17 := W_iret (M := mX7_spark) dX7_spark_17 rfl
def rX7_spark_18 := W_iload1 (M := mX7_spark) dX7_spark_18 (q := 19) rfl
def rX7_spark_19 := W_iload2 (M := mX7_spark) dX7_spark_19 (q := 20) rfl
def rX7_spark_20 := W_icmp_ne (M := mX7_spark) dX7_spark_20 (q := 23) rfl (t := 29) rfl
def rX7_spark_23 := W_aload0 (M := mX7_spark) dX7_spark_23 (q := 24) rfl
def rX7_spark_23b := W_aloadR0 (M := mX7_spark) dX7_spark_23 (q := 24) rfl
def rX7_spark_24 := W_iconst (M := mX7_spark) dX7_spark_24 (q := 25) rfl (v := (1)) rfl
def rX7_spark_25 := W_invV1 (M := mX7_spark) dX7_spark_25 (q := 28) rfl ml0_7_87 rfl
def rX7_spark_28 := W_iret (M := mX7_spark) dX7_spark_28 rfl
def rX7_spark_29 := W_aload0 (M := mX7_spark) dX7_spark_29 (q := 30) rfl
def rX7_spark_29b := W_aloadR0 (M := mX7_spark) dX7_spark_29 (q := 30) rfl
def rX7_spark_30 := W_getR (M := mX7_spark) dX7_spark_30 (q := 33) rfl fl7_10 ⟨_, rfl⟩
def rX7_spark_33 := W_iload1 (M := mX7_spark) dX7_spark_33 (q := 34) rfl
def rX7_spark_34 := W_iload2 (M := mX7_spark) dX7_spark_34 (q := 35) rfl
def rX7_spark_35 := W_aload0 (M := mX7_spark) dX7_spark_35 (q := 36) rfl
def rX7_spark_35b := W_aloadR0 (M := mX7_spark) dX7_spark_35 (q := 36) rfl
def rX7_spark_36 := W_getR (M := mX7_spark) dX7_spark_36 (q := 39) rfl fl7_10 ⟨_, rfl⟩
def rX7_spark_39 := W_aload0 (M := mX7_spark) dX7_spark_39 (q := 40) rfl
def rX7_spark_39b := W_aloadR0 (M := mX7_spark) dX7_spark_39 (q := 40) rfl
def rX7_spark_40 := W_getR (M := mX7_spark) dX7_spark_40 (q := 43) rfl fl7_38 ⟨_, rfl⟩
def rX7_spark_43 := W_getI (M := mX7_spark) dX7_spark_43 (q := 46) rfl fl7_121 (Or.inl rfl)
def rX7_spark_46 := W_invV1 (M := mX7_spark) dX7_spark_46 (q := 49) rfl ml0_7_135 rfl
def rX7_spark_49 := W_invV3 (M := mX7_spark) dX7_spark_49 (q := 52) rfl ml0_7_138 rfl
def rX7_spark_52 := W_istore3 (M := mX7_spark) dX7_spark_52 (q := 53) rfl
def rX7_spark_53 := W_iload3 (M := mX7_spark) dX7_spark_53 (q := 54) rfl
def rX7_spark_54 := W_sipush (M := mX7_spark) dX7_spark_54 (q := 57) rfl (v := (1000)) rfl
def rX7_spark_57 := W_icmp_lt (M := mX7_spark) dX7_spark_57 (q := 60) rfl (t := 65) rfl
def rX7_spark_60 := W_bipush (M := mX7_spark) dX7_spark_60 (q := 62) rfl (v := (-2)) rfl
def rX7_spark_62 := W_goto (M := mX7_spark) dX7_spark_62 (t := 66) rfl
def rX7_spark_65 := W_iload3 (M := mX7_spark) dX7_spark_65 (q := 66) rfl
def rX7_spark_66 := W_iret (M := mX7_spark) dX7_spark_66 rfl
-- X7_stays
theorem eX7_stays {d : Nat} {h : qH} {Q : Option (Option Value) → qH → Prop} {s0 : Nat} {x1 : Int32} {x2 : Int32} : WM d mX7_stays [.ref s0, .int x1, .int x2] h Q = WP d mX7_stays (0, 0) 0 [some (.ref s0), some (.int x1), some (.int x2)] [] h Q := rfl
def rX7_stays_0 := W_aload0 (M := mX7_stays) dX7_stays_0 (q := 1) rfl
def rX7_stays_0b := W_aloadR0 (M := mX7_stays) dX7_stays_0 (q := 1) rfl
def rX7_stays_1 := W_iload1 (M := mX7_stays) dX7_stays_1 (q := 2) rfl
def rX7_stays_2 := W_iload2 (M := mX7_stays) dX7_stays_2 (q := 3) rfl
def rX7_stays_3 := W_invV2 (M := mX7_stays) dX7_stays_3 (q := 6) rfl ml0_7_239 rfl
def rX7_stays_6 := W_aload0 (M := mX7_stays) dX7_stays_6 (q := 7) rfl
def rX7_stays_6b := W_aloadR0 (M := mX7_stays) dX7_stays_6 (q := 7) rfl
def rX7_stays_7 := W_iload1 (M := mX7_stays) dX7_stays_7 (q := 8) rfl
def rX7_stays_8 := W_if_ne (M := mX7_stays) dX7_stays_8 (q := 11) rfl (t := 15) rfl
def rX7_stays_11 := W_iconst (M := mX7_stays) dX7_stays_11 (q := 12) rfl (v := (1)) rfl
def rX7_stays_12 := W_goto (M := mX7_stays) dX7_stays_12 (t := 16) rfl
def rX7_stays_15 := W_iconst (M := mX7_stays) dX7_stays_15 (q := 16) rfl (v := (0)) rfl
def rX7_stays_16 := W_iload2 (M := mX7_stays) dX7_stays_16 (q := 17) rfl
def rX7_stays_17 := W_invV2 (M := mX7_stays) dX7_stays_17 (q := 20) rfl ml0_7_239 rfl
def rX7_stays_20 := W_icmp_lt (M := mX7_stays) dX7_stays_20 (q := 23) rfl (t := 50) rfl
def rX7_stays_23 := W_aload0 (M := mX7_stays) dX7_stays_23 (q := 24) rfl
def rX7_stays_23b := W_aloadR0 (M := mX7_stays) dX7_stays_23 (q := 24) rfl
def rX7_stays_24 := W_iload2 (M := mX7_stays) dX7_stays_24 (q := 25) rfl
def rX7_stays_25 := W_iload1 (M := mX7_stays) dX7_stays_25 (q := 26) rfl
def rX7_stays_26 := W_invV2 (M := mX7_stays) dX7_stays_26 (q := 29) rfl ml0_7_239 rfl
def rX7_stays_29 := W_aload0 (M := mX7_stays) dX7_stays_29 (q := 30) rfl
def rX7_stays_29b := W_aloadR0 (M := mX7_stays) dX7_stays_29 (q := 30) rfl
def rX7_stays_30 := W_iload2 (M := mX7_stays) dX7_stays_30 (q := 31) rfl
def rX7_stays_31 := W_if_ne (M := mX7_stays) dX7_stays_31 (q := 34) rfl (t := 38) rfl
def rX7_stays_34 := W_iconst (M := mX7_stays) dX7_stays_34 (q := 35) rfl (v := (1)) rfl
def rX7_stays_35 := W_goto (M := mX7_stays) dX7_stays_35 (t := 39) rfl
def rX7_stays_38 := W_iconst (M := mX7_stays) dX7_stays_38 (q := 39) rfl (v := (0)) rfl
def rX7_stays_39 := W_iload1 (M := mX7_stays) dX7_stays_39 (q := 40) rfl
def rX7_stays_40 := W_invV2 (M := mX7_stays) dX7_stays_40 (q := 43) rfl ml0_7_239 rfl
def rX7_stays_43 := W_icmp_lt (M := mX7_stays) dX7_stays_43 (q := 46) rfl (t := 50) rfl
def rX7_stays_46 := W_iconst (M := mX7_stays) dX7_stays_46 (q := 47) rfl (v := (1)) rfl
def rX7_stays_47 := W_goto (M := mX7_stays) dX7_stays_47 (t := 51) rfl
def rX7_stays_50 := W_iconst (M := mX7_stays) dX7_stays_50 (q := 51) rfl (v := (0)) rfl
def rX7_stays_51 := W_zret (M := mX7_stays) dX7_stays_51 rfl
-- X7_street
theorem eX7_street {d : Nat} {h : qH} {Q : Option (Option Value) → qH → Prop} {s0 : Nat} {x1 : Int32} : WM d mX7_street [.ref s0, .int x1] h Q = WP d mX7_street (0, 0) 0 [some (.ref s0), some (.int x1), none, none] [] h Q := rfl
def rX7_street_0 := W_aload0 (M := mX7_street) dX7_street_0 (q := 1) rfl
def rX7_street_0b := W_aloadR0 (M := mX7_street) dX7_street_0 (q := 1) rfl
def rX7_street_1 := W_iload1 (M := mX7_street) dX7_street_1 (q := 2) rfl
def rX7_street_2 := W_iconst (M := mX7_street) dX7_street_2 (q := 3) rfl (v := (0)) rfl
def rX7_street_3 := W_aload0 (M := mX7_street) dX7_street_3 (q := 4) rfl
def rX7_street_3b := W_aloadR0 (M := mX7_street) dX7_street_3 (q := 4) rfl
def rX7_street_4 := W_getR (M := mX7_street) dX7_street_4 (q := 7) rfl fl7_22 ⟨_, rfl⟩
def rX7_street_7 := W_getI (M := mX7_street) dX7_street_7 (q := 10) rfl fl7_67 (Or.inl rfl)
def rX7_street_10 := W_invV3 (M := mX7_street) dX7_street_10 (q := 13) rfl ml0_7_75 rfl
def rX7_street_13 := W_if_eq (M := mX7_street) dX7_street_13 (q := 16) rfl (t := 18) rfl
def rX7_street_16 := W_iconst (M := mX7_street) dX7_street_16 (q := 17) rfl (v := (-1)) rfl
def rX7_street_17 := W_iret (M := mX7_street) dX7_street_17 rfl
def rX7_street_18 := W_aload0 (M := mX7_street) dX7_street_18 (q := 19) rfl
def rX7_street_18b := W_aloadR0 (M := mX7_street) dX7_street_18 (q := 19) rfl
def rX7_street_19 := W_getR (M := mX7_street) dX7_street_19 (q := 22) rfl fl7_31 ⟨_, rfl⟩
def rX7_street_22 := W_aload0 (M := mX7_street) dX7_street_22 (q := 23) rfl
def rX7_street_22b := W_aloadR0 (M := mX7_street) dX7_street_22 (q := 23) rfl
def rX7_street_23 := W_getR (M := mX7_street) dX7_street_23 (q := 26) rfl fl7_16 ⟨_, rfl⟩
def rX7_street_26 := W_iload1 (M := mX7_street) dX7_street_26 (q := 27) rfl
def rX7_street_27 := W_invV2 (M := mX7_street) dX7_street_27 (q := 30) rfl ml0_7_79 rfl
def rX7_street_30 := W_istore2 (M := mX7_street) dX7_street_30 (q := 31) rfl
def rX7_street_31 := W_aload0 (M := mX7_street) dX7_street_31 (q := 32) rfl
def rX7_street_31b := W_aloadR0 (M := mX7_street) dX7_street_31 (q := 32) rfl
def rX7_street_32 := W_getR (M := mX7_street) dX7_street_32 (q := 35) rfl fl7_22 ⟨_, rfl⟩
def rX7_street_35 := W_iconst (M := mX7_street) dX7_street_35 (q := 36) rfl (v := (0)) rfl
def rX7_street_36 := W_putI (M := mX7_street) dX7_street_36 (q := 39) rfl fl7_67 rfl (Or.inl rfl)
def rX7_street_39 := W_aload0 (M := mX7_street) dX7_street_39 (q := 40) rfl
def rX7_street_39b := W_aloadR0 (M := mX7_street) dX7_street_39 (q := 40) rfl
def rX7_street_40 := W_aload0 (M := mX7_street) dX7_street_40 (q := 41) rfl
def rX7_street_40b := W_aloadR0 (M := mX7_street) dX7_street_40 (q := 41) rfl
def rX7_street_41 := W_getR (M := mX7_street) dX7_street_41 (q := 44) rfl fl7_31 ⟨_, rfl⟩
def rX7_street_44 := W_getI (M := mX7_street) dX7_street_44 (q := 47) rfl fl7_83 (Or.inl rfl)
def rX7_street_47 := W_putI (M := mX7_street) dX7_street_47 (q := 50) rfl fl7_86 rfl (Or.inl rfl)
def rX7_street_50 := W_iload2 (M := mX7_street) dX7_street_50 (q := 51) rfl
def rX7_street_51 := W_if_ne (M := mX7_street) dX7_street_51 (q := 54) rfl (t := 60) rfl
def rX7_street_54 := W_aload0 (M := mX7_street) dX7_street_54 (q := 55) rfl
def rX7_street_54b := W_aloadR0 (M := mX7_street) dX7_street_54 (q := 55) rfl
def rX7_street_55 := W_iconst (M := mX7_street) dX7_street_55 (q := 56) rfl (v := (4)) rfl
def rX7_street_56 := W_invV1 (M := mX7_street) dX7_street_56 (q := 59) rfl ml0_7_87 rfl
def rX7_street_59 := W_iret (M := mX7_street) dX7_street_59 rfl
def rX7_street_60 := W_aload0 (M := mX7_street) dX7_street_60 (q := 61) rfl
def rX7_street_60b := W_aloadR0 (M := mX7_street) dX7_street_60 (q := 61) rfl
def rX7_street_61 := W_getR (M := mX7_street) dX7_street_61 (q := 64) rfl fl7_16 ⟨_, rfl⟩
def rX7_street_64 := W_astore3 (M := mX7_street) dX7_street_64 (q := 65) rfl
def rX7_street_65 := W_aload0 (M := mX7_street) dX7_street_65 (q := 66) rfl
def rX7_street_65b := W_aloadR0 (M := mX7_street) dX7_street_65 (q := 66) rfl
def rX7_street_66 := W_aload0 (M := mX7_street) dX7_street_66 (q := 67) rfl
def rX7_street_66b := W_aloadR0 (M := mX7_street) dX7_street_66 (q := 67) rfl
def rX7_street_67 := W_getR (M := mX7_street) dX7_street_67 (q := 70) rfl fl7_10 ⟨_, rfl⟩
def rX7_street_70 := W_putR (M := mX7_street) dX7_street_70 (q := 73) rfl fl7_16 ⟨_, rfl⟩ (Or.inl rfl)
def rX7_street_73 := W_aload0 (M := mX7_street) dX7_street_73 (q := 74) rfl
def rX7_street_73b := W_aloadR0 (M := mX7_street) dX7_street_73 (q := 74) rfl
def rX7_street_74 := W_aload3 (M := mX7_street) dX7_street_74 (q := 75) rfl
def rX7_street_74b := W_aloadR3 (M := mX7_street) dX7_street_74 (q := 75) rfl
def rX7_street_75 := W_putR (M := mX7_street) dX7_street_75 (q := 78) rfl fl7_10 ⟨_, rfl⟩ (Or.inl rfl)
def rX7_street_78 := W_aload0 (M := mX7_street) dX7_street_78 (q := 79) rfl
def rX7_street_78b := W_aloadR0 (M := mX7_street) dX7_street_78 (q := 79) rfl
def rX7_street_79 := W_getR (M := mX7_street) dX7_street_79 (q := 82) rfl fl7_47 ⟨_, rfl⟩
def rX7_street_82 := W_aload0 (M := mX7_street) dX7_street_82 (q := 83) rfl
def rX7_street_82b := W_aloadR0 (M := mX7_street) dX7_street_82 (q := 83) rfl
def rX7_street_83 := W_getR (M := mX7_street) dX7_street_83 (q := 86) rfl fl7_10 ⟨_, rfl⟩
def rX7_street_86 := W_invV1 (M := mX7_street) dX7_street_86 (q := 89) rfl ml0_7_91 rfl
def rX7_street_89 := W_aload0 (M := mX7_street) dX7_street_89 (q := 90) rfl
def rX7_street_89b := W_aloadR0 (M := mX7_street) dX7_street_89 (q := 90) rfl
def rX7_street_90 := W_getR (M := mX7_street) dX7_street_90 (q := 93) rfl fl7_38 ⟨_, rfl⟩
def rX7_street_93 := W_aload0 (M := mX7_street) dX7_street_93 (q := 94) rfl
def rX7_street_93b := W_aloadR0 (M := mX7_street) dX7_street_93 (q := 94) rfl
def rX7_street_94 := W_getR (M := mX7_street) dX7_street_94 (q := 97) rfl fl7_10 ⟨_, rfl⟩
def rX7_street_97 := W_getI (M := mX7_street) dX7_street_97 (q := 100) rfl fl7_94 (Or.inl rfl)
def rX7_street_100 := W_invV1 (M := mX7_street) dX7_street_100 (q := 103) rfl ml0_7_97 rfl
def rX7_street_103 := W_aload0 (M := mX7_street) dX7_street_103 (q := 104) rfl
def rX7_street_103b := W_aloadR0 (M := mX7_street) dX7_street_103 (q := 104) rfl
def rX7_street_104 := W_getR (M := mX7_street) dX7_street_104 (q := 107) rfl fl7_56 ⟨_, rfl⟩
def rX7_street_107 := W_iconst (M := mX7_street) dX7_street_107 (q := 108) rfl (v := (0)) rfl
def rX7_street_108 := W_putZ (M := mX7_street) dX7_street_108 (q := 111) rfl fl7_99 rfl (Or.inl rfl)
def rX7_street_111 := W_aload0 (M := mX7_street) dX7_street_111 (q := 112) rfl
def rX7_street_111b := W_aloadR0 (M := mX7_street) dX7_street_111 (q := 112) rfl
def rX7_street_112 := W_getR (M := mX7_street) dX7_street_112 (q := 115) rfl fl7_63 ⟨_, rfl⟩
def rX7_street_115 := W_iconst (M := mX7_street) dX7_street_115 (q := 116) rfl (v := (0)) rfl
def rX7_street_116 := W_putZ (M := mX7_street) dX7_street_116 (q := 119) rfl fl7_103 rfl (Or.inl rfl)
def rX7_street_119 := W_aload0 (M := mX7_street) dX7_street_119 (q := 120) rfl
def rX7_street_119b := W_aloadR0 (M := mX7_street) dX7_street_119 (q := 120) rfl
def rX7_street_120 := W_getR (M := mX7_street) dX7_street_120 (q := 123) rfl fl7_10 ⟨_, rfl⟩
def rX7_street_123 := W_getI (M := mX7_street) dX7_street_123 (q := 126) rfl fl7_104 (Or.inl rfl)
def rX7_street_126 := W_iret (M := mX7_street) dX7_street_126 rfl
-- X7_tell
theorem eX7_tell {d : Nat} {h : qH} {Q : Option (Option Value) → qH → Prop} {s0 : Nat} {x1 : Int32} : WM d mX7_tell [.ref s0, .int x1] h Q = WP d mX7_tell (0, 0) 0 [some (.ref s0), some (.int x1)] [] h Q := rfl
def rX7_tell_0 := W_aload0 (M := mX7_tell) dX7_tell_0 (q := 1) rfl
def rX7_tell_0b := W_aloadR0 (M := mX7_tell) dX7_tell_0 (q := 1) rfl
def rX7_tell_1 := W_iload1 (M := mX7_tell) dX7_tell_1 (q := 2) rfl
def rX7_tell_2 := W_invV1 (M := mX7_tell) dX7_tell_2 (q := 5) rfl ml0_7_113 rfl
def rX7_tell_5 := W_if_ne (M := mX7_tell) dX7_tell_5 (q := 8) rfl (t := 16) rfl
def rX7_tell_8 := W_aload0 (M := mX7_tell) dX7_tell_8 (q := 9) rfl
def rX7_tell_8b := W_aloadR0 (M := mX7_tell) dX7_tell_8 (q := 9) rfl
def rX7_tell_9 := W_iload1 (M := mX7_tell) dX7_tell_9 (q := 10) rfl
def rX7_tell_10 := W_invV1 (M := mX7_tell) dX7_tell_10 (q := 13) rfl ml0_7_172 rfl
def rX7_tell_13 := W_if_eq (M := mX7_tell) dX7_tell_13 (q := 16) rfl (t := 18) rfl
def rX7_tell_16 := W_iconst (M := mX7_tell) dX7_tell_16 (q := 17) rfl (v := (-1)) rfl
def rX7_tell_17 := W_iret (M := mX7_tell) dX7_tell_17 rfl
def rX7_tell_18 := W_aload0 (M := mX7_tell) dX7_tell_18 (q := 19) rfl
def rX7_tell_18b := W_aloadR0 (M := mX7_tell) dX7_tell_18 (q := 19) rfl
def rX7_tell_19 := W_getR (M := mX7_tell) dX7_tell_19 (q := 22) rfl fl7_38 ⟨_, rfl⟩
def rX7_tell_22 := W_getI (M := mX7_tell) dX7_tell_22 (q := 25) rfl fl7_121 (Or.inl rfl)
def rX7_tell_25 := W_iload1 (M := mX7_tell) dX7_tell_25 (q := 26) rfl
def rX7_tell_26 := W_ishr (M := mX7_tell) dX7_tell_26 (q := 27) rfl
def rX7_tell_27 := W_iconst (M := mX7_tell) dX7_tell_27 (q := 28) rfl (v := (1)) rfl
def rX7_tell_28 := W_iand (M := mX7_tell) dX7_tell_28 (q := 29) rfl
def rX7_tell_29 := W_iconst (M := mX7_tell) dX7_tell_29 (q := 30) rfl (v := (1)) rfl
def rX7_tell_30 := W_icmp_ne (M := mX7_tell) dX7_tell_30 (q := 33) rfl (t := 39) rfl
def rX7_tell_33 := W_aload0 (M := mX7_tell) dX7_tell_33 (q := 34) rfl
def rX7_tell_33b := W_aloadR0 (M := mX7_tell) dX7_tell_33 (q := 34) rfl
def rX7_tell_34 := W_iconst (M := mX7_tell) dX7_tell_34 (q := 35) rfl (v := (5)) rfl
def rX7_tell_35 := W_invV1 (M := mX7_tell) dX7_tell_35 (q := 38) rfl ml0_7_87 rfl
def rX7_tell_38 := W_iret (M := mX7_tell) dX7_tell_38 rfl
def rX7_tell_39 := W_aload0 (M := mX7_tell) dX7_tell_39 (q := 40) rfl
def rX7_tell_39b := W_aloadR0 (M := mX7_tell) dX7_tell_39 (q := 40) rfl
def rX7_tell_40 := W_getR (M := mX7_tell) dX7_tell_40 (q := 43) rfl fl7_38 ⟨_, rfl⟩
def rX7_tell_43 := W_invV0 (M := mX7_tell) dX7_tell_43 (q := 46) rfl ml0_7_266 rfl
def rX7_tell_46 := W_aload0 (M := mX7_tell) dX7_tell_46 (q := 47) rfl
def rX7_tell_46b := W_aloadR0 (M := mX7_tell) dX7_tell_46 (q := 47) rfl
def rX7_tell_47 := W_getR (M := mX7_tell) dX7_tell_47 (q := 50) rfl fl7_38 ⟨_, rfl⟩
def rX7_tell_50 := W_dupI (M := mX7_tell) dX7_tell_50 (q := 51) rfl
def rX7_tell_50b := W_dupR (M := mX7_tell) dX7_tell_50 (q := 51) rfl
def rX7_tell_51 := W_getI (M := mX7_tell) dX7_tell_51 (q := 54) rfl fl7_121 (Or.inl rfl)
def rX7_tell_54 := W_iconst (M := mX7_tell) dX7_tell_54 (q := 55) rfl (v := (1)) rfl
def rX7_tell_55 := W_iload1 (M := mX7_tell) dX7_tell_55 (q := 56) rfl
def rX7_tell_56 := W_ishl (M := mX7_tell) dX7_tell_56 (q := 57) rfl
def rX7_tell_57 := W_ior (M := mX7_tell) dX7_tell_57 (q := 58) rfl
def rX7_tell_58 := W_putI (M := mX7_tell) dX7_tell_58 (q := 61) rfl fl7_121 rfl (Or.inl rfl)
def rX7_tell_61 := W_aload0 (M := mX7_tell) dX7_tell_61 (q := 62) rfl
def rX7_tell_61b := W_aloadR0 (M := mX7_tell) dX7_tell_61 (q := 62) rfl
def rX7_tell_62 := W_getR (M := mX7_tell) dX7_tell_62 (q := 65) rfl fl7_47 ⟨_, rfl⟩
def rX7_tell_65 := W_aload0 (M := mX7_tell) dX7_tell_65 (q := 66) rfl
def rX7_tell_65b := W_aloadR0 (M := mX7_tell) dX7_tell_65 (q := 66) rfl
def rX7_tell_66 := W_getR (M := mX7_tell) dX7_tell_66 (q := 69) rfl fl7_38 ⟨_, rfl⟩
def rX7_tell_69 := W_getI (M := mX7_tell) dX7_tell_69 (q := 72) rfl fl7_121 (Or.inl rfl)
def rX7_tell_72 := W_iload1 (M := mX7_tell) dX7_tell_72 (q := 73) rfl
def rX7_tell_73 := W_invV2 (M := mX7_tell) dX7_tell_73 (q := 76) rfl ml0_7_142 rfl
def rX7_tell_76 := W_invS1 (M := mX7_tell) dX7_tell_76 (q := 79) rfl ml1_7_145 rfl rfl rfl
def rX7_tell_79 := W_iret (M := mX7_tell) dX7_tell_79 rfl
-- X7_trouble
theorem eX7_trouble {d : Nat} {h : qH} {Q : Option (Option Value) → qH → Prop} {s0 : Nat} : WM d mX7_trouble [.ref s0] h Q = WP d mX7_trouble (0, 0) 0 [some (.ref s0)] [] h Q := rfl
def rX7_trouble_0 := W_aload0 (M := mX7_trouble) dX7_trouble_0 (q := 1) rfl
def rX7_trouble_0b := W_aloadR0 (M := mX7_trouble) dX7_trouble_0 (q := 1) rfl
def rX7_trouble_1 := W_getI (M := mX7_trouble) dX7_trouble_1 (q := 4) rfl fl7_107 (Or.inl rfl)
def rX7_trouble_4 := W_iret (M := mX7_trouble) dX7_trouble_4 rfl
-- X7_tryDay
theorem eX7_tryDay {d : Nat} {h : qH} {Q : Option (Option Value) → qH → Prop} {s0 : Nat} : WM d mX7_tryDay [.ref s0] h Q = WP d mX7_tryDay (0, 0) 0 [some (.ref s0)] [] h Q := rfl
def rX7_tryDay_0 := W_aload0 (M := mX7_tryDay) dX7_tryDay_0 (q := 1) rfl
def rX7_tryDay_0b := W_aloadR0 (M := mX7_tryDay) dX7_tryDay_0 (q := 1) rfl
def rX7_tryDay_1 := W_invV0 (M := mX7_tryDay) dX7_tryDay_1 (q := 4) rfl ml0_7_151 rfl
def rX7_tryDay_4 := W_if_eq (M := mX7_tryDay) dX7_tryDay_4 (q := 7) rfl (t := 9) rfl
def rX7_tryDay_7 := W_iconst (M := mX7_tryDay) dX7_tryDay_7 (q := 8) rfl (v := (-1)) rfl
def rX7_tryDay_8 := W_iret (M := mX7_tryDay) dX7_tryDay_8 rfl
def rX7_tryDay_9 := W_aload0 (M := mX7_tryDay) dX7_tryDay_9 (q := 10) rfl
def rX7_tryDay_9b := W_aloadR0 (M := mX7_tryDay) dX7_tryDay_9 (q := 10) rfl
def rX7_tryDay_10 := W_getR (M := mX7_tryDay) dX7_tryDay_10 (q := 13) rfl fl7_63 ⟨_, rfl⟩
def rX7_tryDay_13 := W_invV0 (M := mX7_tryDay) dX7_tryDay_13 (q := 16) rfl ml0_7_211 rfl
def rX7_tryDay_16 := W_aload0 (M := mX7_tryDay) dX7_tryDay_16 (q := 17) rfl
def rX7_tryDay_16b := W_aloadR0 (M := mX7_tryDay) dX7_tryDay_16 (q := 17) rfl
def rX7_tryDay_17 := W_getR (M := mX7_tryDay) dX7_tryDay_17 (q := 20) rfl fl7_63 ⟨_, rfl⟩
def rX7_tryDay_20 := W_getI (M := mX7_tryDay) dX7_tryDay_20 (q := 23) rfl fl7_225 (Or.inl rfl)
def rX7_tryDay_23 := W_iret (M := mX7_tryDay) dX7_tryDay_23 rfl
-- X7_tryLeaves
theorem eX7_tryLeaves {d : Nat} {h : qH} {Q : Option (Option Value) → qH → Prop} {s0 : Nat} : WM d mX7_tryLeaves [.ref s0] h Q = WP d mX7_tryLeaves (0, 0) 0 [some (.ref s0)] [] h Q := rfl
def rX7_tryLeaves_0 := W_aload0 (M := mX7_tryLeaves) dX7_tryLeaves_0 (q := 1) rfl
def rX7_tryLeaves_0b := W_aloadR0 (M := mX7_tryLeaves) dX7_tryLeaves_0 (q := 1) rfl
def rX7_tryLeaves_1 := W_invV0 (M := mX7_tryLeaves) dX7_tryLeaves_1 (q := 4) rfl ml0_7_151 rfl
def rX7_tryLeaves_4 := W_if_eq (M := mX7_tryLeaves) dX7_tryLeaves_4 (q := 7) rfl (t := 9) rfl
def rX7_tryLeaves_7 := W_iconst (M := mX7_tryLeaves) dX7_tryLeaves_7 (q := 8) rfl (v := (-1)) rfl
def rX7_tryLeaves_8 := W_iret (M := mX7_tryLeaves) dX7_tryLeaves_8 rfl
def rX7_tryLeaves_9 := W_aload0 (M := mX7_tryLeaves) dX7_tryLeaves_9 (q := 10) rfl
def rX7_tryLeaves_9b := W_aloadR0 (M := mX7_tryLeaves) dX7_tryLeaves_9 (q := 10) rfl
def rX7_tryLeaves_10 := W_getR (M := mX7_tryLeaves) dX7_tryLeaves_10 (q := 13) rfl fl7_63 ⟨_, rfl⟩
def rX7_tryLeaves_13 := W_invV0 (M := mX7_tryLeaves) dX7_tryLeaves_13 (q := 16) rfl ml0_7_211 rfl
def rX7_tryLeaves_16 := W_aload0 (M := mX7_tryLeaves) dX7_tryLeaves_16 (q := 17) rfl
def rX7_tryLeaves_16b := W_aloadR0 (M := mX7_tryLeaves) dX7_tryLeaves_16 (q := 17) rfl
def rX7_tryLeaves_17 := W_getR (M := mX7_tryLeaves) dX7_tryLeaves_17 (q := 20) rfl fl7_63 ⟨_, rfl⟩
def rX7_tryLeaves_20 := W_getI (M := mX7_tryLeaves) dX7_tryLeaves_20 (q := 23) rfl fl7_228 (Or.inl rfl)
def rX7_tryLeaves_23 := W_iret (M := mX7_tryLeaves) dX7_tryLeaves_23 rfl
-- X7_turnWire
theorem eX7_turnWire {d : Nat} {h : qH} {Q : Option (Option Value) → qH → Prop} {s0 : Nat} {x1 : Int32} {x2 : Int32} : WM d mX7_turnWire [.ref s0, .int x1, .int x2] h Q = WP d mX7_turnWire (0, 0) 0 [some (.ref s0), some (.int x1), some (.int x2)] [] h Q := rfl
def rX7_turnWire_0 := W_aload0 (M := mX7_turnWire) dX7_turnWire_0 (q := 1) rfl
def rX7_turnWire_0b := W_aloadR0 (M := mX7_turnWire) dX7_turnWire_0 (q := 1) rfl
def rX7_turnWire_1 := W_iload1 (M := mX7_turnWire) dX7_turnWire_1 (q := 2) rfl
def rX7_turnWire_2 := W_invV1 (M := mX7_turnWire) dX7_turnWire_2 (q := 5) rfl ml0_7_113 rfl
def rX7_turnWire_5 := W_if_ne (M := mX7_turnWire) dX7_turnWire_5 (q := 8) rfl (t := 36) rfl
def rX7_turnWire_8 := W_aload0 (M := mX7_turnWire) dX7_turnWire_8 (q := 9) rfl
def rX7_turnWire_8b := W_aloadR0 (M := mX7_turnWire) dX7_turnWire_8 (q := 9) rfl
def rX7_turnWire_9 := W_aload0 (M := mX7_turnWire) dX7_turnWire_9 (q := 10) rfl
def rX7_turnWire_9b := W_aloadR0 (M := mX7_turnWire) dX7_turnWire_9 (q := 10) rfl
def rX7_turnWire_10 := W_getR (M := mX7_turnWire) dX7_turnWire_10 (q := 13) rfl fl7_38 ⟨_, rfl⟩
def rX7_turnWire_13 := W_getI (M := mX7_turnWire) dX7_turnWire_13 (q := 16) rfl fl7_134 (Or.inl rfl)
def rX7_turnWire_16 := W_iload1 (M := mX7_turnWire) dX7_turnWire_16 (q := 17) rfl
def rX7_turnWire_17 := W_ishr (M := mX7_turnWire) dX7_turnWire_17 (q := 18) rfl
def rX7_turnWire_18 := W_iconst (M := mX7_turnWire) dX7_turnWire_18 (q := 19) rfl (v := (1)) rfl
def rX7_turnWire_19 := W_iand (M := mX7_turnWire) dX7_turnWire_19 (q := 20) rfl
def rX7_turnWire_20 := W_iload2 (M := mX7_turnWire) dX7_turnWire_20 (q := 21) rfl
def rX7_turnWire_21 := W_icmp_ne (M := mX7_turnWire) dX7_turnWire_21 (q := 24) rfl (t := 28) rfl
def rX7_turnWire_24 := W_iconst (M := mX7_turnWire) dX7_turnWire_24 (q := 25) rfl (v := (1)) rfl
def rX7_turnWire_25 := W_goto (M := mX7_turnWire) dX7_turnWire_25 (t := 29) rfl
def rX7_turnWire_28 := W_iconst (M := mX7_turnWire) dX7_turnWire_28 (q := 29) rfl (v := (0)) rfl
def rX7_turnWire_29 := W_iconst (M := mX7_turnWire) dX7_turnWire_29 (q := 30) rfl (v := (5)) rfl
def rX7_turnWire_30 := W_invV2 (M := mX7_turnWire) dX7_turnWire_30 (q := 33) rfl ml0_7_304 rfl
def rX7_turnWire_33 := W_if_eq (M := mX7_turnWire) dX7_turnWire_33 (q := 36) rfl (t := 38) rfl
def rX7_turnWire_36 := W_iconst (M := mX7_turnWire) dX7_turnWire_36 (q := 37) rfl (v := (0)) rfl
def rX7_turnWire_37 := W_zret (M := mX7_turnWire) dX7_turnWire_37 rfl
def rX7_turnWire_38 := W_aload0 (M := mX7_turnWire) dX7_turnWire_38 (q := 39) rfl
def rX7_turnWire_38b := W_aloadR0 (M := mX7_turnWire) dX7_turnWire_38 (q := 39) rfl
def rX7_turnWire_39 := W_getR (M := mX7_turnWire) dX7_turnWire_39 (q := 42) rfl fl7_38 ⟨_, rfl⟩
def rX7_turnWire_42 := W_invV0 (M := mX7_turnWire) dX7_turnWire_42 (q := 45) rfl ml0_7_266 rfl
def rX7_turnWire_45 := W_aload0 (M := mX7_turnWire) dX7_turnWire_45 (q := 46) rfl
def rX7_turnWire_45b := W_aloadR0 (M := mX7_turnWire) dX7_turnWire_45 (q := 46) rfl
def rX7_turnWire_46 := W_getR (M := mX7_turnWire) dX7_turnWire_46 (q := 49) rfl fl7_38 ⟨_, rfl⟩
def rX7_turnWire_49 := W_dupI (M := mX7_turnWire) dX7_turnWire_49 (q := 50) rfl
def rX7_turnWire_49b := W_dupR (M := mX7_turnWire) dX7_turnWire_49 (q := 50) rfl
def rX7_turnWire_50 := W_getI (M := mX7_turnWire) dX7_turnWire_50 (q := 53) rfl fl7_134 (Or.inl rfl)
def rX7_turnWire_53 := W_iconst (M := mX7_turnWire) dX7_turnWire_53 (q := 54) rfl (v := (1)) rfl
def rX7_turnWire_54 := W_iload1 (M := mX7_turnWire) dX7_turnWire_54 (q := 55) rfl
def rX7_turnWire_55 := W_ishl (M := mX7_turnWire) dX7_turnWire_55 (q := 56) rfl
def rX7_turnWire_56 := W_ixor (M := mX7_turnWire) dX7_turnWire_56 (q := 57) rfl
def rX7_turnWire_57 := W_putI (M := mX7_turnWire) dX7_turnWire_57 (q := 60) rfl fl7_134 rfl (Or.inl rfl)
def rX7_turnWire_60 := W_iconst (M := mX7_turnWire) dX7_turnWire_60 (q := 61) rfl (v := (1)) rfl
def rX7_turnWire_61 := W_zret (M := mX7_turnWire) dX7_turnWire_61 rfl
-- X7_undo
theorem eX7_undo {d : Nat} {h : qH} {Q : Option (Option Value) → qH → Prop} {s0 : Nat} : WM d mX7_undo [.ref s0] h Q = WP d mX7_undo (0, 0) 0 [some (.ref s0), none] [] h Q := rfl
def rX7_undo_0 := W_aload0 (M := mX7_undo) dX7_undo_0 (q := 1) rfl
def rX7_undo_0b := W_aloadR0 (M := mX7_undo) dX7_undo_0 (q := 1) rfl
def rX7_undo_1 := W_getR (M := mX7_undo) dX7_undo_1 (q := 4) rfl fl7_38 ⟨_, rfl⟩
def rX7_undo_4 := W_invV0 (M := mX7_undo) dX7_undo_4 (q := 7) rfl ml0_7_272 rfl
def rX7_undo_7 := W_istore1 (M := mX7_undo) dX7_undo_7 (q := 8) rfl
def rX7_undo_8 := W_aload0 (M := mX7_undo) dX7_undo_8 (q := 9) rfl
def rX7_undo_8b := W_aloadR0 (M := mX7_undo) dX7_undo_8 (q := 9) rfl
def rX7_undo_9 := W_iload1 (M := mX7_undo) dX7_undo_9 (q := 10) rfl
def rX7_undo_10 := W_if_eq (M := mX7_undo) dX7_undo_10 (q := 13) rfl (t := 17) rfl
def rX7_undo_13 := W_iconst (M := mX7_undo) dX7_undo_13 (q := 14) rfl (v := (0)) rfl
def rX7_undo_14 := W_goto (M := mX7_undo) dX7_undo_14 (t := 19) rfl
def rX7_undo_17 := W_bipush (M := mX7_undo) dX7_undo_17 (q := 19) rfl (v := (6)) rfl
def rX7_undo_19 := W_putI (M := mX7_undo) dX7_undo_19 (q := 22) rfl fl7_107 rfl (Or.inl rfl)
def rX7_undo_22 := W_iload1 (M := mX7_undo) dX7_undo_22 (q := 23) rfl
def rX7_undo_23 := W_zret (M := mX7_undo) dX7_undo_23 rfl
-- X7_wayAt
theorem eX7_wayAt {d : Nat} {h : qH} {Q : Option (Option Value) → qH → Prop} {s0 : Nat} {x1 : Int32} {x2 : Int32} : WM d mX7_wayAt [.ref s0, .int x1, .int x2] h Q = WP d mX7_wayAt (0, 0) 0 [some (.ref s0), some (.int x1), some (.int x2)] [] h Q := rfl
def rX7_wayAt_0 := W_aload0 (M := mX7_wayAt) dX7_wayAt_0 (q := 1) rfl
def rX7_wayAt_0b := W_aloadR0 (M := mX7_wayAt) dX7_wayAt_0 (q := 1) rfl
def rX7_wayAt_1 := W_iload1 (M := mX7_wayAt) dX7_wayAt_1 (q := 2) rfl
def rX7_wayAt_2 := W_invV1 (M := mX7_wayAt) dX7_wayAt_2 (q := 5) rfl ml0_7_185 rfl
def rX7_wayAt_5 := W_if_eq (M := mX7_wayAt) dX7_wayAt_5 (q := 8) rfl (t := 10) rfl
def rX7_wayAt_8 := W_iconst (M := mX7_wayAt) dX7_wayAt_8 (q := 9) rfl (v := (-1)) rfl
def rX7_wayAt_9 := W_iret (M := mX7_wayAt) dX7_wayAt_9 rfl
def rX7_wayAt_10 := W_iload2 (M := mX7_wayAt) dX7_wayAt_10 (q := 11) rfl
def rX7_wayAt_11 := W_if_lt (M := mX7_wayAt) dX7_wayAt_11 (q := 14) rfl (t := 25) rfl
def rX7_wayAt_14 := W_iload2 (M := mX7_wayAt) dX7_wayAt_14 (q := 15) rfl
def rX7_wayAt_15 := W_aload0 (M := mX7_wayAt) dX7_wayAt_15 (q := 16) rfl
def rX7_wayAt_15b := W_aloadR0 (M := mX7_wayAt) dX7_wayAt_15 (q := 16) rfl
def rX7_wayAt_16 := W_getR (M := mX7_wayAt) dX7_wayAt_16 (q := 19) rfl fl7_56 ⟨_, rfl⟩
def rX7_wayAt_19 := W_getI (M := mX7_wayAt) dX7_wayAt_19 (q := 22) rfl fl7_188 (Or.inl rfl)
def rX7_wayAt_22 := W_icmp_lt (M := mX7_wayAt) dX7_wayAt_22 (q := 25) rfl (t := 31) rfl
def rX7_wayAt_25 := W_aload0 (M := mX7_wayAt) dX7_wayAt_25 (q := 26) rfl
def rX7_wayAt_25b := W_aloadR0 (M := mX7_wayAt) dX7_wayAt_25 (q := 26) rfl
def rX7_wayAt_26 := W_iconst (M := mX7_wayAt) dX7_wayAt_26 (q := 27) rfl (v := (1)) rfl
def rX7_wayAt_27 := W_invV1 (M := mX7_wayAt) dX7_wayAt_27 (q := 30) rfl ml0_7_87 rfl
def rX7_wayAt_30 := W_iret (M := mX7_wayAt) dX7_wayAt_30 rfl
def rX7_wayAt_31 := W_aload0 (M := mX7_wayAt) dX7_wayAt_31 (q := 32) rfl
def rX7_wayAt_31b := W_aloadR0 (M := mX7_wayAt) dX7_wayAt_31 (q := 32) rfl
def rX7_wayAt_32 := W_getR (M := mX7_wayAt) dX7_wayAt_32 (q := 35) rfl fl7_56 ⟨_, rfl⟩
def rX7_wayAt_35 := W_iload1 (M := mX7_wayAt) dX7_wayAt_35 (q := 36) rfl
def rX7_wayAt_36 := W_iload2 (M := mX7_wayAt) dX7_wayAt_36 (q := 37) rfl
def rX7_wayAt_37 := W_invV2 (M := mX7_wayAt) dX7_wayAt_37 (q := 40) rfl ml0_7_191 rfl
def rX7_wayAt_40 := W_iret (M := mX7_wayAt) dX7_wayAt_40 rfl
-- X7_wayBurnt
theorem eX7_wayBurnt {d : Nat} {h : qH} {Q : Option (Option Value) → qH → Prop} {s0 : Nat} {x1 : Int32} : WM d mX7_wayBurnt [.ref s0, .int x1] h Q = WP d mX7_wayBurnt (0, 0) 0 [some (.ref s0), some (.int x1)] [] h Q := rfl
def rX7_wayBurnt_0 := W_aload0 (M := mX7_wayBurnt) dX7_wayBurnt_0 (q := 1) rfl
def rX7_wayBurnt_0b := W_aloadR0 (M := mX7_wayBurnt) dX7_wayBurnt_0 (q := 1) rfl
def rX7_wayBurnt_1 := W_iload1 (M := mX7_wayBurnt) dX7_wayBurnt_1 (q := 2) rfl
def rX7_wayBurnt_2 := W_invV1 (M := mX7_wayBurnt) dX7_wayBurnt_2 (q := 5) rfl ml0_7_185 rfl
def rX7_wayBurnt_5 := W_if_eq (M := mX7_wayBurnt) dX7_wayBurnt_5 (q := 8) rfl (t := 10) rfl
def rX7_wayBurnt_8 := W_iconst (M := mX7_wayBurnt) dX7_wayBurnt_8 (q := 9) rfl (v := (-1)) rfl
def rX7_wayBurnt_9 := W_iret (M := mX7_wayBurnt) dX7_wayBurnt_9 rfl
def rX7_wayBurnt_10 := W_aload0 (M := mX7_wayBurnt) dX7_wayBurnt_10 (q := 11) rfl
def rX7_wayBurnt_10b := W_aloadR0 (M := mX7_wayBurnt) dX7_wayBurnt_10 (q := 11) rfl
def rX7_wayBurnt_11 := W_getR (M := mX7_wayBurnt) dX7_wayBurnt_11 (q := 14) rfl fl7_56 ⟨_, rfl⟩
def rX7_wayBurnt_14 := W_iload1 (M := mX7_wayBurnt) dX7_wayBurnt_14 (q := 15) rfl
def rX7_wayBurnt_15 := W_invV1 (M := mX7_wayBurnt) dX7_wayBurnt_15 (q := 18) rfl ml0_7_194 rfl
def rX7_wayBurnt_18 := W_iret (M := mX7_wayBurnt) dX7_wayBurnt_18 rfl
-- X7_ways
theorem eX7_ways {d : Nat} {h : qH} {Q : Option (Option Value) → qH → Prop} {s0 : Nat} : WM d mX7_ways [.ref s0] h Q = WP d mX7_ways (0, 0) 0 [some (.ref s0)] [] h Q := rfl
def rX7_ways_0 := W_aload0 (M := mX7_ways) dX7_ways_0 (q := 1) rfl
def rX7_ways_0b := W_aloadR0 (M := mX7_ways) dX7_ways_0 (q := 1) rfl
def rX7_ways_1 := W_invV0 (M := mX7_ways) dX7_ways_1 (q := 4) rfl ml0_7_151 rfl
def rX7_ways_4 := W_if_eq (M := mX7_ways) dX7_ways_4 (q := 7) rfl (t := 9) rfl
def rX7_ways_7 := W_iconst (M := mX7_ways) dX7_ways_7 (q := 8) rfl (v := (-1)) rfl
def rX7_ways_8 := W_iret (M := mX7_ways) dX7_ways_8 rfl
def rX7_ways_9 := W_aload0 (M := mX7_ways) dX7_ways_9 (q := 10) rfl
def rX7_ways_9b := W_aloadR0 (M := mX7_ways) dX7_ways_9 (q := 10) rfl
def rX7_ways_10 := W_getR (M := mX7_ways) dX7_ways_10 (q := 13) rfl fl7_56 ⟨_, rfl⟩
def rX7_ways_13 := W_aload0 (M := mX7_ways) dX7_ways_13 (q := 14) rfl
def rX7_ways_13b := W_aloadR0 (M := mX7_ways) dX7_ways_13 (q := 14) rfl
def rX7_ways_14 := W_getR (M := mX7_ways) dX7_ways_14 (q := 17) rfl fl7_38 ⟨_, rfl⟩
def rX7_ways_17 := W_invV1 (M := mX7_ways) dX7_ways_17 (q := 20) rfl ml0_7_178 rfl
def rX7_ways_20 := W_aload0 (M := mX7_ways) dX7_ways_20 (q := 21) rfl
def rX7_ways_20b := W_aloadR0 (M := mX7_ways) dX7_ways_20 (q := 21) rfl
def rX7_ways_21 := W_getR (M := mX7_ways) dX7_ways_21 (q := 24) rfl fl7_56 ⟨_, rfl⟩
def rX7_ways_24 := W_getI (M := mX7_ways) dX7_ways_24 (q := 27) rfl fl7_182 (Or.inl rfl)
def rX7_ways_27 := W_iret (M := mX7_ways) dX7_ways_27 rfl
-- X7_where
theorem eX7_where {d : Nat} {h : qH} {Q : Option (Option Value) → qH → Prop} {s0 : Nat} : WM d mX7_where [.ref s0] h Q = WP d mX7_where (0, 0) 0 [some (.ref s0)] [] h Q := rfl
def rX7_where_0 := W_aload0 (M := mX7_where) dX7_where_0 (q := 1) rfl
def rX7_where_0b := W_aloadR0 (M := mX7_where) dX7_where_0 (q := 1) rfl
def rX7_where_1 := W_getI (M := mX7_where) dX7_where_1 (q := 4) rfl fl7_107 (Or.inl rfl)
def rX7_where_4 := W_iconst (M := mX7_where) dX7_where_4 (q := 5) rfl (v := (4)) rfl
def rX7_where_5 := W_icmp_ne (M := mX7_where) dX7_where_5 (q := 8) rfl (t := 18) rfl
def rX7_where_8 := W_aload0 (M := mX7_where) dX7_where_8 (q := 9) rfl
def rX7_where_8b := W_aloadR0 (M := mX7_where) dX7_where_8 (q := 9) rfl
def rX7_where_9 := W_getR (M := mX7_where) dX7_where_9 (q := 12) rfl fl7_31 ⟨_, rfl⟩
def rX7_where_12 := W_getI (M := mX7_where) dX7_where_12 (q := 15) rfl fl7_110 (Or.inl rfl)
def rX7_where_15 := W_goto (M := mX7_where) dX7_where_15 (t := 19) rfl
def rX7_where_18 := W_iconst (M := mX7_where) dX7_where_18 (q := 19) rfl (v := (-1)) rfl
def rX7_where_19 := W_iret (M := mX7_where) dX7_where_19 rfl
-- X7_worstYear
theorem eX7_worstYear {d : Nat} {h : qH} {Q : Option (Option Value) → qH → Prop} {s0 : Nat} {x1 : Int32} {x2 : Int32} : WM d mX7_worstYear [.ref s0, .int x1, .int x2] h Q = WP d mX7_worstYear (0, 0) 0 [some (.ref s0), some (.int x1), some (.int x2), none, none, none] [] h Q := rfl
def rX7_worstYear_0 := W_aload0 (M := mX7_worstYear) dX7_worstYear_0 (q := 1) rfl
def rX7_worstYear_0b := W_aloadR0 (M := mX7_worstYear) dX7_worstYear_0 (q := 1) rfl
def rX7_worstYear_1 := W_invV0 (M := mX7_worstYear) dX7_worstYear_1 (q := 4) rfl ml0_7_151 rfl
def rX7_worstYear_4 := W_if_ne (M := mX7_worstYear) dX7_worstYear_4 (q := 7) rfl (t := 16) rfl
def rX7_worstYear_7 := W_aload0 (M := mX7_worstYear) dX7_worstYear_7 (q := 8) rfl
def rX7_worstYear_7b := W_aloadR0 (M := mX7_worstYear) dX7_worstYear_7 (q := 8) rfl
def rX7_worstYear_8 := W_iload1 (M := mX7_worstYear) dX7_worstYear_8 (q := 9) rfl
def rX7_worstYear_9 := W_iload2 (M := mX7_worstYear) dX7_worstYear_9 (q := 10) rfl
def rX7_worstYear_10 := W_invV2 (M := mX7_worstYear) dX7_worstYear_10 (q := 13) rfl ml0_7_253 rfl
def rX7_worstYear_13 := W_if_eq (M := mX7_worstYear) dX7_worstYear_13 (q := 16) rfl (t := 18) rfl
def rX7_worstYear_16 := W_iconst (M := mX7_worstYear) dX7_worstYear_16 (q := 17) rfl (v := (-1)) rfl
def rX7_worstYear_17 := W_iret (M := mX7_worstYear) dX7_worstYear_17 rfl
def rX7_worstYear_18 := W_iconst (M := mX7_worstYear) dX7_worstYear_18 (q := 19) rfl (v := (0)) rfl
def rX7_worstYear_19 := W_istore3 (M := mX7_worstYear) dX7_worstYear_19 (q := 20) rfl
def rX7_worstYear_20 := W_aload0 (M := mX7_worstYear) dX7_worstYear_20 (q := 21) rfl
def rX7_worstYear_20b := W_aloadR0 (M := mX7_worstYear) dX7_worstYear_20 (q := 21) rfl
def rX7_worstYear_21 := W_getR (M := mX7_worstYear) dX7_worstYear_21 (q := 24) rfl fl7_47 ⟨_, rfl⟩
def rX7_worstYear_24 := W_iload1 (M := mX7_worstYear) dX7_worstYear_24 (q := 25) rfl
def rX7_worstYear_25 := W_putI (M := mX7_worstYear) dX7_worstYear_25 (q := 28) rfl fl7_257 rfl (Or.inl rfl)
def rX7_worstYear_28 := W_iconst (M := mX7_worstYear) dX7_worstYear_28 (q := 29) rfl (v := (0)) rfl
def rX7_worstYear_29 := W_istore4 (M := mX7_worstYear) dX7_worstYear_29 (q := 31) rfl
def rX7_worstYear_31 := W_iload4 (M := mX7_worstYear) dX7_worstYear_31 (q := 33) rfl
def rX7_worstYear_33 := W_iload2 (M := mX7_worstYear) dX7_worstYear_33 (q := 34) rfl
def rX7_worstYear_34 := W_icmp_ge (M := mX7_worstYear) dX7_worstYear_34 (q := 37) rfl (t := 85) rfl
def rX7_worstYear_37 := W_aload0 (M := mX7_worstYear) dX7_worstYear_37 (q := 38) rfl
def rX7_worstYear_37b := W_aloadR0 (M := mX7_worstYear) dX7_worstYear_37 (q := 38) rfl
def rX7_worstYear_38 := W_getR (M := mX7_worstYear) dX7_worstYear_38 (q := 41) rfl fl7_47 ⟨_, rfl⟩
def rX7_worstYear_41 := W_aload0 (M := mX7_worstYear) dX7_worstYear_41 (q := 42) rfl
def rX7_worstYear_41b := W_aloadR0 (M := mX7_worstYear) dX7_worstYear_41 (q := 42) rfl
def rX7_worstYear_42 := W_getR (M := mX7_worstYear) dX7_worstYear_42 (q := 45) rfl fl7_38 ⟨_, rfl⟩
def rX7_worstYear_45 := W_getI (M := mX7_worstYear) dX7_worstYear_45 (q := 48) rfl fl7_121 (Or.inl rfl)
def rX7_worstYear_48 := W_invV1 (M := mX7_worstYear) dX7_worstYear_48 (q := 51) rfl ml0_7_260 rfl
def rX7_worstYear_51 := W_istore5 (M := mX7_worstYear) dX7_worstYear_51 (q := 53) rfl
def rX7_worstYear_53 := W_iload3 (M := mX7_worstYear) dX7_worstYear_53 (q := 54) rfl
def rX7_worstYear_54 := W_aload0 (M := mX7_worstYear) dX7_worstYear_54 (q := 55) rfl
def rX7_worstYear_54b := W_aloadR0 (M := mX7_worstYear) dX7_worstYear_54 (q := 55) rfl
def rX7_worstYear_55 := W_getR (M := mX7_worstYear) dX7_worstYear_55 (q := 58) rfl fl7_47 ⟨_, rfl⟩
def rX7_worstYear_58 := W_iload5 (M := mX7_worstYear) dX7_worstYear_58 (q := 60) rfl
def rX7_worstYear_60 := W_aload0 (M := mX7_worstYear) dX7_worstYear_60 (q := 61) rfl
def rX7_worstYear_60b := W_aloadR0 (M := mX7_worstYear) dX7_worstYear_60 (q := 61) rfl
def rX7_worstYear_61 := W_getR (M := mX7_worstYear) dX7_worstYear_61 (q := 64) rfl fl7_38 ⟨_, rfl⟩
def rX7_worstYear_64 := W_getI (M := mX7_worstYear) dX7_worstYear_64 (q := 67) rfl fl7_121 (Or.inl rfl)
def rX7_worstYear_67 := W_bipush (M := mX7_worstYear) dX7_worstYear_67 (q := 69) rfl (v := (90)) rfl
def rX7_worstYear_69 := W_invV3 (M := mX7_worstYear) dX7_worstYear_69 (q := 72) rfl ml0_7_263 rfl
def rX7_worstYear_72 := W_invS1 (M := mX7_worstYear) dX7_worstYear_72 (q := 75) rfl ml1_7_200 rfl rfl rfl
def rX7_worstYear_75 := W_max (M := mX7_worstYear) dX7_worstYear_75 (q := 78) rfl ml11_7_158 ml1n_7_158
def rX7_worstYear_78 := W_istore3 (M := mX7_worstYear) dX7_worstYear_78 (q := 79) rfl
def rX7_worstYear_79 := W_iinc4 (M := mX7_worstYear) dX7_worstYear_79 (q := 82) rfl (v := (1)) rfl
def rX7_worstYear_82 := W_goto (M := mX7_worstYear) dX7_worstYear_82 (t := 31) rfl
def rX7_worstYear_85 := W_iload3 (M := mX7_worstYear) dX7_worstYear_85 (q := 86) rfl
def rX7_worstYear_86 := W_iret (M := mX7_worstYear) dX7_worstYear_86 rfl
-- X7_years
theorem eX7_years {d : Nat} {h : qH} {Q : Option (Option Value) → qH → Prop} {s0 : Nat} {x1 : Int32} {x2 : Int32} {x3 : Int32} : WM d mX7_years [.ref s0, .int x1, .int x2, .int x3] h Q = WP d mX7_years (0, 0) 0 [some (.ref s0), some (.int x1), some (.int x2), some (.int x3), none, none, none] [] h Q := rfl
def rX7_years_0 := W_aload0 (M := mX7_years) dX7_years_0 (q := 1) rfl
def rX7_years_0b := W_aloadR0 (M := mX7_years) dX7_years_0 (q := 1) rfl
def rX7_years_1 := W_iload1 (M := mX7_years) dX7_years_1 (q := 2) rfl
def rX7_years_2 := W_invV1 (M := mX7_years) dX7_years_2 (q := 5) rfl ml0_7_113 rfl
def rX7_years_5 := W_if_ne (M := mX7_years) dX7_years_5 (q := 8) rfl (t := 17) rfl
def rX7_years_8 := W_aload0 (M := mX7_years) dX7_years_8 (q := 9) rfl
def rX7_years_8b := W_aloadR0 (M := mX7_years) dX7_years_8 (q := 9) rfl
def rX7_years_9 := W_iload2 (M := mX7_years) dX7_years_9 (q := 10) rfl
def rX7_years_10 := W_iload3 (M := mX7_years) dX7_years_10 (q := 11) rfl
def rX7_years_11 := W_invV2 (M := mX7_years) dX7_years_11 (q := 14) rfl ml0_7_253 rfl
def rX7_years_14 := W_if_eq (M := mX7_years) dX7_years_14 (q := 17) rfl (t := 19) rfl
def rX7_years_17 := W_iconst (M := mX7_years) dX7_years_17 (q := 18) rfl (v := (-1)) rfl
def rX7_years_18 := W_iret (M := mX7_years) dX7_years_18 rfl
def rX7_years_19 := W_iconst (M := mX7_years) dX7_years_19 (q := 20) rfl (v := (0)) rfl
def rX7_years_20 := W_istore4 (M := mX7_years) dX7_years_20 (q := 22) rfl
def rX7_years_22 := W_aload0 (M := mX7_years) dX7_years_22 (q := 23) rfl
def rX7_years_22b := W_aloadR0 (M := mX7_years) dX7_years_22 (q := 23) rfl
def rX7_years_23 := W_getR (M := mX7_years) dX7_years_23 (q := 26) rfl fl7_47 ⟨_, rfl⟩
def rX7_years_26 := W_iload2 (M := mX7_years) dX7_years_26 (q := 27) rfl
def rX7_years_27 := W_putI (M := mX7_years) dX7_years_27 (q := 30) rfl fl7_257 rfl (Or.inl rfl)
def rX7_years_30 := W_iconst (M := mX7_years) dX7_years_30 (q := 31) rfl (v := (0)) rfl
def rX7_years_31 := W_istore5 (M := mX7_years) dX7_years_31 (q := 33) rfl
def rX7_years_33 := W_iload5 (M := mX7_years) dX7_years_33 (q := 35) rfl
def rX7_years_35 := W_iload3 (M := mX7_years) dX7_years_35 (q := 36) rfl
def rX7_years_36 := W_icmp_ge (M := mX7_years) dX7_years_36 (q := 39) rfl (t := 88) rfl
def rX7_years_39 := W_aload0 (M := mX7_years) dX7_years_39 (q := 40) rfl
def rX7_years_39b := W_aloadR0 (M := mX7_years) dX7_years_39 (q := 40) rfl
def rX7_years_40 := W_getR (M := mX7_years) dX7_years_40 (q := 43) rfl fl7_47 ⟨_, rfl⟩
def rX7_years_43 := W_aload0 (M := mX7_years) dX7_years_43 (q := 44) rfl
def rX7_years_43b := W_aloadR0 (M := mX7_years) dX7_years_43 (q := 44) rfl
def rX7_years_44 := W_getR (M := mX7_years) dX7_years_44 (q := 47) rfl fl7_38 ⟨_, rfl⟩
def rX7_years_47 := W_getI (M := mX7_years) dX7_years_47 (q := 50) rfl fl7_121 (Or.inl rfl)
def rX7_years_50 := W_invV1 (M := mX7_years) dX7_years_50 (q := 53) rfl ml0_7_260 rfl
def rX7_years_53 := W_istore6 (M := mX7_years) dX7_years_53 (q := 55) rfl
def rX7_years_55 := W_iload4 (M := mX7_years) dX7_years_55 (q := 57) rfl
def rX7_years_57 := W_aload0 (M := mX7_years) dX7_years_57 (q := 58) rfl
def rX7_years_57b := W_aloadR0 (M := mX7_years) dX7_years_57 (q := 58) rfl
def rX7_years_58 := W_getR (M := mX7_years) dX7_years_58 (q := 61) rfl fl7_47 ⟨_, rfl⟩
def rX7_years_61 := W_iload6 (M := mX7_years) dX7_years_61 (q := 63) rfl
def rX7_years_63 := W_aload0 (M := mX7_years) dX7_years_63 (q := 64) rfl
def rX7_years_63b := W_aloadR0 (M := mX7_years) dX7_years_63 (q := 64) rfl
def rX7_years_64 := W_getR (M := mX7_years) dX7_years_64 (q := 67) rfl fl7_38 ⟨_, rfl⟩
def rX7_years_67 := W_getI (M := mX7_years) dX7_years_67 (q := 70) rfl fl7_121 (Or.inl rfl)
def rX7_years_70 := W_bipush (M := mX7_years) dX7_years_70 (q := 72) rfl (v := (90)) rfl
def rX7_years_72 := W_invV3 (M := mX7_years) dX7_years_72 (q := 75) rfl ml0_7_263 rfl
def rX7_years_75 := W_iload1 (M := mX7_years) dX7_years_75 (q := 76) rfl
def rX7_years_76 := W_ishr (M := mX7_years) dX7_years_76 (q := 77) rfl
def rX7_years_77 := W_iconst (M := mX7_years) dX7_years_77 (q := 78) rfl (v := (1)) rfl
def rX7_years_78 := W_iand (M := mX7_years) dX7_years_78 (q := 79) rfl
def rX7_years_79 := W_iadd (M := mX7_years) dX7_years_79 (q := 80) rfl
def rX7_years_80 := W_istore4 (M := mX7_years) dX7_years_80 (q := 82) rfl
def rX7_years_82 := W_iinc5 (M := mX7_years) dX7_years_82 (q := 85) rfl (v := (1)) rfl
def rX7_years_85 := W_goto (M := mX7_years) dX7_years_85 (t := 33) rfl
def rX7_years_88 := W_iload4 (M := mX7_years) dX7_years_88 (q := 90) rfl
def rX7_years_90 := W_iret (M := mX7_years) dX7_years_90 rfl
-- X8_find
theorem eX8_find {d : Nat} {h : qH} {Q : Option (Option Value) → qH → Prop} {s0 : Nat} {x1 : Int64} : WM d mX8_find [.ref s0, .long x1] h Q = WP d mX8_find (0, 0) 0 [some (.ref s0), some (.long x1), none, none] [] h Q := rfl
def rX8_find_0 := W_iconst (M := mX8_find) dX8_find_0 (q := 1) rfl (v := (0)) rfl
def rX8_find_1 := W_istore3 (M := mX8_find) dX8_find_1 (q := 2) rfl
def rX8_find_2 := W_iload3 (M := mX8_find) dX8_find_2 (q := 3) rfl
def rX8_find_3 := W_aload0 (M := mX8_find) dX8_find_3 (q := 4) rfl
def rX8_find_3b := W_aloadR0 (M := mX8_find) dX8_find_3 (q := 4) rfl
def rX8_find_4 := W_getI (M := mX8_find) dX8_find_4 (q := 7) rfl fl8_53 (Or.inl rfl)
def rX8_find_7 := W_icmp_ge (M := mX8_find) dX8_find_7 (q := 10) rfl (t := 29) rfl
def rX8_find_10 := W_aload0 (M := mX8_find) dX8_find_10 (q := 11) rfl
def rX8_find_10b := W_aloadR0 (M := mX8_find) dX8_find_10 (q := 11) rfl
def rX8_find_11 := W_getA (M := mX8_find) dX8_find_11 (q := 14) rfl fl8_49 ⟨_, rfl⟩
def rX8_find_14 := W_iload3 (M := mX8_find) dX8_find_14 (q := 15) rfl
def rX8_find_15 := W_lald (M := mX8_find) dX8_find_15 (q := 16) rfl
def rX8_find_16 := W_lload1 (M := mX8_find) dX8_find_16 (q := 17) rfl
def rX8_find_17 := W_lcmp (M := mX8_find) dX8_find_17 (q := 18) rfl
def rX8_find_18 := W_if_ne (M := mX8_find) dX8_find_18 (q := 21) rfl (t := 23) rfl
def rX8_find_21 := W_iload3 (M := mX8_find) dX8_find_21 (q := 22) rfl
def rX8_find_22 := W_iret (M := mX8_find) dX8_find_22 rfl
def rX8_find_23 := W_iinc3 (M := mX8_find) dX8_find_23 (q := 26) rfl (v := (1)) rfl
def rX8_find_26 := W_goto (M := mX8_find) dX8_find_26 (t := 2) rfl
def rX8_find_29 := W_iconst (M := mX8_find) dX8_find_29 (q := 30) rfl (v := (-1)) rfl
def rX8_find_30 := W_iret (M := mX8_find) dX8_find_30 rfl
-- X8_init
theorem eX8_init {d : Nat} {h : qH} {Q : Option (Option Value) → qH → Prop} {s0 : Nat} : WM d mX8_init [.ref s0] h Q = WP d mX8_init (0, 0) 0 [some (.ref s0)] [] h Q := rfl
def rX8_init_0 := W_aload0 (M := mX8_init) dX8_init_0 (q := 1) rfl
def rX8_init_0b := W_aloadR0 (M := mX8_init) dX8_init_0 (q := 1) rfl
def rX8_init_1 := W_objI (M := mX8_init) dX8_init_1 (q := 4) rfl ml10_8_3 ml2n_8_3 ml3n_8_3
def rX8_init_4 := W_aload0 (M := mX8_init) dX8_init_4 (q := 5) rfl
def rX8_init_4b := W_aloadR0 (M := mX8_init) dX8_init_4 (q := 5) rfl
def rX8_init_5 := W_iconst (M := mX8_init) dX8_init_5 (q := 6) rfl (v := (-1)) rfl
def rX8_init_6 := W_putI (M := mX8_init) dX8_init_6 (q := 9) rfl fl8_9 rfl (Or.inl rfl)
def rX8_init_9 := W_aload0 (M := mX8_init) dX8_init_9 (q := 10) rfl
def rX8_init_9b := W_aloadR0 (M := mX8_init) dX8_init_9 (q := 10) rfl
def rX8_init_10 := W_bipush (M := mX8_init) dX8_init_10 (q := 12) rfl (v := (6)) rfl
def rX8_init_12 := W_newa (M := mX8_init) dX8_init_12 (q := 14) rfl
def rX8_init_14 := W_putA (M := mX8_init) dX8_init_14 (q := 17) rfl fl8_15 ⟨_, rfl⟩ (Or.inr ⟨rfl, rfl, rfl⟩)
def rX8_init_17 := W_aload0 (M := mX8_init) dX8_init_17 (q := 18) rfl
def rX8_init_17b := W_aloadR0 (M := mX8_init) dX8_init_17 (q := 18) rfl
def rX8_init_18 := W_bipush (M := mX8_init) dX8_init_18 (q := 20) rfl (v := (6)) rfl
def rX8_init_20 := W_newa (M := mX8_init) dX8_init_20 (q := 22) rfl
def rX8_init_22 := W_putA (M := mX8_init) dX8_init_22 (q := 25) rfl fl8_19 ⟨_, rfl⟩ (Or.inr ⟨rfl, rfl, rfl⟩)
def rX8_init_25 := W_aload0 (M := mX8_init) dX8_init_25 (q := 26) rfl
def rX8_init_25b := W_aloadR0 (M := mX8_init) dX8_init_25 (q := 26) rfl
def rX8_init_26 := W_bipush (M := mX8_init) dX8_init_26 (q := 28) rfl (v := (6)) rfl
def rX8_init_28 := W_newa (M := mX8_init) dX8_init_28 (q := 30) rfl
def rX8_init_30 := W_putA (M := mX8_init) dX8_init_30 (q := 33) rfl fl8_22 ⟨_, rfl⟩ (Or.inr ⟨rfl, rfl, rfl⟩)
def rX8_init_33 := W_aload0 (M := mX8_init) dX8_init_33 (q := 34) rfl
def rX8_init_33b := W_aloadR0 (M := mX8_init) dX8_init_33 (q := 34) rfl
def rX8_init_34 := W_bipush (M := mX8_init) dX8_init_34 (q := 36) rfl (v := (6)) rfl
def rX8_init_36 := W_newa (M := mX8_init) dX8_init_36 (q := 38) rfl
def rX8_init_38 := W_putA (M := mX8_init) dX8_init_38 (q := 41) rfl fl8_25 ⟨_, rfl⟩ (Or.inr ⟨rfl, rfl, rfl⟩)
def rX8_init_41 := W_aload0 (M := mX8_init) dX8_init_41 (q := 42) rfl
def rX8_init_41b := W_aloadR0 (M := mX8_init) dX8_init_41 (q := 42) rfl
def rX8_init_42 := W_bipush (M := mX8_init) dX8_init_42 (q := 44) rfl (v := (9)) rfl
def rX8_init_44 := W_newa (M := mX8_init) dX8_init_44 (q := 46) rfl
def rX8_init_46 := W_putA (M := mX8_init) dX8_init_46 (q := 49) rfl fl8_28 ⟨_, rfl⟩ (Or.inr ⟨rfl, rfl, rfl⟩)
def rX8_init_49 := W_aload0 (M := mX8_init) dX8_init_49 (q := 50) rfl
def rX8_init_49b := W_aloadR0 (M := mX8_init) dX8_init_49 (q := 50) rfl
def rX8_init_50 := W_bipush (M := mX8_init) dX8_init_50 (q := 52) rfl (v := (9)) rfl
def rX8_init_52 := W_newa (M := mX8_init) dX8_init_52 (q := 54) rfl
def rX8_init_54 := W_putA (M := mX8_init) dX8_init_54 (q := 57) rfl fl8_31 ⟨_, rfl⟩ (Or.inr ⟨rfl, rfl, rfl⟩)
def rX8_init_57 := W_aload0 (M := mX8_init) dX8_init_57 (q := 58) rfl
def rX8_init_57b := W_aloadR0 (M := mX8_init) dX8_init_57 (q := 58) rfl
def rX8_init_58 := W_bipush (M := mX8_init) dX8_init_58 (q := 60) rfl (v := (9)) rfl
def rX8_init_60 := W_newa (M := mX8_init) dX8_init_60 (q := 62) rfl
def rX8_init_62 := W_putA (M := mX8_init) dX8_init_62 (q := 65) rfl fl8_34 ⟨_, rfl⟩ (Or.inr ⟨rfl, rfl, rfl⟩)
def rX8_init_65 := W_aload0 (M := mX8_init) dX8_init_65 (q := 66) rfl
def rX8_init_65b := W_aloadR0 (M := mX8_init) dX8_init_65 (q := 66) rfl
def rX8_init_66 := W_iconst (M := mX8_init) dX8_init_66 (q := 67) rfl (v := (4)) rfl
def rX8_init_67 := W_newa (M := mX8_init) dX8_init_67 (q := 69) rfl
def rX8_init_69 := W_putA (M := mX8_init) dX8_init_69 (q := 72) rfl fl8_37 ⟨_, rfl⟩ (Or.inr ⟨rfl, rfl, rfl⟩)
def rX8_init_72 := W_aload0 (M := mX8_init) dX8_init_72 (q := 73) rfl
def rX8_init_72b := W_aloadR0 (M := mX8_init) dX8_init_72 (q := 73) rfl
def rX8_init_73 := W_iconst (M := mX8_init) dX8_init_73 (q := 74) rfl (v := (2)) rfl
def rX8_init_74 := W_newa (M := mX8_init) dX8_init_74 (q := 76) rfl
def rX8_init_76 := W_putA (M := mX8_init) dX8_init_76 (q := 79) rfl fl8_40 ⟨_, rfl⟩ (Or.inr ⟨rfl, rfl, rfl⟩)
def rX8_init_79 := W_aload0 (M := mX8_init) dX8_init_79 (q := 80) rfl
def rX8_init_79b := W_aloadR0 (M := mX8_init) dX8_init_79 (q := 80) rfl
def rX8_init_80 := W_iconst (M := mX8_init) dX8_init_80 (q := 81) rfl (v := (4)) rfl
def rX8_init_81 := W_newa (M := mX8_init) dX8_init_81 (q := 83) rfl
def rX8_init_83 := W_putA (M := mX8_init) dX8_init_83 (q := 86) rfl fl8_43 ⟨_, rfl⟩ (Or.inr ⟨rfl, rfl, rfl⟩)
def rX8_init_86 := W_aload0 (M := mX8_init) dX8_init_86 (q := 87) rfl
def rX8_init_86b := W_aloadR0 (M := mX8_init) dX8_init_86 (q := 87) rfl
def rX8_init_87 := W_iconst (M := mX8_init) dX8_init_87 (q := 88) rfl (v := (4)) rfl
def rX8_init_88 := W_newa (M := mX8_init) dX8_init_88 (q := 90) rfl
def rX8_init_90 := W_putA (M := mX8_init) dX8_init_90 (q := 93) rfl fl8_46 ⟨_, rfl⟩ (Or.inr ⟨rfl, rfl, rfl⟩)
def rX8_init_93 := W_aload0 (M := mX8_init) dX8_init_93 (q := 94) rfl
def rX8_init_93b := W_aloadR0 (M := mX8_init) dX8_init_93 (q := 94) rfl
def rX8_init_94 := W_bipush (M := mX8_init) dX8_init_94 (q := 96) rfl (v := (6)) rfl
def rX8_init_96 := W_newa (M := mX8_init) dX8_init_96 (q := 98) rfl
def rX8_init_98 := W_putA (M := mX8_init) dX8_init_98 (q := 101) rfl fl8_49 ⟨_, rfl⟩ (Or.inr ⟨rfl, rfl, rfl⟩)
def rX8_init_101 := W_vret (M := mX8_init) dX8_init_101 rfl
