/-! ===== the tables of the claim, by numbers ===== -/
def nmC : Nat → String := fun c => match c with
  | 0 => RX0
  | 1 => RX1
  | 2 => RX2
  | 3 => RX3
  | 4 => RX4
  | 5 => RX5
  | 6 => RX6
  | 7 => RX7
  | 8 => RX8
  | 9 => RX9
  | 20 => RL
  | 30 => RJ9
  | 31 => RJ6
  | 32 => RJ0
  | 33 => RJ1
  | _ => RJ3
def tTT : Nat → u_T := fun c => match c with
  | 0 => TX0
  | 1 => TX1
  | 2 => TX2
  | 3 => TX3
  | 4 => TX4
  | 5 => TX5
  | 6 => TX6
  | 7 => TX7
  | 8 => TX8
  | _ => TX9
def fTT : Nat → Nat → FieldType := fun c => match c with
  | 0 => tyX0
  | 1 => tyX1
  | 2 => tyX2
  | 3 => tyX3
  | 4 => tyX4
  | 5 => tyX5
  | 6 => tyX6
  | 7 => tyX7
  | 8 => tyX8
  | _ => tyX9
def nFT : Nat → Nat := fun c => match c with
  | 0 => 7
  | 1 => 9
  | 2 => 11
  | 3 => 8
  | 4 => 18
  | 5 => 2
  | 6 => 10
  | 7 => 10
  | 8 => 21
  | _ => 35
def kdT : List (Nat × Nat) := [(7, 0), (4, 0), (11, 6), (11, 6), (11, 6), (11, 6), (11, 9), (11, 9), (11, 9), (11, 4), (11, 2), (11, 4), (11, 4), (4, 0), (11, 6), (11, 6), (11, 6), (11, 6), (11, 9), (11, 9), (11, 9), (11, 4), (11, 2), (11, 4), (11, 4), (5, 0), (10, 900), (2, 0), (12, 6), (3, 0), (11, 16), (11, 3), (0, 0), (11, 6), (11, 6), (11, 384), (11, 384), (6, 0), (11, 1296), (1, 0), (11, 2), (11, 7), (11, 726), (11, 121), (9, 0), (10, 900), (11, 10), (11, 10), (11, 160), (11, 30), (11, 6), (11, 10), (11, 4), (11, 637), (12, 6), (11, 6), (12, 1)]
def kdU : List (Nat × Nat) := [(8, 0), (11, 6), (11, 6), (11, 6), (11, 6), (11, 9), (11, 9), (11, 9), (11, 4), (11, 2), (11, 4), (11, 4), (12, 6)]
/-- where the script stands -/
def SCR : Nat := 1000000000
/-- what a cell is by its number: a class (0 .. 9), or 10 bytes, 11 ints, 12 longs, and how many -/
def kd (a : Nat) : Nat × Nat := if a < 57 then kdT.getD a (99, 0) else if a < SCR then kdU.getD ((a - 57) % 13) (99, 0) else (99, 0)
theorem kd_0 : kd 0 = (7, 0) := rfl
theorem kd_1 : kd 1 = (4, 0) := rfl
theorem kd_2 : kd 2 = (11, 6) := rfl
theorem kd_3 : kd 3 = (11, 6) := rfl
theorem kd_4 : kd 4 = (11, 6) := rfl
theorem kd_5 : kd 5 = (11, 6) := rfl
theorem kd_6 : kd 6 = (11, 9) := rfl
theorem kd_7 : kd 7 = (11, 9) := rfl
theorem kd_8 : kd 8 = (11, 9) := rfl
theorem kd_9 : kd 9 = (11, 4) := rfl
theorem kd_10 : kd 10 = (11, 2) := rfl
theorem kd_11 : kd 11 = (11, 4) := rfl
theorem kd_12 : kd 12 = (11, 4) := rfl
theorem kd_13 : kd 13 = (4, 0) := rfl
theorem kd_14 : kd 14 = (11, 6) := rfl
theorem kd_15 : kd 15 = (11, 6) := rfl
theorem kd_16 : kd 16 = (11, 6) := rfl
theorem kd_17 : kd 17 = (11, 6) := rfl
theorem kd_18 : kd 18 = (11, 9) := rfl
theorem kd_19 : kd 19 = (11, 9) := rfl
theorem kd_20 : kd 20 = (11, 9) := rfl
theorem kd_21 : kd 21 = (11, 4) := rfl
theorem kd_22 : kd 22 = (11, 2) := rfl
theorem kd_23 : kd 23 = (11, 4) := rfl
theorem kd_24 : kd 24 = (11, 4) := rfl
theorem kd_25 : kd 25 = (5, 0) := rfl
theorem kd_26 : kd 26 = (10, 900) := rfl
theorem kd_27 : kd 27 = (2, 0) := rfl
theorem kd_28 : kd 28 = (12, 6) := rfl
theorem kd_29 : kd 29 = (3, 0) := rfl
theorem kd_30 : kd 30 = (11, 16) := rfl
theorem kd_31 : kd 31 = (11, 3) := rfl
theorem kd_32 : kd 32 = (0, 0) := rfl
theorem kd_33 : kd 33 = (11, 6) := rfl
theorem kd_34 : kd 34 = (11, 6) := rfl
theorem kd_35 : kd 35 = (11, 384) := rfl
theorem kd_36 : kd 36 = (11, 384) := rfl
theorem kd_37 : kd 37 = (6, 0) := rfl
theorem kd_38 : kd 38 = (11, 1296) := rfl
theorem kd_39 : kd 39 = (1, 0) := rfl
theorem kd_40 : kd 40 = (11, 2) := rfl
theorem kd_41 : kd 41 = (11, 7) := rfl
theorem kd_42 : kd 42 = (11, 726) := rfl
theorem kd_43 : kd 43 = (11, 121) := rfl
theorem kd_44 : kd 44 = (9, 0) := rfl
theorem kd_45 : kd 45 = (10, 900) := rfl
theorem kd_46 : kd 46 = (11, 10) := rfl
theorem kd_47 : kd 47 = (11, 10) := rfl
theorem kd_48 : kd 48 = (11, 160) := rfl
theorem kd_49 : kd 49 = (11, 30) := rfl
theorem kd_50 : kd 50 = (11, 6) := rfl
theorem kd_51 : kd 51 = (11, 10) := rfl
theorem kd_52 : kd 52 = (11, 4) := rfl
theorem kd_53 : kd 53 = (11, 637) := rfl
theorem kd_54 : kd 54 = (12, 6) := rfl
theorem kd_55 : kd 55 = (11, 6) := rfl
theorem kd_56 : kd 56 = (12, 1) := rfl
/-- a method: the number of its class, name, bytes, locals, answer, parameters, cells and slots that it may make -/
abbrev qM : Type := Nat × MethodName × ByteArray × Nat × Option FieldType × Nat × Nat × Nat
def mO (M : qM) : Nat := M.1
def mY (M : qM) : MethodName := M.2.1
def mB (M : qM) : ByteArray := M.2.2.1
def mL (M : qM) : Nat := M.2.2.2.1
def mT (M : qM) : Option FieldType := M.2.2.2.2.1
def mA (M : qM) : Nat := M.2.2.2.2.2.1
def mC (M : qM) : Nat := M.2.2.2.2.2.2.1
def mS (M : qM) : Nat := M.2.2.2.2.2.2.2
def mX7_init : qM := (7, yX7_init, cX7_init, 1, (Option.none : Option FieldType), 0, 43, 4070)
def mX4_init : qM := (4, yX4_init, cX4_init, 1, (Option.none : Option FieldType), 0, 11, 65)
def mX5_init : qM := (5, yX5_init, cX5_init, 1, (Option.none : Option FieldType), 0, 1, 900)
def mX2_init : qM := (2, yX2_init, cX2_init, 3, (Option.none : Option FieldType), 2, 1, 6)
def mX3_init : qM := (3, yX3_init, cX3_init, 1, (Option.none : Option FieldType), 0, 2, 19)
def mX0_init : qM := (0, yX0_init, cX0_init, 2, (Option.none : Option FieldType), 1, 4, 780)
def mX6_init : qM := (6, yX6_init, cX6_init, 2, (Option.none : Option FieldType), 1, 1, 1296)
def mX1_init : qM := (1, yX1_init, cX1_init, 2, (Option.none : Option FieldType), 1, 4, 856)
def mX7_feed : qM := (7, yX7_feed, cX7_feed, 6, (Option.some FieldType.int), 5, 0, 0)
def mX5_add : qM := (5, yX5_add, cX5_add, 3, (Option.none : Option FieldType), 1, 0, 0)
def mX7_street : qM := (7, yX7_street, cX7_street, 4, (Option.some FieldType.int), 1, 0, 0)
def mX7_outside : qM := (7, yX7_outside, cX7_outside, 4, (Option.some FieldType.boolean), 3, 0, 0)
def mX7_refusedIf : qM := (7, yX7_refusedIf, cX7_refusedIf, 3, (Option.some FieldType.boolean), 2, 0, 0)
def mX2_read : qM := (2, yX2_read, cX2_read, 4, (Option.some FieldType.boolean), 2, 0, 0)
def mX4_clear : qM := (4, yX4_clear, cX4_clear, 1, (Option.none : Option FieldType), 0, 0, 0)
def mX2_step : qM := (2, yX2_step, cX2_step, 1, (Option.none : Option FieldType), 0, 0, 0)
def mX5_at : qM := (5, yX5_at, cX5_at, 2, (Option.some FieldType.int), 1, 0, 0)
def mX2_isLetter : qM := (2, yX2_isLetter, cX2_isLetter, 1, (Option.some FieldType.boolean), 1, 0, 0)
def mX2_isDigit : qM := (2, yX2_isDigit, cX2_isDigit, 1, (Option.some FieldType.boolean), 1, 0, 0)
def mX2_line : qM := (2, yX2_line, cX2_line, 2, (Option.some FieldType.boolean), 0, 0, 0)
def mX2_reserved : qM := (2, yX2_reserved, cX2_reserved, 1, (Option.some FieldType.int), 0, 0, 0)
def mX2_isWord : qM := (2, yX2_isWord, cX2_isWord, 3, (Option.some FieldType.boolean), 1, 0, 0)
def mJ0_length_8abf5 : qM := (32, yJ0_length_8abf5, cJ0_length_8abf5, 1, (Option.some FieldType.int), 0, 0, 0)
def mJ0_coder_7d493 : qM := (32, yJ0_coder_7d493, cJ0_coder_7d493, 1, (Option.some FieldType.byte), 0, 0, 0)
def mJ0_charAt_5068e : qM := (32, yJ0_charAt_5068e, cJ0_charAt_5068e, 2, (Option.some FieldType.char), 1, 0, 0)
def mJ0_isLatin1_aae02 : qM := (32, yJ0_isLatin1_aae02, cJ0_isLatin1_aae02, 1, (Option.some FieldType.boolean), 0, 0, 0)
def mJ1_charAt_3b067 : qM := (33, yJ1_charAt_3b067, cJ1_charAt_3b067, 2, (Option.some FieldType.char), 2, 0, 0)
def mJ0_checkIndex_df160 : qM := (32, yJ0_checkIndex_df160, cJ0_checkIndex_df160, 2, (Option.none : Option FieldType), 2, 0, 0)
def mJ3_checkIndex_8e157 : qM := (34, yJ3_checkIndex_8e157, cJ3_checkIndex_8e157, 3, (Option.some FieldType.int), 3, 0, 0)
def mX2_fail : qM := (2, yX2_fail, cX2_fail, 2, (Option.some FieldType.boolean), 1, 0, 0)
def mX2_isFull : qM := (2, yX2_isFull, cX2_isFull, 2, (Option.some FieldType.boolean), 1, 0, 0)
def mX2_streetLine : qM := (2, yX2_streetLine, cX2_streetLine, 1, (Option.some FieldType.boolean), 0, 0, 0)
def mX2_takeWord : qM := (2, yX2_takeWord, cX2_takeWord, 2, (Option.some FieldType.boolean), 1, 0, 0)
def mX2_takeWhole : qM := (2, yX2_takeWhole, cX2_takeWhole, 4, (Option.some FieldType.boolean), 2, 0, 0)
def mX2_houseLine : qM := (2, yX2_houseLine, cX2_houseLine, 6, (Option.some FieldType.boolean), 0, 0, 0)
def mX2_nameHere : qM := (2, yX2_nameHere, cX2_nameHere, 4, (Option.some FieldType.long), 0, 0, 0)
def mX2_named : qM := (2, yX2_named, cX2_named, 4, (Option.some FieldType.int), 1, 0, 0)
def mX2_kindHere : qM := (2, yX2_kindHere, cX2_kindHere, 1, (Option.some FieldType.int), 0, 0, 0)
def mX2_addHouse : qM := (2, yX2_addHouse, cX2_addHouse, 7, (Option.none : Option FieldType), 4, 0, 0)
def mX2_sparkLine : qM := (2, yX2_sparkLine, cX2_sparkLine, 4, (Option.some FieldType.boolean), 0, 0, 0)
def mX2_houseHere : qM := (2, yX2_houseHere, cX2_houseHere, 2, (Option.some FieldType.int), 0, 0, 0)
def mX4_sparkOf : qM := (4, yX4_sparkOf, cX4_sparkOf, 4, (Option.some FieldType.int), 2, 0, 0)
def mX2_lagTo : qM := (2, yX2_lagTo, cX2_lagTo, 2, (Option.some FieldType.int), 2, 0, 0)
def mJ9_max_7cf53 : qM := (30, yJ9_max_7cf53, cJ9_max_7cf53, 2, (Option.some FieldType.int), 2, 0, 0)
def mX2_doesLine : qM := (2, yX2_doesLine, cX2_doesLine, 2, (Option.some FieldType.boolean), 0, 0, 0)
def mX2_pulledLine : qM := (2, yX2_pulledLine, cX2_pulledLine, 2, (Option.some FieldType.boolean), 0, 0, 0)
def mX2_glassLine : qM := (2, yX2_glassLine, cX2_glassLine, 2, (Option.some FieldType.boolean), 0, 0, 0)
def mX2_unknownLine : qM := (2, yX2_unknownLine, cX2_unknownLine, 3, (Option.some FieldType.boolean), 0, 0, 0)
def mX2_rungLine : qM := (2, yX2_rungLine, cX2_rungLine, 2, (Option.some FieldType.boolean), 0, 0, 0)
def mX7_refuse : qM := (7, yX7_refuse, cX7_refuse, 2, (Option.some FieldType.int), 1, 0, 0)
def mX0_begin : qM := (0, yX0_begin, cX0_begin, 3, (Option.none : Option FieldType), 1, 0, 0)
def mX0_causes : qM := (0, yX0_causes, cX0_causes, 5, (Option.none : Option FieldType), 2, 0, 0)
def mX4_causeOf : qM := (4, yX4_causeOf, cX4_causeOf, 3, (Option.some FieldType.int), 2, 0, 0)
def mX4_cutBy : qM := (4, yX4_cutBy, cX4_cutBy, 4, (Option.some FieldType.int), 1, 0, 0)
def mX0_spread : qM := (0, yX0_spread, cX0_spread, 9, (Option.none : Option FieldType), 2, 0, 0)
def mX3_begin : qM := (3, yX3_begin, cX3_begin, 2, (Option.none : Option FieldType), 1, 0, 0)
def mX7_fault : qM := (7, yX7_fault, cX7_fault, 1, (Option.some FieldType.int), 0, 0, 0)
def mX7_where : qM := (7, yX7_where, cX7_where, 1, (Option.some FieldType.int), 0, 0, 0)
def mX7_house : qM := (7, yX7_house, cX7_house, 3, (Option.some FieldType.int), 2, 0, 0)
def mX7_noHouse : qM := (7, yX7_noHouse, cX7_noHouse, 2, (Option.some FieldType.boolean), 1, 0, 0)
def mX7_spark : qM := (7, yX7_spark, cX7_spark, 4, (Option.some FieldType.int), 2, 0, 0)
def mX4_lagOf : qM := (4, yX4_lagOf, cX4_lagOf, 5, (Option.some FieldType.int), 3, 0, 0)
def mX7_burns : qM := (7, yX7_burns, cX7_burns, 2, (Option.some FieldType.int), 1, 0, 0)
def mX0_dayOf : qM := (0, yX0_dayOf, cX0_dayOf, 3, (Option.some FieldType.int), 2, 0, 0)
def mX7_shown : qM := (7, yX7_shown, cX7_shown, 1, (Option.some FieldType.int), 1, 0, 0)
def mX7_litBy : qM := (7, yX7_litBy, cX7_litBy, 2, (Option.some FieldType.int), 1, 0, 0)
def mX0_lighter : qM := (0, yX0_lighter, cX0_lighter, 6, (Option.some FieldType.int), 2, 0, 0)
def mX7_burnt : qM := (7, yX7_burnt, cX7_burnt, 2, (Option.some FieldType.int), 1, 0, 0)
def mX7_noStreet : qM := (7, yX7_noStreet, cX7_noStreet, 1, (Option.some FieldType.boolean), 0, 0, 0)
def mX0_burntBy : qM := (0, yX0_burntBy, cX0_burntBy, 3, (Option.some FieldType.int), 2, 0, 0)
def mX0_bitsBy : qM := (0, yX0_bitsBy, cX0_bitsBy, 6, (Option.some FieldType.int), 3, 0, 0)
def mX7_lastDay : qM := (7, yX7_lastDay, cX7_lastDay, 3, (Option.some FieldType.int), 0, 0, 0)
def mX7_next : qM := (7, yX7_next, cX7_next, 2, (Option.some FieldType.int), 1, 0, 0)
def mX0_soonest : qM := (0, yX0_soonest, cX0_soonest, 4, (Option.some FieldType.int), 3, 0, 0)
def mX0_soonestIn : qM := (0, yX0_soonestIn, cX0_soonestIn, 9, (Option.some FieldType.int), 4, 0, 0)
def mX7_agrees : qM := (7, yX7_agrees, cX7_agrees, 2, (Option.some FieldType.int), 1, 0, 0)
def mX0_agreeing : qM := (0, yX0_agreeing, cX0_agreeing, 6, (Option.some FieldType.int), 3, 0, 0)
def mX7_burnsIf : qM := (7, yX7_burnsIf, cX7_burnsIf, 3, (Option.some FieldType.int), 2, 0, 0)
def mX7_burnsAlready : qM := (7, yX7_burnsAlready, cX7_burnsAlready, 2, (Option.some FieldType.boolean), 1, 0, 0)
def mX7_saves : qM := (7, yX7_saves, cX7_saves, 2, (Option.some FieldType.int), 1, 0, 0)
def mX7_burnEver : qM := (7, yX7_burnEver, cX7_burnEver, 2, (Option.some FieldType.int), 1, 0, 0)
def mJ6_bitCount_0f7a4 : qM := (31, yJ6_bitCount_0f7a4, cJ6_bitCount_0f7a4, 1, (Option.some FieldType.int), 1, 0, 0)
def mX7_bestTold : qM := (7, yX7_bestTold, cX7_bestTold, 5, (Option.some FieldType.int), 0, 0, 0)
def mX7_dumbDay : qM := (7, yX7_dumbDay, cX7_dumbDay, 2, (Option.some FieldType.int), 0, 0, 0)
def mX7_ways : qM := (7, yX7_ways, cX7_ways, 1, (Option.some FieldType.int), 0, 0, 0)
def mX6_make : qM := (6, yX6_make, cX6_make, 2, (Option.none : Option FieldType), 1, 0, 0)
def mX6_go : qM := (6, yX6_go, cX6_go, 6, (Option.none : Option FieldType), 3, 0, 0)
def mX7_wayAt : qM := (7, yX7_wayAt, cX7_wayAt, 3, (Option.some FieldType.int), 2, 0, 0)
def mX7_noWay : qM := (7, yX7_noWay, cX7_noWay, 2, (Option.some FieldType.boolean), 1, 0, 0)
def mX6_ringOf : qM := (6, yX6_ringOf, cX6_ringOf, 4, (Option.some FieldType.int), 2, 0, 0)
def mX7_bestWay : qM := (7, yX7_bestWay, cX7_bestWay, 3, (Option.some FieldType.int), 0, 0, 0)
def mX6_burntOf : qM := (6, yX6_burntOf, cX6_burntOf, 2, (Option.some FieldType.int), 1, 0, 0)
def mX7_wayBurnt : qM := (7, yX7_wayBurnt, cX7_wayBurnt, 2, (Option.some FieldType.int), 1, 0, 0)
def mX7_couldRing : qM := (7, yX7_couldRing, cX7_couldRing, 1, (Option.some FieldType.int), 0, 0, 0)
def mX7_safe : qM := (7, yX7_safe, cX7_safe, 6, (Option.some FieldType.int), 1, 0, 0)
def mX7_bestCut : qM := (7, yX7_bestCut, cX7_bestCut, 5, (Option.some FieldType.int), 0, 0, 0)
def mX0_burnWithout : qM := (0, yX0_burnWithout, cX0_burnWithout, 5, (Option.some FieldType.int), 2, 0, 0)
def mX7_fits : qM := (7, yX7_fits, cX7_fits, 1, (Option.some FieldType.int), 0, 0, 0)
def mX1_make : qM := (1, yX1_make, cX1_make, 4, (Option.none : Option FieldType), 0, 0, 0)
def mX1_guessed : qM := (1, yX1_guessed, cX1_guessed, 4, (Option.some FieldType.int), 2, 0, 0)
def mX0_guess : qM := (0, yX0_guess, cX0_guess, 4, (Option.none : Option FieldType), 2, 0, 0)
def mX1_isAsRung : qM := (1, yX1_isAsRung, cX1_isAsRung, 2, (Option.some FieldType.boolean), 0, 0, 0)
def mX1_makeTry : qM := (1, yX1_makeTry, cX1_makeTry, 3, (Option.none : Option FieldType), 0, 0, 0)
def mX1_mostLeft : qM := (1, yX1_mostLeft, cX1_mostLeft, 6, (Option.some FieldType.int), 1, 0, 0)
def mX1_soonest : qM := (1, yX1_soonest, cX1_soonest, 3, (Option.some FieldType.int), 2, 0, 0)
def mX7_fitAt : qM := (7, yX7_fitAt, cX7_fitAt, 3, (Option.some FieldType.int), 2, 0, 0)
def mX7_nextBy : qM := (7, yX7_nextBy, cX7_nextBy, 5, (Option.some FieldType.int), 2, 0, 0)
def mX7_tryDay : qM := (7, yX7_tryDay, cX7_tryDay, 1, (Option.some FieldType.int), 0, 0, 0)
def mX7_tryLeaves : qM := (7, yX7_tryLeaves, cX7_tryLeaves, 1, (Option.some FieldType.int), 0, 0, 0)
def mX7_judge : qM := (7, yX7_judge, cX7_judge, 2, (Option.some FieldType.int), 0, 0, 0)
def mX7_rings : qM := (7, yX7_rings, cX7_rings, 4, (Option.some FieldType.int), 3, 0, 0)
def mX7_has : qM := (7, yX7_has, cX7_has, 3, (Option.some FieldType.int), 2, 0, 0)
def mX7_rests : qM := (7, yX7_rests, cX7_rests, 3, (Option.some FieldType.int), 0, 0, 0)
def mX7_stays : qM := (7, yX7_stays, cX7_stays, 3, (Option.some FieldType.boolean), 2, 0, 0)
def mX7_rest : qM := (7, yX7_rest, cX7_rest, 2, (Option.some FieldType.int), 0, 0, 0)
def mX7_odds : qM := (7, yX7_odds, cX7_odds, 4, (Option.some FieldType.long), 3, 0, 0)
def mX7_overAll : qM := (7, yX7_overAll, cX7_overAll, 10, (Option.some FieldType.long), 4, 0, 0)
def mX0_weight : qM := (0, yX0_weight, cX0_weight, 7, (Option.some FieldType.long), 2, 0, 0)
def mX0_burntIf : qM := (0, yX0_burntIf, cX0_burntIf, 4, (Option.some FieldType.int), 3, 0, 0)
def mX0_makeCome : qM := (0, yX0_makeCome, cX0_makeCome, 3, (Option.none : Option FieldType), 1, 0, 0)
def mX7_counted : qM := (7, yX7_counted, cX7_counted, 3, (Option.some FieldType.int), 3, 0, 0)
def mX0_wholeWeight : qM := (0, yX0_wholeWeight, cX0_wholeWeight, 5, (Option.some FieldType.long), 1, 0, 0)
def mX7_lowest : qM := (7, yX7_lowest, cX7_lowest, 12, (Option.some FieldType.long), 3, 0, 0)
def mX7_quiet : qM := (7, yX7_quiet, cX7_quiet, 3, (Option.some FieldType.long), 2, 0, 0)
def mX7_mean : qM := (7, yX7_mean, cX7_mean, 3, (Option.some FieldType.long), 2, 0, 0)
def mX7_years : qM := (7, yX7_years, cX7_years, 7, (Option.some FieldType.int), 3, 0, 0)
def mX7_noYears : qM := (7, yX7_noYears, cX7_noYears, 3, (Option.some FieldType.boolean), 2, 0, 0)
def mX0_draw : qM := (0, yX0_draw, cX0_draw, 4, (Option.some FieldType.int), 1, 0, 0)
def mX7_worstYear : qM := (7, yX7_worstYear, cX7_worstYear, 6, (Option.some FieldType.int), 2, 0, 0)
def mX7_tell : qM := (7, yX7_tell, cX7_tell, 2, (Option.some FieldType.int), 1, 0, 0)
def mX3_keep : qM := (3, yX3_keep, cX3_keep, 1, (Option.none : Option FieldType), 0, 0, 0)
def mX3_packed : qM := (3, yX3_packed, cX3_packed, 1, (Option.some FieldType.int), 0, 0, 0)
def mJ9_min_7cf53 : qM := (30, yJ9_min_7cf53, cJ9_min_7cf53, 2, (Option.some FieldType.int), 2, 0, 0)
def mX7_pull : qM := (7, yX7_pull, cX7_pull, 2, (Option.some FieldType.boolean), 1, 0, 0)
def mX7_turnWire : qM := (7, yX7_turnWire, cX7_turnWire, 3, (Option.some FieldType.boolean), 2, 0, 0)
def mX7_mend : qM := (7, yX7_mend, cX7_mend, 2, (Option.some FieldType.boolean), 1, 0, 0)
def mX7_day : qM := (7, yX7_day, cX7_day, 1, (Option.some FieldType.int), 0, 0, 0)
def mX7_undo : qM := (7, yX7_undo, cX7_undo, 2, (Option.some FieldType.boolean), 0, 0, 0)
def mX3_takeBack : qM := (3, yX3_takeBack, cX3_takeBack, 1, (Option.some FieldType.boolean), 0, 0, 0)
def mX3_unpack : qM := (3, yX3_unpack, cX3_unpack, 2, (Option.none : Option FieldType), 1, 0, 0)
def mX7_image : qM := (7, yX7_image, cX7_image, 2, (Option.some FieldType.int), 0, 0, 0)
def mX3_keepImage : qM := (3, yX3_keepImage, cX3_keepImage, 1, (Option.some FieldType.int), 0, 0, 0)
def mX7_back : qM := (7, yX7_back, cX7_back, 3, (Option.some FieldType.boolean), 1, 0, 0)
def mX3_goBack : qM := (3, yX3_goBack, cX3_goBack, 2, (Option.some FieldType.boolean), 1, 0, 0)
def mX7_size : qM := (7, yX7_size, cX7_size, 2, (Option.some FieldType.int), 1, 0, 0)
def mX4_doers : qM := (4, yX4_doers, cX4_doers, 3, (Option.some FieldType.int), 0, 0, 0)
def mX7_trouble : qM := (7, yX7_trouble, cX7_trouble, 1, (Option.some FieldType.int), 0, 0, 0)
def mX7_led : qM := (7, yX7_led, cX7_led, 4, (Option.some FieldType.int), 1, 1, 6)
def mX9_init : qM := (9, yX9_init, cX9_init, 1, (Option.none : Option FieldType), 0, 11, 1779)
def mX9_thrown : qM := (9, yX9_thrown, cX9_thrown, 1, (Option.some FieldType.int), 0, 0, 0)
def mX9_feed : qM := (9, yX9_feed, cX9_feed, 8, (Option.some FieldType.int), 5, 0, 0)
def mX9_street : qM := (9, yX9_street, cX9_street, 3, (Option.some FieldType.int), 1, 13, 92)
def mX9_refused : qM := (9, yX9_refused, cX9_refused, 2, (Option.some FieldType.int), 1, 0, 0)
def mX8_init : qM := (8, yX8_init, cX8_init, 1, (Option.none : Option FieldType), 0, 12, 71)
def mX9_goesOn : qM := (9, yX9_goesOn, cX9_goesOn, 3, (Option.none : Option FieldType), 0, 0, 0)
def mX9_byteAt : qM := (9, yX9_byteAt, cX9_byteAt, 2, (Option.some FieldType.int), 1, 0, 0)
def mX9_isLetter : qM := (9, yX9_isLetter, cX9_isLetter, 1, (Option.some FieldType.boolean), 1, 0, 0)
def mX9_isDigit : qM := (9, yX9_isDigit, cX9_isDigit, 1, (Option.some FieldType.boolean), 1, 0, 0)
def mX9_readAll : qM := (9, yX9_readAll, cX9_readAll, 2, (Option.none : Option FieldType), 0, 0, 0)
def mX9_readLine : qM := (9, yX9_readLine, cX9_readLine, 1, (Option.none : Option FieldType), 0, 0, 0)
def mX9_isWord : qM := (9, yX9_isWord, cX9_isWord, 2, (Option.some FieldType.boolean), 1, 0, 0)
def mX9_packed : qM := (9, yX9_packed, cX9_packed, 4, (Option.some FieldType.long), 1, 0, 0)
def mX9_readStreet : qM := (9, yX9_readStreet, cX9_readStreet, 2, (Option.none : Option FieldType), 0, 0, 0)
def mX9_flaw : qM := (9, yX9_flaw, cX9_flaw, 2, (Option.none : Option FieldType), 1, 0, 0)
def mX9_readPart : qM := (9, yX9_readPart, cX9_readPart, 4, (Option.some FieldType.int), 3, 0, 0)
def mX9_needs : qM := (9, yX9_needs, cX9_needs, 2, (Option.none : Option FieldType), 1, 0, 0)
def mX9_readWhole : qM := (9, yX9_readWhole, cX9_readWhole, 4, (Option.some FieldType.int), 2, 0, 0)
def mX9_in : qM := (9, yX9_in, cX9_in, 3, (Option.some FieldType.boolean), 3, 0, 0)
def mX9_readHouse : qM := (9, yX9_readHouse, cX9_readHouse, 8, (Option.none : Option FieldType), 0, 0, 0)
def mX9_lineBegins : qM := (9, yX9_lineBegins, cX9_lineBegins, 3, (Option.none : Option FieldType), 2, 0, 0)
def mX9_isName : qM := (9, yX9_isName, cX9_isName, 1, (Option.some FieldType.boolean), 0, 0, 0)
def mX8_find : qM := (8, yX8_find, cX8_find, 4, (Option.some FieldType.int), 1, 0, 0)
def mX9_readSpark : qM := (9, yX9_readSpark, cX9_readSpark, 4, (Option.none : Option FieldType), 0, 0, 0)
def mX9_readHouseName : qM := (9, yX9_readHouseName, cX9_readHouseName, 2, (Option.some FieldType.int), 0, 0, 0)
def mX9_houseAtHand : qM := (9, yX9_houseAtHand, cX9_houseAtHand, 2, (Option.some FieldType.int), 0, 0, 0)
def mX8_isSpark : qM := (8, yX8_isSpark, cX8_isSpark, 4, (Option.some FieldType.boolean), 2, 0, 0)
def mX9_readDoes : qM := (9, yX9_readDoes, cX9_readDoes, 3, (Option.none : Option FieldType), 0, 0, 0)
def mX9_readPulled : qM := (9, yX9_readPulled, cX9_readPulled, 2, (Option.none : Option FieldType), 0, 0, 0)
def mX9_bit : qM := (9, yX9_bit, cX9_bit, 2, (Option.some FieldType.boolean), 2, 0, 0)
def mX9_readGlass : qM := (9, yX9_readGlass, cX9_readGlass, 2, (Option.none : Option FieldType), 0, 0, 0)
def mX9_readUnknown : qM := (9, yX9_readUnknown, cX9_readUnknown, 2, (Option.none : Option FieldType), 0, 0, 0)
def mX8_isUnknown : qM := (8, yX8_isUnknown, cX8_isUnknown, 3, (Option.some FieldType.boolean), 1, 0, 0)
def mX9_readRung : qM := (9, yX9_readRung, cX9_readRung, 3, (Option.none : Option FieldType), 0, 0, 0)
def mX9_eatsSemicolon : qM := (9, yX9_eatsSemicolon, cX9_eatsSemicolon, 2, (Option.some FieldType.boolean), 0, 0, 0)
def mX9_asTold : qM := (9, yX9_asTold, cX9_asTold, 2, (Option.none : Option FieldType), 0, 0, 0)
def mX9_good : qM := (9, yX9_good, cX9_good, 2, (Option.some FieldType.int), 1, 0, 0)
def mX9_fault : qM := (9, yX9_fault, cX9_fault, 1, (Option.some FieldType.int), 0, 0, 0)
def mX9_where : qM := (9, yX9_where, cX9_where, 1, (Option.some FieldType.int), 0, 0, 0)
def mX9_house : qM := (9, yX9_house, cX9_house, 3, (Option.some FieldType.int), 2, 0, 0)
def mX9_isHouse : qM := (9, yX9_isHouse, cX9_isHouse, 2, (Option.some FieldType.boolean), 1, 0, 0)
def mX9_spark : qM := (9, yX9_spark, cX9_spark, 4, (Option.some FieldType.int), 2, 0, 0)
def mX9_works : qM := (9, yX9_works, cX9_works, 2, (Option.none : Option FieldType), 0, 0, 0)
def mX9_flies : qM := (9, yX9_flies, cX9_flies, 2, (Option.some FieldType.boolean), 1, 0, 0)
def mX8_takes : qM := (8, yX8_takes, cX8_takes, 3, (Option.some FieldType.int), 1, 0, 0)
def mX9_burns : qM := (9, yX9_burns, cX9_burns, 2, (Option.some FieldType.int), 1, 0, 0)
def mX9_finds : qM := (9, yX9_finds, cX9_finds, 1, (Option.none : Option FieldType), 0, 0, 0)
def mX9_burnsAll : qM := (9, yX9_burnsAll, cX9_burnsAll, 4, (Option.none : Option FieldType), 0, 0, 0)
def mX9_orNobody : qM := (9, yX9_orNobody, cX9_orNobody, 1, (Option.some FieldType.int), 1, 0, 0)
def mX9_litBy : qM := (9, yX9_litBy, cX9_litBy, 4, (Option.some FieldType.int), 1, 0, 0)
def mX9_burnt : qM := (9, yX9_burnt, cX9_burnt, 3, (Option.some FieldType.int), 1, 0, 0)
def mX9_refusesDay : qM := (9, yX9_refusesDay, cX9_refusesDay, 4, (Option.some FieldType.int), 3, 0, 0)
def mX9_burntBy : qM := (9, yX9_burntBy, cX9_burntBy, 4, (Option.some FieldType.int), 1, 0, 0)
def mX9_lastDay : qM := (9, yX9_lastDay, cX9_lastDay, 3, (Option.some FieldType.int), 0, 0, 0)
def mX9_next : qM := (9, yX9_next, cX9_next, 3, (Option.some FieldType.int), 1, 0, 0)
def mX9_nextOn : qM := (9, yX9_nextOn, cX9_nextOn, 4, (Option.some FieldType.int), 1, 0, 0)
def mX9_agrees : qM := (9, yX9_agrees, cX9_agrees, 3, (Option.some FieldType.int), 1, 0, 0)
def mX9_agreeing : qM := (9, yX9_agreeing, cX9_agreeing, 4, (Option.some FieldType.int), 1, 0, 0)
def mX9_holds : qM := (9, yX9_holds, cX9_holds, 2, (Option.none : Option FieldType), 0, 0, 0)
def mX9_tells : qM := (9, yX9_tells, cX9_tells, 3, (Option.none : Option FieldType), 2, 0, 0)
def mX9_letsGo : qM := (9, yX9_letsGo, cX9_letsGo, 2, (Option.none : Option FieldType), 0, 0, 0)
def mX9_burnsIf : qM := (9, yX9_burnsIf, cX9_burnsIf, 4, (Option.some FieldType.int), 2, 0, 0)
def mX9_refusesTold : qM := (9, yX9_refusesTold, cX9_refusesTold, 2, (Option.some FieldType.int), 1, 0, 0)
def mX9_saves : qM := (9, yX9_saves, cX9_saves, 4, (Option.some FieldType.int), 1, 0, 0)
def mX9_everBurnt : qM := (9, yX9_everBurnt, cX9_everBurnt, 1, (Option.some FieldType.int), 0, 0, 0)
def mX9_bits : qM := (9, yX9_bits, cX9_bits, 3, (Option.some FieldType.int), 1, 0, 0)
def mX9_bestTold : qM := (9, yX9_bestTold, cX9_bestTold, 4, (Option.some FieldType.int), 0, 0, 0)
def mX9_dumbDay : qM := (9, yX9_dumbDay, cX9_dumbDay, 2, (Option.some FieldType.int), 0, 0, 0)
def mX9_ways : qM := (9, yX9_ways, cX9_ways, 3, (Option.some FieldType.int), 0, 0, 0)
def mX9_codes : qM := (9, yX9_codes, cX9_codes, 3, (Option.some FieldType.int), 0, 0, 0)
def mX9_glassesToCome : qM := (9, yX9_glassesToCome, cX9_glassesToCome, 3, (Option.some FieldType.int), 0, 0, 0)
def mX9_isWay : qM := (9, yX9_isWay, cX9_isWay, 8, (Option.some FieldType.boolean), 1, 0, 0)
def mX9_wayAt : qM := (9, yX9_wayAt, cX9_wayAt, 3, (Option.some FieldType.int), 2, 0, 0)
def mX9_isWorked : qM := (9, yX9_isWorked, cX9_isWorked, 4, (Option.some FieldType.boolean), 1, 0, 0)
def mX9_bestWay : qM := (9, yX9_bestWay, cX9_bestWay, 6, (Option.some FieldType.int), 0, 0, 0)
def mX9_wayBurnt : qM := (9, yX9_wayBurnt, cX9_wayBurnt, 2, (Option.some FieldType.int), 1, 0, 0)
def mX9_couldRing : qM := (9, yX9_couldRing, cX9_couldRing, 4, (Option.some FieldType.int), 0, 0, 0)
def mX9_safe : qM := (9, yX9_safe, cX9_safe, 6, (Option.some FieldType.int), 1, 0, 0)
def mX9_tellsAll : qM := (9, yX9_tellsAll, cX9_tellsAll, 3, (Option.none : Option FieldType), 1, 0, 0)
def mX9_bestCut : qM := (9, yX9_bestCut, cX9_bestCut, 4, (Option.some FieldType.int), 0, 0, 0)
def mX9_fits : qM := (9, yX9_fits, cX9_fits, 1, (Option.some FieldType.int), 0, 0, 0)
def mX9_fitting : qM := (9, yX9_fitting, cX9_fitting, 5, (Option.none : Option FieldType), 1, 0, 0)
def mX9_fitCodes : qM := (9, yX9_fitCodes, cX9_fitCodes, 3, (Option.some FieldType.int), 0, 0, 0)
def mX9_fitDay : qM := (9, yX9_fitDay, cX9_fitDay, 5, (Option.some FieldType.int), 2, 0, 0)
def mX9_wrong : qM := (9, yX9_wrong, cX9_wrong, 2, (Option.some FieldType.int), 0, 0, 0)
def mX9_fitAt : qM := (9, yX9_fitAt, cX9_fitAt, 3, (Option.some FieldType.int), 2, 0, 0)
def mX9_nextBy : qM := (9, yX9_nextBy, cX9_nextBy, 4, (Option.some FieldType.int), 2, 0, 0)
def mX9_tryDay : qM := (9, yX9_tryDay, cX9_tryDay, 1, (Option.some FieldType.int), 0, 0, 0)
def mX9_tries : qM := (9, yX9_tries, cX9_tries, 5, (Option.some FieldType.int), 0, 0, 0)
def mX9_tryLeaves : qM := (9, yX9_tryLeaves, cX9_tryLeaves, 1, (Option.some FieldType.int), 0, 0, 0)
def mX9_judge : qM := (9, yX9_judge, cX9_judge, 1, (Option.some FieldType.int), 0, 0, 0)
def mX9_rings : qM := (9, yX9_rings, cX9_rings, 4, (Option.some FieldType.int), 3, 0, 0)
def mX9_lost : qM := (9, yX9_lost, cX9_lost, 2, (Option.some FieldType.int), 1, 0, 0)
def mX9_gets : qM := (9, yX9_gets, cX9_gets, 3, (Option.some FieldType.int), 2, 0, 0)
def mX9_rests : qM := (9, yX9_rests, cX9_rests, 3, (Option.some FieldType.int), 0, 0, 0)
def mX9_isRest : qM := (9, yX9_isRest, cX9_isRest, 4, (Option.some FieldType.boolean), 1, 0, 0)
def mX9_rest : qM := (9, yX9_rest, cX9_rest, 2, (Option.some FieldType.int), 0, 0, 0)
def mX9_odds : qM := (9, yX9_odds, cX9_odds, 5, (Option.some FieldType.long), 3, 0, 0)
def mX9_chances : qM := (9, yX9_chances, cX9_chances, 7, (Option.none : Option FieldType), 1, 0, 0)
def mX9_fraction : qM := (9, yX9_fraction, cX9_fraction, 6, (Option.some FieldType.long), 3, 0, 0)
def mX9_common : qM := (9, yX9_common, cX9_common, 10, (Option.some FieldType.long), 2, 0, 0)
def mX9_quiet : qM := (9, yX9_quiet, cX9_quiet, 4, (Option.some FieldType.long), 2, 0, 0)
def mX9_mean : qM := (9, yX9_mean, cX9_mean, 4, (Option.some FieldType.long), 2, 0, 0)
def mX9_years : qM := (9, yX9_years, cX9_years, 5, (Option.some FieldType.int), 3, 0, 0)
def mX9_refusesYears : qM := (9, yX9_refusesYears, cX9_refusesYears, 4, (Option.some FieldType.int), 3, 0, 0)
def mX9_yearsAll : qM := (9, yX9_yearsAll, cX9_yearsAll, 7, (Option.none : Option FieldType), 2, 0, 0)
def mX9_worstYear : qM := (9, yX9_worstYear, cX9_worstYear, 4, (Option.some FieldType.int), 2, 0, 0)
def mX9_tell : qM := (9, yX9_tell, cX9_tell, 4, (Option.some FieldType.int), 1, 0, 0)
def mX9_remembers : qM := (9, yX9_remembers, cX9_remembers, 2, (Option.none : Option FieldType), 0, 0, 0)
def mX9_pull : qM := (9, yX9_pull, cX9_pull, 2, (Option.some FieldType.boolean), 1, 0, 0)
def mX9_wires : qM := (9, yX9_wires, cX9_wires, 3, (Option.some FieldType.boolean), 2, 0, 0)
def mX9_denied : qM := (9, yX9_denied, cX9_denied, 2, (Option.some FieldType.boolean), 1, 0, 0)
def mX9_granted : qM := (9, yX9_granted, cX9_granted, 1, (Option.some FieldType.boolean), 0, 0, 0)
def mX9_mend : qM := (9, yX9_mend, cX9_mend, 2, (Option.some FieldType.boolean), 1, 0, 0)
def mX9_day : qM := (9, yX9_day, cX9_day, 1, (Option.some FieldType.int), 0, 0, 0)
def mX9_undo : qM := (9, yX9_undo, cX9_undo, 2, (Option.some FieldType.boolean), 0, 0, 0)
def mX9_image : qM := (9, yX9_image, cX9_image, 2, (Option.some FieldType.int), 0, 0, 0)
def mX9_back : qM := (9, yX9_back, cX9_back, 3, (Option.some FieldType.boolean), 1, 0, 0)
def mX9_led : qM := (9, yX9_led, cX9_led, 4, (Option.some FieldType.int), 1, 0, 0)
def mX9_size : qM := (9, yX9_size, cX9_size, 2, (Option.some FieldType.int), 1, 0, 0)
def mX9_trouble : qM := (9, yX9_trouble, cX9_trouble, 1, (Option.some FieldType.int), 0, 0, 0)
def mL_law : qM := (20, x, code, maxLocals, ret, 1, 601024, 7293034)
/-- the links of fields: class, place in its pool; class, field -/
def flT : List ((Nat × Nat) × Nat × Nat) := [((4, 45), 4, 0), ((2, 175), 4, 0), ((7, 289), 4, 0), ((4, 49), 4, 1), ((0, 32), 4, 1), ((2, 55), 4, 1), ((6, 72), 4, 1), ((7, 104), 4, 1), ((4, 9), 4, 2), ((7, 117), 4, 2), ((2, 198), 4, 2), ((4, 15), 4, 3), ((2, 202), 4, 3), ((4, 18), 4, 4), ((7, 128), 4, 4), ((0, 98), 4, 4), ((2, 205), 4, 4), ((4, 21), 4, 5), ((7, 131), 4, 5), ((2, 207), 4, 5), ((4, 52), 4, 6), ((7, 94), 4, 6), ((1, 73), 4, 6), ((2, 242), 4, 6), ((4, 55), 4, 7), ((0, 58), 4, 7), ((2, 154), 4, 7), ((7, 205), 4, 7), ((4, 24), 4, 8), ((0, 61), 4, 8), ((2, 219), 4, 8), ((4, 27), 4, 9), ((0, 64), 4, 9), ((2, 222), 4, 9), ((4, 30), 4, 10), ((0, 67), 4, 10), ((2, 225), 4, 10), ((4, 58), 4, 11), ((6, 53), 4, 11), ((2, 157), 4, 11), ((7, 295), 4, 11), ((4, 33), 4, 12), ((6, 58), 4, 12), ((2, 245), 4, 12), ((4, 61), 4, 13), ((1, 42), 4, 13), ((0, 70), 4, 13), ((2, 160), 4, 13), ((7, 214), 4, 13), ((4, 36), 4, 14), ((0, 73), 4, 14), ((2, 247), 4, 14), ((4, 64), 4, 15), ((1, 70), 4, 15), ((2, 163), 4, 15), ((7, 231), 4, 15), ((4, 39), 4, 16), ((1, 76), 4, 16), ((2, 249), 4, 16), ((7, 234), 4, 16), ((4, 42), 4, 17), ((1, 83), 4, 17), ((2, 252), 4, 17), ((7, 237), 4, 17), ((5, 9), 5, 0), ((7, 67), 5, 1), ((5, 15), 5, 1), ((2, 15), 2, 0), ((2, 9), 2, 1), ((2, 19), 2, 2), ((2, 28), 2, 3), ((2, 32), 2, 4), ((2, 52), 2, 5), ((2, 62), 2, 6), ((2, 42), 2, 7), ((2, 113), 2, 8), ((2, 36), 2, 9), ((7, 83), 2, 9), ((2, 39), 2, 10), ((7, 110), 2, 10), ((3, 18), 3, 0), ((6, 33), 3, 0), ((7, 121), 3, 0), ((3, 22), 3, 1), ((6, 37), 3, 1), ((7, 134), 3, 1), ((3, 25), 3, 2), ((6, 27), 3, 2), ((7, 166), 3, 2), ((3, 11), 3, 3), ((3, 34), 3, 4), ((3, 28), 3, 5), ((7, 298), 3, 5), ((3, 15), 3, 6), ((3, 31), 3, 7), ((7, 301), 3, 7), ((0, 24), 0, 0), ((1, 36), 0, 0), ((6, 47), 0, 0), ((0, 9), 0, 1), ((0, 15), 0, 2), ((1, 58), 0, 2), ((0, 18), 0, 3), ((0, 21), 0, 4), ((0, 28), 0, 5), ((0, 103), 0, 6), ((7, 257), 0, 6), ((6, 15), 6, 0), ((6, 11), 6, 1), ((6, 34), 6, 2), ((6, 44), 6, 3), ((6, 23), 6, 4), ((6, 30), 6, 5), ((6, 19), 6, 6), ((7, 99), 6, 6), ((6, 38), 6, 7), ((7, 182), 6, 7), ((6, 61), 6, 8), ((7, 188), 6, 8), ((6, 41), 6, 9), ((7, 197), 6, 9), ((1, 24), 1, 0), ((1, 9), 1, 1), ((1, 15), 1, 2), ((1, 18), 1, 3), ((1, 21), 1, 4), ((7, 217), 1, 4), ((1, 28), 1, 5), ((7, 103), 1, 5), ((1, 32), 1, 6), ((7, 213), 1, 6), ((1, 86), 1, 7), ((7, 225), 1, 7), ((1, 89), 1, 8), ((7, 228), 1, 8), ((7, 10), 7, 0), ((7, 16), 7, 1), ((7, 22), 7, 2), ((7, 31), 7, 3), ((7, 38), 7, 4), ((7, 47), 7, 5), ((7, 56), 7, 6), ((7, 63), 7, 7), ((7, 86), 7, 8), ((7, 107), 7, 9), ((9, 52), 9, 0), ((9, 55), 9, 1), ((9, 9), 9, 2), ((9, 316), 9, 3), ((9, 161), 9, 4), ((9, 13), 9, 5), ((9, 309), 9, 6), ((9, 69), 9, 7), ((9, 87), 9, 8), ((9, 84), 9, 9), ((9, 93), 9, 10), ((9, 107), 9, 11), ((9, 110), 9, 12), ((9, 113), 9, 13), ((9, 100), 9, 14), ((9, 17), 9, 15), ((9, 21), 9, 16), ((9, 24), 9, 17), ((9, 27), 9, 18), ((9, 321), 9, 19), ((9, 324), 9, 20), ((9, 30), 9, 21), ((9, 33), 9, 22), ((9, 36), 9, 23), ((9, 39), 9, 24), ((9, 42), 9, 25), ((9, 394), 9, 26), ((9, 397), 9, 27), ((9, 412), 9, 28), ((9, 45), 9, 29), ((9, 428), 9, 30), ((9, 431), 9, 31), ((9, 434), 9, 32), ((9, 49), 9, 33), ((9, 446), 9, 34), ((8, 9), 8, 0), ((8, 53), 8, 1), ((8, 56), 8, 2), ((8, 59), 8, 6), ((8, 15), 8, 8), ((8, 19), 8, 9), ((8, 22), 8, 10), ((8, 25), 8, 11), ((8, 28), 8, 12), ((8, 31), 8, 13), ((8, 34), 8, 14), ((8, 37), 8, 15), ((8, 40), 8, 16), ((8, 43), 8, 17), ((8, 46), 8, 18), ((8, 49), 8, 19)]
def flP : List Nat := [141, 142, 143, 144, 145, 146, 147, 148, 149, 150, 151, 152, 153, 154, 155, 156, 157, 158, 159, 160, 161, 162, 163, 164, 165, 166, 167, 168, 169, 170, 171, 172, 173, 174, 175, 176, 177, 178, 179, 180, 181, 182, 183, 184, 185, 186, 187, 188, 189, 190, 191, 192, 193, 194, 195, 196, 197, 198, 199, 200, 201, 202, 203, 204, 249, 250, 251, 264, 265, 266, 267, 268, 269, 270, 271, 272, 273, 274, 275, 276, 307, 308, 309, 310, 311, 312, 313, 314, 315, 316, 317, 318, 319, 320, 321, 322, 346, 347, 348, 349, 350, 351, 352, 353, 354, 355, 356, 378, 379, 380, 381, 382, 383, 384, 385, 386, 387, 388, 389, 390, 391, 419, 420, 421, 422, 423, 424, 425, 426, 427, 428, 429, 430, 431, 432, 452, 453, 454, 455, 456, 457, 458, 459, 460, 461, 1178, 1179, 1180, 1181, 1182, 1183, 1184, 1185, 1186, 1187, 1188, 1189, 1190, 1191, 1192, 1193, 1194, 1195, 1196, 1197, 1198, 1199, 1200, 1201, 1202, 1203, 1204, 1205, 1206, 1207, 1208, 1209, 1210, 1211, 1212, 1306, 1308, 1310, 1315, 1318, 1320, 1322, 1324, 1326, 1328, 1330, 1332, 1334, 1336, 1338, 1340]
def fnT : List ((Nat × Nat) × Nat × Nat) := [((9, 165), 8, 0), ((9, 187), 8, 1), ((9, 248), 8, 2), ((9, 276), 8, 3), ((9, 284), 8, 4), ((9, 287), 8, 5), ((9, 292), 8, 6), ((9, 300), 8, 7), ((9, 240), 8, 8), ((9, 243), 8, 9), ((9, 246), 8, 10), ((9, 268), 8, 11), ((9, 260), 8, 12), ((9, 263), 8, 13), ((9, 266), 8, 14), ((9, 290), 8, 15), ((9, 298), 8, 16), ((9, 303), 8, 17), ((9, 306), 8, 18), ((9, 237), 8, 19), ((9, 279), 8, 20)]
def fl (c i : Nat) : Option (Nat × Nat × Bool) := match flT.find? (fun e => e.1 == (c, i)) with
  | some e => some (e.2.1, e.2.2, false)
  | none => (fnT.find? (fun e => e.1 == (c, i))).map (fun e => (e.2.1, e.2.2, true))
def flW (e : (Nat × Nat) × Nat × Nat) : Cond := .fieldLink (nmC e.1.1) e.1.2 (nmC e.2.1) (tTT e.2.1 e.2.2).2.1 (tTT e.2.1 e.2.2).2.2.1
def fnW (e : (Nat × Nat) × Nat × Nat) : Cond := .fieldLinkNest (nmC e.1.1) e.1.2 (nmC e.2.1) (tTT e.2.1 e.2.2).2.1 (tTT e.2.1 e.2.2).2.2.1 RX9
set_option maxRecDepth 20000 in
theorem flT_w : flT.map (fun e => some (flW e)) = flP.map (fun i => lw_tbl[i]?) := by decide +kernel
theorem flT_g : flT.all (fun e => goodWord (flW e) && decide (e.2.2 < nFT e.2.1) && decide (e.2.1 < 10) && decide ((tTT e.2.1 e.2.2).1 = nmC e.2.1)) = true := by decide +kernel
theorem fnT_w : ∀ e ∈ fnT, fnW e ∈ lw_tbl := by decide +kernel
theorem fnT_g : fnT.all (fun e => decide (e.2.2 < nFT e.2.1) && decide (e.2.1 < 10) && decide ((tTT e.2.1 e.2.2).1 = nmC e.2.1)) = true := by decide +kernel
/-- the links of methods: class, place in its pool; how it is called; the method -/
def ml0T : List ((Nat × Nat) × qM) := [((20, 19), mX7_feed), ((7, 71), mX5_add), ((20, 24), mX7_street), ((7, 75), mX7_outside), ((7, 304), mX7_refusedIf), ((7, 79), mX2_read), ((2, 23), mX4_clear), ((2, 45), mX2_step), ((2, 65), mX5_at), ((2, 48), mX2_line), ((2, 116), mX2_reserved), ((2, 89), mX2_isWord), ((2, 77), mJ0_length_8abf5), ((32, 335), mJ0_coder_7d493), ((2, 83), mJ0_charAt_5068e), ((32, 492), mJ0_isLatin1_aae02), ((2, 58), mX2_fail), ((2, 127), mX2_isFull), ((2, 130), mX2_streetLine), ((2, 168), mX2_takeWord), ((2, 171), mX2_takeWhole), ((2, 133), mX2_houseLine), ((2, 119), mX2_nameHere), ((2, 123), mX2_named), ((2, 177), mX2_kindHere), ((2, 186), mX2_addHouse), ((2, 136), mX2_sparkLine), ((2, 210), mX2_houseHere), ((2, 213), mX4_sparkOf), ((2, 139), mX2_doesLine), ((2, 142), mX2_pulledLine), ((2, 145), mX2_glassLine), ((2, 148), mX2_unknownLine), ((2, 151), mX2_rungLine), ((7, 87), mX7_refuse), ((7, 91), mX0_begin), ((0, 37), mX0_causes), ((0, 54), mX4_causeOf), ((0, 41), mX4_cutBy), ((0, 45), mX0_spread), ((7, 97), mX3_begin), ((20, 28), mX7_fault), ((20, 33), mX7_where), ((20, 37), mX7_house), ((7, 113), mX7_noHouse), ((7, 124), mX4_causeOf), ((20, 42), mX7_spark), ((7, 135), mX4_cutBy), ((7, 138), mX4_lagOf), ((4, 73), mX4_sparkOf), ((20, 46), mX7_burns), ((7, 142), mX0_dayOf), ((20, 50), mX7_litBy), ((7, 148), mX0_lighter), ((0, 84), mX0_dayOf), ((0, 91), mX4_lagOf), ((20, 54), mX7_burnt), ((7, 151), mX7_noStreet), ((7, 155), mX0_burntBy), ((0, 76), mX0_bitsBy), ((20, 58), mX7_lastDay), ((20, 62), mX7_next), ((7, 163), mX0_soonest), ((0, 80), mX0_soonestIn), ((20, 66), mX7_agrees), ((7, 169), mX0_agreeing), ((0, 87), mX0_soonest), ((20, 70), mX7_burnsIf), ((7, 172), mX7_burnsAlready), ((20, 74), mX7_saves), ((7, 175), mX7_burnEver), ((20, 78), mX7_bestTold), ((20, 82), mX7_dumbDay), ((20, 86), mX7_ways), ((7, 178), mX6_make), ((6, 64), mX6_go), ((6, 68), mX0_agreeing), ((20, 90), mX7_wayAt), ((7, 185), mX7_noWay), ((7, 191), mX6_ringOf), ((20, 94), mX7_bestWay), ((7, 194), mX6_burntOf), ((6, 75), mX0_burntBy), ((20, 98), mX7_wayBurnt), ((20, 102), mX7_couldRing), ((20, 106), mX7_safe), ((20, 110), mX7_bestCut), ((7, 208), mX0_burnWithout), ((20, 114), mX7_fits), ((7, 211), mX1_make), ((1, 47), mX1_guessed), ((1, 51), mX0_guess), ((1, 54), mX1_isAsRung), ((1, 79), mX0_soonestIn), ((1, 67), mX1_makeTry), ((1, 92), mX1_mostLeft), ((1, 96), mX1_soonest), ((20, 118), mX7_fitAt), ((7, 220), mX1_guessed), ((20, 122), mX7_nextBy), ((7, 223), mX1_soonest), ((20, 126), mX7_tryDay), ((20, 130), mX7_tryLeaves), ((20, 134), mX7_judge), ((20, 138), mX7_rings), ((7, 239), mX7_has), ((20, 143), mX7_rests), ((7, 243), mX7_stays), ((20, 147), mX7_rest), ((20, 151), mX7_odds), ((7, 249), mX7_overAll), ((7, 309), mX0_weight), ((7, 263), mX0_burntIf), ((0, 94), mX0_makeCome), ((7, 316), mX0_wholeWeight), ((20, 156), mX7_quiet), ((20, 161), mX7_mean), ((20, 165), mX7_years), ((7, 253), mX7_noYears), ((7, 260), mX0_draw), ((20, 170), mX7_worstYear), ((20, 174), mX7_tell), ((7, 266), mX3_keep), ((3, 37), mX3_packed), ((20, 178), mX7_pull), ((7, 269), mX7_turnWire), ((20, 183), mX7_mend), ((20, 187), mX7_day), ((20, 191), mX7_undo), ((7, 272), mX3_takeBack), ((3, 47), mX3_unpack), ((20, 196), mX7_image), ((7, 275), mX3_keepImage), ((20, 200), mX7_back), ((7, 279), mX3_goBack), ((20, 213), mX7_size), ((7, 292), mX4_doers), ((20, 217), mX7_trouble), ((20, 7), mX7_led), ((20, 210), mX9_thrown), ((20, 23), mX9_feed), ((20, 27), mX9_street), ((9, 58), mX9_refused), ((9, 120), mX9_goesOn), ((9, 90), mX9_byteAt), ((9, 313), mX9_readAll), ((9, 181), mX9_readLine), ((9, 123), mX9_isWord), ((9, 72), mJ0_length_8abf5), ((9, 80), mJ0_charAt_5068e), ((9, 190), mX9_readStreet), ((9, 127), mX9_flaw), ((9, 215), mX9_readPart), ((9, 135), mX9_needs), ((9, 139), mX9_readWhole), ((9, 193), mX9_readHouse), ((9, 219), mX9_lineBegins), ((9, 170), mX9_isName), ((9, 174), mX8_find), ((9, 196), mX9_readSpark), ((9, 251), mX9_readHouseName), ((9, 178), mX9_houseAtHand), ((9, 254), mX8_isSpark), ((9, 199), mX9_readDoes), ((9, 202), mX9_readPulled), ((9, 205), mX9_readGlass), ((9, 208), mX9_readUnknown), ((9, 295), mX8_isUnknown), ((9, 211), mX9_readRung), ((9, 184), mX9_eatsSemicolon), ((9, 318), mX9_asTold), ((9, 62), mX9_good), ((20, 32), mX9_fault), ((20, 36), mX9_where), ((20, 41), mX9_house), ((9, 345), mX9_isHouse), ((20, 45), mX9_spark), ((9, 342), mX9_works), ((9, 330), mX9_flies), ((9, 327), mX8_takes), ((20, 49), mX9_burns), ((9, 348), mX9_finds), ((9, 339), mX9_burnsAll), ((20, 53), mX9_litBy), ((20, 57), mX9_burnt), ((9, 354), mX9_refusesDay), ((9, 333), mX9_burntBy), ((20, 61), mX9_lastDay), ((20, 65), mX9_next), ((9, 358), mX9_nextOn), ((20, 69), mX9_agrees), ((9, 370), mX9_agreeing), ((9, 361), mX9_holds), ((9, 364), mX9_tells), ((9, 367), mX9_letsGo), ((20, 73), mX9_burnsIf), ((9, 373), mX9_refusesTold), ((20, 77), mX9_saves), ((9, 376), mX9_everBurnt), ((20, 81), mX9_bestTold), ((20, 85), mX9_dumbDay), ((20, 89), mX9_ways), ((9, 382), mX9_codes), ((9, 379), mX9_glassesToCome), ((9, 385), mX9_isWay), ((20, 93), mX9_wayAt), ((9, 388), mX9_isWorked), ((20, 97), mX9_bestWay), ((20, 101), mX9_wayBurnt), ((20, 105), mX9_couldRing), ((20, 109), mX9_safe), ((9, 391), mX9_tellsAll), ((20, 113), mX9_bestCut), ((20, 117), mX9_fits), ((9, 409), mX9_fitting), ((9, 400), mX9_fitCodes), ((9, 403), mX9_fitDay), ((9, 406), mX9_wrong), ((20, 121), mX9_fitAt), ((20, 125), mX9_nextBy), ((20, 129), mX9_tryDay), ((9, 415), mX9_tries), ((20, 133), mX9_tryLeaves), ((20, 137), mX9_judge), ((20, 142), mX9_rings), ((9, 418), mX9_lost), ((9, 421), mX9_gets), ((20, 146), mX9_rests), ((9, 425), mX9_isRest), ((20, 150), mX9_rest), ((20, 155), mX9_odds), ((9, 439), mX9_chances), ((9, 442), mX9_fraction), ((20, 160), mX9_quiet), ((20, 164), mX9_mean), ((20, 169), mX9_years), ((9, 456), mX9_refusesYears), ((9, 459), mX9_yearsAll), ((20, 173), mX9_worstYear), ((20, 177), mX9_tell), ((9, 462), mX9_remembers), ((20, 182), mX9_pull), ((9, 471), mX9_wires), ((9, 465), mX9_denied), ((9, 468), mX9_granted), ((20, 186), mX9_mend), ((20, 190), mX9_day), ((20, 195), mX9_undo), ((20, 199), mX9_image), ((20, 203), mX9_back), ((20, 209), mX9_led), ((20, 216), mX9_size), ((20, 220), mX9_trouble)]
def ml0P : List Nat := [483, 487, 491, 495, 499, 503, 507, 511, 515, 525, 529, 534, 538, 542, 548, 552, 594, 598, 602, 607, 611, 615, 619, 625, 629, 640, 644, 648, 652, 663, 670, 674, 678, 682, 686, 690, 694, 698, 703, 707, 714, 718, 722, 726, 730, 734, 735, 739, 740, 744, 745, 749, 756, 760, 764, 765, 766, 770, 774, 778, 782, 787, 791, 795, 799, 803, 807, 808, 812, 816, 820, 830, 834, 838, 842, 846, 850, 851, 855, 859, 863, 867, 871, 873, 877, 881, 885, 889, 893, 897, 901, 905, 909, 913, 915, 919, 923, 928, 932, 933, 937, 938, 942, 946, 950, 954, 958, 962, 966, 970, 975, 979, 983, 987, 994, 1002, 1006, 1010, 1014, 1019, 1024, 1028, 1032, 1036, 1043, 1047, 1051, 1055, 1059, 1063, 1067, 1071, 1075, 1079, 1083, 1087, 1091, 1095, 1103, 1284, 1288, 1292, 1296, 1386, 1390, 1401, 1405, 1410, 1417, 1418, 1419, 1423, 1428, 1432, 1436, 1444, 1448, 1452, 1463, 1474, 1478, 1482, 1486, 1491, 1498, 1505, 1509, 1513, 1517, 1521, 1525, 1529, 1533, 1537, 1541, 1545, 1549, 1553, 1557, 1561, 1565, 1569, 1573, 1580, 1584, 1588, 1592, 1596, 1600, 1604, 1608, 1612, 1616, 1620, 1624, 1628, 1632, 1636, 1640, 1647, 1651, 1655, 1659, 1663, 1667, 1671, 1675, 1679, 1683, 1687, 1691, 1695, 1699, 1703, 1707, 1711, 1715, 1719, 1723, 1727, 1731, 1735, 1739, 1743, 1747, 1751, 1755, 1759, 1763, 1767, 1771, 1775, 1780, 1787, 1791, 1795, 1799, 1804, 1811, 1815, 1819, 1823, 1827, 1831, 1835, 1839, 1843, 1847, 1851, 1855, 1859, 1863, 1867]
def ml1T : List ((Nat × Nat) × qM) := [((2, 71), mX2_isLetter), ((2, 74), mX2_isDigit), ((32, 495), mJ1_charAt_3b067), ((33, 9), mJ0_checkIndex_df160), ((32, 1059), mJ3_checkIndex_8e157), ((2, 228), mX2_lagTo), ((7, 145), mX7_shown), ((7, 200), mJ6_bitCount_0f7a4), ((6, 79), mJ6_bitCount_0f7a4), ((7, 313), mX7_counted), ((7, 320), mX7_lowest), ((9, 96), mX9_isLetter), ((9, 104), mX9_isDigit), ((9, 116), mX9_packed), ((9, 131), mX9_in), ((9, 281), mX9_bit), ((9, 351), mX9_orNobody), ((9, 336), mX9_bits), ((9, 65), mX9_common)]
def ml1P : List Nat := [519, 522, 556, 559, 564, 657, 753, 824, 872, 991, 999, 1394, 1398, 1414, 1440, 1502, 1577, 1644, 1784]
def ml2T : List ((Nat × Nat) × qM) := [((20, 15), mX7_init), ((7, 28), mX2_init), ((7, 44), mX0_init), ((7, 53), mX6_init), ((7, 62), mX1_init), ((20, 18), mX9_init)]
def ml2P : List Nat := [129, 260, 342, 374, 415, 1174]
def ml3T : List ((Nat × Nat) × qM) := [((7, 9), mX4_init), ((7, 21), mX5_init), ((7, 37), mX3_init), ((9, 312), mX8_init)]
def ml3P : List Nat := [137, 245, 303, 1302]
def ml10T : List ((Nat × Nat) × qM) := [((7, 1), mX7_init), ((4, 3), mX7_init), ((5, 3), mX7_init), ((2, 3), mX7_init), ((3, 3), mX7_init), ((0, 3), mX7_init), ((6, 3), mX7_init), ((1, 3), mX7_init), ((9, 3), mX7_init), ((8, 3), mX7_init)]
def ml10P : List Nat := [132, 140, 248, 263, 306, 345, 377, 418, 1177, 1305]
def ml11T : List ((Nat × Nat) × qM) := [((2, 231), mX7_init), ((4, 67), mX7_init), ((7, 158), mX7_init), ((1, 99), mX7_init)]
def ml11P : List Nat := [660, 702, 786, 927]
def ml12T : List ((Nat × Nat) × qM) := [((3, 41), mX7_init)]
def ml12P : List Nat := [1040]
def ml14T : List ((Nat × Nat) × qM) := [((0, 48), mX7_init), ((1, 61), mX7_init)]
def ml14P : List Nat := [711, 914]
def ml17T : List ((Nat × Nat) × qM) := [((20, 204), mX7_init)]
def ml17P : List Nat := [1099]
def mlF (l : List ((Nat × Nat) × qM)) (c i : Nat) : Option qM := (l.find? (fun e => e.1 == (c, i))).map (fun e => e.2)
def lnk (e : (Nat × Nat) × qM) : Cond := .methodLink (nmC e.1.1) e.1.2 (mY e.2)
set_option maxRecDepth 20000 in
theorem ml0_w : ml0T.map (fun e => some (lnk e)) = ml0P.map (fun i => lw_tbl[i]?) := by decide +kernel
set_option maxRecDepth 20000 in
theorem ml1_w : ml1T.map (fun e => some (lnk e)) = ml1P.map (fun i => lw_tbl[i]?) := by decide +kernel
set_option maxRecDepth 20000 in
theorem ml2_w : ml2T.map (fun e => some (lnk e)) = ml2P.map (fun i => lw_tbl[i]?) := by decide +kernel
def lnkN (e : (Nat × Nat) × qM) : Cond := .methodLinkNest (nmC e.1.1) e.1.2 (mY e.2) (nmC e.1.1)
set_option maxRecDepth 20000 in
theorem ml3_w : ml3T.map (fun e => some (lnkN e)) = ml3P.map (fun i => lw_tbl[i]?) := by decide +kernel
set_option maxRecDepth 20000 in
theorem ml10_w : ml10T.map (fun e => some (Cond.methodLink (nmC e.1.1) e.1.2 objectInit)) = ml10P.map (fun i => lw_tbl[i]?) := by decide +kernel
set_option maxRecDepth 20000 in
theorem ml11_w : ml11T.map (fun e => some (Cond.methodLink (nmC e.1.1) e.1.2 Lib.Math.max.name)) = ml11P.map (fun i => lw_tbl[i]?) := by decide +kernel
set_option maxRecDepth 20000 in
theorem ml12_w : ml12T.map (fun e => some (Cond.methodLink (nmC e.1.1) e.1.2 Lib.Math.min.name)) = ml12P.map (fun i => lw_tbl[i]?) := by decide +kernel
set_option maxRecDepth 20000 in
theorem mm_c : [Cond.code Lib.Math.max.name Lib.Math.max.code 2 (some .int), Cond.code Lib.Math.min.name Lib.Math.min.code 2 (some .int), Cond.code objectInit ⟨#[0xb1]⟩ 1 none].map some = [662, 1042, 134].map (fun i => lw_tbl[i]?) := by decide +kernel
theorem mm_w : ∀ w ∈ [Cond.static Lib.Math.max.name, Cond.static Lib.Math.min.name, Cond.initialized "java/lang/Math"], w ∈ lw_tbl ∧ goodWord w = true := by decide +kernel
theorem mm_g : ∀ w ∈ [Cond.code Lib.Math.max.name Lib.Math.max.code 2 (some .int), Cond.code Lib.Math.min.name Lib.Math.min.code 2 (some .int), Cond.code objectInit ⟨#[0xb1]⟩ 1 none], goodWord w = true := by decide +kernel
set_option maxRecDepth 20000 in
theorem ml14_w : ml14T.map (fun e => some (Cond.methodLink (nmC e.1.1) e.1.2 arraycopyName)) = ml14P.map (fun i => lw_tbl[i]?) := by decide +kernel
/-- the methods that are called by a name -/
def mAll : List qM := [mJ0_charAt_5068e, mJ0_checkIndex_df160, mJ0_coder_7d493, mJ0_isLatin1_aae02, mJ0_length_8abf5, mJ1_charAt_3b067, mJ3_checkIndex_8e157, mJ6_bitCount_0f7a4, mX0_agreeing, mX0_begin, mX0_bitsBy, mX0_burnWithout, mX0_burntBy, mX0_burntIf, mX0_causes, mX0_dayOf, mX0_draw, mX0_guess, mX0_init, mX0_lighter, mX0_makeCome, mX0_soonest, mX0_soonestIn, mX0_spread, mX0_weight, mX0_wholeWeight, mX1_guessed, mX1_init, mX1_isAsRung, mX1_make, mX1_makeTry, mX1_mostLeft, mX1_soonest, mX2_addHouse, mX2_doesLine, mX2_fail, mX2_glassLine, mX2_houseHere, mX2_houseLine, mX2_init, mX2_isDigit, mX2_isFull, mX2_isLetter, mX2_isWord, mX2_kindHere, mX2_lagTo, mX2_line, mX2_nameHere, mX2_named, mX2_pulledLine, mX2_read, mX2_reserved, mX2_rungLine, mX2_sparkLine, mX2_step, mX2_streetLine, mX2_takeWhole, mX2_takeWord, mX2_unknownLine, mX3_begin, mX3_goBack, mX3_init, mX3_keep, mX3_keepImage, mX3_packed, mX3_takeBack, mX3_unpack, mX4_causeOf, mX4_clear, mX4_cutBy, mX4_doers, mX4_init, mX4_lagOf, mX4_sparkOf, mX5_add, mX5_at, mX5_init, mX6_burntOf, mX6_go, mX6_init, mX6_make, mX6_ringOf, mX7_agrees, mX7_back, mX7_bestCut, mX7_bestTold, mX7_bestWay, mX7_burnEver, mX7_burns, mX7_burnsAlready, mX7_burnsIf, mX7_burnt, mX7_couldRing, mX7_counted, mX7_day, mX7_dumbDay, mX7_fault, mX7_feed, mX7_fitAt, mX7_fits, mX7_has, mX7_house, mX7_image, mX7_init, mX7_judge, mX7_lastDay, mX7_led, mX7_litBy, mX7_lowest, mX7_mean, mX7_mend, mX7_next, mX7_nextBy, mX7_noHouse, mX7_noStreet, mX7_noWay, mX7_noYears, mX7_odds, mX7_outside, mX7_overAll, mX7_pull, mX7_quiet, mX7_refuse, mX7_refusedIf, mX7_rest, mX7_rests, mX7_rings, mX7_safe, mX7_saves, mX7_shown, mX7_size, mX7_spark, mX7_stays, mX7_street, mX7_tell, mX7_trouble, mX7_tryDay, mX7_tryLeaves, mX7_turnWire, mX7_undo, mX7_wayAt, mX7_wayBurnt, mX7_ways, mX7_where, mX7_worstYear, mX7_years, mX8_find, mX8_init, mX8_isSpark, mX8_isUnknown, mX8_takes, mX9_agreeing, mX9_agrees, mX9_asTold, mX9_back, mX9_bestCut, mX9_bestTold, mX9_bestWay, mX9_bit, mX9_bits, mX9_burns, mX9_burnsAll, mX9_burnsIf, mX9_burnt, mX9_burntBy, mX9_byteAt, mX9_chances, mX9_codes, mX9_common, mX9_couldRing, mX9_day, mX9_denied, mX9_dumbDay, mX9_eatsSemicolon, mX9_everBurnt, mX9_fault, mX9_feed, mX9_finds, mX9_fitAt, mX9_fitCodes, mX9_fitDay, mX9_fits, mX9_fitting, mX9_flaw, mX9_flies, mX9_fraction, mX9_gets, mX9_glassesToCome, mX9_goesOn, mX9_good, mX9_granted, mX9_holds, mX9_house, mX9_houseAtHand, mX9_image, mX9_in, mX9_init, mX9_isDigit, mX9_isHouse, mX9_isLetter, mX9_isName, mX9_isRest, mX9_isWay, mX9_isWord, mX9_isWorked, mX9_judge, mX9_lastDay, mX9_led, mX9_letsGo, mX9_lineBegins, mX9_litBy, mX9_lost, mX9_mean, mX9_mend, mX9_needs, mX9_next, mX9_nextBy, mX9_nextOn, mX9_odds, mX9_orNobody, mX9_packed, mX9_pull, mX9_quiet, mX9_readAll, mX9_readDoes, mX9_readGlass, mX9_readHouse, mX9_readHouseName, mX9_readLine, mX9_readPart, mX9_readPulled, mX9_readRung, mX9_readSpark, mX9_readStreet, mX9_readUnknown, mX9_readWhole, mX9_refused, mX9_refusesDay, mX9_refusesTold, mX9_refusesYears, mX9_remembers, mX9_rest, mX9_rests, mX9_rings, mX9_safe, mX9_saves, mX9_size, mX9_spark, mX9_street, mX9_tell, mX9_tells, mX9_tellsAll, mX9_thrown, mX9_tries, mX9_trouble, mX9_tryDay, mX9_tryLeaves, mX9_undo, mX9_wayAt, mX9_wayBurnt, mX9_ways, mX9_where, mX9_wires, mX9_works, mX9_worstYear, mX9_wrong, mX9_years, mX9_yearsAll]
def mAllP : List Nat := [551, 561, 545, 555, 541, 558, 566, 826, 806, 693, 781, 892, 777, 986, 697, 752, 1022, 908, 344, 763, 990, 794, 798, 710, 982, 997, 904, 417, 912, 900, 918, 922, 926, 643, 666, 597, 677, 651, 618, 262, 524, 601, 521, 537, 632, 659, 528, 622, 628, 673, 506, 532, 685, 647, 514, 605, 614, 610, 681, 717, 1086, 305, 1035, 1078, 1039, 1066, 1070, 701, 510, 706, 1094, 139, 743, 655, 490, 518, 247, 870, 849, 376, 845, 862, 802, 1082, 888, 833, 866, 823, 748, 815, 811, 769, 880, 993, 1058, 837, 721, 486, 931, 896, 957, 729, 1074, 131, 949, 785, 1106, 759, 1001, 1009, 1054, 790, 936, 733, 773, 858, 1017, 973, 498, 978, 1046, 1005, 689, 502, 969, 961, 953, 884, 819, 755, 1090, 738, 965, 494, 1031, 1098, 941, 945, 1050, 1062, 854, 876, 841, 725, 1027, 1013, 1466, 1304, 1489, 1516, 1564, 1615, 1611, 1528, 1858, 1702, 1650, 1682, 1504, 1646, 1568, 1576, 1631, 1587, 1595, 1393, 1778, 1662, 1786, 1690, 1846, 1834, 1654, 1524, 1643, 1536, 1291, 1572, 1726, 1714, 1718, 1706, 1710, 1426, 1560, 1783, 1758, 1666, 1389, 1532, 1838, 1619, 1544, 1485, 1854, 1442, 1176, 1400, 1548, 1396, 1455, 1766, 1670, 1413, 1678, 1746, 1599, 1862, 1627, 1451, 1583, 1754, 1794, 1842, 1435, 1603, 1730, 1607, 1774, 1579, 1416, 1826, 1790, 1404, 1494, 1508, 1447, 1481, 1408, 1431, 1501, 1520, 1477, 1422, 1512, 1439, 1299, 1591, 1635, 1802, 1822, 1770, 1762, 1750, 1694, 1639, 1866, 1552, 1295, 1818, 1623, 1698, 1287, 1738, 1870, 1734, 1742, 1850, 1674, 1686, 1658, 1540, 1830, 1556, 1814, 1722, 1798, 1807]
def mCode (M : qM) : Cond := .code (mY M) (mB M) (mL M) (mT M)
set_option maxRecDepth 20000 in
theorem mAll_w : mAll.map mCode = mAllP.filterMap (fun i => lw_tbl[i]?) := rfl
theorem mAll_g : mAll.all (fun M => goodWord (mCode M) && decide (mO M ∈ [0, 1, 2, 3, 4, 5, 6, 7, 8, 9, 20, 31, 32, 33, 34]) && decide ((mY M).cls ≠ "java/lang/invoke/MethodHandle") && decide ((mY M).cls ≠ "java/lang/invoke/VarHandle") && decide ((parseMethodDescriptor (mY M).desc).map (fun d => d.parameters.length) = some (mA M)) && _root_.Jvm.plainName (mY M).cls && decide (mL M ≤ 40) && decide ((mY M).cls = nmC (mO M))) = true := by decide +kernel
theorem ini_w : ∀ i ∈ [0, 1, 2, 3, 4, 5, 6, 7, 8, 9, 20, 31, 32, 33, 34], Cond.initialized (nmC i) ∈ lw_tbl ∧ goodWord (.initialized (nmC i)) = true := by decide +kernel
def mInst : List qM := [mJ0_charAt_5068e, mJ0_coder_7d493, mJ0_isLatin1_aae02, mJ0_length_8abf5, mX0_agreeing, mX0_begin, mX0_bitsBy, mX0_burnWithout, mX0_burntBy, mX0_burntIf, mX0_causes, mX0_dayOf, mX0_draw, mX0_guess, mX0_init, mX0_lighter, mX0_makeCome, mX0_soonest, mX0_soonestIn, mX0_spread, mX0_weight, mX0_wholeWeight, mX1_guessed, mX1_init, mX1_isAsRung, mX1_make, mX1_makeTry, mX1_mostLeft, mX1_soonest, mX2_addHouse, mX2_doesLine, mX2_fail, mX2_glassLine, mX2_houseHere, mX2_houseLine, mX2_init, mX2_isFull, mX2_isWord, mX2_kindHere, mX2_line, mX2_nameHere, mX2_named, mX2_pulledLine, mX2_read, mX2_reserved, mX2_rungLine, mX2_sparkLine, mX2_step, mX2_streetLine, mX2_takeWhole, mX2_takeWord, mX2_unknownLine, mX3_begin, mX3_goBack, mX3_init, mX3_keep, mX3_keepImage, mX3_packed, mX3_takeBack, mX3_unpack, mX4_causeOf, mX4_clear, mX4_cutBy, mX4_doers, mX4_init, mX4_lagOf, mX4_sparkOf, mX5_add, mX5_at, mX5_init, mX6_burntOf, mX6_go, mX6_init, mX6_make, mX6_ringOf, mX7_agrees, mX7_back, mX7_bestCut, mX7_bestTold, mX7_bestWay, mX7_burnEver, mX7_burns, mX7_burnsAlready, mX7_burnsIf, mX7_burnt, mX7_couldRing, mX7_day, mX7_dumbDay, mX7_fault, mX7_feed, mX7_fitAt, mX7_fits, mX7_has, mX7_house, mX7_image, mX7_init, mX7_judge, mX7_lastDay, mX7_led, mX7_litBy, mX7_mean, mX7_mend, mX7_next, mX7_nextBy, mX7_noHouse, mX7_noStreet, mX7_noWay, mX7_noYears, mX7_odds, mX7_outside, mX7_overAll, mX7_pull, mX7_quiet, mX7_refuse, mX7_refusedIf, mX7_rest, mX7_rests, mX7_rings, mX7_safe, mX7_saves, mX7_size, mX7_spark, mX7_stays, mX7_street, mX7_tell, mX7_trouble, mX7_tryDay, mX7_tryLeaves, mX7_turnWire, mX7_undo, mX7_wayAt, mX7_wayBurnt, mX7_ways, mX7_where, mX7_worstYear, mX7_years, mX8_find, mX8_init, mX8_isSpark, mX8_isUnknown, mX8_takes, mX9_agreeing, mX9_agrees, mX9_asTold, mX9_back, mX9_bestCut, mX9_bestTold, mX9_bestWay, mX9_burns, mX9_burnsAll, mX9_burnsIf, mX9_burnt, mX9_burntBy, mX9_byteAt, mX9_chances, mX9_codes, mX9_couldRing, mX9_day, mX9_denied, mX9_dumbDay, mX9_eatsSemicolon, mX9_everBurnt, mX9_fault, mX9_feed, mX9_finds, mX9_fitAt, mX9_fitCodes, mX9_fitDay, mX9_fits, mX9_fitting, mX9_flaw, mX9_flies, mX9_fraction, mX9_gets, mX9_glassesToCome, mX9_goesOn, mX9_good, mX9_granted, mX9_holds, mX9_house, mX9_houseAtHand, mX9_image, mX9_init, mX9_isHouse, mX9_isName, mX9_isRest, mX9_isWay, mX9_isWord, mX9_isWorked, mX9_judge, mX9_lastDay, mX9_led, mX9_letsGo, mX9_lineBegins, mX9_litBy, mX9_lost, mX9_mean, mX9_mend, mX9_needs, mX9_next, mX9_nextBy, mX9_nextOn, mX9_odds, mX9_pull, mX9_quiet, mX9_readAll, mX9_readDoes, mX9_readGlass, mX9_readHouse, mX9_readHouseName, mX9_readLine, mX9_readPart, mX9_readPulled, mX9_readRung, mX9_readSpark, mX9_readStreet, mX9_readUnknown, mX9_readWhole, mX9_refused, mX9_refusesDay, mX9_refusesTold, mX9_refusesYears, mX9_remembers, mX9_rest, mX9_rests, mX9_rings, mX9_safe, mX9_saves, mX9_size, mX9_spark, mX9_street, mX9_tell, mX9_tells, mX9_tellsAll, mX9_thrown, mX9_tries, mX9_trouble, mX9_tryDay, mX9_tryLeaves, mX9_undo, mX9_wayAt, mX9_wayBurnt, mX9_ways, mX9_where, mX9_wires, mX9_works, mX9_worstYear, mX9_wrong, mX9_years, mX9_yearsAll]
def mInstP : List Nat := [549, 543, 553, 539, 804, 691, 780, 890, 775, 984, 696, 750, 1020, 906, 343, 761, 989, 792, 796, 709, 980, 995, 902, 416, 911, 898, 917, 921, 924, 642, 665, 596, 676, 650, 617, 261, 600, 536, 631, 527, 621, 627, 672, 504, 531, 684, 646, 513, 604, 613, 609, 680, 715, 1084, 304, 1033, 1076, 1038, 1064, 1069, 699, 508, 704, 1092, 138, 741, 653, 488, 516, 246, 868, 848, 375, 843, 860, 800, 1080, 886, 831, 864, 822, 746, 814, 809, 767, 878, 1056, 835, 719, 484, 929, 894, 956, 727, 1072, 130, 947, 783, 1104, 757, 1007, 1052, 788, 934, 732, 772, 857, 1016, 971, 497, 977, 1044, 1003, 688, 501, 967, 959, 951, 882, 817, 1088, 736, 964, 492, 1029, 1096, 939, 943, 1049, 1060, 852, 874, 839, 723, 1025, 1011, 1464, 1303, 1487, 1514, 1562, 1614, 1609, 1527, 1856, 1700, 1648, 1680, 1566, 1575, 1629, 1585, 1594, 1392, 1777, 1661, 1688, 1844, 1833, 1652, 1523, 1642, 1534, 1289, 1571, 1724, 1713, 1717, 1704, 1709, 1425, 1559, 1782, 1757, 1665, 1388, 1531, 1837, 1618, 1542, 1484, 1852, 1175, 1547, 1454, 1765, 1669, 1412, 1677, 1744, 1597, 1860, 1626, 1450, 1581, 1753, 1792, 1840, 1434, 1601, 1728, 1606, 1772, 1824, 1788, 1403, 1493, 1507, 1446, 1480, 1407, 1430, 1500, 1519, 1476, 1421, 1511, 1438, 1298, 1590, 1634, 1801, 1821, 1768, 1760, 1748, 1692, 1637, 1864, 1550, 1293, 1816, 1622, 1697, 1285, 1737, 1868, 1732, 1740, 1848, 1672, 1684, 1656, 1538, 1829, 1555, 1812, 1721, 1796, 1806]
set_option maxRecDepth 20000 in
theorem mInst_w : mInst.map (fun M => some (Cond.instanceMethod (mY M))) = mInstP.map (fun i => lw_tbl[i]?) := by decide +kernel
def mVirt : List qM := [mJ0_charAt_5068e, mJ0_coder_7d493, mJ0_isLatin1_aae02, mJ0_length_8abf5, mX0_agreeing, mX0_begin, mX0_bitsBy, mX0_burnWithout, mX0_burntBy, mX0_burntIf, mX0_causes, mX0_dayOf, mX0_draw, mX0_guess, mX0_lighter, mX0_makeCome, mX0_soonest, mX0_soonestIn, mX0_spread, mX0_weight, mX0_wholeWeight, mX1_guessed, mX1_isAsRung, mX1_make, mX1_makeTry, mX1_mostLeft, mX1_soonest, mX2_addHouse, mX2_doesLine, mX2_fail, mX2_glassLine, mX2_houseHere, mX2_houseLine, mX2_isFull, mX2_isWord, mX2_kindHere, mX2_line, mX2_nameHere, mX2_named, mX2_pulledLine, mX2_read, mX2_reserved, mX2_rungLine, mX2_sparkLine, mX2_step, mX2_streetLine, mX2_takeWhole, mX2_takeWord, mX2_unknownLine, mX3_begin, mX3_goBack, mX3_keep, mX3_keepImage, mX3_packed, mX3_takeBack, mX3_unpack, mX4_causeOf, mX4_clear, mX4_cutBy, mX4_doers, mX4_lagOf, mX4_sparkOf, mX5_add, mX5_at, mX6_burntOf, mX6_go, mX6_make, mX6_ringOf, mX7_agrees, mX7_back, mX7_bestCut, mX7_bestTold, mX7_bestWay, mX7_burnEver, mX7_burns, mX7_burnsAlready, mX7_burnsIf, mX7_burnt, mX7_couldRing, mX7_day, mX7_dumbDay, mX7_fault, mX7_feed, mX7_fitAt, mX7_fits, mX7_has, mX7_house, mX7_image, mX7_judge, mX7_lastDay, mX7_led, mX7_litBy, mX7_mean, mX7_mend, mX7_next, mX7_nextBy, mX7_noHouse, mX7_noStreet, mX7_noWay, mX7_noYears, mX7_odds, mX7_outside, mX7_overAll, mX7_pull, mX7_quiet, mX7_refuse, mX7_refusedIf, mX7_rest, mX7_rests, mX7_rings, mX7_safe, mX7_saves, mX7_size, mX7_spark, mX7_stays, mX7_street, mX7_tell, mX7_trouble, mX7_tryDay, mX7_tryLeaves, mX7_turnWire, mX7_undo, mX7_wayAt, mX7_wayBurnt, mX7_ways, mX7_where, mX7_worstYear, mX7_years, mX8_find, mX8_isSpark, mX8_isUnknown, mX8_takes, mX9_agreeing, mX9_agrees, mX9_asTold, mX9_back, mX9_bestCut, mX9_bestTold, mX9_bestWay, mX9_burns, mX9_burnsAll, mX9_burnsIf, mX9_burnt, mX9_burntBy, mX9_byteAt, mX9_chances, mX9_codes, mX9_couldRing, mX9_day, mX9_denied, mX9_dumbDay, mX9_eatsSemicolon, mX9_everBurnt, mX9_fault, mX9_feed, mX9_finds, mX9_fitAt, mX9_fitCodes, mX9_fitDay, mX9_fits, mX9_fitting, mX9_flaw, mX9_flies, mX9_fraction, mX9_gets, mX9_glassesToCome, mX9_goesOn, mX9_good, mX9_granted, mX9_holds, mX9_house, mX9_houseAtHand, mX9_image, mX9_isHouse, mX9_isName, mX9_isRest, mX9_isWay, mX9_isWord, mX9_isWorked, mX9_judge, mX9_lastDay, mX9_led, mX9_letsGo, mX9_lineBegins, mX9_litBy, mX9_lost, mX9_mean, mX9_mend, mX9_needs, mX9_next, mX9_nextBy, mX9_nextOn, mX9_odds, mX9_pull, mX9_quiet, mX9_readAll, mX9_readDoes, mX9_readGlass, mX9_readHouse, mX9_readHouseName, mX9_readLine, mX9_readPart, mX9_readPulled, mX9_readRung, mX9_readSpark, mX9_readStreet, mX9_readUnknown, mX9_readWhole, mX9_refused, mX9_refusesDay, mX9_refusesTold, mX9_refusesYears, mX9_remembers, mX9_rest, mX9_rests, mX9_rings, mX9_safe, mX9_saves, mX9_size, mX9_spark, mX9_street, mX9_tell, mX9_tells, mX9_tellsAll, mX9_thrown, mX9_tries, mX9_trouble, mX9_tryDay, mX9_tryLeaves, mX9_undo, mX9_wayAt, mX9_wayBurnt, mX9_ways, mX9_where, mX9_wires, mX9_works, mX9_worstYear, mX9_wrong, mX9_years, mX9_yearsAll]
def mVirtP : List Nat := [550, 544, 554, 540, 805, 692, 28, 891, 776, 985, 24, 751, 1021, 907, 762, 39, 793, 797, 25, 981, 996, 903, 33, 899, 34, 35, 925, 15, 18, 6, 20, 17, 11, 7, 5, 14, 3, 12, 13, 19, 505, 4, 22, 16, 2, 8, 10, 9, 21, 716, 1085, 1034, 1077, 41, 1065, 43, 700, 509, 705, 1093, 742, 654, 489, 517, 869, 31, 844, 861, 801, 1081, 887, 832, 865, 30, 747, 29, 810, 768, 879, 1057, 836, 720, 485, 930, 895, 36, 728, 1073, 948, 784, 1105, 758, 1008, 1053, 789, 935, 26, 27, 32, 40, 972, 0, 38, 1045, 1004, 23, 1, 968, 960, 952, 883, 818, 1089, 737, 37, 493, 1030, 1097, 940, 944, 42, 1061, 853, 875, 840, 724, 1026, 1012, 1465, 1488, 1515, 1563, 78, 1610, 68, 1857, 1701, 1649, 1681, 1567, 74, 1630, 1586, 76, 47, 97, 84, 1689, 1845, 103, 1653, 67, 83, 1535, 1290, 73, 1725, 90, 91, 1705, 89, 52, 72, 98, 95, 85, 46, 69, 104, 79, 1543, 61, 1853, 70, 58, 96, 86, 50, 87, 1745, 1598, 1861, 81, 57, 1582, 94, 1793, 1841, 54, 1602, 1729, 77, 1773, 1825, 1789, 48, 62, 64, 56, 60, 49, 53, 63, 66, 59, 51, 65, 55, 45, 75, 82, 99, 101, 1769, 1761, 1749, 1693, 1638, 1865, 1551, 1294, 1817, 80, 88, 1286, 93, 1869, 1733, 1741, 1849, 1673, 1685, 1657, 1539, 102, 71, 1813, 92, 1797, 100]
set_option maxRecDepth 20000 in
theorem mVirt_w : mVirt.map (fun M => some (Cond.selects (mY M).cls (mY M) (mY M))) = mVirtP.map (fun i => lw_tbl[i]?) := by decide +kernel
theorem mVirt_g : mVirt.all (fun M => goodWord (.selects (mY M).cls (mY M) (mY M)) && goodWord (.instanceMethod (mY M))) = true := by decide +kernel
def mStat : List qM := [mJ0_checkIndex_df160, mJ1_charAt_3b067, mJ3_checkIndex_8e157, mJ6_bitCount_0f7a4, mX2_isDigit, mX2_isLetter, mX2_lagTo, mX7_counted, mX7_lowest, mX7_shown, mX9_bit, mX9_bits, mX9_common, mX9_in, mX9_isDigit, mX9_isLetter, mX9_orNobody, mX9_packed]
theorem mStat_w : mStat.all (fun M => decide (Cond.static (mY M) ∈ lw_tbl) && goodWord (.static (mY M))) = true := by decide +kernel
def clT : List ((Nat × Nat) × Nat) := [((20, 8), 7), ((7, 7), 4), ((7, 19), 5), ((7, 26), 2), ((7, 35), 3), ((7, 42), 0), ((7, 51), 6), ((7, 60), 1), ((20, 16), 9), ((9, 166), 8)]
def clF (c i : Nat) : Option Nat := (clT.find? (fun e => e.1 == (c, i))).map (fun e => e.2)
theorem clT_w : clT.all (fun e => decide (Cond.classLink (nmC e.1.1) e.1.2 (nmC e.2) ∈ lw_tbl) && decide (Cond.instantiable (nmC e.2) (nFT e.2) ∈ lw_tbl) && decide (Cond.initialized (nmC e.2) ∈ lw_tbl) && decide (e.2 < 10) && goodWord (.classLink (nmC e.1.1) e.1.2 (nmC e.2)) && goodWord (.instantiable (nmC e.2) (nFT e.2)) && goodWord (.initialized (nmC e.2))) = true := by decide +kernel
def ciT : List ((Nat × Nat) × Int32) := [((31, 265), 1431655765), ((31, 266), 858993459), ((31, 267), 252645135), ((7, 308), 65536), ((0, 106), 65537), ((9, 455), 65536)]
def cjT : List ((Nat × Nat) × Int64) := [((2, 109), 32), ((2, 111), 97), ((7, 247), -1), ((0, 101), 100), ((9, 78), 32), ((9, 437), 100), ((9, 449), 75), ((9, 451), 74), ((9, 453), 65537)]
theorem ciT_w : ∀ e ∈ ciT, Cond.constant (nmC e.1.1) e.1.2 e.2 ∈ lw_tbl ∧ goodWord (.constant (nmC e.1.1) e.1.2 e.2) = true := by decide +kernel
theorem cjT_w : ∀ e ∈ cjT, Cond.constantLong (nmC e.1.1) e.1.2 e.2 ∈ lw_tbl ∧ goodWord (.constantLong (nmC e.1.1) e.1.2 e.2) = true := by decide +kernel
def sTx : List String := ["street", "house", "spark", "does", "pulled", "glass", "unknown", "rung", "nobody", "fright", "brick", "thatch", "timber", "stone", "calm", "day", "by", "days", "douse", "cut", "panic"]
def sLen : List Nat := [6, 5, 5, 4, 6, 5, 7, 4, 6, 6, 5, 6, 6, 5, 4, 3, 2, 4, 5, 3, 5]
def sByt : List (List Int32) := [[115, 116, 114, 101, 101, 116], [104, 111, 117, 115, 101], [115, 112, 97, 114, 107], [100, 111, 101, 115], [112, 117, 108, 108, 101, 100], [103, 108, 97, 115, 115], [117, 110, 107, 110, 111, 119, 110], [114, 117, 110, 103], [110, 111, 98, 111, 100, 121], [102, 114, 105, 103, 104, 116], [98, 114, 105, 99, 107], [116, 104, 97, 116, 99, 104], [116, 105, 109, 98, 101, 114], [115, 116, 111, 110, 101], [99, 97, 108, 109], [100, 97, 121], [98, 121], [100, 97, 121, 115], [100, 111, 117, 115, 101], [99, 117, 116], [112, 97, 110, 105, 99]]
def csT : List ((Nat × Nat) × Nat) := [((2, 87), 0), ((2, 93), 1), ((2, 95), 2), ((2, 97), 3), ((2, 99), 4), ((2, 101), 5), ((2, 103), 6), ((2, 105), 7), ((2, 107), 8), ((2, 166), 9), ((2, 190), 10), ((2, 192), 11), ((2, 194), 12), ((2, 196), 13), ((2, 180), 14), ((2, 182), 15), ((2, 184), 16), ((2, 217), 17), ((2, 236), 18), ((2, 238), 19), ((2, 240), 20), ((9, 143), 0), ((9, 214), 9), ((9, 145), 1), ((9, 147), 2), ((9, 149), 3), ((9, 151), 4), ((9, 153), 5), ((9, 155), 6), ((9, 157), 7), ((9, 159), 8), ((9, 223), 10), ((9, 225), 11), ((9, 227), 12), ((9, 229), 13), ((9, 231), 14), ((9, 233), 15), ((9, 235), 16), ((9, 258), 17), ((9, 270), 18), ((9, 272), 19), ((9, 274), 20)]
theorem csT_w : ∀ e ∈ csT, Cond.stringRef (nmC e.1.1) e.1.2 (sTx.getD e.2 "") ∈ lw_tbl ∧ e.2 < 21 := by decide +kernel
def cs (c i : Nat) : Option Value := match ciT.find? (fun e => e.1 == (c, i)) with
  | some e => some (.int e.2)
  | none => match csT.find? (fun e => e.1 == (c, i)) with
    | some e => some (.retAddr e.2)
    | none => none
def cj (c i : Nat) : Option Int64 := (cjT.find? (fun e => e.1 == (c, i))).map (fun e => e.2)
theorem qin0 : ∀ w ∈ u_ws RX0 TX0 7, w ∈ lw_tbl ∧ goodWord w = true := by decide +kernel
theorem qin1 : ∀ w ∈ u_ws RX1 TX1 9, w ∈ lw_tbl ∧ goodWord w = true := by decide +kernel
theorem qin2 : ∀ w ∈ u_ws RX2 TX2 11, w ∈ lw_tbl ∧ goodWord w = true := by decide +kernel
theorem qin3 : ∀ w ∈ u_ws RX3 TX3 8, w ∈ lw_tbl ∧ goodWord w = true := by decide +kernel
theorem qin4 : ∀ w ∈ u_ws RX4 TX4 18, w ∈ lw_tbl ∧ goodWord w = true := by decide +kernel
theorem qin5 : ∀ w ∈ u_ws RX5 TX5 2, w ∈ lw_tbl ∧ goodWord w = true := by decide +kernel
theorem qin6 : ∀ w ∈ u_ws RX6 TX6 10, w ∈ lw_tbl ∧ goodWord w = true := by decide +kernel
theorem qin7 : ∀ w ∈ u_ws RX7 TX7 10, w ∈ lw_tbl ∧ goodWord w = true := by decide +kernel
theorem qin8 : ∀ w ∈ u_ws RX8 TX8 21, w ∈ lw_tbl ∧ goodWord w = true := by decide +kernel
theorem qin9 : ∀ w ∈ u_ws RX9 TX9 35, w ∈ lw_tbl ∧ goodWord w = true := by decide +kernel
def WT : List Cond := lw_tbl.filter goodWord
theorem WT_in {w : Cond} (h : w ∈ lw_tbl) (g : goodWord w = true) : w ∈ WT := List.mem_filter.mpr ⟨h, g⟩
theorem jd_w : (Cond.instanceMethod objectInit ∈ lw_tbl ∧ goodWord (.instanceMethod objectInit) = true) ∧ (Cond.native arraycopyName ∈ lw_tbl ∧ goodWord (.native arraycopyName) = true) ∧ (Cond.static arraycopyName ∈ lw_tbl ∧ goodWord (.static arraycopyName) = true) ∧ (Cond.initialized "java/lang/System" ∈ lw_tbl ∧ goodWord (.initialized "java/lang/System") = true) := by decide +kernel
theorem ar_w : ∀ t ∈ [FieldType.byte, .int, .long], Cond.arrayClass t ∈ lw_tbl ∧ goodWord (.arrayClass t) = true := by decide +kernel
set_option maxRecDepth 20000 in
theorem ml10_g : ml10T.all (fun e => goodWord (Cond.methodLink (nmC e.1.1) e.1.2 objectInit)) && ml14T.all (fun e => goodWord (Cond.methodLink (nmC e.1.1) e.1.2 arraycopyName)) && ml0T.all (fun e => goodWord (lnk e)) && ml1T.all (fun e => goodWord (lnk e)) && ml2T.all (fun e => goodWord (lnk e)) && ml11T.all (fun e => goodWord (Cond.methodLink (nmC e.1.1) e.1.2 Lib.Math.max.name)) && ml12T.all (fun e => goodWord (Cond.methodLink (nmC e.1.1) e.1.2 Lib.Math.min.name)) = true := by decide +kernel
