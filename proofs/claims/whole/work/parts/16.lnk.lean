/-! ===== the links, one by one ===== -/
theorem fl0_9 : fl 0 9 = some (0, 1, false) := by decide +kernel
theorem fl0_15 : fl 0 15 = some (0, 2, false) := by decide +kernel
theorem fl0_18 : fl 0 18 = some (0, 3, false) := by decide +kernel
theorem fl0_21 : fl 0 21 = some (0, 4, false) := by decide +kernel
theorem fl0_24 : fl 0 24 = some (0, 0, false) := by decide +kernel
theorem fl0_28 : fl 0 28 = some (0, 5, false) := by decide +kernel
theorem fl0_32 : fl 0 32 = some (4, 1, false) := by decide +kernel
theorem fl0_58 : fl 0 58 = some (4, 7, false) := by decide +kernel
theorem fl0_61 : fl 0 61 = some (4, 8, false) := by decide +kernel
theorem fl0_64 : fl 0 64 = some (4, 9, false) := by decide +kernel
theorem fl0_67 : fl 0 67 = some (4, 10, false) := by decide +kernel
theorem fl0_70 : fl 0 70 = some (4, 13, false) := by decide +kernel
theorem fl0_73 : fl 0 73 = some (4, 14, false) := by decide +kernel
theorem fl0_98 : fl 0 98 = some (4, 4, false) := by decide +kernel
theorem fl0_103 : fl 0 103 = some (0, 6, false) := by decide +kernel
theorem fl1_9 : fl 1 9 = some (1, 1, false) := by decide +kernel
theorem fl1_15 : fl 1 15 = some (1, 2, false) := by decide +kernel
theorem fl1_18 : fl 1 18 = some (1, 3, false) := by decide +kernel
theorem fl1_21 : fl 1 21 = some (1, 4, false) := by decide +kernel
theorem fl1_24 : fl 1 24 = some (1, 0, false) := by decide +kernel
theorem fl1_28 : fl 1 28 = some (1, 5, false) := by decide +kernel
theorem fl1_32 : fl 1 32 = some (1, 6, false) := by decide +kernel
theorem fl1_36 : fl 1 36 = some (0, 0, false) := by decide +kernel
theorem fl1_42 : fl 1 42 = some (4, 13, false) := by decide +kernel
theorem fl1_58 : fl 1 58 = some (0, 2, false) := by decide +kernel
theorem fl1_70 : fl 1 70 = some (4, 15, false) := by decide +kernel
theorem fl1_73 : fl 1 73 = some (4, 6, false) := by decide +kernel
theorem fl1_76 : fl 1 76 = some (4, 16, false) := by decide +kernel
theorem fl1_83 : fl 1 83 = some (4, 17, false) := by decide +kernel
theorem fl1_86 : fl 1 86 = some (1, 7, false) := by decide +kernel
theorem fl1_89 : fl 1 89 = some (1, 8, false) := by decide +kernel
theorem fl2_9 : fl 2 9 = some (2, 1, false) := by decide +kernel
theorem fl2_15 : fl 2 15 = some (2, 0, false) := by decide +kernel
theorem fl2_19 : fl 2 19 = some (2, 2, false) := by decide +kernel
theorem fl2_28 : fl 2 28 = some (2, 3, false) := by decide +kernel
theorem fl2_32 : fl 2 32 = some (2, 4, false) := by decide +kernel
theorem fl2_36 : fl 2 36 = some (2, 9, false) := by decide +kernel
theorem fl2_39 : fl 2 39 = some (2, 10, false) := by decide +kernel
theorem fl2_42 : fl 2 42 = some (2, 7, false) := by decide +kernel
theorem fl2_52 : fl 2 52 = some (2, 5, false) := by decide +kernel
theorem fl2_55 : fl 2 55 = some (4, 1, false) := by decide +kernel
theorem fl2_62 : fl 2 62 = some (2, 6, false) := by decide +kernel
theorem fl2_113 : fl 2 113 = some (2, 8, false) := by decide +kernel
theorem fl2_154 : fl 2 154 = some (4, 7, false) := by decide +kernel
theorem fl2_157 : fl 2 157 = some (4, 11, false) := by decide +kernel
theorem fl2_160 : fl 2 160 = some (4, 13, false) := by decide +kernel
theorem fl2_163 : fl 2 163 = some (4, 15, false) := by decide +kernel
theorem fl2_175 : fl 2 175 = some (4, 0, false) := by decide +kernel
theorem fl2_198 : fl 2 198 = some (4, 2, false) := by decide +kernel
theorem fl2_202 : fl 2 202 = some (4, 3, false) := by decide +kernel
theorem fl2_205 : fl 2 205 = some (4, 4, false) := by decide +kernel
theorem fl2_207 : fl 2 207 = some (4, 5, false) := by decide +kernel
theorem fl2_219 : fl 2 219 = some (4, 8, false) := by decide +kernel
theorem fl2_222 : fl 2 222 = some (4, 9, false) := by decide +kernel
theorem fl2_225 : fl 2 225 = some (4, 10, false) := by decide +kernel
theorem fl2_242 : fl 2 242 = some (4, 6, false) := by decide +kernel
theorem fl2_245 : fl 2 245 = some (4, 12, false) := by decide +kernel
theorem fl2_247 : fl 2 247 = some (4, 14, false) := by decide +kernel
theorem fl2_249 : fl 2 249 = some (4, 16, false) := by decide +kernel
theorem fl2_252 : fl 2 252 = some (4, 17, false) := by decide +kernel
theorem fl3_11 : fl 3 11 = some (3, 3, false) := by decide +kernel
theorem fl3_15 : fl 3 15 = some (3, 6, false) := by decide +kernel
theorem fl3_18 : fl 3 18 = some (3, 0, false) := by decide +kernel
theorem fl3_22 : fl 3 22 = some (3, 1, false) := by decide +kernel
theorem fl3_25 : fl 3 25 = some (3, 2, false) := by decide +kernel
theorem fl3_28 : fl 3 28 = some (3, 5, false) := by decide +kernel
theorem fl3_31 : fl 3 31 = some (3, 7, false) := by decide +kernel
theorem fl3_34 : fl 3 34 = some (3, 4, false) := by decide +kernel
theorem fl4_9 : fl 4 9 = some (4, 2, false) := by decide +kernel
theorem fl4_15 : fl 4 15 = some (4, 3, false) := by decide +kernel
theorem fl4_18 : fl 4 18 = some (4, 4, false) := by decide +kernel
theorem fl4_21 : fl 4 21 = some (4, 5, false) := by decide +kernel
theorem fl4_24 : fl 4 24 = some (4, 8, false) := by decide +kernel
theorem fl4_27 : fl 4 27 = some (4, 9, false) := by decide +kernel
theorem fl4_30 : fl 4 30 = some (4, 10, false) := by decide +kernel
theorem fl4_33 : fl 4 33 = some (4, 12, false) := by decide +kernel
theorem fl4_36 : fl 4 36 = some (4, 14, false) := by decide +kernel
theorem fl4_39 : fl 4 39 = some (4, 16, false) := by decide +kernel
theorem fl4_42 : fl 4 42 = some (4, 17, false) := by decide +kernel
theorem fl4_45 : fl 4 45 = some (4, 0, false) := by decide +kernel
theorem fl4_49 : fl 4 49 = some (4, 1, false) := by decide +kernel
theorem fl4_52 : fl 4 52 = some (4, 6, false) := by decide +kernel
theorem fl4_55 : fl 4 55 = some (4, 7, false) := by decide +kernel
theorem fl4_58 : fl 4 58 = some (4, 11, false) := by decide +kernel
theorem fl4_61 : fl 4 61 = some (4, 13, false) := by decide +kernel
theorem fl4_64 : fl 4 64 = some (4, 15, false) := by decide +kernel
theorem fl5_9 : fl 5 9 = some (5, 0, false) := by decide +kernel
theorem fl5_15 : fl 5 15 = some (5, 1, false) := by decide +kernel
theorem fl6_11 : fl 6 11 = some (6, 1, false) := by decide +kernel
theorem fl6_15 : fl 6 15 = some (6, 0, false) := by decide +kernel
theorem fl6_19 : fl 6 19 = some (6, 6, false) := by decide +kernel
theorem fl6_23 : fl 6 23 = some (6, 4, false) := by decide +kernel
theorem fl6_27 : fl 6 27 = some (3, 2, false) := by decide +kernel
theorem fl6_30 : fl 6 30 = some (6, 5, false) := by decide +kernel
theorem fl6_33 : fl 6 33 = some (3, 0, false) := by decide +kernel
theorem fl6_34 : fl 6 34 = some (6, 2, false) := by decide +kernel
theorem fl6_37 : fl 6 37 = some (3, 1, false) := by decide +kernel
theorem fl6_38 : fl 6 38 = some (6, 7, false) := by decide +kernel
theorem fl6_41 : fl 6 41 = some (6, 9, false) := by decide +kernel
theorem fl6_44 : fl 6 44 = some (6, 3, false) := by decide +kernel
theorem fl6_47 : fl 6 47 = some (0, 0, false) := by decide +kernel
theorem fl6_53 : fl 6 53 = some (4, 11, false) := by decide +kernel
theorem fl6_58 : fl 6 58 = some (4, 12, false) := by decide +kernel
theorem fl6_61 : fl 6 61 = some (6, 8, false) := by decide +kernel
theorem fl6_72 : fl 6 72 = some (4, 1, false) := by decide +kernel
theorem fl7_10 : fl 7 10 = some (7, 0, false) := by decide +kernel
theorem fl7_16 : fl 7 16 = some (7, 1, false) := by decide +kernel
theorem fl7_22 : fl 7 22 = some (7, 2, false) := by decide +kernel
theorem fl7_31 : fl 7 31 = some (7, 3, false) := by decide +kernel
theorem fl7_38 : fl 7 38 = some (7, 4, false) := by decide +kernel
theorem fl7_47 : fl 7 47 = some (7, 5, false) := by decide +kernel
theorem fl7_56 : fl 7 56 = some (7, 6, false) := by decide +kernel
theorem fl7_63 : fl 7 63 = some (7, 7, false) := by decide +kernel
theorem fl7_67 : fl 7 67 = some (5, 1, false) := by decide +kernel
theorem fl7_83 : fl 7 83 = some (2, 9, false) := by decide +kernel
theorem fl7_86 : fl 7 86 = some (7, 8, false) := by decide +kernel
theorem fl7_94 : fl 7 94 = some (4, 6, false) := by decide +kernel
theorem fl7_99 : fl 7 99 = some (6, 6, false) := by decide +kernel
theorem fl7_103 : fl 7 103 = some (1, 5, false) := by decide +kernel
theorem fl7_104 : fl 7 104 = some (4, 1, false) := by decide +kernel
theorem fl7_107 : fl 7 107 = some (7, 9, false) := by decide +kernel
theorem fl7_110 : fl 7 110 = some (2, 10, false) := by decide +kernel
theorem fl7_117 : fl 7 117 = some (4, 2, false) := by decide +kernel
theorem fl7_121 : fl 7 121 = some (3, 0, false) := by decide +kernel
theorem fl7_128 : fl 7 128 = some (4, 4, false) := by decide +kernel
theorem fl7_131 : fl 7 131 = some (4, 5, false) := by decide +kernel
theorem fl7_134 : fl 7 134 = some (3, 1, false) := by decide +kernel
theorem fl7_166 : fl 7 166 = some (3, 2, false) := by decide +kernel
theorem fl7_182 : fl 7 182 = some (6, 7, false) := by decide +kernel
theorem fl7_188 : fl 7 188 = some (6, 8, false) := by decide +kernel
theorem fl7_197 : fl 7 197 = some (6, 9, false) := by decide +kernel
theorem fl7_205 : fl 7 205 = some (4, 7, false) := by decide +kernel
theorem fl7_213 : fl 7 213 = some (1, 6, false) := by decide +kernel
theorem fl7_214 : fl 7 214 = some (4, 13, false) := by decide +kernel
theorem fl7_217 : fl 7 217 = some (1, 4, false) := by decide +kernel
theorem fl7_225 : fl 7 225 = some (1, 7, false) := by decide +kernel
theorem fl7_228 : fl 7 228 = some (1, 8, false) := by decide +kernel
theorem fl7_231 : fl 7 231 = some (4, 15, false) := by decide +kernel
theorem fl7_234 : fl 7 234 = some (4, 16, false) := by decide +kernel
theorem fl7_237 : fl 7 237 = some (4, 17, false) := by decide +kernel
theorem fl7_257 : fl 7 257 = some (0, 6, false) := by decide +kernel
theorem fl7_289 : fl 7 289 = some (4, 0, false) := by decide +kernel
theorem fl7_295 : fl 7 295 = some (4, 11, false) := by decide +kernel
theorem fl7_298 : fl 7 298 = some (3, 5, false) := by decide +kernel
theorem fl7_301 : fl 7 301 = some (3, 7, false) := by decide +kernel
theorem fl8_9 : fl 8 9 = some (8, 0, false) := by decide +kernel
theorem fl8_15 : fl 8 15 = some (8, 8, false) := by decide +kernel
theorem fl8_19 : fl 8 19 = some (8, 9, false) := by decide +kernel
theorem fl8_22 : fl 8 22 = some (8, 10, false) := by decide +kernel
theorem fl8_25 : fl 8 25 = some (8, 11, false) := by decide +kernel
theorem fl8_28 : fl 8 28 = some (8, 12, false) := by decide +kernel
theorem fl8_31 : fl 8 31 = some (8, 13, false) := by decide +kernel
theorem fl8_34 : fl 8 34 = some (8, 14, false) := by decide +kernel
theorem fl8_37 : fl 8 37 = some (8, 15, false) := by decide +kernel
theorem fl8_40 : fl 8 40 = some (8, 16, false) := by decide +kernel
theorem fl8_43 : fl 8 43 = some (8, 17, false) := by decide +kernel
theorem fl8_46 : fl 8 46 = some (8, 18, false) := by decide +kernel
theorem fl8_49 : fl 8 49 = some (8, 19, false) := by decide +kernel
theorem fl8_53 : fl 8 53 = some (8, 1, false) := by decide +kernel
theorem fl8_56 : fl 8 56 = some (8, 2, false) := by decide +kernel
theorem fl8_59 : fl 8 59 = some (8, 6, false) := by decide +kernel
theorem fl9_9 : fl 9 9 = some (9, 2, false) := by decide +kernel
theorem fl9_13 : fl 9 13 = some (9, 5, false) := by decide +kernel
theorem fl9_17 : fl 9 17 = some (9, 15, false) := by decide +kernel
theorem fl9_21 : fl 9 21 = some (9, 16, false) := by decide +kernel
theorem fl9_24 : fl 9 24 = some (9, 17, false) := by decide +kernel
theorem fl9_27 : fl 9 27 = some (9, 18, false) := by decide +kernel
theorem fl9_30 : fl 9 30 = some (9, 21, false) := by decide +kernel
theorem fl9_33 : fl 9 33 = some (9, 22, false) := by decide +kernel
theorem fl9_36 : fl 9 36 = some (9, 23, false) := by decide +kernel
theorem fl9_39 : fl 9 39 = some (9, 24, false) := by decide +kernel
theorem fl9_42 : fl 9 42 = some (9, 25, false) := by decide +kernel
theorem fl9_45 : fl 9 45 = some (9, 29, false) := by decide +kernel
theorem fl9_49 : fl 9 49 = some (9, 33, false) := by decide +kernel
theorem fl9_52 : fl 9 52 = some (9, 0, false) := by decide +kernel
theorem fl9_55 : fl 9 55 = some (9, 1, false) := by decide +kernel
theorem fl9_69 : fl 9 69 = some (9, 7, false) := by decide +kernel
theorem fl9_84 : fl 9 84 = some (9, 9, false) := by decide +kernel
theorem fl9_87 : fl 9 87 = some (9, 8, false) := by decide +kernel
theorem fl9_93 : fl 9 93 = some (9, 10, false) := by decide +kernel
theorem fl9_100 : fl 9 100 = some (9, 14, false) := by decide +kernel
theorem fl9_107 : fl 9 107 = some (9, 11, false) := by decide +kernel
theorem fl9_110 : fl 9 110 = some (9, 12, false) := by decide +kernel
theorem fl9_113 : fl 9 113 = some (9, 13, false) := by decide +kernel
theorem fl9_161 : fl 9 161 = some (9, 4, false) := by decide +kernel
theorem fl9_165 : fl 9 165 = some (8, 0, true) := by decide +kernel
theorem fl9_187 : fl 9 187 = some (8, 1, true) := by decide +kernel
theorem fl9_237 : fl 9 237 = some (8, 19, true) := by decide +kernel
theorem fl9_240 : fl 9 240 = some (8, 8, true) := by decide +kernel
theorem fl9_243 : fl 9 243 = some (8, 9, true) := by decide +kernel
theorem fl9_246 : fl 9 246 = some (8, 10, true) := by decide +kernel
theorem fl9_248 : fl 9 248 = some (8, 2, true) := by decide +kernel
theorem fl9_260 : fl 9 260 = some (8, 12, true) := by decide +kernel
theorem fl9_263 : fl 9 263 = some (8, 13, true) := by decide +kernel
theorem fl9_266 : fl 9 266 = some (8, 14, true) := by decide +kernel
theorem fl9_268 : fl 9 268 = some (8, 11, true) := by decide +kernel
theorem fl9_276 : fl 9 276 = some (8, 3, true) := by decide +kernel
theorem fl9_279 : fl 9 279 = some (8, 20, true) := by decide +kernel
theorem fl9_284 : fl 9 284 = some (8, 4, true) := by decide +kernel
theorem fl9_287 : fl 9 287 = some (8, 5, true) := by decide +kernel
theorem fl9_290 : fl 9 290 = some (8, 15, true) := by decide +kernel
theorem fl9_292 : fl 9 292 = some (8, 6, true) := by decide +kernel
theorem fl9_298 : fl 9 298 = some (8, 16, true) := by decide +kernel
theorem fl9_300 : fl 9 300 = some (8, 7, true) := by decide +kernel
theorem fl9_303 : fl 9 303 = some (8, 17, true) := by decide +kernel
theorem fl9_306 : fl 9 306 = some (8, 18, true) := by decide +kernel
theorem fl9_309 : fl 9 309 = some (9, 6, false) := by decide +kernel
theorem fl9_316 : fl 9 316 = some (9, 3, false) := by decide +kernel
theorem fl9_321 : fl 9 321 = some (9, 19, false) := by decide +kernel
theorem fl9_324 : fl 9 324 = some (9, 20, false) := by decide +kernel
theorem fl9_394 : fl 9 394 = some (9, 26, false) := by decide +kernel
theorem fl9_397 : fl 9 397 = some (9, 27, false) := by decide +kernel
theorem fl9_412 : fl 9 412 = some (9, 28, false) := by decide +kernel
theorem fl9_428 : fl 9 428 = some (9, 30, false) := by decide +kernel
theorem fl9_431 : fl 9 431 = some (9, 31, false) := by decide +kernel
theorem fl9_434 : fl 9 434 = some (9, 32, false) := by decide +kernel
theorem fl9_446 : fl 9 446 = some (9, 34, false) := by decide +kernel
theorem ml2n_7_1 : mlF ml2T 7 1 = none := rfl
theorem ml3n_7_1 : mlF ml3T 7 1 = none := rfl
theorem ml10_7_1 : mlF ml10T 7 1 = some mX7_init := rfl
theorem ml2n_7_9 : mlF ml2T 7 9 = none := rfl
theorem ml3_7_9 : mlF ml3T 7 9 = some mX4_init := rfl
theorem ml2n_7_21 : mlF ml2T 7 21 = none := rfl
theorem ml3_7_21 : mlF ml3T 7 21 = some mX5_init := rfl
theorem ml2_7_28 : mlF ml2T 7 28 = some mX2_init := rfl
theorem ml2n_7_37 : mlF ml2T 7 37 = none := rfl
theorem ml3_7_37 : mlF ml3T 7 37 = some mX3_init := rfl
theorem ml2_7_44 : mlF ml2T 7 44 = some mX0_init := rfl
theorem ml2_7_53 : mlF ml2T 7 53 = some mX6_init := rfl
theorem ml2_7_62 : mlF ml2T 7 62 = some mX1_init := rfl
theorem ml0_7_71 : mlF ml0T 7 71 = some mX5_add := rfl
theorem ml0_7_75 : mlF ml0T 7 75 = some mX7_outside := rfl
theorem ml0_7_79 : mlF ml0T 7 79 = some mX2_read := rfl
theorem ml0_7_87 : mlF ml0T 7 87 = some mX7_refuse := rfl
theorem ml0_7_91 : mlF ml0T 7 91 = some mX0_begin := rfl
theorem ml0_7_97 : mlF ml0T 7 97 = some mX3_begin := rfl
theorem ml0_7_113 : mlF ml0T 7 113 = some mX7_noHouse := rfl
theorem ml0_7_124 : mlF ml0T 7 124 = some mX4_causeOf := rfl
theorem ml0_7_135 : mlF ml0T 7 135 = some mX4_cutBy := rfl
theorem ml0_7_138 : mlF ml0T 7 138 = some mX4_lagOf := rfl
theorem ml0_7_142 : mlF ml0T 7 142 = some mX0_dayOf := rfl
theorem ml1_7_145 : mlF ml1T 7 145 = some mX7_shown := rfl
theorem ml0_7_148 : mlF ml0T 7 148 = some mX0_lighter := rfl
theorem ml0_7_151 : mlF ml0T 7 151 = some mX7_noStreet := rfl
theorem ml0_7_155 : mlF ml0T 7 155 = some mX0_burntBy := rfl
theorem ml1n_7_158 : mlF ml1T 7 158 = none := rfl
theorem ml11_7_158 : mlF ml11T 7 158 = some mX7_init := rfl
theorem ml0_7_163 : mlF ml0T 7 163 = some mX0_soonest := rfl
theorem ml0_7_169 : mlF ml0T 7 169 = some mX0_agreeing := rfl
theorem ml0_7_172 : mlF ml0T 7 172 = some mX7_burnsAlready := rfl
theorem ml0_7_175 : mlF ml0T 7 175 = some mX7_burnEver := rfl
theorem ml0_7_178 : mlF ml0T 7 178 = some mX6_make := rfl
theorem ml0_7_185 : mlF ml0T 7 185 = some mX7_noWay := rfl
theorem ml0_7_191 : mlF ml0T 7 191 = some mX6_ringOf := rfl
theorem ml0_7_194 : mlF ml0T 7 194 = some mX6_burntOf := rfl
theorem ml1_7_200 : mlF ml1T 7 200 = some mJ6_bitCount_0f7a4 := rfl
theorem ml0_7_208 : mlF ml0T 7 208 = some mX0_burnWithout := rfl
theorem ml0_7_211 : mlF ml0T 7 211 = some mX1_make := rfl
theorem ml0_7_220 : mlF ml0T 7 220 = some mX1_guessed := rfl
theorem ml0_7_223 : mlF ml0T 7 223 = some mX1_soonest := rfl
theorem ml0_7_239 : mlF ml0T 7 239 = some mX7_has := rfl
theorem ml0_7_243 : mlF ml0T 7 243 = some mX7_stays := rfl
theorem ml0_7_249 : mlF ml0T 7 249 = some mX7_overAll := rfl
theorem ml0_7_253 : mlF ml0T 7 253 = some mX7_noYears := rfl
theorem ml0_7_260 : mlF ml0T 7 260 = some mX0_draw := rfl
theorem ml0_7_263 : mlF ml0T 7 263 = some mX0_burntIf := rfl
theorem ml0_7_266 : mlF ml0T 7 266 = some mX3_keep := rfl
theorem ml0_7_269 : mlF ml0T 7 269 = some mX7_turnWire := rfl
theorem ml0_7_272 : mlF ml0T 7 272 = some mX3_takeBack := rfl
theorem ml0_7_275 : mlF ml0T 7 275 = some mX3_keepImage := rfl
theorem ml0_7_279 : mlF ml0T 7 279 = some mX3_goBack := rfl
theorem ml0_7_292 : mlF ml0T 7 292 = some mX4_doers := rfl
theorem ml0_7_304 : mlF ml0T 7 304 = some mX7_refusedIf := rfl
theorem ml0_7_309 : mlF ml0T 7 309 = some mX0_weight := rfl
theorem ml1_7_313 : mlF ml1T 7 313 = some mX7_counted := rfl
theorem ml0_7_316 : mlF ml0T 7 316 = some mX0_wholeWeight := rfl
theorem ml1_7_320 : mlF ml1T 7 320 = some mX7_lowest := rfl
theorem ml2n_0_3 : mlF ml2T 0 3 = none := rfl
theorem ml3n_0_3 : mlF ml3T 0 3 = none := rfl
theorem ml10_0_3 : mlF ml10T 0 3 = some mX7_init := rfl
theorem ml0_0_37 : mlF ml0T 0 37 = some mX0_causes := rfl
theorem ml0_0_41 : mlF ml0T 0 41 = some mX4_cutBy := rfl
theorem ml0_0_45 : mlF ml0T 0 45 = some mX0_spread := rfl
theorem ml1n_0_48 : mlF ml1T 0 48 = none := rfl
theorem ml11n_0_48 : mlF ml11T 0 48 = none := rfl
theorem ml12n_0_48 : mlF ml12T 0 48 = none := rfl
theorem ml14_0_48 : mlF ml14T 0 48 = some mX7_init := rfl
theorem ml0_0_54 : mlF ml0T 0 54 = some mX4_causeOf := rfl
theorem ml0_0_76 : mlF ml0T 0 76 = some mX0_bitsBy := rfl
theorem ml0_0_80 : mlF ml0T 0 80 = some mX0_soonestIn := rfl
theorem ml0_0_84 : mlF ml0T 0 84 = some mX0_dayOf := rfl
theorem ml0_0_87 : mlF ml0T 0 87 = some mX0_soonest := rfl
theorem ml0_0_91 : mlF ml0T 0 91 = some mX4_lagOf := rfl
theorem ml0_0_94 : mlF ml0T 0 94 = some mX0_makeCome := rfl
theorem ml2n_1_3 : mlF ml2T 1 3 = none := rfl
theorem ml3n_1_3 : mlF ml3T 1 3 = none := rfl
theorem ml10_1_3 : mlF ml10T 1 3 = some mX7_init := rfl
theorem ml0_1_47 : mlF ml0T 1 47 = some mX1_guessed := rfl
theorem ml0_1_51 : mlF ml0T 1 51 = some mX0_guess := rfl
theorem ml0_1_54 : mlF ml0T 1 54 = some mX1_isAsRung := rfl
theorem ml1n_1_61 : mlF ml1T 1 61 = none := rfl
theorem ml11n_1_61 : mlF ml11T 1 61 = none := rfl
theorem ml12n_1_61 : mlF ml12T 1 61 = none := rfl
theorem ml14_1_61 : mlF ml14T 1 61 = some mX7_init := rfl
theorem ml0_1_67 : mlF ml0T 1 67 = some mX1_makeTry := rfl
theorem ml0_1_79 : mlF ml0T 1 79 = some mX0_soonestIn := rfl
theorem ml0_1_92 : mlF ml0T 1 92 = some mX1_mostLeft := rfl
theorem ml0_1_96 : mlF ml0T 1 96 = some mX1_soonest := rfl
theorem ml1n_1_99 : mlF ml1T 1 99 = none := rfl
theorem ml11_1_99 : mlF ml11T 1 99 = some mX7_init := rfl
theorem ml2n_2_3 : mlF ml2T 2 3 = none := rfl
theorem ml3n_2_3 : mlF ml3T 2 3 = none := rfl
theorem ml10_2_3 : mlF ml10T 2 3 = some mX7_init := rfl
theorem ml0_2_23 : mlF ml0T 2 23 = some mX4_clear := rfl
theorem ml0_2_45 : mlF ml0T 2 45 = some mX2_step := rfl
theorem ml0_2_48 : mlF ml0T 2 48 = some mX2_line := rfl
theorem ml0_2_58 : mlF ml0T 2 58 = some mX2_fail := rfl
theorem ml0_2_65 : mlF ml0T 2 65 = some mX5_at := rfl
theorem ml1_2_71 : mlF ml1T 2 71 = some mX2_isLetter := rfl
theorem ml1_2_74 : mlF ml1T 2 74 = some mX2_isDigit := rfl
theorem ml0_2_77 : mlF ml0T 2 77 = some mJ0_length_8abf5 := rfl
theorem ml0_2_83 : mlF ml0T 2 83 = some mJ0_charAt_5068e := rfl
theorem ml0_2_89 : mlF ml0T 2 89 = some mX2_isWord := rfl
theorem ml0_2_116 : mlF ml0T 2 116 = some mX2_reserved := rfl
theorem ml0_2_119 : mlF ml0T 2 119 = some mX2_nameHere := rfl
theorem ml0_2_123 : mlF ml0T 2 123 = some mX2_named := rfl
theorem ml0_2_127 : mlF ml0T 2 127 = some mX2_isFull := rfl
theorem ml0_2_130 : mlF ml0T 2 130 = some mX2_streetLine := rfl
theorem ml0_2_133 : mlF ml0T 2 133 = some mX2_houseLine := rfl
theorem ml0_2_136 : mlF ml0T 2 136 = some mX2_sparkLine := rfl
theorem ml0_2_139 : mlF ml0T 2 139 = some mX2_doesLine := rfl
theorem ml0_2_142 : mlF ml0T 2 142 = some mX2_pulledLine := rfl
theorem ml0_2_145 : mlF ml0T 2 145 = some mX2_glassLine := rfl
theorem ml0_2_148 : mlF ml0T 2 148 = some mX2_unknownLine := rfl
theorem ml0_2_151 : mlF ml0T 2 151 = some mX2_rungLine := rfl
theorem ml0_2_168 : mlF ml0T 2 168 = some mX2_takeWord := rfl
theorem ml0_2_171 : mlF ml0T 2 171 = some mX2_takeWhole := rfl
theorem ml0_2_177 : mlF ml0T 2 177 = some mX2_kindHere := rfl
theorem ml0_2_186 : mlF ml0T 2 186 = some mX2_addHouse := rfl
theorem ml0_2_210 : mlF ml0T 2 210 = some mX2_houseHere := rfl
theorem ml0_2_213 : mlF ml0T 2 213 = some mX4_sparkOf := rfl
theorem ml1_2_228 : mlF ml1T 2 228 = some mX2_lagTo := rfl
theorem ml1n_2_231 : mlF ml1T 2 231 = none := rfl
theorem ml11_2_231 : mlF ml11T 2 231 = some mX7_init := rfl
theorem ml2n_3_3 : mlF ml2T 3 3 = none := rfl
theorem ml3n_3_3 : mlF ml3T 3 3 = none := rfl
theorem ml10_3_3 : mlF ml10T 3 3 = some mX7_init := rfl
theorem ml0_3_37 : mlF ml0T 3 37 = some mX3_packed := rfl
theorem ml1n_3_41 : mlF ml1T 3 41 = none := rfl
theorem ml11n_3_41 : mlF ml11T 3 41 = none := rfl
theorem ml12_3_41 : mlF ml12T 3 41 = some mX7_init := rfl
theorem ml0_3_47 : mlF ml0T 3 47 = some mX3_unpack := rfl
theorem ml2n_4_3 : mlF ml2T 4 3 = none := rfl
theorem ml3n_4_3 : mlF ml3T 4 3 = none := rfl
theorem ml10_4_3 : mlF ml10T 4 3 = some mX7_init := rfl
theorem ml1n_4_67 : mlF ml1T 4 67 = none := rfl
theorem ml11_4_67 : mlF ml11T 4 67 = some mX7_init := rfl
theorem ml0_4_73 : mlF ml0T 4 73 = some mX4_sparkOf := rfl
theorem ml2n_5_3 : mlF ml2T 5 3 = none := rfl
theorem ml3n_5_3 : mlF ml3T 5 3 = none := rfl
theorem ml10_5_3 : mlF ml10T 5 3 = some mX7_init := rfl
theorem ml2n_6_3 : mlF ml2T 6 3 = none := rfl
theorem ml3n_6_3 : mlF ml3T 6 3 = none := rfl
theorem ml10_6_3 : mlF ml10T 6 3 = some mX7_init := rfl
theorem ml0_6_64 : mlF ml0T 6 64 = some mX6_go := rfl
theorem ml0_6_68 : mlF ml0T 6 68 = some mX0_agreeing := rfl
theorem ml0_6_75 : mlF ml0T 6 75 = some mX0_burntBy := rfl
theorem ml1_6_79 : mlF ml1T 6 79 = some mJ6_bitCount_0f7a4 := rfl
theorem ml0_20_7 : mlF ml0T 20 7 = some mX7_led := rfl
theorem ml2_20_15 : mlF ml2T 20 15 = some mX7_init := rfl
theorem ml2_20_18 : mlF ml2T 20 18 = some mX9_init := rfl
theorem ml0_20_19 : mlF ml0T 20 19 = some mX7_feed := rfl
theorem ml0_20_23 : mlF ml0T 20 23 = some mX9_feed := rfl
theorem ml0_20_24 : mlF ml0T 20 24 = some mX7_street := rfl
theorem ml0_20_27 : mlF ml0T 20 27 = some mX9_street := rfl
theorem ml0_20_28 : mlF ml0T 20 28 = some mX7_fault := rfl
theorem ml0_20_32 : mlF ml0T 20 32 = some mX9_fault := rfl
theorem ml0_20_33 : mlF ml0T 20 33 = some mX7_where := rfl
theorem ml0_20_36 : mlF ml0T 20 36 = some mX9_where := rfl
theorem ml0_20_37 : mlF ml0T 20 37 = some mX7_house := rfl
theorem ml0_20_41 : mlF ml0T 20 41 = some mX9_house := rfl
theorem ml0_20_42 : mlF ml0T 20 42 = some mX7_spark := rfl
theorem ml0_20_45 : mlF ml0T 20 45 = some mX9_spark := rfl
theorem ml0_20_46 : mlF ml0T 20 46 = some mX7_burns := rfl
theorem ml0_20_49 : mlF ml0T 20 49 = some mX9_burns := rfl
theorem ml0_20_50 : mlF ml0T 20 50 = some mX7_litBy := rfl
theorem ml0_20_53 : mlF ml0T 20 53 = some mX9_litBy := rfl
theorem ml0_20_54 : mlF ml0T 20 54 = some mX7_burnt := rfl
theorem ml0_20_57 : mlF ml0T 20 57 = some mX9_burnt := rfl
theorem ml0_20_58 : mlF ml0T 20 58 = some mX7_lastDay := rfl
theorem ml0_20_61 : mlF ml0T 20 61 = some mX9_lastDay := rfl
theorem ml0_20_62 : mlF ml0T 20 62 = some mX7_next := rfl
theorem ml0_20_65 : mlF ml0T 20 65 = some mX9_next := rfl
theorem ml0_20_66 : mlF ml0T 20 66 = some mX7_agrees := rfl
theorem ml0_20_69 : mlF ml0T 20 69 = some mX9_agrees := rfl
theorem ml0_20_70 : mlF ml0T 20 70 = some mX7_burnsIf := rfl
theorem ml0_20_73 : mlF ml0T 20 73 = some mX9_burnsIf := rfl
theorem ml0_20_74 : mlF ml0T 20 74 = some mX7_saves := rfl
theorem ml0_20_77 : mlF ml0T 20 77 = some mX9_saves := rfl
theorem ml0_20_78 : mlF ml0T 20 78 = some mX7_bestTold := rfl
theorem ml0_20_81 : mlF ml0T 20 81 = some mX9_bestTold := rfl
theorem ml0_20_82 : mlF ml0T 20 82 = some mX7_dumbDay := rfl
theorem ml0_20_85 : mlF ml0T 20 85 = some mX9_dumbDay := rfl
theorem ml0_20_86 : mlF ml0T 20 86 = some mX7_ways := rfl
theorem ml0_20_89 : mlF ml0T 20 89 = some mX9_ways := rfl
theorem ml0_20_90 : mlF ml0T 20 90 = some mX7_wayAt := rfl
theorem ml0_20_93 : mlF ml0T 20 93 = some mX9_wayAt := rfl
theorem ml0_20_94 : mlF ml0T 20 94 = some mX7_bestWay := rfl
theorem ml0_20_97 : mlF ml0T 20 97 = some mX9_bestWay := rfl
theorem ml0_20_98 : mlF ml0T 20 98 = some mX7_wayBurnt := rfl
theorem ml0_20_101 : mlF ml0T 20 101 = some mX9_wayBurnt := rfl
theorem ml0_20_102 : mlF ml0T 20 102 = some mX7_couldRing := rfl
theorem ml0_20_105 : mlF ml0T 20 105 = some mX9_couldRing := rfl
theorem ml0_20_106 : mlF ml0T 20 106 = some mX7_safe := rfl
theorem ml0_20_109 : mlF ml0T 20 109 = some mX9_safe := rfl
theorem ml0_20_110 : mlF ml0T 20 110 = some mX7_bestCut := rfl
theorem ml0_20_113 : mlF ml0T 20 113 = some mX9_bestCut := rfl
theorem ml0_20_114 : mlF ml0T 20 114 = some mX7_fits := rfl
theorem ml0_20_117 : mlF ml0T 20 117 = some mX9_fits := rfl
theorem ml0_20_118 : mlF ml0T 20 118 = some mX7_fitAt := rfl
theorem ml0_20_121 : mlF ml0T 20 121 = some mX9_fitAt := rfl
theorem ml0_20_122 : mlF ml0T 20 122 = some mX7_nextBy := rfl
theorem ml0_20_125 : mlF ml0T 20 125 = some mX9_nextBy := rfl
theorem ml0_20_126 : mlF ml0T 20 126 = some mX7_tryDay := rfl
theorem ml0_20_129 : mlF ml0T 20 129 = some mX9_tryDay := rfl
theorem ml0_20_130 : mlF ml0T 20 130 = some mX7_tryLeaves := rfl
theorem ml0_20_133 : mlF ml0T 20 133 = some mX9_tryLeaves := rfl
theorem ml0_20_134 : mlF ml0T 20 134 = some mX7_judge := rfl
theorem ml0_20_137 : mlF ml0T 20 137 = some mX9_judge := rfl
theorem ml0_20_138 : mlF ml0T 20 138 = some mX7_rings := rfl
theorem ml0_20_142 : mlF ml0T 20 142 = some mX9_rings := rfl
theorem ml0_20_143 : mlF ml0T 20 143 = some mX7_rests := rfl
theorem ml0_20_146 : mlF ml0T 20 146 = some mX9_rests := rfl
theorem ml0_20_147 : mlF ml0T 20 147 = some mX7_rest := rfl
theorem ml0_20_150 : mlF ml0T 20 150 = some mX9_rest := rfl
theorem ml0_20_151 : mlF ml0T 20 151 = some mX7_odds := rfl
theorem ml0_20_155 : mlF ml0T 20 155 = some mX9_odds := rfl
theorem ml0_20_156 : mlF ml0T 20 156 = some mX7_quiet := rfl
theorem ml0_20_160 : mlF ml0T 20 160 = some mX9_quiet := rfl
theorem ml0_20_161 : mlF ml0T 20 161 = some mX7_mean := rfl
theorem ml0_20_164 : mlF ml0T 20 164 = some mX9_mean := rfl
theorem ml0_20_165 : mlF ml0T 20 165 = some mX7_years := rfl
theorem ml0_20_169 : mlF ml0T 20 169 = some mX9_years := rfl
theorem ml0_20_170 : mlF ml0T 20 170 = some mX7_worstYear := rfl
theorem ml0_20_173 : mlF ml0T 20 173 = some mX9_worstYear := rfl
theorem ml0_20_174 : mlF ml0T 20 174 = some mX7_tell := rfl
theorem ml0_20_177 : mlF ml0T 20 177 = some mX9_tell := rfl
theorem ml0_20_178 : mlF ml0T 20 178 = some mX7_pull := rfl
theorem ml0_20_182 : mlF ml0T 20 182 = some mX9_pull := rfl
theorem ml0_20_183 : mlF ml0T 20 183 = some mX7_mend := rfl
theorem ml0_20_186 : mlF ml0T 20 186 = some mX9_mend := rfl
theorem ml0_20_187 : mlF ml0T 20 187 = some mX7_day := rfl
theorem ml0_20_190 : mlF ml0T 20 190 = some mX9_day := rfl
theorem ml0_20_191 : mlF ml0T 20 191 = some mX7_undo := rfl
theorem ml0_20_195 : mlF ml0T 20 195 = some mX9_undo := rfl
theorem ml0_20_196 : mlF ml0T 20 196 = some mX7_image := rfl
theorem ml0_20_199 : mlF ml0T 20 199 = some mX9_image := rfl
theorem ml0_20_200 : mlF ml0T 20 200 = some mX7_back := rfl
theorem ml0_20_203 : mlF ml0T 20 203 = some mX9_back := rfl
theorem ml1n_20_204 : mlF ml1T 20 204 = none := rfl
theorem ml11n_20_204 : mlF ml11T 20 204 = none := rfl
theorem ml12n_20_204 : mlF ml12T 20 204 = none := rfl
theorem ml14n_20_204 : mlF ml14T 20 204 = none := rfl
theorem ml17_20_204 : mlF ml17T 20 204 = some mX7_init := rfl
theorem ml0_20_209 : mlF ml0T 20 209 = some mX9_led := rfl
theorem ml0_20_210 : mlF ml0T 20 210 = some mX9_thrown := rfl
theorem ml0_20_213 : mlF ml0T 20 213 = some mX7_size := rfl
theorem ml0_20_216 : mlF ml0T 20 216 = some mX9_size := rfl
theorem ml0_20_217 : mlF ml0T 20 217 = some mX7_trouble := rfl
theorem ml0_20_220 : mlF ml0T 20 220 = some mX9_trouble := rfl
theorem ml2n_9_3 : mlF ml2T 9 3 = none := rfl
theorem ml3n_9_3 : mlF ml3T 9 3 = none := rfl
theorem ml10_9_3 : mlF ml10T 9 3 = some mX7_init := rfl
theorem ml0_9_58 : mlF ml0T 9 58 = some mX9_refused := rfl
theorem ml0_9_62 : mlF ml0T 9 62 = some mX9_good := rfl
theorem ml1_9_65 : mlF ml1T 9 65 = some mX9_common := rfl
theorem ml0_9_72 : mlF ml0T 9 72 = some mJ0_length_8abf5 := rfl
theorem ml0_9_80 : mlF ml0T 9 80 = some mJ0_charAt_5068e := rfl
theorem ml0_9_90 : mlF ml0T 9 90 = some mX9_byteAt := rfl
theorem ml1_9_96 : mlF ml1T 9 96 = some mX9_isLetter := rfl
theorem ml1_9_104 : mlF ml1T 9 104 = some mX9_isDigit := rfl
theorem ml1_9_116 : mlF ml1T 9 116 = some mX9_packed := rfl
theorem ml0_9_120 : mlF ml0T 9 120 = some mX9_goesOn := rfl
theorem ml0_9_123 : mlF ml0T 9 123 = some mX9_isWord := rfl
theorem ml0_9_127 : mlF ml0T 9 127 = some mX9_flaw := rfl
theorem ml1_9_131 : mlF ml1T 9 131 = some mX9_in := rfl
theorem ml0_9_135 : mlF ml0T 9 135 = some mX9_needs := rfl
theorem ml0_9_139 : mlF ml0T 9 139 = some mX9_readWhole := rfl
theorem ml0_9_170 : mlF ml0T 9 170 = some mX9_isName := rfl
theorem ml0_9_174 : mlF ml0T 9 174 = some mX8_find := rfl
theorem ml0_9_178 : mlF ml0T 9 178 = some mX9_houseAtHand := rfl
theorem ml0_9_181 : mlF ml0T 9 181 = some mX9_readLine := rfl
theorem ml0_9_184 : mlF ml0T 9 184 = some mX9_eatsSemicolon := rfl
theorem ml0_9_190 : mlF ml0T 9 190 = some mX9_readStreet := rfl
theorem ml0_9_193 : mlF ml0T 9 193 = some mX9_readHouse := rfl
theorem ml0_9_196 : mlF ml0T 9 196 = some mX9_readSpark := rfl
theorem ml0_9_199 : mlF ml0T 9 199 = some mX9_readDoes := rfl
theorem ml0_9_202 : mlF ml0T 9 202 = some mX9_readPulled := rfl
theorem ml0_9_205 : mlF ml0T 9 205 = some mX9_readGlass := rfl
theorem ml0_9_208 : mlF ml0T 9 208 = some mX9_readUnknown := rfl
theorem ml0_9_211 : mlF ml0T 9 211 = some mX9_readRung := rfl
theorem ml0_9_215 : mlF ml0T 9 215 = some mX9_readPart := rfl
theorem ml0_9_219 : mlF ml0T 9 219 = some mX9_lineBegins := rfl
theorem ml0_9_251 : mlF ml0T 9 251 = some mX9_readHouseName := rfl
theorem ml0_9_254 : mlF ml0T 9 254 = some mX8_isSpark := rfl
theorem ml1_9_281 : mlF ml1T 9 281 = some mX9_bit := rfl
theorem ml0_9_295 : mlF ml0T 9 295 = some mX8_isUnknown := rfl
theorem ml2n_9_312 : mlF ml2T 9 312 = none := rfl
theorem ml3_9_312 : mlF ml3T 9 312 = some mX8_init := rfl
theorem ml0_9_313 : mlF ml0T 9 313 = some mX9_readAll := rfl
theorem ml0_9_318 : mlF ml0T 9 318 = some mX9_asTold := rfl
theorem ml0_9_327 : mlF ml0T 9 327 = some mX8_takes := rfl
theorem ml0_9_330 : mlF ml0T 9 330 = some mX9_flies := rfl
theorem ml0_9_333 : mlF ml0T 9 333 = some mX9_burntBy := rfl
theorem ml1_9_336 : mlF ml1T 9 336 = some mX9_bits := rfl
theorem ml0_9_339 : mlF ml0T 9 339 = some mX9_burnsAll := rfl
theorem ml0_9_342 : mlF ml0T 9 342 = some mX9_works := rfl
theorem ml0_9_345 : mlF ml0T 9 345 = some mX9_isHouse := rfl
theorem ml0_9_348 : mlF ml0T 9 348 = some mX9_finds := rfl
theorem ml1_9_351 : mlF ml1T 9 351 = some mX9_orNobody := rfl
theorem ml0_9_354 : mlF ml0T 9 354 = some mX9_refusesDay := rfl
theorem ml0_9_358 : mlF ml0T 9 358 = some mX9_nextOn := rfl
theorem ml0_9_361 : mlF ml0T 9 361 = some mX9_holds := rfl
theorem ml0_9_364 : mlF ml0T 9 364 = some mX9_tells := rfl
theorem ml0_9_367 : mlF ml0T 9 367 = some mX9_letsGo := rfl
theorem ml0_9_370 : mlF ml0T 9 370 = some mX9_agreeing := rfl
theorem ml0_9_373 : mlF ml0T 9 373 = some mX9_refusesTold := rfl
theorem ml0_9_376 : mlF ml0T 9 376 = some mX9_everBurnt := rfl
theorem ml0_9_379 : mlF ml0T 9 379 = some mX9_glassesToCome := rfl
theorem ml0_9_382 : mlF ml0T 9 382 = some mX9_codes := rfl
theorem ml0_9_385 : mlF ml0T 9 385 = some mX9_isWay := rfl
theorem ml0_9_388 : mlF ml0T 9 388 = some mX9_isWorked := rfl
theorem ml0_9_391 : mlF ml0T 9 391 = some mX9_tellsAll := rfl
theorem ml0_9_400 : mlF ml0T 9 400 = some mX9_fitCodes := rfl
theorem ml0_9_403 : mlF ml0T 9 403 = some mX9_fitDay := rfl
theorem ml0_9_406 : mlF ml0T 9 406 = some mX9_wrong := rfl
theorem ml0_9_409 : mlF ml0T 9 409 = some mX9_fitting := rfl
theorem ml0_9_415 : mlF ml0T 9 415 = some mX9_tries := rfl
theorem ml0_9_418 : mlF ml0T 9 418 = some mX9_lost := rfl
theorem ml0_9_421 : mlF ml0T 9 421 = some mX9_gets := rfl
theorem ml0_9_425 : mlF ml0T 9 425 = some mX9_isRest := rfl
theorem ml0_9_439 : mlF ml0T 9 439 = some mX9_chances := rfl
theorem ml0_9_442 : mlF ml0T 9 442 = some mX9_fraction := rfl
theorem ml0_9_456 : mlF ml0T 9 456 = some mX9_refusesYears := rfl
theorem ml0_9_459 : mlF ml0T 9 459 = some mX9_yearsAll := rfl
theorem ml0_9_462 : mlF ml0T 9 462 = some mX9_remembers := rfl
theorem ml0_9_465 : mlF ml0T 9 465 = some mX9_denied := rfl
theorem ml0_9_468 : mlF ml0T 9 468 = some mX9_granted := rfl
theorem ml0_9_471 : mlF ml0T 9 471 = some mX9_wires := rfl
theorem ml2n_8_3 : mlF ml2T 8 3 = none := rfl
theorem ml3n_8_3 : mlF ml3T 8 3 = none := rfl
theorem ml10_8_3 : mlF ml10T 8 3 = some mX7_init := rfl
theorem ml0_32_335 : mlF ml0T 32 335 = some mJ0_coder_7d493 := rfl
theorem ml0_32_492 : mlF ml0T 32 492 = some mJ0_isLatin1_aae02 := rfl
theorem ml1_32_495 : mlF ml1T 32 495 = some mJ1_charAt_3b067 := rfl
theorem ml1_32_1059 : mlF ml1T 32 1059 = some mJ3_checkIndex_8e157 := rfl
theorem ml1_33_9 : mlF ml1T 33 9 = some mJ0_checkIndex_df160 := rfl
theorem cl7_7 : clF 7 7 = some 4 := by decide +kernel
theorem cl7_19 : clF 7 19 = some 5 := by decide +kernel
theorem cl7_26 : clF 7 26 = some 2 := by decide +kernel
theorem cl7_35 : clF 7 35 = some 3 := by decide +kernel
theorem cl7_42 : clF 7 42 = some 0 := by decide +kernel
theorem cl7_51 : clF 7 51 = some 6 := by decide +kernel
theorem cl7_60 : clF 7 60 = some 1 := by decide +kernel
theorem cl20_8 : clF 20 8 = some 7 := by decide +kernel
theorem cl20_16 : clF 20 16 = some 9 := by decide +kernel
theorem cl9_166 : clF 9 166 = some 8 := by decide +kernel
theorem cj7_247 : cj 7 247 = some (-1) := by decide +kernel
theorem cs7_308 : cs 7 308 = some (.int (65536)) := by decide +kernel
theorem cj0_101 : cj 0 101 = some (100) := by decide +kernel
theorem cs0_106 : cs 0 106 = some (.int (65537)) := by decide +kernel
theorem cj2_109 : cj 2 109 = some (32) := by decide +kernel
theorem cj2_111 : cj 2 111 = some (97) := by decide +kernel
theorem cj9_78 : cj 9 78 = some (32) := by decide +kernel
theorem cj9_437 : cj 9 437 = some (100) := by decide +kernel
theorem cj9_449 : cj 9 449 = some (75) := by decide +kernel
theorem cj9_451 : cj 9 451 = some (74) := by decide +kernel
theorem cj9_453 : cj 9 453 = some (65537) := by decide +kernel
theorem cs9_455 : cs 9 455 = some (.int (65536)) := by decide +kernel
theorem cs31_265 : cs 31 265 = some (.int (1431655765)) := by decide +kernel
theorem cs31_266 : cs 31 266 = some (.int (858993459)) := by decide +kernel
theorem cs31_267 : cs 31 267 = some (.int (252645135)) := by decide +kernel
theorem cs2_87 : cs 2 87 = some (.retAddr 0) := by decide +kernel
theorem cs2_93 : cs 2 93 = some (.retAddr 1) := by decide +kernel
theorem cs2_95 : cs 2 95 = some (.retAddr 2) := by decide +kernel
theorem cs2_97 : cs 2 97 = some (.retAddr 3) := by decide +kernel
theorem cs2_99 : cs 2 99 = some (.retAddr 4) := by decide +kernel
theorem cs2_101 : cs 2 101 = some (.retAddr 5) := by decide +kernel
theorem cs2_103 : cs 2 103 = some (.retAddr 6) := by decide +kernel
theorem cs2_105 : cs 2 105 = some (.retAddr 7) := by decide +kernel
theorem cs2_107 : cs 2 107 = some (.retAddr 8) := by decide +kernel
theorem cs2_166 : cs 2 166 = some (.retAddr 9) := by decide +kernel
theorem cs2_180 : cs 2 180 = some (.retAddr 14) := by decide +kernel
theorem cs2_182 : cs 2 182 = some (.retAddr 15) := by decide +kernel
theorem cs2_184 : cs 2 184 = some (.retAddr 16) := by decide +kernel
theorem cs2_190 : cs 2 190 = some (.retAddr 10) := by decide +kernel
theorem cs2_192 : cs 2 192 = some (.retAddr 11) := by decide +kernel
theorem cs2_194 : cs 2 194 = some (.retAddr 12) := by decide +kernel
theorem cs2_196 : cs 2 196 = some (.retAddr 13) := by decide +kernel
theorem cs2_217 : cs 2 217 = some (.retAddr 17) := by decide +kernel
theorem cs2_236 : cs 2 236 = some (.retAddr 18) := by decide +kernel
theorem cs2_238 : cs 2 238 = some (.retAddr 19) := by decide +kernel
theorem cs2_240 : cs 2 240 = some (.retAddr 20) := by decide +kernel
theorem cs9_143 : cs 9 143 = some (.retAddr 0) := by decide +kernel
theorem cs9_145 : cs 9 145 = some (.retAddr 1) := by decide +kernel
theorem cs9_147 : cs 9 147 = some (.retAddr 2) := by decide +kernel
theorem cs9_149 : cs 9 149 = some (.retAddr 3) := by decide +kernel
theorem cs9_151 : cs 9 151 = some (.retAddr 4) := by decide +kernel
theorem cs9_153 : cs 9 153 = some (.retAddr 5) := by decide +kernel
theorem cs9_155 : cs 9 155 = some (.retAddr 6) := by decide +kernel
theorem cs9_157 : cs 9 157 = some (.retAddr 7) := by decide +kernel
theorem cs9_159 : cs 9 159 = some (.retAddr 8) := by decide +kernel
theorem cs9_214 : cs 9 214 = some (.retAddr 9) := by decide +kernel
theorem cs9_223 : cs 9 223 = some (.retAddr 10) := by decide +kernel
theorem cs9_225 : cs 9 225 = some (.retAddr 11) := by decide +kernel
theorem cs9_227 : cs 9 227 = some (.retAddr 12) := by decide +kernel
theorem cs9_229 : cs 9 229 = some (.retAddr 13) := by decide +kernel
theorem cs9_231 : cs 9 231 = some (.retAddr 14) := by decide +kernel
theorem cs9_233 : cs 9 233 = some (.retAddr 15) := by decide +kernel
theorem cs9_235 : cs 9 235 = some (.retAddr 16) := by decide +kernel
theorem cs9_258 : cs 9 258 = some (.retAddr 17) := by decide +kernel
theorem cs9_270 : cs 9 270 = some (.retAddr 18) := by decide +kernel
theorem cs9_272 : cs 9 272 = some (.retAddr 19) := by decide +kernel
theorem cs9_274 : cs 9 274 = some (.retAddr 20) := by decide +kernel
/-- a switch -/
def swT (f : Nat → Prop) (df : Nat) (x : Int32) : Int32 → List Nat → Prop
  | _, [] => f df
  | k, t :: ts => if x = k then f t else swT f df x (k + 1) ts
theorem swT_in (f : Nat → Prop) (df : Nat) : ∀ (ts : List Nat) (k i : Nat) (t : Nat), k + ts.length < 2 ^ 31 → ts[i]? = some t → swT f df (nI (k + i)) (nI k) ts = f t
  | [], k, i, t, _, h => by simp at h
  | a :: ts, k, 0, t, _, h => by
    simp only [List.getElem?_cons_zero, Option.some.injEq] at h
    subst h
    simp [swT]
  | a :: ts, k, i + 1, t, hk, h => by
    simp only [List.length_cons] at hk
    have hi : i < ts.length := (List.getElem?_eq_some_iff.mp (by simpa using h)).1
    have h1 : ¬ nI (k + (i + 1)) = nI k := fun q => by
      have := (nI_eq (by omega) (by omega)).mp q
      omega
    simp only [swT, if_neg h1]
    rw [nI_1, show k + (i + 1) = k + 1 + i by omega]
    exact swT_in f df ts (k + 1) i t (by omega) (by simpa using h)
theorem swT_out (f : Nat → Prop) (df : Nat) (x : Int32) : ∀ (ts : List Nat) (k : Nat), k + ts.length < 2 ^ 31 → (∀ i, i < ts.length → ¬ x = nI (k + i)) → swT f df x (nI k) ts = f df
  | [], k, _, _ => rfl
  | a :: ts, k, hk, h => by
    simp only [List.length_cons] at hk h
    have h00 : ¬ x = nI k := by simpa using h 0 (by omega)
    simp only [swT, if_neg h00]
    rw [nI_1]
    exact swT_out f df x ts (k + 1) (by omega) (fun i hi => by rw [show k + 1 + i = k + (i + 1) by omega]; exact h (i + 1) (by omega))
theorem W_tab {M : qM} {pc len df k : Nat} {dflt hi : Int} {offs : Array Int} (hd : decode (mB M) pc = .ok (.tableswitch dflt (k : Int) hi offs, len)) (ts : List Nat) (hdf : (pc : Int) + dflt = (df : Int)) (hh : (k : Int) + (ts.length : Int) = hi + 1) (hts : offs.toList.map (fun o => (pc : Int) + o) = ts.map (fun t : Nat => (t : Int))) (hb : k + ts.length < 2 ^ 31) (k0 : Int32) (hk : k0 = nI k) : ∀ ⦃d : Nat⦄ ⦃u : Nat × Nat⦄ ⦃ls : qL⦄ ⦃st : List Value⦄ ⦃h : qH⦄ ⦃Q : Option (Option Value) → qH → Prop⦄ ⦃x : Int32⦄, WP d M u pc ls (.int x :: st) h Q = swT (fun t => WP d M u t ls st h Q) df x k0 ts := by
  intro d u ls st h Q x
  subst hk
  have hl : offs.toList.length = ts.length := by have := congrArg List.length hts; simpa using this
  by_cases g : x.toInt < (k : Int) ∨ hi < x.toInt
  · rw [swT_out _ _ _ _ _ hb (fun i hi2 q => by
      rw [q, nI_toInt (by omega)] at g
      omega)]
    have h0 : 0 ≤ (pc : Int) + dflt := by omega
    have h1 : ((pc : Int) + dflt).toNat = df := by omega
    exact WP_go (by rw [stp_of hd rfl]; simp only [stI, if_pos g, gt2, if_pos h0, h1]; rfl)
  · have hx : x = nI (k + (x.toInt - k).toNat) := by
      apply Int32.toInt_inj.mp
      rw [nI_toInt (by omega)]
      omega
    have hi2 : (x.toInt - k).toNat < ts.length := by omega
    have ht : ts[(x.toInt - k).toNat]? = some ts[(x.toInt - k).toNat] := List.getElem?_eq_getElem hi2
    have ho : (offs.toList.map (fun o => (pc : Int) + o))[(x.toInt - k).toNat]? = some (ts[(x.toInt - k).toNat] : Int) := by rw [hts, List.getElem?_map, ht]; rfl
    rw [List.getElem?_map] at ho
    cases hof : offs.toList[(x.toInt - k).toNat]? with
    | none => rw [hof] at ho; cases ho
    | some off =>
      rw [hof] at ho
      have ho2 : (pc : Int) + off = (ts[(x.toInt - k).toNat] : Int) := Option.some.inj ho
      have e2 : swT (fun t => WP d M u t ls st h Q) df x (nI k) ts = WP d M u ts[(x.toInt - k).toNat] ls st h Q := by
        have e1 := swT_in (fun t => WP d M u t ls st h Q) df ts k (x.toInt - k).toNat _ hb ht
        rw [← hx] at e1
        exact e1
      rw [e2]
      have h0 : 0 ≤ (pc : Int) + off := by omega
      have h1 : ((pc : Int) + off).toNat = ts[(x.toInt - k).toNat] := by omega
      have hof2 : offs[(x.toInt - k).toNat]? = some off := by rw [← Array.getElem?_toList]; exact hof
      exact WP_go (by rw [stp_of hd rfl]; simp only [stI, if_neg g, hof2, gt2, if_pos h0, h1]; rfl)
