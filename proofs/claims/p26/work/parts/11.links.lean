theorem lk_X0_9 : LK RX0 9 0 0 := ⟨_, rfl, by decide, Or.inl (big_at 31 (by decide +kernel) (by decide +kernel))⟩
theorem lk_X6_83 : LK RX6 83 0 0 := ⟨_, rfl, by decide, Or.inr ⟨"RollScales", nst_at 32 (by decide +kernel) rfl⟩⟩
theorem lk_X0_15 : LK RX0 15 0 1 := ⟨_, rfl, by decide, Or.inl (big_at 33 (by decide +kernel) (by decide +kernel))⟩
theorem lk_X4_70 : LK RX4 70 0 1 := ⟨_, rfl, by decide, Or.inr ⟨"RollScales", nst_at 34 (by decide +kernel) rfl⟩⟩
theorem lk_X6_172 : LK RX6 172 0 1 := ⟨_, rfl, by decide, Or.inr ⟨"RollScales", nst_at 35 (by decide +kernel) rfl⟩⟩
theorem lk_X0_18 : LK RX0 18 0 2 := ⟨_, rfl, by decide, Or.inl (big_at 36 (by decide +kernel) (by decide +kernel))⟩
theorem lk_X4_77 : LK RX4 77 0 2 := ⟨_, rfl, by decide, Or.inr ⟨"RollScales", nst_at 37 (by decide +kernel) rfl⟩⟩
theorem lk_X6_86 : LK RX6 86 0 2 := ⟨_, rfl, by decide, Or.inr ⟨"RollScales", nst_at 38 (by decide +kernel) rfl⟩⟩
theorem lk_X0_22 : LK RX0 22 0 3 := ⟨_, rfl, by decide, Or.inl (big_at 39 (by decide +kernel) (by decide +kernel))⟩
theorem lk_X4_64 : LK RX4 64 0 3 := ⟨_, rfl, by decide, Or.inr ⟨"RollScales", nst_at 40 (by decide +kernel) rfl⟩⟩
theorem lk_X6_71 : LK RX6 71 0 3 := ⟨_, rfl, by decide, Or.inr ⟨"RollScales", nst_at 41 (by decide +kernel) rfl⟩⟩
theorem lk_X0_30 : LK RX0 30 0 4 := ⟨_, rfl, by decide, Or.inl (big_at 42 (by decide +kernel) (by decide +kernel))⟩
theorem lk_X5_47 : LK RX5 47 0 4 := ⟨_, rfl, by decide, Or.inr ⟨"RollScales", nst_at 43 (by decide +kernel) rfl⟩⟩
theorem lk_X6_138 : LK RX6 138 0 4 := ⟨_, rfl, by decide, Or.inr ⟨"RollScales", nst_at 44 (by decide +kernel) rfl⟩⟩
theorem lk_X0_33 : LK RX0 33 0 5 := ⟨_, rfl, by decide, Or.inl (big_at 45 (by decide +kernel) (by decide +kernel))⟩
theorem lk_X6_123 : LK RX6 123 0 5 := ⟨_, rfl, by decide, Or.inr ⟨"RollScales", nst_at 46 (by decide +kernel) rfl⟩⟩
theorem lk_X0_36 : LK RX0 36 0 6 := ⟨_, rfl, by decide, Or.inl (big_at 47 (by decide +kernel) (by decide +kernel))⟩
theorem lk_X6_117 : LK RX6 117 0 6 := ⟨_, rfl, by decide, Or.inr ⟨"RollScales", nst_at 48 (by decide +kernel) rfl⟩⟩
theorem lk_X0_39 : LK RX0 39 0 7 := ⟨_, rfl, by decide, Or.inl (big_at 49 (by decide +kernel) (by decide +kernel))⟩
theorem lk_X6_129 : LK RX6 129 0 7 := ⟨_, rfl, by decide, Or.inr ⟨"RollScales", nst_at 50 (by decide +kernel) rfl⟩⟩
theorem lks_X5_22 : Cond.fieldLinkNest RX5 22 "RollScales" "FIRST_SETTING" "[I" "RollScales" ∈ NST := nst_at 70 (by decide +kernel) rfl
theorem lk_X5_11 : LK RX5 11 5 0 := ⟨_, rfl, by decide, Or.inl (big_at 75 (by decide +kernel) (by decide +kernel))⟩
theorem lk_X5_17 : LK RX5 17 5 1 := ⟨_, rfl, by decide, Or.inl (big_at 76 (by decide +kernel) (by decide +kernel))⟩
theorem lk_X6_107 : LK RX6 107 5 1 := ⟨_, rfl, by decide, Or.inr ⟨"RollScales", nst_at 77 (by decide +kernel) rfl⟩⟩
theorem lk_X5_31 : LK RX5 31 5 2 := ⟨_, rfl, by decide, Or.inl (big_at 78 (by decide +kernel) (by decide +kernel))⟩
theorem lk_X6_52 : LK RX6 52 5 2 := ⟨_, rfl, by decide, Or.inr ⟨"RollScales", nst_at 79 (by decide +kernel) rfl⟩⟩
theorem lk_X5_54 : LK RX5 54 5 3 := ⟨_, rfl, by decide, Or.inl (big_at 80 (by decide +kernel) (by decide +kernel))⟩
theorem lk_X6_132 : LK RX6 132 5 3 := ⟨_, rfl, by decide, Or.inr ⟨"RollScales", nst_at 81 (by decide +kernel) rfl⟩⟩
theorem lk_X5_57 : LK RX5 57 5 4 := ⟨_, rfl, by decide, Or.inl (big_at 82 (by decide +kernel) (by decide +kernel))⟩
theorem lk_X6_135 : LK RX6 135 5 4 := ⟨_, rfl, by decide, Or.inr ⟨"RollScales", nst_at 83 (by decide +kernel) rfl⟩⟩
theorem lk_X2_11 : LK RX2 11 2 0 := ⟨_, rfl, by decide, Or.inl (big_at 104 (by decide +kernel) (by decide +kernel))⟩
theorem lk_X2_18 : LK RX2 18 2 1 := ⟨_, rfl, by decide, Or.inl (big_at 105 (by decide +kernel) (by decide +kernel))⟩
theorem lk_X6_154 : LK RX6 154 2 1 := ⟨_, rfl, by decide, Or.inr ⟨"RollScales", nst_at 106 (by decide +kernel) rfl⟩⟩
theorem lk_X1_9 : LK RX1 9 1 0 := ⟨_, rfl, by decide, Or.inl (big_at 118 (by decide +kernel) (by decide +kernel))⟩
theorem lk_X1_15 : LK RX1 15 1 1 := ⟨_, rfl, by decide, Or.inl (big_at 119 (by decide +kernel) (by decide +kernel))⟩
theorem lk_X1_19 : LK RX1 19 1 2 := ⟨_, rfl, by decide, Or.inl (big_at 120 (by decide +kernel) (by decide +kernel))⟩
theorem lk_X1_22 : LK RX1 22 1 3 := ⟨_, rfl, by decide, Or.inl (big_at 121 (by decide +kernel) (by decide +kernel))⟩
theorem lk_X6_151 : LK RX6 151 1 3 := ⟨_, rfl, by decide, Or.inr ⟨"RollScales", nst_at 122 (by decide +kernel) rfl⟩⟩
theorem lk_X1_29 : LK RX1 29 1 4 := ⟨_, rfl, by decide, Or.inl (big_at 123 (by decide +kernel) (by decide +kernel))⟩
theorem lk_X1_32 : LK RX1 32 1 5 := ⟨_, rfl, by decide, Or.inl (big_at 124 (by decide +kernel) (by decide +kernel))⟩
theorem lk_X6_100 : LK RX6 100 1 5 := ⟨_, rfl, by decide, Or.inr ⟨"RollScales", nst_at 125 (by decide +kernel) rfl⟩⟩
theorem lk_X1_26 : LK RX1 26 1 6 := ⟨_, rfl, by decide, Or.inl (big_at 126 (by decide +kernel) (by decide +kernel))⟩
theorem lk_X6_97 : LK RX6 97 1 6 := ⟨_, rfl, by decide, Or.inr ⟨"RollScales", nst_at 127 (by decide +kernel) rfl⟩⟩
theorem lk_X1_63 : LK RX1 63 1 7 := ⟨_, rfl, by decide, Or.inl (big_at 128 (by decide +kernel) (by decide +kernel))⟩
theorem lk_X1_56 : LK RX1 56 1 8 := ⟨_, rfl, by decide, Or.inl (big_at 129 (by decide +kernel) (by decide +kernel))⟩
theorem lk_X1_53 : LK RX1 53 1 9 := ⟨_, rfl, by decide, Or.inl (big_at 130 (by decide +kernel) (by decide +kernel))⟩
theorem lk_X1_42 : LK RX1 42 1 10 := ⟨_, rfl, by decide, Or.inl (big_at 131 (by decide +kernel) (by decide +kernel))⟩
theorem lk_X3_9 : LK RX3 9 3 0 := ⟨_, rfl, by decide, Or.inl (big_at 168 (by decide +kernel) (by decide +kernel))⟩
theorem lk_X4_139 : LK RX4 139 3 0 := ⟨_, rfl, by decide, Or.inr ⟨"RollScales", nst_at 169 (by decide +kernel) rfl⟩⟩
theorem lk_X6_207 : LK RX6 207 3 0 := ⟨_, rfl, by decide, Or.inr ⟨"RollScales", nst_at 170 (by decide +kernel) rfl⟩⟩
theorem lk_X3_15 : LK RX3 15 3 1 := ⟨_, rfl, by decide, Or.inl (big_at 171 (by decide +kernel) (by decide +kernel))⟩
theorem lk_X4_112 : LK RX4 112 3 1 := ⟨_, rfl, by decide, Or.inr ⟨"RollScales", nst_at 172 (by decide +kernel) rfl⟩⟩
theorem lk_X3_18 : LK RX3 18 3 2 := ⟨_, rfl, by decide, Or.inl (big_at 173 (by decide +kernel) (by decide +kernel))⟩
theorem lk_X4_154 : LK RX4 154 3 2 := ⟨_, rfl, by decide, Or.inr ⟨"RollScales", nst_at 174 (by decide +kernel) rfl⟩⟩
theorem lk_X6_212 : LK RX6 212 3 2 := ⟨_, rfl, by decide, Or.inr ⟨"RollScales", nst_at 175 (by decide +kernel) rfl⟩⟩
theorem lk_X3_21 : LK RX3 21 3 3 := ⟨_, rfl, by decide, Or.inl (big_at 176 (by decide +kernel) (by decide +kernel))⟩
theorem lk_X4_142 : LK RX4 142 3 3 := ⟨_, rfl, by decide, Or.inr ⟨"RollScales", nst_at 177 (by decide +kernel) rfl⟩⟩
theorem lk_X6_221 : LK RX6 221 3 3 := ⟨_, rfl, by decide, Or.inr ⟨"RollScales", nst_at 178 (by decide +kernel) rfl⟩⟩
theorem lk_X3_24 : LK RX3 24 3 4 := ⟨_, rfl, by decide, Or.inl (big_at 179 (by decide +kernel) (by decide +kernel))⟩
theorem lk_X4_157 : LK RX4 157 3 4 := ⟨_, rfl, by decide, Or.inr ⟨"RollScales", nst_at 180 (by decide +kernel) rfl⟩⟩
theorem lk_X3_27 : LK RX3 27 3 5 := ⟨_, rfl, by decide, Or.inl (big_at 181 (by decide +kernel) (by decide +kernel))⟩
theorem lk_X4_160 : LK RX4 160 3 5 := ⟨_, rfl, by decide, Or.inr ⟨"RollScales", nst_at 182 (by decide +kernel) rfl⟩⟩
theorem lk_X4_9 : LK RX4 9 4 0 := ⟨_, rfl, by decide, Or.inl (big_at 196 (by decide +kernel) (by decide +kernel))⟩
theorem lk_X6_188 : LK RX6 188 4 0 := ⟨_, rfl, by decide, Or.inr ⟨"RollScales", nst_at 197 (by decide +kernel) rfl⟩⟩
theorem lk_X4_15 : LK RX4 15 4 1 := ⟨_, rfl, by decide, Or.inl (big_at 198 (by decide +kernel) (by decide +kernel))⟩
theorem lk_X6_191 : LK RX6 191 4 1 := ⟨_, rfl, by decide, Or.inr ⟨"RollScales", nst_at 199 (by decide +kernel) rfl⟩⟩
theorem lk_X4_18 : LK RX4 18 4 2 := ⟨_, rfl, by decide, Or.inl (big_at 200 (by decide +kernel) (by decide +kernel))⟩
theorem lk_X6_194 : LK RX6 194 4 2 := ⟨_, rfl, by decide, Or.inr ⟨"RollScales", nst_at 201 (by decide +kernel) rfl⟩⟩
theorem lk_X4_21 : LK RX4 21 4 3 := ⟨_, rfl, by decide, Or.inl (big_at 202 (by decide +kernel) (by decide +kernel))⟩
theorem lk_X6_197 : LK RX6 197 4 3 := ⟨_, rfl, by decide, Or.inr ⟨"RollScales", nst_at 203 (by decide +kernel) rfl⟩⟩
theorem lk_X4_25 : LK RX4 25 4 4 := ⟨_, rfl, by decide, Or.inl (big_at 204 (by decide +kernel) (by decide +kernel))⟩
theorem lk_X6_200 : LK RX6 200 4 4 := ⟨_, rfl, by decide, Or.inr ⟨"RollScales", nst_at 205 (by decide +kernel) rfl⟩⟩
theorem lk_X4_31 : LK RX4 31 4 5 := ⟨_, rfl, by decide, Or.inl (big_at 206 (by decide +kernel) (by decide +kernel))⟩
theorem lk_X6_203 : LK RX6 203 4 5 := ⟨_, rfl, by decide, Or.inr ⟨"RollScales", nst_at 207 (by decide +kernel) rfl⟩⟩
theorem lk_X4_35 : LK RX4 35 4 6 := ⟨_, rfl, by decide, Or.inl (big_at 208 (by decide +kernel) (by decide +kernel))⟩
theorem lk_X4_38 : LK RX4 38 4 7 := ⟨_, rfl, by decide, Or.inl (big_at 209 (by decide +kernel) (by decide +kernel))⟩
theorem lk_X4_41 : LK RX4 41 4 8 := ⟨_, rfl, by decide, Or.inl (big_at 210 (by decide +kernel) (by decide +kernel))⟩
theorem lk_X4_44 : LK RX4 44 4 9 := ⟨_, rfl, by decide, Or.inl (big_at 211 (by decide +kernel) (by decide +kernel))⟩
theorem lk_X4_69 : LK RX4 69 4 10 := ⟨_, rfl, by decide, Or.inl (big_at 212 (by decide +kernel) (by decide +kernel))⟩
theorem lk_X4_54 : LK RX4 54 4 11 := ⟨_, rfl, by decide, Or.inl (big_at 213 (by decide +kernel) (by decide +kernel))⟩
theorem lk_X4_82 : LK RX4 82 4 12 := ⟨_, rfl, by decide, Or.inl (big_at 214 (by decide +kernel) (by decide +kernel))⟩
theorem lk_X6_10 : LK RX6 10 6 0 := ⟨_, rfl, by decide, Or.inl (big_at 242 (by decide +kernel) (by decide +kernel))⟩
theorem lk_X6_16 : LK RX6 16 6 1 := ⟨_, rfl, by decide, Or.inl (big_at 243 (by decide +kernel) (by decide +kernel))⟩
theorem lk_X6_22 : LK RX6 22 6 2 := ⟨_, rfl, by decide, Or.inl (big_at 244 (by decide +kernel) (by decide +kernel))⟩
theorem lk_X6_29 : LK RX6 29 6 3 := ⟨_, rfl, by decide, Or.inl (big_at 245 (by decide +kernel) (by decide +kernel))⟩
theorem lk_X6_36 : LK RX6 36 6 4 := ⟨_, rfl, by decide, Or.inl (big_at 246 (by decide +kernel) (by decide +kernel))⟩
theorem lk_X6_40 : LK RX6 40 6 5 := ⟨_, rfl, by decide, Or.inl (big_at 247 (by decide +kernel) (by decide +kernel))⟩
theorem lk_X6_44 : LK RX6 44 6 6 := ⟨_, rfl, by decide, Or.inl (big_at 248 (by decide +kernel) (by decide +kernel))⟩
theorem lks_X6_141 : Cond.fieldLink RX6 141 "RollScales" "LEAST_SETTING" "[I" ∈ BIG := big_at 536 (by decide +kernel) (by decide +kernel)
theorem lks_X6_144 : Cond.fieldLink RX6 144 "RollScales" "MOST_SETTING" "[I" ∈ BIG := big_at 538 (by decide +kernel) (by decide +kernel)
theorem lq_X0_3 : LQ 0 3 .int := ⟨_, rfl, rfl, by decide +kernel⟩
theorem lq_X0_4 : LQ 0 4 .int := ⟨_, rfl, rfl, by decide +kernel⟩
theorem lq_X0_5 : LQ 0 5 .int := ⟨_, rfl, rfl, by decide +kernel⟩
theorem lq_X0_6 : LQ 0 6 .int := ⟨_, rfl, rfl, by decide +kernel⟩
theorem lq_X0_7 : LQ 0 7 .int := ⟨_, rfl, rfl, by decide +kernel⟩
theorem lq_X1_3 : LQ 1 3 .int := ⟨_, rfl, rfl, by decide +kernel⟩
theorem lq_X1_4 : LQ 1 4 .int := ⟨_, rfl, rfl, by decide +kernel⟩
theorem lq_X1_5 : LQ 1 5 .int := ⟨_, rfl, rfl, by decide +kernel⟩
theorem lq_X1_6 : LQ 1 6 .int := ⟨_, rfl, rfl, by decide +kernel⟩
theorem lq_X1_7 : LQ 1 7 .int := ⟨_, rfl, rfl, by decide +kernel⟩
theorem lq_X1_8 : LQ 1 8 .int := ⟨_, rfl, rfl, by decide +kernel⟩
theorem lq_X1_9 : LQ 1 9 .int := ⟨_, rfl, rfl, by decide +kernel⟩
theorem lq_X1_10 : LQ 1 10 .boolean := ⟨_, rfl, rfl, by decide +kernel⟩
theorem lq_X2_1 : LQ 2 1 .int := ⟨_, rfl, rfl, by decide +kernel⟩
theorem lq_X3_0 : LQ 3 0 .int := ⟨_, rfl, rfl, by decide +kernel⟩
theorem lq_X3_1 : LQ 3 1 .int := ⟨_, rfl, rfl, by decide +kernel⟩
theorem lq_X3_2 : LQ 3 2 .int := ⟨_, rfl, rfl, by decide +kernel⟩
theorem lq_X3_3 : LQ 3 3 .int := ⟨_, rfl, rfl, by decide +kernel⟩
theorem lq_X3_4 : LQ 3 4 .int := ⟨_, rfl, rfl, by decide +kernel⟩
theorem lq_X3_5 : LQ 3 5 .int := ⟨_, rfl, rfl, by decide +kernel⟩
theorem lq_X4_10 : LQ 4 10 .int := ⟨_, rfl, rfl, by decide +kernel⟩
theorem lq_X4_11 : LQ 4 11 .int := ⟨_, rfl, rfl, by decide +kernel⟩
theorem lq_X4_12 : LQ 4 12 .int := ⟨_, rfl, rfl, by decide +kernel⟩
theorem lq_X5_2 : LQ 5 2 .int := ⟨_, rfl, rfl, by decide +kernel⟩
theorem lq_X5_3 : LQ 5 3 .int := ⟨_, rfl, rfl, by decide +kernel⟩
theorem lq_X5_4 : LQ 5 4 .int := ⟨_, rfl, rfl, by decide +kernel⟩
theorem lq_X6_6 : LQ 6 6 .boolean := ⟨_, rfl, rfl, by decide +kernel⟩
theorem mi_X0_init : Cond.code yX0_init cX0_init 1 none ∈ BIG ∧ Cond.instanceMethod yX0_init ∈ BIG ∧ Cond.initialized RX0 ∈ BIG := ⟨big_at 29 (by decide +kernel) (by decide +kernel), big_at 28 (by decide +kernel) (by decide +kernel), big_at 3 (by decide +kernel) (by decide +kernel)⟩
theorem mw_X0_begin : MW yX0_begin cX0_begin 2 none 1 := ⟨big_at 503 (by decide +kernel) (by decide +kernel), big_at 501 (by decide +kernel) (by decide +kernel), big_at 502 (by decide +kernel) (by decide +kernel), big_at 3 (by decide +kernel) (by decide +kernel), by decide +kernel⟩
theorem mw_X0_addAxle : MW yX0_addAxle cX0_addAxle 3 none 2 := ⟨big_at 507 (by decide +kernel) (by decide +kernel), big_at 505 (by decide +kernel) (by decide +kernel), big_at 506 (by decide +kernel) (by decide +kernel), big_at 3 (by decide +kernel) (by decide +kernel), by decide +kernel⟩
theorem mw_X0_hasAxle : MW yX0_hasAxle cX0_hasAxle 2 (some .boolean) 1 := ⟨big_at 352 (by decide +kernel) (by decide +kernel), big_at 350 (by decide +kernel) (by decide +kernel), big_at 351 (by decide +kernel) (by decide +kernel), big_at 3 (by decide +kernel) (by decide +kernel), by decide +kernel⟩
theorem mw_X0_downCount : MW yX0_downCount cX0_downCount 3 (some .int) 0 := ⟨big_at 332 (by decide +kernel) (by decide +kernel), big_at 330 (by decide +kernel) (by decide +kernel), big_at 331 (by decide +kernel) (by decide +kernel), big_at 3 (by decide +kernel) (by decide +kernel), by decide +kernel⟩
theorem mw_X0_wholeWeight : MW yX0_wholeWeight cX0_wholeWeight 3 (some .int) 0 := ⟨big_at 336 (by decide +kernel) (by decide +kernel), big_at 334 (by decide +kernel) (by decide +kernel), big_at 335 (by decide +kernel) (by decide +kernel), big_at 3 (by decide +kernel) (by decide +kernel), by decide +kernel⟩
theorem mw_X0_wholeLength : MW yX0_wholeLength cX0_wholeLength 3 (some .int) 0 := ⟨big_at 340 (by decide +kernel) (by decide +kernel), big_at 338 (by decide +kernel) (by decide +kernel), big_at 339 (by decide +kernel) (by decide +kernel), big_at 3 (by decide +kernel) (by decide +kernel), by decide +kernel⟩
theorem mw_X0_netAndBase : MW yX0_netAndBase cX0_netAndBase 1 (some .int) 0 := ⟨big_at 344 (by decide +kernel) (by decide +kernel), big_at 342 (by decide +kernel) (by decide +kernel), big_at 343 (by decide +kernel) (by decide +kernel), big_at 3 (by decide +kernel) (by decide +kernel), by decide +kernel⟩
theorem mw_X0_borneBy : MW yX0_borneBy cX0_borneBy 4 (some .int) 1 := ⟨big_at 356 (by decide +kernel) (by decide +kernel), big_at 354 (by decide +kernel) (by decide +kernel), big_at 355 (by decide +kernel) (by decide +kernel), big_at 3 (by decide +kernel) (by decide +kernel), by decide +kernel⟩
theorem mw_X0_bearerOf : MW yX0_bearerOf cX0_bearerOf 3 (some .int) 1 := ⟨big_at 360 (by decide +kernel) (by decide +kernel), big_at 359 (by decide +kernel) (by decide +kernel), big_pr 2 (by decide +kernel) (by decide +kernel), big_at 3 (by decide +kernel) (by decide +kernel), by decide +kernel⟩
theorem mw_X0_copyFrom : MW yX0_copyFrom cX0_copyFrom 3 none 1 := ⟨big_at 279 (by decide +kernel) (by decide +kernel), big_at 277 (by decide +kernel) (by decide +kernel), big_at 278 (by decide +kernel) (by decide +kernel), big_at 3 (by decide +kernel) (by decide +kernel), by decide +kernel⟩
theorem mi_X1_init : Cond.code yX1_init cX1_init 1 none ∈ BIG ∧ Cond.instanceMethod yX1_init ∈ BIG ∧ Cond.initialized RX1 ∈ BIG := ⟨big_at 116 (by decide +kernel) (by decide +kernel), big_at 115 (by decide +kernel) (by decide +kernel), big_at 6 (by decide +kernel) (by decide +kernel)⟩
theorem mw_X1_read : MW yX1_read cX1_read 2 none 0 := ⟨big_at 574 (by decide +kernel) (by decide +kernel), big_at 572 (by decide +kernel) (by decide +kernel), big_at 573 (by decide +kernel) (by decide +kernel), big_at 6 (by decide +kernel) (by decide +kernel), by decide +kernel⟩
theorem mw_X1_beginCart : MW yX1_beginCart cX1_beginCart 1 none 0 := ⟨big_at 578 (by decide +kernel) (by decide +kernel), big_at 577 (by decide +kernel) (by decide +kernel), big_pr 11 (by decide +kernel) (by decide +kernel), big_at 6 (by decide +kernel) (by decide +kernel), by decide +kernel⟩
theorem mw_X1_beginNumber : MW yX1_beginNumber cX1_beginNumber 2 none 1 := ⟨big_at 582 (by decide +kernel) (by decide +kernel), big_at 581 (by decide +kernel) (by decide +kernel), big_pr 12 (by decide +kernel) (by decide +kernel), big_at 6 (by decide +kernel) (by decide +kernel), by decide +kernel⟩
theorem mw_X1_isWhole : MW yX1_isWhole cX1_isWhole 1 (some .boolean) 0 := ⟨big_at 594 (by decide +kernel) (by decide +kernel), big_at 593 (by decide +kernel) (by decide +kernel), big_pr 15 (by decide +kernel) (by decide +kernel), big_at 6 (by decide +kernel) (by decide +kernel), by decide +kernel⟩
theorem mw_X1_endAxle : MW yX1_endAxle cX1_endAxle 1 none 0 := ⟨big_at 608 (by decide +kernel) (by decide +kernel), big_at 607 (by decide +kernel) (by decide +kernel), big_pr 18 (by decide +kernel) (by decide +kernel), big_at 6 (by decide +kernel) (by decide +kernel), by decide +kernel⟩
theorem mw_X1_accepts : MW yX1_accepts cX1_accepts 2 (some .boolean) 1 := ⟨big_at 586 (by decide +kernel) (by decide +kernel), big_at 585 (by decide +kernel) (by decide +kernel), big_pr 13 (by decide +kernel) (by decide +kernel), big_at 6 (by decide +kernel) (by decide +kernel), by decide +kernel⟩
theorem mw_X1_acceptsDigit : MW yX1_acceptsDigit cX1_acceptsDigit 3 (some .boolean) 1 := ⟨big_at 590 (by decide +kernel) (by decide +kernel), big_at 589 (by decide +kernel) (by decide +kernel), big_pr 14 (by decide +kernel) (by decide +kernel), big_at 6 (by decide +kernel) (by decide +kernel), by decide +kernel⟩
theorem mw_X1_acceptsBehindDistance : MW yX1_acceptsBehindDistance cX1_acceptsBehindDistance 2 (some .boolean) 1 := ⟨big_at 600 (by decide +kernel) (by decide +kernel), big_at 599 (by decide +kernel) (by decide +kernel), big_pr 16 (by decide +kernel) (by decide +kernel), big_at 6 (by decide +kernel) (by decide +kernel), by decide +kernel⟩
theorem mw_X1_acceptsBehindWeight : MW yX1_acceptsBehindWeight cX1_acceptsBehindWeight 2 (some .boolean) 1 := ⟨big_at 604 (by decide +kernel) (by decide +kernel), big_at 603 (by decide +kernel) (by decide +kernel), big_pr 17 (by decide +kernel) (by decide +kernel), big_at 6 (by decide +kernel) (by decide +kernel), by decide +kernel⟩
theorem mw_X1_bringCarts : MW yX1_bringCarts cX1_bringCarts 3 none 1 := ⟨big_at 612 (by decide +kernel) (by decide +kernel), big_at 610 (by decide +kernel) (by decide +kernel), big_at 611 (by decide +kernel) (by decide +kernel), big_at 6 (by decide +kernel) (by decide +kernel), by decide +kernel⟩
theorem mi_X2_init : Cond.code yX2_init cX2_init 2 none ∈ BIG ∧ Cond.instanceMethod yX2_init ∈ BIG ∧ Cond.initialized RX2 ∈ BIG := ⟨big_at 99 (by decide +kernel) (by decide +kernel), big_at 98 (by decide +kernel) (by decide +kernel), big_at 5 (by decide +kernel) (by decide +kernel)⟩
theorem mw_X2_remember : MW yX2_remember cX2_remember 2 none 1 := ⟨big_at 293 (by decide +kernel) (by decide +kernel), big_at 291 (by decide +kernel) (by decide +kernel), big_at 292 (by decide +kernel) (by decide +kernel), big_at 5 (by decide +kernel) (by decide +kernel), by decide +kernel⟩
theorem mw_X2_dropOldest : MW yX2_dropOldest cX2_dropOldest 3 none 0 := ⟨big_at 297 (by decide +kernel) (by decide +kernel), big_at 296 (by decide +kernel) (by decide +kernel), big_pr 0 (by decide +kernel) (by decide +kernel), big_at 5 (by decide +kernel) (by decide +kernel), by decide +kernel⟩
theorem mw_X2_recall : MW yX2_recall cX2_recall 2 none 1 := ⟨big_at 271 (by decide +kernel) (by decide +kernel), big_at 269 (by decide +kernel) (by decide +kernel), big_at 270 (by decide +kernel) (by decide +kernel), big_at 5 (by decide +kernel) (by decide +kernel), by decide +kernel⟩
theorem mi_X3_init : Cond.code yX3_init cX3_init 1 none ∈ BIG ∧ Cond.instanceMethod yX3_init ∈ BIG ∧ Cond.initialized RX3 ∈ BIG := ⟨big_at 166 (by decide +kernel) (by decide +kernel), big_at 165 (by decide +kernel) (by decide +kernel), big_at 8 (by decide +kernel) (by decide +kernel)⟩
theorem mw_X3_forget : MW yX3_forget cX3_forget 1 none 0 := ⟨big_at 394 (by decide +kernel) (by decide +kernel), big_at 392 (by decide +kernel) (by decide +kernel), big_at 393 (by decide +kernel) (by decide +kernel), big_at 8 (by decide +kernel) (by decide +kernel), by decide +kernel⟩
theorem mw_X3_offer : MW yX3_offer cX3_offer 5 none 3 := ⟨big_at 437 (by decide +kernel) (by decide +kernel), big_at 435 (by decide +kernel) (by decide +kernel), big_at 436 (by decide +kernel) (by decide +kernel), big_at 8 (by decide +kernel) (by decide +kernel), by decide +kernel⟩
theorem mi_X4_init : Cond.code yX4_init cX4_init 1 none ∈ BIG ∧ Cond.instanceMethod yX4_init ∈ BIG ∧ Cond.initialized RX4 ∈ BIG := ⟨big_at 160 (by decide +kernel) (by decide +kernel), big_at 159 (by decide +kernel) (by decide +kernel), big_at 7 (by decide +kernel) (by decide +kernel)⟩
theorem mw_X4_follow : MW yX4_follow cX4_follow 4 none 3 := ⟨big_at 377 (by decide +kernel) (by decide +kernel), big_at 375 (by decide +kernel) (by decide +kernel), big_at 376 (by decide +kernel) (by decide +kernel), big_at 7 (by decide +kernel) (by decide +kernel), by decide +kernel⟩
theorem mw_X4_prepare : MW yX4_prepare cX4_prepare 6 none 3 := ⟨big_at 381 (by decide +kernel) (by decide +kernel), big_at 379 (by decide +kernel) (by decide +kernel), big_at 380 (by decide +kernel) (by decide +kernel), big_at 7 (by decide +kernel) (by decide +kernel), by decide +kernel⟩
theorem mw_X4_isTooLong : MW yX4_isTooLong cX4_isTooLong 1 (some .boolean) 0 := ⟨big_at 450 (by decide +kernel) (by decide +kernel), big_at 448 (by decide +kernel) (by decide +kernel), big_at 449 (by decide +kernel) (by decide +kernel), big_at 7 (by decide +kernel) (by decide +kernel), by decide +kernel⟩
theorem mw_X4_readingCount : MW yX4_readingCount cX4_readingCount 1 (some .int) 0 := ⟨big_at 398 (by decide +kernel) (by decide +kernel), big_at 396 (by decide +kernel) (by decide +kernel), big_at 397 (by decide +kernel) (by decide +kernel), big_at 7 (by decide +kernel) (by decide +kernel), by decide +kernel⟩
theorem mw_X4_rollOver : MW yX4_rollOver cX4_rollOver 3 none 0 := ⟨big_at 390 (by decide +kernel) (by decide +kernel), big_at 388 (by decide +kernel) (by decide +kernel), big_at 389 (by decide +kernel) (by decide +kernel), big_at 7 (by decide +kernel) (by decide +kernel), by decide +kernel⟩
theorem mw_X4_isOnPlate : MW yX4_isOnPlate cX4_isOnPlate 4 (some .boolean) 2 := ⟨big_at 413 (by decide +kernel) (by decide +kernel), big_at 412 (by decide +kernel) (by decide +kernel), big_pr 5 (by decide +kernel) (by decide +kernel), big_at 7 (by decide +kernel) (by decide +kernel), by decide +kernel⟩
theorem mw_X4_loadAt : MW yX4_loadAt cX4_loadAt 4 (some .int) 1 := ⟨big_at 409 (by decide +kernel) (by decide +kernel), big_at 408 (by decide +kernel) (by decide +kernel), big_pr 4 (by decide +kernel) (by decide +kernel), big_at 7 (by decide +kernel) (by decide +kernel), by decide +kernel⟩
theorem mw_X4_weigh : MW yX4_weigh cX4_weigh 7 none 1 := ⟨big_at 405 (by decide +kernel) (by decide +kernel), big_at 404 (by decide +kernel) (by decide +kernel), big_pr 3 (by decide +kernel) (by decide +kernel), big_at 7 (by decide +kernel) (by decide +kernel), by decide +kernel⟩
theorem mw_X4_readingOf : MS yX4_readingOf cX4_readingOf 3 (some .int) 3 := ⟨big_at 419 (by decide +kernel) (by decide +kernel), big_at 418 (by decide +kernel) (by decide +kernel), big_at 7 (by decide +kernel) (by decide +kernel), by decide +kernel⟩
theorem mw_X4_hasSettled : MW yX4_hasSettled cX4_hasSettled 6 (some .boolean) 1 := ⟨big_at 426 (by decide +kernel) (by decide +kernel), big_at 425 (by decide +kernel) (by decide +kernel), big_pr 6 (by decide +kernel) (by decide +kernel), big_at 7 (by decide +kernel) (by decide +kernel), by decide +kernel⟩
theorem mw_X4_meanAt : MW yX4_meanAt cX4_meanAt 4 (some .int) 1 := ⟨big_at 430 (by decide +kernel) (by decide +kernel), big_at 429 (by decide +kernel) (by decide +kernel), big_pr 7 (by decide +kernel) (by decide +kernel), big_at 7 (by decide +kernel) (by decide +kernel), by decide +kernel⟩
theorem mw_X4_wireSpeed : MW yX4_wireSpeed cX4_wireSpeed 1 (some .int) 0 := ⟨big_at 464 (by decide +kernel) (by decide +kernel), big_at 462 (by decide +kernel) (by decide +kernel), big_at 463 (by decide +kernel) (by decide +kernel), big_at 7 (by decide +kernel) (by decide +kernel), by decide +kernel⟩
theorem mw_X4_wireTimes : MW yX4_wireTimes cX4_wireTimes 5 (some .int) 0 := ⟨big_at 458 (by decide +kernel) (by decide +kernel), big_at 456 (by decide +kernel) (by decide +kernel), big_at 457 (by decide +kernel) (by decide +kernel), big_at 7 (by decide +kernel) (by decide +kernel), by decide +kernel⟩
theorem mw_X4_isWholeOnPlate : MW yX4_isWholeOnPlate cX4_isWholeOnPlate 3 (some .boolean) 1 := ⟨big_at 454 (by decide +kernel) (by decide +kernel), big_at 453 (by decide +kernel) (by decide +kernel), big_pr 8 (by decide +kernel) (by decide +kernel), big_at 7 (by decide +kernel) (by decide +kernel), by decide +kernel⟩
theorem mw_X4_reason : MW yX4_reason cX4_reason 1 (some .int) 0 := ⟨big_at 446 (by decide +kernel) (by decide +kernel), big_at 444 (by decide +kernel) (by decide +kernel), big_at 445 (by decide +kernel) (by decide +kernel), big_at 7 (by decide +kernel) (by decide +kernel), by decide +kernel⟩
theorem mw_X4_toldWeight : MW yX4_toldWeight cX4_toldWeight 1 (some .int) 0 := ⟨big_at 442 (by decide +kernel) (by decide +kernel), big_at 440 (by decide +kernel) (by decide +kernel), big_at 441 (by decide +kernel) (by decide +kernel), big_at 7 (by decide +kernel) (by decide +kernel), by decide +kernel⟩
theorem mw_X4_weightByAxles : MW yX4_weightByAxles cX4_weightByAxles 1 (some .int) 0 := ⟨big_at 469 (by decide +kernel) (by decide +kernel), big_at 467 (by decide +kernel) (by decide +kernel), big_at 468 (by decide +kernel) (by decide +kernel), big_at 7 (by decide +kernel) (by decide +kernel), by decide +kernel⟩
theorem mi_X5_init : Cond.code yX5_init cX5_init 2 none ∈ BIG ∧ Cond.instanceMethod yX5_init ∈ BIG ∧ Cond.initialized RX5 ∈ BIG := ⟨big_at 22 (by decide +kernel) (by decide +kernel), big_at 21 (by decide +kernel) (by decide +kernel), big_at 2 (by decide +kernel) (by decide +kernel)⟩
theorem mw_X5_findCart : MW yX5_findCart cX5_findCart 2 (some (.object "RollScales$Cart")) 1 := ⟨big_at 328 (by decide +kernel) (by decide +kernel), big_at 326 (by decide +kernel) (by decide +kernel), big_at 327 (by decide +kernel) (by decide +kernel), big_at 2 (by decide +kernel) (by decide +kernel), by decide +kernel⟩
theorem mw_X5_addCart : MW yX5_addCart cX5_addCart 2 none 1 := ⟨big_at 499 (by decide +kernel) (by decide +kernel), big_at 497 (by decide +kernel) (by decide +kernel), big_at 498 (by decide +kernel) (by decide +kernel), big_at 2 (by decide +kernel) (by decide +kernel), by decide +kernel⟩
theorem mw_X5_addAxleToLast : MW yX5_addAxleToLast cX5_addAxleToLast 4 none 2 := ⟨big_at 617 (by decide +kernel) (by decide +kernel), big_at 615 (by decide +kernel) (by decide +kernel), big_at 616 (by decide +kernel) (by decide +kernel), big_at 2 (by decide +kernel) (by decide +kernel), by decide +kernel⟩
theorem mw_X5_taredCount : MW yX5_taredCount cX5_taredCount 3 (some .int) 0 := ⟨big_at 305 (by decide +kernel) (by decide +kernel), big_at 303 (by decide +kernel) (by decide +kernel), big_at 304 (by decide +kernel) (by decide +kernel), big_at 2 (by decide +kernel) (by decide +kernel), by decide +kernel⟩
theorem mw_X5_copyFrom : MW yX5_copyFrom cX5_copyFrom 3 none 1 := ⟨big_at 275 (by decide +kernel) (by decide +kernel), big_at 273 (by decide +kernel) (by decide +kernel), big_at 274 (by decide +kernel) (by decide +kernel), big_at 2 (by decide +kernel) (by decide +kernel), by decide +kernel⟩
theorem mi_X6_init : Cond.code yX6_init cX6_init 1 none ∈ BIG ∧ Cond.instanceMethod yX6_init ∈ BIG ∧ Cond.initialized RX6 ∈ BIG := ⟨big_at 14 (by decide +kernel) (by decide +kernel), big_at 13 (by decide +kernel) (by decide +kernel), big_at 1 (by decide +kernel) (by decide +kernel)⟩
theorem mw_X6_cart : MW yX6_cart cX6_cart 2 (some .int) 1 := ⟨big_at 492 (by decide +kernel) (by decide +kernel), big_at 490 (by decide +kernel) (by decide +kernel), big_at 491 (by decide +kernel) (by decide +kernel), big_at 1 (by decide +kernel) (by decide +kernel), by decide +kernel⟩
theorem mw_X6_axle : MW yX6_axle cX6_axle 5 (some .int) 3 := ⟨big_at 511 (by decide +kernel) (by decide +kernel), big_at 509 (by decide +kernel) (by decide +kernel), big_at 510 (by decide +kernel) (by decide +kernel), big_at 1 (by decide +kernel) (by decide +kernel), by decide +kernel⟩
theorem mw_X6_load : MW yX6_load cX6_load 6 (some .int) 3 := ⟨big_at 519 (by decide +kernel) (by decide +kernel), big_at 517 (by decide +kernel) (by decide +kernel), big_at 518 (by decide +kernel) (by decide +kernel), big_at 1 (by decide +kernel) (by decide +kernel), by decide +kernel⟩
theorem mw_X6_lift : MW yX6_lift cX6_lift 6 (some .int) 3 := ⟨big_at 523 (by decide +kernel) (by decide +kernel), big_at 521 (by decide +kernel) (by decide +kernel), big_at 522 (by decide +kernel) (by decide +kernel), big_at 1 (by decide +kernel) (by decide +kernel), by decide +kernel⟩
theorem mw_X6_carts : MW yX6_carts cX6_carts 1 (some .int) 0 := ⟨big_at 570 (by decide +kernel) (by decide +kernel), big_at 568 (by decide +kernel) (by decide +kernel), big_at 569 (by decide +kernel) (by decide +kernel), big_at 1 (by decide +kernel) (by decide +kernel), by decide +kernel⟩
theorem mw_X6_run : MW yX6_run cX6_run 5 (some .int) 2 := ⟨big_at 527 (by decide +kernel) (by decide +kernel), big_at 525 (by decide +kernel) (by decide +kernel), big_at 526 (by decide +kernel) (by decide +kernel), big_at 1 (by decide +kernel) (by decide +kernel), by decide +kernel⟩
theorem mw_X6_tare : MW yX6_tare cX6_tare 3 (some .int) 1 := ⟨big_at 531 (by decide +kernel) (by decide +kernel), big_at 529 (by decide +kernel) (by decide +kernel), big_at 530 (by decide +kernel) (by decide +kernel), big_at 1 (by decide +kernel) (by decide +kernel), by decide +kernel⟩
theorem mw_X6_set : MW yX6_set cX6_set 4 (some .int) 2 := ⟨big_at 535 (by decide +kernel) (by decide +kernel), big_at 533 (by decide +kernel) (by decide +kernel), big_at 534 (by decide +kernel) (by decide +kernel), big_at 1 (by decide +kernel) (by decide +kernel), by decide +kernel⟩
theorem mw_X6_clearText : MW yX6_clearText cX6_clearText 2 (some .int) 0 := ⟨big_at 566 (by decide +kernel) (by decide +kernel), big_at 564 (by decide +kernel) (by decide +kernel), big_at 565 (by decide +kernel) (by decide +kernel), big_at 1 (by decide +kernel) (by decide +kernel), by decide +kernel⟩
theorem mw_X6_fault : MW yX6_fault cX6_fault 1 (some .int) 0 := ⟨big_at 623 (by decide +kernel) (by decide +kernel), big_at 621 (by decide +kernel) (by decide +kernel), big_at 622 (by decide +kernel) (by decide +kernel), big_at 1 (by decide +kernel) (by decide +kernel), by decide +kernel⟩
theorem mw_X6_undo : MW yX6_undo cX6_undo 1 (some .int) 0 := ⟨big_at 267 (by decide +kernel) (by decide +kernel), big_at 265 (by decide +kernel) (by decide +kernel), big_at 266 (by decide +kernel) (by decide +kernel), big_at 1 (by decide +kernel) (by decide +kernel), by decide +kernel⟩
theorem mw_X6_keep : MW yX6_keep cX6_keep 1 (some .int) 0 := ⟨big_at 284 (by decide +kernel) (by decide +kernel), big_at 282 (by decide +kernel) (by decide +kernel), big_at 283 (by decide +kernel) (by decide +kernel), big_at 1 (by decide +kernel) (by decide +kernel), by decide +kernel⟩
theorem mw_X6_restore : MW yX6_restore cX6_restore 1 (some .int) 0 := ⟨big_at 289 (by decide +kernel) (by decide +kernel), big_at 287 (by decide +kernel) (by decide +kernel), big_at 288 (by decide +kernel) (by decide +kernel), big_at 1 (by decide +kernel) (by decide +kernel), by decide +kernel⟩
theorem mw_X6_cartOf : MW yX6_cartOf cX6_cartOf 4 (some .int) 2 := ⟨big_at 324 (by decide +kernel) (by decide +kernel), big_at 322 (by decide +kernel) (by decide +kernel), big_at 323 (by decide +kernel) (by decide +kernel), big_at 1 (by decide +kernel) (by decide +kernel), by decide +kernel⟩
theorem mw_X6_axleOf : MW yX6_axleOf cX6_axleOf 5 (some .int) 3 := ⟨big_at 348 (by decide +kernel) (by decide +kernel), big_at 346 (by decide +kernel) (by decide +kernel), big_at 347 (by decide +kernel) (by decide +kernel), big_at 1 (by decide +kernel) (by decide +kernel), by decide +kernel⟩
theorem mw_X6_tick : MW yX6_tick cX6_tick 6 (some .int) 4 := ⟨big_at 473 (by decide +kernel) (by decide +kernel), big_at 471 (by decide +kernel) (by decide +kernel), big_at 472 (by decide +kernel) (by decide +kernel), big_at 1 (by decide +kernel) (by decide +kernel), by decide +kernel⟩
theorem mw_X6_runOf : MW yX6_runOf cX6_runOf 5 (some .int) 3 := ⟨big_at 370 (by decide +kernel) (by decide +kernel), big_at 368 (by decide +kernel) (by decide +kernel), big_at 369 (by decide +kernel) (by decide +kernel), big_at 1 (by decide +kernel) (by decide +kernel), by decide +kernel⟩
theorem mw_X6_count : MW yX6_count cX6_count 2 (some .int) 1 := ⟨big_at 301 (by decide +kernel) (by decide +kernel), big_at 299 (by decide +kernel) (by decide +kernel), big_at 300 (by decide +kernel) (by decide +kernel), big_at 1 (by decide +kernel) (by decide +kernel), by decide +kernel⟩
theorem mw_X6_off : MW yX6_off cX6_off 6 (some .float) 2 := ⟨big_at 479 (by decide +kernel) (by decide +kernel), big_at 477 (by decide +kernel) (by decide +kernel), big_at 478 (by decide +kernel) (by decide +kernel), big_at 1 (by decide +kernel) (by decide +kernel), by decide +kernel⟩
theorem mw_X6_fastest : MW yX6_fastest cX6_fastest 4 (some .int) 1 := ⟨big_at 562 (by decide +kernel) (by decide +kernel), big_at 560 (by decide +kernel) (by decide +kernel), big_at 561 (by decide +kernel) (by decide +kernel), big_at 1 (by decide +kernel) (by decide +kernel), by decide +kernel⟩
theorem mw_X6_leastWindow : MW yX6_leastWindow cX6_leastWindow 3 (some .int) 2 := ⟨big_at 543 (by decide +kernel) (by decide +kernel), big_at 541 (by decide +kernel) (by decide +kernel), big_at 542 (by decide +kernel) (by decide +kernel), big_at 1 (by decide +kernel) (by decide +kernel), by decide +kernel⟩
theorem mw_X6_shortestPlate : MW yX6_shortestPlate cX6_shortestPlate 3 (some .int) 2 := ⟨big_at 558 (by decide +kernel) (by decide +kernel), big_at 556 (by decide +kernel) (by decide +kernel), big_at 557 (by decide +kernel) (by decide +kernel), big_at 1 (by decide +kernel) (by decide +kernel), by decide +kernel⟩
theorem mw_X6_isWeight : MS yX6_isWeight cX6_isWeight 1 (some .boolean) 1 := ⟨big_at 495 (by decide +kernel) (by decide +kernel), big_at 494 (by decide +kernel) (by decide +kernel), big_at 1 (by decide +kernel) (by decide +kernel), by decide +kernel⟩
theorem mw_X6_isDistance : MS yX6_isDistance cX6_isDistance 1 (some .boolean) 1 := ⟨big_at 514 (by decide +kernel) (by decide +kernel), big_at 513 (by decide +kernel) (by decide +kernel), big_at 1 (by decide +kernel) (by decide +kernel), by decide +kernel⟩
theorem mw_X6_isSpeed : MS yX6_isSpeed cX6_isSpeed 1 (some .boolean) 1 := ⟨big_at 373 (by decide +kernel) (by decide +kernel), big_at 372 (by decide +kernel) (by decide +kernel), big_at 1 (by decide +kernel) (by decide +kernel), by decide +kernel⟩
theorem mw_X6_quotient : MS yX6_quotient cX6_quotient 2 (some .int) 2 := ⟨big_at 433 (by decide +kernel) (by decide +kernel), big_at 432 (by decide +kernel) (by decide +kernel), big_at 1 (by decide +kernel) (by decide +kernel), by decide +kernel⟩
theorem mw_X6_quotientUp : MS yX6_quotientUp cX6_quotientUp 2 (some .int) 2 := ⟨big_at 386 (by decide +kernel) (by decide +kernel), big_at 385 (by decide +kernel) (by decide +kernel), big_at 1 (by decide +kernel) (by decide +kernel), by decide +kernel⟩
theorem mw_X6_settingOf : MW yX6_settingOf cX6_settingOf 2 (some .int) 1 := ⟨big_at 309 (by decide +kernel) (by decide +kernel), big_at 308 (by decide +kernel) (by decide +kernel), big_pr 1 (by decide +kernel) (by decide +kernel), big_at 1 (by decide +kernel) (by decide +kernel), by decide +kernel⟩
theorem mw_X6_leastSetting : MW yX6_leastSetting cX6_leastSetting 6 (some .int) 3 := ⟨big_at 547 (by decide +kernel) (by decide +kernel), big_at 546 (by decide +kernel) (by decide +kernel), big_pr 9 (by decide +kernel) (by decide +kernel), big_at 1 (by decide +kernel) (by decide +kernel), by decide +kernel⟩
theorem mw_X6_tellsNearly : MW yX6_tellsNearly cX6_tellsNearly 5 (some .boolean) 3 := ⟨big_at 552 (by decide +kernel) (by decide +kernel), big_at 551 (by decide +kernel) (by decide +kernel), big_pr 10 (by decide +kernel) (by decide +kernel), big_at 1 (by decide +kernel) (by decide +kernel), by decide +kernel⟩
set_option maxRecDepth 100000 in
theorem mw_L_cell : MS yL_cell cL_cell 2 (some .int) 2 := ⟨big_at 312 (by rfl) (by decide +kernel), big_at 311 (by decide +kernel) (by decide +kernel), big_at 0 (by decide +kernel) (by decide +kernel), by decide +kernel⟩
set_option maxRecDepth 100000 in
theorem mw_L_seen : MS yL_seen cL_seen 4 (some .long) 1 := ⟨big_at 318 (by rfl) (by decide +kernel), big_at 317 (by decide +kernel) (by decide +kernel), big_at 0 (by decide +kernel) (by decide +kernel), by decide +kernel⟩
set_option maxRecDepth 100000 in
theorem mw_L_areCarts : MS yL_areCarts cL_areCarts 14 (some .boolean) 1 := ⟨big_at 363 (by rfl) (by decide +kernel), big_at 362 (by decide +kernel) (by decide +kernel), big_at 0 (by decide +kernel) (by decide +kernel), by decide +kernel⟩
set_option maxRecDepth 100000 in
theorem mw_L_isRun : MS yL_isRun cL_isRun 28 (some .boolean) 4 := ⟨big_at 366 (by rfl) (by decide +kernel), big_at 365 (by decide +kernel) (by decide +kernel), big_at 0 (by decide +kernel) (by decide +kernel), by decide +kernel⟩
set_option maxRecDepth 100000 in
theorem mw_L_size : MS yL_size cL_size 1 (some .float) 1 := ⟨big_at 482 (by rfl) (by decide +kernel), big_at 481 (by decide +kernel) (by decide +kernel), big_at 0 (by decide +kernel) (by decide +kernel), by decide +kernel⟩
set_option maxRecDepth 100000 in
theorem mw_L_refusesAny : MS yL_refusesAny cL_refusesAny 9 (some .boolean) 2 := ⟨big_at 488 (by rfl) (by decide +kernel), big_at 487 (by decide +kernel) (by decide +kernel), big_at 0 (by decide +kernel) (by decide +kernel), by decide +kernel⟩
set_option maxRecDepth 100000 in
theorem mw_L_refuses : MS yL_refuses cL_refuses 5 (some .boolean) 2 := ⟨big_at 485 (by rfl) (by decide +kernel), big_at 484 (by decide +kernel) (by decide +kernel), big_at 0 (by decide +kernel) (by decide +kernel), by decide +kernel⟩
set_option maxRecDepth 100000 in
theorem mw_L_act : MS yL_act cL_act 16 (some .int) 2 := ⟨big_at 626 (by rfl) (by decide +kernel), big_at 625 (by decide +kernel) (by decide +kernel), big_at 0 (by decide +kernel) (by decide +kernel), by decide +kernel⟩
theorem ml_L_94 : ML RL 94 yX6_init := Or.inl (big_at 12 (by decide +kernel) (by decide +kernel))
theorem mj_X6_1 : Cond.methodLink RX6 1 objectInit ∈ BIG := big_at 15 (by decide +kernel) (by decide +kernel)
theorem ml_X6_9 : ML RX6 9 yX5_init := Or.inl (big_at 20 (by decide +kernel) (by decide +kernel))
theorem mj_X5_3 : Cond.methodLink RX5 3 objectInit ∈ BIG := big_at 23 (by decide +kernel) (by decide +kernel)
theorem ml_X5_21 : ML RX5 21 yX0_init := Or.inr ⟨"RollScales", nst_at 27 (by decide +kernel) rfl⟩
theorem mj_X0_3 : Cond.methodLink RX0 3 objectInit ∈ BIG := big_at 30 (by decide +kernel) (by decide +kernel)
theorem mj_X5_25 : Cond.methodLink RX5 25 arraycopyName ∈ BIG := big_at 72 (by decide +kernel) (by decide +kernel)
theorem ml_X6_21 : ML RX6 21 yX2_init := Or.inl (big_at 97 (by decide +kernel) (by decide +kernel))
theorem mj_X2_3 : Cond.methodLink RX2 3 objectInit ∈ BIG := big_at 100 (by decide +kernel) (by decide +kernel)
theorem ml_X2_17 : ML RX2 17 yX5_init := Or.inl (big_at 103 (by decide +kernel) (by decide +kernel))
theorem ml_X6_28 : ML RX6 28 yX1_init := Or.inr ⟨"RollScales", nst_at 114 (by decide +kernel) rfl⟩
theorem mj_X1_3 : Cond.methodLink RX1 3 objectInit ∈ BIG := big_at 117 (by decide +kernel) (by decide +kernel)
theorem ml_X6_35 : ML RX6 35 yX4_init := Or.inr ⟨"RollScales", nst_at 158 (by decide +kernel) rfl⟩
theorem mj_X4_3 : Cond.methodLink RX4 3 objectInit ∈ BIG := big_at 161 (by decide +kernel) (by decide +kernel)
theorem ml_X4_30 : ML RX4 30 yX3_init := Or.inr ⟨"RollScales", nst_at 164 (by decide +kernel) rfl⟩
theorem mj_X3_3 : Cond.methodLink RX3 3 objectInit ∈ BIG := big_at 167 (by decide +kernel) (by decide +kernel)
theorem ml_L_95 : ML RL 95 yX6_undo := Or.inl (big_at 264 (by decide +kernel) (by decide +kernel))
theorem ml_X6_157 : ML RX6 157 yX2_recall := Or.inl (big_at 268 (by decide +kernel) (by decide +kernel))
theorem ml_X2_25 : ML RX2 25 yX5_copyFrom := Or.inl (big_at 272 (by decide +kernel) (by decide +kernel))
theorem ml_X5_50 : ML RX5 50 yX0_copyFrom := Or.inl (big_at 276 (by decide +kernel) (by decide +kernel))
theorem mj_X0_46 : Cond.methodLink RX0 46 arraycopyName ∈ BIG := big_at 280 (by decide +kernel) (by decide +kernel)
theorem ml_L_104 : ML RL 104 yX6_keep := Or.inl (big_at 281 (by decide +kernel) (by decide +kernel))
theorem ml_X6_160 : ML RX6 160 yX5_copyFrom := Or.inl (big_at 285 (by decide +kernel) (by decide +kernel))
theorem ml_L_98 : ML RL 98 yX6_restore := Or.inl (big_at 286 (by decide +kernel) (by decide +kernel))
theorem ml_X6_56 : ML RX6 56 yX2_remember := Or.inl (big_at 290 (by decide +kernel) (by decide +kernel))
theorem ml_X2_22 : ML RX2 22 yX2_dropOldest := Or.inl (big_at 294 (by decide +kernel) (by decide +kernel))
theorem ml_L_14 : ML RL 14 yX6_count := Or.inl (big_at 298 (by decide +kernel) (by decide +kernel))
theorem ml_X6_224 : ML RX6 224 yX5_taredCount := Or.inl (big_at 302 (by decide +kernel) (by decide +kernel))
theorem ml_X6_227 : ML RX6 227 yX6_settingOf := Or.inl (big_at 306 (by decide +kernel) (by decide +kernel))
theorem ml_L_107 : ML RL 107 yL_cell := Or.inl (big_at 310 (by decide +kernel) (by decide +kernel))
theorem ml_L_86 : ML RL 86 yL_seen := Or.inl (big_at 316 (by decide +kernel) (by decide +kernel))
theorem ml_L_20 : ML RL 20 yX6_cartOf := Or.inl (big_at 321 (by decide +kernel) (by decide +kernel))
theorem ml_X6_64 : ML RX6 64 yX5_findCart := Or.inl (big_at 325 (by decide +kernel) (by decide +kernel))
theorem ml_X6_90 : ML RX6 90 yX0_downCount := Or.inl (big_at 329 (by decide +kernel) (by decide +kernel))
theorem ml_X6_163 : ML RX6 163 yX0_wholeWeight := Or.inl (big_at 333 (by decide +kernel) (by decide +kernel))
theorem ml_X6_166 : ML RX6 166 yX0_wholeLength := Or.inl (big_at 337 (by decide +kernel) (by decide +kernel))
theorem ml_X6_169 : ML RX6 169 yX0_netAndBase := Or.inl (big_at 341 (by decide +kernel) (by decide +kernel))
theorem ml_L_24 : ML RL 24 yX6_axleOf := Or.inl (big_at 345 (by decide +kernel) (by decide +kernel))
theorem ml_X6_80 : ML RX6 80 yX0_hasAxle := Or.inl (big_at 349 (by decide +kernel) (by decide +kernel))
theorem ml_X6_175 : ML RX6 175 yX0_borneBy := Or.inl (big_at 353 (by decide +kernel) (by decide +kernel))
theorem ml_X0_42 : ML RX0 42 yX0_bearerOf := Or.inl (big_at 357 (by decide +kernel) (by decide +kernel))
theorem ml_L_115 : ML RL 115 yL_areCarts := Or.inl (big_at 361 (by decide +kernel) (by decide +kernel))
theorem ml_L_119 : ML RL 119 yL_isRun := Or.inl (big_at 364 (by decide +kernel) (by decide +kernel))
theorem ml_L_30 : ML RL 30 yX6_runOf := Or.inl (big_at 367 (by decide +kernel) (by decide +kernel))
theorem ml_X6_104 : ML RX6 104 yX6_isSpeed := Or.inl (big_at 371 (by decide +kernel) (by decide +kernel))
theorem ml_X6_110 : ML RX6 110 yX4_follow := Or.inl (big_at 374 (by decide +kernel) (by decide +kernel))
theorem ml_X4_47 : ML RX4 47 yX4_prepare := Or.inl (big_at 378 (by decide +kernel) (by decide +kernel))
theorem mj_X4_58 : Cond.methodLink RX4 58 arraycopyName ∈ BIG := big_at 382 (by decide +kernel) (by decide +kernel)
theorem ml_X4_73 : ML RX4 73 yX0_borneBy := Or.inl (big_at 383 (by decide +kernel) (by decide +kernel))
theorem ml_X4_78 : ML RX4 78 yX6_quotientUp := Or.inr ⟨"RollScales", nst_at 384 (by decide +kernel) rfl⟩
theorem ml_X4_51 : ML RX4 51 yX4_rollOver := Or.inl (big_at 387 (by decide +kernel) (by decide +kernel))
theorem ml_X4_90 : ML RX4 90 yX3_forget := Or.inl (big_at 391 (by decide +kernel) (by decide +kernel))
theorem ml_X4_93 : ML RX4 93 yX4_readingCount := Or.inl (big_at 395 (by decide +kernel) (by decide +kernel))
theorem mj_X4_85 : Cond.methodLink RX4 85 Lib.Math.min.name ∈ BIG := big_at 399 (by decide +kernel) (by decide +kernel)
theorem ml_X4_97 : ML RX4 97 yX4_weigh := Or.inl (big_at 402 (by decide +kernel) (by decide +kernel))
theorem ml_X4_119 : ML RX4 119 yX4_loadAt := Or.inl (big_at 406 (by decide +kernel) (by decide +kernel))
theorem ml_X4_115 : ML RX4 115 yX4_isOnPlate := Or.inl (big_at 410 (by decide +kernel) (by decide +kernel))
theorem mj_X4_122 : Cond.methodLink RX4 122 Lib.Math.abs.name ∈ BIG := big_at 414 (by decide +kernel) (by decide +kernel)
theorem ml_X4_125 : ML RX4 125 yX4_readingOf := Or.inl (big_at 417 (by decide +kernel) (by decide +kernel))
theorem mj_X4_129 : Cond.methodLink RX4 129 Lib.Math.max.name ∈ BIG := big_at 420 (by decide +kernel) (by decide +kernel)
theorem ml_X4_101 : ML RX4 101 yX4_hasSettled := Or.inl (big_at 423 (by decide +kernel) (by decide +kernel))
theorem ml_X4_105 : ML RX4 105 yX4_meanAt := Or.inl (big_at 427 (by decide +kernel) (by decide +kernel))
theorem ml_X4_132 : ML RX4 132 yX6_quotient := Or.inr ⟨"RollScales", nst_at 431 (by decide +kernel) rfl⟩
theorem ml_X4_108 : ML RX4 108 yX3_offer := Or.inl (big_at 434 (by decide +kernel) (by decide +kernel))
theorem mj_X3_30 : Cond.methodLink RX3 30 Lib.Math.abs.name ∈ BIG := big_at 438 (by decide +kernel) (by decide +kernel)
theorem ml_X6_120 : ML RX6 120 yX4_toldWeight := Or.inl (big_at 439 (by decide +kernel) (by decide +kernel))
theorem ml_X4_151 : ML RX4 151 yX4_reason := Or.inl (big_at 443 (by decide +kernel) (by decide +kernel))
theorem ml_X4_135 : ML RX4 135 yX4_isTooLong := Or.inl (big_at 447 (by decide +kernel) (by decide +kernel))
theorem ml_X4_145 : ML RX4 145 yX4_isWholeOnPlate := Or.inl (big_at 451 (by decide +kernel) (by decide +kernel))
theorem ml_X4_148 : ML RX4 148 yX4_wireTimes := Or.inl (big_at 455 (by decide +kernel) (by decide +kernel))
theorem ml_X6_114 : ML RX6 114 yX4_reason := Or.inl (big_at 459 (by decide +kernel) (by decide +kernel))
theorem ml_X6_182 : ML RX6 182 yX4_readingCount := Or.inl (big_at 460 (by decide +kernel) (by decide +kernel))
theorem ml_X6_215 : ML RX6 215 yX4_wireSpeed := Or.inl (big_at 461 (by decide +kernel) (by decide +kernel))
theorem ml_X6_126 : ML RX6 126 yX4_wireTimes := Or.inl (big_at 465 (by decide +kernel) (by decide +kernel))
theorem ml_X6_218 : ML RX6 218 yX4_weightByAxles := Or.inl (big_at 466 (by decide +kernel) (by decide +kernel))
theorem ml_L_33 : ML RL 33 yX6_tick := Or.inl (big_at 470 (by decide +kernel) (by decide +kernel))
theorem ml_X6_179 : ML RX6 179 yX4_prepare := Or.inl (big_at 474 (by decide +kernel) (by decide +kernel))
theorem ml_X6_185 : ML RX6 185 yX4_rollOver := Or.inl (big_at 475 (by decide +kernel) (by decide +kernel))
theorem ml_L_37 : ML RL 37 yX6_off := Or.inl (big_at 476 (by decide +kernel) (by decide +kernel))
theorem ml_L_41 : ML RL 41 yL_size := Or.inl (big_at 480 (by decide +kernel) (by decide +kernel))
theorem ml_L_101 : ML RL 101 yL_refuses := Or.inl (big_at 483 (by decide +kernel) (by decide +kernel))
theorem ml_L_90 : ML RL 90 yL_refusesAny := Or.inl (big_at 486 (by decide +kernel) (by decide +kernel))
theorem ml_L_45 : ML RL 45 yX6_cart := Or.inl (big_at 489 (by decide +kernel) (by decide +kernel))
theorem ml_X6_48 : ML RX6 48 yX6_isWeight := Or.inl (big_at 493 (by decide +kernel) (by decide +kernel))
theorem ml_X6_60 : ML RX6 60 yX5_addCart := Or.inl (big_at 496 (by decide +kernel) (by decide +kernel))
theorem ml_X5_35 : ML RX5 35 yX0_begin := Or.inl (big_at 500 (by decide +kernel) (by decide +kernel))
theorem ml_X0_26 : ML RX0 26 yX0_addAxle := Or.inl (big_at 504 (by decide +kernel) (by decide +kernel))
theorem ml_L_48 : ML RL 48 yX6_axle := Or.inl (big_at 508 (by decide +kernel) (by decide +kernel))
theorem ml_X6_68 : ML RX6 68 yX6_isDistance := Or.inl (big_at 512 (by decide +kernel) (by decide +kernel))
theorem ml_X6_76 : ML RX6 76 yX0_addAxle := Or.inl (big_at 515 (by decide +kernel) (by decide +kernel))
theorem ml_L_51 : ML RL 51 yX6_load := Or.inl (big_at 516 (by decide +kernel) (by decide +kernel))
theorem ml_L_54 : ML RL 54 yX6_lift := Or.inl (big_at 520 (by decide +kernel) (by decide +kernel))
theorem ml_L_58 : ML RL 58 yX6_run := Or.inl (big_at 524 (by decide +kernel) (by decide +kernel))
theorem ml_L_61 : ML RL 61 yX6_tare := Or.inl (big_at 528 (by decide +kernel) (by decide +kernel))
theorem ml_L_64 : ML RL 64 yX6_set := Or.inl (big_at 532 (by decide +kernel) (by decide +kernel))
theorem ml_L_67 : ML RL 67 yX6_leastWindow := Or.inl (big_at 540 (by decide +kernel) (by decide +kernel))
theorem ml_X6_234 : ML RX6 234 yX6_leastSetting := Or.inl (big_at 544 (by decide +kernel) (by decide +kernel))
theorem mj_X6_238 : Cond.methodLink RX6 238 arraycopyName ∈ BIG := big_at 548 (by decide +kernel) (by decide +kernel)
theorem ml_X6_230 : ML RX6 230 yX6_tellsNearly := Or.inl (big_at 549 (by decide +kernel) (by decide +kernel))
theorem ml_X6_244 : ML RX6 244 yX4_isTooLong := Or.inl (big_at 553 (by decide +kernel) (by decide +kernel))
theorem mj_X6_248 : Cond.methodLink RX6 248 Lib.Math.abs.name ∈ BIG := big_at 554 (by decide +kernel) (by decide +kernel)
theorem ml_L_70 : ML RL 70 yX6_shortestPlate := Or.inl (big_at 555 (by decide +kernel) (by decide +kernel))
theorem ml_L_73 : ML RL 73 yX6_fastest := Or.inl (big_at 559 (by decide +kernel) (by decide +kernel))
theorem ml_L_76 : ML RL 76 yX6_clearText := Or.inl (big_at 563 (by decide +kernel) (by decide +kernel))
theorem ml_L_80 : ML RL 80 yX6_carts := Or.inl (big_at 567 (by decide +kernel) (by decide +kernel))
theorem ml_X6_94 : ML RX6 94 yX1_read := Or.inl (big_at 571 (by decide +kernel) (by decide +kernel))
theorem ml_X1_35 : ML RX1 35 yX1_beginCart := Or.inl (big_at 575 (by decide +kernel) (by decide +kernel))
theorem ml_X1_59 : ML RX1 59 yX1_beginNumber := Or.inl (big_at 579 (by decide +kernel) (by decide +kernel))
theorem ml_X1_38 : ML RX1 38 yX1_accepts := Or.inl (big_at 583 (by decide +kernel) (by decide +kernel))
theorem ml_X1_73 : ML RX1 73 yX1_acceptsDigit := Or.inl (big_at 587 (by decide +kernel) (by decide +kernel))
theorem ml_X1_46 : ML RX1 46 yX1_isWhole := Or.inl (big_at 591 (by decide +kernel) (by decide +kernel))
theorem ml_X1_66 : ML RX1 66 yX6_isDistance := Or.inr ⟨"RollScales", nst_at 595 (by decide +kernel) rfl⟩
theorem ml_X1_70 : ML RX1 70 yX6_isWeight := Or.inr ⟨"RollScales", nst_at 596 (by decide +kernel) rfl⟩
theorem ml_X1_76 : ML RX1 76 yX1_acceptsBehindDistance := Or.inl (big_at 597 (by decide +kernel) (by decide +kernel))
theorem ml_X1_79 : ML RX1 79 yX1_acceptsBehindWeight := Or.inl (big_at 601 (by decide +kernel) (by decide +kernel))
theorem ml_X1_50 : ML RX1 50 yX1_endAxle := Or.inl (big_at 605 (by decide +kernel) (by decide +kernel))
theorem ml_X6_101 : ML RX6 101 yX1_bringCarts := Or.inl (big_at 609 (by decide +kernel) (by decide +kernel))
theorem ml_X1_82 : ML RX1 82 yX5_addCart := Or.inl (big_at 613 (by decide +kernel) (by decide +kernel))
theorem ml_X1_88 : ML RX1 88 yX5_addAxleToLast := Or.inl (big_at 614 (by decide +kernel) (by decide +kernel))
theorem ml_X5_39 : ML RX5 39 yX5_findCart := Or.inl (big_at 618 (by decide +kernel) (by decide +kernel))
theorem ml_X5_43 : ML RX5 43 yX0_addAxle := Or.inl (big_at 619 (by decide +kernel) (by decide +kernel))
theorem ml_L_83 : ML RL 83 yX6_fault := Or.inl (big_at 620 (by decide +kernel) (by decide +kernel))
theorem ml_L_111 : ML RL 111 yL_act := Or.inl (big_at 624 (by decide +kernel) (by decide +kernel))
theorem kc_m1 : Int32.ofInt (-1) = (-1) := by decide
theorem kc_0 : Int32.ofInt 0 = 0 := by decide
theorem kc_1 : Int32.ofInt 1 = 1 := by decide
theorem kc_2 : Int32.ofInt 2 = 2 := by decide
theorem kc_3 : Int32.ofInt 3 = 3 := by decide
theorem kc_4 : Int32.ofInt 4 = 4 := by decide
theorem kc_5 : Int32.ofInt 5 = 5 := by decide
theorem kb_m100 : (Int8.ofInt (-100)).toInt32 = (-100) := by decide
theorem kb_m10 : (Int8.ofInt (-10)).toInt32 = (-10) := by decide
theorem kb_m9 : (Int8.ofInt (-9)).toInt32 = (-9) := by decide
theorem kb_m5 : (Int8.ofInt (-5)).toInt32 = (-5) := by decide
theorem kb_m4 : (Int8.ofInt (-4)).toInt32 = (-4) := by decide
theorem kb_m3 : (Int8.ofInt (-3)).toInt32 = (-3) := by decide
theorem kb_m2 : (Int8.ofInt (-2)).toInt32 = (-2) := by decide
theorem kb_6 : (Int8.ofInt 6).toInt32 = 6 := by decide
theorem kb_7 : (Int8.ofInt 7).toInt32 = 7 := by decide
theorem kb_8 : (Int8.ofInt 8).toInt32 = 8 := by decide
theorem kb_9 : (Int8.ofInt 9).toInt32 = 9 := by decide
theorem kb_10 : (Int8.ofInt 10).toInt32 = 10 := by decide
theorem kb_11 : (Int8.ofInt 11).toInt32 = 11 := by decide
theorem kb_12 : (Int8.ofInt 12).toInt32 = 12 := by decide
theorem kb_14 : (Int8.ofInt 14).toInt32 = 14 := by decide
theorem kb_15 : (Int8.ofInt 15).toInt32 = 15 := by decide
theorem kb_16 : (Int8.ofInt 16).toInt32 = 16 := by decide
theorem kb_17 : (Int8.ofInt 17).toInt32 = 17 := by decide
theorem kb_20 : (Int8.ofInt 20).toInt32 = 20 := by decide
theorem kb_21 : (Int8.ofInt 21).toInt32 = 21 := by decide
theorem kb_30 : (Int8.ofInt 30).toInt32 = 30 := by decide
theorem kb_36 : (Int8.ofInt 36).toInt32 = 36 := by decide
theorem kb_37 : (Int8.ofInt 37).toInt32 = 37 := by decide
theorem kb_39 : (Int8.ofInt 39).toInt32 = 39 := by decide
theorem kb_40 : (Int8.ofInt 40).toInt32 = 40 := by decide
theorem kb_41 : (Int8.ofInt 41).toInt32 = 41 := by decide
theorem kb_42 : (Int8.ofInt 42).toInt32 = 42 := by decide
theorem kb_43 : (Int8.ofInt 43).toInt32 = 43 := by decide
theorem kb_48 : (Int8.ofInt 48).toInt32 = 48 := by decide
theorem kb_54 : (Int8.ofInt 54).toInt32 = 54 := by decide
theorem kb_57 : (Int8.ofInt 57).toInt32 = 57 := by decide
theorem kb_59 : (Int8.ofInt 59).toInt32 = 59 := by decide
theorem kb_60 : (Int8.ofInt 60).toInt32 = 60 := by decide
theorem kb_81 : (Int8.ofInt 81).toInt32 = 81 := by decide
theorem kb_91 : (Int8.ofInt 91).toInt32 = 91 := by decide
theorem kb_96 : (Int8.ofInt 96).toInt32 = 96 := by decide
theorem kb_99 : (Int8.ofInt 99).toInt32 = 99 := by decide
theorem kb_100 : (Int8.ofInt 100).toInt32 = 100 := by decide
theorem kb_101 : (Int8.ofInt 101).toInt32 = 101 := by decide
theorem kb_120 : (Int8.ofInt 120).toInt32 = 120 := by decide
theorem kp_200 : (Int16.ofInt 200).toInt32 = 200 := by decide
theorem kp_201 : (Int16.ofInt 201).toInt32 = 201 := by decide
theorem kp_331 : (Int16.ofInt 331).toInt32 = 331 := by decide
theorem kp_999 : (Int16.ofInt 999).toInt32 = 999 := by decide
theorem kp_1000 : (Int16.ofInt 1000).toInt32 = 1000 := by decide
theorem pn_X0 : plainName RX0 = true := by decide +kernel
theorem pn_X1 : plainName RX1 = true := by decide +kernel
theorem pn_X2 : plainName RX2 = true := by decide +kernel
theorem pn_X3 : plainName RX3 = true := by decide +kernel
theorem pn_X4 : plainName RX4 = true := by decide +kernel
theorem pn_X5 : plainName RX5 = true := by decide +kernel
theorem pn_X6 : plainName RX6 = true := by decide +kernel
theorem pn_X7 : plainName RX7 = true := by decide +kernel
theorem pn_L : plainName RL = true := by decide +kernel
theorem kd_0 : kd 0 = 6 := rfl
theorem ln_0 : ln 0 = 7 := rfl
theorem kd_1 : kd 1 = 5 := rfl
theorem ln_1 : ln 1 = 5 := rfl
theorem kd_2 : kd 2 = 11 := rfl
theorem ln_2 : ln 2 = 6 := rfl
theorem kd_3 : kd 3 = 8 := rfl
theorem ln_3 : ln 3 = 6 := rfl
theorem kd_4 : kd 4 = 0 := rfl
theorem ln_4 : ln 4 = 8 := rfl
theorem kd_28 : kd 28 = 5 := rfl
theorem ln_28 : ln 28 = 5 := rfl
theorem kd_55 : kd 55 = 2 := rfl
theorem ln_55 : ln 55 = 2 := rfl
theorem kd_56 : kd 56 = 12 := rfl
theorem ln_56 : ln 56 = 4 := rfl
theorem kd_57 : kd 57 = 5 := rfl
theorem ln_57 : ln 57 = 5 := rfl
theorem kd_165 : kd 165 = 1 := rfl
theorem ln_165 : ln 165 = 11 := rfl
theorem kd_166 : kd 166 = 10 := rfl
theorem ln_166 : ln 166 = 60 := rfl
theorem kd_167 : kd 167 = 8 := rfl
theorem ln_167 : ln 167 = 60 := rfl
theorem kd_168 : kd 168 = 8 := rfl
theorem ln_168 : ln 168 = 60 := rfl
theorem kd_169 : kd 169 = 4 := rfl
theorem ln_169 : ln 169 = 13 := rfl
theorem kd_170 : kd 170 = 8 := rfl
theorem ln_170 : ln 170 = 120 := rfl
theorem kd_171 : kd 171 = 8 := rfl
theorem ln_171 : ln 171 = 120 := rfl
theorem kd_172 : kd 172 = 8 := rfl
theorem ln_172 : ln 172 = 120 := rfl
theorem kd_173 : kd 173 = 9 := rfl
theorem ln_173 : ln 173 = 120 := rfl
theorem kd_174 : kd 174 = 8 := rfl
theorem ln_174 : ln 174 = 120 := rfl
theorem kd_175 : kd 175 = 3 := rfl
theorem ln_175 : ln 175 = 6 := rfl
theorem kd_176 : kd 176 = 8 := rfl
theorem ln_176 : ln 176 = 6 := rfl
theorem kd_177 : kd 177 = 8 := rfl
theorem ln_177 : ln 177 = 5 := rfl
theorem kd_178 : kd 178 = 8 := rfl
theorem ln_178 : ln 178 = 5 := rfl
theorem kd_179 : kd 179 = 9 := rfl
theorem ln_179 : ln 179 = 5 := rfl
theorem kd_180 : kd 180 = 8 := rfl
theorem ln_180 : ln 180 = 6 := rfl
/-- a cart at the cell c -/
def CartAt (c : Nat) : Prop := kd c = 0 ∧ c + 3 < NN ∧ kd (c + 1) = 8 ∧ ln (c + 1) = 5 ∧ kd (c + 2) = 8 ∧ ln (c + 2) = 5 ∧ kd (c + 3) = 9 ∧ ln (c + 3) = 5 ∧ ln c = 8
/-- a state at the cell B, its carts behind it -/
def StateAt (B : Nat) : Prop := kd B = 5 ∧ B + 26 < NN ∧ kd (B + 1) = 11 ∧ ln (B + 1) = 6 ∧ kd (B + 2) = 8 ∧ ln (B + 2) = 6 ∧ ln B = 5 ∧ ∀ i, i < 6 → CartAt (B + 3 + 4 * i)
theorem st_1 : StateAt 1 := ⟨by decide, by decide, by decide, by decide, by decide, by decide, by decide, by unfold CartAt; decide⟩
theorem st_28 : StateAt 28 := ⟨by decide, by decide, by decide, by decide, by decide, by decide, by decide, by unfold CartAt; decide⟩
theorem st_57 : ∀ j, j < 4 → StateAt (57 + 27 * j) := by unfold StateAt CartAt; decide +kernel
theorem CartAt.k0 {c : Nat} (h : CartAt c) : kd c = 0 := h.1
theorem CartAt.k1 {c : Nat} (h : CartAt c) : kd (c + 1) = 8 := h.2.2.1
theorem CartAt.k2 {c : Nat} (h : CartAt c) : kd (c + 2) = 8 := h.2.2.2.2.1
theorem CartAt.k3 {c : Nat} (h : CartAt c) : kd (c + 3) = 9 := h.2.2.2.2.2.2.1
theorem CartAt.l0 {c : Nat} (h : CartAt c) : ln c = 8 := h.2.2.2.2.2.2.2.2
theorem CartAt.l1 {c : Nat} (h : CartAt c) : ln (c + 1) = 5 := h.2.2.2.1
theorem CartAt.l2 {c : Nat} (h : CartAt c) : ln (c + 2) = 5 := h.2.2.2.2.2.1
theorem CartAt.l3 {c : Nat} (h : CartAt c) : ln (c + 3) = 5 := h.2.2.2.2.2.2.2.1
theorem CartAt.n0 {c : Nat} (h : CartAt c) : c < NN := by have := h.2.1; omega
theorem CartAt.n1 {c : Nat} (h : CartAt c) : c + 1 < NN := by have := h.2.1; omega
theorem CartAt.n2 {c : Nat} (h : CartAt c) : c + 2 < NN := by have := h.2.1; omega
theorem CartAt.n3 {c : Nat} (h : CartAt c) : c + 3 < NN := h.2.1
theorem StateAt.k0 {c : Nat} (h : StateAt c) : kd c = 5 := h.1
theorem StateAt.k1 {c : Nat} (h : StateAt c) : kd (c + 1) = 11 := h.2.2.1
theorem StateAt.k2 {c : Nat} (h : StateAt c) : kd (c + 2) = 8 := h.2.2.2.2.1
theorem StateAt.l0 {c : Nat} (h : StateAt c) : ln c = 5 := h.2.2.2.2.2.2.1
theorem StateAt.l1 {c : Nat} (h : StateAt c) : ln (c + 1) = 6 := h.2.2.2.1
theorem StateAt.l2 {c : Nat} (h : StateAt c) : ln (c + 2) = 6 := h.2.2.2.2.2.1
theorem StateAt.n0 {c : Nat} (h : StateAt c) : c < NN := by have := h.2.1; omega
theorem StateAt.n1 {c : Nat} (h : StateAt c) : c + 1 < NN := by have := h.2.1; omega
theorem StateAt.n2 {c : Nat} (h : StateAt c) : c + 2 < NN := by have := h.2.1; omega
theorem StateAt.cart {c : Nat} (h : StateAt c) {i : Nat} (hi : i < 6) : CartAt (c + 3 + 4 * i) := h.2.2.2.2.2.2.2 i hi
theorem rs_cart {c : Nat} (h : CartAt c) (i : Nat) : rs c i = c + 1 + i := by
  unfold rs
  rw [h.1]
  rfl
theorem CartAt.r0 {c : Nat} (h : CartAt c) : rs c 0 = c + 1 := rs_cart h 0
theorem CartAt.r1 {c : Nat} (h : CartAt c) : rs c 1 = c + 2 := rs_cart h 1
theorem CartAt.r2 {c : Nat} (h : CartAt c) : rs c 2 = c + 3 := rs_cart h 2
theorem rs_state {B : Nat} (h : StateAt B) (i : Nat) : rs B i = B + 1 + i := by
  unfold rs
  rw [h.1]
  rfl
theorem StateAt.r0 {c : Nat} (h : StateAt c) : rs c 0 = c + 1 := rs_state h 0
theorem StateAt.r1 {c : Nat} (h : StateAt c) : rs c 1 = c + 2 := rs_state h 1
theorem rs_carts {B : Nat} (h : StateAt B) (i : Nat) : rs (B + 1) i = B + 3 + 4 * i := by
  unfold rs
  rw [h.2.2.1, if_pos rfl]
