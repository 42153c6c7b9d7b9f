theorem mb_1 : Cond.initialized RX4 ∈ tm_B := tm_in 1 (by decide +kernel) (by decide +kernel)
theorem mb_2 : Cond.initialized RX2 ∈ tm_B := tm_in 2 (by decide +kernel) (by decide +kernel)
theorem mb_3 : Cond.initialized RX0 ∈ tm_B := tm_in 3 (by decide +kernel) (by decide +kernel)
theorem mb_4 : Cond.initialized RX3 ∈ tm_B := tm_in 4 (by decide +kernel) (by decide +kernel)
theorem mb_5 : Cond.initialized RX1 ∈ tm_B := tm_in 5 (by decide +kernel) (by decide +kernel)
theorem mb_6 : Cond.initialized RX5 ∈ tm_B := tm_in 6 (by decide +kernel) (by decide +kernel)
theorem mb_10 : Cond.initialized "java/lang/IllegalArgumentException" ∈ tm_B := tm_in 10 (by decide +kernel) (by decide +kernel)
theorem mb_11 : Cond.initialized "java/lang/IllegalStateException" ∈ tm_B := tm_in 11 (by decide +kernel) (by decide +kernel)
theorem mb_12 : Cond.initialized "java/util/NoSuchElementException" ∈ tm_B := tm_in 12 (by decide +kernel) (by decide +kernel)
theorem mb_13 : Cond.initialized "java/lang/UnsupportedOperationException" ∈ tm_B := tm_in 13 (by decide +kernel) (by decide +kernel)
theorem mb_14 : Cond.initialized "java/lang/ArithmeticException" ∈ tm_B := tm_in 14 (by decide +kernel) (by decide +kernel)
theorem mb_33 : Cond.methodLink RX4 42 yX4_hash ∈ tm_B := tm_in 33 (by decide +kernel) (by decide +kernel)
theorem mb_34 : Cond.static yX4_hash ∈ tm_B := tm_in 34 (by decide +kernel) (by decide +kernel)
set_option maxRecDepth 100000 in
theorem mb_35 : Cond.code yX4_hash prog_1_method_24_code 6 (some .long) ∈ tm_B := tm_in 35 rfl rfl
theorem mb_36 : Cond.constantLong RX4 246 1000003 ∈ tm_B := tm_in 36 (by decide +kernel) (by decide +kernel)
theorem mb_37 : Cond.constantLong RX4 248 (-7046029254386353131) ∈ tm_B := tm_in 37 (by decide +kernel) (by decide +kernel)
theorem mb_38 : Cond.constantLong RX4 250 31 ∈ tm_B := tm_in 38 (by decide +kernel) (by decide +kernel)
theorem mb_44 : Cond.fieldLink RX2 7 "TrustModule$Key" "held" "Z" ∈ tm_B := tm_in 44 (by decide +kernel) (by decide +kernel)
theorem mb_45 : Cond.fieldLink RX4 116 "TrustModule$Key" "held" "Z" ∈ tm_B := tm_in 45 (by decide +kernel) (by decide +kernel)
theorem mb_46 : Cond.fieldLink RX2 13 "TrustModule$Key" "value" "J" ∈ tm_B := tm_in 46 (by decide +kernel) (by decide +kernel)
theorem mb_47 : Cond.fieldLink RX4 89 "TrustModule$Key" "value" "J" ∈ tm_B := tm_in 47 (by decide +kernel) (by decide +kernel)
theorem mb_48 : Cond.fieldLink RX2 17 "TrustModule$Key" "word" "I" ∈ tm_B := tm_in 48 (by decide +kernel) (by decide +kernel)
theorem mb_49 : Cond.fieldLink RX4 296 "TrustModule$Key" "word" "I" ∈ tm_B := tm_in 49 (by decide +kernel) (by decide +kernel)
theorem mb_50 : Cond.fieldLink RX2 21 "TrustModule$Key" "policy" "J" ∈ tm_B := tm_in 50 (by decide +kernel) (by decide +kernel)
theorem mb_51 : Cond.fieldLink RX4 127 "TrustModule$Key" "policy" "J" ∈ tm_B := tm_in 51 (by decide +kernel) (by decide +kernel)
theorem mb_52 : Cond.fieldLink RX2 24 "TrustModule$Key" "secret" "J" ∈ tm_B := tm_in 52 (by decide +kernel) (by decide +kernel)
theorem mb_53 : Cond.fieldLink RX4 124 "TrustModule$Key" "secret" "J" ∈ tm_B := tm_in 53 (by decide +kernel) (by decide +kernel)
theorem mb_54 : Cond.fieldLink RX2 27 "TrustModule$Key" "parent" "Z" ∈ tm_B := tm_in 54 (by decide +kernel) (by decide +kernel)
theorem mb_55 : Cond.fieldLink RX4 259 "TrustModule$Key" "parent" "Z" ∈ tm_B := tm_in 55 (by decide +kernel) (by decide +kernel)
theorem mb_56 : Cond.lays RX2 "TrustModule$Key" "held" "Z" ∈ tm_B := tm_in 56 (by decide +kernel) (by decide +kernel)
theorem mb_58 : Cond.lays RX2 "TrustModule$Key" "value" "J" ∈ tm_B := tm_in 58 (by decide +kernel) (by decide +kernel)
theorem mb_60 : Cond.lays RX2 "TrustModule$Key" "word" "I" ∈ tm_B := tm_in 60 (by decide +kernel) (by decide +kernel)
theorem mb_62 : Cond.lays RX2 "TrustModule$Key" "policy" "J" ∈ tm_B := tm_in 62 (by decide +kernel) (by decide +kernel)
theorem mb_64 : Cond.lays RX2 "TrustModule$Key" "secret" "J" ∈ tm_B := tm_in 64 (by decide +kernel) (by decide +kernel)
theorem mb_66 : Cond.lays RX2 "TrustModule$Key" "parent" "Z" ∈ tm_B := tm_in 66 (by decide +kernel) (by decide +kernel)
theorem mb_75 : Cond.fieldLink RX0 15 "TrustModule$Blob" "made" "Z" ∈ tm_B := tm_in 75 (by decide +kernel) (by decide +kernel)
theorem mb_76 : Cond.fieldLink RX4 274 "TrustModule$Blob" "made" "Z" ∈ tm_B := tm_in 76 (by decide +kernel) (by decide +kernel)
theorem mb_77 : Cond.fieldLink RX0 9 "TrustModule$Blob" "longs" "[J" ∈ tm_B := tm_in 77 (by decide +kernel) (by decide +kernel)
theorem mb_78 : Cond.fieldLink RX4 109 "TrustModule$Blob" "longs" "[J" ∈ tm_B := tm_in 78 (by decide +kernel) (by decide +kernel)
theorem mb_79 : Cond.lays RX0 "TrustModule$Blob" "made" "Z" ∈ tm_B := tm_in 79 (by decide +kernel) (by decide +kernel)
theorem mb_81 : Cond.laysFinal RX0 "TrustModule$Blob" "longs" "[J" ∈ tm_B := tm_in 81 (by decide +kernel) (by decide +kernel)
theorem mb_89 : Cond.fieldLink RX3 7 "TrustModule$Session" "digest" "J" ∈ tm_B := tm_in 89 (by decide +kernel) (by decide +kernel)
theorem mb_90 : Cond.fieldLink RX4 137 "TrustModule$Session" "digest" "J" ∈ tm_B := tm_in 90 (by decide +kernel) (by decide +kernel)
theorem mb_91 : Cond.fieldLink RX3 13 "TrustModule$Session" "looked" "Z" ∈ tm_B := tm_in 91 (by decide +kernel) (by decide +kernel)
theorem mb_92 : Cond.fieldLink RX4 146 "TrustModule$Session" "looked" "Z" ∈ tm_B := tm_in 92 (by decide +kernel) (by decide +kernel)
theorem mb_93 : Cond.fieldLink RX3 17 "TrustModule$Session" "countSeen" "I" ∈ tm_B := tm_in 93 (by decide +kernel) (by decide +kernel)
theorem mb_94 : Cond.fieldLink RX4 149 "TrustModule$Session" "countSeen" "I" ∈ tm_B := tm_in 94 (by decide +kernel) (by decide +kernel)
theorem mb_95 : Cond.lays RX3 "TrustModule$Session" "digest" "J" ∈ tm_B := tm_in 95 (by decide +kernel) (by decide +kernel)
theorem mb_97 : Cond.lays RX3 "TrustModule$Session" "looked" "Z" ∈ tm_B := tm_in 97 (by decide +kernel) (by decide +kernel)
theorem mb_99 : Cond.lays RX3 "TrustModule$Session" "countSeen" "I" ∈ tm_B := tm_in 99 (by decide +kernel) (by decide +kernel)
theorem mb_107 : Cond.fieldLink RX1 7 "TrustModule$Index" "defined" "Z" ∈ tm_B := tm_in 107 (by decide +kernel) (by decide +kernel)
theorem mb_108 : Cond.fieldLink RX4 167 "TrustModule$Index" "defined" "Z" ∈ tm_B := tm_in 108 (by decide +kernel) (by decide +kernel)
theorem mb_109 : Cond.fieldLink RX1 13 "TrustModule$Index" "counter" "Z" ∈ tm_B := tm_in 109 (by decide +kernel) (by decide +kernel)
theorem mb_110 : Cond.fieldLink RX4 187 "TrustModule$Index" "counter" "Z" ∈ tm_B := tm_in 110 (by decide +kernel) (by decide +kernel)
theorem mb_111 : Cond.fieldLink RX1 16 "TrustModule$Index" "policy" "J" ∈ tm_B := tm_in 111 (by decide +kernel) (by decide +kernel)
theorem mb_112 : Cond.fieldLink RX4 186 "TrustModule$Index" "policy" "J" ∈ tm_B := tm_in 112 (by decide +kernel) (by decide +kernel)
theorem mb_113 : Cond.fieldLink RX1 20 "TrustModule$Index" "written" "Z" ∈ tm_B := tm_in 113 (by decide +kernel) (by decide +kernel)
theorem mb_114 : Cond.fieldLink RX4 194 "TrustModule$Index" "written" "Z" ∈ tm_B := tm_in 114 (by decide +kernel) (by decide +kernel)
theorem mb_115 : Cond.fieldLink RX1 23 "TrustModule$Index" "value" "J" ∈ tm_B := tm_in 115 (by decide +kernel) (by decide +kernel)
theorem mb_116 : Cond.fieldLink RX4 193 "TrustModule$Index" "value" "J" ∈ tm_B := tm_in 116 (by decide +kernel) (by decide +kernel)
theorem mb_117 : Cond.lays RX1 "TrustModule$Index" "defined" "Z" ∈ tm_B := tm_in 117 (by decide +kernel) (by decide +kernel)
theorem mb_119 : Cond.lays RX1 "TrustModule$Index" "counter" "Z" ∈ tm_B := tm_in 119 (by decide +kernel) (by decide +kernel)
theorem mb_121 : Cond.lays RX1 "TrustModule$Index" "policy" "J" ∈ tm_B := tm_in 121 (by decide +kernel) (by decide +kernel)
theorem mb_123 : Cond.lays RX1 "TrustModule$Index" "written" "Z" ∈ tm_B := tm_in 123 (by decide +kernel) (by decide +kernel)
theorem mb_125 : Cond.lays RX1 "TrustModule$Index" "value" "J" ∈ tm_B := tm_in 125 (by decide +kernel) (by decide +kernel)
theorem mb_128 : Cond.methodLink RX4 54 yX4_powerComes ∈ tm_B := tm_in 128 (by decide +kernel) (by decide +kernel)
theorem mb_130 : Cond.instanceMethod yX4_powerComes ∈ tm_B := tm_in 130 (by decide +kernel) (by decide +kernel)
set_option maxRecDepth 100000 in
theorem mb_131 : Cond.code yX4_powerComes prog_1_method_34_code 3 none ∈ tm_B := tm_in 131 rfl rfl
theorem mb_132 : Cond.methodLink RX4 283 yX4_forgetPcrs ∈ tm_B := tm_in 132 (by decide +kernel) (by decide +kernel)
theorem mb_134 : Cond.instanceMethod yX4_forgetPcrs ∈ tm_B := tm_in 134 (by decide +kernel) (by decide +kernel)
set_option maxRecDepth 100000 in
theorem mb_135 : Cond.code yX4_forgetPcrs prog_1_method_35_code 3 none ∈ tm_B := tm_in 135 rfl rfl
theorem mb_136 : Cond.methodLink RX4 218 yX4_freeHandles ∈ tm_B := tm_in 136 (by decide +kernel) (by decide +kernel)
theorem mb_138 : Cond.instanceMethod yX4_freeHandles ∈ tm_B := tm_in 138 (by decide +kernel) (by decide +kernel)
set_option maxRecDepth 100000 in
theorem mb_139 : Cond.code yX4_freeHandles prog_1_method_36_code 2 none ∈ tm_B := tm_in 139 rfl rfl
theorem mb_140 : Cond.methodLink RX4 134 yX3_beginAnew ∈ tm_B := tm_in 140 (by decide +kernel) (by decide +kernel)
theorem mb_141 : Cond.instanceMethod yX3_beginAnew ∈ tm_B := tm_in 141 (by decide +kernel) (by decide +kernel)
theorem mb_142 : Cond.selects RX3 yX3_beginAnew yX3_beginAnew ∈ tm_B := tm_in 142 (by decide +kernel) (by decide +kernel)
set_option maxRecDepth 100000 in
theorem mb_143 : Cond.code yX3_beginAnew prog_5_method_2_code 1 none ∈ tm_B := tm_in 143 rfl rfl
theorem mb_144 : Cond.constantLong RX4 286 5 ∈ tm_B := tm_in 144 (by decide +kernel) (by decide +kernel)
theorem mb_145 : Cond.fieldLink RX4 9 "TrustModule" "seeds" "[J" ∈ tm_B := tm_in 145 (by decide +kernel) (by decide +kernel)
theorem mb_146 : Cond.fieldLink RX4 15 "TrustModule" "pcrs" "[[J" ∈ tm_B := tm_in 146 (by decide +kernel) (by decide +kernel)
theorem mb_147 : Cond.fieldLink RX4 20 "TrustModule" "keys" "[LTrustModule$Key;" ∈ tm_B := tm_in 147 (by decide +kernel) (by decide +kernel)
theorem mb_148 : Cond.fieldLink RX4 26 "TrustModule" "blobs" "[LTrustModule$Blob;" ∈ tm_B := tm_in 148 (by decide +kernel) (by decide +kernel)
theorem mb_149 : Cond.fieldLink RX4 32 "TrustModule" "sessions" "[LTrustModule$Session;" ∈ tm_B := tm_in 149 (by decide +kernel) (by decide +kernel)
theorem mb_150 : Cond.fieldLink RX4 38 "TrustModule" "indices" "[LTrustModule$Index;" ∈ tm_B := tm_in 150 (by decide +kernel) (by decide +kernel)
theorem mb_151 : Cond.fieldLink RX4 69 "TrustModule" "pcrCount" "I" ∈ tm_B := tm_in 151 (by decide +kernel) (by decide +kernel)
theorem mb_152 : Cond.fieldLink RX4 293 "TrustModule" "greatestCounted" "J" ∈ tm_B := tm_in 152 (by decide +kernel) (by decide +kernel)
theorem mb_153 : Cond.fieldLink RX4 231 "TrustModule" "powerLeft" "I" ∈ tm_B := tm_in 153 (by decide +kernel) (by decide +kernel)
theorem mb_154 : Cond.fieldLink RX4 234 "TrustModule" "lost" "Z" ∈ tm_B := tm_in 154 (by decide +kernel) (by decide +kernel)
theorem mb_155 : Cond.fieldLink RX4 243 "TrustModule" "timesLost" "I" ∈ tm_B := tm_in 155 (by decide +kernel) (by decide +kernel)
theorem mb_156 : Cond.fieldLink RX4 221 "TrustModule" "wrongGuesses" "I" ∈ tm_B := tm_in 156 (by decide +kernel) (by decide +kernel)
theorem mb_157 : Cond.fieldLink RX4 288 "TrustModule" "mark" "D" ∈ tm_B := tm_in 157 (by decide +kernel) (by decide +kernel)
theorem mb_158 : Cond.fieldLink RX4 202 "TrustModule" "now" "D" ∈ tm_B := tm_in 158 (by decide +kernel) (by decide +kernel)
theorem mb_159 : Cond.fieldLink RX4 50 "TrustModule" "pace" "D" ∈ tm_B := tm_in 159 (by decide +kernel) (by decide +kernel)
theorem mb_160 : Cond.laysFinal RX4 "TrustModule" "seeds" "[J" ∈ tm_B := tm_in 160 (by decide +kernel) (by decide +kernel)
theorem mb_162 : Cond.laysFinal RX4 "TrustModule" "pcrs" "[[J" ∈ tm_B := tm_in 162 (by decide +kernel) (by decide +kernel)
theorem mb_164 : Cond.laysFinal RX4 "TrustModule" "keys" "[LTrustModule$Key;" ∈ tm_B := tm_in 164 (by decide +kernel) (by decide +kernel)
theorem mb_166 : Cond.laysFinal RX4 "TrustModule" "blobs" "[LTrustModule$Blob;" ∈ tm_B := tm_in 166 (by decide +kernel) (by decide +kernel)
theorem mb_168 : Cond.laysFinal RX4 "TrustModule" "sessions" "[LTrustModule$Session;" ∈ tm_B := tm_in 168 (by decide +kernel) (by decide +kernel)
theorem mb_170 : Cond.laysFinal RX4 "TrustModule" "indices" "[LTrustModule$Index;" ∈ tm_B := tm_in 170 (by decide +kernel) (by decide +kernel)
theorem mb_172 : Cond.lays RX4 "TrustModule" "pcrCount" "I" ∈ tm_B := tm_in 172 (by decide +kernel) (by decide +kernel)
theorem mb_174 : Cond.lays RX4 "TrustModule" "greatestCounted" "J" ∈ tm_B := tm_in 174 (by decide +kernel) (by decide +kernel)
theorem mb_176 : Cond.lays RX4 "TrustModule" "powerLeft" "I" ∈ tm_B := tm_in 176 (by decide +kernel) (by decide +kernel)
theorem mb_178 : Cond.lays RX4 "TrustModule" "lost" "Z" ∈ tm_B := tm_in 178 (by decide +kernel) (by decide +kernel)
theorem mb_180 : Cond.lays RX4 "TrustModule" "timesLost" "I" ∈ tm_B := tm_in 180 (by decide +kernel) (by decide +kernel)
theorem mb_182 : Cond.lays RX4 "TrustModule" "wrongGuesses" "I" ∈ tm_B := tm_in 182 (by decide +kernel) (by decide +kernel)
theorem mb_184 : Cond.lays RX4 "TrustModule" "mark" "D" ∈ tm_B := tm_in 184 (by decide +kernel) (by decide +kernel)
theorem mb_186 : Cond.lays RX4 "TrustModule" "now" "D" ∈ tm_B := tm_in 186 (by decide +kernel) (by decide +kernel)
theorem mb_188 : Cond.lays RX4 "TrustModule" "pace" "D" ∈ tm_B := tm_in 188 (by decide +kernel) (by decide +kernel)
theorem mb_195 : Cond.methodLink RX4 228 yX4_heldKeys ∈ tm_B := tm_in 195 (by decide +kernel) (by decide +kernel)
theorem mb_197 : Cond.instanceMethod yX4_heldKeys ∈ tm_B := tm_in 197 (by decide +kernel) (by decide +kernel)
set_option maxRecDepth 100000 in
theorem mb_198 : Cond.code yX4_heldKeys prog_1_method_44_code 3 (some .int) ∈ tm_B := tm_in 198 rfl rfl
theorem mb_199 : Cond.methodLink RX4 237 yX4_definedIndices ∈ tm_B := tm_in 199 (by decide +kernel) (by decide +kernel)
theorem mb_201 : Cond.instanceMethod yX4_definedIndices ∈ tm_B := tm_in 201 (by decide +kernel) (by decide +kernel)
set_option maxRecDepth 100000 in
theorem mb_202 : Cond.code yX4_definedIndices prog_1_method_45_code 3 (some .int) ∈ tm_B := tm_in 202 rfl rfl
theorem mb_203 : Cond.methodLink RX4 240 yX4_madeBlobs ∈ tm_B := tm_in 203 (by decide +kernel) (by decide +kernel)
theorem mb_205 : Cond.instanceMethod yX4_madeBlobs ∈ tm_B := tm_in 205 (by decide +kernel) (by decide +kernel)
set_option maxRecDepth 100000 in
theorem mb_206 : Cond.code yX4_madeBlobs prog_1_method_46_code 3 (some .int) ∈ tm_B := tm_in 206 rfl rfl
theorem mb_222 : Cond.methodLink RX4 58 yX4_refuseOutside ∈ tm_B := tm_in 222 (by decide +kernel) (by decide +kernel)
theorem mb_223 : Cond.static yX4_refuseOutside ∈ tm_B := tm_in 223 (by decide +kernel) (by decide +kernel)
set_option maxRecDepth 100000 in
theorem mb_224 : Cond.code yX4_refuseOutside prog_1_method_25_code 3 none ∈ tm_B := tm_in 224 rfl rfl
theorem mb_225 : Cond.classLink RX4 252 "java/lang/IllegalArgumentException" ∈ tm_B := tm_in 225 (by decide +kernel) (by decide +kernel)
theorem mb_303 : Cond.methodLink RX4 62 yX4_refuseUnlessBelow ∈ tm_B := tm_in 303 (by decide +kernel) (by decide +kernel)
theorem mb_304 : Cond.static yX4_refuseUnlessBelow ∈ tm_B := tm_in 304 (by decide +kernel) (by decide +kernel)
set_option maxRecDepth 100000 in
theorem mb_305 : Cond.code yX4_refuseUnlessBelow prog_1_method_26_code 2 none ∈ tm_B := tm_in 305 rfl rfl
theorem mb_306 : Cond.methodLink RX4 66 yX4_refuseWhenLost ∈ tm_B := tm_in 306 (by decide +kernel) (by decide +kernel)
theorem mb_308 : Cond.instanceMethod yX4_refuseWhenLost ∈ tm_B := tm_in 308 (by decide +kernel) (by decide +kernel)
set_option maxRecDepth 100000 in
theorem mb_309 : Cond.code yX4_refuseWhenLost prog_1_method_27_code 1 none ∈ tm_B := tm_in 309 rfl rfl
theorem mb_310 : Cond.classLink RX4 170 "java/lang/IllegalStateException" ∈ tm_B := tm_in 310 (by decide +kernel) (by decide +kernel)
theorem mb_333 : Cond.methodLink RX4 73 yX4_leastFreeHandle ∈ tm_B := tm_in 333 (by decide +kernel) (by decide +kernel)
theorem mb_335 : Cond.instanceMethod yX4_leastFreeHandle ∈ tm_B := tm_in 335 (by decide +kernel) (by decide +kernel)
set_option maxRecDepth 100000 in
theorem mb_336 : Cond.code yX4_leastFreeHandle prog_1_method_33_code 2 (some .int) ∈ tm_B := tm_in 336 rfl rfl
theorem mb_338 : Cond.methodLink RX4 77 yX2_hold ∈ tm_B := tm_in 338 (by decide +kernel) (by decide +kernel)
theorem mb_339 : Cond.instanceMethod yX2_hold ∈ tm_B := tm_in 339 (by decide +kernel) (by decide +kernel)
theorem mb_340 : Cond.selects RX2 yX2_hold yX2_hold ∈ tm_B := tm_in 340 (by decide +kernel) (by decide +kernel)
set_option maxRecDepth 100000 in
theorem mb_341 : Cond.code yX2_hold prog_4_method_2_code 9 none ∈ tm_B := tm_in 341 rfl rfl
theorem mb_351 : Cond.methodLink RX4 81 yX4_heldKey ∈ tm_B := tm_in 351 (by decide +kernel) (by decide +kernel)
theorem mb_353 : Cond.instanceMethod yX4_heldKey ∈ tm_B := tm_in 353 (by decide +kernel) (by decide +kernel)
set_option maxRecDepth 100000 in
theorem mb_354 : Cond.code yX4_heldKey prog_1_method_30_code 2 (some (.object "TrustModule$Key")) ∈ tm_B := tm_in 354 rfl rfl
theorem mb_355 : Cond.classLink RX4 197 "java/util/NoSuchElementException" ∈ tm_B := tm_in 355 (by decide +kernel) (by decide +kernel)
theorem mb_371 : Cond.methodLink RX4 85 yX4_refuseUnlessParent ∈ tm_B := tm_in 371 (by decide +kernel) (by decide +kernel)
theorem mb_372 : Cond.static yX4_refuseUnlessParent ∈ tm_B := tm_in 372 (by decide +kernel) (by decide +kernel)
set_option maxRecDepth 100000 in
theorem mb_373 : Cond.code yX4_refuseUnlessParent prog_1_method_28_code 1 none ∈ tm_B := tm_in 373 rfl rfl
theorem mb_374 : Cond.classLink RX4 152 "java/lang/UnsupportedOperationException" ∈ tm_B := tm_in 374 (by decide +kernel) (by decide +kernel)
theorem mb_390 : Cond.methodLink RX4 93 yX0_wrap ∈ tm_B := tm_in 390 (by decide +kernel) (by decide +kernel)
theorem mb_391 : Cond.instanceMethod yX0_wrap ∈ tm_B := tm_in 391 (by decide +kernel) (by decide +kernel)
theorem mb_392 : Cond.selects RX0 yX0_wrap yX0_wrap ∈ tm_B := tm_in 392 (by decide +kernel) (by decide +kernel)
set_option maxRecDepth 100000 in
theorem mb_393 : Cond.code yX0_wrap prog_2_method_2_code 8 none ∈ tm_B := tm_in 393 rfl rfl
theorem mb_395 : Cond.constantLong RX0 23 2 ∈ tm_B := tm_in 395 (by decide +kernel) (by decide +kernel)
theorem mb_396 : Cond.methodLink RX0 25 yX0_sealUnder ∈ tm_B := tm_in 396 (by decide +kernel) (by decide +kernel)
theorem mb_397 : Cond.instanceMethod yX0_sealUnder ∈ tm_B := tm_in 397 (by decide +kernel) (by decide +kernel)
theorem mb_398 : Cond.selects RX0 yX0_sealUnder yX0_sealUnder ∈ tm_B := tm_in 398 (by decide +kernel) (by decide +kernel)
set_option maxRecDepth 100000 in
theorem mb_399 : Cond.code yX0_sealUnder prog_2_method_3_code 3 (some .long) ∈ tm_B := tm_in 399 rfl rfl
theorem mb_400 : Cond.constantLong RX0 29 3 ∈ tm_B := tm_in 400 (by decide +kernel) (by decide +kernel)
theorem mb_409 : Cond.methodLink RX4 97 yX4_madeBlob ∈ tm_B := tm_in 409 (by decide +kernel) (by decide +kernel)
theorem mb_411 : Cond.instanceMethod yX4_madeBlob ∈ tm_B := tm_in 411 (by decide +kernel) (by decide +kernel)
set_option maxRecDepth 100000 in
theorem mb_412 : Cond.code yX4_madeBlob prog_1_method_31_code 2 (some (.object "TrustModule$Blob")) ∈ tm_B := tm_in 412 rfl rfl
theorem mb_414 : Cond.methodLink RX4 101 yX4_refuseTampered ∈ tm_B := tm_in 414 (by decide +kernel) (by decide +kernel)
theorem mb_415 : Cond.static yX4_refuseTampered ∈ tm_B := tm_in 415 (by decide +kernel) (by decide +kernel)
set_option maxRecDepth 100000 in
theorem mb_416 : Cond.code yX4_refuseTampered prog_1_method_29_code 3 none ∈ tm_B := tm_in 416 rfl rfl
theorem mb_417 : Cond.methodLink RX4 264 yX0_sealUnder ∈ tm_B := tm_in 417 (by decide +kernel) (by decide +kernel)
theorem mb_418 : Cond.classLink RX4 267 "java/lang/ArithmeticException" ∈ tm_B := tm_in 418 (by decide +kernel) (by decide +kernel)
theorem mb_434 : Cond.methodLink RX4 105 yX0_secretUnder ∈ tm_B := tm_in 434 (by decide +kernel) (by decide +kernel)
theorem mb_435 : Cond.instanceMethod yX0_secretUnder ∈ tm_B := tm_in 435 (by decide +kernel) (by decide +kernel)
theorem mb_436 : Cond.selects RX0 yX0_secretUnder yX0_secretUnder ∈ tm_B := tm_in 436 (by decide +kernel) (by decide +kernel)
set_option maxRecDepth 100000 in
theorem mb_437 : Cond.code yX0_secretUnder prog_2_method_4_code 3 (some .long) ∈ tm_B := tm_in 437 rfl rfl
theorem mb_438 : Cond.methodLink RX4 112 yX0_wordUnder ∈ tm_B := tm_in 438 (by decide +kernel) (by decide +kernel)
theorem mb_439 : Cond.instanceMethod yX0_wordUnder ∈ tm_B := tm_in 439 (by decide +kernel) (by decide +kernel)
theorem mb_440 : Cond.selects RX0 yX0_wordUnder yX0_wordUnder ∈ tm_B := tm_in 440 (by decide +kernel) (by decide +kernel)
set_option maxRecDepth 100000 in
theorem mb_441 : Cond.code yX0_wordUnder prog_2_method_5_code 3 (some .int) ∈ tm_B := tm_in 441 rfl rfl
theorem mb_463 : Cond.methodLink RX4 120 yX4_allowByWord ∈ tm_B := tm_in 463 (by decide +kernel) (by decide +kernel)
theorem mb_465 : Cond.instanceMethod yX4_allowByWord ∈ tm_B := tm_in 465 (by decide +kernel) (by decide +kernel)
set_option maxRecDepth 100000 in
theorem mb_466 : Cond.code yX4_allowByWord prog_1_method_39_code 3 none ∈ tm_B := tm_in 466 rfl rfl
theorem mb_476 : Cond.methodLink RX4 130 yX4_allowBySession ∈ tm_B := tm_in 476 (by decide +kernel) (by decide +kernel)
theorem mb_478 : Cond.instanceMethod yX4_allowBySession ∈ tm_B := tm_in 478 (by decide +kernel) (by decide +kernel)
set_option maxRecDepth 100000 in
theorem mb_479 : Cond.code yX4_allowBySession prog_1_method_40_code 4 none ∈ tm_B := tm_in 479 rfl rfl
theorem mb_496 : Cond.constantLong RX4 140 11 ∈ tm_B := tm_in 496 (by decide +kernel) (by decide +kernel)
theorem mb_497 : Cond.methodLink RX4 142 yX4_hashOfPcrs ∈ tm_B := tm_in 497 (by decide +kernel) (by decide +kernel)
theorem mb_499 : Cond.instanceMethod yX4_hashOfPcrs ∈ tm_B := tm_in 499 (by decide +kernel) (by decide +kernel)
set_option maxRecDepth 100000 in
theorem mb_500 : Cond.code yX4_hashOfPcrs prog_1_method_41_code 6 (some .long) ∈ tm_B := tm_in 500 rfl rfl
theorem mb_509 : Cond.constantLong RX4 159 12 ∈ tm_B := tm_in 509 (by decide +kernel) (by decide +kernel)
theorem mb_517 : Cond.constantLong RX4 161 13 ∈ tm_B := tm_in 517 (by decide +kernel) (by decide +kernel)
theorem mb_518 : Cond.methodLink RX4 163 yX2_name ∈ tm_B := tm_in 518 (by decide +kernel) (by decide +kernel)
theorem mb_519 : Cond.instanceMethod yX2_name ∈ tm_B := tm_in 519 (by decide +kernel) (by decide +kernel)
theorem mb_520 : Cond.selects RX2 yX2_name yX2_name ∈ tm_B := tm_in 520 (by decide +kernel) (by decide +kernel)
set_option maxRecDepth 100000 in
theorem mb_521 : Cond.code yX2_name prog_4_method_3_code 1 (some .long) ∈ tm_B := tm_in 521 rfl rfl
theorem mb_531 : Cond.methodLink RX4 175 yX4_useParts ∈ tm_B := tm_in 531 (by decide +kernel) (by decide +kernel)
theorem mb_533 : Cond.instanceMethod yX4_useParts ∈ tm_B := tm_in 533 (by decide +kernel) (by decide +kernel)
set_option maxRecDepth 100000 in
theorem mb_534 : Cond.code yX4_useParts prog_1_method_37_code 2 none ∈ tm_B := tm_in 534 rfl rfl
theorem mb_536 : Cond.methodLink RX4 178 yX1_begin ∈ tm_B := tm_in 536 (by decide +kernel) (by decide +kernel)
theorem mb_537 : Cond.instanceMethod yX1_begin ∈ tm_B := tm_in 537 (by decide +kernel) (by decide +kernel)
theorem mb_538 : Cond.selects RX1 yX1_begin yX1_begin ∈ tm_B := tm_in 538 (by decide +kernel) (by decide +kernel)
set_option maxRecDepth 100000 in
theorem mb_539 : Cond.code yX1_begin prog_3_method_2_code 4 none ∈ tm_B := tm_in 539 rfl rfl
theorem mb_547 : Cond.methodLink RX4 182 yX4_definedIndex ∈ tm_B := tm_in 547 (by decide +kernel) (by decide +kernel)
theorem mb_549 : Cond.instanceMethod yX4_definedIndex ∈ tm_B := tm_in 549 (by decide +kernel) (by decide +kernel)
set_option maxRecDepth 100000 in
theorem mb_550 : Cond.code yX4_definedIndex prog_1_method_32_code 2 (some (.object "TrustModule$Index")) ∈ tm_B := tm_in 550 rfl rfl
theorem mb_559 : Cond.methodLink RX4 190 yX4_nextCounted ∈ tm_B := tm_in 559 (by decide +kernel) (by decide +kernel)
theorem mb_561 : Cond.instanceMethod yX4_nextCounted ∈ tm_B := tm_in 561 (by decide +kernel) (by decide +kernel)
set_option maxRecDepth 100000 in
theorem mb_562 : Cond.code yX4_nextCounted prog_1_method_38_code 1 (some .long) ∈ tm_B := tm_in 562 rfl rfl
theorem mb_578 : Cond.methodLink RX4 205 yX4_forgiveGuesses ∈ tm_B := tm_in 578 (by decide +kernel) (by decide +kernel)
theorem mb_580 : Cond.instanceMethod yX4_forgiveGuesses ∈ tm_B := tm_in 580 (by decide +kernel) (by decide +kernel)
set_option maxRecDepth 100000 in
theorem mb_581 : Cond.code yX4_forgiveGuesses prog_1_method_42_code 1 none ∈ tm_B := tm_in 581 rfl rfl
theorem mb_582 : Cond.constantDouble RX4 307 4621819117588971520 ∈ tm_B := tm_in 582 (by decide +kernel) (by decide +kernel)
theorem mb_583 : Cond.constantDouble RX4 208 4608308318706860032 ∈ tm_B := tm_in 583 (by decide +kernel) (by decide +kernel)
theorem mb_584 : Cond.methodLink RX4 210 yX4_setPace ∈ tm_B := tm_in 584 (by decide +kernel) (by decide +kernel)
theorem mb_586 : Cond.instanceMethod yX4_setPace ∈ tm_B := tm_in 586 (by decide +kernel) (by decide +kernel)
set_option maxRecDepth 100000 in
theorem mb_587 : Cond.code yX4_setPace prog_1_method_43_code 3 none ∈ tm_B := tm_in 587 rfl rfl
theorem mb_588 : Cond.constantDouble RX4 309 4598175219545276416 ∈ tm_B := tm_in 588 (by decide +kernel) (by decide +kernel)
theorem mb_589 : Cond.constantDouble RX4 311 4616189618054758400 ∈ tm_B := tm_in 589 (by decide +kernel) (by decide +kernel)
theorem mb_590 : Cond.constantDouble RX4 214 4604930618986332160 ∈ tm_B := tm_in 590 (by decide +kernel) (by decide +kernel)
theorem mb_598 : Cond.constantLong RX4 216 4 ∈ tm_B := tm_in 598 (by decide +kernel) (by decide +kernel)
theorem mb_606 : Cond.fieldLink RX4 224 "TrustModule" "TOLD_SIZES" "[I" ∈ tm_B := tm_in 606 (by decide +kernel) (by decide +kernel)
theorem mb_614 : Cond.methodLink RX5 74 yX5_mix ∈ tm_B := tm_in 614 (by decide +kernel) (by decide +kernel)
theorem mb_616 : Cond.instanceMethod yX5_mix ∈ tm_B := tm_in 616 (by decide +kernel) (by decide +kernel)
set_option maxRecDepth 100000 in
theorem mb_617 : Cond.code yX5_mix prog_7_method_3_code 7 (some .long) ∈ tm_B := tm_in 617 rfl rfl
theorem mb_618 : Cond.constantLong RX5 84 1000003 ∈ tm_B := tm_in 618 (by decide +kernel) (by decide +kernel)
theorem mb_619 : Cond.constantLong RX5 86 (-7046029254386353131) ∈ tm_B := tm_in 619 (by decide +kernel) (by decide +kernel)
theorem mb_620 : Cond.constantLong RX5 88 31 ∈ tm_B := tm_in 620 (by decide +kernel) (by decide +kernel)
theorem mb_621 : Cond.methodLink RX5 78 yX5_come ∈ tm_B := tm_in 621 (by decide +kernel) (by decide +kernel)
theorem mb_623 : Cond.instanceMethod yX5_come ∈ tm_B := tm_in 623 (by decide +kernel) (by decide +kernel)
set_option maxRecDepth 100000 in
theorem mb_624 : Cond.code yX5_come prog_7_method_4_code 2 none ∈ tm_B := tm_in 624 rfl rfl
theorem mb_625 : Cond.constantLong RX5 103 5 ∈ tm_B := tm_in 625 (by decide +kernel) (by decide +kernel)
theorem mb_626 : Cond.methodLink RX5 105 yX5_anew ∈ tm_B := tm_in 626 (by decide +kernel) (by decide +kernel)
theorem mb_628 : Cond.instanceMethod yX5_anew ∈ tm_B := tm_in 628 (by decide +kernel) (by decide +kernel)
set_option maxRecDepth 100000 in
theorem mb_629 : Cond.code yX5_anew prog_7_method_5_code 2 none ∈ tm_B := tm_in 629 rfl rfl
theorem mb_630 : Cond.fieldLink RX5 7 "TrustModuleModel" "seed" "[J" ∈ tm_B := tm_in 630 (by decide +kernel) (by decide +kernel)
theorem mb_631 : Cond.fieldLink RX5 13 "TrustModuleModel" "pcr" "[J" ∈ tm_B := tm_in 631 (by decide +kernel) (by decide +kernel)
theorem mb_632 : Cond.fieldLink RX5 16 "TrustModuleModel" "digest" "[J" ∈ tm_B := tm_in 632 (by decide +kernel) (by decide +kernel)
theorem mb_633 : Cond.fieldLink RX5 19 "TrustModuleModel" "blob" "[J" ∈ tm_B := tm_in 633 (by decide +kernel) (by decide +kernel)
theorem mb_634 : Cond.fieldLink RX5 22 "TrustModuleModel" "cell" "[J" ∈ tm_B := tm_in 634 (by decide +kernel) (by decide +kernel)
theorem mb_635 : Cond.fieldLink RX5 25 "TrustModuleModel" "cellPolicy" "[J" ∈ tm_B := tm_in 635 (by decide +kernel) (by decide +kernel)
theorem mb_636 : Cond.fieldLink RX5 28 "TrustModuleModel" "keyValue" "[J" ∈ tm_B := tm_in 636 (by decide +kernel) (by decide +kernel)
theorem mb_637 : Cond.fieldLink RX5 31 "TrustModuleModel" "policy" "[J" ∈ tm_B := tm_in 637 (by decide +kernel) (by decide +kernel)
theorem mb_638 : Cond.fieldLink RX5 34 "TrustModuleModel" "secret" "[J" ∈ tm_B := tm_in 638 (by decide +kernel) (by decide +kernel)
theorem mb_639 : Cond.fieldLink RX5 37 "TrustModuleModel" "word" "[I" ∈ tm_B := tm_in 639 (by decide +kernel) (by decide +kernel)
theorem mb_640 : Cond.fieldLink RX5 41 "TrustModuleModel" "seen" "[I" ∈ tm_B := tm_in 640 (by decide +kernel) (by decide +kernel)
theorem mb_641 : Cond.fieldLink RX5 44 "TrustModuleModel" "used" "[Z" ∈ tm_B := tm_in 641 (by decide +kernel) (by decide +kernel)
theorem mb_642 : Cond.fieldLink RX5 48 "TrustModuleModel" "isParent" "[Z" ∈ tm_B := tm_in 642 (by decide +kernel) (by decide +kernel)
theorem mb_643 : Cond.fieldLink RX5 51 "TrustModuleModel" "there" "[Z" ∈ tm_B := tm_in 643 (by decide +kernel) (by decide +kernel)
theorem mb_644 : Cond.fieldLink RX5 54 "TrustModuleModel" "looked" "[Z" ∈ tm_B := tm_in 644 (by decide +kernel) (by decide +kernel)
theorem mb_645 : Cond.fieldLink RX5 57 "TrustModuleModel" "defined" "[Z" ∈ tm_B := tm_in 645 (by decide +kernel) (by decide +kernel)
theorem mb_646 : Cond.fieldLink RX5 60 "TrustModuleModel" "counting" "[Z" ∈ tm_B := tm_in 646 (by decide +kernel) (by decide +kernel)
theorem mb_647 : Cond.fieldLink RX5 63 "TrustModuleModel" "filled" "[Z" ∈ tm_B := tm_in 647 (by decide +kernel) (by decide +kernel)
theorem mb_648 : Cond.fieldLink RX5 94 "TrustModuleModel" "pcrCount" "I" ∈ tm_B := tm_in 648 (by decide +kernel) (by decide +kernel)
theorem mb_649 : Cond.fieldLink RX5 133 "TrustModuleModel" "guesses" "I" ∈ tm_B := tm_in 649 (by decide +kernel) (by decide +kernel)
theorem mb_650 : Cond.fieldLink RX5 66 "TrustModuleModel" "power" "I" ∈ tm_B := tm_in 650 (by decide +kernel) (by decide +kernel)
theorem mb_651 : Cond.fieldLink RX5 154 "TrustModuleModel" "losses" "I" ∈ tm_B := tm_in 651 (by decide +kernel) (by decide +kernel)
theorem mb_652 : Cond.fieldLink RX5 81 "TrustModuleModel" "thrown" "I" ∈ tm_B := tm_in 652 (by decide +kernel) (by decide +kernel)
theorem mb_653 : Cond.fieldLink RX5 90 "TrustModuleModel" "lost" "Z" ∈ tm_B := tm_in 653 (by decide +kernel) (by decide +kernel)
theorem mb_654 : Cond.fieldLink RX5 161 "TrustModuleModel" "highest" "J" ∈ tm_B := tm_in 654 (by decide +kernel) (by decide +kernel)
theorem mb_655 : Cond.fieldLink RX5 97 "TrustModuleModel" "clock" "D" ∈ tm_B := tm_in 655 (by decide +kernel) (by decide +kernel)
theorem mb_656 : Cond.fieldLink RX5 100 "TrustModuleModel" "mark" "D" ∈ tm_B := tm_in 656 (by decide +kernel) (by decide +kernel)
theorem mb_657 : Cond.fieldLink RX5 70 "TrustModuleModel" "rate" "D" ∈ tm_B := tm_in 657 (by decide +kernel) (by decide +kernel)
theorem mb_658 : Cond.laysFinal RX5 "TrustModuleModel" "seed" "[J" ∈ tm_B := tm_in 658 (by decide +kernel) (by decide +kernel)
theorem mb_660 : Cond.laysFinal RX5 "TrustModuleModel" "pcr" "[J" ∈ tm_B := tm_in 660 (by decide +kernel) (by decide +kernel)
theorem mb_662 : Cond.laysFinal RX5 "TrustModuleModel" "digest" "[J" ∈ tm_B := tm_in 662 (by decide +kernel) (by decide +kernel)
theorem mb_664 : Cond.laysFinal RX5 "TrustModuleModel" "blob" "[J" ∈ tm_B := tm_in 664 (by decide +kernel) (by decide +kernel)
theorem mb_666 : Cond.laysFinal RX5 "TrustModuleModel" "cell" "[J" ∈ tm_B := tm_in 666 (by decide +kernel) (by decide +kernel)
theorem mb_668 : Cond.laysFinal RX5 "TrustModuleModel" "cellPolicy" "[J" ∈ tm_B := tm_in 668 (by decide +kernel) (by decide +kernel)
theorem mb_670 : Cond.laysFinal RX5 "TrustModuleModel" "keyValue" "[J" ∈ tm_B := tm_in 670 (by decide +kernel) (by decide +kernel)
theorem mb_672 : Cond.laysFinal RX5 "TrustModuleModel" "policy" "[J" ∈ tm_B := tm_in 672 (by decide +kernel) (by decide +kernel)
theorem mb_674 : Cond.laysFinal RX5 "TrustModuleModel" "secret" "[J" ∈ tm_B := tm_in 674 (by decide +kernel) (by decide +kernel)
theorem mb_676 : Cond.laysFinal RX5 "TrustModuleModel" "word" "[I" ∈ tm_B := tm_in 676 (by decide +kernel) (by decide +kernel)
theorem mb_678 : Cond.laysFinal RX5 "TrustModuleModel" "seen" "[I" ∈ tm_B := tm_in 678 (by decide +kernel) (by decide +kernel)
theorem mb_680 : Cond.laysFinal RX5 "TrustModuleModel" "used" "[Z" ∈ tm_B := tm_in 680 (by decide +kernel) (by decide +kernel)
theorem mb_682 : Cond.laysFinal RX5 "TrustModuleModel" "isParent" "[Z" ∈ tm_B := tm_in 682 (by decide +kernel) (by decide +kernel)
theorem mb_684 : Cond.laysFinal RX5 "TrustModuleModel" "there" "[Z" ∈ tm_B := tm_in 684 (by decide +kernel) (by decide +kernel)
theorem mb_686 : Cond.laysFinal RX5 "TrustModuleModel" "looked" "[Z" ∈ tm_B := tm_in 686 (by decide +kernel) (by decide +kernel)
theorem mb_688 : Cond.laysFinal RX5 "TrustModuleModel" "defined" "[Z" ∈ tm_B := tm_in 688 (by decide +kernel) (by decide +kernel)
theorem mb_690 : Cond.laysFinal RX5 "TrustModuleModel" "counting" "[Z" ∈ tm_B := tm_in 690 (by decide +kernel) (by decide +kernel)
theorem mb_692 : Cond.laysFinal RX5 "TrustModuleModel" "filled" "[Z" ∈ tm_B := tm_in 692 (by decide +kernel) (by decide +kernel)
theorem mb_694 : Cond.lays RX5 "TrustModuleModel" "pcrCount" "I" ∈ tm_B := tm_in 694 (by decide +kernel) (by decide +kernel)
theorem mb_696 : Cond.lays RX5 "TrustModuleModel" "guesses" "I" ∈ tm_B := tm_in 696 (by decide +kernel) (by decide +kernel)
theorem mb_698 : Cond.lays RX5 "TrustModuleModel" "power" "I" ∈ tm_B := tm_in 698 (by decide +kernel) (by decide +kernel)
theorem mb_700 : Cond.lays RX5 "TrustModuleModel" "losses" "I" ∈ tm_B := tm_in 700 (by decide +kernel) (by decide +kernel)
theorem mb_702 : Cond.lays RX5 "TrustModuleModel" "thrown" "I" ∈ tm_B := tm_in 702 (by decide +kernel) (by decide +kernel)
theorem mb_704 : Cond.lays RX5 "TrustModuleModel" "lost" "Z" ∈ tm_B := tm_in 704 (by decide +kernel) (by decide +kernel)
theorem mb_706 : Cond.lays RX5 "TrustModuleModel" "highest" "J" ∈ tm_B := tm_in 706 (by decide +kernel) (by decide +kernel)
theorem mb_708 : Cond.lays RX5 "TrustModuleModel" "clock" "D" ∈ tm_B := tm_in 708 (by decide +kernel) (by decide +kernel)
theorem mb_710 : Cond.lays RX5 "TrustModuleModel" "mark" "D" ∈ tm_B := tm_in 710 (by decide +kernel) (by decide +kernel)
theorem mb_712 : Cond.lays RX5 "TrustModuleModel" "rate" "D" ∈ tm_B := tm_in 712 (by decide +kernel) (by decide +kernel)
theorem mb_729 : Cond.methodLink RX5 109 yX5_out ∈ tm_B := tm_in 729 (by decide +kernel) (by decide +kernel)
theorem mb_731 : Cond.instanceMethod yX5_out ∈ tm_B := tm_in 731 (by decide +kernel) (by decide +kernel)
set_option maxRecDepth 100000 in
theorem mb_732 : Cond.code yX5_out prog_7_method_6_code 3 (some .boolean) ∈ tm_B := tm_in 732 rfl rfl
theorem mb_733 : Cond.methodLink RX5 113 yX5_begin ∈ tm_B := tm_in 733 (by decide +kernel) (by decide +kernel)
theorem mb_735 : Cond.instanceMethod yX5_begin ∈ tm_B := tm_in 735 (by decide +kernel) (by decide +kernel)
set_option maxRecDepth 100000 in
theorem mb_736 : Cond.code yX5_begin prog_7_method_7_code 2 (some .boolean) ∈ tm_B := tm_in 736 rfl rfl
theorem mb_741 : Cond.methodLink RX5 121 yX5_key ∈ tm_B := tm_in 741 (by decide +kernel) (by decide +kernel)
theorem mb_743 : Cond.instanceMethod yX5_key ∈ tm_B := tm_in 743 (by decide +kernel) (by decide +kernel)
set_option maxRecDepth 100000 in
theorem mb_744 : Cond.code yX5_key prog_7_method_12_code 10 (some .int) ∈ tm_B := tm_in 744 rfl rfl
theorem mb_745 : Cond.methodLink RX5 117 yX5_room ∈ tm_B := tm_in 745 (by decide +kernel) (by decide +kernel)
theorem mb_747 : Cond.instanceMethod yX5_room ∈ tm_B := tm_in 747 (by decide +kernel) (by decide +kernel)
set_option maxRecDepth 100000 in
theorem mb_748 : Cond.code yX5_room prog_7_method_11_code 2 (some .int) ∈ tm_B := tm_in 748 rfl rfl
theorem mb_753 : Cond.constantLong RX5 127 2 ∈ tm_B := tm_in 753 (by decide +kernel) (by decide +kernel)
theorem mb_754 : Cond.methodLink RX5 129 yX5_seal ∈ tm_B := tm_in 754 (by decide +kernel) (by decide +kernel)
theorem mb_756 : Cond.instanceMethod yX5_seal ∈ tm_B := tm_in 756 (by decide +kernel) (by decide +kernel)
set_option maxRecDepth 100000 in
theorem mb_757 : Cond.code yX5_seal prog_7_method_14_code 3 (some .long) ∈ tm_B := tm_in 757 rfl rfl
theorem mb_758 : Cond.constantLong RX5 125 3 ∈ tm_B := tm_in 758 (by decide +kernel) (by decide +kernel)
theorem mb_775 : Cond.methodLink RX5 136 yX5_allowed ∈ tm_B := tm_in 775 (by decide +kernel) (by decide +kernel)
theorem mb_777 : Cond.instanceMethod yX5_allowed ∈ tm_B := tm_in 777 (by decide +kernel) (by decide +kernel)
set_option maxRecDepth 100000 in
theorem mb_778 : Cond.code yX5_allowed prog_7_method_19_code 3 (some .int) ∈ tm_B := tm_in 778 rfl rfl
theorem mb_783 : Cond.methodLink RX5 140 yX5_satisfied ∈ tm_B := tm_in 783 (by decide +kernel) (by decide +kernel)
theorem mb_785 : Cond.instanceMethod yX5_satisfied ∈ tm_B := tm_in 785 (by decide +kernel) (by decide +kernel)
set_option maxRecDepth 100000 in
theorem mb_786 : Cond.code yX5_satisfied prog_7_method_20_code 4 (some .int) ∈ tm_B := tm_in 786 rfl rfl
theorem mb_795 : Cond.constantLong RX5 144 11 ∈ tm_B := tm_in 795 (by decide +kernel) (by decide +kernel)
theorem mb_800 : Cond.constantLong RX5 146 12 ∈ tm_B := tm_in 800 (by decide +kernel) (by decide +kernel)
theorem mb_805 : Cond.constantLong RX5 148 13 ∈ tm_B := tm_in 805 (by decide +kernel) (by decide +kernel)
theorem mb_806 : Cond.methodLink RX5 150 yX5_name ∈ tm_B := tm_in 806 (by decide +kernel) (by decide +kernel)
theorem mb_808 : Cond.instanceMethod yX5_name ∈ tm_B := tm_in 808 (by decide +kernel) (by decide +kernel)
set_option maxRecDepth 100000 in
theorem mb_809 : Cond.code yX5_name prog_7_method_8_code 2 (some .long) ∈ tm_B := tm_in 809 rfl rfl
theorem mb_814 : Cond.methodLink RX5 157 yX5_lasts ∈ tm_B := tm_in 814 (by decide +kernel) (by decide +kernel)
theorem mb_816 : Cond.instanceMethod yX5_lasts ∈ tm_B := tm_in 816 (by decide +kernel) (by decide +kernel)
set_option maxRecDepth 100000 in
theorem mb_817 : Cond.code yX5_lasts prog_7_method_27_code 3 (some .boolean) ∈ tm_B := tm_in 817 rfl rfl
theorem mb_834 : Cond.constantDouble RX5 165 4621819117588971520 ∈ tm_B := tm_in 834 (by decide +kernel) (by decide +kernel)
theorem mb_835 : Cond.constantDouble RX5 167 4608308318706860032 ∈ tm_B := tm_in 835 (by decide +kernel) (by decide +kernel)
theorem mb_836 : Cond.constantDouble RX5 169 4604930618986332160 ∈ tm_B := tm_in 836 (by decide +kernel) (by decide +kernel)
theorem mb_837 : Cond.constantDouble RX5 171 4616189618054758400 ∈ tm_B := tm_in 837 (by decide +kernel) (by decide +kernel)
theorem mb_838 : Cond.constantDouble RX5 173 4598175219545276416 ∈ tm_B := tm_in 838 (by decide +kernel) (by decide +kernel)
theorem mb_843 : Cond.constantLong RX5 175 4 ∈ tm_B := tm_in 843 (by decide +kernel) (by decide +kernel)
theorem inB_X0 : ∀ w ∈ wsX00, w ∈ tm_B := by
  intro w hw
  obtain ⟨k, hk, rfl⟩ := List.mem_map.mp hw
  have hk : k < 2 := List.mem_range.mp hk
  match k, hk with
  | 0, _ => exact mb_79
  | 1, _ => exact mb_81
theorem inB_X1 : ∀ w ∈ wsX10, w ∈ tm_B := by
  intro w hw
  obtain ⟨k, hk, rfl⟩ := List.mem_map.mp hw
  have hk : k < 5 := List.mem_range.mp hk
  match k, hk with
  | 0, _ => exact mb_117
  | 1, _ => exact mb_119
  | 2, _ => exact mb_121
  | 3, _ => exact mb_123
  | 4, _ => exact mb_125
theorem inB_X2 : ∀ w ∈ wsX20, w ∈ tm_B := by
  intro w hw
  obtain ⟨k, hk, rfl⟩ := List.mem_map.mp hw
  have hk : k < 6 := List.mem_range.mp hk
  match k, hk with
  | 0, _ => exact mb_56
  | 1, _ => exact mb_58
  | 2, _ => exact mb_60
  | 3, _ => exact mb_62
  | 4, _ => exact mb_64
  | 5, _ => exact mb_66
theorem inB_X3 : ∀ w ∈ wsX30, w ∈ tm_B := by
  intro w hw
  obtain ⟨k, hk, rfl⟩ := List.mem_map.mp hw
  have hk : k < 3 := List.mem_range.mp hk
  match k, hk with
  | 0, _ => exact mb_95
  | 1, _ => exact mb_97
  | 2, _ => exact mb_99
theorem inB_X4 : ∀ w ∈ wsX40, w ∈ tm_B := by
  intro w hw
  obtain ⟨k, hk, rfl⟩ := List.mem_map.mp hw
  have hk : k < 15 := List.mem_range.mp hk
  match k, hk with
  | 0, _ => exact mb_160
  | 1, _ => exact mb_162
  | 2, _ => exact mb_164
  | 3, _ => exact mb_166
  | 4, _ => exact mb_168
  | 5, _ => exact mb_170
  | 6, _ => exact mb_172
  | 7, _ => exact mb_174
  | 8, _ => exact mb_176
  | 9, _ => exact mb_178
  | 10, _ => exact mb_180
  | 11, _ => exact mb_182
  | 12, _ => exact mb_184
  | 13, _ => exact mb_186
  | 14, _ => exact mb_188
theorem inB_X5 : ∀ w ∈ wsX50, w ∈ tm_B := by
  intro w hw
  obtain ⟨k, hk, rfl⟩ := List.mem_map.mp hw
  have hk : k < 28 := List.mem_range.mp hk
  match k, hk with
  | 0, _ => exact mb_658
  | 1, _ => exact mb_660
  | 2, _ => exact mb_662
  | 3, _ => exact mb_664
  | 4, _ => exact mb_666
  | 5, _ => exact mb_668
  | 6, _ => exact mb_670
  | 7, _ => exact mb_672
  | 8, _ => exact mb_674
  | 9, _ => exact mb_676
  | 10, _ => exact mb_678
  | 11, _ => exact mb_680
  | 12, _ => exact mb_682
  | 13, _ => exact mb_684
  | 14, _ => exact mb_686
  | 15, _ => exact mb_688
  | 16, _ => exact mb_690
  | 17, _ => exact mb_692
  | 18, _ => exact mb_694
  | 19, _ => exact mb_696
  | 20, _ => exact mb_698
  | 21, _ => exact mb_700
  | 22, _ => exact mb_702
  | 23, _ => exact mb_704
  | 24, _ => exact mb_706
  | 25, _ => exact mb_708
  | 26, _ => exact mb_710
  | 27, _ => exact mb_712
  | k + 28, hk => exact absurd hk (by omega)
theorem sl_X4_allowBySession : Cond.selects RX4 yX4_allowBySession yX4_allowBySession ∈ tm_B := tm_inS (q := (yX4_allowBySession, 15)) 12 (by decide +kernel)
theorem sl_X4_allowByWord : Cond.selects RX4 yX4_allowByWord yX4_allowByWord ∈ tm_B := tm_inS (q := (yX4_allowByWord, 15)) 11 (by decide +kernel)
theorem sl_X4_definedIndex : Cond.selects RX4 yX4_definedIndex yX4_definedIndex ∈ tm_B := tm_inS (q := (yX4_definedIndex, 15)) 15 (by decide +kernel)
theorem sl_X4_definedIndices : Cond.selects RX4 yX4_definedIndices yX4_definedIndices ∈ tm_B := tm_inS (q := (yX4_definedIndices, 15)) 4 (by decide +kernel)
theorem sl_X4_forgetPcrs : Cond.selects RX4 yX4_forgetPcrs yX4_forgetPcrs ∈ tm_B := tm_inS (q := (yX4_forgetPcrs, 15)) 1 (by decide +kernel)
theorem sl_X4_forgiveGuesses : Cond.selects RX4 yX4_forgiveGuesses yX4_forgiveGuesses ∈ tm_B := tm_inS (q := (yX4_forgiveGuesses, 15)) 17 (by decide +kernel)
theorem sl_X4_freeHandles : Cond.selects RX4 yX4_freeHandles yX4_freeHandles ∈ tm_B := tm_inS (q := (yX4_freeHandles, 15)) 2 (by decide +kernel)
theorem sl_X4_hashOfPcrs : Cond.selects RX4 yX4_hashOfPcrs yX4_hashOfPcrs ∈ tm_B := tm_inS (q := (yX4_hashOfPcrs, 15)) 13 (by decide +kernel)
theorem sl_X4_heldKey : Cond.selects RX4 yX4_heldKey yX4_heldKey ∈ tm_B := tm_inS (q := (yX4_heldKey, 15)) 9 (by decide +kernel)
theorem sl_X4_heldKeys : Cond.selects RX4 yX4_heldKeys yX4_heldKeys ∈ tm_B := tm_inS (q := (yX4_heldKeys, 15)) 3 (by decide +kernel)
theorem sl_X4_leastFreeHandle : Cond.selects RX4 yX4_leastFreeHandle yX4_leastFreeHandle ∈ tm_B := tm_inS (q := (yX4_leastFreeHandle, 15)) 8 (by decide +kernel)
theorem sl_X4_madeBlob : Cond.selects RX4 yX4_madeBlob yX4_madeBlob ∈ tm_B := tm_inS (q := (yX4_madeBlob, 15)) 10 (by decide +kernel)
theorem sl_X4_madeBlobs : Cond.selects RX4 yX4_madeBlobs yX4_madeBlobs ∈ tm_B := tm_inS (q := (yX4_madeBlobs, 15)) 5 (by decide +kernel)
theorem sl_X4_nextCounted : Cond.selects RX4 yX4_nextCounted yX4_nextCounted ∈ tm_B := tm_inS (q := (yX4_nextCounted, 15)) 16 (by decide +kernel)
theorem sl_X4_powerComes : Cond.selects RX4 yX4_powerComes yX4_powerComes ∈ tm_B := tm_inS (q := (yX4_powerComes, 15)) 0 (by decide +kernel)
theorem sl_X4_refuseWhenLost : Cond.selects RX4 yX4_refuseWhenLost yX4_refuseWhenLost ∈ tm_B := tm_inS (q := (yX4_refuseWhenLost, 15)) 7 (by decide +kernel)
theorem sl_X4_setPace : Cond.selects RX4 yX4_setPace yX4_setPace ∈ tm_B := tm_inS (q := (yX4_setPace, 15)) 18 (by decide +kernel)
theorem sl_X4_useParts : Cond.selects RX4 yX4_useParts yX4_useParts ∈ tm_B := tm_inS (q := (yX4_useParts, 15)) 14 (by decide +kernel)
theorem sl_X5_allowed : Cond.selects RX5 yX5_allowed yX5_allowed ∈ tm_B := tm_inS (q := (yX5_allowed, 28)) 27 (by decide +kernel)
theorem sl_X5_anew : Cond.selects RX5 yX5_anew yX5_anew ∈ tm_B := tm_inS (q := (yX5_anew, 28)) 21 (by decide +kernel)
theorem sl_X5_begin : Cond.selects RX5 yX5_begin yX5_begin ∈ tm_B := tm_inS (q := (yX5_begin, 28)) 23 (by decide +kernel)
theorem sl_X5_come : Cond.selects RX5 yX5_come yX5_come ∈ tm_B := tm_inS (q := (yX5_come, 28)) 20 (by decide +kernel)
theorem sl_X5_key : Cond.selects RX5 yX5_key yX5_key ∈ tm_B := tm_inS (q := (yX5_key, 28)) 24 (by decide +kernel)
theorem sl_X5_lasts : Cond.selects RX5 yX5_lasts yX5_lasts ∈ tm_B := tm_inS (q := (yX5_lasts, 28)) 30 (by decide +kernel)
theorem sl_X5_mix : Cond.selects RX5 yX5_mix yX5_mix ∈ tm_B := tm_inS (q := (yX5_mix, 28)) 19 (by decide +kernel)
theorem sl_X5_name : Cond.selects RX5 yX5_name yX5_name ∈ tm_B := tm_inS (q := (yX5_name, 28)) 29 (by decide +kernel)
theorem sl_X5_out : Cond.selects RX5 yX5_out yX5_out ∈ tm_B := tm_inS (q := (yX5_out, 28)) 22 (by decide +kernel)
theorem sl_X5_room : Cond.selects RX5 yX5_room yX5_room ∈ tm_B := tm_inS (q := (yX5_room, 28)) 25 (by decide +kernel)
theorem sl_X5_satisfied : Cond.selects RX5 yX5_satisfied yX5_satisfied ∈ tm_B := tm_inS (q := (yX5_satisfied, 28)) 28 (by decide +kernel)
theorem sl_X5_seal : Cond.selects RX5 yX5_seal yX5_seal ∈ tm_B := tm_inS (q := (yX5_seal, 28)) 26 (by decide +kernel)
theorem gX4_58_X4_refuseOutside : GoodIn tm_B (va_wsS RX4 58 yX4_refuseOutside wsX4_refuseOutside) := tm_GS mb_222 mb_223 mb_1 mb_224
theorem gX2_30_X4_hash : GoodIn tm_B wsX4_hash := tm_G0 mb_35
theorem gX0_19_X4_hash : GoodIn tm_B wsX4_hash := tm_G0 mb_35
theorem gX0_25_X0_sealUnder : GoodIn tm_B (wsV RX0 25 RX0 yX0_sealUnder wsX0_sealUnder) := tm_GV mb_396 mb_397 mb_398 mb_3 mb_399
theorem gX4_264_X0_sealUnder : GoodIn tm_B (wsV RX4 264 RX0 yX0_sealUnder wsX0_sealUnder) := tm_GV mb_417 mb_397 mb_398 mb_3 mb_399
theorem gX4_283_X4_forgetPcrs : GoodIn tm_B (wsV RX4 283 RX4 yX4_forgetPcrs wsX4_forgetPcrs) := tm_GV mb_132 mb_134 sl_X4_forgetPcrs mb_1 mb_135
theorem gX4_218_X4_freeHandles : GoodIn tm_B (wsV RX4 218 RX4 yX4_freeHandles wsX4_freeHandles) := tm_GV mb_136 mb_138 sl_X4_freeHandles mb_1 mb_139
theorem gX4_134_X3_beginAnew : GoodIn tm_B (wsV RX4 134 RX3 yX3_beginAnew wsX3_beginAnew) := tm_GV mb_140 mb_141 mb_142 mb_4 mb_143
theorem gX4_42_X4_hash : GoodIn tm_B (va_wsS RX4 42 yX4_hash wsX4_hash) := tm_GS mb_33 mb_34 mb_1 mb_35
theorem gX4_54_X4_powerComes : GoodIn tm_B (wsV RX4 54 RX4 yX4_powerComes wsX4_powerComes) := tm_GV mb_128 mb_130 sl_X4_powerComes mb_1 mb_131
theorem gX4_62_X4_refuseUnlessBelow : GoodIn tm_B (va_wsS RX4 62 yX4_refuseUnlessBelow wsX4_refuseUnlessBelow) := tm_GS mb_303 mb_304 mb_1 mb_305
theorem gX4_66_X4_refuseWhenLost : GoodIn tm_B (wsV RX4 66 RX4 yX4_refuseWhenLost wsX4_refuseWhenLost) := tm_GV mb_306 mb_308 sl_X4_refuseWhenLost mb_1 mb_309
theorem gX4_73_X4_leastFreeHandle : GoodIn tm_B (wsV RX4 73 RX4 yX4_leastFreeHandle wsX4_leastFreeHandle) := tm_GV mb_333 mb_335 sl_X4_leastFreeHandle mb_1 mb_336
theorem gX4_77_X2_hold : GoodIn tm_B (wsV RX4 77 RX2 yX2_hold wsX2_hold) := tm_GV mb_338 mb_339 mb_340 mb_2 mb_341
theorem gX4_81_X4_heldKey : GoodIn tm_B (wsV RX4 81 RX4 yX4_heldKey wsX4_heldKey) := tm_GV mb_351 mb_353 sl_X4_heldKey mb_1 mb_354
theorem gX4_85_X4_refuseUnlessParent : GoodIn tm_B (va_wsS RX4 85 yX4_refuseUnlessParent wsX4_refuseUnlessParent) := tm_GS mb_371 mb_372 mb_1 mb_373
theorem gX4_93_X0_wrap : GoodIn tm_B (wsV RX4 93 RX0 yX0_wrap wsX0_wrap) := tm_GV mb_390 mb_391 mb_392 mb_3 mb_393
theorem gX4_97_X4_madeBlob : GoodIn tm_B (wsV RX4 97 RX4 yX4_madeBlob wsX4_madeBlob) := tm_GV mb_409 mb_411 sl_X4_madeBlob mb_1 mb_412
theorem gX4_101_X4_refuseTampered : GoodIn tm_B (va_wsS RX4 101 yX4_refuseTampered wsX4_refuseTampered) := tm_GS mb_414 mb_415 mb_1 mb_416
theorem gX4_105_X0_secretUnder : GoodIn tm_B (wsV RX4 105 RX0 yX0_secretUnder wsX0_secretUnder) := tm_GV mb_434 mb_435 mb_436 mb_3 mb_437
theorem gX4_112_X0_wordUnder : GoodIn tm_B (wsV RX4 112 RX0 yX0_wordUnder wsX0_wordUnder) := tm_GV mb_438 mb_439 mb_440 mb_3 mb_441
theorem gX4_120_X4_allowByWord : GoodIn tm_B (wsV RX4 120 RX4 yX4_allowByWord wsX4_allowByWord) := tm_GV mb_463 mb_465 sl_X4_allowByWord mb_1 mb_466
theorem gX4_130_X4_allowBySession : GoodIn tm_B (wsV RX4 130 RX4 yX4_allowBySession wsX4_allowBySession) := tm_GV mb_476 mb_478 sl_X4_allowBySession mb_1 mb_479
theorem gX4_163_X2_name : GoodIn tm_B (wsV RX4 163 RX2 yX2_name wsX2_name) := tm_GV mb_518 mb_519 mb_520 mb_2 mb_521
theorem gX4_175_X4_useParts : GoodIn tm_B (wsV RX4 175 RX4 yX4_useParts wsX4_useParts) := tm_GV mb_531 mb_533 sl_X4_useParts mb_1 mb_534
theorem gX4_178_X1_begin : GoodIn tm_B (wsV RX4 178 RX1 yX1_begin wsX1_begin) := tm_GV mb_536 mb_537 mb_538 mb_5 mb_539
theorem gX4_182_X4_definedIndex : GoodIn tm_B (wsV RX4 182 RX4 yX4_definedIndex wsX4_definedIndex) := tm_GV mb_547 mb_549 sl_X4_definedIndex mb_1 mb_550
theorem gX4_190_X4_nextCounted : GoodIn tm_B (wsV RX4 190 RX4 yX4_nextCounted wsX4_nextCounted) := tm_GV mb_559 mb_561 sl_X4_nextCounted mb_1 mb_562
theorem gX5_74_X5_mix : GoodIn tm_B (wsV RX5 74 RX5 yX5_mix wsX5_mix) := tm_GV mb_614 mb_616 sl_X5_mix mb_6 mb_617
theorem gX5_105_X5_anew : GoodIn tm_B (wsV RX5 105 RX5 yX5_anew wsX5_anew) := tm_GV mb_626 mb_628 sl_X5_anew mb_6 mb_629
theorem gX5_117_X5_room : GoodIn tm_B (wsV RX5 117 RX5 yX5_room wsX5_room) := tm_GV mb_745 mb_747 sl_X5_room mb_6 mb_748
theorem gX5_78_X5_come : GoodIn tm_B (wsV RX5 78 RX5 yX5_come wsX5_come) := tm_GV mb_621 mb_623 sl_X5_come mb_6 mb_624
theorem gX5_109_X5_out : GoodIn tm_B (wsV RX5 109 RX5 yX5_out wsX5_out) := tm_GV mb_729 mb_731 sl_X5_out mb_6 mb_732
theorem gX5_113_X5_begin : GoodIn tm_B (wsV RX5 113 RX5 yX5_begin wsX5_begin) := tm_GV mb_733 mb_735 sl_X5_begin mb_6 mb_736
theorem gX5_121_X5_key : GoodIn tm_B (wsV RX5 121 RX5 yX5_key wsX5_key) := tm_GV mb_741 mb_743 sl_X5_key mb_6 mb_744
theorem gX5_129_X5_seal : GoodIn tm_B (wsV RX5 129 RX5 yX5_seal wsX5_seal) := tm_GV mb_754 mb_756 sl_X5_seal mb_6 mb_757
theorem gX5_136_X5_allowed : GoodIn tm_B (wsV RX5 136 RX5 yX5_allowed wsX5_allowed) := tm_GV mb_775 mb_777 sl_X5_allowed mb_6 mb_778
theorem gX5_140_X5_satisfied : GoodIn tm_B (wsV RX5 140 RX5 yX5_satisfied wsX5_satisfied) := tm_GV mb_783 mb_785 sl_X5_satisfied mb_6 mb_786
theorem gX5_150_X5_name : GoodIn tm_B (wsV RX5 150 RX5 yX5_name wsX5_name) := tm_GV mb_806 mb_808 sl_X5_name mb_6 mb_809
theorem gX5_157_X5_lasts : GoodIn tm_B (wsV RX5 157 RX5 yX5_lasts wsX5_lasts) := tm_GV mb_814 mb_816 sl_X5_lasts mb_6 mb_817
theorem gX4_205_X4_forgiveGuesses : GoodIn tm_B (wsV RX4 205 RX4 yX4_forgiveGuesses wsX4_forgiveGuesses) := tm_GV mb_578 mb_580 sl_X4_forgiveGuesses mb_1 mb_581
theorem gX4_210_X4_setPace : GoodIn tm_B (wsV RX4 210 RX4 yX4_setPace wsX4_setPace) := tm_GV mb_584 mb_586 sl_X4_setPace mb_1 mb_587
theorem gX4_142_X4_hashOfPcrs : GoodIn tm_B (wsV RX4 142 RX4 yX4_hashOfPcrs wsX4_hashOfPcrs) := tm_GV mb_497 mb_499 sl_X4_hashOfPcrs mb_1 mb_500
theorem gX4_228_X4_heldKeys : GoodIn tm_B (wsV RX4 228 RX4 yX4_heldKeys wsX4_heldKeys) := tm_GV mb_195 mb_197 sl_X4_heldKeys mb_1 mb_198
theorem gX4_237_X4_definedIndices : GoodIn tm_B (wsV RX4 237 RX4 yX4_definedIndices wsX4_definedIndices) := tm_GV mb_199 mb_201 sl_X4_definedIndices mb_1 mb_202
theorem gX4_240_X4_madeBlobs : GoodIn tm_B (wsV RX4 240 RX4 yX4_madeBlobs wsX4_madeBlobs) := tm_GV mb_203 mb_205 sl_X4_madeBlobs mb_1 mb_206
