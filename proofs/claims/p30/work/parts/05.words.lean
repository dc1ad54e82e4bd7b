theorem iX_all {C : String} {T : u_T} {N : Nat} (h : (u_ws C T N).all (fun w => decide (w ∈ lw_tbl) && goodWord w) = true) : ∀ w ∈ u_ws C T N, w ∈ uw := fun w hw => by
  have h1 := List.all_eq_true.mp h w hw
  simp only [Bool.and_eq_true, decide_eq_true_eq] at h1
  exact List.mem_filter.mpr h1
set_option maxRecDepth 20000 in
theorem iX0 : ∀ w ∈ u_ws RX0 TX0 1, w ∈ uw := iX_all (by decide +kernel)
set_option maxRecDepth 20000 in
theorem iX1 : ∀ w ∈ u_ws RX1 TX1 1, w ∈ uw := iX_all (by decide +kernel)
set_option maxRecDepth 20000 in
theorem iX2 : ∀ w ∈ u_ws RX2 TX2 2, w ∈ uw := iX_all (by decide +kernel)
set_option maxRecDepth 20000 in
theorem iX4 : ∀ w ∈ u_ws RX4 TX4 12, w ∈ uw := iX_all (by decide +kernel)
set_option maxRecDepth 20000 in
theorem iX5 : ∀ w ∈ u_ws RX5 TX5 4, w ∈ uw := iX_all (by decide +kernel)
set_option maxRecDepth 20000 in
theorem iX6 : ∀ w ∈ u_ws RX6 TX6 3, w ∈ uw := iX_all (by decide +kernel)
set_option maxRecDepth 20000 in
theorem iX9 : ∀ w ∈ u_ws RX9 TX9 5, w ∈ uw := iX_all (by decide +kernel)
set_option maxRecDepth 20000 in
theorem iX10 : ∀ w ∈ u_ws RX10 TX10 17, w ∈ uw := iX_all (by decide +kernel)
set_option maxRecDepth 20000 in
theorem iX11 : ∀ w ∈ u_ws RX11 TX11 36, w ∈ uw := iX_all (by decide +kernel)
theorem w11 : Cond.selects RX4 yX4_slotOf yX4_slotOf ∈ uw := uw_mem 11 (by decide +kernel) (by decide +kernel)
theorem w12 : Cond.selects RX4 yX4_lead yX4_lead ∈ uw := uw_mem 12 (by decide +kernel) (by decide +kernel)
theorem w13 : Cond.selects RX4 yX4_isRow yX4_isRow ∈ uw := uw_mem 13 (by decide +kernel) (by decide +kernel)
theorem w22 : Cond.selects RX10 yX10_clearBench yX10_clearBench ∈ uw := uw_mem 22 (by decide +kernel) (by decide +kernel)
theorem w25 : Cond.selects RX10 yX10_roundOfTrail yX10_roundOfTrail ∈ uw := uw_mem 25 (by decide +kernel) (by decide +kernel)
theorem w26 : Cond.selects RX11 yX11_isPlace yX11_isPlace ∈ uw := uw_mem 26 (by decide +kernel) (by decide +kernel)
theorem w28 : Cond.selects RX11 yX11_first yX11_first ∈ uw := uw_mem 28 (by decide +kernel) (by decide +kernel)
theorem w29 : Cond.selects RX11 yX11_clears yX11_clears ∈ uw := uw_mem 29 (by decide +kernel) (by decide +kernel)
theorem w31 : Cond.selects RX11 yX11_isGen yX11_isGen ∈ uw := uw_mem 31 (by decide +kernel) (by decide +kernel)
theorem w32 : Cond.selects RX11 yX11_takes yX11_takes ∈ uw := uw_mem 32 (by decide +kernel) (by decide +kernel)
theorem w33 : Cond.selects RX11 yX11_times yX11_times ∈ uw := uw_mem 33 (by decide +kernel) (by decide +kernel)
theorem w34 : Cond.selects RX11 yX11_without yX11_without ∈ uw := uw_mem 34 (by decide +kernel) (by decide +kernel)
theorem w35 : Cond.selects RX11 yX11_det yX11_det ∈ uw := uw_mem 35 (by decide +kernel) (by decide +kernel)
theorem w39 : Cond.selects RX11 yX11_isGreat yX11_isGreat ∈ uw := uw_mem 39 (by decide +kernel) (by decide +kernel)
theorem w40 : Cond.selects RX11 yX11_finds yX11_finds ∈ uw := uw_mem 40 (by decide +kernel) (by decide +kernel)
theorem w41 : Cond.selects RX11 yX11_takesOut yX11_takesOut ∈ uw := uw_mem 41 (by decide +kernel) (by decide +kernel)
theorem w47 : Cond.selects RX11 yX11_findList yX11_findList ∈ uw := uw_mem 47 (by decide +kernel) (by decide +kernel)
theorem w48 : Cond.selects RX11 yX11_lists yX11_lists ∈ uw := uw_mem 48 (by decide +kernel) (by decide +kernel)
theorem w49 : Cond.selects RX11 yX11_takesElement yX11_takesElement ∈ uw := uw_mem 49 (by decide +kernel) (by decide +kernel)
theorem w50 : Cond.selects RX11 yX11_placeOf yX11_placeOf ∈ uw := uw_mem 50 (by decide +kernel) (by decide +kernel)
theorem w52 : Cond.selects RX11 yX11_findForm yX11_findForm ∈ uw := uw_mem 52 (by decide +kernel) (by decide +kernel)
theorem w57 : Cond.selects RX11 yX11_goes yX11_goes ∈ uw := uw_mem 57 (by decide +kernel) (by decide +kernel)
theorem w58 : Cond.selects RX11 yX11_placeIn yX11_placeIn ∈ uw := uw_mem 58 (by decide +kernel) (by decide +kernel)
theorem w59 : Cond.selects RX11 yX11_roundNow yX11_roundNow ∈ uw := uw_mem 59 (by decide +kernel) (by decide +kernel)
theorem w63 : Cond.initialized RX10 ∈ uw := uw_mem 63 (by decide +kernel) (by decide +kernel)
theorem w64 : Cond.initialized RX5 ∈ uw := uw_mem 64 (by decide +kernel) (by decide +kernel)
theorem w66 : Cond.initialized RX4 ∈ uw := uw_mem 66 (by decide +kernel) (by decide +kernel)
theorem w70 : Cond.initialized RX0 ∈ uw := uw_mem 70 (by decide +kernel) (by decide +kernel)
theorem w72 : Cond.initialized RX11 ∈ uw := uw_mem 72 (by decide +kernel) (by decide +kernel)
theorem w73 : Cond.initialized RJ7 ∈ uw := uw_mem 73 (by decide +kernel) (by decide +kernel)
theorem w74 : Cond.initialized RX7 ∈ uw := uw_mem 74 (by decide +kernel) (by decide +kernel)
theorem w75 : Cond.initialized RJ10 ∈ uw := uw_mem 75 (by decide +kernel) (by decide +kernel)
theorem w76 : Cond.initialized RX3 ∈ uw := uw_mem 76 (by decide +kernel) (by decide +kernel)
theorem w84 : Cond.instanceMethod objectInit ∈ uw := uw_mem 84 (by decide +kernel) (by decide +kernel)
theorem w85 : Cond.code objectInit ⟨#[0xb1]⟩ 1 none ∈ uw := uw_mem 85 (by decide +kernel) (by decide +kernel)
theorem w93 : Cond.fieldLink RX10 98 "FiniteMatrices$Setting" "size" "I" ∈ uw := uw_mem 93 (by decide +kernel) (by decide +kernel)
theorem w96 : Cond.fieldLink RX5 15 "FiniteMatrices$Setting" "count" "I" ∈ uw := uw_mem 96 (by decide +kernel) (by decide +kernel)
theorem w97 : Cond.fieldLink RX10 101 "FiniteMatrices$Setting" "count" "I" ∈ uw := uw_mem 97 (by decide +kernel) (by decide +kernel)
theorem w103 : Cond.fieldLink RX10 145 "FiniteMatrices$Setting" "cells" "[J" ∈ uw := uw_mem 103 (by decide +kernel) (by decide +kernel)
theorem w113 : Cond.arrayClass .long ∈ uw := uw_mem 113 (by decide +kernel) (by decide +kernel)
theorem w143 : Cond.classLink RX10 36 RX4 ∈ uw := uw_mem 143 (by decide +kernel) (by decide +kernel)
theorem w144 : Cond.instantiable RX4 12 ∈ uw := uw_mem 144 (by decide +kernel) (by decide +kernel)
theorem w145 : Cond.methodLink RX10 38 yX4_init ∈ uw := uw_mem 145 (by decide +kernel) (by decide +kernel)
theorem w146 : Cond.instanceMethod yX4_init ∈ uw := uw_mem 146 (by decide +kernel) (by decide +kernel)
theorem w147 : Cond.code yX4_init cX4_init 4 none ∈ uw := uw_mem 147 (by decide +kernel) (by decide +kernel)
theorem w148 : Cond.methodLink RX4 3 objectInit ∈ uw := uw_mem 148 (by decide +kernel) (by decide +kernel)
theorem w149 : Cond.fieldLink RX4 29 "FiniteMatrices$Roll" "cells" "[J" ∈ uw := uw_mem 149 (by decide +kernel) (by decide +kernel)
theorem w151 : Cond.fieldLink RX4 32 "FiniteMatrices$Roll" "from" "[I" ∈ uw := uw_mem 151 (by decide +kernel) (by decide +kernel)
theorem w153 : Cond.fieldLink RX4 36 "FiniteMatrices$Roll" "by" "[I" ∈ uw := uw_mem 153 (by decide +kernel) (by decide +kernel)
theorem w155 : Cond.fieldLink RX4 39 "FiniteMatrices$Roll" "steps" "[I" ∈ uw := uw_mem 155 (by decide +kernel) (by decide +kernel)
theorem w157 : Cond.fieldLink RX4 42 "FiniteMatrices$Roll" "leads" "[I" ∈ uw := uw_mem 157 (by decide +kernel) (by decide +kernel)
theorem w158 : Cond.fieldLink RX0 25 "FiniteMatrices$Roll" "leads" "[I" ∈ uw := uw_mem 158 (by decide +kernel) (by decide +kernel)
theorem w159 : Cond.fieldLink RX4 45 "FiniteMatrices$Roll" "slots" "[I" ∈ uw := uw_mem 159 (by decide +kernel) (by decide +kernel)
theorem w160 : Cond.fieldLink RX4 48 "FiniteMatrices$Roll" "chain" "[I" ∈ uw := uw_mem 160 (by decide +kernel) (by decide +kernel)
theorem w161 : Cond.fieldLink RX4 9 "FiniteMatrices$Roll" "fresh" "[J" ∈ uw := uw_mem 161 (by decide +kernel) (by decide +kernel)
theorem w162 : Cond.fieldLink RX4 15 "FiniteMatrices$Roll" "width" "I" ∈ uw := uw_mem 162 (by decide +kernel) (by decide +kernel)
theorem w163 : Cond.fieldLink RX4 19 "FiniteMatrices$Roll" "most" "I" ∈ uw := uw_mem 163 (by decide +kernel) (by decide +kernel)
theorem w164 : Cond.fieldLink RX4 22 "FiniteMatrices$Roll" "count" "I" ∈ uw := uw_mem 164 (by decide +kernel) (by decide +kernel)
theorem w165 : Cond.fieldLink RX0 15 "FiniteMatrices$Roll" "count" "I" ∈ uw := uw_mem 165 (by decide +kernel) (by decide +kernel)
theorem w166 : Cond.fieldLink RX10 198 "FiniteMatrices$Roll" "count" "I" ∈ uw := uw_mem 166 (by decide +kernel) (by decide +kernel)
theorem w167 : Cond.fieldLink RX4 25 "FiniteMatrices$Roll" "closed" "Z" ∈ uw := uw_mem 167 (by decide +kernel) (by decide +kernel)
theorem w168 : Cond.fieldLink RX10 199 "FiniteMatrices$Roll" "closed" "Z" ∈ uw := uw_mem 168 (by decide +kernel) (by decide +kernel)
theorem w194 : Cond.arrayClass .int ∈ uw := uw_mem 194 (by decide +kernel) (by decide +kernel)
theorem w228 : Cond.fieldLink RX0 9 "FiniteMatrices$ByPlace" "trail" "LFiniteMatrices$Roll;" ∈ uw := uw_mem 228 (by decide +kernel) (by decide +kernel)
theorem w249 : Cond.fieldLink RX10 10 "FiniteMatrices" "now" "LFiniteMatrices$Setting;" ∈ uw := uw_mem 249 (by decide +kernel) (by decide +kernel)
theorem w256 : Cond.fieldLink RX10 48 "FiniteMatrices" "trail" "LFiniteMatrices$Roll;" ∈ uw := uw_mem 256 (by decide +kernel) (by decide +kernel)
theorem w257 : Cond.fieldLink RX10 51 "FiniteMatrices" "trailReady" "Z" ∈ uw := uw_mem 257 (by decide +kernel) (by decide +kernel)
theorem w258 : Cond.fieldLink RX10 54 "FiniteMatrices" "bench" "LFiniteMatrices$Roll;" ∈ uw := uw_mem 258 (by decide +kernel) (by decide +kernel)
theorem w260 : Cond.fieldLink RX10 61 "FiniteMatrices" "roundCount" "I" ∈ uw := uw_mem 260 (by decide +kernel) (by decide +kernel)
theorem w263 : Cond.fieldLink RX10 86 "FiniteMatrices" "byPlace" "LFiniteMatrices$ByPlace;" ∈ uw := uw_mem 263 (by decide +kernel) (by decide +kernel)
theorem w310 : Cond.static yJ7_fill_53178 ∈ uw := uw_mem 310 (by decide +kernel) (by decide +kernel)
theorem w311 : Cond.code yJ7_fill_53178 cJ7_fill_53178 4 none ∈ uw := uw_mem 311 (by decide +kernel) (by decide +kernel)
theorem w347 : Cond.static arraycopyName ∈ uw := uw_mem 347 (by decide +kernel) (by decide +kernel)
theorem w348 : Cond.native arraycopyName ∈ uw := uw_mem 348 (by decide +kernel) (by decide +kernel)
theorem w353 : Cond.methodLink RX10 123 yX5_has ∈ uw := uw_mem 353 (by decide +kernel) (by decide +kernel)
theorem w354 : Cond.instanceMethod yX5_has ∈ uw := uw_mem 354 (by decide +kernel) (by decide +kernel)
theorem w355 : Cond.selects RX5 yX5_has yX5_has ∈ uw := uw_mem 355 (by decide +kernel) (by decide +kernel)
theorem w356 : Cond.code yX5_has cX5_has 2 (some .boolean) ∈ uw := uw_mem 356 (by decide +kernel) (by decide +kernel)
theorem w371 : Cond.static yX7_determinant ∈ uw := uw_mem 371 (by decide +kernel) (by decide +kernel)
theorem w372 : Cond.code yX7_determinant cX7_determinant 7 (some .long) ∈ uw := uw_mem 372 (by decide +kernel) (by decide +kernel)
theorem w373 : Cond.methodLink RX7 23 yX7_cofactor ∈ uw := uw_mem 373 (by decide +kernel) (by decide +kernel)
theorem w374 : Cond.static yX7_cofactor ∈ uw := uw_mem 374 (by decide +kernel) (by decide +kernel)
theorem w375 : Cond.code yX7_cofactor cX7_cofactor 9 (some .long) ∈ uw := uw_mem 375 (by decide +kernel) (by decide +kernel)
theorem w404 : Cond.static yX7_trace ∈ uw := uw_mem 404 (by decide +kernel) (by decide +kernel)
theorem w405 : Cond.code yX7_trace cX7_trace 6 (some .long) ∈ uw := uw_mem 405 (by decide +kernel) (by decide +kernel)
theorem w420 : Cond.methodLink RX10 161 yX3_characterOf ∈ uw := uw_mem 420 (by decide +kernel) (by decide +kernel)
theorem w421 : Cond.static yX3_characterOf ∈ uw := uw_mem 421 (by decide +kernel) (by decide +kernel)
theorem w422 : Cond.code yX3_characterOf cX3_characterOf 7 (some (.array .long)) ∈ uw := uw_mem 422 (by decide +kernel) (by decide +kernel)
theorem w423 : Cond.methodLink RX3 15 yX7_determinant ∈ uw := uw_mem 423 (by decide +kernel) (by decide +kernel)
theorem w424 : Cond.methodLink RX3 21 yX7_cofactor ∈ uw := uw_mem 424 (by decide +kernel) (by decide +kernel)
theorem w425 : Cond.methodLink RX3 25 yX7_trace ∈ uw := uw_mem 425 (by decide +kernel) (by decide +kernel)
theorem w430 : Cond.methodLink RX10 167 yX3_isFactor ∈ uw := uw_mem 430 (by decide +kernel) (by decide +kernel)
theorem w431 : Cond.static yX3_isFactor ∈ uw := uw_mem 431 (by decide +kernel) (by decide +kernel)
theorem w432 : Cond.code yX3_isFactor cX3_isFactor 1 (some .boolean) ∈ uw := uw_mem 432 (by decide +kernel) (by decide +kernel)
theorem w433 : Cond.fieldLink RX3 9 "FiniteMatrices$Polynomials" "FACTOR_DEGREE" "[I" ∈ uw := uw_mem 433 (by decide +kernel) (by decide +kernel)
theorem w435 : Cond.methodLink RX10 170 yX3_howOften ∈ uw := uw_mem 435 (by decide +kernel) (by decide +kernel)
theorem w436 : Cond.static yX3_howOften ∈ uw := uw_mem 436 (by decide +kernel) (by decide +kernel)
theorem w437 : Cond.code yX3_howOften cX3_howOften 5 (some .int) ∈ uw := uw_mem 437 (by decide +kernel) (by decide +kernel)
theorem w438 : Cond.methodLink RX3 29 yX3_takeOut ∈ uw := uw_mem 438 (by decide +kernel) (by decide +kernel)
theorem w439 : Cond.static yX3_takeOut ∈ uw := uw_mem 439 (by decide +kernel) (by decide +kernel)
theorem w440 : Cond.code yX3_takeOut cX3_takeOut 5 (some .boolean) ∈ uw := uw_mem 440 (by decide +kernel) (by decide +kernel)
theorem w441 : Cond.fieldLink RX3 33 "FiniteMatrices$Polynomials" "FACTOR_OF_ONE" "[I" ∈ uw := uw_mem 441 (by decide +kernel) (by decide +kernel)
theorem w443 : Cond.fieldLink RX3 36 "FiniteMatrices$Polynomials" "FACTOR_OF_X" "[I" ∈ uw := uw_mem 443 (by decide +kernel) (by decide +kernel)
theorem w493 : Cond.methodLink RX10 275 yX4_clear ∈ uw := uw_mem 493 (by decide +kernel) (by decide +kernel)
theorem w494 : Cond.instanceMethod yX4_clear ∈ uw := uw_mem 494 (by decide +kernel) (by decide +kernel)
theorem w495 : Cond.selects RX4 yX4_clear yX4_clear ∈ uw := uw_mem 495 (by decide +kernel) (by decide +kernel)
theorem w496 : Cond.code yX4_clear cX4_clear 3 none ∈ uw := uw_mem 496 (by decide +kernel) (by decide +kernel)
theorem w497 : Cond.methodLink RX4 51 yJ7_fill_53178 ∈ uw := uw_mem 497 (by decide +kernel) (by decide +kernel)
theorem w498 : Cond.methodLink RX10 279 yX4_append ∈ uw := uw_mem 498 (by decide +kernel) (by decide +kernel)
theorem w499 : Cond.instanceMethod yX4_append ∈ uw := uw_mem 499 (by decide +kernel) (by decide +kernel)
theorem w500 : Cond.selects RX4 yX4_append yX4_append ∈ uw := uw_mem 500 (by decide +kernel) (by decide +kernel)
theorem w501 : Cond.code yX4_append cX4_append 6 (some .int) ∈ uw := uw_mem 501 (by decide +kernel) (by decide +kernel)
theorem w502 : Cond.methodLink RX4 65 yX4_start ∈ uw := uw_mem 502 (by decide +kernel) (by decide +kernel)
theorem w503 : Cond.instanceMethod yX4_start ∈ uw := uw_mem 503 (by decide +kernel) (by decide +kernel)
theorem w504 : Cond.selects RX4 yX4_start yX4_start ∈ uw := uw_mem 504 (by decide +kernel) (by decide +kernel)
theorem w505 : Cond.code yX4_start cX4_start 2 (some .int) ∈ uw := uw_mem 505 (by decide +kernel) (by decide +kernel)
theorem w506 : Cond.methodLink RX4 69 arraycopyName ∈ uw := uw_mem 506 (by decide +kernel) (by decide +kernel)
theorem w507 : Cond.methodLink RX4 75 yX4_has ∈ uw := uw_mem 507 (by decide +kernel) (by decide +kernel)
theorem w508 : Cond.instanceMethod yX4_has ∈ uw := uw_mem 508 (by decide +kernel) (by decide +kernel)
theorem w509 : Cond.selects RX4 yX4_has yX4_has ∈ uw := uw_mem 509 (by decide +kernel) (by decide +kernel)
theorem w510 : Cond.code yX4_has cX4_has 2 (some .boolean) ∈ uw := uw_mem 510 (by decide +kernel) (by decide +kernel)
theorem w511 : Cond.methodLink RX4 57 yX4_slotOf ∈ uw := uw_mem 511 (by decide +kernel) (by decide +kernel)
theorem w513 : Cond.instanceMethod yX4_slotOf ∈ uw := uw_mem 513 (by decide +kernel) (by decide +kernel)
theorem w514 : Cond.code yX4_slotOf cX4_slotOf 5 (some .int) ∈ uw := uw_mem 514 (by decide +kernel) (by decide +kernel)
theorem w515 : Cond.constantLong RX4 96 (1000003) ∈ uw := uw_mem 515 (by decide +kernel) (by decide +kernel)
theorem w516 : Cond.methodLink RX10 282 yX4_spread ∈ uw := uw_mem 516 (by decide +kernel) (by decide +kernel)
theorem w517 : Cond.instanceMethod yX4_spread ∈ uw := uw_mem 517 (by decide +kernel) (by decide +kernel)
theorem w518 : Cond.selects RX4 yX4_spread yX4_spread ∈ uw := uw_mem 518 (by decide +kernel) (by decide +kernel)
theorem w519 : Cond.code yX4_spread cX4_spread 6 none ∈ uw := uw_mem 519 (by decide +kernel) (by decide +kernel)
theorem w520 : Cond.methodLink RX4 79 yX4_lead ∈ uw := uw_mem 520 (by decide +kernel) (by decide +kernel)
theorem w522 : Cond.instanceMethod yX4_lead ∈ uw := uw_mem 522 (by decide +kernel) (by decide +kernel)
theorem w523 : Cond.code yX4_lead cX4_lead 5 (some .int) ∈ uw := uw_mem 523 (by decide +kernel) (by decide +kernel)
theorem w524 : Cond.methodLink RX4 83 yStep ∈ uw := uw_mem 524 (by decide +kernel) (by decide +kernel)
theorem w527 : Cond.selects RX0 yStep yX0_go ∈ uw := uw_mem 527 (by decide +kernel) (by decide +kernel)
theorem w528 : Cond.instanceMethod yX0_go ∈ uw := uw_mem 528 (by decide +kernel) (by decide +kernel)
theorem w529 : Cond.code yX0_go cX0_go 7 (some .boolean) ∈ uw := uw_mem 529 (by decide +kernel) (by decide +kernel)
theorem w530 : Cond.methodLink RX0 21 yX4_has ∈ uw := uw_mem 530 (by decide +kernel) (by decide +kernel)
theorem w552 : Cond.methodLink RX4 89 yX4_search ∈ uw := uw_mem 552 (by decide +kernel) (by decide +kernel)
theorem w553 : Cond.instanceMethod yX4_search ∈ uw := uw_mem 553 (by decide +kernel) (by decide +kernel)
theorem w554 : Cond.selects RX4 yX4_search yX4_search ∈ uw := uw_mem 554 (by decide +kernel) (by decide +kernel)
theorem w555 : Cond.code yX4_search cX4_search 4 (some .int) ∈ uw := uw_mem 555 (by decide +kernel) (by decide +kernel)
theorem w556 : Cond.methodLink RX4 61 yX4_isRow ∈ uw := uw_mem 556 (by decide +kernel) (by decide +kernel)
theorem w558 : Cond.instanceMethod yX4_isRow ∈ uw := uw_mem 558 (by decide +kernel) (by decide +kernel)
theorem w559 : Cond.code yX4_isRow cX4_isRow 5 (some .boolean) ∈ uw := uw_mem 559 (by decide +kernel) (by decide +kernel)
theorem w560 : Cond.methodLink RX4 92 yX4_append ∈ uw := uw_mem 560 (by decide +kernel) (by decide +kernel)
theorem w669 : Cond.methodLink RX10 375 yX10_clearBench ∈ uw := uw_mem 669 (by decide +kernel) (by decide +kernel)
theorem w671 : Cond.instanceMethod yX10_clearBench ∈ uw := uw_mem 671 (by decide +kernel) (by decide +kernel)
theorem w672 : Cond.code yX10_clearBench cX10_clearBench 3 (some (.object "FiniteMatrices$Roll")) ∈ uw := uw_mem 672 (by decide +kernel) (by decide +kernel)
theorem w704 : Cond.methodLink RX10 286 yX10_roundOfTrail ∈ uw := uw_mem 704 (by decide +kernel) (by decide +kernel)
theorem w706 : Cond.instanceMethod yX10_roundOfTrail ∈ uw := uw_mem 706 (by decide +kernel) (by decide +kernel)
theorem w707 : Cond.code yX10_roundOfTrail cX10_roundOfTrail 4 (some .int) ∈ uw := uw_mem 707 (by decide +kernel) (by decide +kernel)
theorem w785 : Cond.fieldLink RX11 7 "FiniteMatricesModel" "d" "I" ∈ uw := uw_mem 785 (by decide +kernel) (by decide +kernel)
theorem w786 : Cond.fieldLink RX11 85 "FiniteMatricesModel" "many" "I" ∈ uw := uw_mem 786 (by decide +kernel) (by decide +kernel)
theorem w791 : Cond.fieldLink RX11 16 "FiniteMatricesModel" "gens" "[I" ∈ uw := uw_mem 791 (by decide +kernel) (by decide +kernel)
theorem w794 : Cond.fieldLink RX11 98 "FiniteMatricesModel" "isListed" "Z" ∈ uw := uw_mem 794 (by decide +kernel) (by decide +kernel)
theorem w796 : Cond.fieldLink RX11 27 "FiniteMatricesModel" "one" "[J" ∈ uw := uw_mem 796 (by decide +kernel) (by decide +kernel)
theorem w797 : Cond.fieldLink RX11 30 "FiniteMatricesModel" "two" "[J" ∈ uw := uw_mem 797 (by decide +kernel) (by decide +kernel)
theorem w798 : Cond.fieldLink RX11 33 "FiniteMatricesModel" "three" "[J" ∈ uw := uw_mem 798 (by decide +kernel) (by decide +kernel)
theorem w799 : Cond.fieldLink RX11 36 "FiniteMatricesModel" "poly" "[J" ∈ uw := uw_mem 799 (by decide +kernel) (by decide +kernel)
theorem w805 : Cond.fieldLink RX11 45 "FiniteMatricesModel" "list" "[J" ∈ uw := uw_mem 805 (by decide +kernel) (by decide +kernel)
theorem w806 : Cond.fieldLink RX11 48 "FiniteMatricesModel" "cameFrom" "[I" ∈ uw := uw_mem 806 (by decide +kernel) (by decide +kernel)
theorem w807 : Cond.fieldLink RX11 51 "FiniteMatricesModel" "cameBy" "[I" ∈ uw := uw_mem 807 (by decide +kernel) (by decide +kernel)
theorem w808 : Cond.fieldLink RX11 54 "FiniteMatricesModel" "howLong" "[I" ∈ uw := uw_mem 808 (by decide +kernel) (by decide +kernel)
theorem w809 : Cond.fieldLink RX11 202 "FiniteMatricesModel" "listMany" "I" ∈ uw := uw_mem 809 (by decide +kernel) (by decide +kernel)
theorem w810 : Cond.fieldLink RX11 216 "FiniteMatricesModel" "isWhole" "Z" ∈ uw := uw_mem 810 (by decide +kernel) (by decide +kernel)
theorem w812 : Cond.fieldLink RX11 60 "FiniteMatricesModel" "orbit" "[J" ∈ uw := uw_mem 812 (by decide +kernel) (by decide +kernel)
theorem w813 : Cond.fieldLink RX11 63 "FiniteMatricesModel" "goesTo" "[I" ∈ uw := uw_mem 813 (by decide +kernel) (by decide +kernel)
theorem w814 : Cond.fieldLink RX11 66 "FiniteMatricesModel" "places" "[I" ∈ uw := uw_mem 814 (by decide +kernel) (by decide +kernel)
theorem w815 : Cond.fieldLink RX11 102 "FiniteMatricesModel" "orbitMany" "I" ∈ uw := uw_mem 815 (by decide +kernel) (by decide +kernel)
theorem w816 : Cond.fieldLink RX11 275 "FiniteMatricesModel" "isClosed" "Z" ∈ uw := uw_mem 816 (by decide +kernel) (by decide +kernel)
theorem w899 : Cond.methodLink RX11 81 yX11_in ∈ uw := uw_mem 899 (by decide +kernel) (by decide +kernel)
theorem w900 : Cond.static yX11_in ∈ uw := uw_mem 900 (by decide +kernel) (by decide +kernel)
theorem w901 : Cond.code yX11_in cX11_in 6 (some .boolean) ∈ uw := uw_mem 901 (by decide +kernel) (by decide +kernel)
theorem w906 : Cond.methodLink RX11 110 yX11_isPlace ∈ uw := uw_mem 906 (by decide +kernel) (by decide +kernel)
theorem w908 : Cond.instanceMethod yX11_isPlace ∈ uw := uw_mem 908 (by decide +kernel) (by decide +kernel)
theorem w909 : Cond.code yX11_isPlace cX11_isPlace 2 (some .boolean) ∈ uw := uw_mem 909 (by decide +kernel) (by decide +kernel)
theorem w916 : Cond.methodLink RX11 107 yX11_first ∈ uw := uw_mem 916 (by decide +kernel) (by decide +kernel)
theorem w918 : Cond.instanceMethod yX11_first ∈ uw := uw_mem 918 (by decide +kernel) (by decide +kernel)
theorem w919 : Cond.code yX11_first cX11_first 3 none ∈ uw := uw_mem 919 (by decide +kernel) (by decide +kernel)
theorem w920 : Cond.methodLink RX11 90 yX11_clears ∈ uw := uw_mem 920 (by decide +kernel) (by decide +kernel)
theorem w922 : Cond.instanceMethod yX11_clears ∈ uw := uw_mem 922 (by decide +kernel) (by decide +kernel)
theorem w923 : Cond.code yX11_clears cX11_clears 3 none ∈ uw := uw_mem 923 (by decide +kernel) (by decide +kernel)
theorem w932 : Cond.methodLink RX11 122 yX11_isGen ∈ uw := uw_mem 932 (by decide +kernel) (by decide +kernel)
theorem w934 : Cond.instanceMethod yX11_isGen ∈ uw := uw_mem 934 (by decide +kernel) (by decide +kernel)
theorem w935 : Cond.code yX11_isGen cX11_isGen 2 (some .boolean) ∈ uw := uw_mem 935 (by decide +kernel) (by decide +kernel)
theorem w936 : Cond.methodLink RX11 125 yX11_takes ∈ uw := uw_mem 936 (by decide +kernel) (by decide +kernel)
theorem w938 : Cond.instanceMethod yX11_takes ∈ uw := uw_mem 938 (by decide +kernel) (by decide +kernel)
theorem w939 : Cond.code yX11_takes cX11_takes 4 none ∈ uw := uw_mem 939 (by decide +kernel) (by decide +kernel)
theorem w940 : Cond.methodLink RX11 129 yX11_times ∈ uw := uw_mem 940 (by decide +kernel) (by decide +kernel)
theorem w942 : Cond.instanceMethod yX11_times ∈ uw := uw_mem 942 (by decide +kernel) (by decide +kernel)
theorem w943 : Cond.code yX11_times cX11_times 7 none ∈ uw := uw_mem 943 (by decide +kernel) (by decide +kernel)
theorem w945 : Cond.methodLink RX11 135 yX11_without ∈ uw := uw_mem 945 (by decide +kernel) (by decide +kernel)
theorem w947 : Cond.instanceMethod yX11_without ∈ uw := uw_mem 947 (by decide +kernel) (by decide +kernel)
theorem w948 : Cond.code yX11_without cX11_without 8 (some .long) ∈ uw := uw_mem 948 (by decide +kernel) (by decide +kernel)
theorem w949 : Cond.methodLink RX11 139 yX11_det ∈ uw := uw_mem 949 (by decide +kernel) (by decide +kernel)
theorem w951 : Cond.instanceMethod yX11_det ∈ uw := uw_mem 951 (by decide +kernel) (by decide +kernel)
theorem w952 : Cond.code yX11_det cX11_det 2 (some .long) ∈ uw := uw_mem 952 (by decide +kernel) (by decide +kernel)
theorem w977 : Cond.methodLink RX11 154 yX11_isGreat ∈ uw := uw_mem 977 (by decide +kernel) (by decide +kernel)
theorem w979 : Cond.instanceMethod yX11_isGreat ∈ uw := uw_mem 979 (by decide +kernel) (by decide +kernel)
theorem w980 : Cond.code yX11_isGreat cX11_isGreat 4 (some .boolean) ∈ uw := uw_mem 980 (by decide +kernel) (by decide +kernel)
theorem w981 : Cond.constantLong RX11 147 (-1000000000) ∈ uw := uw_mem 981 (by decide +kernel) (by decide +kernel)
theorem w982 : Cond.constantLong RX11 149 (1000000000) ∈ uw := uw_mem 982 (by decide +kernel) (by decide +kernel)
theorem w987 : Cond.methodLink RX11 160 yX11_finds ∈ uw := uw_mem 987 (by decide +kernel) (by decide +kernel)
theorem w989 : Cond.instanceMethod yX11_finds ∈ uw := uw_mem 989 (by decide +kernel) (by decide +kernel)
theorem w990 : Cond.code yX11_finds cX11_finds 4 none ∈ uw := uw_mem 990 (by decide +kernel) (by decide +kernel)
theorem w996 : Cond.methodLink RX11 165 yX11_takesOut ∈ uw := uw_mem 996 (by decide +kernel) (by decide +kernel)
theorem w998 : Cond.instanceMethod yX11_takesOut ∈ uw := uw_mem 998 (by decide +kernel) (by decide +kernel)
theorem w999 : Cond.code yX11_takesOut cX11_takesOut 8 (some .boolean) ∈ uw := uw_mem 999 (by decide +kernel) (by decide +kernel)
theorem w1036 : Cond.methodLink RX11 219 yX11_findList ∈ uw := uw_mem 1036 (by decide +kernel) (by decide +kernel)
theorem w1038 : Cond.instanceMethod yX11_findList ∈ uw := uw_mem 1038 (by decide +kernel) (by decide +kernel)
theorem w1039 : Cond.code yX11_findList cX11_findList 3 none ∈ uw := uw_mem 1039 (by decide +kernel) (by decide +kernel)
theorem w1040 : Cond.methodLink RX11 205 yX11_lists ∈ uw := uw_mem 1040 (by decide +kernel) (by decide +kernel)
theorem w1042 : Cond.instanceMethod yX11_lists ∈ uw := uw_mem 1042 (by decide +kernel) (by decide +kernel)
theorem w1043 : Cond.code yX11_lists cX11_lists 5 none ∈ uw := uw_mem 1043 (by decide +kernel) (by decide +kernel)
theorem w1044 : Cond.methodLink RX11 209 yX11_takesElement ∈ uw := uw_mem 1044 (by decide +kernel) (by decide +kernel)
theorem w1046 : Cond.instanceMethod yX11_takesElement ∈ uw := uw_mem 1046 (by decide +kernel) (by decide +kernel)
theorem w1047 : Cond.code yX11_takesElement cX11_takesElement 4 none ∈ uw := uw_mem 1047 (by decide +kernel) (by decide +kernel)
theorem w1048 : Cond.methodLink RX11 212 yX11_placeOf ∈ uw := uw_mem 1048 (by decide +kernel) (by decide +kernel)
theorem w1050 : Cond.instanceMethod yX11_placeOf ∈ uw := uw_mem 1050 (by decide +kernel) (by decide +kernel)
theorem w1051 : Cond.code yX11_placeOf cX11_placeOf 5 (some .int) ∈ uw := uw_mem 1051 (by decide +kernel) (by decide +kernel)
theorem w1060 : Cond.methodLink RX11 222 yX11_far ∈ uw := uw_mem 1060 (by decide +kernel) (by decide +kernel)
theorem w1061 : Cond.static yX11_far ∈ uw := uw_mem 1061 (by decide +kernel) (by decide +kernel)
theorem w1062 : Cond.code yX11_far cX11_far 1 (some .long) ∈ uw := uw_mem 1062 (by decide +kernel) (by decide +kernel)
theorem w1063 : Cond.constantLong RX11 88 (-4000000000000000000) ∈ uw := uw_mem 1063 (by decide +kernel) (by decide +kernel)
theorem w1088 : Cond.methodLink RX11 230 yX11_findForm ∈ uw := uw_mem 1088 (by decide +kernel) (by decide +kernel)
theorem w1090 : Cond.instanceMethod yX11_findForm ∈ uw := uw_mem 1090 (by decide +kernel) (by decide +kernel)
theorem w1091 : Cond.code yX11_findForm cX11_findForm 9 (some .boolean) ∈ uw := uw_mem 1091 (by decide +kernel) (by decide +kernel)
theorem w1092 : Cond.methodLink RX11 233 yX11_common ∈ uw := uw_mem 1092 (by decide +kernel) (by decide +kernel)
theorem w1093 : Cond.static yX11_common ∈ uw := uw_mem 1093 (by decide +kernel) (by decide +kernel)
theorem w1094 : Cond.code yX11_common cX11_common 10 (some .long) ∈ uw := uw_mem 1094 (by decide +kernel) (by decide +kernel)
theorem w1135 : Cond.methodLink RX11 264 yX11_isAsked ∈ uw := uw_mem 1135 (by decide +kernel) (by decide +kernel)
theorem w1136 : Cond.static yX11_isAsked ∈ uw := uw_mem 1136 (by decide +kernel) (by decide +kernel)
theorem w1137 : Cond.code yX11_isAsked cX11_isAsked 3 (some .boolean) ∈ uw := uw_mem 1137 (by decide +kernel) (by decide +kernel)
theorem w1138 : Cond.constantLong RX11 260 (-1000) ∈ uw := uw_mem 1138 (by decide +kernel) (by decide +kernel)
theorem w1139 : Cond.constantLong RX11 262 (1000) ∈ uw := uw_mem 1139 (by decide +kernel) (by decide +kernel)
theorem w1140 : Cond.methodLink RX11 267 yX11_goes ∈ uw := uw_mem 1140 (by decide +kernel) (by decide +kernel)
theorem w1142 : Cond.instanceMethod yX11_goes ∈ uw := uw_mem 1142 (by decide +kernel) (by decide +kernel)
theorem w1143 : Cond.code yX11_goes cX11_goes 5 none ∈ uw := uw_mem 1143 (by decide +kernel) (by decide +kernel)
theorem w1144 : Cond.methodLink RX11 271 yX11_placeIn ∈ uw := uw_mem 1144 (by decide +kernel) (by decide +kernel)
theorem w1146 : Cond.instanceMethod yX11_placeIn ∈ uw := uw_mem 1146 (by decide +kernel) (by decide +kernel)
theorem w1147 : Cond.code yX11_placeIn cX11_placeIn 8 (some .int) ∈ uw := uw_mem 1147 (by decide +kernel) (by decide +kernel)
theorem w1156 : Cond.constantLong RX11 278 (2) ∈ uw := uw_mem 1156 (by decide +kernel) (by decide +kernel)
theorem w1157 : Cond.methodLink RX11 280 yX11_roundNow ∈ uw := uw_mem 1157 (by decide +kernel) (by decide +kernel)
theorem w1159 : Cond.instanceMethod yX11_roundNow ∈ uw := uw_mem 1159 (by decide +kernel) (by decide +kernel)
theorem w1160 : Cond.code yX11_roundNow cX11_roundNow 8 (some .int) ∈ uw := uw_mem 1160 (by decide +kernel) (by decide +kernel)
theorem hdJ7_fill_53178 : yJ7_fill_53178.cls ≠ "java/lang/invoke/MethodHandle" ∧ yJ7_fill_53178.cls ≠ "java/lang/invoke/VarHandle" ∧ (parseMethodDescriptor yJ7_fill_53178.desc).map (fun d => d.parameters.length) = some 2 := by decide +kernel
theorem hdX0_go : yX0_go.cls ≠ "java/lang/invoke/MethodHandle" ∧ yX0_go.cls ≠ "java/lang/invoke/VarHandle" ∧ (parseMethodDescriptor yX0_go.desc).map (fun d => d.parameters.length) = some 4 := by decide +kernel
theorem hdX10_clearBench : yX10_clearBench.cls ≠ "java/lang/invoke/MethodHandle" ∧ yX10_clearBench.cls ≠ "java/lang/invoke/VarHandle" ∧ (parseMethodDescriptor yX10_clearBench.desc).map (fun d => d.parameters.length) = some 2 := by decide +kernel
theorem hdX10_roundOfTrail : yX10_roundOfTrail.cls ≠ "java/lang/invoke/MethodHandle" ∧ yX10_roundOfTrail.cls ≠ "java/lang/invoke/VarHandle" ∧ (parseMethodDescriptor yX10_roundOfTrail.desc).map (fun d => d.parameters.length) = some 0 := by decide +kernel
theorem hdX11_clears : yX11_clears.cls ≠ "java/lang/invoke/MethodHandle" ∧ yX11_clears.cls ≠ "java/lang/invoke/VarHandle" ∧ (parseMethodDescriptor yX11_clears.desc).map (fun d => d.parameters.length) = some 1 := by decide +kernel
theorem hdX11_common : yX11_common.cls ≠ "java/lang/invoke/MethodHandle" ∧ yX11_common.cls ≠ "java/lang/invoke/VarHandle" ∧ (parseMethodDescriptor yX11_common.desc).map (fun d => d.parameters.length) = some 2 := by decide +kernel
theorem hdX11_det : yX11_det.cls ≠ "java/lang/invoke/MethodHandle" ∧ yX11_det.cls ≠ "java/lang/invoke/VarHandle" ∧ (parseMethodDescriptor yX11_det.desc).map (fun d => d.parameters.length) = some 1 := by decide +kernel
theorem hdX11_far : yX11_far.cls ≠ "java/lang/invoke/MethodHandle" ∧ yX11_far.cls ≠ "java/lang/invoke/VarHandle" ∧ (parseMethodDescriptor yX11_far.desc).map (fun d => d.parameters.length) = some 1 := by decide +kernel
theorem hdX11_findForm : yX11_findForm.cls ≠ "java/lang/invoke/MethodHandle" ∧ yX11_findForm.cls ≠ "java/lang/invoke/VarHandle" ∧ (parseMethodDescriptor yX11_findForm.desc).map (fun d => d.parameters.length) = some 0 := by decide +kernel
theorem hdX11_findList : yX11_findList.cls ≠ "java/lang/invoke/MethodHandle" ∧ yX11_findList.cls ≠ "java/lang/invoke/VarHandle" ∧ (parseMethodDescriptor yX11_findList.desc).map (fun d => d.parameters.length) = some 0 := by decide +kernel
theorem hdX11_finds : yX11_finds.cls ≠ "java/lang/invoke/MethodHandle" ∧ yX11_finds.cls ≠ "java/lang/invoke/VarHandle" ∧ (parseMethodDescriptor yX11_finds.desc).map (fun d => d.parameters.length) = some 1 := by decide +kernel
theorem hdX11_first : yX11_first.cls ≠ "java/lang/invoke/MethodHandle" ∧ yX11_first.cls ≠ "java/lang/invoke/VarHandle" ∧ (parseMethodDescriptor yX11_first.desc).map (fun d => d.parameters.length) = some 1 := by decide +kernel
theorem hdX11_goes : yX11_goes.cls ≠ "java/lang/invoke/MethodHandle" ∧ yX11_goes.cls ≠ "java/lang/invoke/VarHandle" ∧ (parseMethodDescriptor yX11_goes.desc).map (fun d => d.parameters.length) = some 2 := by decide +kernel
theorem hdX11_in : yX11_in.cls ≠ "java/lang/invoke/MethodHandle" ∧ yX11_in.cls ≠ "java/lang/invoke/VarHandle" ∧ (parseMethodDescriptor yX11_in.desc).map (fun d => d.parameters.length) = some 3 := by decide +kernel
theorem hdX11_isAsked : yX11_isAsked.cls ≠ "java/lang/invoke/MethodHandle" ∧ yX11_isAsked.cls ≠ "java/lang/invoke/VarHandle" ∧ (parseMethodDescriptor yX11_isAsked.desc).map (fun d => d.parameters.length) = some 3 := by decide +kernel
theorem hdX11_isGen : yX11_isGen.cls ≠ "java/lang/invoke/MethodHandle" ∧ yX11_isGen.cls ≠ "java/lang/invoke/VarHandle" ∧ (parseMethodDescriptor yX11_isGen.desc).map (fun d => d.parameters.length) = some 1 := by decide +kernel
theorem hdX11_isGreat : yX11_isGreat.cls ≠ "java/lang/invoke/MethodHandle" ∧ yX11_isGreat.cls ≠ "java/lang/invoke/VarHandle" ∧ (parseMethodDescriptor yX11_isGreat.desc).map (fun d => d.parameters.length) = some 1 := by decide +kernel
theorem hdX11_isPlace : yX11_isPlace.cls ≠ "java/lang/invoke/MethodHandle" ∧ yX11_isPlace.cls ≠ "java/lang/invoke/VarHandle" ∧ (parseMethodDescriptor yX11_isPlace.desc).map (fun d => d.parameters.length) = some 1 := by decide +kernel
theorem hdX11_lists : yX11_lists.cls ≠ "java/lang/invoke/MethodHandle" ∧ yX11_lists.cls ≠ "java/lang/invoke/VarHandle" ∧ (parseMethodDescriptor yX11_lists.desc).map (fun d => d.parameters.length) = some 3 := by decide +kernel
theorem hdX11_placeIn : yX11_placeIn.cls ≠ "java/lang/invoke/MethodHandle" ∧ yX11_placeIn.cls ≠ "java/lang/invoke/VarHandle" ∧ (parseMethodDescriptor yX11_placeIn.desc).map (fun d => d.parameters.length) = some 3 := by decide +kernel
theorem hdX11_placeOf : yX11_placeOf.cls ≠ "java/lang/invoke/MethodHandle" ∧ yX11_placeOf.cls ≠ "java/lang/invoke/VarHandle" ∧ (parseMethodDescriptor yX11_placeOf.desc).map (fun d => d.parameters.length) = some 1 := by decide +kernel
theorem hdX11_roundNow : yX11_roundNow.cls ≠ "java/lang/invoke/MethodHandle" ∧ yX11_roundNow.cls ≠ "java/lang/invoke/VarHandle" ∧ (parseMethodDescriptor yX11_roundNow.desc).map (fun d => d.parameters.length) = some 0 := by decide +kernel
theorem hdX11_takes : yX11_takes.cls ≠ "java/lang/invoke/MethodHandle" ∧ yX11_takes.cls ≠ "java/lang/invoke/VarHandle" ∧ (parseMethodDescriptor yX11_takes.desc).map (fun d => d.parameters.length) = some 2 := by decide +kernel
theorem hdX11_takesElement : yX11_takesElement.cls ≠ "java/lang/invoke/MethodHandle" ∧ yX11_takesElement.cls ≠ "java/lang/invoke/VarHandle" ∧ (parseMethodDescriptor yX11_takesElement.desc).map (fun d => d.parameters.length) = some 2 := by decide +kernel
theorem hdX11_takesOut : yX11_takesOut.cls ≠ "java/lang/invoke/MethodHandle" ∧ yX11_takesOut.cls ≠ "java/lang/invoke/VarHandle" ∧ (parseMethodDescriptor yX11_takesOut.desc).map (fun d => d.parameters.length) = some 3 := by decide +kernel
theorem hdX11_times : yX11_times.cls ≠ "java/lang/invoke/MethodHandle" ∧ yX11_times.cls ≠ "java/lang/invoke/VarHandle" ∧ (parseMethodDescriptor yX11_times.desc).map (fun d => d.parameters.length) = some 3 := by decide +kernel
theorem hdX11_without : yX11_without.cls ≠ "java/lang/invoke/MethodHandle" ∧ yX11_without.cls ≠ "java/lang/invoke/VarHandle" ∧ (parseMethodDescriptor yX11_without.desc).map (fun d => d.parameters.length) = some 3 := by decide +kernel
theorem hdX3_characterOf : yX3_characterOf.cls ≠ "java/lang/invoke/MethodHandle" ∧ yX3_characterOf.cls ≠ "java/lang/invoke/VarHandle" ∧ (parseMethodDescriptor yX3_characterOf.desc).map (fun d => d.parameters.length) = some 3 := by decide +kernel
theorem hdX3_howOften : yX3_howOften.cls ≠ "java/lang/invoke/MethodHandle" ∧ yX3_howOften.cls ≠ "java/lang/invoke/VarHandle" ∧ (parseMethodDescriptor yX3_howOften.desc).map (fun d => d.parameters.length) = some 3 := by decide +kernel
theorem hdX3_isFactor : yX3_isFactor.cls ≠ "java/lang/invoke/MethodHandle" ∧ yX3_isFactor.cls ≠ "java/lang/invoke/VarHandle" ∧ (parseMethodDescriptor yX3_isFactor.desc).map (fun d => d.parameters.length) = some 1 := by decide +kernel
theorem hdX3_takeOut : yX3_takeOut.cls ≠ "java/lang/invoke/MethodHandle" ∧ yX3_takeOut.cls ≠ "java/lang/invoke/VarHandle" ∧ (parseMethodDescriptor yX3_takeOut.desc).map (fun d => d.parameters.length) = some 3 := by decide +kernel
theorem hdX4_append : yX4_append.cls ≠ "java/lang/invoke/MethodHandle" ∧ yX4_append.cls ≠ "java/lang/invoke/VarHandle" ∧ (parseMethodDescriptor yX4_append.desc).map (fun d => d.parameters.length) = some 3 := by decide +kernel
theorem hdX4_clear : yX4_clear.cls ≠ "java/lang/invoke/MethodHandle" ∧ yX4_clear.cls ≠ "java/lang/invoke/VarHandle" ∧ (parseMethodDescriptor yX4_clear.desc).map (fun d => d.parameters.length) = some 2 := by decide +kernel
theorem hdX4_has : yX4_has.cls ≠ "java/lang/invoke/MethodHandle" ∧ yX4_has.cls ≠ "java/lang/invoke/VarHandle" ∧ (parseMethodDescriptor yX4_has.desc).map (fun d => d.parameters.length) = some 1 := by decide +kernel
theorem hdX4_init : yX4_init.cls ≠ "java/lang/invoke/MethodHandle" ∧ yX4_init.cls ≠ "java/lang/invoke/VarHandle" ∧ (parseMethodDescriptor yX4_init.desc).map (fun d => d.parameters.length) = some 3 := by decide +kernel
theorem hdX4_isRow : yX4_isRow.cls ≠ "java/lang/invoke/MethodHandle" ∧ yX4_isRow.cls ≠ "java/lang/invoke/VarHandle" ∧ (parseMethodDescriptor yX4_isRow.desc).map (fun d => d.parameters.length) = some 2 := by decide +kernel
theorem hdX4_lead : yX4_lead.cls ≠ "java/lang/invoke/MethodHandle" ∧ yX4_lead.cls ≠ "java/lang/invoke/VarHandle" ∧ (parseMethodDescriptor yX4_lead.desc).map (fun d => d.parameters.length) = some 3 := by decide +kernel
theorem hdX4_search : yX4_search.cls ≠ "java/lang/invoke/MethodHandle" ∧ yX4_search.cls ≠ "java/lang/invoke/VarHandle" ∧ (parseMethodDescriptor yX4_search.desc).map (fun d => d.parameters.length) = some 1 := by decide +kernel
theorem hdX4_slotOf : yX4_slotOf.cls ≠ "java/lang/invoke/MethodHandle" ∧ yX4_slotOf.cls ≠ "java/lang/invoke/VarHandle" ∧ (parseMethodDescriptor yX4_slotOf.desc).map (fun d => d.parameters.length) = some 1 := by decide +kernel
theorem hdX4_spread : yX4_spread.cls ≠ "java/lang/invoke/MethodHandle" ∧ yX4_spread.cls ≠ "java/lang/invoke/VarHandle" ∧ (parseMethodDescriptor yX4_spread.desc).map (fun d => d.parameters.length) = some 2 := by decide +kernel
theorem hdX4_start : yX4_start.cls ≠ "java/lang/invoke/MethodHandle" ∧ yX4_start.cls ≠ "java/lang/invoke/VarHandle" ∧ (parseMethodDescriptor yX4_start.desc).map (fun d => d.parameters.length) = some 1 := by decide +kernel
theorem hdX5_has : yX5_has.cls ≠ "java/lang/invoke/MethodHandle" ∧ yX5_has.cls ≠ "java/lang/invoke/VarHandle" ∧ (parseMethodDescriptor yX5_has.desc).map (fun d => d.parameters.length) = some 1 := by decide +kernel
theorem hdX7_cofactor : yX7_cofactor.cls ≠ "java/lang/invoke/MethodHandle" ∧ yX7_cofactor.cls ≠ "java/lang/invoke/VarHandle" ∧ (parseMethodDescriptor yX7_cofactor.desc).map (fun d => d.parameters.length) = some 5 := by decide +kernel
theorem hdX7_determinant : yX7_determinant.cls ≠ "java/lang/invoke/MethodHandle" ∧ yX7_determinant.cls ≠ "java/lang/invoke/VarHandle" ∧ (parseMethodDescriptor yX7_determinant.desc).map (fun d => d.parameters.length) = some 4 := by decide +kernel
theorem hdX7_trace : yX7_trace.cls ≠ "java/lang/invoke/MethodHandle" ∧ yX7_trace.cls ≠ "java/lang/invoke/VarHandle" ∧ (parseMethodDescriptor yX7_trace.desc).map (fun d => d.parameters.length) = some 3 := by decide +kernel
theorem wStepSame : Cond.sameMethod yStep.cls yStep.cls yStep.name yStep.desc ∈ uw := uw_mem 526 (by decide +kernel) (by decide +kernel)
theorem li_m16 : ((-16) : Int32).toInt = (-16) := by decide +kernel
theorem li_m3 : ((-3) : Int32).toInt = (-3) := by decide +kernel
theorem li_m1 : ((-1) : Int32).toInt = (-1) := by decide +kernel
theorem li_0 : (0 : Int32).toInt = 0 := by decide +kernel
theorem li_1 : (1 : Int32).toInt = 1 := by decide +kernel
theorem li_2 : (2 : Int32).toInt = 2 := by decide +kernel
theorem li_3 : (3 : Int32).toInt = 3 := by decide +kernel
theorem li_4 : (4 : Int32).toInt = 4 := by decide +kernel
theorem li_5 : (5 : Int32).toInt = 5 := by decide +kernel
theorem li_6 : (6 : Int32).toInt = 6 := by decide +kernel
theorem li_7 : (7 : Int32).toInt = 7 := by decide +kernel
theorem li_8 : (8 : Int32).toInt = 8 := by decide +kernel
theorem li_9 : (9 : Int32).toInt = 9 := by decide +kernel
theorem li_10 : (10 : Int32).toInt = 10 := by decide +kernel
theorem li_60 : (60 : Int32).toInt = 60 := by decide +kernel
theorem li_100 : (100 : Int32).toInt = 100 := by decide +kernel
theorem li_200 : (200 : Int32).toInt = 200 := by decide +kernel
theorem li_1000 : (1000 : Int32).toInt = 1000 := by decide +kernel
theorem li_1024 : (1024 : Int32).toInt = 1024 := by decide +kernel
theorem li_10000 : (10000 : Int32).toInt = 10000 := by decide +kernel
theorem li_100000 : (100000 : Int32).toInt = 100000 := by decide +kernel
theorem li_1000000 : (1000000 : Int32).toInt = 1000000 := by decide +kernel
theorem li_10000000 : (10000000 : Int32).toInt = 10000000 := by decide +kernel
theorem li_100000000 : (100000000 : Int32).toInt = 100000000 := by decide +kernel
theorem ll_m4000000000000000000 : ((-4000000000000000000) : Int64).toInt = (-4000000000000000000) := by decide +kernel
theorem ll_m1000000000 : ((-1000000000) : Int64).toInt = (-1000000000) := by decide +kernel
theorem ll_0 : (0 : Int64).toInt = 0 := by decide +kernel
theorem ll_1 : (1 : Int64).toInt = 1 := by decide +kernel
theorem ll_2 : (2 : Int64).toInt = 2 := by decide +kernel
theorem ll_1000000000 : (1000000000 : Int64).toInt = 1000000000 := by decide +kernel
