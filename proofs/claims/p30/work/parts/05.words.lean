theorem iX_all {C : String} {T : u_T} {N : Nat} (h : (u_ws C T N).all (fun w => decide (w ∈ lw_tbl) && goodWord w) = true) : ∀ w ∈ u_ws C T N, w ∈ uw := fun w hw => by
  have h1 := List.all_eq_true.mp h w hw
  simp only [Bool.and_eq_true, decide_eq_true_eq] at h1
  exact List.mem_filter.mpr h1
set_option maxRecDepth 20000 in
theorem iX0 : ∀ w ∈ u_ws RX0 TX0 1, w ∈ uw := iX_all (by decide +kernel)
set_option maxRecDepth 20000 in
theorem iX1 : ∀ w ∈ u_ws RX1 TX1 1, w ∈ uw := iX_all (by decide +kernel)
set_option maxRecDepth 20000 in
theorem iX2 : ∀ w ∈ u_ws RX2 TX2 2, w ∈ uw := iX_all (by decide +kernel)
set_option maxRecDepth 20000 in
theorem iX4 : ∀ w ∈ u_ws RX4 TX4 12, w ∈ uw := iX_all (by decide +kernel)
set_option maxRecDepth 20000 in
theorem iX5 : ∀ w ∈ u_ws RX5 TX5 4, w ∈ uw := iX_all (by decide +kernel)
set_option maxRecDepth 20000 in
theorem iX6 : ∀ w ∈ u_ws RX6 TX6 3, w ∈ uw := iX_all (by decide +kernel)
set_option maxRecDepth 20000 in
theorem iX9 : ∀ w ∈ u_ws RX9 TX9 5, w ∈ uw := iX_all (by decide +kernel)
set_option maxRecDepth 20000 in
theorem iX10 : ∀ w ∈ u_ws RX10 TX10 17, w ∈ uw := iX_all (by decide +kernel)
set_option maxRecDepth 20000 in
theorem iX11 : ∀ w ∈ u_ws RX11 TX11 36, w ∈ uw := iX_all (by decide +kernel)
theorem w0 : Cond.selects RX10 yX10_forgetWhatCame yX10_forgetWhatCame ∈ uw := uw_mem 0 (by decide +kernel) (by decide +kernel)
theorem w1 : Cond.selects RX10 yX10_addUnit yX10_addUnit ∈ uw := uw_mem 1 (by decide +kernel) (by decide +kernel)
theorem w2 : Cond.selects RX10 yX10_addSquare yX10_addSquare ∈ uw := uw_mem 2 (by decide +kernel) (by decide +kernel)
theorem w26 : Cond.selects RX11 yX11_isPlace yX11_isPlace ∈ uw := uw_mem 26 (by decide +kernel) (by decide +kernel)
theorem w27 : Cond.selects RX11 yX11_makesUnit yX11_makesUnit ∈ uw := uw_mem 27 (by decide +kernel) (by decide +kernel)
theorem w28 : Cond.selects RX11 yX11_first yX11_first ∈ uw := uw_mem 28 (by decide +kernel) (by decide +kernel)
theorem w29 : Cond.selects RX11 yX11_clears yX11_clears ∈ uw := uw_mem 29 (by decide +kernel) (by decide +kernel)
theorem w30 : Cond.selects RX11 yX11_comes yX11_comes ∈ uw := uw_mem 30 (by decide +kernel) (by decide +kernel)
theorem w63 : Cond.initialized RX10 ∈ uw := uw_mem 63 (by decide +kernel) (by decide +kernel)
theorem w64 : Cond.initialized RX5 ∈ uw := uw_mem 64 (by decide +kernel) (by decide +kernel)
theorem w72 : Cond.initialized RX11 ∈ uw := uw_mem 72 (by decide +kernel) (by decide +kernel)
theorem w73 : Cond.initialized RJ7 ∈ uw := uw_mem 73 (by decide +kernel) (by decide +kernel)
theorem w74 : Cond.initialized RX7 ∈ uw := uw_mem 74 (by decide +kernel) (by decide +kernel)
theorem w75 : Cond.initialized RJ10 ∈ uw := uw_mem 75 (by decide +kernel) (by decide +kernel)
theorem w92 : Cond.fieldLink RX5 9 "FiniteMatrices$Setting" "size" "I" ∈ uw := uw_mem 92 (by decide +kernel) (by decide +kernel)
theorem w93 : Cond.fieldLink RX10 98 "FiniteMatrices$Setting" "size" "I" ∈ uw := uw_mem 93 (by decide +kernel) (by decide +kernel)
theorem w96 : Cond.fieldLink RX5 15 "FiniteMatrices$Setting" "count" "I" ∈ uw := uw_mem 96 (by decide +kernel) (by decide +kernel)
theorem w97 : Cond.fieldLink RX10 101 "FiniteMatrices$Setting" "count" "I" ∈ uw := uw_mem 97 (by decide +kernel) (by decide +kernel)
theorem w99 : Cond.fieldLink RX10 297 "FiniteMatrices$Setting" "z" "I" ∈ uw := uw_mem 99 (by decide +kernel) (by decide +kernel)
theorem w100 : Cond.fieldLink RX5 21 "FiniteMatrices$Setting" "cells" "[J" ∈ uw := uw_mem 100 (by decide +kernel) (by decide +kernel)
theorem w249 : Cond.fieldLink RX10 10 "FiniteMatrices" "now" "LFiniteMatrices$Setting;" ∈ uw := uw_mem 249 (by decide +kernel) (by decide +kernel)
theorem w255 : Cond.fieldLink RX10 45 "FiniteMatrices" "listReady" "Z" ∈ uw := uw_mem 255 (by decide +kernel) (by decide +kernel)
theorem w257 : Cond.fieldLink RX10 51 "FiniteMatrices" "trailReady" "Z" ∈ uw := uw_mem 257 (by decide +kernel) (by decide +kernel)
theorem w259 : Cond.fieldLink RX10 57 "FiniteMatrices" "imageCounts" "[I" ∈ uw := uw_mem 259 (by decide +kernel) (by decide +kernel)
theorem w264 : Cond.fieldLink RX10 90 "FiniteMatrices" "square" "[J" ∈ uw := uw_mem 264 (by decide +kernel) (by decide +kernel)
theorem w305 : Cond.methodLink RX10 104 yX10_forgetWhatCame ∈ uw := uw_mem 305 (by decide +kernel) (by decide +kernel)
theorem w307 : Cond.instanceMethod yX10_forgetWhatCame ∈ uw := uw_mem 307 (by decide +kernel) (by decide +kernel)
theorem w308 : Cond.code yX10_forgetWhatCame cX10_forgetWhatCame 1 none ∈ uw := uw_mem 308 (by decide +kernel) (by decide +kernel)
theorem w309 : Cond.methodLink RX10 333 yJ7_fill_53178 ∈ uw := uw_mem 309 (by decide +kernel) (by decide +kernel)
theorem w310 : Cond.static yJ7_fill_53178 ∈ uw := uw_mem 310 (by decide +kernel) (by decide +kernel)
theorem w311 : Cond.code yJ7_fill_53178 cJ7_fill_53178 4 none ∈ uw := uw_mem 311 (by decide +kernel) (by decide +kernel)
theorem w316 : Cond.methodLink RX10 107 yX5_isPlace ∈ uw := uw_mem 316 (by decide +kernel) (by decide +kernel)
theorem w317 : Cond.instanceMethod yX5_isPlace ∈ uw := uw_mem 317 (by decide +kernel) (by decide +kernel)
theorem w318 : Cond.selects RX5 yX5_isPlace yX5_isPlace ∈ uw := uw_mem 318 (by decide +kernel) (by decide +kernel)
theorem w319 : Cond.code yX5_isPlace cX5_isPlace 3 (some .boolean) ∈ uw := uw_mem 319 (by decide +kernel) (by decide +kernel)
theorem w320 : Cond.methodLink RX10 111 yX10_fitsUnit ∈ uw := uw_mem 320 (by decide +kernel) (by decide +kernel)
theorem w321 : Cond.static yX10_fitsUnit ∈ uw := uw_mem 321 (by decide +kernel) (by decide +kernel)
theorem w322 : Cond.code yX10_fitsUnit cX10_fitsUnit 2 (some .boolean) ∈ uw := uw_mem 322 (by decide +kernel) (by decide +kernel)
theorem w323 : Cond.methodLink RX10 115 yX5_isFull ∈ uw := uw_mem 323 (by decide +kernel) (by decide +kernel)
theorem w324 : Cond.instanceMethod yX5_isFull ∈ uw := uw_mem 324 (by decide +kernel) (by decide +kernel)
theorem w325 : Cond.selects RX5 yX5_isFull yX5_isFull ∈ uw := uw_mem 325 (by decide +kernel) (by decide +kernel)
theorem w326 : Cond.code yX5_isFull cX5_isFull 1 (some .boolean) ∈ uw := uw_mem 326 (by decide +kernel) (by decide +kernel)
theorem w327 : Cond.methodLink RX10 119 yX10_addUnit ∈ uw := uw_mem 327 (by decide +kernel) (by decide +kernel)
theorem w329 : Cond.instanceMethod yX10_addUnit ∈ uw := uw_mem 329 (by decide +kernel) (by decide +kernel)
theorem w330 : Cond.code yX10_addUnit cX10_addUnit 4 (some .int) ∈ uw := uw_mem 330 (by decide +kernel) (by decide +kernel)
theorem w331 : Cond.methodLink RX10 339 yX7_becomeOne ∈ uw := uw_mem 331 (by decide +kernel) (by decide +kernel)
theorem w332 : Cond.static yX7_becomeOne ∈ uw := uw_mem 332 (by decide +kernel) (by decide +kernel)
theorem w333 : Cond.code yX7_becomeOne cX7_becomeOne 3 none ∈ uw := uw_mem 333 (by decide +kernel) (by decide +kernel)
theorem w334 : Cond.methodLink RX7 7 yJ7_fill_d0a16 ∈ uw := uw_mem 334 (by decide +kernel) (by decide +kernel)
theorem w335 : Cond.static yJ7_fill_d0a16 ∈ uw := uw_mem 335 (by decide +kernel) (by decide +kernel)
theorem w336 : Cond.code yJ7_fill_d0a16 cJ7_fill_d0a16 5 none ∈ uw := uw_mem 336 (by decide +kernel) (by decide +kernel)
theorem w337 : Cond.methodLink RX10 142 yX10_addSquare ∈ uw := uw_mem 337 (by decide +kernel) (by decide +kernel)
theorem w339 : Cond.instanceMethod yX10_addSquare ∈ uw := uw_mem 339 (by decide +kernel) (by decide +kernel)
theorem w340 : Cond.code yX10_addSquare cX10_addSquare 2 (some .int) ∈ uw := uw_mem 340 (by decide +kernel) (by decide +kernel)
theorem w341 : Cond.methodLink RX10 343 yX5_append ∈ uw := uw_mem 341 (by decide +kernel) (by decide +kernel)
theorem w342 : Cond.instanceMethod yX5_append ∈ uw := uw_mem 342 (by decide +kernel) (by decide +kernel)
theorem w343 : Cond.selects RX5 yX5_append yX5_append ∈ uw := uw_mem 343 (by decide +kernel) (by decide +kernel)
theorem w344 : Cond.code yX5_append cX5_append 2 (some .int) ∈ uw := uw_mem 344 (by decide +kernel) (by decide +kernel)
theorem w345 : Cond.methodLink RX5 25 yX5_isFull ∈ uw := uw_mem 345 (by decide +kernel) (by decide +kernel)
theorem w346 : Cond.methodLink RX5 29 arraycopyName ∈ uw := uw_mem 346 (by decide +kernel) (by decide +kernel)
theorem w347 : Cond.static arraycopyName ∈ uw := uw_mem 347 (by decide +kernel) (by decide +kernel)
theorem w348 : Cond.native arraycopyName ∈ uw := uw_mem 348 (by decide +kernel) (by decide +kernel)
theorem w785 : Cond.fieldLink RX11 7 "FiniteMatricesModel" "d" "I" ∈ uw := uw_mem 785 (by decide +kernel) (by decide +kernel)
theorem w786 : Cond.fieldLink RX11 85 "FiniteMatricesModel" "many" "I" ∈ uw := uw_mem 786 (by decide +kernel) (by decide +kernel)
theorem w787 : Cond.fieldLink RX11 13 "FiniteMatricesModel" "z" "I" ∈ uw := uw_mem 787 (by decide +kernel) (by decide +kernel)
theorem w791 : Cond.fieldLink RX11 16 "FiniteMatricesModel" "gens" "[I" ∈ uw := uw_mem 791 (by decide +kernel) (by decide +kernel)
theorem w794 : Cond.fieldLink RX11 98 "FiniteMatricesModel" "isListed" "Z" ∈ uw := uw_mem 794 (by decide +kernel) (by decide +kernel)
theorem w795 : Cond.fieldLink RX11 23 "FiniteMatricesModel" "made" "[J" ∈ uw := uw_mem 795 (by decide +kernel) (by decide +kernel)
theorem w815 : Cond.fieldLink RX11 102 "FiniteMatricesModel" "orbitMany" "I" ∈ uw := uw_mem 815 (by decide +kernel) (by decide +kernel)
theorem w898 : Cond.constantLong RX11 105 (3) ∈ uw := uw_mem 898 (by decide +kernel) (by decide +kernel)
theorem w899 : Cond.methodLink RX11 81 yX11_in ∈ uw := uw_mem 899 (by decide +kernel) (by decide +kernel)
theorem w900 : Cond.static yX11_in ∈ uw := uw_mem 900 (by decide +kernel) (by decide +kernel)
theorem w901 : Cond.code yX11_in cX11_in 6 (some .boolean) ∈ uw := uw_mem 901 (by decide +kernel) (by decide +kernel)
theorem w906 : Cond.methodLink RX11 110 yX11_isPlace ∈ uw := uw_mem 906 (by decide +kernel) (by decide +kernel)
theorem w908 : Cond.instanceMethod yX11_isPlace ∈ uw := uw_mem 908 (by decide +kernel) (by decide +kernel)
theorem w909 : Cond.code yX11_isPlace cX11_isPlace 2 (some .boolean) ∈ uw := uw_mem 909 (by decide +kernel) (by decide +kernel)
theorem w910 : Cond.constantLong RX11 94 (-99) ∈ uw := uw_mem 910 (by decide +kernel) (by decide +kernel)
theorem w911 : Cond.constantLong RX11 96 (99) ∈ uw := uw_mem 911 (by decide +kernel) (by decide +kernel)
theorem w912 : Cond.methodLink RX11 114 yX11_makesUnit ∈ uw := uw_mem 912 (by decide +kernel) (by decide +kernel)
theorem w914 : Cond.instanceMethod yX11_makesUnit ∈ uw := uw_mem 914 (by decide +kernel) (by decide +kernel)
theorem w915 : Cond.code yX11_makesUnit cX11_makesUnit 4 none ∈ uw := uw_mem 915 (by decide +kernel) (by decide +kernel)
theorem w916 : Cond.methodLink RX11 107 yX11_first ∈ uw := uw_mem 916 (by decide +kernel) (by decide +kernel)
theorem w918 : Cond.instanceMethod yX11_first ∈ uw := uw_mem 918 (by decide +kernel) (by decide +kernel)
theorem w919 : Cond.code yX11_first cX11_first 3 none ∈ uw := uw_mem 919 (by decide +kernel) (by decide +kernel)
theorem w920 : Cond.methodLink RX11 90 yX11_clears ∈ uw := uw_mem 920 (by decide +kernel) (by decide +kernel)
theorem w922 : Cond.instanceMethod yX11_clears ∈ uw := uw_mem 922 (by decide +kernel) (by decide +kernel)
theorem w923 : Cond.code yX11_clears cX11_clears 3 none ∈ uw := uw_mem 923 (by decide +kernel) (by decide +kernel)
theorem w924 : Cond.methodLink RX11 118 yX11_comes ∈ uw := uw_mem 924 (by decide +kernel) (by decide +kernel)
theorem w926 : Cond.instanceMethod yX11_comes ∈ uw := uw_mem 926 (by decide +kernel) (by decide +kernel)
theorem w927 : Cond.code yX11_comes cX11_comes 2 (some .int) ∈ uw := uw_mem 927 (by decide +kernel) (by decide +kernel)
theorem hdJ7_fill_53178 : yJ7_fill_53178.cls ≠ "java/lang/invoke/MethodHandle" ∧ yJ7_fill_53178.cls ≠ "java/lang/invoke/VarHandle" ∧ (parseMethodDescriptor yJ7_fill_53178.desc).map (fun d => d.parameters.length) = some 2 := by decide +kernel
theorem hdJ7_fill_d0a16 : yJ7_fill_d0a16.cls ≠ "java/lang/invoke/MethodHandle" ∧ yJ7_fill_d0a16.cls ≠ "java/lang/invoke/VarHandle" ∧ (parseMethodDescriptor yJ7_fill_d0a16.desc).map (fun d => d.parameters.length) = some 2 := by decide +kernel
theorem hdX10_addSquare : yX10_addSquare.cls ≠ "java/lang/invoke/MethodHandle" ∧ yX10_addSquare.cls ≠ "java/lang/invoke/VarHandle" ∧ (parseMethodDescriptor yX10_addSquare.desc).map (fun d => d.parameters.length) = some 0 := by decide +kernel
theorem hdX10_addUnit : yX10_addUnit.cls ≠ "java/lang/invoke/MethodHandle" ∧ yX10_addUnit.cls ≠ "java/lang/invoke/VarHandle" ∧ (parseMethodDescriptor yX10_addUnit.desc).map (fun d => d.parameters.length) = some 3 := by decide +kernel
theorem hdX10_fitsUnit : yX10_fitsUnit.cls ≠ "java/lang/invoke/MethodHandle" ∧ yX10_fitsUnit.cls ≠ "java/lang/invoke/VarHandle" ∧ (parseMethodDescriptor yX10_fitsUnit.desc).map (fun d => d.parameters.length) = some 2 := by decide +kernel
theorem hdX10_forgetWhatCame : yX10_forgetWhatCame.cls ≠ "java/lang/invoke/MethodHandle" ∧ yX10_forgetWhatCame.cls ≠ "java/lang/invoke/VarHandle" ∧ (parseMethodDescriptor yX10_forgetWhatCame.desc).map (fun d => d.parameters.length) = some 0 := by decide +kernel
theorem hdX11_clears : yX11_clears.cls ≠ "java/lang/invoke/MethodHandle" ∧ yX11_clears.cls ≠ "java/lang/invoke/VarHandle" ∧ (parseMethodDescriptor yX11_clears.desc).map (fun d => d.parameters.length) = some 1 := by decide +kernel
theorem hdX11_comes : yX11_comes.cls ≠ "java/lang/invoke/MethodHandle" ∧ yX11_comes.cls ≠ "java/lang/invoke/VarHandle" ∧ (parseMethodDescriptor yX11_comes.desc).map (fun d => d.parameters.length) = some 0 := by decide +kernel
theorem hdX11_first : yX11_first.cls ≠ "java/lang/invoke/MethodHandle" ∧ yX11_first.cls ≠ "java/lang/invoke/VarHandle" ∧ (parseMethodDescriptor yX11_first.desc).map (fun d => d.parameters.length) = some 1 := by decide +kernel
theorem hdX11_in : yX11_in.cls ≠ "java/lang/invoke/MethodHandle" ∧ yX11_in.cls ≠ "java/lang/invoke/VarHandle" ∧ (parseMethodDescriptor yX11_in.desc).map (fun d => d.parameters.length) = some 3 := by decide +kernel
theorem hdX11_isPlace : yX11_isPlace.cls ≠ "java/lang/invoke/MethodHandle" ∧ yX11_isPlace.cls ≠ "java/lang/invoke/VarHandle" ∧ (parseMethodDescriptor yX11_isPlace.desc).map (fun d => d.parameters.length) = some 1 := by decide +kernel
theorem hdX11_makesUnit : yX11_makesUnit.cls ≠ "java/lang/invoke/MethodHandle" ∧ yX11_makesUnit.cls ≠ "java/lang/invoke/VarHandle" ∧ (parseMethodDescriptor yX11_makesUnit.desc).map (fun d => d.parameters.length) = some 3 := by decide +kernel
theorem hdX5_append : yX5_append.cls ≠ "java/lang/invoke/MethodHandle" ∧ yX5_append.cls ≠ "java/lang/invoke/VarHandle" ∧ (parseMethodDescriptor yX5_append.desc).map (fun d => d.parameters.length) = some 1 := by decide +kernel
theorem hdX5_isFull : yX5_isFull.cls ≠ "java/lang/invoke/MethodHandle" ∧ yX5_isFull.cls ≠ "java/lang/invoke/VarHandle" ∧ (parseMethodDescriptor yX5_isFull.desc).map (fun d => d.parameters.length) = some 0 := by decide +kernel
theorem hdX5_isPlace : yX5_isPlace.cls ≠ "java/lang/invoke/MethodHandle" ∧ yX5_isPlace.cls ≠ "java/lang/invoke/VarHandle" ∧ (parseMethodDescriptor yX5_isPlace.desc).map (fun d => d.parameters.length) = some 2 := by decide +kernel
theorem hdX7_becomeOne : yX7_becomeOne.cls ≠ "java/lang/invoke/MethodHandle" ∧ yX7_becomeOne.cls ≠ "java/lang/invoke/VarHandle" ∧ (parseMethodDescriptor yX7_becomeOne.desc).map (fun d => d.parameters.length) = some 2 := by decide +kernel
theorem wStepSame : Cond.sameMethod yStep.cls yStep.cls yStep.name yStep.desc ∈ uw := uw_mem 526 (by decide +kernel) (by decide +kernel)
theorem li_m99 : ((-99) : Int32).toInt = (-99) := by decide +kernel
theorem li_m2 : ((-2) : Int32).toInt = (-2) := by decide +kernel
theorem li_m1 : ((-1) : Int32).toInt = (-1) := by decide +kernel
theorem li_0 : (0 : Int32).toInt = 0 := by decide +kernel
theorem li_1 : (1 : Int32).toInt = 1 := by decide +kernel
theorem li_3 : (3 : Int32).toInt = 3 := by decide +kernel
theorem li_4 : (4 : Int32).toInt = 4 := by decide +kernel
theorem li_8 : (8 : Int32).toInt = 8 := by decide +kernel
theorem li_9 : (9 : Int32).toInt = 9 := by decide +kernel
theorem li_99 : (99 : Int32).toInt = 99 := by decide +kernel
theorem ll_m99 : ((-99) : Int64).toInt = (-99) := by decide +kernel
theorem ll_0 : (0 : Int64).toInt = 0 := by decide +kernel
theorem ll_1 : (1 : Int64).toInt = 1 := by decide +kernel
theorem ll_3 : (3 : Int64).toInt = 3 := by decide +kernel
theorem ll_99 : (99 : Int64).toInt = 99 := by decide +kernel
