theorem iX_all {C : String} {T : u_T} {N : Nat} (h : (u_ws C T N).all (fun w => decide (w ∈ lw_tbl) && goodWord w) = true) : ∀ w ∈ u_ws C T N, w ∈ uw := fun w hw => by
  have h1 := List.all_eq_true.mp h w hw
  simp only [Bool.and_eq_true, decide_eq_true_eq] at h1
  exact List.mem_filter.mpr h1
set_option maxRecDepth 20000 in
theorem iX0 : ∀ w ∈ u_ws RX0 TX0 1, w ∈ uw := iX_all (by decide +kernel)
set_option maxRecDepth 20000 in
theorem iX1 : ∀ w ∈ u_ws RX1 TX1 1, w ∈ uw := iX_all (by decide +kernel)
set_option maxRecDepth 20000 in
theorem iX2 : ∀ w ∈ u_ws RX2 TX2 2, w ∈ uw := iX_all (by decide +kernel)
set_option maxRecDepth 20000 in
theorem iX4 : ∀ w ∈ u_ws RX4 TX4 12, w ∈ uw := iX_all (by decide +kernel)
set_option maxRecDepth 20000 in
theorem iX5 : ∀ w ∈ u_ws RX5 TX5 4, w ∈ uw := iX_all (by decide +kernel)
set_option maxRecDepth 20000 in
theorem iX6 : ∀ w ∈ u_ws RX6 TX6 3, w ∈ uw := iX_all (by decide +kernel)
set_option maxRecDepth 20000 in
theorem iX9 : ∀ w ∈ u_ws RX9 TX9 5, w ∈ uw := iX_all (by decide +kernel)
set_option maxRecDepth 20000 in
theorem iX10 : ∀ w ∈ u_ws RX10 TX10 17, w ∈ uw := iX_all (by decide +kernel)
set_option maxRecDepth 20000 in
theorem iX11 : ∀ w ∈ u_ws RX11 TX11 36, w ∈ uw := iX_all (by decide +kernel)
theorem w0 : Cond.selects RX10 yX10_forgetWhatCame yX10_forgetWhatCame ∈ uw := uw_mem 0 (by decide +kernel) (by decide +kernel)
theorem w1 : Cond.selects RX10 yX10_addUnit yX10_addUnit ∈ uw := uw_mem 1 (by decide +kernel) (by decide +kernel)
theorem w2 : Cond.selects RX10 yX10_addSquare yX10_addSquare ∈ uw := uw_mem 2 (by decide +kernel) (by decide +kernel)
theorem w3 : Cond.selects RX10 yX10_makeOf yX10_makeOf ∈ uw := uw_mem 3 (by decide +kernel) (by decide +kernel)
theorem w4 : Cond.selects RX10 yX10_orderOf yX10_orderOf ∈ uw := uw_mem 4 (by decide +kernel) (by decide +kernel)
theorem w5 : Cond.selects RX9 yX9_skipBlanks yX9_skipBlanks ∈ uw := uw_mem 5 (by decide +kernel) (by decide +kernel)
theorem w6 : Cond.selects RX9 yX9_readMatrix yX9_readMatrix ∈ uw := uw_mem 6 (by decide +kernel) (by decide +kernel)
theorem w7 : Cond.selects RX9 yX9_pass yX9_pass ∈ uw := uw_mem 7 (by decide +kernel) (by decide +kernel)
theorem w8 : Cond.selects RX9 yX9_readNumber yX9_readNumber ∈ uw := uw_mem 8 (by decide +kernel) (by decide +kernel)
theorem w9 : Cond.selects RX9 yX9_isDigit yX9_isDigit ∈ uw := uw_mem 9 (by decide +kernel) (by decide +kernel)
theorem w10 : Cond.selects RX10 yX10_listAll yX10_listAll ∈ uw := uw_mem 10 (by decide +kernel) (by decide +kernel)
theorem w11 : Cond.selects RX4 yX4_slotOf yX4_slotOf ∈ uw := uw_mem 11 (by decide +kernel) (by decide +kernel)
theorem w12 : Cond.selects RX4 yX4_lead yX4_lead ∈ uw := uw_mem 12 (by decide +kernel) (by decide +kernel)
theorem w13 : Cond.selects RX4 yX4_isRow yX4_isRow ∈ uw := uw_mem 13 (by decide +kernel) (by decide +kernel)
theorem w14 : Cond.selects RX10 yX10_areGenerators yX10_areGenerators ∈ uw := uw_mem 14 (by decide +kernel) (by decide +kernel)
theorem w15 : Cond.selects RX10 yX10_multiplyOut yX10_multiplyOut ∈ uw := uw_mem 15 (by decide +kernel) (by decide +kernel)
theorem w16 : Cond.selects RX10 yX10_isInMiddle yX10_isInMiddle ∈ uw := uw_mem 16 (by decide +kernel) (by decide +kernel)
theorem w17 : Cond.selects RX10 yX10_addUpForm yX10_addUpForm ∈ uw := uw_mem 17 (by decide +kernel) (by decide +kernel)
theorem w18 : Cond.selects RX10 yX10_refusalOfTable yX10_refusalOfTable ∈ uw := uw_mem 18 (by decide +kernel) (by decide +kernel)
theorem w19 : Cond.selects RX10 yX10_isPositiveForm yX10_isPositiveForm ∈ uw := uw_mem 19 (by decide +kernel) (by decide +kernel)
theorem w20 : Cond.selects RX10 yX10_noGeneratorChangesForm yX10_noGeneratorChangesForm ∈ uw := uw_mem 20 (by decide +kernel) (by decide +kernel)
theorem w21 : Cond.selects RX10 yX10_countImage yX10_countImage ∈ uw := uw_mem 21 (by decide +kernel) (by decide +kernel)
theorem w22 : Cond.selects RX10 yX10_clearBench yX10_clearBench ∈ uw := uw_mem 22 (by decide +kernel) (by decide +kernel)
theorem w23 : Cond.selects RX10 yX10_areApartBy yX10_areApartBy ∈ uw := uw_mem 23 (by decide +kernel) (by decide +kernel)
theorem w24 : Cond.selects RX10 yX10_setPoint yX10_setPoint ∈ uw := uw_mem 24 (by decide +kernel) (by decide +kernel)
theorem w25 : Cond.selects RX10 yX10_roundOfTrail yX10_roundOfTrail ∈ uw := uw_mem 25 (by decide +kernel) (by decide +kernel)
theorem w26 : Cond.selects RX11 yX11_isPlace yX11_isPlace ∈ uw := uw_mem 26 (by decide +kernel) (by decide +kernel)
theorem w27 : Cond.selects RX11 yX11_makesUnit yX11_makesUnit ∈ uw := uw_mem 27 (by decide +kernel) (by decide +kernel)
theorem w28 : Cond.selects RX11 yX11_first yX11_first ∈ uw := uw_mem 28 (by decide +kernel) (by decide +kernel)
theorem w29 : Cond.selects RX11 yX11_clears yX11_clears ∈ uw := uw_mem 29 (by decide +kernel) (by decide +kernel)
theorem w30 : Cond.selects RX11 yX11_comes yX11_comes ∈ uw := uw_mem 30 (by decide +kernel) (by decide +kernel)
theorem w31 : Cond.selects RX11 yX11_isGen yX11_isGen ∈ uw := uw_mem 31 (by decide +kernel) (by decide +kernel)
theorem w32 : Cond.selects RX11 yX11_takes yX11_takes ∈ uw := uw_mem 32 (by decide +kernel) (by decide +kernel)
theorem w33 : Cond.selects RX11 yX11_times yX11_times ∈ uw := uw_mem 33 (by decide +kernel) (by decide +kernel)
theorem w34 : Cond.selects RX11 yX11_without yX11_without ∈ uw := uw_mem 34 (by decide +kernel) (by decide +kernel)
theorem w35 : Cond.selects RX11 yX11_det yX11_det ∈ uw := uw_mem 35 (by decide +kernel) (by decide +kernel)
theorem w36 : Cond.selects RX11 yX11_isSmall yX11_isSmall ∈ uw := uw_mem 36 (by decide +kernel) (by decide +kernel)
theorem w37 : Cond.selects RX11 yX11_order yX11_order ∈ uw := uw_mem 37 (by decide +kernel) (by decide +kernel)
theorem w38 : Cond.selects RX11 yX11_isFirst yX11_isFirst ∈ uw := uw_mem 38 (by decide +kernel) (by decide +kernel)
theorem w39 : Cond.selects RX11 yX11_isGreat yX11_isGreat ∈ uw := uw_mem 39 (by decide +kernel) (by decide +kernel)
theorem w40 : Cond.selects RX11 yX11_finds yX11_finds ∈ uw := uw_mem 40 (by decide +kernel) (by decide +kernel)
theorem w41 : Cond.selects RX11 yX11_takesOut yX11_takesOut ∈ uw := uw_mem 41 (by decide +kernel) (by decide +kernel)
theorem w42 : Cond.selects RX11 yX11_here yX11_here ∈ uw := uw_mem 42 (by decide +kernel) (by decide +kernel)
theorem w43 : Cond.selects RX11 yX11_readsMatrix yX11_readsMatrix ∈ uw := uw_mem 43 (by decide +kernel) (by decide +kernel)
theorem w44 : Cond.selects RX11 yX11_readsSign yX11_readsSign ∈ uw := uw_mem 44 (by decide +kernel) (by decide +kernel)
theorem w45 : Cond.selects RX11 yX11_readsNumber yX11_readsNumber ∈ uw := uw_mem 45 (by decide +kernel) (by decide +kernel)
theorem w46 : Cond.selects RX11 yX11_isDigit yX11_isDigit ∈ uw := uw_mem 46 (by decide +kernel) (by decide +kernel)
theorem w47 : Cond.selects RX11 yX11_findList yX11_findList ∈ uw := uw_mem 47 (by decide +kernel) (by decide +kernel)
theorem w48 : Cond.selects RX11 yX11_lists yX11_lists ∈ uw := uw_mem 48 (by decide +kernel) (by decide +kernel)
theorem w49 : Cond.selects RX11 yX11_takesElement yX11_takesElement ∈ uw := uw_mem 49 (by decide +kernel) (by decide +kernel)
theorem w50 : Cond.selects RX11 yX11_placeOf yX11_placeOf ∈ uw := uw_mem 50 (by decide +kernel) (by decide +kernel)
theorem w51 : Cond.selects RX11 yX11_orderOf yX11_orderOf ∈ uw := uw_mem 51 (by decide +kernel) (by decide +kernel)
theorem w52 : Cond.selects RX11 yX11_findForm yX11_findForm ∈ uw := uw_mem 52 (by decide +kernel) (by decide +kernel)
theorem w53 : Cond.selects RX11 yX11_isOutside yX11_isOutside ∈ uw := uw_mem 53 (by decide +kernel) (by decide +kernel)
theorem w54 : Cond.selects RX11 yX11_keepsAll yX11_keepsAll ∈ uw := uw_mem 54 (by decide +kernel) (by decide +kernel)
theorem w55 : Cond.selects RX11 yX11_told yX11_told ∈ uw := uw_mem 55 (by decide +kernel) (by decide +kernel)
theorem w56 : Cond.selects RX11 yX11_untold yX11_untold ∈ uw := uw_mem 56 (by decide +kernel) (by decide +kernel)
theorem w57 : Cond.selects RX11 yX11_goes yX11_goes ∈ uw := uw_mem 57 (by decide +kernel) (by decide +kernel)
theorem w58 : Cond.selects RX11 yX11_placeIn yX11_placeIn ∈ uw := uw_mem 58 (by decide +kernel) (by decide +kernel)
theorem w59 : Cond.selects RX11 yX11_roundNow yX11_roundNow ∈ uw := uw_mem 59 (by decide +kernel) (by decide +kernel)
theorem w60 : Cond.selects RX11 yX11_drawn yX11_drawn ∈ uw := uw_mem 60 (by decide +kernel) (by decide +kernel)
theorem w61 : Cond.selects RX11 yX11_lacks yX11_lacks ∈ uw := uw_mem 61 (by decide +kernel) (by decide +kernel)
theorem w63 : Cond.initialized RX10 ∈ uw := uw_mem 63 (by decide +kernel) (by decide +kernel)
theorem w64 : Cond.initialized RX5 ∈ uw := uw_mem 64 (by decide +kernel) (by decide +kernel)
theorem w65 : Cond.initialized RX9 ∈ uw := uw_mem 65 (by decide +kernel) (by decide +kernel)
theorem w66 : Cond.initialized RX4 ∈ uw := uw_mem 66 (by decide +kernel) (by decide +kernel)
theorem w67 : Cond.initialized RX8 ∈ uw := uw_mem 67 (by decide +kernel) (by decide +kernel)
theorem w68 : Cond.initialized RX2 ∈ uw := uw_mem 68 (by decide +kernel) (by decide +kernel)
theorem w69 : Cond.initialized RX1 ∈ uw := uw_mem 69 (by decide +kernel) (by decide +kernel)
theorem w70 : Cond.initialized RX0 ∈ uw := uw_mem 70 (by decide +kernel) (by decide +kernel)
theorem w71 : Cond.initialized RX6 ∈ uw := uw_mem 71 (by decide +kernel) (by decide +kernel)
theorem w72 : Cond.initialized RX11 ∈ uw := uw_mem 72 (by decide +kernel) (by decide +kernel)
theorem w73 : Cond.initialized RJ7 ∈ uw := uw_mem 73 (by decide +kernel) (by decide +kernel)
theorem w74 : Cond.initialized RX7 ∈ uw := uw_mem 74 (by decide +kernel) (by decide +kernel)
theorem w75 : Cond.initialized RJ10 ∈ uw := uw_mem 75 (by decide +kernel) (by decide +kernel)
theorem w76 : Cond.initialized RX3 ∈ uw := uw_mem 76 (by decide +kernel) (by decide +kernel)
theorem w77 : Cond.initialized RJ9 ∈ uw := uw_mem 77 (by decide +kernel) (by decide +kernel)
theorem w78 : Cond.classLink RL 7 RX10 ∈ uw := uw_mem 78 (by decide +kernel) (by decide +kernel)
theorem w79 : Cond.instantiable RX10 17 ∈ uw := uw_mem 79 (by decide +kernel) (by decide +kernel)
theorem w80 : Cond.methodLink RL 9 yX10_init ∈ uw := uw_mem 80 (by decide +kernel) (by decide +kernel)
theorem w81 : Cond.instanceMethod yX10_init ∈ uw := uw_mem 81 (by decide +kernel) (by decide +kernel)
theorem w82 : Cond.code yX10_init cX10_init 2 none ∈ uw := uw_mem 82 (by decide +kernel) (by decide +kernel)
theorem w83 : Cond.methodLink RX10 1 objectInit ∈ uw := uw_mem 83 (by decide +kernel) (by decide +kernel)
theorem w84 : Cond.instanceMethod objectInit ∈ uw := uw_mem 84 (by decide +kernel) (by decide +kernel)
theorem w85 : Cond.code objectInit ⟨#[0xb1]⟩ 1 none ∈ uw := uw_mem 85 (by decide +kernel) (by decide +kernel)
theorem w86 : Cond.classLink RX10 7 RX5 ∈ uw := uw_mem 86 (by decide +kernel) (by decide +kernel)
theorem w87 : Cond.instantiable RX5 4 ∈ uw := uw_mem 87 (by decide +kernel) (by decide +kernel)
theorem w89 : Cond.instanceMethod yX5_init ∈ uw := uw_mem 89 (by decide +kernel) (by decide +kernel)
theorem w90 : Cond.code yX5_init cX5_init 1 none ∈ uw := uw_mem 90 (by decide +kernel) (by decide +kernel)
theorem w91 : Cond.methodLink RX5 3 objectInit ∈ uw := uw_mem 91 (by decide +kernel) (by decide +kernel)
theorem w92 : Cond.fieldLink RX5 9 "FiniteMatrices$Setting" "size" "I" ∈ uw := uw_mem 92 (by decide +kernel) (by decide +kernel)
theorem w93 : Cond.fieldLink RX10 98 "FiniteMatrices$Setting" "size" "I" ∈ uw := uw_mem 93 (by decide +kernel) (by decide +kernel)
theorem w94 : Cond.fieldLink RX1 21 "FiniteMatrices$Setting" "size" "I" ∈ uw := uw_mem 94 (by decide +kernel) (by decide +kernel)
theorem w95 : Cond.fieldLink RX2 25 "FiniteMatrices$Setting" "size" "I" ∈ uw := uw_mem 95 (by decide +kernel) (by decide +kernel)
theorem w96 : Cond.fieldLink RX5 15 "FiniteMatrices$Setting" "count" "I" ∈ uw := uw_mem 96 (by decide +kernel) (by decide +kernel)
theorem w97 : Cond.fieldLink RX10 101 "FiniteMatrices$Setting" "count" "I" ∈ uw := uw_mem 97 (by decide +kernel) (by decide +kernel)
theorem w98 : Cond.fieldLink RX5 18 "FiniteMatrices$Setting" "z" "I" ∈ uw := uw_mem 98 (by decide +kernel) (by decide +kernel)
theorem w99 : Cond.fieldLink RX10 297 "FiniteMatrices$Setting" "z" "I" ∈ uw := uw_mem 99 (by decide +kernel) (by decide +kernel)
theorem w100 : Cond.fieldLink RX5 21 "FiniteMatrices$Setting" "cells" "[J" ∈ uw := uw_mem 100 (by decide +kernel) (by decide +kernel)
theorem w101 : Cond.fieldLink RX1 15 "FiniteMatrices$Setting" "cells" "[J" ∈ uw := uw_mem 101 (by decide +kernel) (by decide +kernel)
theorem w102 : Cond.fieldLink RX2 19 "FiniteMatrices$Setting" "cells" "[J" ∈ uw := uw_mem 102 (by decide +kernel) (by decide +kernel)
theorem w103 : Cond.fieldLink RX10 145 "FiniteMatrices$Setting" "cells" "[J" ∈ uw := uw_mem 103 (by decide +kernel) (by decide +kernel)
theorem w113 : Cond.arrayClass .long ∈ uw := uw_mem 113 (by decide +kernel) (by decide +kernel)
theorem w114 : Cond.classLink RX10 23 RX9 ∈ uw := uw_mem 114 (by decide +kernel) (by decide +kernel)
theorem w115 : Cond.instantiable RX9 5 ∈ uw := uw_mem 115 (by decide +kernel) (by decide +kernel)
theorem w117 : Cond.instanceMethod yX9_init ∈ uw := uw_mem 117 (by decide +kernel) (by decide +kernel)
theorem w118 : Cond.code yX9_init cX9_init 1 none ∈ uw := uw_mem 118 (by decide +kernel) (by decide +kernel)
theorem w119 : Cond.methodLink RX9 3 objectInit ∈ uw := uw_mem 119 (by decide +kernel) (by decide +kernel)
theorem w120 : Cond.fieldLink RX9 9 "FiniteMatrices$Tape" "bytes" "[B" ∈ uw := uw_mem 120 (by decide +kernel) (by decide +kernel)
theorem w121 : Cond.fieldLink RX9 15 "FiniteMatrices$Tape" "count" "I" ∈ uw := uw_mem 121 (by decide +kernel) (by decide +kernel)
theorem w122 : Cond.fieldLink RX10 174 "FiniteMatrices$Tape" "count" "I" ∈ uw := uw_mem 122 (by decide +kernel) (by decide +kernel)
theorem w123 : Cond.fieldLink RX9 19 "FiniteMatrices$Tape" "place" "I" ∈ uw := uw_mem 123 (by decide +kernel) (by decide +kernel)
theorem w124 : Cond.fieldLink RX10 182 "FiniteMatrices$Tape" "place" "I" ∈ uw := uw_mem 124 (by decide +kernel) (by decide +kernel)
theorem w125 : Cond.fieldLink RX9 22 "FiniteMatrices$Tape" "told" "I" ∈ uw := uw_mem 125 (by decide +kernel) (by decide +kernel)
theorem w126 : Cond.fieldLink RX10 185 "FiniteMatrices$Tape" "told" "I" ∈ uw := uw_mem 126 (by decide +kernel) (by decide +kernel)
theorem w127 : Cond.fieldLink RX9 25 "FiniteMatrices$Tape" "cells" "[J" ∈ uw := uw_mem 127 (by decide +kernel) (by decide +kernel)
theorem w128 : Cond.fieldLink RX10 188 "FiniteMatrices$Tape" "cells" "[J" ∈ uw := uw_mem 128 (by decide +kernel) (by decide +kernel)
theorem w140 : Cond.arrayClass .byte ∈ uw := uw_mem 140 (by decide +kernel) (by decide +kernel)
theorem w141 : Cond.classLink RX10 30 RX6 ∈ uw := uw_mem 141 (by decide +kernel) (by decide +kernel)
theorem w143 : Cond.classLink RX10 36 RX4 ∈ uw := uw_mem 143 (by decide +kernel) (by decide +kernel)
theorem w144 : Cond.instantiable RX4 12 ∈ uw := uw_mem 144 (by decide +kernel) (by decide +kernel)
theorem w145 : Cond.methodLink RX10 38 yX4_init ∈ uw := uw_mem 145 (by decide +kernel) (by decide +kernel)
theorem w146 : Cond.instanceMethod yX4_init ∈ uw := uw_mem 146 (by decide +kernel) (by decide +kernel)
theorem w147 : Cond.code yX4_init cX4_init 4 none ∈ uw := uw_mem 147 (by decide +kernel) (by decide +kernel)
theorem w148 : Cond.methodLink RX4 3 objectInit ∈ uw := uw_mem 148 (by decide +kernel) (by decide +kernel)
theorem w149 : Cond.fieldLink RX4 29 "FiniteMatrices$Roll" "cells" "[J" ∈ uw := uw_mem 149 (by decide +kernel) (by decide +kernel)
theorem w150 : Cond.fieldLink RX10 207 "FiniteMatrices$Roll" "cells" "[J" ∈ uw := uw_mem 150 (by decide +kernel) (by decide +kernel)
theorem w151 : Cond.fieldLink RX4 32 "FiniteMatrices$Roll" "from" "[I" ∈ uw := uw_mem 151 (by decide +kernel) (by decide +kernel)
theorem w152 : Cond.fieldLink RX10 212 "FiniteMatrices$Roll" "from" "[I" ∈ uw := uw_mem 152 (by decide +kernel) (by decide +kernel)
theorem w153 : Cond.fieldLink RX4 36 "FiniteMatrices$Roll" "by" "[I" ∈ uw := uw_mem 153 (by decide +kernel) (by decide +kernel)
theorem w154 : Cond.fieldLink RX10 215 "FiniteMatrices$Roll" "by" "[I" ∈ uw := uw_mem 154 (by decide +kernel) (by decide +kernel)
theorem w155 : Cond.fieldLink RX4 39 "FiniteMatrices$Roll" "steps" "[I" ∈ uw := uw_mem 155 (by decide +kernel) (by decide +kernel)
theorem w156 : Cond.fieldLink RX10 218 "FiniteMatrices$Roll" "steps" "[I" ∈ uw := uw_mem 156 (by decide +kernel) (by decide +kernel)
theorem w157 : Cond.fieldLink RX4 42 "FiniteMatrices$Roll" "leads" "[I" ∈ uw := uw_mem 157 (by decide +kernel) (by decide +kernel)
theorem w158 : Cond.fieldLink RX0 25 "FiniteMatrices$Roll" "leads" "[I" ∈ uw := uw_mem 158 (by decide +kernel) (by decide +kernel)
theorem w159 : Cond.fieldLink RX4 45 "FiniteMatrices$Roll" "slots" "[I" ∈ uw := uw_mem 159 (by decide +kernel) (by decide +kernel)
theorem w160 : Cond.fieldLink RX4 48 "FiniteMatrices$Roll" "chain" "[I" ∈ uw := uw_mem 160 (by decide +kernel) (by decide +kernel)
theorem w161 : Cond.fieldLink RX4 9 "FiniteMatrices$Roll" "fresh" "[J" ∈ uw := uw_mem 161 (by decide +kernel) (by decide +kernel)
theorem w162 : Cond.fieldLink RX4 15 "FiniteMatrices$Roll" "width" "I" ∈ uw := uw_mem 162 (by decide +kernel) (by decide +kernel)
theorem w163 : Cond.fieldLink RX4 19 "FiniteMatrices$Roll" "most" "I" ∈ uw := uw_mem 163 (by decide +kernel) (by decide +kernel)
theorem w164 : Cond.fieldLink RX4 22 "FiniteMatrices$Roll" "count" "I" ∈ uw := uw_mem 164 (by decide +kernel) (by decide +kernel)
theorem w165 : Cond.fieldLink RX0 15 "FiniteMatrices$Roll" "count" "I" ∈ uw := uw_mem 165 (by decide +kernel) (by decide +kernel)
theorem w166 : Cond.fieldLink RX10 198 "FiniteMatrices$Roll" "count" "I" ∈ uw := uw_mem 166 (by decide +kernel) (by decide +kernel)
theorem w167 : Cond.fieldLink RX4 25 "FiniteMatrices$Roll" "closed" "Z" ∈ uw := uw_mem 167 (by decide +kernel) (by decide +kernel)
theorem w168 : Cond.fieldLink RX10 199 "FiniteMatrices$Roll" "closed" "Z" ∈ uw := uw_mem 168 (by decide +kernel) (by decide +kernel)
theorem w194 : Cond.arrayClass .int ∈ uw := uw_mem 194 (by decide +kernel) (by decide +kernel)
theorem w195 : Cond.classLink RX10 65 RX2 ∈ uw := uw_mem 195 (by decide +kernel) (by decide +kernel)
theorem w196 : Cond.instantiable RX2 2 ∈ uw := uw_mem 196 (by decide +kernel) (by decide +kernel)
theorem w197 : Cond.methodLink RX10 67 yX2_init ∈ uw := uw_mem 197 (by decide +kernel) (by decide +kernel)
theorem w198 : Cond.instanceMethod yX2_init ∈ uw := uw_mem 198 (by decide +kernel) (by decide +kernel)
theorem w199 : Cond.code yX2_init cX2_init 2 none ∈ uw := uw_mem 199 (by decide +kernel) (by decide +kernel)
theorem w201 : Cond.instanceMethod yX8_init ∈ uw := uw_mem 201 (by decide +kernel) (by decide +kernel)
theorem w202 : Cond.code yX8_init cX8_init 1 none ∈ uw := uw_mem 202 (by decide +kernel) (by decide +kernel)
theorem w203 : Cond.methodLink RX8 1 objectInit ∈ uw := uw_mem 203 (by decide +kernel) (by decide +kernel)
theorem w204 : Cond.fieldLink RX2 15 "FiniteMatrices$ByProduct" "setting" "LFiniteMatrices$Setting;" ∈ uw := uw_mem 204 (by decide +kernel) (by decide +kernel)
theorem w205 : Cond.fieldLink RX2 9 "FiniteMatrices$ByProduct" "prime" "I" ∈ uw := uw_mem 205 (by decide +kernel) (by decide +kernel)
theorem w206 : Cond.fieldLink RX10 364 "FiniteMatrices$ByProduct" "prime" "I" ∈ uw := uw_mem 206 (by decide +kernel) (by decide +kernel)
theorem w212 : Cond.classLink RX10 74 RX1 ∈ uw := uw_mem 212 (by decide +kernel) (by decide +kernel)
theorem w213 : Cond.instantiable RX1 1 ∈ uw := uw_mem 213 (by decide +kernel) (by decide +kernel)
theorem w214 : Cond.methodLink RX10 76 yX1_init ∈ uw := uw_mem 214 (by decide +kernel) (by decide +kernel)
theorem w215 : Cond.instanceMethod yX1_init ∈ uw := uw_mem 215 (by decide +kernel) (by decide +kernel)
theorem w216 : Cond.code yX1_init cX1_init 2 none ∈ uw := uw_mem 216 (by decide +kernel) (by decide +kernel)
theorem w218 : Cond.fieldLink RX1 9 "FiniteMatrices$ByPoint" "setting" "LFiniteMatrices$Setting;" ∈ uw := uw_mem 218 (by decide +kernel) (by decide +kernel)
theorem w222 : Cond.classLink RX10 81 RX0 ∈ uw := uw_mem 222 (by decide +kernel) (by decide +kernel)
theorem w223 : Cond.instantiable RX0 1 ∈ uw := uw_mem 223 (by decide +kernel) (by decide +kernel)
theorem w224 : Cond.methodLink RX10 83 yX0_init ∈ uw := uw_mem 224 (by decide +kernel) (by decide +kernel)
theorem w225 : Cond.instanceMethod yX0_init ∈ uw := uw_mem 225 (by decide +kernel) (by decide +kernel)
theorem w226 : Cond.code yX0_init cX0_init 2 none ∈ uw := uw_mem 226 (by decide +kernel) (by decide +kernel)
theorem w228 : Cond.fieldLink RX0 9 "FiniteMatrices$ByPlace" "trail" "LFiniteMatrices$Roll;" ∈ uw := uw_mem 228 (by decide +kernel) (by decide +kernel)
theorem w232 : Cond.instantiable RX6 3 ∈ uw := uw_mem 232 (by decide +kernel) (by decide +kernel)
theorem w234 : Cond.instanceMethod yX6_init ∈ uw := uw_mem 234 (by decide +kernel) (by decide +kernel)
theorem w235 : Cond.code yX6_init cX6_init 1 none ∈ uw := uw_mem 235 (by decide +kernel) (by decide +kernel)
theorem w236 : Cond.methodLink RX6 3 objectInit ∈ uw := uw_mem 236 (by decide +kernel) (by decide +kernel)
theorem w237 : Cond.fieldLink RX6 9 "FiniteMatrices$Sheet" "sort" "I" ∈ uw := uw_mem 237 (by decide +kernel) (by decide +kernel)
theorem w238 : Cond.fieldLink RX10 322 "FiniteMatrices$Sheet" "sort" "I" ∈ uw := uw_mem 238 (by decide +kernel) (by decide +kernel)
theorem w239 : Cond.fieldLink RX6 15 "FiniteMatrices$Sheet" "length" "I" ∈ uw := uw_mem 239 (by decide +kernel) (by decide +kernel)
theorem w240 : Cond.fieldLink RX6 18 "FiniteMatrices$Sheet" "cells" "[J" ∈ uw := uw_mem 240 (by decide +kernel) (by decide +kernel)
theorem w241 : Cond.fieldLink RX10 250 "FiniteMatrices$Sheet" "cells" "[J" ∈ uw := uw_mem 241 (by decide +kernel) (by decide +kernel)
theorem w249 : Cond.fieldLink RX10 10 "FiniteMatrices" "now" "LFiniteMatrices$Setting;" ∈ uw := uw_mem 249 (by decide +kernel) (by decide +kernel)
theorem w250 : Cond.fieldLink RX10 16 "FiniteMatrices" "kept" "LFiniteMatrices$Setting;" ∈ uw := uw_mem 250 (by decide +kernel) (by decide +kernel)
theorem w251 : Cond.fieldLink RX10 19 "FiniteMatrices" "anyKept" "Z" ∈ uw := uw_mem 251 (by decide +kernel) (by decide +kernel)
theorem w252 : Cond.fieldLink RX10 26 "FiniteMatrices" "tape" "LFiniteMatrices$Tape;" ∈ uw := uw_mem 252 (by decide +kernel) (by decide +kernel)
theorem w253 : Cond.fieldLink RX10 32 "FiniteMatrices" "sheets" "[LFiniteMatrices$Sheet;" ∈ uw := uw_mem 253 (by decide +kernel) (by decide +kernel)
theorem w254 : Cond.fieldLink RX10 41 "FiniteMatrices" "list" "LFiniteMatrices$Roll;" ∈ uw := uw_mem 254 (by decide +kernel) (by decide +kernel)
theorem w255 : Cond.fieldLink RX10 45 "FiniteMatrices" "listReady" "Z" ∈ uw := uw_mem 255 (by decide +kernel) (by decide +kernel)
theorem w256 : Cond.fieldLink RX10 48 "FiniteMatrices" "trail" "LFiniteMatrices$Roll;" ∈ uw := uw_mem 256 (by decide +kernel) (by decide +kernel)
theorem w257 : Cond.fieldLink RX10 51 "FiniteMatrices" "trailReady" "Z" ∈ uw := uw_mem 257 (by decide +kernel) (by decide +kernel)
theorem w258 : Cond.fieldLink RX10 54 "FiniteMatrices" "bench" "LFiniteMatrices$Roll;" ∈ uw := uw_mem 258 (by decide +kernel) (by decide +kernel)
theorem w259 : Cond.fieldLink RX10 57 "FiniteMatrices" "imageCounts" "[I" ∈ uw := uw_mem 259 (by decide +kernel) (by decide +kernel)
theorem w260 : Cond.fieldLink RX10 61 "FiniteMatrices" "roundCount" "I" ∈ uw := uw_mem 260 (by decide +kernel) (by decide +kernel)
theorem w261 : Cond.fieldLink RX10 70 "FiniteMatrices" "byProduct" "LFiniteMatrices$ByProduct;" ∈ uw := uw_mem 261 (by decide +kernel) (by decide +kernel)
theorem w262 : Cond.fieldLink RX10 77 "FiniteMatrices" "byPoint" "LFiniteMatrices$ByPoint;" ∈ uw := uw_mem 262 (by decide +kernel) (by decide +kernel)
theorem w263 : Cond.fieldLink RX10 86 "FiniteMatrices" "byPlace" "LFiniteMatrices$ByPlace;" ∈ uw := uw_mem 263 (by decide +kernel) (by decide +kernel)
theorem w264 : Cond.fieldLink RX10 90 "FiniteMatrices" "square" "[J" ∈ uw := uw_mem 264 (by decide +kernel) (by decide +kernel)
theorem w265 : Cond.fieldLink RX10 94 "FiniteMatrices" "work" "[J" ∈ uw := uw_mem 265 (by decide +kernel) (by decide +kernel)
theorem w301 : Cond.methodLink RL 13 yX10_size ∈ uw := uw_mem 301 (by decide +kernel) (by decide +kernel)
theorem w302 : Cond.instanceMethod yX10_size ∈ uw := uw_mem 302 (by decide +kernel) (by decide +kernel)
theorem w303 : Cond.selects RX10 yX10_size yX10_size ∈ uw := uw_mem 303 (by decide +kernel) (by decide +kernel)
theorem w304 : Cond.code yX10_size cX10_size 3 (some .int) ∈ uw := uw_mem 304 (by decide +kernel) (by decide +kernel)
theorem w305 : Cond.methodLink RX10 104 yX10_forgetWhatCame ∈ uw := uw_mem 305 (by decide +kernel) (by decide +kernel)
theorem w307 : Cond.instanceMethod yX10_forgetWhatCame ∈ uw := uw_mem 307 (by decide +kernel) (by decide +kernel)
theorem w308 : Cond.code yX10_forgetWhatCame cX10_forgetWhatCame 1 none ∈ uw := uw_mem 308 (by decide +kernel) (by decide +kernel)
theorem w309 : Cond.methodLink RX10 333 yJ7_fill_53178 ∈ uw := uw_mem 309 (by decide +kernel) (by decide +kernel)
theorem w310 : Cond.static yJ7_fill_53178 ∈ uw := uw_mem 310 (by decide +kernel) (by decide +kernel)
theorem w311 : Cond.code yJ7_fill_53178 cJ7_fill_53178 4 none ∈ uw := uw_mem 311 (by decide +kernel) (by decide +kernel)
theorem w312 : Cond.methodLink RL 18 yX10_unit ∈ uw := uw_mem 312 (by decide +kernel) (by decide +kernel)
theorem w313 : Cond.instanceMethod yX10_unit ∈ uw := uw_mem 313 (by decide +kernel) (by decide +kernel)
theorem w314 : Cond.selects RX10 yX10_unit yX10_unit ∈ uw := uw_mem 314 (by decide +kernel) (by decide +kernel)
theorem w315 : Cond.code yX10_unit cX10_unit 4 (some .int) ∈ uw := uw_mem 315 (by decide +kernel) (by decide +kernel)
theorem w316 : Cond.methodLink RX10 107 yX5_isPlace ∈ uw := uw_mem 316 (by decide +kernel) (by decide +kernel)
theorem w317 : Cond.instanceMethod yX5_isPlace ∈ uw := uw_mem 317 (by decide +kernel) (by decide +kernel)
theorem w318 : Cond.selects RX5 yX5_isPlace yX5_isPlace ∈ uw := uw_mem 318 (by decide +kernel) (by decide +kernel)
theorem w319 : Cond.code yX5_isPlace cX5_isPlace 3 (some .boolean) ∈ uw := uw_mem 319 (by decide +kernel) (by decide +kernel)
theorem w320 : Cond.methodLink RX10 111 yX10_fitsUnit ∈ uw := uw_mem 320 (by decide +kernel) (by decide +kernel)
theorem w321 : Cond.static yX10_fitsUnit ∈ uw := uw_mem 321 (by decide +kernel) (by decide +kernel)
theorem w322 : Cond.code yX10_fitsUnit cX10_fitsUnit 2 (some .boolean) ∈ uw := uw_mem 322 (by decide +kernel) (by decide +kernel)
theorem w323 : Cond.methodLink RX10 115 yX5_isFull ∈ uw := uw_mem 323 (by decide +kernel) (by decide +kernel)
theorem w324 : Cond.instanceMethod yX5_isFull ∈ uw := uw_mem 324 (by decide +kernel) (by decide +kernel)
theorem w325 : Cond.selects RX5 yX5_isFull yX5_isFull ∈ uw := uw_mem 325 (by decide +kernel) (by decide +kernel)
theorem w326 : Cond.code yX5_isFull cX5_isFull 1 (some .boolean) ∈ uw := uw_mem 326 (by decide +kernel) (by decide +kernel)
theorem w327 : Cond.methodLink RX10 119 yX10_addUnit ∈ uw := uw_mem 327 (by decide +kernel) (by decide +kernel)
theorem w329 : Cond.instanceMethod yX10_addUnit ∈ uw := uw_mem 329 (by decide +kernel) (by decide +kernel)
theorem w330 : Cond.code yX10_addUnit cX10_addUnit 4 (some .int) ∈ uw := uw_mem 330 (by decide +kernel) (by decide +kernel)
theorem w331 : Cond.methodLink RX10 339 yX7_becomeOne ∈ uw := uw_mem 331 (by decide +kernel) (by decide +kernel)
theorem w332 : Cond.static yX7_becomeOne ∈ uw := uw_mem 332 (by decide +kernel) (by decide +kernel)
theorem w333 : Cond.code yX7_becomeOne cX7_becomeOne 3 none ∈ uw := uw_mem 333 (by decide +kernel) (by decide +kernel)
theorem w334 : Cond.methodLink RX7 7 yJ7_fill_d0a16 ∈ uw := uw_mem 334 (by decide +kernel) (by decide +kernel)
theorem w335 : Cond.static yJ7_fill_d0a16 ∈ uw := uw_mem 335 (by decide +kernel) (by decide +kernel)
theorem w336 : Cond.code yJ7_fill_d0a16 cJ7_fill_d0a16 5 none ∈ uw := uw_mem 336 (by decide +kernel) (by decide +kernel)
theorem w337 : Cond.methodLink RX10 142 yX10_addSquare ∈ uw := uw_mem 337 (by decide +kernel) (by decide +kernel)
theorem w339 : Cond.instanceMethod yX10_addSquare ∈ uw := uw_mem 339 (by decide +kernel) (by decide +kernel)
theorem w340 : Cond.code yX10_addSquare cX10_addSquare 2 (some .int) ∈ uw := uw_mem 340 (by decide +kernel) (by decide +kernel)
theorem w341 : Cond.methodLink RX10 343 yX5_append ∈ uw := uw_mem 341 (by decide +kernel) (by decide +kernel)
theorem w342 : Cond.instanceMethod yX5_append ∈ uw := uw_mem 342 (by decide +kernel) (by decide +kernel)
theorem w343 : Cond.selects RX5 yX5_append yX5_append ∈ uw := uw_mem 343 (by decide +kernel) (by decide +kernel)
theorem w344 : Cond.code yX5_append cX5_append 2 (some .int) ∈ uw := uw_mem 344 (by decide +kernel) (by decide +kernel)
theorem w345 : Cond.methodLink RX5 25 yX5_isFull ∈ uw := uw_mem 345 (by decide +kernel) (by decide +kernel)
theorem w346 : Cond.methodLink RX5 29 arraycopyName ∈ uw := uw_mem 346 (by decide +kernel) (by decide +kernel)
theorem w347 : Cond.static arraycopyName ∈ uw := uw_mem 347 (by decide +kernel) (by decide +kernel)
theorem w348 : Cond.native arraycopyName ∈ uw := uw_mem 348 (by decide +kernel) (by decide +kernel)
theorem w349 : Cond.methodLink RL 23 yX10_made ∈ uw := uw_mem 349 (by decide +kernel) (by decide +kernel)
theorem w350 : Cond.instanceMethod yX10_made ∈ uw := uw_mem 350 (by decide +kernel) (by decide +kernel)
theorem w351 : Cond.selects RX10 yX10_made yX10_made ∈ uw := uw_mem 351 (by decide +kernel) (by decide +kernel)
theorem w352 : Cond.code yX10_made cX10_made 4 (some .int) ∈ uw := uw_mem 352 (by decide +kernel) (by decide +kernel)
theorem w353 : Cond.methodLink RX10 123 yX5_has ∈ uw := uw_mem 353 (by decide +kernel) (by decide +kernel)
theorem w354 : Cond.instanceMethod yX5_has ∈ uw := uw_mem 354 (by decide +kernel) (by decide +kernel)
theorem w355 : Cond.selects RX5 yX5_has yX5_has ∈ uw := uw_mem 355 (by decide +kernel) (by decide +kernel)
theorem w356 : Cond.code yX5_has cX5_has 2 (some .boolean) ∈ uw := uw_mem 356 (by decide +kernel) (by decide +kernel)
theorem w357 : Cond.methodLink RX10 127 yX10_makeOf ∈ uw := uw_mem 357 (by decide +kernel) (by decide +kernel)
theorem w359 : Cond.instanceMethod yX10_makeOf ∈ uw := uw_mem 359 (by decide +kernel) (by decide +kernel)
theorem w360 : Cond.code yX10_makeOf cX10_makeOf 5 none ∈ uw := uw_mem 360 (by decide +kernel) (by decide +kernel)
theorem w361 : Cond.methodLink RX10 345 yX7_multiply ∈ uw := uw_mem 361 (by decide +kernel) (by decide +kernel)
theorem w362 : Cond.static yX7_multiply ∈ uw := uw_mem 362 (by decide +kernel) (by decide +kernel)
theorem w363 : Cond.code yX7_multiply cX7_multiply 8 none ∈ uw := uw_mem 363 (by decide +kernel) (by decide +kernel)
theorem w364 : Cond.methodLink RX7 13 yX7_addUp ∈ uw := uw_mem 364 (by decide +kernel) (by decide +kernel)
theorem w365 : Cond.static yX7_addUp ∈ uw := uw_mem 365 (by decide +kernel) (by decide +kernel)
theorem w366 : Cond.code yX7_addUp cX7_addUp 10 (some .long) ∈ uw := uw_mem 366 (by decide +kernel) (by decide +kernel)
theorem w367 : Cond.methodLink RX10 348 yX7_invert ∈ uw := uw_mem 367 (by decide +kernel) (by decide +kernel)
theorem w368 : Cond.static yX7_invert ∈ uw := uw_mem 368 (by decide +kernel) (by decide +kernel)
theorem w369 : Cond.code yX7_invert cX7_invert 8 none ∈ uw := uw_mem 369 (by decide +kernel) (by decide +kernel)
theorem w370 : Cond.methodLink RX7 19 yX7_determinant ∈ uw := uw_mem 370 (by decide +kernel) (by decide +kernel)
theorem w371 : Cond.static yX7_determinant ∈ uw := uw_mem 371 (by decide +kernel) (by decide +kernel)
theorem w372 : Cond.code yX7_determinant cX7_determinant 7 (some .long) ∈ uw := uw_mem 372 (by decide +kernel) (by decide +kernel)
theorem w373 : Cond.methodLink RX7 23 yX7_cofactor ∈ uw := uw_mem 373 (by decide +kernel) (by decide +kernel)
theorem w374 : Cond.static yX7_cofactor ∈ uw := uw_mem 374 (by decide +kernel) (by decide +kernel)
theorem w375 : Cond.code yX7_cofactor cX7_cofactor 9 (some .long) ∈ uw := uw_mem 375 (by decide +kernel) (by decide +kernel)
theorem w376 : Cond.methodLink RX10 352 yX7_turn ∈ uw := uw_mem 376 (by decide +kernel) (by decide +kernel)
theorem w377 : Cond.static yX7_turn ∈ uw := uw_mem 377 (by decide +kernel) (by decide +kernel)
theorem w378 : Cond.code yX7_turn cX7_turn 6 none ∈ uw := uw_mem 378 (by decide +kernel) (by decide +kernel)
theorem w379 : Cond.methodLink RX10 355 yX7_negate ∈ uw := uw_mem 379 (by decide +kernel) (by decide +kernel)
theorem w380 : Cond.static yX7_negate ∈ uw := uw_mem 380 (by decide +kernel) (by decide +kernel)
theorem w381 : Cond.code yX7_negate cX7_negate 5 none ∈ uw := uw_mem 381 (by decide +kernel) (by decide +kernel)
theorem w382 : Cond.methodLink RX10 130 yX5_cellCount ∈ uw := uw_mem 382 (by decide +kernel) (by decide +kernel)
theorem w383 : Cond.instanceMethod yX5_cellCount ∈ uw := uw_mem 383 (by decide +kernel) (by decide +kernel)
theorem w384 : Cond.selects RX5 yX5_cellCount yX5_cellCount ∈ uw := uw_mem 384 (by decide +kernel) (by decide +kernel)
theorem w385 : Cond.code yX5_cellCount cX5_cellCount 1 (some .int) ∈ uw := uw_mem 385 (by decide +kernel) (by decide +kernel)
theorem w386 : Cond.constantLong RX10 134 (99) ∈ uw := uw_mem 386 (by decide +kernel) (by decide +kernel)
theorem w387 : Cond.methodLink RX10 136 yX7_isWithin ∈ uw := uw_mem 387 (by decide +kernel) (by decide +kernel)
theorem w388 : Cond.static yX7_isWithin ∈ uw := uw_mem 388 (by decide +kernel) (by decide +kernel)
theorem w389 : Cond.code yX7_isWithin cX7_isWithin 5 (some .boolean) ∈ uw := uw_mem 389 (by decide +kernel) (by decide +kernel)
theorem w390 : Cond.methodLink RL 27 yX10_drop ∈ uw := uw_mem 390 (by decide +kernel) (by decide +kernel)
theorem w391 : Cond.instanceMethod yX10_drop ∈ uw := uw_mem 391 (by decide +kernel) (by decide +kernel)
theorem w392 : Cond.selects RX10 yX10_drop yX10_drop ∈ uw := uw_mem 392 (by decide +kernel) (by decide +kernel)
theorem w393 : Cond.code yX10_drop cX10_drop 1 (some .int) ∈ uw := uw_mem 393 (by decide +kernel) (by decide +kernel)
theorem w394 : Cond.methodLink RL 32 yX10_at ∈ uw := uw_mem 394 (by decide +kernel) (by decide +kernel)
theorem w395 : Cond.instanceMethod yX10_at ∈ uw := uw_mem 395 (by decide +kernel) (by decide +kernel)
theorem w396 : Cond.selects RX10 yX10_at yX10_at ∈ uw := uw_mem 396 (by decide +kernel) (by decide +kernel)
theorem w397 : Cond.code yX10_at cX10_at 4 (some .int) ∈ uw := uw_mem 397 (by decide +kernel) (by decide +kernel)
theorem w398 : Cond.methodLink RL 36 yX10_of ∈ uw := uw_mem 398 (by decide +kernel) (by decide +kernel)
theorem w399 : Cond.instanceMethod yX10_of ∈ uw := uw_mem 399 (by decide +kernel) (by decide +kernel)
theorem w400 : Cond.selects RX10 yX10_of yX10_of ∈ uw := uw_mem 400 (by decide +kernel) (by decide +kernel)
theorem w401 : Cond.code yX10_of cX10_of 4 (some .int) ∈ uw := uw_mem 401 (by decide +kernel) (by decide +kernel)
theorem w402 : Cond.methodLink RX10 148 yX7_determinant ∈ uw := uw_mem 402 (by decide +kernel) (by decide +kernel)
theorem w403 : Cond.methodLink RX10 152 yX7_trace ∈ uw := uw_mem 403 (by decide +kernel) (by decide +kernel)
theorem w404 : Cond.static yX7_trace ∈ uw := uw_mem 404 (by decide +kernel) (by decide +kernel)
theorem w405 : Cond.code yX7_trace cX7_trace 6 (some .long) ∈ uw := uw_mem 405 (by decide +kernel) (by decide +kernel)
theorem w406 : Cond.methodLink RX10 156 yX10_orderOf ∈ uw := uw_mem 406 (by decide +kernel) (by decide +kernel)
theorem w408 : Cond.instanceMethod yX10_orderOf ∈ uw := uw_mem 408 (by decide +kernel) (by decide +kernel)
theorem w409 : Cond.code yX10_orderOf cX10_orderOf 5 (some .int) ∈ uw := uw_mem 409 (by decide +kernel) (by decide +kernel)
theorem w410 : Cond.methodLink RX10 189 arraycopyName ∈ uw := uw_mem 410 (by decide +kernel) (by decide +kernel)
theorem w411 : Cond.methodLink RX10 358 yX7_isOne ∈ uw := uw_mem 411 (by decide +kernel) (by decide +kernel)
theorem w412 : Cond.static yX7_isOne ∈ uw := uw_mem 412 (by decide +kernel) (by decide +kernel)
theorem w413 : Cond.code yX7_isOne cX7_isOne 4 (some .boolean) ∈ uw := uw_mem 413 (by decide +kernel) (by decide +kernel)
theorem w414 : Cond.constantLong RX10 362 (1000000000) ∈ uw := uw_mem 414 (by decide +kernel) (by decide +kernel)
theorem w415 : Cond.methodLink RL 41 yX10_character ∈ uw := uw_mem 415 (by decide +kernel) (by decide +kernel)
theorem w416 : Cond.instanceMethod yX10_character ∈ uw := uw_mem 416 (by decide +kernel) (by decide +kernel)
theorem w417 : Cond.selects RX10 yX10_character yX10_character ∈ uw := uw_mem 417 (by decide +kernel) (by decide +kernel)
theorem w418 : Cond.code yX10_character cX10_character 3 (some .int) ∈ uw := uw_mem 418 (by decide +kernel) (by decide +kernel)
theorem w419 : Cond.constant RX10 160 (1000000) ∈ uw := uw_mem 419 (by decide +kernel) (by decide +kernel)
theorem w420 : Cond.methodLink RX10 161 yX3_characterOf ∈ uw := uw_mem 420 (by decide +kernel) (by decide +kernel)
theorem w421 : Cond.static yX3_characterOf ∈ uw := uw_mem 421 (by decide +kernel) (by decide +kernel)
theorem w422 : Cond.code yX3_characterOf cX3_characterOf 7 (some (.array .long)) ∈ uw := uw_mem 422 (by decide +kernel) (by decide +kernel)
theorem w423 : Cond.methodLink RX3 15 yX7_determinant ∈ uw := uw_mem 423 (by decide +kernel) (by decide +kernel)
theorem w424 : Cond.methodLink RX3 21 yX7_cofactor ∈ uw := uw_mem 424 (by decide +kernel) (by decide +kernel)
theorem w425 : Cond.methodLink RX3 25 yX7_trace ∈ uw := uw_mem 425 (by decide +kernel) (by decide +kernel)
theorem w426 : Cond.methodLink RL 45 yX10_factor ∈ uw := uw_mem 426 (by decide +kernel) (by decide +kernel)
theorem w427 : Cond.instanceMethod yX10_factor ∈ uw := uw_mem 427 (by decide +kernel) (by decide +kernel)
theorem w428 : Cond.selects RX10 yX10_factor yX10_factor ∈ uw := uw_mem 428 (by decide +kernel) (by decide +kernel)
theorem w429 : Cond.code yX10_factor cX10_factor 4 (some .int) ∈ uw := uw_mem 429 (by decide +kernel) (by decide +kernel)
theorem w430 : Cond.methodLink RX10 167 yX3_isFactor ∈ uw := uw_mem 430 (by decide +kernel) (by decide +kernel)
theorem w431 : Cond.static yX3_isFactor ∈ uw := uw_mem 431 (by decide +kernel) (by decide +kernel)
theorem w432 : Cond.code yX3_isFactor cX3_isFactor 1 (some .boolean) ∈ uw := uw_mem 432 (by decide +kernel) (by decide +kernel)
theorem w433 : Cond.fieldLink RX3 9 "FiniteMatrices$Polynomials" "FACTOR_DEGREE" "[I" ∈ uw := uw_mem 433 (by decide +kernel) (by decide +kernel)
theorem w435 : Cond.methodLink RX10 170 yX3_howOften ∈ uw := uw_mem 435 (by decide +kernel) (by decide +kernel)
theorem w436 : Cond.static yX3_howOften ∈ uw := uw_mem 436 (by decide +kernel) (by decide +kernel)
theorem w437 : Cond.code yX3_howOften cX3_howOften 5 (some .int) ∈ uw := uw_mem 437 (by decide +kernel) (by decide +kernel)
theorem w438 : Cond.methodLink RX3 29 yX3_takeOut ∈ uw := uw_mem 438 (by decide +kernel) (by decide +kernel)
theorem w439 : Cond.static yX3_takeOut ∈ uw := uw_mem 439 (by decide +kernel) (by decide +kernel)
theorem w440 : Cond.code yX3_takeOut cX3_takeOut 5 (some .boolean) ∈ uw := uw_mem 440 (by decide +kernel) (by decide +kernel)
theorem w441 : Cond.fieldLink RX3 33 "FiniteMatrices$Polynomials" "FACTOR_OF_ONE" "[I" ∈ uw := uw_mem 441 (by decide +kernel) (by decide +kernel)
theorem w443 : Cond.fieldLink RX3 36 "FiniteMatrices$Polynomials" "FACTOR_OF_X" "[I" ∈ uw := uw_mem 443 (by decide +kernel) (by decide +kernel)
theorem w445 : Cond.methodLink RL 51 yX10_feed ∈ uw := uw_mem 445 (by decide +kernel) (by decide +kernel)
theorem w446 : Cond.instanceMethod yX10_feed ∈ uw := uw_mem 446 (by decide +kernel) (by decide +kernel)
theorem w447 : Cond.selects RX10 yX10_feed yX10_feed ∈ uw := uw_mem 447 (by decide +kernel) (by decide +kernel)
theorem w448 : Cond.code yX10_feed cX10_feed 4 (some .int) ∈ uw := uw_mem 448 (by decide +kernel) (by decide +kernel)
theorem w449 : Cond.methodLink RX10 175 yX9_receive ∈ uw := uw_mem 449 (by decide +kernel) (by decide +kernel)
theorem w450 : Cond.instanceMethod yX9_receive ∈ uw := uw_mem 450 (by decide +kernel) (by decide +kernel)
theorem w451 : Cond.selects RX9 yX9_receive yX9_receive ∈ uw := uw_mem 451 (by decide +kernel) (by decide +kernel)
theorem w452 : Cond.code yX9_receive cX9_receive 5 none ∈ uw := uw_mem 452 (by decide +kernel) (by decide +kernel)
theorem w453 : Cond.methodLink RL 56 yX10_text ∈ uw := uw_mem 453 (by decide +kernel) (by decide +kernel)
theorem w454 : Cond.instanceMethod yX10_text ∈ uw := uw_mem 454 (by decide +kernel) (by decide +kernel)
theorem w455 : Cond.selects RX10 yX10_text yX10_text ∈ uw := uw_mem 455 (by decide +kernel) (by decide +kernel)
theorem w456 : Cond.code yX10_text cX10_text 2 (some .int) ∈ uw := uw_mem 456 (by decide +kernel) (by decide +kernel)
theorem w457 : Cond.methodLink RX10 179 yX9_read ∈ uw := uw_mem 457 (by decide +kernel) (by decide +kernel)
theorem w458 : Cond.instanceMethod yX9_read ∈ uw := uw_mem 458 (by decide +kernel) (by decide +kernel)
theorem w459 : Cond.selects RX9 yX9_read yX9_read ∈ uw := uw_mem 459 (by decide +kernel) (by decide +kernel)
theorem w460 : Cond.code yX9_read cX9_read 2 (some .boolean) ∈ uw := uw_mem 460 (by decide +kernel) (by decide +kernel)
theorem w461 : Cond.methodLink RX9 29 yX9_skipBlanks ∈ uw := uw_mem 461 (by decide +kernel) (by decide +kernel)
theorem w463 : Cond.instanceMethod yX9_skipBlanks ∈ uw := uw_mem 463 (by decide +kernel) (by decide +kernel)
theorem w464 : Cond.code yX9_skipBlanks cX9_skipBlanks 1 none ∈ uw := uw_mem 464 (by decide +kernel) (by decide +kernel)
theorem w465 : Cond.methodLink RX9 32 yX9_readMatrix ∈ uw := uw_mem 465 (by decide +kernel) (by decide +kernel)
theorem w467 : Cond.instanceMethod yX9_readMatrix ∈ uw := uw_mem 467 (by decide +kernel) (by decide +kernel)
theorem w468 : Cond.code yX9_readMatrix cX9_readMatrix 4 (some .boolean) ∈ uw := uw_mem 468 (by decide +kernel) (by decide +kernel)
theorem w469 : Cond.methodLink RX9 36 yX9_pass ∈ uw := uw_mem 469 (by decide +kernel) (by decide +kernel)
theorem w471 : Cond.instanceMethod yX9_pass ∈ uw := uw_mem 471 (by decide +kernel) (by decide +kernel)
theorem w472 : Cond.code yX9_pass cX9_pass 2 (some .boolean) ∈ uw := uw_mem 472 (by decide +kernel) (by decide +kernel)
theorem w473 : Cond.methodLink RX9 40 yX9_readNumber ∈ uw := uw_mem 473 (by decide +kernel) (by decide +kernel)
theorem w475 : Cond.instanceMethod yX9_readNumber ∈ uw := uw_mem 475 (by decide +kernel) (by decide +kernel)
theorem w476 : Cond.code yX9_readNumber cX9_readNumber 4 (some .boolean) ∈ uw := uw_mem 476 (by decide +kernel) (by decide +kernel)
theorem w477 : Cond.methodLink RX9 49 yX9_isDigit ∈ uw := uw_mem 477 (by decide +kernel) (by decide +kernel)
theorem w479 : Cond.instanceMethod yX9_isDigit ∈ uw := uw_mem 479 (by decide +kernel) (by decide +kernel)
theorem w480 : Cond.code yX9_isDigit cX9_isDigit 1 (some .boolean) ∈ uw := uw_mem 480 (by decide +kernel) (by decide +kernel)
theorem w481 : Cond.methodLink RX9 43 yX7_hasWholeInverse ∈ uw := uw_mem 481 (by decide +kernel) (by decide +kernel)
theorem w482 : Cond.static yX7_hasWholeInverse ∈ uw := uw_mem 482 (by decide +kernel) (by decide +kernel)
theorem w483 : Cond.code yX7_hasWholeInverse cX7_hasWholeInverse 5 (some .boolean) ∈ uw := uw_mem 483 (by decide +kernel) (by decide +kernel)
theorem w484 : Cond.constantLong RX7 27 (-1) ∈ uw := uw_mem 484 (by decide +kernel) (by decide +kernel)
theorem w485 : Cond.methodLink RL 60 yX10_listed ∈ uw := uw_mem 485 (by decide +kernel) (by decide +kernel)
theorem w486 : Cond.instanceMethod yX10_listed ∈ uw := uw_mem 486 (by decide +kernel) (by decide +kernel)
theorem w487 : Cond.selects RX10 yX10_listed yX10_listed ∈ uw := uw_mem 487 (by decide +kernel) (by decide +kernel)
theorem w488 : Cond.code yX10_listed cX10_listed 1 (some .int) ∈ uw := uw_mem 488 (by decide +kernel) (by decide +kernel)
theorem w489 : Cond.methodLink RX10 195 yX10_listAll ∈ uw := uw_mem 489 (by decide +kernel) (by decide +kernel)
theorem w491 : Cond.instanceMethod yX10_listAll ∈ uw := uw_mem 491 (by decide +kernel) (by decide +kernel)
theorem w492 : Cond.code yX10_listAll cX10_listAll 1 none ∈ uw := uw_mem 492 (by decide +kernel) (by decide +kernel)
theorem w493 : Cond.methodLink RX10 275 yX4_clear ∈ uw := uw_mem 493 (by decide +kernel) (by decide +kernel)
theorem w494 : Cond.instanceMethod yX4_clear ∈ uw := uw_mem 494 (by decide +kernel) (by decide +kernel)
theorem w495 : Cond.selects RX4 yX4_clear yX4_clear ∈ uw := uw_mem 495 (by decide +kernel) (by decide +kernel)
theorem w496 : Cond.code yX4_clear cX4_clear 3 none ∈ uw := uw_mem 496 (by decide +kernel) (by decide +kernel)
theorem w497 : Cond.methodLink RX4 51 yJ7_fill_53178 ∈ uw := uw_mem 497 (by decide +kernel) (by decide +kernel)
theorem w498 : Cond.methodLink RX10 279 yX4_append ∈ uw := uw_mem 498 (by decide +kernel) (by decide +kernel)
theorem w499 : Cond.instanceMethod yX4_append ∈ uw := uw_mem 499 (by decide +kernel) (by decide +kernel)
theorem w500 : Cond.selects RX4 yX4_append yX4_append ∈ uw := uw_mem 500 (by decide +kernel) (by decide +kernel)
theorem w501 : Cond.code yX4_append cX4_append 6 (some .int) ∈ uw := uw_mem 501 (by decide +kernel) (by decide +kernel)
theorem w502 : Cond.methodLink RX4 65 yX4_start ∈ uw := uw_mem 502 (by decide +kernel) (by decide +kernel)
theorem w503 : Cond.instanceMethod yX4_start ∈ uw := uw_mem 503 (by decide +kernel) (by decide +kernel)
theorem w504 : Cond.selects RX4 yX4_start yX4_start ∈ uw := uw_mem 504 (by decide +kernel) (by decide +kernel)
theorem w505 : Cond.code yX4_start cX4_start 2 (some .int) ∈ uw := uw_mem 505 (by decide +kernel) (by decide +kernel)
theorem w506 : Cond.methodLink RX4 69 arraycopyName ∈ uw := uw_mem 506 (by decide +kernel) (by decide +kernel)
theorem w507 : Cond.methodLink RX4 75 yX4_has ∈ uw := uw_mem 507 (by decide +kernel) (by decide +kernel)
theorem w508 : Cond.instanceMethod yX4_has ∈ uw := uw_mem 508 (by decide +kernel) (by decide +kernel)
theorem w509 : Cond.selects RX4 yX4_has yX4_has ∈ uw := uw_mem 509 (by decide +kernel) (by decide +kernel)
theorem w510 : Cond.code yX4_has cX4_has 2 (some .boolean) ∈ uw := uw_mem 510 (by decide +kernel) (by decide +kernel)
theorem w511 : Cond.methodLink RX4 57 yX4_slotOf ∈ uw := uw_mem 511 (by decide +kernel) (by decide +kernel)
theorem w513 : Cond.instanceMethod yX4_slotOf ∈ uw := uw_mem 513 (by decide +kernel) (by decide +kernel)
theorem w514 : Cond.code yX4_slotOf cX4_slotOf 5 (some .int) ∈ uw := uw_mem 514 (by decide +kernel) (by decide +kernel)
theorem w515 : Cond.constantLong RX4 96 (1000003) ∈ uw := uw_mem 515 (by decide +kernel) (by decide +kernel)
theorem w516 : Cond.methodLink RX10 282 yX4_spread ∈ uw := uw_mem 516 (by decide +kernel) (by decide +kernel)
theorem w517 : Cond.instanceMethod yX4_spread ∈ uw := uw_mem 517 (by decide +kernel) (by decide +kernel)
theorem w518 : Cond.selects RX4 yX4_spread yX4_spread ∈ uw := uw_mem 518 (by decide +kernel) (by decide +kernel)
theorem w519 : Cond.code yX4_spread cX4_spread 6 none ∈ uw := uw_mem 519 (by decide +kernel) (by decide +kernel)
theorem w520 : Cond.methodLink RX4 79 yX4_lead ∈ uw := uw_mem 520 (by decide +kernel) (by decide +kernel)
theorem w522 : Cond.instanceMethod yX4_lead ∈ uw := uw_mem 522 (by decide +kernel) (by decide +kernel)
theorem w523 : Cond.code yX4_lead cX4_lead 5 (some .int) ∈ uw := uw_mem 523 (by decide +kernel) (by decide +kernel)
theorem w524 : Cond.methodLink RX4 83 yStep ∈ uw := uw_mem 524 (by decide +kernel) (by decide +kernel)
theorem w527 : Cond.selects RX0 yStep yX0_go ∈ uw := uw_mem 527 (by decide +kernel) (by decide +kernel)
theorem w528 : Cond.instanceMethod yX0_go ∈ uw := uw_mem 528 (by decide +kernel) (by decide +kernel)
theorem w529 : Cond.code yX0_go cX0_go 7 (some .boolean) ∈ uw := uw_mem 529 (by decide +kernel) (by decide +kernel)
theorem w530 : Cond.methodLink RX0 21 yX4_has ∈ uw := uw_mem 530 (by decide +kernel) (by decide +kernel)
theorem w531 : Cond.selects RX1 yStep yX1_go ∈ uw := uw_mem 531 (by decide +kernel) (by decide +kernel)
theorem w532 : Cond.instanceMethod yX1_go ∈ uw := uw_mem 532 (by decide +kernel) (by decide +kernel)
theorem w533 : Cond.code yX1_go cX1_go 5 (some .boolean) ∈ uw := uw_mem 533 (by decide +kernel) (by decide +kernel)
theorem w534 : Cond.methodLink RX1 25 yX7_move ∈ uw := uw_mem 534 (by decide +kernel) (by decide +kernel)
theorem w535 : Cond.static yX7_move ∈ uw := uw_mem 535 (by decide +kernel) (by decide +kernel)
theorem w536 : Cond.code yX7_move cX7_move 7 none ∈ uw := uw_mem 536 (by decide +kernel) (by decide +kernel)
theorem w537 : Cond.constantLong RX1 31 (1000000000) ∈ uw := uw_mem 537 (by decide +kernel) (by decide +kernel)
theorem w538 : Cond.methodLink RX1 33 yX7_isWithin ∈ uw := uw_mem 538 (by decide +kernel) (by decide +kernel)
theorem w539 : Cond.selects RX2 yStep yX2_go ∈ uw := uw_mem 539 (by decide +kernel) (by decide +kernel)
theorem w540 : Cond.instanceMethod yX2_go ∈ uw := uw_mem 540 (by decide +kernel) (by decide +kernel)
theorem w541 : Cond.code yX2_go cX2_go 5 (some .boolean) ∈ uw := uw_mem 541 (by decide +kernel) (by decide +kernel)
theorem w542 : Cond.methodLink RX2 28 yX7_multiply ∈ uw := uw_mem 542 (by decide +kernel) (by decide +kernel)
theorem w543 : Cond.methodLink RX2 34 yX5_cellCount ∈ uw := uw_mem 543 (by decide +kernel) (by decide +kernel)
theorem w544 : Cond.methodLink RX2 38 yX7_reduce ∈ uw := uw_mem 544 (by decide +kernel) (by decide +kernel)
theorem w545 : Cond.static yX7_reduce ∈ uw := uw_mem 545 (by decide +kernel) (by decide +kernel)
theorem w546 : Cond.code yX7_reduce cX7_reduce 4 none ∈ uw := uw_mem 546 (by decide +kernel) (by decide +kernel)
theorem w547 : Cond.methodLink RX7 29 yJ9_floorMod_f86c9 ∈ uw := uw_mem 547 (by decide +kernel) (by decide +kernel)
theorem w548 : Cond.static yJ9_floorMod_f86c9 ∈ uw := uw_mem 548 (by decide +kernel) (by decide +kernel)
theorem w549 : Cond.code yJ9_floorMod_f86c9 cJ9_floorMod_f86c9 6 (some .long) ∈ uw := uw_mem 549 (by decide +kernel) (by decide +kernel)
theorem w550 : Cond.constantLong RX2 42 (1000000000) ∈ uw := uw_mem 550 (by decide +kernel) (by decide +kernel)
theorem w551 : Cond.methodLink RX2 44 yX7_isWithin ∈ uw := uw_mem 551 (by decide +kernel) (by decide +kernel)
theorem w552 : Cond.methodLink RX4 89 yX4_search ∈ uw := uw_mem 552 (by decide +kernel) (by decide +kernel)
theorem w553 : Cond.instanceMethod yX4_search ∈ uw := uw_mem 553 (by decide +kernel) (by decide +kernel)
theorem w554 : Cond.selects RX4 yX4_search yX4_search ∈ uw := uw_mem 554 (by decide +kernel) (by decide +kernel)
theorem w555 : Cond.code yX4_search cX4_search 4 (some .int) ∈ uw := uw_mem 555 (by decide +kernel) (by decide +kernel)
theorem w556 : Cond.methodLink RX4 61 yX4_isRow ∈ uw := uw_mem 556 (by decide +kernel) (by decide +kernel)
theorem w558 : Cond.instanceMethod yX4_isRow ∈ uw := uw_mem 558 (by decide +kernel) (by decide +kernel)
theorem w559 : Cond.code yX4_isRow cX4_isRow 5 (some .boolean) ∈ uw := uw_mem 559 (by decide +kernel) (by decide +kernel)
theorem w560 : Cond.methodLink RX4 92 yX4_append ∈ uw := uw_mem 560 (by decide +kernel) (by decide +kernel)
theorem w561 : Cond.methodLink RL 64 yX10_whole ∈ uw := uw_mem 561 (by decide +kernel) (by decide +kernel)
theorem w562 : Cond.instanceMethod yX10_whole ∈ uw := uw_mem 562 (by decide +kernel) (by decide +kernel)
theorem w563 : Cond.selects RX10 yX10_whole yX10_whole ∈ uw := uw_mem 563 (by decide +kernel) (by decide +kernel)
theorem w564 : Cond.code yX10_whole cX10_whole 1 (some .int) ∈ uw := uw_mem 564 (by decide +kernel) (by decide +kernel)
theorem w565 : Cond.methodLink RL 68 yX10_element ∈ uw := uw_mem 565 (by decide +kernel) (by decide +kernel)
theorem w566 : Cond.instanceMethod yX10_element ∈ uw := uw_mem 566 (by decide +kernel) (by decide +kernel)
theorem w567 : Cond.selects RX10 yX10_element yX10_element ∈ uw := uw_mem 567 (by decide +kernel) (by decide +kernel)
theorem w568 : Cond.code yX10_element cX10_element 4 (some .long) ∈ uw := uw_mem 568 (by decide +kernel) (by decide +kernel)
theorem w569 : Cond.methodLink RX10 202 yX4_has ∈ uw := uw_mem 569 (by decide +kernel) (by decide +kernel)
theorem w570 : Cond.methodLink RX10 203 yX10_asLong ∈ uw := uw_mem 570 (by decide +kernel) (by decide +kernel)
theorem w571 : Cond.static yX10_asLong ∈ uw := uw_mem 571 (by decide +kernel) (by decide +kernel)
theorem w572 : Cond.code yX10_asLong cX10_asLong 1 (some .long) ∈ uw := uw_mem 572 (by decide +kernel) (by decide +kernel)
theorem w573 : Cond.constantLong RX10 331 (4000000000000000000) ∈ uw := uw_mem 573 (by decide +kernel) (by decide +kernel)
theorem w574 : Cond.methodLink RX10 208 yX4_start ∈ uw := uw_mem 574 (by decide +kernel) (by decide +kernel)
theorem w575 : Cond.methodLink RL 73 yX10_about ∈ uw := uw_mem 575 (by decide +kernel) (by decide +kernel)
theorem w576 : Cond.instanceMethod yX10_about ∈ uw := uw_mem 576 (by decide +kernel) (by decide +kernel)
theorem w577 : Cond.selects RX10 yX10_about yX10_about ∈ uw := uw_mem 577 (by decide +kernel) (by decide +kernel)
theorem w578 : Cond.code yX10_about cX10_about 3 (some .int) ∈ uw := uw_mem 578 (by decide +kernel) (by decide +kernel)
theorem w579 : Cond.methodLink RL 77 yX10_witness ∈ uw := uw_mem 579 (by decide +kernel) (by decide +kernel)
theorem w580 : Cond.instanceMethod yX10_witness ∈ uw := uw_mem 580 (by decide +kernel) (by decide +kernel)
theorem w581 : Cond.selects RX10 yX10_witness yX10_witness ∈ uw := uw_mem 581 (by decide +kernel) (by decide +kernel)
theorem w582 : Cond.code yX10_witness cX10_witness 2 (some .int) ∈ uw := uw_mem 582 (by decide +kernel) (by decide +kernel)
theorem w583 : Cond.methodLink RL 81 yX10_found ∈ uw := uw_mem 583 (by decide +kernel) (by decide +kernel)
theorem w584 : Cond.instanceMethod yX10_found ∈ uw := uw_mem 584 (by decide +kernel) (by decide +kernel)
theorem w585 : Cond.selects RX10 yX10_found yX10_found ∈ uw := uw_mem 585 (by decide +kernel) (by decide +kernel)
theorem w586 : Cond.code yX10_found cX10_found 3 (some .int) ∈ uw := uw_mem 586 (by decide +kernel) (by decide +kernel)
theorem w587 : Cond.methodLink RX10 221 yX10_areGenerators ∈ uw := uw_mem 587 (by decide +kernel) (by decide +kernel)
theorem w589 : Cond.instanceMethod yX10_areGenerators ∈ uw := uw_mem 589 (by decide +kernel) (by decide +kernel)
theorem w590 : Cond.code yX10_areGenerators cX10_areGenerators 3 (some .boolean) ∈ uw := uw_mem 590 (by decide +kernel) (by decide +kernel)
theorem w591 : Cond.constant RX10 367 (999999999) ∈ uw := uw_mem 591 (by decide +kernel) (by decide +kernel)
theorem w592 : Cond.methodLink RX10 224 yX10_multiplyOut ∈ uw := uw_mem 592 (by decide +kernel) (by decide +kernel)
theorem w594 : Cond.instanceMethod yX10_multiplyOut ∈ uw := uw_mem 594 (by decide +kernel) (by decide +kernel)
theorem w595 : Cond.code yX10_multiplyOut cX10_multiplyOut 5 (some .boolean) ∈ uw := uw_mem 595 (by decide +kernel) (by decide +kernel)
theorem w596 : Cond.constant RX10 368 (100000000) ∈ uw := uw_mem 596 (by decide +kernel) (by decide +kernel)
theorem w597 : Cond.methodLink RX10 227 yX4_search ∈ uw := uw_mem 597 (by decide +kernel) (by decide +kernel)
theorem w598 : Cond.methodLink RL 85 yX10_middle ∈ uw := uw_mem 598 (by decide +kernel) (by decide +kernel)
theorem w599 : Cond.instanceMethod yX10_middle ∈ uw := uw_mem 599 (by decide +kernel) (by decide +kernel)
theorem w600 : Cond.selects RX10 yX10_middle yX10_middle ∈ uw := uw_mem 600 (by decide +kernel) (by decide +kernel)
theorem w601 : Cond.code yX10_middle cX10_middle 3 (some .int) ∈ uw := uw_mem 601 (by decide +kernel) (by decide +kernel)
theorem w602 : Cond.methodLink RX10 231 yX10_isInMiddle ∈ uw := uw_mem 602 (by decide +kernel) (by decide +kernel)
theorem w604 : Cond.instanceMethod yX10_isInMiddle ∈ uw := uw_mem 604 (by decide +kernel) (by decide +kernel)
theorem w605 : Cond.code yX10_isInMiddle cX10_isInMiddle 4 (some .boolean) ∈ uw := uw_mem 605 (by decide +kernel) (by decide +kernel)
theorem w606 : Cond.methodLink RX10 293 yX7_areAlike ∈ uw := uw_mem 606 (by decide +kernel) (by decide +kernel)
theorem w607 : Cond.static yX7_areAlike ∈ uw := uw_mem 607 (by decide +kernel) (by decide +kernel)
theorem w608 : Cond.code yX7_areAlike cX7_areAlike 4 (some .boolean) ∈ uw := uw_mem 608 (by decide +kernel) (by decide +kernel)
theorem w609 : Cond.methodLink RL 89 yX10_form ∈ uw := uw_mem 609 (by decide +kernel) (by decide +kernel)
theorem w610 : Cond.instanceMethod yX10_form ∈ uw := uw_mem 610 (by decide +kernel) (by decide +kernel)
theorem w611 : Cond.selects RX10 yX10_form yX10_form ∈ uw := uw_mem 611 (by decide +kernel) (by decide +kernel)
theorem w612 : Cond.code yX10_form cX10_form 5 (some .long) ∈ uw := uw_mem 612 (by decide +kernel) (by decide +kernel)
theorem w613 : Cond.methodLink RX10 234 yX10_addUpForm ∈ uw := uw_mem 613 (by decide +kernel) (by decide +kernel)
theorem w615 : Cond.instanceMethod yX10_addUpForm ∈ uw := uw_mem 615 (by decide +kernel) (by decide +kernel)
theorem w616 : Cond.code yX10_addUpForm cX10_addUpForm 6 (some .boolean) ∈ uw := uw_mem 616 (by decide +kernel) (by decide +kernel)
theorem w617 : Cond.methodLink RX10 369 yJ7_fill_d0a16 ∈ uw := uw_mem 617 (by decide +kernel) (by decide +kernel)
theorem w618 : Cond.methodLink RX10 372 yX7_multiplyTurned ∈ uw := uw_mem 618 (by decide +kernel) (by decide +kernel)
theorem w619 : Cond.static yX7_multiplyTurned ∈ uw := uw_mem 619 (by decide +kernel) (by decide +kernel)
theorem w620 : Cond.code yX7_multiplyTurned cX7_multiplyTurned 8 none ∈ uw := uw_mem 620 (by decide +kernel) (by decide +kernel)
theorem w621 : Cond.methodLink RX10 237 yX7_commonDivisor ∈ uw := uw_mem 621 (by decide +kernel) (by decide +kernel)
theorem w622 : Cond.static yX7_commonDivisor ∈ uw := uw_mem 622 (by decide +kernel) (by decide +kernel)
theorem w623 : Cond.code yX7_commonDivisor cX7_commonDivisor 10 (some .long) ∈ uw := uw_mem 623 (by decide +kernel) (by decide +kernel)
theorem w624 : Cond.methodLink RX7 35 yJ9_abs_067f4 ∈ uw := uw_mem 624 (by decide +kernel) (by decide +kernel)
theorem w625 : Cond.static yJ9_abs_067f4 ∈ uw := uw_mem 625 (by decide +kernel) (by decide +kernel)
theorem w626 : Cond.code yJ9_abs_067f4 cJ9_abs_067f4 2 (some .long) ∈ uw := uw_mem 626 (by decide +kernel) (by decide +kernel)
theorem w627 : Cond.methodLink RX10 241 yJ9_max_f86c9 ∈ uw := uw_mem 627 (by decide +kernel) (by decide +kernel)
theorem w628 : Cond.static yJ9_max_f86c9 ∈ uw := uw_mem 628 (by decide +kernel) (by decide +kernel)
theorem w629 : Cond.code yJ9_max_f86c9 cJ9_max_f86c9 4 (some .long) ∈ uw := uw_mem 629 (by decide +kernel) (by decide +kernel)
theorem w630 : Cond.methodLink RL 94 yX10_keeps ∈ uw := uw_mem 630 (by decide +kernel) (by decide +kernel)
theorem w631 : Cond.instanceMethod yX10_keeps ∈ uw := uw_mem 631 (by decide +kernel) (by decide +kernel)
theorem w632 : Cond.selects RX10 yX10_keeps yX10_keeps ∈ uw := uw_mem 632 (by decide +kernel) (by decide +kernel)
theorem w633 : Cond.code yX10_keeps cX10_keeps 4 (some .int) ∈ uw := uw_mem 633 (by decide +kernel) (by decide +kernel)
theorem w634 : Cond.methodLink RX10 247 yX10_refusalOfTable ∈ uw := uw_mem 634 (by decide +kernel) (by decide +kernel)
theorem w636 : Cond.instanceMethod yX10_refusalOfTable ∈ uw := uw_mem 636 (by decide +kernel) (by decide +kernel)
theorem w637 : Cond.code yX10_refusalOfTable cX10_refusalOfTable 5 (some .int) ∈ uw := uw_mem 637 (by decide +kernel) (by decide +kernel)
theorem w638 : Cond.methodLink RX10 303 yX10_isSheet ∈ uw := uw_mem 638 (by decide +kernel) (by decide +kernel)
theorem w639 : Cond.static yX10_isSheet ∈ uw := uw_mem 639 (by decide +kernel) (by decide +kernel)
theorem w640 : Cond.code yX10_isSheet cX10_isSheet 1 (some .boolean) ∈ uw := uw_mem 640 (by decide +kernel) (by decide +kernel)
theorem w641 : Cond.methodLink RX10 312 yX6_isMissing ∈ uw := uw_mem 641 (by decide +kernel) (by decide +kernel)
theorem w642 : Cond.instanceMethod yX6_isMissing ∈ uw := uw_mem 642 (by decide +kernel) (by decide +kernel)
theorem w643 : Cond.selects RX6 yX6_isMissing yX6_isMissing ∈ uw := uw_mem 643 (by decide +kernel) (by decide +kernel)
theorem w644 : Cond.code yX6_isMissing cX6_isMissing 1 (some .boolean) ∈ uw := uw_mem 644 (by decide +kernel) (by decide +kernel)
theorem w645 : Cond.methodLink RX10 315 yX6_isOutside ∈ uw := uw_mem 645 (by decide +kernel) (by decide +kernel)
theorem w646 : Cond.instanceMethod yX6_isOutside ∈ uw := uw_mem 646 (by decide +kernel) (by decide +kernel)
theorem w647 : Cond.selects RX6 yX6_isOutside yX6_isOutside ∈ uw := uw_mem 647 (by decide +kernel) (by decide +kernel)
theorem w648 : Cond.code yX6_isOutside cX6_isOutside 3 (some .boolean) ∈ uw := uw_mem 648 (by decide +kernel) (by decide +kernel)
theorem w649 : Cond.constantLong RX10 251 (1000000) ∈ uw := uw_mem 649 (by decide +kernel) (by decide +kernel)
theorem w650 : Cond.methodLink RX10 253 yX10_isPositiveForm ∈ uw := uw_mem 650 (by decide +kernel) (by decide +kernel)
theorem w652 : Cond.instanceMethod yX10_isPositiveForm ∈ uw := uw_mem 652 (by decide +kernel) (by decide +kernel)
theorem w653 : Cond.code yX10_isPositiveForm cX10_isPositiveForm 2 (some .boolean) ∈ uw := uw_mem 653 (by decide +kernel) (by decide +kernel)
theorem w654 : Cond.methodLink RX10 256 yX10_noGeneratorChangesForm ∈ uw := uw_mem 654 (by decide +kernel) (by decide +kernel)
theorem w656 : Cond.instanceMethod yX10_noGeneratorChangesForm ∈ uw := uw_mem 656 (by decide +kernel) (by decide +kernel)
theorem w657 : Cond.code yX10_noGeneratorChangesForm cX10_noGeneratorChangesForm 3 (some .boolean) ∈ uw := uw_mem 657 (by decide +kernel) (by decide +kernel)
theorem w658 : Cond.methodLink RL 98 yX10_image ∈ uw := uw_mem 658 (by decide +kernel) (by decide +kernel)
theorem w659 : Cond.instanceMethod yX10_image ∈ uw := uw_mem 659 (by decide +kernel) (by decide +kernel)
theorem w660 : Cond.selects RX10 yX10_image yX10_image ∈ uw := uw_mem 660 (by decide +kernel) (by decide +kernel)
theorem w661 : Cond.code yX10_image cX10_image 2 (some .int) ∈ uw := uw_mem 661 (by decide +kernel) (by decide +kernel)
theorem w662 : Cond.methodLink RX10 259 yX10_isPrimeTaken ∈ uw := uw_mem 662 (by decide +kernel) (by decide +kernel)
theorem w663 : Cond.static yX10_isPrimeTaken ∈ uw := uw_mem 663 (by decide +kernel) (by decide +kernel)
theorem w664 : Cond.code yX10_isPrimeTaken cX10_isPrimeTaken 1 (some .boolean) ∈ uw := uw_mem 664 (by decide +kernel) (by decide +kernel)
theorem w665 : Cond.methodLink RX10 262 yX10_countImage ∈ uw := uw_mem 665 (by decide +kernel) (by decide +kernel)
theorem w667 : Cond.instanceMethod yX10_countImage ∈ uw := uw_mem 667 (by decide +kernel) (by decide +kernel)
theorem w668 : Cond.code yX10_countImage cX10_countImage 3 (some .int) ∈ uw := uw_mem 668 (by decide +kernel) (by decide +kernel)
theorem w669 : Cond.methodLink RX10 375 yX10_clearBench ∈ uw := uw_mem 669 (by decide +kernel) (by decide +kernel)
theorem w671 : Cond.instanceMethod yX10_clearBench ∈ uw := uw_mem 671 (by decide +kernel) (by decide +kernel)
theorem w672 : Cond.code yX10_clearBench cX10_clearBench 3 (some (.object "FiniteMatrices$Roll")) ∈ uw := uw_mem 672 (by decide +kernel) (by decide +kernel)
theorem w673 : Cond.methodLink RL 102 yX10_faithful ∈ uw := uw_mem 673 (by decide +kernel) (by decide +kernel)
theorem w674 : Cond.instanceMethod yX10_faithful ∈ uw := uw_mem 674 (by decide +kernel) (by decide +kernel)
theorem w675 : Cond.selects RX10 yX10_faithful yX10_faithful ∈ uw := uw_mem 675 (by decide +kernel) (by decide +kernel)
theorem w676 : Cond.code yX10_faithful cX10_faithful 2 (some .int) ∈ uw := uw_mem 676 (by decide +kernel) (by decide +kernel)
theorem w677 : Cond.methodLink RX10 265 yX10_areApartBy ∈ uw := uw_mem 677 (by decide +kernel) (by decide +kernel)
theorem w679 : Cond.instanceMethod yX10_areApartBy ∈ uw := uw_mem 679 (by decide +kernel) (by decide +kernel)
theorem w680 : Cond.code yX10_areApartBy cX10_areApartBy 5 (some .boolean) ∈ uw := uw_mem 680 (by decide +kernel) (by decide +kernel)
theorem w681 : Cond.methodLink RX10 379 yX7_reduce ∈ uw := uw_mem 681 (by decide +kernel) (by decide +kernel)
theorem w682 : Cond.methodLink RL 106 yX10_orbit ∈ uw := uw_mem 682 (by decide +kernel) (by decide +kernel)
theorem w683 : Cond.instanceMethod yX10_orbit ∈ uw := uw_mem 683 (by decide +kernel) (by decide +kernel)
theorem w684 : Cond.selects RX10 yX10_orbit yX10_orbit ∈ uw := uw_mem 684 (by decide +kernel) (by decide +kernel)
theorem w685 : Cond.code yX10_orbit cX10_orbit 4 (some .int) ∈ uw := uw_mem 685 (by decide +kernel) (by decide +kernel)
theorem w686 : Cond.methodLink RX10 268 yX10_isStart ∈ uw := uw_mem 686 (by decide +kernel) (by decide +kernel)
theorem w687 : Cond.static yX10_isStart ∈ uw := uw_mem 687 (by decide +kernel) (by decide +kernel)
theorem w688 : Cond.code yX10_isStart cX10_isStart 3 (some .boolean) ∈ uw := uw_mem 688 (by decide +kernel) (by decide +kernel)
theorem w689 : Cond.methodLink RX10 383 yX10_isOfStart ∈ uw := uw_mem 689 (by decide +kernel) (by decide +kernel)
theorem w690 : Cond.static yX10_isOfStart ∈ uw := uw_mem 690 (by decide +kernel) (by decide +kernel)
theorem w691 : Cond.code yX10_isOfStart cX10_isOfStart 1 (some .boolean) ∈ uw := uw_mem 691 (by decide +kernel) (by decide +kernel)
theorem w692 : Cond.methodLink RX10 272 yX10_setPoint ∈ uw := uw_mem 692 (by decide +kernel) (by decide +kernel)
theorem w694 : Cond.instanceMethod yX10_setPoint ∈ uw := uw_mem 694 (by decide +kernel) (by decide +kernel)
theorem w695 : Cond.code yX10_setPoint cX10_setPoint 4 none ∈ uw := uw_mem 695 (by decide +kernel) (by decide +kernel)
theorem w696 : Cond.methodLink RL 110 yX10_point ∈ uw := uw_mem 696 (by decide +kernel) (by decide +kernel)
theorem w697 : Cond.instanceMethod yX10_point ∈ uw := uw_mem 697 (by decide +kernel) (by decide +kernel)
theorem w698 : Cond.selects RX10 yX10_point yX10_point ∈ uw := uw_mem 698 (by decide +kernel) (by decide +kernel)
theorem w699 : Cond.code yX10_point cX10_point 3 (some .long) ∈ uw := uw_mem 699 (by decide +kernel) (by decide +kernel)
theorem w700 : Cond.methodLink RL 114 yX10_round ∈ uw := uw_mem 700 (by decide +kernel) (by decide +kernel)
theorem w701 : Cond.instanceMethod yX10_round ∈ uw := uw_mem 701 (by decide +kernel) (by decide +kernel)
theorem w702 : Cond.selects RX10 yX10_round yX10_round ∈ uw := uw_mem 702 (by decide +kernel) (by decide +kernel)
theorem w703 : Cond.code yX10_round cX10_round 2 (some .int) ∈ uw := uw_mem 703 (by decide +kernel) (by decide +kernel)
theorem w704 : Cond.methodLink RX10 286 yX10_roundOfTrail ∈ uw := uw_mem 704 (by decide +kernel) (by decide +kernel)
theorem w706 : Cond.instanceMethod yX10_roundOfTrail ∈ uw := uw_mem 706 (by decide +kernel) (by decide +kernel)
theorem w707 : Cond.code yX10_roundOfTrail cX10_roundOfTrail 4 (some .int) ∈ uw := uw_mem 707 (by decide +kernel) (by decide +kernel)
theorem w708 : Cond.methodLink RL 118 yX10_still ∈ uw := uw_mem 708 (by decide +kernel) (by decide +kernel)
theorem w709 : Cond.instanceMethod yX10_still ∈ uw := uw_mem 709 (by decide +kernel) (by decide +kernel)
theorem w710 : Cond.selects RX10 yX10_still yX10_still ∈ uw := uw_mem 710 (by decide +kernel) (by decide +kernel)
theorem w711 : Cond.code yX10_still cX10_still 6 (some .int) ∈ uw := uw_mem 711 (by decide +kernel) (by decide +kernel)
theorem w712 : Cond.methodLink RX10 289 yX7_move ∈ uw := uw_mem 712 (by decide +kernel) (by decide +kernel)
theorem w713 : Cond.methodLink RL 122 yX10_seed ∈ uw := uw_mem 713 (by decide +kernel) (by decide +kernel)
theorem w714 : Cond.instanceMethod yX10_seed ∈ uw := uw_mem 714 (by decide +kernel) (by decide +kernel)
theorem w715 : Cond.selects RX10 yX10_seed yX10_seed ∈ uw := uw_mem 715 (by decide +kernel) (by decide +kernel)
theorem w716 : Cond.code yX10_seed cX10_seed 3 (some .int) ∈ uw := uw_mem 716 (by decide +kernel) (by decide +kernel)
theorem w717 : Cond.methodLink RL 126 yX10_lot ∈ uw := uw_mem 717 (by decide +kernel) (by decide +kernel)
theorem w718 : Cond.instanceMethod yX10_lot ∈ uw := uw_mem 718 (by decide +kernel) (by decide +kernel)
theorem w719 : Cond.selects RX10 yX10_lot yX10_lot ∈ uw := uw_mem 719 (by decide +kernel) (by decide +kernel)
theorem w720 : Cond.code yX10_lot cX10_lot 6 (some .int) ∈ uw := uw_mem 720 (by decide +kernel) (by decide +kernel)
theorem w721 : Cond.methodLink RX10 300 yX5_draw ∈ uw := uw_mem 721 (by decide +kernel) (by decide +kernel)
theorem w722 : Cond.instanceMethod yX5_draw ∈ uw := uw_mem 722 (by decide +kernel) (by decide +kernel)
theorem w723 : Cond.selects RX5 yX5_draw yX5_draw ∈ uw := uw_mem 723 (by decide +kernel) (by decide +kernel)
theorem w724 : Cond.code yX5_draw cX5_draw 1 (some .int) ∈ uw := uw_mem 724 (by decide +kernel) (by decide +kernel)
theorem w725 : Cond.constant RX5 35 (1103515245) ∈ uw := uw_mem 725 (by decide +kernel) (by decide +kernel)
theorem w726 : Cond.methodLink RL 130 yX10_sheet ∈ uw := uw_mem 726 (by decide +kernel) (by decide +kernel)
theorem w727 : Cond.instanceMethod yX10_sheet ∈ uw := uw_mem 727 (by decide +kernel) (by decide +kernel)
theorem w728 : Cond.selects RX10 yX10_sheet yX10_sheet ∈ uw := uw_mem 728 (by decide +kernel) (by decide +kernel)
theorem w729 : Cond.code yX10_sheet cX10_sheet 4 (some .int) ∈ uw := uw_mem 729 (by decide +kernel) (by decide +kernel)
theorem w730 : Cond.methodLink RX10 306 yX10_isSort ∈ uw := uw_mem 730 (by decide +kernel) (by decide +kernel)
theorem w731 : Cond.static yX10_isSort ∈ uw := uw_mem 731 (by decide +kernel) (by decide +kernel)
theorem w732 : Cond.code yX10_isSort cX10_isSort 1 (some .boolean) ∈ uw := uw_mem 732 (by decide +kernel) (by decide +kernel)
theorem w733 : Cond.methodLink RX10 309 yX6_become ∈ uw := uw_mem 733 (by decide +kernel) (by decide +kernel)
theorem w734 : Cond.instanceMethod yX6_become ∈ uw := uw_mem 734 (by decide +kernel) (by decide +kernel)
theorem w735 : Cond.selects RX6 yX6_become yX6_become ∈ uw := uw_mem 735 (by decide +kernel) (by decide +kernel)
theorem w736 : Cond.code yX6_become cX6_become 3 none ∈ uw := uw_mem 736 (by decide +kernel) (by decide +kernel)
theorem w737 : Cond.methodLink RX6 22 yJ7_fill_d0a16 ∈ uw := uw_mem 737 (by decide +kernel) (by decide +kernel)
theorem w738 : Cond.methodLink RL 134 yX10_put ∈ uw := uw_mem 738 (by decide +kernel) (by decide +kernel)
theorem w739 : Cond.instanceMethod yX10_put ∈ uw := uw_mem 739 (by decide +kernel) (by decide +kernel)
theorem w740 : Cond.selects RX10 yX10_put yX10_put ∈ uw := uw_mem 740 (by decide +kernel) (by decide +kernel)
theorem w741 : Cond.code yX10_put cX10_put 6 (some .int) ∈ uw := uw_mem 741 (by decide +kernel) (by decide +kernel)
theorem w742 : Cond.methodLink RX10 318 yX6_write ∈ uw := uw_mem 742 (by decide +kernel) (by decide +kernel)
theorem w743 : Cond.instanceMethod yX6_write ∈ uw := uw_mem 743 (by decide +kernel) (by decide +kernel)
theorem w744 : Cond.selects RX6 yX6_write yX6_write ∈ uw := uw_mem 744 (by decide +kernel) (by decide +kernel)
theorem w745 : Cond.code yX6_write cX6_write 4 none ∈ uw := uw_mem 745 (by decide +kernel) (by decide +kernel)
theorem w746 : Cond.methodLink RL 139 yX10_item ∈ uw := uw_mem 746 (by decide +kernel) (by decide +kernel)
theorem w747 : Cond.instanceMethod yX10_item ∈ uw := uw_mem 747 (by decide +kernel) (by decide +kernel)
theorem w748 : Cond.selects RX10 yX10_item yX10_item ∈ uw := uw_mem 748 (by decide +kernel) (by decide +kernel)
theorem w749 : Cond.code yX10_item cX10_item 5 (some .int) ∈ uw := uw_mem 749 (by decide +kernel) (by decide +kernel)
theorem w750 : Cond.methodLink RL 143 yX10_copy ∈ uw := uw_mem 750 (by decide +kernel) (by decide +kernel)
theorem w751 : Cond.instanceMethod yX10_copy ∈ uw := uw_mem 751 (by decide +kernel) (by decide +kernel)
theorem w752 : Cond.selects RX10 yX10_copy yX10_copy ∈ uw := uw_mem 752 (by decide +kernel) (by decide +kernel)
theorem w753 : Cond.code yX10_copy cX10_copy 8 (some .int) ∈ uw := uw_mem 753 (by decide +kernel) (by decide +kernel)
theorem w754 : Cond.methodLink RL 148 yX10_lay ∈ uw := uw_mem 754 (by decide +kernel) (by decide +kernel)
theorem w755 : Cond.instanceMethod yX10_lay ∈ uw := uw_mem 755 (by decide +kernel) (by decide +kernel)
theorem w756 : Cond.selects RX10 yX10_lay yX10_lay ∈ uw := uw_mem 756 (by decide +kernel) (by decide +kernel)
theorem w757 : Cond.code yX10_lay cX10_lay 5 (some .int) ∈ uw := uw_mem 757 (by decide +kernel) (by decide +kernel)
theorem w758 : Cond.methodLink RL 152 yX10_take ∈ uw := uw_mem 758 (by decide +kernel) (by decide +kernel)
theorem w759 : Cond.instanceMethod yX10_take ∈ uw := uw_mem 759 (by decide +kernel) (by decide +kernel)
theorem w760 : Cond.selects RX10 yX10_take yX10_take ∈ uw := uw_mem 760 (by decide +kernel) (by decide +kernel)
theorem w761 : Cond.code yX10_take cX10_take 4 (some .int) ∈ uw := uw_mem 761 (by decide +kernel) (by decide +kernel)
theorem w762 : Cond.methodLink RX10 325 yX7_hasWholeInverse ∈ uw := uw_mem 762 (by decide +kernel) (by decide +kernel)
theorem w763 : Cond.methodLink RL 156 yX10_many ∈ uw := uw_mem 763 (by decide +kernel) (by decide +kernel)
theorem w764 : Cond.instanceMethod yX10_many ∈ uw := uw_mem 764 (by decide +kernel) (by decide +kernel)
theorem w765 : Cond.selects RX10 yX10_many yX10_many ∈ uw := uw_mem 765 (by decide +kernel) (by decide +kernel)
theorem w766 : Cond.code yX10_many cX10_many 2 (some .int) ∈ uw := uw_mem 766 (by decide +kernel) (by decide +kernel)
theorem w767 : Cond.methodLink RL 160 yX10_keep ∈ uw := uw_mem 767 (by decide +kernel) (by decide +kernel)
theorem w768 : Cond.instanceMethod yX10_keep ∈ uw := uw_mem 768 (by decide +kernel) (by decide +kernel)
theorem w769 : Cond.selects RX10 yX10_keep yX10_keep ∈ uw := uw_mem 769 (by decide +kernel) (by decide +kernel)
theorem w770 : Cond.code yX10_keep cX10_keep 1 (some .int) ∈ uw := uw_mem 770 (by decide +kernel) (by decide +kernel)
theorem w771 : Cond.methodLink RX10 329 yX5_become ∈ uw := uw_mem 771 (by decide +kernel) (by decide +kernel)
theorem w772 : Cond.instanceMethod yX5_become ∈ uw := uw_mem 772 (by decide +kernel) (by decide +kernel)
theorem w773 : Cond.selects RX5 yX5_become yX5_become ∈ uw := uw_mem 773 (by decide +kernel) (by decide +kernel)
theorem w774 : Cond.code yX5_become cX5_become 2 none ∈ uw := uw_mem 774 (by decide +kernel) (by decide +kernel)
theorem w775 : Cond.methodLink RL 164 yX10_again ∈ uw := uw_mem 775 (by decide +kernel) (by decide +kernel)
theorem w776 : Cond.instanceMethod yX10_again ∈ uw := uw_mem 776 (by decide +kernel) (by decide +kernel)
theorem w777 : Cond.selects RX10 yX10_again yX10_again ∈ uw := uw_mem 777 (by decide +kernel) (by decide +kernel)
theorem w778 : Cond.code yX10_again cX10_again 1 (some .int) ∈ uw := uw_mem 778 (by decide +kernel) (by decide +kernel)
theorem w779 : Cond.classLink RL 10 RX11 ∈ uw := uw_mem 779 (by decide +kernel) (by decide +kernel)
theorem w780 : Cond.instantiable RX11 36 ∈ uw := uw_mem 780 (by decide +kernel) (by decide +kernel)
theorem w781 : Cond.methodLink RL 12 yX11_init ∈ uw := uw_mem 781 (by decide +kernel) (by decide +kernel)
theorem w782 : Cond.instanceMethod yX11_init ∈ uw := uw_mem 782 (by decide +kernel) (by decide +kernel)
theorem w783 : Cond.code yX11_init cX11_init 1 none ∈ uw := uw_mem 783 (by decide +kernel) (by decide +kernel)
theorem w784 : Cond.methodLink RX11 1 objectInit ∈ uw := uw_mem 784 (by decide +kernel) (by decide +kernel)
theorem w785 : Cond.fieldLink RX11 7 "FiniteMatricesModel" "d" "I" ∈ uw := uw_mem 785 (by decide +kernel) (by decide +kernel)
theorem w786 : Cond.fieldLink RX11 85 "FiniteMatricesModel" "many" "I" ∈ uw := uw_mem 786 (by decide +kernel) (by decide +kernel)
theorem w787 : Cond.fieldLink RX11 13 "FiniteMatricesModel" "z" "I" ∈ uw := uw_mem 787 (by decide +kernel) (by decide +kernel)
theorem w788 : Cond.fieldLink RX11 297 "FiniteMatricesModel" "keptD" "I" ∈ uw := uw_mem 788 (by decide +kernel) (by decide +kernel)
theorem w789 : Cond.fieldLink RX11 300 "FiniteMatricesModel" "keptMany" "I" ∈ uw := uw_mem 789 (by decide +kernel) (by decide +kernel)
theorem w790 : Cond.fieldLink RX11 303 "FiniteMatricesModel" "keptZ" "I" ∈ uw := uw_mem 790 (by decide +kernel) (by decide +kernel)
theorem w791 : Cond.fieldLink RX11 16 "FiniteMatricesModel" "gens" "[I" ∈ uw := uw_mem 791 (by decide +kernel) (by decide +kernel)
theorem w792 : Cond.fieldLink RX11 20 "FiniteMatricesModel" "keptGens" "[I" ∈ uw := uw_mem 792 (by decide +kernel) (by decide +kernel)
theorem w793 : Cond.fieldLink RX11 306 "FiniteMatricesModel" "isKept" "Z" ∈ uw := uw_mem 793 (by decide +kernel) (by decide +kernel)
theorem w794 : Cond.fieldLink RX11 98 "FiniteMatricesModel" "isListed" "Z" ∈ uw := uw_mem 794 (by decide +kernel) (by decide +kernel)
theorem w795 : Cond.fieldLink RX11 23 "FiniteMatricesModel" "made" "[J" ∈ uw := uw_mem 795 (by decide +kernel) (by decide +kernel)
theorem w796 : Cond.fieldLink RX11 27 "FiniteMatricesModel" "one" "[J" ∈ uw := uw_mem 796 (by decide +kernel) (by decide +kernel)
theorem w797 : Cond.fieldLink RX11 30 "FiniteMatricesModel" "two" "[J" ∈ uw := uw_mem 797 (by decide +kernel) (by decide +kernel)
theorem w798 : Cond.fieldLink RX11 33 "FiniteMatricesModel" "three" "[J" ∈ uw := uw_mem 798 (by decide +kernel) (by decide +kernel)
theorem w799 : Cond.fieldLink RX11 36 "FiniteMatricesModel" "poly" "[J" ∈ uw := uw_mem 799 (by decide +kernel) (by decide +kernel)
theorem w800 : Cond.fieldLink RX11 39 "FiniteMatricesModel" "tape" "[I" ∈ uw := uw_mem 800 (by decide +kernel) (by decide +kernel)
theorem w801 : Cond.fieldLink RX11 42 "FiniteMatricesModel" "told" "[I" ∈ uw := uw_mem 801 (by decide +kernel) (by decide +kernel)
theorem w802 : Cond.fieldLink RX11 171 "FiniteMatricesModel" "taped" "I" ∈ uw := uw_mem 802 (by decide +kernel) (by decide +kernel)
theorem w803 : Cond.fieldLink RX11 176 "FiniteMatricesModel" "at" "I" ∈ uw := uw_mem 803 (by decide +kernel) (by decide +kernel)
theorem w804 : Cond.fieldLink RX11 190 "FiniteMatricesModel" "toldMany" "I" ∈ uw := uw_mem 804 (by decide +kernel) (by decide +kernel)
theorem w805 : Cond.fieldLink RX11 45 "FiniteMatricesModel" "list" "[J" ∈ uw := uw_mem 805 (by decide +kernel) (by decide +kernel)
theorem w806 : Cond.fieldLink RX11 48 "FiniteMatricesModel" "cameFrom" "[I" ∈ uw := uw_mem 806 (by decide +kernel) (by decide +kernel)
theorem w807 : Cond.fieldLink RX11 51 "FiniteMatricesModel" "cameBy" "[I" ∈ uw := uw_mem 807 (by decide +kernel) (by decide +kernel)
theorem w808 : Cond.fieldLink RX11 54 "FiniteMatricesModel" "howLong" "[I" ∈ uw := uw_mem 808 (by decide +kernel) (by decide +kernel)
theorem w809 : Cond.fieldLink RX11 202 "FiniteMatricesModel" "listMany" "I" ∈ uw := uw_mem 809 (by decide +kernel) (by decide +kernel)
theorem w810 : Cond.fieldLink RX11 216 "FiniteMatricesModel" "isWhole" "Z" ∈ uw := uw_mem 810 (by decide +kernel) (by decide +kernel)
theorem w811 : Cond.fieldLink RX11 57 "FiniteMatricesModel" "images" "[I" ∈ uw := uw_mem 811 (by decide +kernel) (by decide +kernel)
theorem w812 : Cond.fieldLink RX11 60 "FiniteMatricesModel" "orbit" "[J" ∈ uw := uw_mem 812 (by decide +kernel) (by decide +kernel)
theorem w813 : Cond.fieldLink RX11 63 "FiniteMatricesModel" "goesTo" "[I" ∈ uw := uw_mem 813 (by decide +kernel) (by decide +kernel)
theorem w814 : Cond.fieldLink RX11 66 "FiniteMatricesModel" "places" "[I" ∈ uw := uw_mem 814 (by decide +kernel) (by decide +kernel)
theorem w815 : Cond.fieldLink RX11 102 "FiniteMatricesModel" "orbitMany" "I" ∈ uw := uw_mem 815 (by decide +kernel) (by decide +kernel)
theorem w816 : Cond.fieldLink RX11 275 "FiniteMatricesModel" "isClosed" "Z" ∈ uw := uw_mem 816 (by decide +kernel) (by decide +kernel)
theorem w817 : Cond.fieldLink RX11 69 "FiniteMatricesModel" "sorts" "[I" ∈ uw := uw_mem 817 (by decide +kernel) (by decide +kernel)
theorem w818 : Cond.fieldLink RX11 72 "FiniteMatricesModel" "lengths" "[I" ∈ uw := uw_mem 818 (by decide +kernel) (by decide +kernel)
theorem w819 : Cond.fieldLink RX11 75 "FiniteMatricesModel" "cells" "[J" ∈ uw := uw_mem 819 (by decide +kernel) (by decide +kernel)
theorem w820 : Cond.fieldLink RX11 78 "FiniteMatricesModel" "moved" "[J" ∈ uw := uw_mem 820 (by decide +kernel) (by decide +kernel)
theorem w894 : Cond.methodLink RL 17 yX11_size ∈ uw := uw_mem 894 (by decide +kernel) (by decide +kernel)
theorem w895 : Cond.instanceMethod yX11_size ∈ uw := uw_mem 895 (by decide +kernel) (by decide +kernel)
theorem w896 : Cond.selects RX11 yX11_size yX11_size ∈ uw := uw_mem 896 (by decide +kernel) (by decide +kernel)
theorem w897 : Cond.code yX11_size cX11_size 3 (some .int) ∈ uw := uw_mem 897 (by decide +kernel) (by decide +kernel)
theorem w898 : Cond.constantLong RX11 105 (3) ∈ uw := uw_mem 898 (by decide +kernel) (by decide +kernel)
theorem w899 : Cond.methodLink RX11 81 yX11_in ∈ uw := uw_mem 899 (by decide +kernel) (by decide +kernel)
theorem w900 : Cond.static yX11_in ∈ uw := uw_mem 900 (by decide +kernel) (by decide +kernel)
theorem w901 : Cond.code yX11_in cX11_in 6 (some .boolean) ∈ uw := uw_mem 901 (by decide +kernel) (by decide +kernel)
theorem w902 : Cond.methodLink RL 22 yX11_unit ∈ uw := uw_mem 902 (by decide +kernel) (by decide +kernel)
theorem w903 : Cond.instanceMethod yX11_unit ∈ uw := uw_mem 903 (by decide +kernel) (by decide +kernel)
theorem w904 : Cond.selects RX11 yX11_unit yX11_unit ∈ uw := uw_mem 904 (by decide +kernel) (by decide +kernel)
theorem w905 : Cond.code yX11_unit cX11_unit 4 (some .int) ∈ uw := uw_mem 905 (by decide +kernel) (by decide +kernel)
theorem w906 : Cond.methodLink RX11 110 yX11_isPlace ∈ uw := uw_mem 906 (by decide +kernel) (by decide +kernel)
theorem w908 : Cond.instanceMethod yX11_isPlace ∈ uw := uw_mem 908 (by decide +kernel) (by decide +kernel)
theorem w909 : Cond.code yX11_isPlace cX11_isPlace 2 (some .boolean) ∈ uw := uw_mem 909 (by decide +kernel) (by decide +kernel)
theorem w910 : Cond.constantLong RX11 94 (-99) ∈ uw := uw_mem 910 (by decide +kernel) (by decide +kernel)
theorem w911 : Cond.constantLong RX11 96 (99) ∈ uw := uw_mem 911 (by decide +kernel) (by decide +kernel)
theorem w912 : Cond.methodLink RX11 114 yX11_makesUnit ∈ uw := uw_mem 912 (by decide +kernel) (by decide +kernel)
theorem w914 : Cond.instanceMethod yX11_makesUnit ∈ uw := uw_mem 914 (by decide +kernel) (by decide +kernel)
theorem w915 : Cond.code yX11_makesUnit cX11_makesUnit 4 none ∈ uw := uw_mem 915 (by decide +kernel) (by decide +kernel)
theorem w916 : Cond.methodLink RX11 107 yX11_first ∈ uw := uw_mem 916 (by decide +kernel) (by decide +kernel)
theorem w918 : Cond.instanceMethod yX11_first ∈ uw := uw_mem 918 (by decide +kernel) (by decide +kernel)
theorem w919 : Cond.code yX11_first cX11_first 3 none ∈ uw := uw_mem 919 (by decide +kernel) (by decide +kernel)
theorem w920 : Cond.methodLink RX11 90 yX11_clears ∈ uw := uw_mem 920 (by decide +kernel) (by decide +kernel)
theorem w922 : Cond.instanceMethod yX11_clears ∈ uw := uw_mem 922 (by decide +kernel) (by decide +kernel)
theorem w923 : Cond.code yX11_clears cX11_clears 3 none ∈ uw := uw_mem 923 (by decide +kernel) (by decide +kernel)
theorem w924 : Cond.methodLink RX11 118 yX11_comes ∈ uw := uw_mem 924 (by decide +kernel) (by decide +kernel)
theorem w926 : Cond.instanceMethod yX11_comes ∈ uw := uw_mem 926 (by decide +kernel) (by decide +kernel)
theorem w927 : Cond.code yX11_comes cX11_comes 2 (some .int) ∈ uw := uw_mem 927 (by decide +kernel) (by decide +kernel)
theorem w928 : Cond.methodLink RL 26 yX11_made ∈ uw := uw_mem 928 (by decide +kernel) (by decide +kernel)
theorem w929 : Cond.instanceMethod yX11_made ∈ uw := uw_mem 929 (by decide +kernel) (by decide +kernel)
theorem w930 : Cond.selects RX11 yX11_made yX11_made ∈ uw := uw_mem 930 (by decide +kernel) (by decide +kernel)
theorem w931 : Cond.code yX11_made cX11_made 10 (some .int) ∈ uw := uw_mem 931 (by decide +kernel) (by decide +kernel)
theorem w932 : Cond.methodLink RX11 122 yX11_isGen ∈ uw := uw_mem 932 (by decide +kernel) (by decide +kernel)
theorem w934 : Cond.instanceMethod yX11_isGen ∈ uw := uw_mem 934 (by decide +kernel) (by decide +kernel)
theorem w935 : Cond.code yX11_isGen cX11_isGen 2 (some .boolean) ∈ uw := uw_mem 935 (by decide +kernel) (by decide +kernel)
theorem w936 : Cond.methodLink RX11 125 yX11_takes ∈ uw := uw_mem 936 (by decide +kernel) (by decide +kernel)
theorem w938 : Cond.instanceMethod yX11_takes ∈ uw := uw_mem 938 (by decide +kernel) (by decide +kernel)
theorem w939 : Cond.code yX11_takes cX11_takes 4 none ∈ uw := uw_mem 939 (by decide +kernel) (by decide +kernel)
theorem w940 : Cond.methodLink RX11 129 yX11_times ∈ uw := uw_mem 940 (by decide +kernel) (by decide +kernel)
theorem w942 : Cond.instanceMethod yX11_times ∈ uw := uw_mem 942 (by decide +kernel) (by decide +kernel)
theorem w943 : Cond.code yX11_times cX11_times 7 none ∈ uw := uw_mem 943 (by decide +kernel) (by decide +kernel)
theorem w944 : Cond.constantLong RX11 133 (-1) ∈ uw := uw_mem 944 (by decide +kernel) (by decide +kernel)
theorem w945 : Cond.methodLink RX11 135 yX11_without ∈ uw := uw_mem 945 (by decide +kernel) (by decide +kernel)
theorem w947 : Cond.instanceMethod yX11_without ∈ uw := uw_mem 947 (by decide +kernel) (by decide +kernel)
theorem w948 : Cond.code yX11_without cX11_without 8 (some .long) ∈ uw := uw_mem 948 (by decide +kernel) (by decide +kernel)
theorem w949 : Cond.methodLink RX11 139 yX11_det ∈ uw := uw_mem 949 (by decide +kernel) (by decide +kernel)
theorem w951 : Cond.instanceMethod yX11_det ∈ uw := uw_mem 951 (by decide +kernel) (by decide +kernel)
theorem w952 : Cond.code yX11_det cX11_det 2 (some .long) ∈ uw := uw_mem 952 (by decide +kernel) (by decide +kernel)
theorem w953 : Cond.methodLink RX11 143 yX11_isSmall ∈ uw := uw_mem 953 (by decide +kernel) (by decide +kernel)
theorem w955 : Cond.instanceMethod yX11_isSmall ∈ uw := uw_mem 955 (by decide +kernel) (by decide +kernel)
theorem w956 : Cond.code yX11_isSmall cX11_isSmall 4 (some .boolean) ∈ uw := uw_mem 956 (by decide +kernel) (by decide +kernel)
theorem w957 : Cond.methodLink RL 31 yX11_drop ∈ uw := uw_mem 957 (by decide +kernel) (by decide +kernel)
theorem w958 : Cond.instanceMethod yX11_drop ∈ uw := uw_mem 958 (by decide +kernel) (by decide +kernel)
theorem w959 : Cond.selects RX11 yX11_drop yX11_drop ∈ uw := uw_mem 959 (by decide +kernel) (by decide +kernel)
theorem w960 : Cond.code yX11_drop cX11_drop 1 (some .int) ∈ uw := uw_mem 960 (by decide +kernel) (by decide +kernel)
theorem w961 : Cond.methodLink RL 35 yX11_at ∈ uw := uw_mem 961 (by decide +kernel) (by decide +kernel)
theorem w962 : Cond.instanceMethod yX11_at ∈ uw := uw_mem 962 (by decide +kernel) (by decide +kernel)
theorem w963 : Cond.selects RX11 yX11_at yX11_at ∈ uw := uw_mem 963 (by decide +kernel) (by decide +kernel)
theorem w964 : Cond.code yX11_at cX11_at 4 (some .int) ∈ uw := uw_mem 964 (by decide +kernel) (by decide +kernel)
theorem w965 : Cond.methodLink RL 40 yX11_of ∈ uw := uw_mem 965 (by decide +kernel) (by decide +kernel)
theorem w966 : Cond.instanceMethod yX11_of ∈ uw := uw_mem 966 (by decide +kernel) (by decide +kernel)
theorem w967 : Cond.selects RX11 yX11_of yX11_of ∈ uw := uw_mem 967 (by decide +kernel) (by decide +kernel)
theorem w968 : Cond.code yX11_of cX11_of 3 (some .int) ∈ uw := uw_mem 968 (by decide +kernel) (by decide +kernel)
theorem w969 : Cond.methodLink RX11 157 yX11_order ∈ uw := uw_mem 969 (by decide +kernel) (by decide +kernel)
theorem w971 : Cond.instanceMethod yX11_order ∈ uw := uw_mem 971 (by decide +kernel) (by decide +kernel)
theorem w972 : Cond.code yX11_order cX11_order 5 (some .int) ∈ uw := uw_mem 972 (by decide +kernel) (by decide +kernel)
theorem w973 : Cond.methodLink RX11 151 yX11_isFirst ∈ uw := uw_mem 973 (by decide +kernel) (by decide +kernel)
theorem w975 : Cond.instanceMethod yX11_isFirst ∈ uw := uw_mem 975 (by decide +kernel) (by decide +kernel)
theorem w976 : Cond.code yX11_isFirst cX11_isFirst 4 (some .boolean) ∈ uw := uw_mem 976 (by decide +kernel) (by decide +kernel)
theorem w977 : Cond.methodLink RX11 154 yX11_isGreat ∈ uw := uw_mem 977 (by decide +kernel) (by decide +kernel)
theorem w979 : Cond.instanceMethod yX11_isGreat ∈ uw := uw_mem 979 (by decide +kernel) (by decide +kernel)
theorem w980 : Cond.code yX11_isGreat cX11_isGreat 4 (some .boolean) ∈ uw := uw_mem 980 (by decide +kernel) (by decide +kernel)
theorem w981 : Cond.constantLong RX11 147 (-1000000000) ∈ uw := uw_mem 981 (by decide +kernel) (by decide +kernel)
theorem w982 : Cond.constantLong RX11 149 (1000000000) ∈ uw := uw_mem 982 (by decide +kernel) (by decide +kernel)
theorem w983 : Cond.methodLink RL 44 yX11_character ∈ uw := uw_mem 983 (by decide +kernel) (by decide +kernel)
theorem w984 : Cond.instanceMethod yX11_character ∈ uw := uw_mem 984 (by decide +kernel) (by decide +kernel)
theorem w985 : Cond.selects RX11 yX11_character yX11_character ∈ uw := uw_mem 985 (by decide +kernel) (by decide +kernel)
theorem w986 : Cond.code yX11_character cX11_character 3 (some .int) ∈ uw := uw_mem 986 (by decide +kernel) (by decide +kernel)
theorem w987 : Cond.methodLink RX11 160 yX11_finds ∈ uw := uw_mem 987 (by decide +kernel) (by decide +kernel)
theorem w989 : Cond.instanceMethod yX11_finds ∈ uw := uw_mem 989 (by decide +kernel) (by decide +kernel)
theorem w990 : Cond.code yX11_finds cX11_finds 4 none ∈ uw := uw_mem 990 (by decide +kernel) (by decide +kernel)
theorem w991 : Cond.constant RX11 164 (1000000) ∈ uw := uw_mem 991 (by decide +kernel) (by decide +kernel)
theorem w992 : Cond.methodLink RL 48 yX11_factor ∈ uw := uw_mem 992 (by decide +kernel) (by decide +kernel)
theorem w993 : Cond.instanceMethod yX11_factor ∈ uw := uw_mem 993 (by decide +kernel) (by decide +kernel)
theorem w994 : Cond.selects RX11 yX11_factor yX11_factor ∈ uw := uw_mem 994 (by decide +kernel) (by decide +kernel)
theorem w995 : Cond.code yX11_factor cX11_factor 5 (some .int) ∈ uw := uw_mem 995 (by decide +kernel) (by decide +kernel)
theorem w996 : Cond.methodLink RX11 165 yX11_takesOut ∈ uw := uw_mem 996 (by decide +kernel) (by decide +kernel)
theorem w998 : Cond.instanceMethod yX11_takesOut ∈ uw := uw_mem 998 (by decide +kernel) (by decide +kernel)
theorem w999 : Cond.code yX11_takesOut cX11_takesOut 8 (some .boolean) ∈ uw := uw_mem 999 (by decide +kernel) (by decide +kernel)
theorem w1000 : Cond.methodLink RL 55 yX11_feed ∈ uw := uw_mem 1000 (by decide +kernel) (by decide +kernel)
theorem w1001 : Cond.instanceMethod yX11_feed ∈ uw := uw_mem 1001 (by decide +kernel) (by decide +kernel)
theorem w1002 : Cond.selects RX11 yX11_feed yX11_feed ∈ uw := uw_mem 1002 (by decide +kernel) (by decide +kernel)
theorem w1003 : Cond.code yX11_feed cX11_feed 5 (some .int) ∈ uw := uw_mem 1003 (by decide +kernel) (by decide +kernel)
theorem w1004 : Cond.constantLong RX11 169 (8) ∈ uw := uw_mem 1004 (by decide +kernel) (by decide +kernel)
theorem w1005 : Cond.constantLong RX11 174 (255) ∈ uw := uw_mem 1005 (by decide +kernel) (by decide +kernel)
theorem w1006 : Cond.methodLink RL 59 yX11_text ∈ uw := uw_mem 1006 (by decide +kernel) (by decide +kernel)
theorem w1007 : Cond.instanceMethod yX11_text ∈ uw := uw_mem 1007 (by decide +kernel) (by decide +kernel)
theorem w1008 : Cond.selects RX11 yX11_text yX11_text ∈ uw := uw_mem 1008 (by decide +kernel) (by decide +kernel)
theorem w1009 : Cond.code yX11_text cX11_text 4 (some .int) ∈ uw := uw_mem 1009 (by decide +kernel) (by decide +kernel)
theorem w1010 : Cond.methodLink RX11 183 yX11_here ∈ uw := uw_mem 1010 (by decide +kernel) (by decide +kernel)
theorem w1012 : Cond.instanceMethod yX11_here ∈ uw := uw_mem 1012 (by decide +kernel) (by decide +kernel)
theorem w1013 : Cond.code yX11_here cX11_here 1 (some .int) ∈ uw := uw_mem 1013 (by decide +kernel) (by decide +kernel)
theorem w1014 : Cond.methodLink RX11 199 yX11_readsMatrix ∈ uw := uw_mem 1014 (by decide +kernel) (by decide +kernel)
theorem w1016 : Cond.instanceMethod yX11_readsMatrix ∈ uw := uw_mem 1016 (by decide +kernel) (by decide +kernel)
theorem w1017 : Cond.code yX11_readsMatrix cX11_readsMatrix 3 (some .boolean) ∈ uw := uw_mem 1017 (by decide +kernel) (by decide +kernel)
theorem w1018 : Cond.methodLink RX11 193 yX11_readsSign ∈ uw := uw_mem 1018 (by decide +kernel) (by decide +kernel)
theorem w1020 : Cond.instanceMethod yX11_readsSign ∈ uw := uw_mem 1020 (by decide +kernel) (by decide +kernel)
theorem w1021 : Cond.code yX11_readsSign cX11_readsSign 2 (some .boolean) ∈ uw := uw_mem 1021 (by decide +kernel) (by decide +kernel)
theorem w1022 : Cond.methodLink RX11 196 yX11_readsNumber ∈ uw := uw_mem 1022 (by decide +kernel) (by decide +kernel)
theorem w1024 : Cond.instanceMethod yX11_readsNumber ∈ uw := uw_mem 1024 (by decide +kernel) (by decide +kernel)
theorem w1025 : Cond.code yX11_readsNumber cX11_readsNumber 5 (some .boolean) ∈ uw := uw_mem 1025 (by decide +kernel) (by decide +kernel)
theorem w1026 : Cond.methodLink RX11 186 yX11_isDigit ∈ uw := uw_mem 1026 (by decide +kernel) (by decide +kernel)
theorem w1028 : Cond.instanceMethod yX11_isDigit ∈ uw := uw_mem 1028 (by decide +kernel) (by decide +kernel)
theorem w1029 : Cond.code yX11_isDigit cX11_isDigit 1 (some .boolean) ∈ uw := uw_mem 1029 (by decide +kernel) (by decide +kernel)
theorem w1030 : Cond.constantLong RX11 179 (48) ∈ uw := uw_mem 1030 (by decide +kernel) (by decide +kernel)
theorem w1031 : Cond.constantLong RX11 181 (57) ∈ uw := uw_mem 1031 (by decide +kernel) (by decide +kernel)
theorem w1032 : Cond.methodLink RL 63 yX11_listed ∈ uw := uw_mem 1032 (by decide +kernel) (by decide +kernel)
theorem w1033 : Cond.instanceMethod yX11_listed ∈ uw := uw_mem 1033 (by decide +kernel) (by decide +kernel)
theorem w1034 : Cond.selects RX11 yX11_listed yX11_listed ∈ uw := uw_mem 1034 (by decide +kernel) (by decide +kernel)
theorem w1035 : Cond.code yX11_listed cX11_listed 1 (some .int) ∈ uw := uw_mem 1035 (by decide +kernel) (by decide +kernel)
theorem w1036 : Cond.methodLink RX11 219 yX11_findList ∈ uw := uw_mem 1036 (by decide +kernel) (by decide +kernel)
theorem w1038 : Cond.instanceMethod yX11_findList ∈ uw := uw_mem 1038 (by decide +kernel) (by decide +kernel)
theorem w1039 : Cond.code yX11_findList cX11_findList 3 none ∈ uw := uw_mem 1039 (by decide +kernel) (by decide +kernel)
theorem w1040 : Cond.methodLink RX11 205 yX11_lists ∈ uw := uw_mem 1040 (by decide +kernel) (by decide +kernel)
theorem w1042 : Cond.instanceMethod yX11_lists ∈ uw := uw_mem 1042 (by decide +kernel) (by decide +kernel)
theorem w1043 : Cond.code yX11_lists cX11_lists 5 none ∈ uw := uw_mem 1043 (by decide +kernel) (by decide +kernel)
theorem w1044 : Cond.methodLink RX11 209 yX11_takesElement ∈ uw := uw_mem 1044 (by decide +kernel) (by decide +kernel)
theorem w1046 : Cond.instanceMethod yX11_takesElement ∈ uw := uw_mem 1046 (by decide +kernel) (by decide +kernel)
theorem w1047 : Cond.code yX11_takesElement cX11_takesElement 4 none ∈ uw := uw_mem 1047 (by decide +kernel) (by decide +kernel)
theorem w1048 : Cond.methodLink RX11 212 yX11_placeOf ∈ uw := uw_mem 1048 (by decide +kernel) (by decide +kernel)
theorem w1050 : Cond.instanceMethod yX11_placeOf ∈ uw := uw_mem 1050 (by decide +kernel) (by decide +kernel)
theorem w1051 : Cond.code yX11_placeOf cX11_placeOf 5 (some .int) ∈ uw := uw_mem 1051 (by decide +kernel) (by decide +kernel)
theorem w1052 : Cond.methodLink RL 67 yX11_whole ∈ uw := uw_mem 1052 (by decide +kernel) (by decide +kernel)
theorem w1053 : Cond.instanceMethod yX11_whole ∈ uw := uw_mem 1053 (by decide +kernel) (by decide +kernel)
theorem w1054 : Cond.selects RX11 yX11_whole yX11_whole ∈ uw := uw_mem 1054 (by decide +kernel) (by decide +kernel)
theorem w1055 : Cond.code yX11_whole cX11_whole 1 (some .int) ∈ uw := uw_mem 1055 (by decide +kernel) (by decide +kernel)
theorem w1056 : Cond.methodLink RL 72 yX11_element ∈ uw := uw_mem 1056 (by decide +kernel) (by decide +kernel)
theorem w1057 : Cond.instanceMethod yX11_element ∈ uw := uw_mem 1057 (by decide +kernel) (by decide +kernel)
theorem w1058 : Cond.selects RX11 yX11_element yX11_element ∈ uw := uw_mem 1058 (by decide +kernel) (by decide +kernel)
theorem w1059 : Cond.code yX11_element cX11_element 4 (some .long) ∈ uw := uw_mem 1059 (by decide +kernel) (by decide +kernel)
theorem w1060 : Cond.methodLink RX11 222 yX11_far ∈ uw := uw_mem 1060 (by decide +kernel) (by decide +kernel)
theorem w1061 : Cond.static yX11_far ∈ uw := uw_mem 1061 (by decide +kernel) (by decide +kernel)
theorem w1062 : Cond.code yX11_far cX11_far 1 (some .long) ∈ uw := uw_mem 1062 (by decide +kernel) (by decide +kernel)
theorem w1063 : Cond.constantLong RX11 88 (-4000000000000000000) ∈ uw := uw_mem 1063 (by decide +kernel) (by decide +kernel)
theorem w1064 : Cond.methodLink RL 76 yX11_about ∈ uw := uw_mem 1064 (by decide +kernel) (by decide +kernel)
theorem w1065 : Cond.instanceMethod yX11_about ∈ uw := uw_mem 1065 (by decide +kernel) (by decide +kernel)
theorem w1066 : Cond.selects RX11 yX11_about yX11_about ∈ uw := uw_mem 1066 (by decide +kernel) (by decide +kernel)
theorem w1067 : Cond.code yX11_about cX11_about 3 (some .int) ∈ uw := uw_mem 1067 (by decide +kernel) (by decide +kernel)
theorem w1068 : Cond.methodLink RX11 226 yX11_orderOf ∈ uw := uw_mem 1068 (by decide +kernel) (by decide +kernel)
theorem w1070 : Cond.instanceMethod yX11_orderOf ∈ uw := uw_mem 1070 (by decide +kernel) (by decide +kernel)
theorem w1071 : Cond.code yX11_orderOf cX11_orderOf 2 (some .int) ∈ uw := uw_mem 1071 (by decide +kernel) (by decide +kernel)
theorem w1072 : Cond.methodLink RL 80 yX11_witness ∈ uw := uw_mem 1072 (by decide +kernel) (by decide +kernel)
theorem w1073 : Cond.instanceMethod yX11_witness ∈ uw := uw_mem 1073 (by decide +kernel) (by decide +kernel)
theorem w1074 : Cond.selects RX11 yX11_witness yX11_witness ∈ uw := uw_mem 1074 (by decide +kernel) (by decide +kernel)
theorem w1075 : Cond.code yX11_witness cX11_witness 2 (some .int) ∈ uw := uw_mem 1075 (by decide +kernel) (by decide +kernel)
theorem w1076 : Cond.methodLink RL 84 yX11_found ∈ uw := uw_mem 1076 (by decide +kernel) (by decide +kernel)
theorem w1077 : Cond.instanceMethod yX11_found ∈ uw := uw_mem 1077 (by decide +kernel) (by decide +kernel)
theorem w1078 : Cond.selects RX11 yX11_found yX11_found ∈ uw := uw_mem 1078 (by decide +kernel) (by decide +kernel)
theorem w1079 : Cond.code yX11_found cX11_found 7 (some .int) ∈ uw := uw_mem 1079 (by decide +kernel) (by decide +kernel)
theorem w1080 : Cond.methodLink RL 88 yX11_middle ∈ uw := uw_mem 1080 (by decide +kernel) (by decide +kernel)
theorem w1081 : Cond.instanceMethod yX11_middle ∈ uw := uw_mem 1081 (by decide +kernel) (by decide +kernel)
theorem w1082 : Cond.selects RX11 yX11_middle yX11_middle ∈ uw := uw_mem 1082 (by decide +kernel) (by decide +kernel)
theorem w1083 : Cond.code yX11_middle cX11_middle 6 (some .int) ∈ uw := uw_mem 1083 (by decide +kernel) (by decide +kernel)
theorem w1084 : Cond.methodLink RL 93 yX11_form ∈ uw := uw_mem 1084 (by decide +kernel) (by decide +kernel)
theorem w1085 : Cond.instanceMethod yX11_form ∈ uw := uw_mem 1085 (by decide +kernel) (by decide +kernel)
theorem w1086 : Cond.selects RX11 yX11_form yX11_form ∈ uw := uw_mem 1086 (by decide +kernel) (by decide +kernel)
theorem w1087 : Cond.code yX11_form cX11_form 6 (some .long) ∈ uw := uw_mem 1087 (by decide +kernel) (by decide +kernel)
theorem w1088 : Cond.methodLink RX11 230 yX11_findForm ∈ uw := uw_mem 1088 (by decide +kernel) (by decide +kernel)
theorem w1090 : Cond.instanceMethod yX11_findForm ∈ uw := uw_mem 1090 (by decide +kernel) (by decide +kernel)
theorem w1091 : Cond.code yX11_findForm cX11_findForm 9 (some .boolean) ∈ uw := uw_mem 1091 (by decide +kernel) (by decide +kernel)
theorem w1092 : Cond.methodLink RX11 233 yX11_common ∈ uw := uw_mem 1092 (by decide +kernel) (by decide +kernel)
theorem w1093 : Cond.static yX11_common ∈ uw := uw_mem 1093 (by decide +kernel) (by decide +kernel)
theorem w1094 : Cond.code yX11_common cX11_common 10 (some .long) ∈ uw := uw_mem 1094 (by decide +kernel) (by decide +kernel)
theorem w1095 : Cond.methodLink RL 97 yX11_keeps ∈ uw := uw_mem 1095 (by decide +kernel) (by decide +kernel)
theorem w1096 : Cond.instanceMethod yX11_keeps ∈ uw := uw_mem 1096 (by decide +kernel) (by decide +kernel)
theorem w1097 : Cond.selects RX11 yX11_keeps yX11_keeps ∈ uw := uw_mem 1097 (by decide +kernel) (by decide +kernel)
theorem w1098 : Cond.code yX11_keeps cX11_keeps 5 (some .int) ∈ uw := uw_mem 1098 (by decide +kernel) (by decide +kernel)
theorem w1099 : Cond.methodLink RX11 237 yX11_isSheet ∈ uw := uw_mem 1099 (by decide +kernel) (by decide +kernel)
theorem w1100 : Cond.static yX11_isSheet ∈ uw := uw_mem 1100 (by decide +kernel) (by decide +kernel)
theorem w1101 : Cond.code yX11_isSheet cX11_isSheet 1 (some .boolean) ∈ uw := uw_mem 1101 (by decide +kernel) (by decide +kernel)
theorem w1102 : Cond.methodLink RX11 240 yX11_isOutside ∈ uw := uw_mem 1102 (by decide +kernel) (by decide +kernel)
theorem w1104 : Cond.instanceMethod yX11_isOutside ∈ uw := uw_mem 1104 (by decide +kernel) (by decide +kernel)
theorem w1105 : Cond.code yX11_isOutside cX11_isOutside 4 (some .boolean) ∈ uw := uw_mem 1105 (by decide +kernel) (by decide +kernel)
theorem w1106 : Cond.constantLong RX11 243 (-1000000) ∈ uw := uw_mem 1106 (by decide +kernel) (by decide +kernel)
theorem w1107 : Cond.constantLong RX11 245 (1000000) ∈ uw := uw_mem 1107 (by decide +kernel) (by decide +kernel)
theorem w1108 : Cond.methodLink RX11 247 yX11_keepsAll ∈ uw := uw_mem 1108 (by decide +kernel) (by decide +kernel)
theorem w1110 : Cond.instanceMethod yX11_keepsAll ∈ uw := uw_mem 1110 (by decide +kernel) (by decide +kernel)
theorem w1111 : Cond.code yX11_keepsAll cX11_keepsAll 6 (some .boolean) ∈ uw := uw_mem 1111 (by decide +kernel) (by decide +kernel)
theorem w1112 : Cond.methodLink RL 101 yX11_image ∈ uw := uw_mem 1112 (by decide +kernel) (by decide +kernel)
theorem w1113 : Cond.instanceMethod yX11_image ∈ uw := uw_mem 1113 (by decide +kernel) (by decide +kernel)
theorem w1114 : Cond.selects RX11 yX11_image yX11_image ∈ uw := uw_mem 1114 (by decide +kernel) (by decide +kernel)
theorem w1115 : Cond.code yX11_image cX11_image 8 (some .int) ∈ uw := uw_mem 1115 (by decide +kernel) (by decide +kernel)
theorem w1116 : Cond.methodLink RX11 250 yX11_isPrime ∈ uw := uw_mem 1116 (by decide +kernel) (by decide +kernel)
theorem w1117 : Cond.static yX11_isPrime ∈ uw := uw_mem 1117 (by decide +kernel) (by decide +kernel)
theorem w1118 : Cond.code yX11_isPrime cX11_isPrime 1 (some .boolean) ∈ uw := uw_mem 1118 (by decide +kernel) (by decide +kernel)
theorem w1119 : Cond.methodLink RX11 253 yX11_told ∈ uw := uw_mem 1119 (by decide +kernel) (by decide +kernel)
theorem w1121 : Cond.instanceMethod yX11_told ∈ uw := uw_mem 1121 (by decide +kernel) (by decide +kernel)
theorem w1122 : Cond.code yX11_told cX11_told 6 (some .int) ∈ uw := uw_mem 1122 (by decide +kernel) (by decide +kernel)
theorem w1123 : Cond.methodLink RX11 256 yX11_untold ∈ uw := uw_mem 1123 (by decide +kernel) (by decide +kernel)
theorem w1125 : Cond.instanceMethod yX11_untold ∈ uw := uw_mem 1125 (by decide +kernel) (by decide +kernel)
theorem w1126 : Cond.code yX11_untold cX11_untold 6 none ∈ uw := uw_mem 1126 (by decide +kernel) (by decide +kernel)
theorem w1127 : Cond.methodLink RL 105 yX11_faithful ∈ uw := uw_mem 1127 (by decide +kernel) (by decide +kernel)
theorem w1128 : Cond.instanceMethod yX11_faithful ∈ uw := uw_mem 1128 (by decide +kernel) (by decide +kernel)
theorem w1129 : Cond.selects RX11 yX11_faithful yX11_faithful ∈ uw := uw_mem 1129 (by decide +kernel) (by decide +kernel)
theorem w1130 : Cond.code yX11_faithful cX11_faithful 5 (some .int) ∈ uw := uw_mem 1130 (by decide +kernel) (by decide +kernel)
theorem w1131 : Cond.methodLink RL 109 yX11_orbit ∈ uw := uw_mem 1131 (by decide +kernel) (by decide +kernel)
theorem w1132 : Cond.instanceMethod yX11_orbit ∈ uw := uw_mem 1132 (by decide +kernel) (by decide +kernel)
theorem w1133 : Cond.selects RX11 yX11_orbit yX11_orbit ∈ uw := uw_mem 1133 (by decide +kernel) (by decide +kernel)
theorem w1134 : Cond.code yX11_orbit cX11_orbit 7 (some .int) ∈ uw := uw_mem 1134 (by decide +kernel) (by decide +kernel)
theorem w1135 : Cond.methodLink RX11 264 yX11_isAsked ∈ uw := uw_mem 1135 (by decide +kernel) (by decide +kernel)
theorem w1136 : Cond.static yX11_isAsked ∈ uw := uw_mem 1136 (by decide +kernel) (by decide +kernel)
theorem w1137 : Cond.code yX11_isAsked cX11_isAsked 3 (some .boolean) ∈ uw := uw_mem 1137 (by decide +kernel) (by decide +kernel)
theorem w1138 : Cond.constantLong RX11 260 (-1000) ∈ uw := uw_mem 1138 (by decide +kernel) (by decide +kernel)
theorem w1139 : Cond.constantLong RX11 262 (1000) ∈ uw := uw_mem 1139 (by decide +kernel) (by decide +kernel)
theorem w1140 : Cond.methodLink RX11 267 yX11_goes ∈ uw := uw_mem 1140 (by decide +kernel) (by decide +kernel)
theorem w1142 : Cond.instanceMethod yX11_goes ∈ uw := uw_mem 1142 (by decide +kernel) (by decide +kernel)
theorem w1143 : Cond.code yX11_goes cX11_goes 5 none ∈ uw := uw_mem 1143 (by decide +kernel) (by decide +kernel)
theorem w1144 : Cond.methodLink RX11 271 yX11_placeIn ∈ uw := uw_mem 1144 (by decide +kernel) (by decide +kernel)
theorem w1146 : Cond.instanceMethod yX11_placeIn ∈ uw := uw_mem 1146 (by decide +kernel) (by decide +kernel)
theorem w1147 : Cond.code yX11_placeIn cX11_placeIn 8 (some .int) ∈ uw := uw_mem 1147 (by decide +kernel) (by decide +kernel)
theorem w1148 : Cond.methodLink RL 113 yX11_point ∈ uw := uw_mem 1148 (by decide +kernel) (by decide +kernel)
theorem w1149 : Cond.instanceMethod yX11_point ∈ uw := uw_mem 1149 (by decide +kernel) (by decide +kernel)
theorem w1150 : Cond.selects RX11 yX11_point yX11_point ∈ uw := uw_mem 1150 (by decide +kernel) (by decide +kernel)
theorem w1151 : Cond.code yX11_point cX11_point 3 (some .long) ∈ uw := uw_mem 1151 (by decide +kernel) (by decide +kernel)
theorem w1152 : Cond.methodLink RL 117 yX11_round ∈ uw := uw_mem 1152 (by decide +kernel) (by decide +kernel)
theorem w1153 : Cond.instanceMethod yX11_round ∈ uw := uw_mem 1153 (by decide +kernel) (by decide +kernel)
theorem w1154 : Cond.selects RX11 yX11_round yX11_round ∈ uw := uw_mem 1154 (by decide +kernel) (by decide +kernel)
theorem w1155 : Cond.code yX11_round cX11_round 2 (some .int) ∈ uw := uw_mem 1155 (by decide +kernel) (by decide +kernel)
theorem w1156 : Cond.constantLong RX11 278 (2) ∈ uw := uw_mem 1156 (by decide +kernel) (by decide +kernel)
theorem w1157 : Cond.methodLink RX11 280 yX11_roundNow ∈ uw := uw_mem 1157 (by decide +kernel) (by decide +kernel)
theorem w1159 : Cond.instanceMethod yX11_roundNow ∈ uw := uw_mem 1159 (by decide +kernel) (by decide +kernel)
theorem w1160 : Cond.code yX11_roundNow cX11_roundNow 8 (some .int) ∈ uw := uw_mem 1160 (by decide +kernel) (by decide +kernel)
theorem w1161 : Cond.methodLink RL 121 yX11_still ∈ uw := uw_mem 1161 (by decide +kernel) (by decide +kernel)
theorem w1162 : Cond.instanceMethod yX11_still ∈ uw := uw_mem 1162 (by decide +kernel) (by decide +kernel)
theorem w1163 : Cond.selects RX11 yX11_still yX11_still ∈ uw := uw_mem 1163 (by decide +kernel) (by decide +kernel)
theorem w1164 : Cond.code yX11_still cX11_still 11 (some .int) ∈ uw := uw_mem 1164 (by decide +kernel) (by decide +kernel)
theorem w1165 : Cond.methodLink RL 125 yX11_seed ∈ uw := uw_mem 1165 (by decide +kernel) (by decide +kernel)
theorem w1166 : Cond.instanceMethod yX11_seed ∈ uw := uw_mem 1166 (by decide +kernel) (by decide +kernel)
theorem w1167 : Cond.selects RX11 yX11_seed yX11_seed ∈ uw := uw_mem 1167 (by decide +kernel) (by decide +kernel)
theorem w1168 : Cond.code yX11_seed cX11_seed 3 (some .int) ∈ uw := uw_mem 1168 (by decide +kernel) (by decide +kernel)
theorem w1169 : Cond.methodLink RL 129 yX11_lot ∈ uw := uw_mem 1169 (by decide +kernel) (by decide +kernel)
theorem w1170 : Cond.instanceMethod yX11_lot ∈ uw := uw_mem 1170 (by decide +kernel) (by decide +kernel)
theorem w1171 : Cond.selects RX11 yX11_lot yX11_lot ∈ uw := uw_mem 1171 (by decide +kernel) (by decide +kernel)
theorem w1172 : Cond.code yX11_lot cX11_lot 7 (some .int) ∈ uw := uw_mem 1172 (by decide +kernel) (by decide +kernel)
theorem w1173 : Cond.constantLong RX11 284 (4) ∈ uw := uw_mem 1173 (by decide +kernel) (by decide +kernel)
theorem w1174 : Cond.methodLink RX11 286 yX11_drawn ∈ uw := uw_mem 1174 (by decide +kernel) (by decide +kernel)
theorem w1176 : Cond.instanceMethod yX11_drawn ∈ uw := uw_mem 1176 (by decide +kernel) (by decide +kernel)
theorem w1177 : Cond.code yX11_drawn cX11_drawn 2 (some .int) ∈ uw := uw_mem 1177 (by decide +kernel) (by decide +kernel)
theorem w1178 : Cond.constant RX11 283 (1103515245) ∈ uw := uw_mem 1178 (by decide +kernel) (by decide +kernel)
theorem w1179 : Cond.methodLink RL 133 yX11_sheet ∈ uw := uw_mem 1179 (by decide +kernel) (by decide +kernel)
theorem w1180 : Cond.instanceMethod yX11_sheet ∈ uw := uw_mem 1180 (by decide +kernel) (by decide +kernel)
theorem w1181 : Cond.selects RX11 yX11_sheet yX11_sheet ∈ uw := uw_mem 1181 (by decide +kernel) (by decide +kernel)
theorem w1182 : Cond.code yX11_sheet cX11_sheet 5 (some .int) ∈ uw := uw_mem 1182 (by decide +kernel) (by decide +kernel)
theorem w1183 : Cond.methodLink RL 138 yX11_put ∈ uw := uw_mem 1183 (by decide +kernel) (by decide +kernel)
theorem w1184 : Cond.instanceMethod yX11_put ∈ uw := uw_mem 1184 (by decide +kernel) (by decide +kernel)
theorem w1185 : Cond.selects RX11 yX11_put yX11_put ∈ uw := uw_mem 1185 (by decide +kernel) (by decide +kernel)
theorem w1186 : Cond.code yX11_put cX11_put 5 (some .int) ∈ uw := uw_mem 1186 (by decide +kernel) (by decide +kernel)
theorem w1187 : Cond.methodLink RX11 289 yX11_cut ∈ uw := uw_mem 1187 (by decide +kernel) (by decide +kernel)
theorem w1188 : Cond.static yX11_cut ∈ uw := uw_mem 1188 (by decide +kernel) (by decide +kernel)
theorem w1189 : Cond.code yX11_cut cX11_cut 3 (some .long) ∈ uw := uw_mem 1189 (by decide +kernel) (by decide +kernel)
theorem w1190 : Cond.methodLink RL 142 yX11_item ∈ uw := uw_mem 1190 (by decide +kernel) (by decide +kernel)
theorem w1191 : Cond.instanceMethod yX11_item ∈ uw := uw_mem 1191 (by decide +kernel) (by decide +kernel)
theorem w1192 : Cond.selects RX11 yX11_item yX11_item ∈ uw := uw_mem 1192 (by decide +kernel) (by decide +kernel)
theorem w1193 : Cond.code yX11_item cX11_item 4 (some .int) ∈ uw := uw_mem 1193 (by decide +kernel) (by decide +kernel)
theorem w1194 : Cond.methodLink RL 147 yX11_copy ∈ uw := uw_mem 1194 (by decide +kernel) (by decide +kernel)
theorem w1195 : Cond.instanceMethod yX11_copy ∈ uw := uw_mem 1195 (by decide +kernel) (by decide +kernel)
theorem w1196 : Cond.selects RX11 yX11_copy yX11_copy ∈ uw := uw_mem 1196 (by decide +kernel) (by decide +kernel)
theorem w1197 : Cond.code yX11_copy cX11_copy 7 (some .int) ∈ uw := uw_mem 1197 (by decide +kernel) (by decide +kernel)
theorem w1198 : Cond.methodLink RL 151 yX11_lay ∈ uw := uw_mem 1198 (by decide +kernel) (by decide +kernel)
theorem w1199 : Cond.instanceMethod yX11_lay ∈ uw := uw_mem 1199 (by decide +kernel) (by decide +kernel)
theorem w1200 : Cond.selects RX11 yX11_lay yX11_lay ∈ uw := uw_mem 1200 (by decide +kernel) (by decide +kernel)
theorem w1201 : Cond.code yX11_lay cX11_lay 6 (some .int) ∈ uw := uw_mem 1201 (by decide +kernel) (by decide +kernel)
theorem w1202 : Cond.methodLink RX11 293 yX11_lacks ∈ uw := uw_mem 1202 (by decide +kernel) (by decide +kernel)
theorem w1204 : Cond.instanceMethod yX11_lacks ∈ uw := uw_mem 1204 (by decide +kernel) (by decide +kernel)
theorem w1205 : Cond.code yX11_lacks cX11_lacks 3 (some .int) ∈ uw := uw_mem 1205 (by decide +kernel) (by decide +kernel)
theorem w1206 : Cond.methodLink RL 155 yX11_take ∈ uw := uw_mem 1206 (by decide +kernel) (by decide +kernel)
theorem w1207 : Cond.instanceMethod yX11_take ∈ uw := uw_mem 1207 (by decide +kernel) (by decide +kernel)
theorem w1208 : Cond.selects RX11 yX11_take yX11_take ∈ uw := uw_mem 1208 (by decide +kernel) (by decide +kernel)
theorem w1209 : Cond.code yX11_take cX11_take 8 (some .int) ∈ uw := uw_mem 1209 (by decide +kernel) (by decide +kernel)
theorem w1210 : Cond.methodLink RL 159 yX11_many ∈ uw := uw_mem 1210 (by decide +kernel) (by decide +kernel)
theorem w1211 : Cond.instanceMethod yX11_many ∈ uw := uw_mem 1211 (by decide +kernel) (by decide +kernel)
theorem w1212 : Cond.selects RX11 yX11_many yX11_many ∈ uw := uw_mem 1212 (by decide +kernel) (by decide +kernel)
theorem w1213 : Cond.code yX11_many cX11_many 2 (some .int) ∈ uw := uw_mem 1213 (by decide +kernel) (by decide +kernel)
theorem w1214 : Cond.methodLink RL 163 yX11_keep ∈ uw := uw_mem 1214 (by decide +kernel) (by decide +kernel)
theorem w1215 : Cond.instanceMethod yX11_keep ∈ uw := uw_mem 1215 (by decide +kernel) (by decide +kernel)
theorem w1216 : Cond.selects RX11 yX11_keep yX11_keep ∈ uw := uw_mem 1216 (by decide +kernel) (by decide +kernel)
theorem w1217 : Cond.code yX11_keep cX11_keep 2 (some .int) ∈ uw := uw_mem 1217 (by decide +kernel) (by decide +kernel)
theorem w1218 : Cond.methodLink RL 167 yX11_again ∈ uw := uw_mem 1218 (by decide +kernel) (by decide +kernel)
theorem w1219 : Cond.instanceMethod yX11_again ∈ uw := uw_mem 1219 (by decide +kernel) (by decide +kernel)
theorem w1220 : Cond.selects RX11 yX11_again yX11_again ∈ uw := uw_mem 1220 (by decide +kernel) (by decide +kernel)
theorem w1221 : Cond.code yX11_again cX11_again 2 (some .int) ∈ uw := uw_mem 1221 (by decide +kernel) (by decide +kernel)
theorem w1222 : Cond.constantLong RL 49 (4294967295) ∈ uw := uw_mem 1222 (by decide +kernel) (by decide +kernel)
theorem hdJ7_fill_53178 : yJ7_fill_53178.cls ≠ "java/lang/invoke/MethodHandle" ∧ yJ7_fill_53178.cls ≠ "java/lang/invoke/VarHandle" ∧ (parseMethodDescriptor yJ7_fill_53178.desc).map (fun d => d.parameters.length) = some 2 := by decide +kernel
theorem hdJ7_fill_d0a16 : yJ7_fill_d0a16.cls ≠ "java/lang/invoke/MethodHandle" ∧ yJ7_fill_d0a16.cls ≠ "java/lang/invoke/VarHandle" ∧ (parseMethodDescriptor yJ7_fill_d0a16.desc).map (fun d => d.parameters.length) = some 2 := by decide +kernel
theorem hdJ9_abs_067f4 : yJ9_abs_067f4.cls ≠ "java/lang/invoke/MethodHandle" ∧ yJ9_abs_067f4.cls ≠ "java/lang/invoke/VarHandle" ∧ (parseMethodDescriptor yJ9_abs_067f4.desc).map (fun d => d.parameters.length) = some 1 := by decide +kernel
theorem hdJ9_floorMod_f86c9 : yJ9_floorMod_f86c9.cls ≠ "java/lang/invoke/MethodHandle" ∧ yJ9_floorMod_f86c9.cls ≠ "java/lang/invoke/VarHandle" ∧ (parseMethodDescriptor yJ9_floorMod_f86c9.desc).map (fun d => d.parameters.length) = some 2 := by decide +kernel
theorem hdJ9_max_f86c9 : yJ9_max_f86c9.cls ≠ "java/lang/invoke/MethodHandle" ∧ yJ9_max_f86c9.cls ≠ "java/lang/invoke/VarHandle" ∧ (parseMethodDescriptor yJ9_max_f86c9.desc).map (fun d => d.parameters.length) = some 2 := by decide +kernel
theorem hdX0_go : yX0_go.cls ≠ "java/lang/invoke/MethodHandle" ∧ yX0_go.cls ≠ "java/lang/invoke/VarHandle" ∧ (parseMethodDescriptor yX0_go.desc).map (fun d => d.parameters.length) = some 4 := by decide +kernel
theorem hdX0_init : yX0_init.cls ≠ "java/lang/invoke/MethodHandle" ∧ yX0_init.cls ≠ "java/lang/invoke/VarHandle" ∧ (parseMethodDescriptor yX0_init.desc).map (fun d => d.parameters.length) = some 1 := by decide +kernel
theorem hdX10_about : yX10_about.cls ≠ "java/lang/invoke/MethodHandle" ∧ yX10_about.cls ≠ "java/lang/invoke/VarHandle" ∧ (parseMethodDescriptor yX10_about.desc).map (fun d => d.parameters.length) = some 2 := by decide +kernel
theorem hdX10_addSquare : yX10_addSquare.cls ≠ "java/lang/invoke/MethodHandle" ∧ yX10_addSquare.cls ≠ "java/lang/invoke/VarHandle" ∧ (parseMethodDescriptor yX10_addSquare.desc).map (fun d => d.parameters.length) = some 0 := by decide +kernel
theorem hdX10_addUnit : yX10_addUnit.cls ≠ "java/lang/invoke/MethodHandle" ∧ yX10_addUnit.cls ≠ "java/lang/invoke/VarHandle" ∧ (parseMethodDescriptor yX10_addUnit.desc).map (fun d => d.parameters.length) = some 3 := by decide +kernel
theorem hdX10_addUpForm : yX10_addUpForm.cls ≠ "java/lang/invoke/MethodHandle" ∧ yX10_addUpForm.cls ≠ "java/lang/invoke/VarHandle" ∧ (parseMethodDescriptor yX10_addUpForm.desc).map (fun d => d.parameters.length) = some 0 := by decide +kernel
theorem hdX10_again : yX10_again.cls ≠ "java/lang/invoke/MethodHandle" ∧ yX10_again.cls ≠ "java/lang/invoke/VarHandle" ∧ (parseMethodDescriptor yX10_again.desc).map (fun d => d.parameters.length) = some 0 := by decide +kernel
theorem hdX10_areApartBy : yX10_areApartBy.cls ≠ "java/lang/invoke/MethodHandle" ∧ yX10_areApartBy.cls ≠ "java/lang/invoke/VarHandle" ∧ (parseMethodDescriptor yX10_areApartBy.desc).map (fun d => d.parameters.length) = some 1 := by decide +kernel
theorem hdX10_areGenerators : yX10_areGenerators.cls ≠ "java/lang/invoke/MethodHandle" ∧ yX10_areGenerators.cls ≠ "java/lang/invoke/VarHandle" ∧ (parseMethodDescriptor yX10_areGenerators.desc).map (fun d => d.parameters.length) = some 1 := by decide +kernel
theorem hdX10_asLong : yX10_asLong.cls ≠ "java/lang/invoke/MethodHandle" ∧ yX10_asLong.cls ≠ "java/lang/invoke/VarHandle" ∧ (parseMethodDescriptor yX10_asLong.desc).map (fun d => d.parameters.length) = some 1 := by decide +kernel
theorem hdX10_at : yX10_at.cls ≠ "java/lang/invoke/MethodHandle" ∧ yX10_at.cls ≠ "java/lang/invoke/VarHandle" ∧ (parseMethodDescriptor yX10_at.desc).map (fun d => d.parameters.length) = some 3 := by decide +kernel
theorem hdX10_character : yX10_character.cls ≠ "java/lang/invoke/MethodHandle" ∧ yX10_character.cls ≠ "java/lang/invoke/VarHandle" ∧ (parseMethodDescriptor yX10_character.desc).map (fun d => d.parameters.length) = some 2 := by decide +kernel
theorem hdX10_clearBench : yX10_clearBench.cls ≠ "java/lang/invoke/MethodHandle" ∧ yX10_clearBench.cls ≠ "java/lang/invoke/VarHandle" ∧ (parseMethodDescriptor yX10_clearBench.desc).map (fun d => d.parameters.length) = some 2 := by decide +kernel
theorem hdX10_copy : yX10_copy.cls ≠ "java/lang/invoke/MethodHandle" ∧ yX10_copy.cls ≠ "java/lang/invoke/VarHandle" ∧ (parseMethodDescriptor yX10_copy.desc).map (fun d => d.parameters.length) = some 5 := by decide +kernel
theorem hdX10_countImage : yX10_countImage.cls ≠ "java/lang/invoke/MethodHandle" ∧ yX10_countImage.cls ≠ "java/lang/invoke/VarHandle" ∧ (parseMethodDescriptor yX10_countImage.desc).map (fun d => d.parameters.length) = some 1 := by decide +kernel
theorem hdX10_drop : yX10_drop.cls ≠ "java/lang/invoke/MethodHandle" ∧ yX10_drop.cls ≠ "java/lang/invoke/VarHandle" ∧ (parseMethodDescriptor yX10_drop.desc).map (fun d => d.parameters.length) = some 0 := by decide +kernel
theorem hdX10_element : yX10_element.cls ≠ "java/lang/invoke/MethodHandle" ∧ yX10_element.cls ≠ "java/lang/invoke/VarHandle" ∧ (parseMethodDescriptor yX10_element.desc).map (fun d => d.parameters.length) = some 3 := by decide +kernel
theorem hdX10_factor : yX10_factor.cls ≠ "java/lang/invoke/MethodHandle" ∧ yX10_factor.cls ≠ "java/lang/invoke/VarHandle" ∧ (parseMethodDescriptor yX10_factor.desc).map (fun d => d.parameters.length) = some 2 := by decide +kernel
theorem hdX10_faithful : yX10_faithful.cls ≠ "java/lang/invoke/MethodHandle" ∧ yX10_faithful.cls ≠ "java/lang/invoke/VarHandle" ∧ (parseMethodDescriptor yX10_faithful.desc).map (fun d => d.parameters.length) = some 1 := by decide +kernel
theorem hdX10_feed : yX10_feed.cls ≠ "java/lang/invoke/MethodHandle" ∧ yX10_feed.cls ≠ "java/lang/invoke/VarHandle" ∧ (parseMethodDescriptor yX10_feed.desc).map (fun d => d.parameters.length) = some 2 := by decide +kernel
theorem hdX10_fitsUnit : yX10_fitsUnit.cls ≠ "java/lang/invoke/MethodHandle" ∧ yX10_fitsUnit.cls ≠ "java/lang/invoke/VarHandle" ∧ (parseMethodDescriptor yX10_fitsUnit.desc).map (fun d => d.parameters.length) = some 2 := by decide +kernel
theorem hdX10_forgetWhatCame : yX10_forgetWhatCame.cls ≠ "java/lang/invoke/MethodHandle" ∧ yX10_forgetWhatCame.cls ≠ "java/lang/invoke/VarHandle" ∧ (parseMethodDescriptor yX10_forgetWhatCame.desc).map (fun d => d.parameters.length) = some 0 := by decide +kernel
theorem hdX10_form : yX10_form.cls ≠ "java/lang/invoke/MethodHandle" ∧ yX10_form.cls ≠ "java/lang/invoke/VarHandle" ∧ (parseMethodDescriptor yX10_form.desc).map (fun d => d.parameters.length) = some 2 := by decide +kernel
theorem hdX10_found : yX10_found.cls ≠ "java/lang/invoke/MethodHandle" ∧ yX10_found.cls ≠ "java/lang/invoke/VarHandle" ∧ (parseMethodDescriptor yX10_found.desc).map (fun d => d.parameters.length) = some 1 := by decide +kernel
theorem hdX10_image : yX10_image.cls ≠ "java/lang/invoke/MethodHandle" ∧ yX10_image.cls ≠ "java/lang/invoke/VarHandle" ∧ (parseMethodDescriptor yX10_image.desc).map (fun d => d.parameters.length) = some 1 := by decide +kernel
theorem hdX10_init : yX10_init.cls ≠ "java/lang/invoke/MethodHandle" ∧ yX10_init.cls ≠ "java/lang/invoke/VarHandle" ∧ (parseMethodDescriptor yX10_init.desc).map (fun d => d.parameters.length) = some 0 := by decide +kernel
theorem hdX10_isInMiddle : yX10_isInMiddle.cls ≠ "java/lang/invoke/MethodHandle" ∧ yX10_isInMiddle.cls ≠ "java/lang/invoke/VarHandle" ∧ (parseMethodDescriptor yX10_isInMiddle.desc).map (fun d => d.parameters.length) = some 1 := by decide +kernel
theorem hdX10_isOfStart : yX10_isOfStart.cls ≠ "java/lang/invoke/MethodHandle" ∧ yX10_isOfStart.cls ≠ "java/lang/invoke/VarHandle" ∧ (parseMethodDescriptor yX10_isOfStart.desc).map (fun d => d.parameters.length) = some 1 := by decide +kernel
theorem hdX10_isPositiveForm : yX10_isPositiveForm.cls ≠ "java/lang/invoke/MethodHandle" ∧ yX10_isPositiveForm.cls ≠ "java/lang/invoke/VarHandle" ∧ (parseMethodDescriptor yX10_isPositiveForm.desc).map (fun d => d.parameters.length) = some 0 := by decide +kernel
theorem hdX10_isPrimeTaken : yX10_isPrimeTaken.cls ≠ "java/lang/invoke/MethodHandle" ∧ yX10_isPrimeTaken.cls ≠ "java/lang/invoke/VarHandle" ∧ (parseMethodDescriptor yX10_isPrimeTaken.desc).map (fun d => d.parameters.length) = some 1 := by decide +kernel
theorem hdX10_isSheet : yX10_isSheet.cls ≠ "java/lang/invoke/MethodHandle" ∧ yX10_isSheet.cls ≠ "java/lang/invoke/VarHandle" ∧ (parseMethodDescriptor yX10_isSheet.desc).map (fun d => d.parameters.length) = some 1 := by decide +kernel
theorem hdX10_isSort : yX10_isSort.cls ≠ "java/lang/invoke/MethodHandle" ∧ yX10_isSort.cls ≠ "java/lang/invoke/VarHandle" ∧ (parseMethodDescriptor yX10_isSort.desc).map (fun d => d.parameters.length) = some 1 := by decide +kernel
theorem hdX10_isStart : yX10_isStart.cls ≠ "java/lang/invoke/MethodHandle" ∧ yX10_isStart.cls ≠ "java/lang/invoke/VarHandle" ∧ (parseMethodDescriptor yX10_isStart.desc).map (fun d => d.parameters.length) = some 3 := by decide +kernel
theorem hdX10_item : yX10_item.cls ≠ "java/lang/invoke/MethodHandle" ∧ yX10_item.cls ≠ "java/lang/invoke/VarHandle" ∧ (parseMethodDescriptor yX10_item.desc).map (fun d => d.parameters.length) = some 3 := by decide +kernel
theorem hdX10_keep : yX10_keep.cls ≠ "java/lang/invoke/MethodHandle" ∧ yX10_keep.cls ≠ "java/lang/invoke/VarHandle" ∧ (parseMethodDescriptor yX10_keep.desc).map (fun d => d.parameters.length) = some 0 := by decide +kernel
theorem hdX10_keeps : yX10_keeps.cls ≠ "java/lang/invoke/MethodHandle" ∧ yX10_keeps.cls ≠ "java/lang/invoke/VarHandle" ∧ (parseMethodDescriptor yX10_keeps.desc).map (fun d => d.parameters.length) = some 2 := by decide +kernel
theorem hdX10_lay : yX10_lay.cls ≠ "java/lang/invoke/MethodHandle" ∧ yX10_lay.cls ≠ "java/lang/invoke/VarHandle" ∧ (parseMethodDescriptor yX10_lay.desc).map (fun d => d.parameters.length) = some 3 := by decide +kernel
theorem hdX10_listAll : yX10_listAll.cls ≠ "java/lang/invoke/MethodHandle" ∧ yX10_listAll.cls ≠ "java/lang/invoke/VarHandle" ∧ (parseMethodDescriptor yX10_listAll.desc).map (fun d => d.parameters.length) = some 0 := by decide +kernel
theorem hdX10_listed : yX10_listed.cls ≠ "java/lang/invoke/MethodHandle" ∧ yX10_listed.cls ≠ "java/lang/invoke/VarHandle" ∧ (parseMethodDescriptor yX10_listed.desc).map (fun d => d.parameters.length) = some 0 := by decide +kernel
theorem hdX10_lot : yX10_lot.cls ≠ "java/lang/invoke/MethodHandle" ∧ yX10_lot.cls ≠ "java/lang/invoke/VarHandle" ∧ (parseMethodDescriptor yX10_lot.desc).map (fun d => d.parameters.length) = some 1 := by decide +kernel
theorem hdX10_made : yX10_made.cls ≠ "java/lang/invoke/MethodHandle" ∧ yX10_made.cls ≠ "java/lang/invoke/VarHandle" ∧ (parseMethodDescriptor yX10_made.desc).map (fun d => d.parameters.length) = some 3 := by decide +kernel
theorem hdX10_makeOf : yX10_makeOf.cls ≠ "java/lang/invoke/MethodHandle" ∧ yX10_makeOf.cls ≠ "java/lang/invoke/VarHandle" ∧ (parseMethodDescriptor yX10_makeOf.desc).map (fun d => d.parameters.length) = some 3 := by decide +kernel
theorem hdX10_many : yX10_many.cls ≠ "java/lang/invoke/MethodHandle" ∧ yX10_many.cls ≠ "java/lang/invoke/VarHandle" ∧ (parseMethodDescriptor yX10_many.desc).map (fun d => d.parameters.length) = some 1 := by decide +kernel
theorem hdX10_middle : yX10_middle.cls ≠ "java/lang/invoke/MethodHandle" ∧ yX10_middle.cls ≠ "java/lang/invoke/VarHandle" ∧ (parseMethodDescriptor yX10_middle.desc).map (fun d => d.parameters.length) = some 0 := by decide +kernel
theorem hdX10_multiplyOut : yX10_multiplyOut.cls ≠ "java/lang/invoke/MethodHandle" ∧ yX10_multiplyOut.cls ≠ "java/lang/invoke/VarHandle" ∧ (parseMethodDescriptor yX10_multiplyOut.desc).map (fun d => d.parameters.length) = some 1 := by decide +kernel
theorem hdX10_noGeneratorChangesForm : yX10_noGeneratorChangesForm.cls ≠ "java/lang/invoke/MethodHandle" ∧ yX10_noGeneratorChangesForm.cls ≠ "java/lang/invoke/VarHandle" ∧ (parseMethodDescriptor yX10_noGeneratorChangesForm.desc).map (fun d => d.parameters.length) = some 0 := by decide +kernel
theorem hdX10_of : yX10_of.cls ≠ "java/lang/invoke/MethodHandle" ∧ yX10_of.cls ≠ "java/lang/invoke/VarHandle" ∧ (parseMethodDescriptor yX10_of.desc).map (fun d => d.parameters.length) = some 2 := by decide +kernel
theorem hdX10_orbit : yX10_orbit.cls ≠ "java/lang/invoke/MethodHandle" ∧ yX10_orbit.cls ≠ "java/lang/invoke/VarHandle" ∧ (parseMethodDescriptor yX10_orbit.desc).map (fun d => d.parameters.length) = some 3 := by decide +kernel
theorem hdX10_orderOf : yX10_orderOf.cls ≠ "java/lang/invoke/MethodHandle" ∧ yX10_orderOf.cls ≠ "java/lang/invoke/VarHandle" ∧ (parseMethodDescriptor yX10_orderOf.desc).map (fun d => d.parameters.length) = some 2 := by decide +kernel
theorem hdX10_point : yX10_point.cls ≠ "java/lang/invoke/MethodHandle" ∧ yX10_point.cls ≠ "java/lang/invoke/VarHandle" ∧ (parseMethodDescriptor yX10_point.desc).map (fun d => d.parameters.length) = some 2 := by decide +kernel
theorem hdX10_put : yX10_put.cls ≠ "java/lang/invoke/MethodHandle" ∧ yX10_put.cls ≠ "java/lang/invoke/VarHandle" ∧ (parseMethodDescriptor yX10_put.desc).map (fun d => d.parameters.length) = some 3 := by decide +kernel
theorem hdX10_refusalOfTable : yX10_refusalOfTable.cls ≠ "java/lang/invoke/MethodHandle" ∧ yX10_refusalOfTable.cls ≠ "java/lang/invoke/VarHandle" ∧ (parseMethodDescriptor yX10_refusalOfTable.desc).map (fun d => d.parameters.length) = some 3 := by decide +kernel
theorem hdX10_round : yX10_round.cls ≠ "java/lang/invoke/MethodHandle" ∧ yX10_round.cls ≠ "java/lang/invoke/VarHandle" ∧ (parseMethodDescriptor yX10_round.desc).map (fun d => d.parameters.length) = some 1 := by decide +kernel
theorem hdX10_roundOfTrail : yX10_roundOfTrail.cls ≠ "java/lang/invoke/MethodHandle" ∧ yX10_roundOfTrail.cls ≠ "java/lang/invoke/VarHandle" ∧ (parseMethodDescriptor yX10_roundOfTrail.desc).map (fun d => d.parameters.length) = some 0 := by decide +kernel
theorem hdX10_seed : yX10_seed.cls ≠ "java/lang/invoke/MethodHandle" ∧ yX10_seed.cls ≠ "java/lang/invoke/VarHandle" ∧ (parseMethodDescriptor yX10_seed.desc).map (fun d => d.parameters.length) = some 1 := by decide +kernel
theorem hdX10_setPoint : yX10_setPoint.cls ≠ "java/lang/invoke/MethodHandle" ∧ yX10_setPoint.cls ≠ "java/lang/invoke/VarHandle" ∧ (parseMethodDescriptor yX10_setPoint.desc).map (fun d => d.parameters.length) = some 3 := by decide +kernel
theorem hdX10_sheet : yX10_sheet.cls ≠ "java/lang/invoke/MethodHandle" ∧ yX10_sheet.cls ≠ "java/lang/invoke/VarHandle" ∧ (parseMethodDescriptor yX10_sheet.desc).map (fun d => d.parameters.length) = some 3 := by decide +kernel
theorem hdX10_size : yX10_size.cls ≠ "java/lang/invoke/MethodHandle" ∧ yX10_size.cls ≠ "java/lang/invoke/VarHandle" ∧ (parseMethodDescriptor yX10_size.desc).map (fun d => d.parameters.length) = some 1 := by decide +kernel
theorem hdX10_still : yX10_still.cls ≠ "java/lang/invoke/MethodHandle" ∧ yX10_still.cls ≠ "java/lang/invoke/VarHandle" ∧ (parseMethodDescriptor yX10_still.desc).map (fun d => d.parameters.length) = some 3 := by decide +kernel
theorem hdX10_take : yX10_take.cls ≠ "java/lang/invoke/MethodHandle" ∧ yX10_take.cls ≠ "java/lang/invoke/VarHandle" ∧ (parseMethodDescriptor yX10_take.desc).map (fun d => d.parameters.length) = some 2 := by decide +kernel
theorem hdX10_text : yX10_text.cls ≠ "java/lang/invoke/MethodHandle" ∧ yX10_text.cls ≠ "java/lang/invoke/VarHandle" ∧ (parseMethodDescriptor yX10_text.desc).map (fun d => d.parameters.length) = some 0 := by decide +kernel
theorem hdX10_unit : yX10_unit.cls ≠ "java/lang/invoke/MethodHandle" ∧ yX10_unit.cls ≠ "java/lang/invoke/VarHandle" ∧ (parseMethodDescriptor yX10_unit.desc).map (fun d => d.parameters.length) = some 3 := by decide +kernel
theorem hdX10_whole : yX10_whole.cls ≠ "java/lang/invoke/MethodHandle" ∧ yX10_whole.cls ≠ "java/lang/invoke/VarHandle" ∧ (parseMethodDescriptor yX10_whole.desc).map (fun d => d.parameters.length) = some 0 := by decide +kernel
theorem hdX10_witness : yX10_witness.cls ≠ "java/lang/invoke/MethodHandle" ∧ yX10_witness.cls ≠ "java/lang/invoke/VarHandle" ∧ (parseMethodDescriptor yX10_witness.desc).map (fun d => d.parameters.length) = some 0 := by decide +kernel
theorem hdX11_about : yX11_about.cls ≠ "java/lang/invoke/MethodHandle" ∧ yX11_about.cls ≠ "java/lang/invoke/VarHandle" ∧ (parseMethodDescriptor yX11_about.desc).map (fun d => d.parameters.length) = some 2 := by decide +kernel
theorem hdX11_again : yX11_again.cls ≠ "java/lang/invoke/MethodHandle" ∧ yX11_again.cls ≠ "java/lang/invoke/VarHandle" ∧ (parseMethodDescriptor yX11_again.desc).map (fun d => d.parameters.length) = some 0 := by decide +kernel
theorem hdX11_at : yX11_at.cls ≠ "java/lang/invoke/MethodHandle" ∧ yX11_at.cls ≠ "java/lang/invoke/VarHandle" ∧ (parseMethodDescriptor yX11_at.desc).map (fun d => d.parameters.length) = some 3 := by decide +kernel
theorem hdX11_character : yX11_character.cls ≠ "java/lang/invoke/MethodHandle" ∧ yX11_character.cls ≠ "java/lang/invoke/VarHandle" ∧ (parseMethodDescriptor yX11_character.desc).map (fun d => d.parameters.length) = some 2 := by decide +kernel
theorem hdX11_clears : yX11_clears.cls ≠ "java/lang/invoke/MethodHandle" ∧ yX11_clears.cls ≠ "java/lang/invoke/VarHandle" ∧ (parseMethodDescriptor yX11_clears.desc).map (fun d => d.parameters.length) = some 1 := by decide +kernel
theorem hdX11_comes : yX11_comes.cls ≠ "java/lang/invoke/MethodHandle" ∧ yX11_comes.cls ≠ "java/lang/invoke/VarHandle" ∧ (parseMethodDescriptor yX11_comes.desc).map (fun d => d.parameters.length) = some 0 := by decide +kernel
theorem hdX11_common : yX11_common.cls ≠ "java/lang/invoke/MethodHandle" ∧ yX11_common.cls ≠ "java/lang/invoke/VarHandle" ∧ (parseMethodDescriptor yX11_common.desc).map (fun d => d.parameters.length) = some 2 := by decide +kernel
theorem hdX11_copy : yX11_copy.cls ≠ "java/lang/invoke/MethodHandle" ∧ yX11_copy.cls ≠ "java/lang/invoke/VarHandle" ∧ (parseMethodDescriptor yX11_copy.desc).map (fun d => d.parameters.length) = some 5 := by decide +kernel
theorem hdX11_cut : yX11_cut.cls ≠ "java/lang/invoke/MethodHandle" ∧ yX11_cut.cls ≠ "java/lang/invoke/VarHandle" ∧ (parseMethodDescriptor yX11_cut.desc).map (fun d => d.parameters.length) = some 2 := by decide +kernel
theorem hdX11_det : yX11_det.cls ≠ "java/lang/invoke/MethodHandle" ∧ yX11_det.cls ≠ "java/lang/invoke/VarHandle" ∧ (parseMethodDescriptor yX11_det.desc).map (fun d => d.parameters.length) = some 1 := by decide +kernel
theorem hdX11_drawn : yX11_drawn.cls ≠ "java/lang/invoke/MethodHandle" ∧ yX11_drawn.cls ≠ "java/lang/invoke/VarHandle" ∧ (parseMethodDescriptor yX11_drawn.desc).map (fun d => d.parameters.length) = some 1 := by decide +kernel
theorem hdX11_drop : yX11_drop.cls ≠ "java/lang/invoke/MethodHandle" ∧ yX11_drop.cls ≠ "java/lang/invoke/VarHandle" ∧ (parseMethodDescriptor yX11_drop.desc).map (fun d => d.parameters.length) = some 0 := by decide +kernel
theorem hdX11_element : yX11_element.cls ≠ "java/lang/invoke/MethodHandle" ∧ yX11_element.cls ≠ "java/lang/invoke/VarHandle" ∧ (parseMethodDescriptor yX11_element.desc).map (fun d => d.parameters.length) = some 3 := by decide +kernel
theorem hdX11_factor : yX11_factor.cls ≠ "java/lang/invoke/MethodHandle" ∧ yX11_factor.cls ≠ "java/lang/invoke/VarHandle" ∧ (parseMethodDescriptor yX11_factor.desc).map (fun d => d.parameters.length) = some 2 := by decide +kernel
theorem hdX11_faithful : yX11_faithful.cls ≠ "java/lang/invoke/MethodHandle" ∧ yX11_faithful.cls ≠ "java/lang/invoke/VarHandle" ∧ (parseMethodDescriptor yX11_faithful.desc).map (fun d => d.parameters.length) = some 1 := by decide +kernel
theorem hdX11_far : yX11_far.cls ≠ "java/lang/invoke/MethodHandle" ∧ yX11_far.cls ≠ "java/lang/invoke/VarHandle" ∧ (parseMethodDescriptor yX11_far.desc).map (fun d => d.parameters.length) = some 1 := by decide +kernel
theorem hdX11_feed : yX11_feed.cls ≠ "java/lang/invoke/MethodHandle" ∧ yX11_feed.cls ≠ "java/lang/invoke/VarHandle" ∧ (parseMethodDescriptor yX11_feed.desc).map (fun d => d.parameters.length) = some 2 := by decide +kernel
theorem hdX11_findForm : yX11_findForm.cls ≠ "java/lang/invoke/MethodHandle" ∧ yX11_findForm.cls ≠ "java/lang/invoke/VarHandle" ∧ (parseMethodDescriptor yX11_findForm.desc).map (fun d => d.parameters.length) = some 0 := by decide +kernel
theorem hdX11_findList : yX11_findList.cls ≠ "java/lang/invoke/MethodHandle" ∧ yX11_findList.cls ≠ "java/lang/invoke/VarHandle" ∧ (parseMethodDescriptor yX11_findList.desc).map (fun d => d.parameters.length) = some 0 := by decide +kernel
theorem hdX11_finds : yX11_finds.cls ≠ "java/lang/invoke/MethodHandle" ∧ yX11_finds.cls ≠ "java/lang/invoke/VarHandle" ∧ (parseMethodDescriptor yX11_finds.desc).map (fun d => d.parameters.length) = some 1 := by decide +kernel
theorem hdX11_first : yX11_first.cls ≠ "java/lang/invoke/MethodHandle" ∧ yX11_first.cls ≠ "java/lang/invoke/VarHandle" ∧ (parseMethodDescriptor yX11_first.desc).map (fun d => d.parameters.length) = some 1 := by decide +kernel
theorem hdX11_form : yX11_form.cls ≠ "java/lang/invoke/MethodHandle" ∧ yX11_form.cls ≠ "java/lang/invoke/VarHandle" ∧ (parseMethodDescriptor yX11_form.desc).map (fun d => d.parameters.length) = some 2 := by decide +kernel
theorem hdX11_found : yX11_found.cls ≠ "java/lang/invoke/MethodHandle" ∧ yX11_found.cls ≠ "java/lang/invoke/VarHandle" ∧ (parseMethodDescriptor yX11_found.desc).map (fun d => d.parameters.length) = some 1 := by decide +kernel
theorem hdX11_goes : yX11_goes.cls ≠ "java/lang/invoke/MethodHandle" ∧ yX11_goes.cls ≠ "java/lang/invoke/VarHandle" ∧ (parseMethodDescriptor yX11_goes.desc).map (fun d => d.parameters.length) = some 2 := by decide +kernel
theorem hdX11_here : yX11_here.cls ≠ "java/lang/invoke/MethodHandle" ∧ yX11_here.cls ≠ "java/lang/invoke/VarHandle" ∧ (parseMethodDescriptor yX11_here.desc).map (fun d => d.parameters.length) = some 0 := by decide +kernel
theorem hdX11_image : yX11_image.cls ≠ "java/lang/invoke/MethodHandle" ∧ yX11_image.cls ≠ "java/lang/invoke/VarHandle" ∧ (parseMethodDescriptor yX11_image.desc).map (fun d => d.parameters.length) = some 1 := by decide +kernel
theorem hdX11_in : yX11_in.cls ≠ "java/lang/invoke/MethodHandle" ∧ yX11_in.cls ≠ "java/lang/invoke/VarHandle" ∧ (parseMethodDescriptor yX11_in.desc).map (fun d => d.parameters.length) = some 3 := by decide +kernel
theorem hdX11_init : yX11_init.cls ≠ "java/lang/invoke/MethodHandle" ∧ yX11_init.cls ≠ "java/lang/invoke/VarHandle" ∧ (parseMethodDescriptor yX11_init.desc).map (fun d => d.parameters.length) = some 0 := by decide +kernel
theorem hdX11_isAsked : yX11_isAsked.cls ≠ "java/lang/invoke/MethodHandle" ∧ yX11_isAsked.cls ≠ "java/lang/invoke/VarHandle" ∧ (parseMethodDescriptor yX11_isAsked.desc).map (fun d => d.parameters.length) = some 3 := by decide +kernel
theorem hdX11_isDigit : yX11_isDigit.cls ≠ "java/lang/invoke/MethodHandle" ∧ yX11_isDigit.cls ≠ "java/lang/invoke/VarHandle" ∧ (parseMethodDescriptor yX11_isDigit.desc).map (fun d => d.parameters.length) = some 0 := by decide +kernel
theorem hdX11_isFirst : yX11_isFirst.cls ≠ "java/lang/invoke/MethodHandle" ∧ yX11_isFirst.cls ≠ "java/lang/invoke/VarHandle" ∧ (parseMethodDescriptor yX11_isFirst.desc).map (fun d => d.parameters.length) = some 1 := by decide +kernel
theorem hdX11_isGen : yX11_isGen.cls ≠ "java/lang/invoke/MethodHandle" ∧ yX11_isGen.cls ≠ "java/lang/invoke/VarHandle" ∧ (parseMethodDescriptor yX11_isGen.desc).map (fun d => d.parameters.length) = some 1 := by decide +kernel
theorem hdX11_isGreat : yX11_isGreat.cls ≠ "java/lang/invoke/MethodHandle" ∧ yX11_isGreat.cls ≠ "java/lang/invoke/VarHandle" ∧ (parseMethodDescriptor yX11_isGreat.desc).map (fun d => d.parameters.length) = some 1 := by decide +kernel
theorem hdX11_isOutside : yX11_isOutside.cls ≠ "java/lang/invoke/MethodHandle" ∧ yX11_isOutside.cls ≠ "java/lang/invoke/VarHandle" ∧ (parseMethodDescriptor yX11_isOutside.desc).map (fun d => d.parameters.length) = some 3 := by decide +kernel
theorem hdX11_isPlace : yX11_isPlace.cls ≠ "java/lang/invoke/MethodHandle" ∧ yX11_isPlace.cls ≠ "java/lang/invoke/VarHandle" ∧ (parseMethodDescriptor yX11_isPlace.desc).map (fun d => d.parameters.length) = some 1 := by decide +kernel
theorem hdX11_isPrime : yX11_isPrime.cls ≠ "java/lang/invoke/MethodHandle" ∧ yX11_isPrime.cls ≠ "java/lang/invoke/VarHandle" ∧ (parseMethodDescriptor yX11_isPrime.desc).map (fun d => d.parameters.length) = some 1 := by decide +kernel
theorem hdX11_isSheet : yX11_isSheet.cls ≠ "java/lang/invoke/MethodHandle" ∧ yX11_isSheet.cls ≠ "java/lang/invoke/VarHandle" ∧ (parseMethodDescriptor yX11_isSheet.desc).map (fun d => d.parameters.length) = some 1 := by decide +kernel
theorem hdX11_isSmall : yX11_isSmall.cls ≠ "java/lang/invoke/MethodHandle" ∧ yX11_isSmall.cls ≠ "java/lang/invoke/VarHandle" ∧ (parseMethodDescriptor yX11_isSmall.desc).map (fun d => d.parameters.length) = some 1 := by decide +kernel
theorem hdX11_item : yX11_item.cls ≠ "java/lang/invoke/MethodHandle" ∧ yX11_item.cls ≠ "java/lang/invoke/VarHandle" ∧ (parseMethodDescriptor yX11_item.desc).map (fun d => d.parameters.length) = some 3 := by decide +kernel
theorem hdX11_keep : yX11_keep.cls ≠ "java/lang/invoke/MethodHandle" ∧ yX11_keep.cls ≠ "java/lang/invoke/VarHandle" ∧ (parseMethodDescriptor yX11_keep.desc).map (fun d => d.parameters.length) = some 0 := by decide +kernel
theorem hdX11_keeps : yX11_keeps.cls ≠ "java/lang/invoke/MethodHandle" ∧ yX11_keeps.cls ≠ "java/lang/invoke/VarHandle" ∧ (parseMethodDescriptor yX11_keeps.desc).map (fun d => d.parameters.length) = some 2 := by decide +kernel
theorem hdX11_keepsAll : yX11_keepsAll.cls ≠ "java/lang/invoke/MethodHandle" ∧ yX11_keepsAll.cls ≠ "java/lang/invoke/VarHandle" ∧ (parseMethodDescriptor yX11_keepsAll.desc).map (fun d => d.parameters.length) = some 0 := by decide +kernel
theorem hdX11_lacks : yX11_lacks.cls ≠ "java/lang/invoke/MethodHandle" ∧ yX11_lacks.cls ≠ "java/lang/invoke/VarHandle" ∧ (parseMethodDescriptor yX11_lacks.desc).map (fun d => d.parameters.length) = some 2 := by decide +kernel
theorem hdX11_lay : yX11_lay.cls ≠ "java/lang/invoke/MethodHandle" ∧ yX11_lay.cls ≠ "java/lang/invoke/VarHandle" ∧ (parseMethodDescriptor yX11_lay.desc).map (fun d => d.parameters.length) = some 3 := by decide +kernel
theorem hdX11_listed : yX11_listed.cls ≠ "java/lang/invoke/MethodHandle" ∧ yX11_listed.cls ≠ "java/lang/invoke/VarHandle" ∧ (parseMethodDescriptor yX11_listed.desc).map (fun d => d.parameters.length) = some 0 := by decide +kernel
theorem hdX11_lists : yX11_lists.cls ≠ "java/lang/invoke/MethodHandle" ∧ yX11_lists.cls ≠ "java/lang/invoke/VarHandle" ∧ (parseMethodDescriptor yX11_lists.desc).map (fun d => d.parameters.length) = some 3 := by decide +kernel
theorem hdX11_lot : yX11_lot.cls ≠ "java/lang/invoke/MethodHandle" ∧ yX11_lot.cls ≠ "java/lang/invoke/VarHandle" ∧ (parseMethodDescriptor yX11_lot.desc).map (fun d => d.parameters.length) = some 1 := by decide +kernel
theorem hdX11_made : yX11_made.cls ≠ "java/lang/invoke/MethodHandle" ∧ yX11_made.cls ≠ "java/lang/invoke/VarHandle" ∧ (parseMethodDescriptor yX11_made.desc).map (fun d => d.parameters.length) = some 3 := by decide +kernel
theorem hdX11_makesUnit : yX11_makesUnit.cls ≠ "java/lang/invoke/MethodHandle" ∧ yX11_makesUnit.cls ≠ "java/lang/invoke/VarHandle" ∧ (parseMethodDescriptor yX11_makesUnit.desc).map (fun d => d.parameters.length) = some 3 := by decide +kernel
theorem hdX11_many : yX11_many.cls ≠ "java/lang/invoke/MethodHandle" ∧ yX11_many.cls ≠ "java/lang/invoke/VarHandle" ∧ (parseMethodDescriptor yX11_many.desc).map (fun d => d.parameters.length) = some 1 := by decide +kernel
theorem hdX11_middle : yX11_middle.cls ≠ "java/lang/invoke/MethodHandle" ∧ yX11_middle.cls ≠ "java/lang/invoke/VarHandle" ∧ (parseMethodDescriptor yX11_middle.desc).map (fun d => d.parameters.length) = some 0 := by decide +kernel
theorem hdX11_of : yX11_of.cls ≠ "java/lang/invoke/MethodHandle" ∧ yX11_of.cls ≠ "java/lang/invoke/VarHandle" ∧ (parseMethodDescriptor yX11_of.desc).map (fun d => d.parameters.length) = some 2 := by decide +kernel
theorem hdX11_orbit : yX11_orbit.cls ≠ "java/lang/invoke/MethodHandle" ∧ yX11_orbit.cls ≠ "java/lang/invoke/VarHandle" ∧ (parseMethodDescriptor yX11_orbit.desc).map (fun d => d.parameters.length) = some 3 := by decide +kernel
theorem hdX11_order : yX11_order.cls ≠ "java/lang/invoke/MethodHandle" ∧ yX11_order.cls ≠ "java/lang/invoke/VarHandle" ∧ (parseMethodDescriptor yX11_order.desc).map (fun d => d.parameters.length) = some 0 := by decide +kernel
theorem hdX11_orderOf : yX11_orderOf.cls ≠ "java/lang/invoke/MethodHandle" ∧ yX11_orderOf.cls ≠ "java/lang/invoke/VarHandle" ∧ (parseMethodDescriptor yX11_orderOf.desc).map (fun d => d.parameters.length) = some 1 := by decide +kernel
theorem hdX11_placeIn : yX11_placeIn.cls ≠ "java/lang/invoke/MethodHandle" ∧ yX11_placeIn.cls ≠ "java/lang/invoke/VarHandle" ∧ (parseMethodDescriptor yX11_placeIn.desc).map (fun d => d.parameters.length) = some 3 := by decide +kernel
theorem hdX11_placeOf : yX11_placeOf.cls ≠ "java/lang/invoke/MethodHandle" ∧ yX11_placeOf.cls ≠ "java/lang/invoke/VarHandle" ∧ (parseMethodDescriptor yX11_placeOf.desc).map (fun d => d.parameters.length) = some 1 := by decide +kernel
theorem hdX11_point : yX11_point.cls ≠ "java/lang/invoke/MethodHandle" ∧ yX11_point.cls ≠ "java/lang/invoke/VarHandle" ∧ (parseMethodDescriptor yX11_point.desc).map (fun d => d.parameters.length) = some 2 := by decide +kernel
theorem hdX11_put : yX11_put.cls ≠ "java/lang/invoke/MethodHandle" ∧ yX11_put.cls ≠ "java/lang/invoke/VarHandle" ∧ (parseMethodDescriptor yX11_put.desc).map (fun d => d.parameters.length) = some 3 := by decide +kernel
theorem hdX11_readsMatrix : yX11_readsMatrix.cls ≠ "java/lang/invoke/MethodHandle" ∧ yX11_readsMatrix.cls ≠ "java/lang/invoke/VarHandle" ∧ (parseMethodDescriptor yX11_readsMatrix.desc).map (fun d => d.parameters.length) = some 0 := by decide +kernel
theorem hdX11_readsNumber : yX11_readsNumber.cls ≠ "java/lang/invoke/MethodHandle" ∧ yX11_readsNumber.cls ≠ "java/lang/invoke/VarHandle" ∧ (parseMethodDescriptor yX11_readsNumber.desc).map (fun d => d.parameters.length) = some 1 := by decide +kernel
theorem hdX11_readsSign : yX11_readsSign.cls ≠ "java/lang/invoke/MethodHandle" ∧ yX11_readsSign.cls ≠ "java/lang/invoke/VarHandle" ∧ (parseMethodDescriptor yX11_readsSign.desc).map (fun d => d.parameters.length) = some 1 := by decide +kernel
theorem hdX11_round : yX11_round.cls ≠ "java/lang/invoke/MethodHandle" ∧ yX11_round.cls ≠ "java/lang/invoke/VarHandle" ∧ (parseMethodDescriptor yX11_round.desc).map (fun d => d.parameters.length) = some 1 := by decide +kernel
theorem hdX11_roundNow : yX11_roundNow.cls ≠ "java/lang/invoke/MethodHandle" ∧ yX11_roundNow.cls ≠ "java/lang/invoke/VarHandle" ∧ (parseMethodDescriptor yX11_roundNow.desc).map (fun d => d.parameters.length) = some 0 := by decide +kernel
theorem hdX11_seed : yX11_seed.cls ≠ "java/lang/invoke/MethodHandle" ∧ yX11_seed.cls ≠ "java/lang/invoke/VarHandle" ∧ (parseMethodDescriptor yX11_seed.desc).map (fun d => d.parameters.length) = some 1 := by decide +kernel
theorem hdX11_sheet : yX11_sheet.cls ≠ "java/lang/invoke/MethodHandle" ∧ yX11_sheet.cls ≠ "java/lang/invoke/VarHandle" ∧ (parseMethodDescriptor yX11_sheet.desc).map (fun d => d.parameters.length) = some 3 := by decide +kernel
theorem hdX11_size : yX11_size.cls ≠ "java/lang/invoke/MethodHandle" ∧ yX11_size.cls ≠ "java/lang/invoke/VarHandle" ∧ (parseMethodDescriptor yX11_size.desc).map (fun d => d.parameters.length) = some 1 := by decide +kernel
theorem hdX11_still : yX11_still.cls ≠ "java/lang/invoke/MethodHandle" ∧ yX11_still.cls ≠ "java/lang/invoke/VarHandle" ∧ (parseMethodDescriptor yX11_still.desc).map (fun d => d.parameters.length) = some 3 := by decide +kernel
theorem hdX11_take : yX11_take.cls ≠ "java/lang/invoke/MethodHandle" ∧ yX11_take.cls ≠ "java/lang/invoke/VarHandle" ∧ (parseMethodDescriptor yX11_take.desc).map (fun d => d.parameters.length) = some 2 := by decide +kernel
theorem hdX11_takes : yX11_takes.cls ≠ "java/lang/invoke/MethodHandle" ∧ yX11_takes.cls ≠ "java/lang/invoke/VarHandle" ∧ (parseMethodDescriptor yX11_takes.desc).map (fun d => d.parameters.length) = some 2 := by decide +kernel
theorem hdX11_takesElement : yX11_takesElement.cls ≠ "java/lang/invoke/MethodHandle" ∧ yX11_takesElement.cls ≠ "java/lang/invoke/VarHandle" ∧ (parseMethodDescriptor yX11_takesElement.desc).map (fun d => d.parameters.length) = some 2 := by decide +kernel
theorem hdX11_takesOut : yX11_takesOut.cls ≠ "java/lang/invoke/MethodHandle" ∧ yX11_takesOut.cls ≠ "java/lang/invoke/VarHandle" ∧ (parseMethodDescriptor yX11_takesOut.desc).map (fun d => d.parameters.length) = some 3 := by decide +kernel
theorem hdX11_text : yX11_text.cls ≠ "java/lang/invoke/MethodHandle" ∧ yX11_text.cls ≠ "java/lang/invoke/VarHandle" ∧ (parseMethodDescriptor yX11_text.desc).map (fun d => d.parameters.length) = some 0 := by decide +kernel
theorem hdX11_times : yX11_times.cls ≠ "java/lang/invoke/MethodHandle" ∧ yX11_times.cls ≠ "java/lang/invoke/VarHandle" ∧ (parseMethodDescriptor yX11_times.desc).map (fun d => d.parameters.length) = some 3 := by decide +kernel
theorem hdX11_told : yX11_told.cls ≠ "java/lang/invoke/MethodHandle" ∧ yX11_told.cls ≠ "java/lang/invoke/VarHandle" ∧ (parseMethodDescriptor yX11_told.desc).map (fun d => d.parameters.length) = some 2 := by decide +kernel
theorem hdX11_unit : yX11_unit.cls ≠ "java/lang/invoke/MethodHandle" ∧ yX11_unit.cls ≠ "java/lang/invoke/VarHandle" ∧ (parseMethodDescriptor yX11_unit.desc).map (fun d => d.parameters.length) = some 3 := by decide +kernel
theorem hdX11_untold : yX11_untold.cls ≠ "java/lang/invoke/MethodHandle" ∧ yX11_untold.cls ≠ "java/lang/invoke/VarHandle" ∧ (parseMethodDescriptor yX11_untold.desc).map (fun d => d.parameters.length) = some 3 := by decide +kernel
theorem hdX11_whole : yX11_whole.cls ≠ "java/lang/invoke/MethodHandle" ∧ yX11_whole.cls ≠ "java/lang/invoke/VarHandle" ∧ (parseMethodDescriptor yX11_whole.desc).map (fun d => d.parameters.length) = some 0 := by decide +kernel
theorem hdX11_without : yX11_without.cls ≠ "java/lang/invoke/MethodHandle" ∧ yX11_without.cls ≠ "java/lang/invoke/VarHandle" ∧ (parseMethodDescriptor yX11_without.desc).map (fun d => d.parameters.length) = some 3 := by decide +kernel
theorem hdX11_witness : yX11_witness.cls ≠ "java/lang/invoke/MethodHandle" ∧ yX11_witness.cls ≠ "java/lang/invoke/VarHandle" ∧ (parseMethodDescriptor yX11_witness.desc).map (fun d => d.parameters.length) = some 0 := by decide +kernel
theorem hdX1_go : yX1_go.cls ≠ "java/lang/invoke/MethodHandle" ∧ yX1_go.cls ≠ "java/lang/invoke/VarHandle" ∧ (parseMethodDescriptor yX1_go.desc).map (fun d => d.parameters.length) = some 4 := by decide +kernel
theorem hdX1_init : yX1_init.cls ≠ "java/lang/invoke/MethodHandle" ∧ yX1_init.cls ≠ "java/lang/invoke/VarHandle" ∧ (parseMethodDescriptor yX1_init.desc).map (fun d => d.parameters.length) = some 1 := by decide +kernel
theorem hdX2_go : yX2_go.cls ≠ "java/lang/invoke/MethodHandle" ∧ yX2_go.cls ≠ "java/lang/invoke/VarHandle" ∧ (parseMethodDescriptor yX2_go.desc).map (fun d => d.parameters.length) = some 4 := by decide +kernel
theorem hdX2_init : yX2_init.cls ≠ "java/lang/invoke/MethodHandle" ∧ yX2_init.cls ≠ "java/lang/invoke/VarHandle" ∧ (parseMethodDescriptor yX2_init.desc).map (fun d => d.parameters.length) = some 1 := by decide +kernel
theorem hdX3_characterOf : yX3_characterOf.cls ≠ "java/lang/invoke/MethodHandle" ∧ yX3_characterOf.cls ≠ "java/lang/invoke/VarHandle" ∧ (parseMethodDescriptor yX3_characterOf.desc).map (fun d => d.parameters.length) = some 3 := by decide +kernel
theorem hdX3_howOften : yX3_howOften.cls ≠ "java/lang/invoke/MethodHandle" ∧ yX3_howOften.cls ≠ "java/lang/invoke/VarHandle" ∧ (parseMethodDescriptor yX3_howOften.desc).map (fun d => d.parameters.length) = some 3 := by decide +kernel
theorem hdX3_isFactor : yX3_isFactor.cls ≠ "java/lang/invoke/MethodHandle" ∧ yX3_isFactor.cls ≠ "java/lang/invoke/VarHandle" ∧ (parseMethodDescriptor yX3_isFactor.desc).map (fun d => d.parameters.length) = some 1 := by decide +kernel
theorem hdX3_takeOut : yX3_takeOut.cls ≠ "java/lang/invoke/MethodHandle" ∧ yX3_takeOut.cls ≠ "java/lang/invoke/VarHandle" ∧ (parseMethodDescriptor yX3_takeOut.desc).map (fun d => d.parameters.length) = some 3 := by decide +kernel
theorem hdX4_append : yX4_append.cls ≠ "java/lang/invoke/MethodHandle" ∧ yX4_append.cls ≠ "java/lang/invoke/VarHandle" ∧ (parseMethodDescriptor yX4_append.desc).map (fun d => d.parameters.length) = some 3 := by decide +kernel
theorem hdX4_clear : yX4_clear.cls ≠ "java/lang/invoke/MethodHandle" ∧ yX4_clear.cls ≠ "java/lang/invoke/VarHandle" ∧ (parseMethodDescriptor yX4_clear.desc).map (fun d => d.parameters.length) = some 2 := by decide +kernel
theorem hdX4_has : yX4_has.cls ≠ "java/lang/invoke/MethodHandle" ∧ yX4_has.cls ≠ "java/lang/invoke/VarHandle" ∧ (parseMethodDescriptor yX4_has.desc).map (fun d => d.parameters.length) = some 1 := by decide +kernel
theorem hdX4_init : yX4_init.cls ≠ "java/lang/invoke/MethodHandle" ∧ yX4_init.cls ≠ "java/lang/invoke/VarHandle" ∧ (parseMethodDescriptor yX4_init.desc).map (fun d => d.parameters.length) = some 3 := by decide +kernel
theorem hdX4_isRow : yX4_isRow.cls ≠ "java/lang/invoke/MethodHandle" ∧ yX4_isRow.cls ≠ "java/lang/invoke/VarHandle" ∧ (parseMethodDescriptor yX4_isRow.desc).map (fun d => d.parameters.length) = some 2 := by decide +kernel
theorem hdX4_lead : yX4_lead.cls ≠ "java/lang/invoke/MethodHandle" ∧ yX4_lead.cls ≠ "java/lang/invoke/VarHandle" ∧ (parseMethodDescriptor yX4_lead.desc).map (fun d => d.parameters.length) = some 3 := by decide +kernel
theorem hdX4_search : yX4_search.cls ≠ "java/lang/invoke/MethodHandle" ∧ yX4_search.cls ≠ "java/lang/invoke/VarHandle" ∧ (parseMethodDescriptor yX4_search.desc).map (fun d => d.parameters.length) = some 1 := by decide +kernel
theorem hdX4_slotOf : yX4_slotOf.cls ≠ "java/lang/invoke/MethodHandle" ∧ yX4_slotOf.cls ≠ "java/lang/invoke/VarHandle" ∧ (parseMethodDescriptor yX4_slotOf.desc).map (fun d => d.parameters.length) = some 1 := by decide +kernel
theorem hdX4_spread : yX4_spread.cls ≠ "java/lang/invoke/MethodHandle" ∧ yX4_spread.cls ≠ "java/lang/invoke/VarHandle" ∧ (parseMethodDescriptor yX4_spread.desc).map (fun d => d.parameters.length) = some 2 := by decide +kernel
theorem hdX4_start : yX4_start.cls ≠ "java/lang/invoke/MethodHandle" ∧ yX4_start.cls ≠ "java/lang/invoke/VarHandle" ∧ (parseMethodDescriptor yX4_start.desc).map (fun d => d.parameters.length) = some 1 := by decide +kernel
theorem hdX5_append : yX5_append.cls ≠ "java/lang/invoke/MethodHandle" ∧ yX5_append.cls ≠ "java/lang/invoke/VarHandle" ∧ (parseMethodDescriptor yX5_append.desc).map (fun d => d.parameters.length) = some 1 := by decide +kernel
theorem hdX5_become : yX5_become.cls ≠ "java/lang/invoke/MethodHandle" ∧ yX5_become.cls ≠ "java/lang/invoke/VarHandle" ∧ (parseMethodDescriptor yX5_become.desc).map (fun d => d.parameters.length) = some 1 := by decide +kernel
theorem hdX5_cellCount : yX5_cellCount.cls ≠ "java/lang/invoke/MethodHandle" ∧ yX5_cellCount.cls ≠ "java/lang/invoke/VarHandle" ∧ (parseMethodDescriptor yX5_cellCount.desc).map (fun d => d.parameters.length) = some 0 := by decide +kernel
theorem hdX5_draw : yX5_draw.cls ≠ "java/lang/invoke/MethodHandle" ∧ yX5_draw.cls ≠ "java/lang/invoke/VarHandle" ∧ (parseMethodDescriptor yX5_draw.desc).map (fun d => d.parameters.length) = some 0 := by decide +kernel
theorem hdX5_has : yX5_has.cls ≠ "java/lang/invoke/MethodHandle" ∧ yX5_has.cls ≠ "java/lang/invoke/VarHandle" ∧ (parseMethodDescriptor yX5_has.desc).map (fun d => d.parameters.length) = some 1 := by decide +kernel
theorem hdX5_init : yX5_init.cls ≠ "java/lang/invoke/MethodHandle" ∧ yX5_init.cls ≠ "java/lang/invoke/VarHandle" ∧ (parseMethodDescriptor yX5_init.desc).map (fun d => d.parameters.length) = some 0 := by decide +kernel
theorem hdX5_isFull : yX5_isFull.cls ≠ "java/lang/invoke/MethodHandle" ∧ yX5_isFull.cls ≠ "java/lang/invoke/VarHandle" ∧ (parseMethodDescriptor yX5_isFull.desc).map (fun d => d.parameters.length) = some 0 := by decide +kernel
theorem hdX5_isPlace : yX5_isPlace.cls ≠ "java/lang/invoke/MethodHandle" ∧ yX5_isPlace.cls ≠ "java/lang/invoke/VarHandle" ∧ (parseMethodDescriptor yX5_isPlace.desc).map (fun d => d.parameters.length) = some 2 := by decide +kernel
theorem hdX6_become : yX6_become.cls ≠ "java/lang/invoke/MethodHandle" ∧ yX6_become.cls ≠ "java/lang/invoke/VarHandle" ∧ (parseMethodDescriptor yX6_become.desc).map (fun d => d.parameters.length) = some 2 := by decide +kernel
theorem hdX6_init : yX6_init.cls ≠ "java/lang/invoke/MethodHandle" ∧ yX6_init.cls ≠ "java/lang/invoke/VarHandle" ∧ (parseMethodDescriptor yX6_init.desc).map (fun d => d.parameters.length) = some 0 := by decide +kernel
theorem hdX6_isMissing : yX6_isMissing.cls ≠ "java/lang/invoke/MethodHandle" ∧ yX6_isMissing.cls ≠ "java/lang/invoke/VarHandle" ∧ (parseMethodDescriptor yX6_isMissing.desc).map (fun d => d.parameters.length) = some 0 := by decide +kernel
theorem hdX6_isOutside : yX6_isOutside.cls ≠ "java/lang/invoke/MethodHandle" ∧ yX6_isOutside.cls ≠ "java/lang/invoke/VarHandle" ∧ (parseMethodDescriptor yX6_isOutside.desc).map (fun d => d.parameters.length) = some 2 := by decide +kernel
theorem hdX6_write : yX6_write.cls ≠ "java/lang/invoke/MethodHandle" ∧ yX6_write.cls ≠ "java/lang/invoke/VarHandle" ∧ (parseMethodDescriptor yX6_write.desc).map (fun d => d.parameters.length) = some 2 := by decide +kernel
theorem hdX7_addUp : yX7_addUp.cls ≠ "java/lang/invoke/MethodHandle" ∧ yX7_addUp.cls ≠ "java/lang/invoke/VarHandle" ∧ (parseMethodDescriptor yX7_addUp.desc).map (fun d => d.parameters.length) = some 7 := by decide +kernel
theorem hdX7_areAlike : yX7_areAlike.cls ≠ "java/lang/invoke/MethodHandle" ∧ yX7_areAlike.cls ≠ "java/lang/invoke/VarHandle" ∧ (parseMethodDescriptor yX7_areAlike.desc).map (fun d => d.parameters.length) = some 3 := by decide +kernel
theorem hdX7_becomeOne : yX7_becomeOne.cls ≠ "java/lang/invoke/MethodHandle" ∧ yX7_becomeOne.cls ≠ "java/lang/invoke/VarHandle" ∧ (parseMethodDescriptor yX7_becomeOne.desc).map (fun d => d.parameters.length) = some 2 := by decide +kernel
theorem hdX7_cofactor : yX7_cofactor.cls ≠ "java/lang/invoke/MethodHandle" ∧ yX7_cofactor.cls ≠ "java/lang/invoke/VarHandle" ∧ (parseMethodDescriptor yX7_cofactor.desc).map (fun d => d.parameters.length) = some 5 := by decide +kernel
theorem hdX7_commonDivisor : yX7_commonDivisor.cls ≠ "java/lang/invoke/MethodHandle" ∧ yX7_commonDivisor.cls ≠ "java/lang/invoke/VarHandle" ∧ (parseMethodDescriptor yX7_commonDivisor.desc).map (fun d => d.parameters.length) = some 2 := by decide +kernel
theorem hdX7_determinant : yX7_determinant.cls ≠ "java/lang/invoke/MethodHandle" ∧ yX7_determinant.cls ≠ "java/lang/invoke/VarHandle" ∧ (parseMethodDescriptor yX7_determinant.desc).map (fun d => d.parameters.length) = some 4 := by decide +kernel
theorem hdX7_hasWholeInverse : yX7_hasWholeInverse.cls ≠ "java/lang/invoke/MethodHandle" ∧ yX7_hasWholeInverse.cls ≠ "java/lang/invoke/VarHandle" ∧ (parseMethodDescriptor yX7_hasWholeInverse.desc).map (fun d => d.parameters.length) = some 3 := by decide +kernel
theorem hdX7_invert : yX7_invert.cls ≠ "java/lang/invoke/MethodHandle" ∧ yX7_invert.cls ≠ "java/lang/invoke/VarHandle" ∧ (parseMethodDescriptor yX7_invert.desc).map (fun d => d.parameters.length) = some 4 := by decide +kernel
theorem hdX7_isOne : yX7_isOne.cls ≠ "java/lang/invoke/MethodHandle" ∧ yX7_isOne.cls ≠ "java/lang/invoke/VarHandle" ∧ (parseMethodDescriptor yX7_isOne.desc).map (fun d => d.parameters.length) = some 2 := by decide +kernel
theorem hdX7_isWithin : yX7_isWithin.cls ≠ "java/lang/invoke/MethodHandle" ∧ yX7_isWithin.cls ≠ "java/lang/invoke/VarHandle" ∧ (parseMethodDescriptor yX7_isWithin.desc).map (fun d => d.parameters.length) = some 3 := by decide +kernel
theorem hdX7_move : yX7_move.cls ≠ "java/lang/invoke/MethodHandle" ∧ yX7_move.cls ≠ "java/lang/invoke/VarHandle" ∧ (parseMethodDescriptor yX7_move.desc).map (fun d => d.parameters.length) = some 6 := by decide +kernel
theorem hdX7_multiply : yX7_multiply.cls ≠ "java/lang/invoke/MethodHandle" ∧ yX7_multiply.cls ≠ "java/lang/invoke/VarHandle" ∧ (parseMethodDescriptor yX7_multiply.desc).map (fun d => d.parameters.length) = some 6 := by decide +kernel
theorem hdX7_multiplyTurned : yX7_multiplyTurned.cls ≠ "java/lang/invoke/MethodHandle" ∧ yX7_multiplyTurned.cls ≠ "java/lang/invoke/VarHandle" ∧ (parseMethodDescriptor yX7_multiplyTurned.desc).map (fun d => d.parameters.length) = some 6 := by decide +kernel
theorem hdX7_negate : yX7_negate.cls ≠ "java/lang/invoke/MethodHandle" ∧ yX7_negate.cls ≠ "java/lang/invoke/VarHandle" ∧ (parseMethodDescriptor yX7_negate.desc).map (fun d => d.parameters.length) = some 4 := by decide +kernel
theorem hdX7_reduce : yX7_reduce.cls ≠ "java/lang/invoke/MethodHandle" ∧ yX7_reduce.cls ≠ "java/lang/invoke/VarHandle" ∧ (parseMethodDescriptor yX7_reduce.desc).map (fun d => d.parameters.length) = some 3 := by decide +kernel
theorem hdX7_trace : yX7_trace.cls ≠ "java/lang/invoke/MethodHandle" ∧ yX7_trace.cls ≠ "java/lang/invoke/VarHandle" ∧ (parseMethodDescriptor yX7_trace.desc).map (fun d => d.parameters.length) = some 3 := by decide +kernel
theorem hdX7_turn : yX7_turn.cls ≠ "java/lang/invoke/MethodHandle" ∧ yX7_turn.cls ≠ "java/lang/invoke/VarHandle" ∧ (parseMethodDescriptor yX7_turn.desc).map (fun d => d.parameters.length) = some 4 := by decide +kernel
theorem hdX8_init : yX8_init.cls ≠ "java/lang/invoke/MethodHandle" ∧ yX8_init.cls ≠ "java/lang/invoke/VarHandle" ∧ (parseMethodDescriptor yX8_init.desc).map (fun d => d.parameters.length) = some 0 := by decide +kernel
theorem hdX9_init : yX9_init.cls ≠ "java/lang/invoke/MethodHandle" ∧ yX9_init.cls ≠ "java/lang/invoke/VarHandle" ∧ (parseMethodDescriptor yX9_init.desc).map (fun d => d.parameters.length) = some 0 := by decide +kernel
theorem hdX9_isDigit : yX9_isDigit.cls ≠ "java/lang/invoke/MethodHandle" ∧ yX9_isDigit.cls ≠ "java/lang/invoke/VarHandle" ∧ (parseMethodDescriptor yX9_isDigit.desc).map (fun d => d.parameters.length) = some 0 := by decide +kernel
theorem hdX9_pass : yX9_pass.cls ≠ "java/lang/invoke/MethodHandle" ∧ yX9_pass.cls ≠ "java/lang/invoke/VarHandle" ∧ (parseMethodDescriptor yX9_pass.desc).map (fun d => d.parameters.length) = some 1 := by decide +kernel
theorem hdX9_read : yX9_read.cls ≠ "java/lang/invoke/MethodHandle" ∧ yX9_read.cls ≠ "java/lang/invoke/VarHandle" ∧ (parseMethodDescriptor yX9_read.desc).map (fun d => d.parameters.length) = some 1 := by decide +kernel
theorem hdX9_readMatrix : yX9_readMatrix.cls ≠ "java/lang/invoke/MethodHandle" ∧ yX9_readMatrix.cls ≠ "java/lang/invoke/VarHandle" ∧ (parseMethodDescriptor yX9_readMatrix.desc).map (fun d => d.parameters.length) = some 1 := by decide +kernel
theorem hdX9_readNumber : yX9_readNumber.cls ≠ "java/lang/invoke/MethodHandle" ∧ yX9_readNumber.cls ≠ "java/lang/invoke/VarHandle" ∧ (parseMethodDescriptor yX9_readNumber.desc).map (fun d => d.parameters.length) = some 1 := by decide +kernel
theorem hdX9_receive : yX9_receive.cls ≠ "java/lang/invoke/MethodHandle" ∧ yX9_receive.cls ≠ "java/lang/invoke/VarHandle" ∧ (parseMethodDescriptor yX9_receive.desc).map (fun d => d.parameters.length) = some 2 := by decide +kernel
theorem hdX9_skipBlanks : yX9_skipBlanks.cls ≠ "java/lang/invoke/MethodHandle" ∧ yX9_skipBlanks.cls ≠ "java/lang/invoke/VarHandle" ∧ (parseMethodDescriptor yX9_skipBlanks.desc).map (fun d => d.parameters.length) = some 0 := by decide +kernel
theorem wStepSame : Cond.sameMethod yStep.cls yStep.cls yStep.name yStep.desc ∈ uw := uw_mem 526 (by decide +kernel) (by decide +kernel)
theorem li_m1000 : ((-1000) : Int32).toInt = (-1000) := by decide +kernel
theorem li_m100 : ((-100) : Int32).toInt = (-100) := by decide +kernel
theorem li_m99 : ((-99) : Int32).toInt = (-99) := by decide +kernel
theorem li_m16 : ((-16) : Int32).toInt = (-16) := by decide +kernel
theorem li_m14 : ((-14) : Int32).toInt = (-14) := by decide +kernel
theorem li_m13 : ((-13) : Int32).toInt = (-13) := by decide +kernel
theorem li_m12 : ((-12) : Int32).toInt = (-12) := by decide +kernel
theorem li_m11 : ((-11) : Int32).toInt = (-11) := by decide +kernel
theorem li_m3 : ((-3) : Int32).toInt = (-3) := by decide +kernel
theorem li_m2 : ((-2) : Int32).toInt = (-2) := by decide +kernel
theorem li_m1 : ((-1) : Int32).toInt = (-1) := by decide +kernel
theorem li_0 : (0 : Int32).toInt = 0 := by decide +kernel
theorem li_1 : (1 : Int32).toInt = 1 := by decide +kernel
theorem li_2 : (2 : Int32).toInt = 2 := by decide +kernel
theorem li_3 : (3 : Int32).toInt = 3 := by decide +kernel
theorem li_4 : (4 : Int32).toInt = 4 := by decide +kernel
theorem li_5 : (5 : Int32).toInt = 5 := by decide +kernel
theorem li_6 : (6 : Int32).toInt = 6 := by decide +kernel
theorem li_7 : (7 : Int32).toInt = 7 := by decide +kernel
theorem li_8 : (8 : Int32).toInt = 8 := by decide +kernel
theorem li_9 : (9 : Int32).toInt = 9 := by decide +kernel
theorem li_10 : (10 : Int32).toInt = 10 := by decide +kernel
theorem li_12 : (12 : Int32).toInt = 12 := by decide +kernel
theorem li_32 : (32 : Int32).toInt = 32 := by decide +kernel
theorem li_36 : (36 : Int32).toInt = 36 := by decide +kernel
theorem li_40 : (40 : Int32).toInt = 40 := by decide +kernel
theorem li_45 : (45 : Int32).toInt = 45 := by decide +kernel
theorem li_47 : (47 : Int32).toInt = 47 := by decide +kernel
theorem li_48 : (48 : Int32).toInt = 48 := by decide +kernel
theorem li_57 : (57 : Int32).toInt = 57 := by decide +kernel
theorem li_59 : (59 : Int32).toInt = 59 := by decide +kernel
theorem li_60 : (60 : Int32).toInt = 60 := by decide +kernel
theorem li_99 : (99 : Int32).toInt = 99 := by decide +kernel
theorem li_100 : (100 : Int32).toInt = 100 := by decide +kernel
theorem li_120 : (120 : Int32).toInt = 120 := by decide +kernel
theorem li_128 : (128 : Int32).toInt = 128 := by decide +kernel
theorem li_200 : (200 : Int32).toInt = 200 := by decide +kernel
theorem li_256 : (256 : Int32).toInt = 256 := by decide +kernel
theorem li_400 : (400 : Int32).toInt = 400 := by decide +kernel
theorem li_1000 : (1000 : Int32).toInt = 1000 := by decide +kernel
theorem li_1024 : (1024 : Int32).toInt = 1024 := by decide +kernel
theorem li_100000000 : (100000000 : Int32).toInt = 100000000 := by decide +kernel
theorem li_999999999 : (999999999 : Int32).toInt = 999999999 := by decide +kernel
theorem ll_m4000000000000000000 : ((-4000000000000000000) : Int64).toInt = (-4000000000000000000) := by decide +kernel
theorem ll_m1000000000 : ((-1000000000) : Int64).toInt = (-1000000000) := by decide +kernel
theorem ll_m1000000 : ((-1000000) : Int64).toInt = (-1000000) := by decide +kernel
theorem ll_m1000 : ((-1000) : Int64).toInt = (-1000) := by decide +kernel
theorem ll_m99 : ((-99) : Int64).toInt = (-99) := by decide +kernel
theorem ll_m1 : ((-1) : Int64).toInt = (-1) := by decide +kernel
theorem ll_0 : (0 : Int64).toInt = 0 := by decide +kernel
theorem ll_1 : (1 : Int64).toInt = 1 := by decide +kernel
theorem ll_2 : (2 : Int64).toInt = 2 := by decide +kernel
theorem ll_3 : (3 : Int64).toInt = 3 := by decide +kernel
theorem ll_4 : (4 : Int64).toInt = 4 := by decide +kernel
theorem ll_8 : (8 : Int64).toInt = 8 := by decide +kernel
theorem ll_48 : (48 : Int64).toInt = 48 := by decide +kernel
theorem ll_57 : (57 : Int64).toInt = 57 := by decide +kernel
theorem ll_99 : (99 : Int64).toInt = 99 := by decide +kernel
theorem ll_1000 : (1000 : Int64).toInt = 1000 := by decide +kernel
theorem ll_1000000 : (1000000 : Int64).toInt = 1000000 := by decide +kernel
theorem ll_1000000000 : (1000000000 : Int64).toInt = 1000000000 := by decide +kernel
theorem ll_4000000000000000000 : (4000000000000000000 : Int64).toInt = 4000000000000000000 := by decide +kernel
