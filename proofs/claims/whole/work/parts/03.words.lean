theorem ci_L : Cond.initialized "AlloyPlansLaw" ∈ TB := tb_mem (List.mem_of_getElem? (i := 0) (by decide +kernel)) rfl
theorem ci_P : Cond.initialized "AlloyPlans" ∈ TB := tb_mem (List.mem_of_getElem? (i := 1) (by decide +kernel)) rfl
theorem ci_E : Cond.initialized "AlloyPlans$Melt" ∈ TB := tb_mem (List.mem_of_getElem? (i := 2) (by decide +kernel)) rfl
theorem ci_A : Cond.initialized "AlloyPlans$Alloy" ∈ TB := tb_mem (List.mem_of_getElem? (i := 3) (by decide +kernel)) rfl
theorem ci_N : Cond.initialized "AlloyPlans$Plan" ∈ TB := tb_mem (List.mem_of_getElem? (i := 4) (by decide +kernel)) rfl
theorem ci_S : Cond.initialized "AlloyPlans$Search" ∈ TB := tb_mem (List.mem_of_getElem? (i := 5) (by decide +kernel)) rfl
theorem ci_X : Cond.initialized "AlloyPlans$Mix" ∈ TB := tb_mem (List.mem_of_getElem? (i := 6) (by decide +kernel)) rfl
theorem ci_M : Cond.initialized "AlloyPlansModel" ∈ TB := tb_mem (List.mem_of_getElem? (i := 7) (by decide +kernel)) rfl
theorem ci_Throwable : Cond.initialized "java/lang/Throwable" ∈ TB := tb_mem (List.mem_of_getElem? (i := 8) (by decide +kernel)) rfl
theorem ci_Exception : Cond.initialized "java/lang/Exception" ∈ TB := tb_mem (List.mem_of_getElem? (i := 9) (by decide +kernel)) rfl
theorem ci_RuntimeException : Cond.initialized "java/lang/RuntimeException" ∈ TB := tb_mem (List.mem_of_getElem? (i := 10) (by decide +kernel)) rfl
theorem ci_IllegalStateException : Cond.initialized "java/lang/IllegalStateException" ∈ TB := tb_mem (List.mem_of_getElem? (i := 11) (by decide +kernel)) rfl
theorem ci_IllegalArgumentException : Cond.initialized "java/lang/IllegalArgumentException" ∈ TB := tb_mem (List.mem_of_getElem? (i := 12) (by decide +kernel)) rfl
theorem ci_IndexOutOfBoundsException : Cond.initialized "java/lang/IndexOutOfBoundsException" ∈ TB := tb_mem (List.mem_of_getElem? (i := 13) (by decide +kernel)) rfl
theorem ci_UnsupportedOperationException : Cond.initialized "java/lang/UnsupportedOperationException" ∈ TB := tb_mem (List.mem_of_getElem? (i := 14) (by decide +kernel)) rfl
theorem ci_Math : Cond.initialized "java/lang/Math" ∈ TB := tb_mem (List.mem_of_getElem? (i := 15) (by decide +kernel)) rfl
theorem ci_System : Cond.initialized "java/lang/System" ∈ TB := tb_mem (List.mem_of_getElem? (i := 16) (by decide +kernel)) rfl
theorem kl_L_8 : Cond.classLink "AlloyPlansLaw" 8 "AlloyPlans" ∈ TB := tb_mem (List.mem_of_getElem? (i := 17) (by decide +kernel)) rfl
theorem cm_P : Cond.instantiable "AlloyPlans" 5 ∈ TB := tb_mem (List.mem_of_getElem? (i := 18) (by decide +kernel)) rfl
theorem ml_L_64 : Cond.methodLink "AlloyPlansLaw" 64 ⟨"AlloyPlans", "<init>", "()V"⟩ ∈ TB := tb_mem (List.mem_of_getElem? (i := 19) (by decide +kernel)) rfl
theorem im_P_init : Cond.instanceMethod ⟨"AlloyPlans", "<init>", "()V"⟩ ∈ TB := tb_mem (List.mem_of_getElem? (i := 20) (by decide +kernel)) rfl
set_option maxRecDepth 20000 in
theorem w_P_init : Cond.code y_P_init c_P_init 2 none ∈ TB := tb_mem (List.mem_of_getElem? (i := 21) rfl) rfl
theorem ml_P_3 : Cond.methodLink "AlloyPlans" 3 ⟨"java/lang/Object", "<init>", "()V"⟩ ∈ TB := tb_mem (List.mem_of_getElem? (i := 22) (by decide +kernel)) rfl
theorem kl_P_9 : Cond.classLink "AlloyPlans" 9 "AlloyPlans$Melt" ∈ TB := tb_mem (List.mem_of_getElem? (i := 25) (by decide +kernel)) rfl
theorem cm_E : Cond.instantiable "AlloyPlans$Melt" 5 ∈ TB := tb_mem (List.mem_of_getElem? (i := 26) (by decide +kernel)) rfl
theorem ml_P_11 : Cond.methodLink "AlloyPlans" 11 ⟨"AlloyPlans$Melt", "<init>", "()V"⟩ ∈ TB := tb_mem (List.mem_of_getElem? (i := 27) (by decide +kernel)) rfl
theorem im_E_init : Cond.instanceMethod ⟨"AlloyPlans$Melt", "<init>", "()V"⟩ ∈ TB := tb_mem (List.mem_of_getElem? (i := 28) (by decide +kernel)) rfl
set_option maxRecDepth 20000 in
theorem w_E_init : Cond.code y_E_init c_E_init 2 none ∈ TB := tb_mem (List.mem_of_getElem? (i := 29) rfl) rfl
theorem ml_E_3 : Cond.methodLink "AlloyPlans$Melt" 3 ⟨"java/lang/Object", "<init>", "()V"⟩ ∈ TB := tb_mem (List.mem_of_getElem? (i := 30) (by decide +kernel)) rfl
theorem sm_P_isLowEnd : Cond.static ⟨"AlloyPlans", "isLowEnd", "(I)Z"⟩ ∈ TB := tb_mem (List.mem_of_getElem? (i := 32) (by decide +kernel)) rfl
set_option maxRecDepth 20000 in
theorem w_P_isLowEnd : Cond.code y_P_isLowEnd c_P_isLowEnd 1 (some .boolean) ∈ TB := tb_mem (List.mem_of_getElem? (i := 33) rfl) rfl
theorem kc_E_26 : Cond.constant "AlloyPlans$Melt" 26 (100000 : Int32) ∈ TB := tb_mem (List.mem_of_getElem? (i := 34) (by decide +kernel)) rfl
theorem fl_E_9 : Cond.fieldLink "AlloyPlans$Melt" 9 "AlloyPlans$Melt" "kilos" "I" ∈ TB := tb_mem (List.mem_of_getElem? (i := 35) (by decide +kernel)) rfl
theorem fl_P_60 : Cond.fieldLink "AlloyPlans" 60 "AlloyPlans$Melt" "kilos" "I" ∈ TB := tb_mem (List.mem_of_getElem? (i := 36) (by decide +kernel)) rfl
theorem fl_P_41 : Cond.fieldLink "AlloyPlans" 41 "AlloyPlans$Melt" "additions" "I" ∈ TB := tb_mem (List.mem_of_getElem? (i := 37) (by decide +kernel)) rfl
theorem fl_P_168 : Cond.fieldLink "AlloyPlans" 168 "AlloyPlans$Melt" "cents" "J" ∈ TB := tb_mem (List.mem_of_getElem? (i := 38) (by decide +kernel)) rfl
theorem fl_E_15 : Cond.fieldLink "AlloyPlans$Melt" 15 "AlloyPlans$Melt" "presentEnds" "[I" ∈ TB := tb_mem (List.mem_of_getElem? (i := 39) (by decide +kernel)) rfl
theorem fl_P_73 : Cond.fieldLink "AlloyPlans" 73 "AlloyPlans$Melt" "presentEnds" "[I" ∈ TB := tb_mem (List.mem_of_getElem? (i := 40) (by decide +kernel)) rfl
theorem fl_E_19 : Cond.fieldLink "AlloyPlans$Melt" 19 "AlloyPlans$Melt" "aimEnds" "[I" ∈ TB := tb_mem (List.mem_of_getElem? (i := 41) (by decide +kernel)) rfl
theorem fl_S_33 : Cond.fieldLink "AlloyPlans$Search" 33 "AlloyPlans$Melt" "aimEnds" "[I" ∈ TB := tb_mem (List.mem_of_getElem? (i := 42) (by decide +kernel)) rfl
theorem fl_P_81 : Cond.fieldLink "AlloyPlans" 81 "AlloyPlans$Melt" "aimEnds" "[I" ∈ TB := tb_mem (List.mem_of_getElem? (i := 43) (by decide +kernel)) rfl
theorem kl_P_16 : Cond.classLink "AlloyPlans" 16 "AlloyPlans$Alloy" ∈ TB := tb_mem (List.mem_of_getElem? (i := 56) (by decide +kernel)) rfl
theorem cm_A : Cond.instantiable "AlloyPlans$Alloy" 7 ∈ TB := tb_mem (List.mem_of_getElem? (i := 58) (by decide +kernel)) rfl
theorem ml_P_22 : Cond.methodLink "AlloyPlans" 22 ⟨"AlloyPlans$Alloy", "<init>", "()V"⟩ ∈ TB := tb_mem (List.mem_of_getElem? (i := 59) (by decide +kernel)) rfl
theorem im_A_init : Cond.instanceMethod ⟨"AlloyPlans$Alloy", "<init>", "()V"⟩ ∈ TB := tb_mem (List.mem_of_getElem? (i := 60) (by decide +kernel)) rfl
set_option maxRecDepth 20000 in
theorem w_A_init : Cond.code y_A_init c_A_init 1 none ∈ TB := tb_mem (List.mem_of_getElem? (i := 61) rfl) rfl
theorem ml_A_3 : Cond.methodLink "AlloyPlans$Alloy" 3 ⟨"java/lang/Object", "<init>", "()V"⟩ ∈ TB := tb_mem (List.mem_of_getElem? (i := 62) (by decide +kernel)) rfl
theorem fl_X_37 : Cond.fieldLink "AlloyPlans$Mix" 37 "AlloyPlans$Alloy" "cents" "I" ∈ TB := tb_mem (List.mem_of_getElem? (i := 63) (by decide +kernel)) rfl
theorem fl_N_32 : Cond.fieldLink "AlloyPlans$Plan" 32 "AlloyPlans$Alloy" "cents" "I" ∈ TB := tb_mem (List.mem_of_getElem? (i := 64) (by decide +kernel)) rfl
theorem fl_P_90 : Cond.fieldLink "AlloyPlans" 90 "AlloyPlans$Alloy" "cents" "I" ∈ TB := tb_mem (List.mem_of_getElem? (i := 65) (by decide +kernel)) rfl
theorem fl_A_9 : Cond.fieldLink "AlloyPlans$Alloy" 9 "AlloyPlans$Alloy" "kilos" "I" ∈ TB := tb_mem (List.mem_of_getElem? (i := 66) (by decide +kernel)) rfl
theorem fl_N_35 : Cond.fieldLink "AlloyPlans$Plan" 35 "AlloyPlans$Alloy" "kilos" "I" ∈ TB := tb_mem (List.mem_of_getElem? (i := 67) (by decide +kernel)) rfl
theorem fl_P_93 : Cond.fieldLink "AlloyPlans" 93 "AlloyPlans$Alloy" "kilos" "I" ∈ TB := tb_mem (List.mem_of_getElem? (i := 68) (by decide +kernel)) rfl
theorem fl_S_59 : Cond.fieldLink "AlloyPlans$Search" 59 "AlloyPlans$Alloy" "mostSteps" "I" ∈ TB := tb_mem (List.mem_of_getElem? (i := 69) (by decide +kernel)) rfl
theorem fl_P_94 : Cond.fieldLink "AlloyPlans" 94 "AlloyPlans$Alloy" "mostSteps" "I" ∈ TB := tb_mem (List.mem_of_getElem? (i := 70) (by decide +kernel)) rfl
theorem fl_A_15 : Cond.fieldLink "AlloyPlans$Alloy" 15 "AlloyPlans$Alloy" "thousandths" "I" ∈ TB := tb_mem (List.mem_of_getElem? (i := 71) (by decide +kernel)) rfl
theorem fl_P_104 : Cond.fieldLink "AlloyPlans" 104 "AlloyPlans$Alloy" "thousandths" "I" ∈ TB := tb_mem (List.mem_of_getElem? (i := 72) (by decide +kernel)) rfl
theorem fl_A_26 : Cond.fieldLink "AlloyPlans$Alloy" 26 "AlloyPlans$Alloy" "cooling" "I" ∈ TB := tb_mem (List.mem_of_getElem? (i := 73) (by decide +kernel)) rfl
theorem fl_P_107 : Cond.fieldLink "AlloyPlans" 107 "AlloyPlans$Alloy" "cooling" "I" ∈ TB := tb_mem (List.mem_of_getElem? (i := 74) (by decide +kernel)) rfl
theorem fl_A_18 : Cond.fieldLink "AlloyPlans$Alloy" 18 "AlloyPlans$Alloy" "ends" "[I" ∈ TB := tb_mem (List.mem_of_getElem? (i := 75) (by decide +kernel)) rfl
theorem fl_P_101 : Cond.fieldLink "AlloyPlans" 101 "AlloyPlans$Alloy" "ends" "[I" ∈ TB := tb_mem (List.mem_of_getElem? (i := 76) (by decide +kernel)) rfl
theorem fl_A_22 : Cond.fieldLink "AlloyPlans$Alloy" 22 "AlloyPlans$Alloy" "gains" "[J" ∈ TB := tb_mem (List.mem_of_getElem? (i := 77) (by decide +kernel)) rfl
theorem fl_X_44 : Cond.fieldLink "AlloyPlans$Mix" 44 "AlloyPlans$Alloy" "gains" "[J" ∈ TB := tb_mem (List.mem_of_getElem? (i := 78) (by decide +kernel)) rfl
theorem kl_P_23 : Cond.classLink "AlloyPlans" 23 "AlloyPlans$Plan" ∈ TB := tb_mem (List.mem_of_getElem? (i := 95) (by decide +kernel)) rfl
theorem cm_N : Cond.instantiable "AlloyPlans$Plan" 6 ∈ TB := tb_mem (List.mem_of_getElem? (i := 96) (by decide +kernel)) rfl
theorem ml_P_25 : Cond.methodLink "AlloyPlans" 25 ⟨"AlloyPlans$Plan", "<init>", "()V"⟩ ∈ TB := tb_mem (List.mem_of_getElem? (i := 97) (by decide +kernel)) rfl
theorem im_N_init : Cond.instanceMethod ⟨"AlloyPlans$Plan", "<init>", "()V"⟩ ∈ TB := tb_mem (List.mem_of_getElem? (i := 98) (by decide +kernel)) rfl
set_option maxRecDepth 20000 in
theorem w_N_init : Cond.code y_N_init c_N_init 1 none ∈ TB := tb_mem (List.mem_of_getElem? (i := 99) rfl) rfl
theorem ml_N_3 : Cond.methodLink "AlloyPlans$Plan" 3 ⟨"java/lang/Object", "<init>", "()V"⟩ ∈ TB := tb_mem (List.mem_of_getElem? (i := 100) (by decide +kernel)) rfl
theorem fl_N_15 : Cond.fieldLink "AlloyPlans$Plan" 15 "AlloyPlans$Plan" "stands" "Z" ∈ TB := tb_mem (List.mem_of_getElem? (i := 101) (by decide +kernel)) rfl
theorem fl_P_181 : Cond.fieldLink "AlloyPlans" 181 "AlloyPlans$Plan" "stands" "Z" ∈ TB := tb_mem (List.mem_of_getElem? (i := 102) (by decide +kernel)) rfl
theorem fl_N_19 : Cond.fieldLink "AlloyPlans$Plan" 19 "AlloyPlans$Plan" "cents" "I" ∈ TB := tb_mem (List.mem_of_getElem? (i := 103) (by decide +kernel)) rfl
theorem fl_P_135 : Cond.fieldLink "AlloyPlans" 135 "AlloyPlans$Plan" "cents" "I" ∈ TB := tb_mem (List.mem_of_getElem? (i := 104) (by decide +kernel)) rfl
theorem fl_N_23 : Cond.fieldLink "AlloyPlans$Plan" 23 "AlloyPlans$Plan" "kilos" "I" ∈ TB := tb_mem (List.mem_of_getElem? (i := 105) (by decide +kernel)) rfl
theorem fl_P_136 : Cond.fieldLink "AlloyPlans" 136 "AlloyPlans$Plan" "kilos" "I" ∈ TB := tb_mem (List.mem_of_getElem? (i := 106) (by decide +kernel)) rfl
theorem fl_N_26 : Cond.fieldLink "AlloyPlans$Plan" 26 "AlloyPlans$Plan" "kinds" "I" ∈ TB := tb_mem (List.mem_of_getElem? (i := 107) (by decide +kernel)) rfl
theorem fl_P_137 : Cond.fieldLink "AlloyPlans" 137 "AlloyPlans$Plan" "kinds" "I" ∈ TB := tb_mem (List.mem_of_getElem? (i := 108) (by decide +kernel)) rfl
theorem fl_N_29 : Cond.fieldLink "AlloyPlans$Plan" 29 "AlloyPlans$Plan" "cooling" "I" ∈ TB := tb_mem (List.mem_of_getElem? (i := 109) (by decide +kernel)) rfl
theorem fl_P_140 : Cond.fieldLink "AlloyPlans" 140 "AlloyPlans$Plan" "cooling" "I" ∈ TB := tb_mem (List.mem_of_getElem? (i := 110) (by decide +kernel)) rfl
theorem fl_N_9 : Cond.fieldLink "AlloyPlans$Plan" 9 "AlloyPlans$Plan" "taken" "[I" ∈ TB := tb_mem (List.mem_of_getElem? (i := 111) (by decide +kernel)) rfl
theorem fl_P_132 : Cond.fieldLink "AlloyPlans" 132 "AlloyPlans$Plan" "taken" "[I" ∈ TB := tb_mem (List.mem_of_getElem? (i := 112) (by decide +kernel)) rfl
theorem kl_P_30 : Cond.classLink "AlloyPlans" 30 "AlloyPlans$Search" ∈ TB := tb_mem (List.mem_of_getElem? (i := 126) (by decide +kernel)) rfl
theorem cm_S : Cond.instantiable "AlloyPlans$Search" 7 ∈ TB := tb_mem (List.mem_of_getElem? (i := 127) (by decide +kernel)) rfl
theorem ml_P_32 : Cond.methodLink "AlloyPlans" 32 ⟨"AlloyPlans$Search", "<init>", "()V"⟩ ∈ TB := tb_mem (List.mem_of_getElem? (i := 128) (by decide +kernel)) rfl
theorem im_S_init : Cond.instanceMethod ⟨"AlloyPlans$Search", "<init>", "()V"⟩ ∈ TB := tb_mem (List.mem_of_getElem? (i := 129) (by decide +kernel)) rfl
set_option maxRecDepth 20000 in
theorem w_S_init : Cond.code y_S_init c_S_init 2 none ∈ TB := tb_mem (List.mem_of_getElem? (i := 130) rfl) rfl
theorem ml_S_3 : Cond.methodLink "AlloyPlans$Search" 3 ⟨"java/lang/Object", "<init>", "()V"⟩ ∈ TB := tb_mem (List.mem_of_getElem? (i := 131) (by decide +kernel)) rfl
theorem kl_S_18 : Cond.classLink "AlloyPlans$Search" 18 "AlloyPlans$Mix" ∈ TB := tb_mem (List.mem_of_getElem? (i := 132) (by decide +kernel)) rfl
theorem cm_X : Cond.instantiable "AlloyPlans$Mix" 4 ∈ TB := tb_mem (List.mem_of_getElem? (i := 134) (by decide +kernel)) rfl
theorem ml_S_24 : Cond.methodLink "AlloyPlans$Search" 24 ⟨"AlloyPlans$Mix", "<init>", "()V"⟩ ∈ TB := tb_mem (List.mem_of_getElem? (i := 135) (by decide +kernel)) rfl
theorem im_X_init : Cond.instanceMethod ⟨"AlloyPlans$Mix", "<init>", "()V"⟩ ∈ TB := tb_mem (List.mem_of_getElem? (i := 136) (by decide +kernel)) rfl
set_option maxRecDepth 20000 in
theorem w_X_init : Cond.code y_X_init c_X_init 1 none ∈ TB := tb_mem (List.mem_of_getElem? (i := 137) rfl) rfl
theorem ml_X_3 : Cond.methodLink "AlloyPlans$Mix" 3 ⟨"java/lang/Object", "<init>", "()V"⟩ ∈ TB := tb_mem (List.mem_of_getElem? (i := 138) (by decide +kernel)) rfl
theorem fl_X_15 : Cond.fieldLink "AlloyPlans$Mix" 15 "AlloyPlans$Mix" "cents" "I" ∈ TB := tb_mem (List.mem_of_getElem? (i := 139) (by decide +kernel)) rfl
theorem fl_S_73 : Cond.fieldLink "AlloyPlans$Search" 73 "AlloyPlans$Mix" "cents" "I" ∈ TB := tb_mem (List.mem_of_getElem? (i := 140) (by decide +kernel)) rfl
theorem fl_X_19 : Cond.fieldLink "AlloyPlans$Mix" 19 "AlloyPlans$Mix" "kinds" "I" ∈ TB := tb_mem (List.mem_of_getElem? (i := 141) (by decide +kernel)) rfl
theorem fl_S_79 : Cond.fieldLink "AlloyPlans$Search" 79 "AlloyPlans$Mix" "kinds" "I" ∈ TB := tb_mem (List.mem_of_getElem? (i := 142) (by decide +kernel)) rfl
theorem fl_X_22 : Cond.fieldLink "AlloyPlans$Mix" 22 "AlloyPlans$Mix" "heatLeft" "I" ∈ TB := tb_mem (List.mem_of_getElem? (i := 143) (by decide +kernel)) rfl
theorem fl_S_70 : Cond.fieldLink "AlloyPlans$Search" 70 "AlloyPlans$Mix" "heatLeft" "I" ∈ TB := tb_mem (List.mem_of_getElem? (i := 144) (by decide +kernel)) rfl
theorem fl_X_9 : Cond.fieldLink "AlloyPlans$Mix" 9 "AlloyPlans$Mix" "surplus" "[J" ∈ TB := tb_mem (List.mem_of_getElem? (i := 145) (by decide +kernel)) rfl
theorem fl_S_25 : Cond.fieldLink "AlloyPlans$Search" 25 "AlloyPlans$Search" "found" "Z" ∈ TB := tb_mem (List.mem_of_getElem? (i := 155) (by decide +kernel)) rfl
theorem fl_P_115 : Cond.fieldLink "AlloyPlans" 115 "AlloyPlans$Search" "found" "Z" ∈ TB := tb_mem (List.mem_of_getElem? (i := 156) (by decide +kernel)) rfl
theorem fl_S_29 : Cond.fieldLink "AlloyPlans$Search" 29 "AlloyPlans$Search" "mostMet" "I" ∈ TB := tb_mem (List.mem_of_getElem? (i := 157) (by decide +kernel)) rfl
theorem fl_P_119 : Cond.fieldLink "AlloyPlans" 119 "AlloyPlans$Search" "mostMet" "I" ∈ TB := tb_mem (List.mem_of_getElem? (i := 158) (by decide +kernel)) rfl
theorem fl_S_9 : Cond.fieldLink "AlloyPlans$Search" 9 "AlloyPlans$Search" "best" "[I" ∈ TB := tb_mem (List.mem_of_getElem? (i := 159) (by decide +kernel)) rfl
theorem fl_P_122 : Cond.fieldLink "AlloyPlans" 122 "AlloyPlans$Search" "best" "[I" ∈ TB := tb_mem (List.mem_of_getElem? (i := 160) (by decide +kernel)) rfl
theorem fl_S_76 : Cond.fieldLink "AlloyPlans$Search" 76 "AlloyPlans$Search" "bestCents" "I" ∈ TB := tb_mem (List.mem_of_getElem? (i := 161) (by decide +kernel)) rfl
theorem fl_S_82 : Cond.fieldLink "AlloyPlans$Search" 82 "AlloyPlans$Search" "bestKinds" "I" ∈ TB := tb_mem (List.mem_of_getElem? (i := 162) (by decide +kernel)) rfl
theorem fl_S_15 : Cond.fieldLink "AlloyPlans$Search" 15 "AlloyPlans$Search" "tried" "[I" ∈ TB := tb_mem (List.mem_of_getElem? (i := 163) (by decide +kernel)) rfl
theorem fl_S_20 : Cond.fieldLink "AlloyPlans$Search" 20 "AlloyPlans$Search" "mixes" "[LAlloyPlans$Mix;" ∈ TB := tb_mem (List.mem_of_getElem? (i := 164) (by decide +kernel)) rfl
theorem fl_P_12 : Cond.fieldLink "AlloyPlans" 12 "AlloyPlans" "melt" "LAlloyPlans$Melt;" ∈ TB := tb_mem (List.mem_of_getElem? (i := 180) (by decide +kernel)) rfl
theorem fl_P_18 : Cond.fieldLink "AlloyPlans" 18 "AlloyPlans" "alloys" "[LAlloyPlans$Alloy;" ∈ TB := tb_mem (List.mem_of_getElem? (i := 181) (by decide +kernel)) rfl
theorem fl_P_26 : Cond.fieldLink "AlloyPlans" 26 "AlloyPlans" "plan" "LAlloyPlans$Plan;" ∈ TB := tb_mem (List.mem_of_getElem? (i := 182) (by decide +kernel)) rfl
theorem fl_P_33 : Cond.fieldLink "AlloyPlans" 33 "AlloyPlans" "search" "LAlloyPlans$Search;" ∈ TB := tb_mem (List.mem_of_getElem? (i := 183) (by decide +kernel)) rfl
theorem fl_P_37 : Cond.fieldLink "AlloyPlans" 37 "AlloyPlans" "kindCount" "I" ∈ TB := tb_mem (List.mem_of_getElem? (i := 184) (by decide +kernel)) rfl
theorem ml_L_68 : Cond.methodLink "AlloyPlansLaw" 68 ⟨"AlloyPlansLaw", "heat", "(LAlloyPlans;I)I"⟩ ∈ TB := tb_mem (List.mem_of_getElem? (i := 196) (by decide +kernel)) rfl
theorem sm_L_heat : Cond.static ⟨"AlloyPlansLaw", "heat", "(LAlloyPlans;I)I"⟩ ∈ TB := tb_mem (List.mem_of_getElem? (i := 197) (by decide +kernel)) rfl
set_option maxRecDepth 20000 in
theorem w_L_heat : Cond.codeWith y_L_heat c_L_heat 3 (some .int) [(0, 5, 8, 13), (0, 5, 11, 15)] ∈ TB := tb_mem (List.mem_of_getElem? (i := 198) rfl) rfl
theorem kl_L_13 : Cond.classLink "AlloyPlansLaw" 13 "java/lang/IllegalStateException" ∈ TB := tb_mem (List.mem_of_getElem? (i := 199) (by decide +kernel)) rfl
theorem kl_L_15 : Cond.classLink "AlloyPlansLaw" 15 "java/lang/IllegalArgumentException" ∈ TB := tb_mem (List.mem_of_getElem? (i := 200) (by decide +kernel)) rfl
theorem ml_L_7 : Cond.methodLink "AlloyPlansLaw" 7 ⟨"AlloyPlans", "heat", "(I)V"⟩ ∈ TB := tb_mem (List.mem_of_getElem? (i := 201) (by decide +kernel)) rfl
theorem im_P_heat : Cond.instanceMethod ⟨"AlloyPlans", "heat", "(I)V"⟩ ∈ TB := tb_mem (List.mem_of_getElem? (i := 202) (by decide +kernel)) rfl
theorem se_P_heat : Cond.selects "AlloyPlans" ⟨"AlloyPlans", "heat", "(I)V"⟩ ⟨"AlloyPlans", "heat", "(I)V"⟩ ∈ TB := tb_mem (List.mem_of_getElem? (i := 203) (by decide +kernel)) rfl
set_option maxRecDepth 20000 in
theorem w_P_heat : Cond.code y_P_heat c_P_heat 2 none ∈ TB := tb_mem (List.mem_of_getElem? (i := 204) rfl) rfl
theorem kl_P_44 : Cond.classLink "AlloyPlans" 44 "java/lang/IllegalStateException" ∈ TB := tb_mem (List.mem_of_getElem? (i := 205) (by decide +kernel)) rfl
theorem cm_IllegalStateException : Cond.instantiable "java/lang/IllegalStateException" 6 ∈ TB := tb_mem (List.mem_of_getElem? (i := 206) (by decide +kernel)) rfl
theorem cm_Throwable : Cond.instantiable "java/lang/Throwable" 6 ∈ TB := tb_mem (List.mem_of_getElem? (i := 245) (by decide +kernel)) rfl
theorem ml_P_48 : Cond.methodLink "AlloyPlans" 48 ⟨"java/lang/IllegalStateException", "<init>", "(Ljava/lang/String;)V"⟩ ∈ TB := tb_mem (List.mem_of_getElem? (i := 248) (by decide +kernel)) rfl
theorem kc_P_51 : Cond.constant "AlloyPlans" 51 (65536 : Int32) ∈ TB := tb_mem (List.mem_of_getElem? (i := 274) (by decide +kernel)) rfl
theorem ml_P_52 : Cond.methodLink "AlloyPlans" 52 ⟨"AlloyPlans", "isWithin", "(III)Z"⟩ ∈ TB := tb_mem (List.mem_of_getElem? (i := 275) (by decide +kernel)) rfl
theorem sm_P_isWithin : Cond.static ⟨"AlloyPlans", "isWithin", "(III)Z"⟩ ∈ TB := tb_mem (List.mem_of_getElem? (i := 276) (by decide +kernel)) rfl
set_option maxRecDepth 20000 in
theorem w_P_isWithin : Cond.code y_P_isWithin c_P_isWithin 3 (some .boolean) ∈ TB := tb_mem (List.mem_of_getElem? (i := 277) rfl) rfl
theorem ml_P_56 : Cond.methodLink "AlloyPlans" 56 ⟨"AlloyPlans", "requireRange", "(Z)V"⟩ ∈ TB := tb_mem (List.mem_of_getElem? (i := 278) (by decide +kernel)) rfl
theorem sm_P_requireRange : Cond.static ⟨"AlloyPlans", "requireRange", "(Z)V"⟩ ∈ TB := tb_mem (List.mem_of_getElem? (i := 279) (by decide +kernel)) rfl
set_option maxRecDepth 20000 in
theorem w_P_requireRange : Cond.code y_P_requireRange c_P_requireRange 1 none ∈ TB := tb_mem (List.mem_of_getElem? (i := 280) rfl) rfl
theorem kl_P_176 : Cond.classLink "AlloyPlans" 176 "java/lang/IllegalArgumentException" ∈ TB := tb_mem (List.mem_of_getElem? (i := 281) (by decide +kernel)) rfl
theorem cm_IllegalArgumentException : Cond.instantiable "java/lang/IllegalArgumentException" 6 ∈ TB := tb_mem (List.mem_of_getElem? (i := 282) (by decide +kernel)) rfl
theorem ml_P_180 : Cond.methodLink "AlloyPlans" 180 ⟨"java/lang/IllegalArgumentException", "<init>", "(Ljava/lang/String;)V"⟩ ∈ TB := tb_mem (List.mem_of_getElem? (i := 291) (by decide +kernel)) rfl
theorem ml_P_63 : Cond.methodLink "AlloyPlans" 63 ⟨"AlloyPlans$Plan", "forget", "()V"⟩ ∈ TB := tb_mem (List.mem_of_getElem? (i := 297) (by decide +kernel)) rfl
theorem im_N_forget : Cond.instanceMethod ⟨"AlloyPlans$Plan", "forget", "()V"⟩ ∈ TB := tb_mem (List.mem_of_getElem? (i := 298) (by decide +kernel)) rfl
theorem se_N_forget : Cond.selects "AlloyPlans$Plan" ⟨"AlloyPlans$Plan", "forget", "()V"⟩ ⟨"AlloyPlans$Plan", "forget", "()V"⟩ ∈ TB := tb_mem (List.mem_of_getElem? (i := 299) (by decide +kernel)) rfl
set_option maxRecDepth 20000 in
theorem w_N_forget : Cond.code y_N_forget c_N_forget 1 none ∈ TB := tb_mem (List.mem_of_getElem? (i := 300) rfl) rfl
theorem ml_L_77 : Cond.methodLink "AlloyPlansLaw" 77 ⟨"AlloyPlansLaw", "present", "(LAlloyPlans;III)I"⟩ ∈ TB := tb_mem (List.mem_of_getElem? (i := 301) (by decide +kernel)) rfl
theorem sm_L_present : Cond.static ⟨"AlloyPlansLaw", "present", "(LAlloyPlans;III)I"⟩ ∈ TB := tb_mem (List.mem_of_getElem? (i := 302) (by decide +kernel)) rfl
set_option maxRecDepth 20000 in
theorem w_L_present : Cond.codeWith y_L_present c_L_present 5 (some .int) [(0, 7, 10, 21), (0, 7, 14, 15)] ∈ TB := tb_mem (List.mem_of_getElem? (i := 303) rfl) rfl
theorem kl_L_21 : Cond.classLink "AlloyPlansLaw" 21 "java/lang/IndexOutOfBoundsException" ∈ TB := tb_mem (List.mem_of_getElem? (i := 304) (by decide +kernel)) rfl
theorem ml_L_17 : Cond.methodLink "AlloyPlansLaw" 17 ⟨"AlloyPlans", "present", "(III)V"⟩ ∈ TB := tb_mem (List.mem_of_getElem? (i := 305) (by decide +kernel)) rfl
theorem im_P_present : Cond.instanceMethod ⟨"AlloyPlans", "present", "(III)V"⟩ ∈ TB := tb_mem (List.mem_of_getElem? (i := 306) (by decide +kernel)) rfl
theorem se_P_present : Cond.selects "AlloyPlans" ⟨"AlloyPlans", "present", "(III)V"⟩ ⟨"AlloyPlans", "present", "(III)V"⟩ ∈ TB := tb_mem (List.mem_of_getElem? (i := 307) (by decide +kernel)) rfl
set_option maxRecDepth 20000 in
theorem w_P_present : Cond.code y_P_present c_P_present 4 none ∈ TB := tb_mem (List.mem_of_getElem? (i := 308) rfl) rfl
theorem ml_P_66 : Cond.methodLink "AlloyPlans" 66 ⟨"AlloyPlans", "requireIndex", "(Z)V"⟩ ∈ TB := tb_mem (List.mem_of_getElem? (i := 309) (by decide +kernel)) rfl
theorem sm_P_requireIndex : Cond.static ⟨"AlloyPlans", "requireIndex", "(Z)V"⟩ ∈ TB := tb_mem (List.mem_of_getElem? (i := 310) (by decide +kernel)) rfl
set_option maxRecDepth 20000 in
theorem w_P_requireIndex : Cond.code y_P_requireIndex c_P_requireIndex 1 none ∈ TB := tb_mem (List.mem_of_getElem? (i := 311) rfl) rfl
theorem kl_P_171 : Cond.classLink "AlloyPlans" 171 "java/lang/IndexOutOfBoundsException" ∈ TB := tb_mem (List.mem_of_getElem? (i := 312) (by decide +kernel)) rfl
theorem cm_IndexOutOfBoundsException : Cond.instantiable "java/lang/IndexOutOfBoundsException" 6 ∈ TB := tb_mem (List.mem_of_getElem? (i := 313) (by decide +kernel)) rfl
theorem ml_P_175 : Cond.methodLink "AlloyPlans" 175 ⟨"java/lang/IndexOutOfBoundsException", "<init>", "(Ljava/lang/String;)V"⟩ ∈ TB := tb_mem (List.mem_of_getElem? (i := 322) (by decide +kernel)) rfl
theorem ml_P_69 : Cond.methodLink "AlloyPlans" 69 ⟨"AlloyPlans", "isSpan", "(II)Z"⟩ ∈ TB := tb_mem (List.mem_of_getElem? (i := 328) (by decide +kernel)) rfl
theorem sm_P_isSpan : Cond.static ⟨"AlloyPlans", "isSpan", "(II)Z"⟩ ∈ TB := tb_mem (List.mem_of_getElem? (i := 329) (by decide +kernel)) rfl
set_option maxRecDepth 20000 in
theorem w_P_isSpan : Cond.code y_P_isSpan c_P_isSpan 2 (some .boolean) ∈ TB := tb_mem (List.mem_of_getElem? (i := 330) rfl) rfl
theorem kc_P_84 : Cond.constant "AlloyPlans" 84 (100000 : Int32) ∈ TB := tb_mem (List.mem_of_getElem? (i := 331) (by decide +kernel)) rfl
theorem ml_P_77 : Cond.methodLink "AlloyPlans" 77 ⟨"AlloyPlans", "tell", "([IIII)V"⟩ ∈ TB := tb_mem (List.mem_of_getElem? (i := 332) (by decide +kernel)) rfl
theorem im_P_tell : Cond.instanceMethod ⟨"AlloyPlans", "tell", "([IIII)V"⟩ ∈ TB := tb_mem (List.mem_of_getElem? (i := 334) (by decide +kernel)) rfl
set_option maxRecDepth 20000 in
theorem w_P_tell : Cond.code y_P_tell c_P_tell 5 none ∈ TB := tb_mem (List.mem_of_getElem? (i := 335) rfl) rfl
theorem ml_L_81 : Cond.methodLink "AlloyPlansLaw" 81 ⟨"AlloyPlansLaw", "aim", "(LAlloyPlans;III)I"⟩ ∈ TB := tb_mem (List.mem_of_getElem? (i := 336) (by decide +kernel)) rfl
theorem sm_L_aim : Cond.static ⟨"AlloyPlansLaw", "aim", "(LAlloyPlans;III)I"⟩ ∈ TB := tb_mem (List.mem_of_getElem? (i := 337) (by decide +kernel)) rfl
set_option maxRecDepth 20000 in
theorem w_L_aim : Cond.codeWith y_L_aim c_L_aim 5 (some .int) [(0, 7, 10, 21), (0, 7, 14, 15)] ∈ TB := tb_mem (List.mem_of_getElem? (i := 338) rfl) rfl
theorem ml_L_23 : Cond.methodLink "AlloyPlansLaw" 23 ⟨"AlloyPlans", "aim", "(III)V"⟩ ∈ TB := tb_mem (List.mem_of_getElem? (i := 339) (by decide +kernel)) rfl
theorem im_P_aim : Cond.instanceMethod ⟨"AlloyPlans", "aim", "(III)V"⟩ ∈ TB := tb_mem (List.mem_of_getElem? (i := 340) (by decide +kernel)) rfl
theorem se_P_aim : Cond.selects "AlloyPlans" ⟨"AlloyPlans", "aim", "(III)V"⟩ ⟨"AlloyPlans", "aim", "(III)V"⟩ ∈ TB := tb_mem (List.mem_of_getElem? (i := 341) (by decide +kernel)) rfl
set_option maxRecDepth 20000 in
theorem w_P_aim : Cond.code y_P_aim c_P_aim 4 none ∈ TB := tb_mem (List.mem_of_getElem? (i := 342) rfl) rfl
theorem ml_L_84 : Cond.methodLink "AlloyPlansLaw" 84 ⟨"AlloyPlansLaw", "kind", "(LAlloyPlans;III[J)I"⟩ ∈ TB := tb_mem (List.mem_of_getElem? (i := 343) (by decide +kernel)) rfl
theorem sm_L_kind : Cond.static ⟨"AlloyPlansLaw", "kind", "(LAlloyPlans;III[J)I"⟩ ∈ TB := tb_mem (List.mem_of_getElem? (i := 344) (by decide +kernel)) rfl
set_option maxRecDepth 20000 in
theorem w_L_kind : Cond.codeWith y_L_kind c_L_kind 6 (some .int) [(0, 12, 15, 15), (0, 12, 19, 30)] ∈ TB := tb_mem (List.mem_of_getElem? (i := 345) rfl) rfl
theorem kl_L_30 : Cond.classLink "AlloyPlansLaw" 30 "java/lang/UnsupportedOperationException" ∈ TB := tb_mem (List.mem_of_getElem? (i := 346) (by decide +kernel)) rfl
theorem ml_L_26 : Cond.methodLink "AlloyPlansLaw" 26 ⟨"AlloyPlans", "kind", "(III)I"⟩ ∈ TB := tb_mem (List.mem_of_getElem? (i := 347) (by decide +kernel)) rfl
theorem im_P_kind : Cond.instanceMethod ⟨"AlloyPlans", "kind", "(III)I"⟩ ∈ TB := tb_mem (List.mem_of_getElem? (i := 348) (by decide +kernel)) rfl
theorem se_P_kind : Cond.selects "AlloyPlans" ⟨"AlloyPlans", "kind", "(III)I"⟩ ⟨"AlloyPlans", "kind", "(III)I"⟩ ∈ TB := tb_mem (List.mem_of_getElem? (i := 349) (by decide +kernel)) rfl
set_option maxRecDepth 20000 in
theorem w_P_kind : Cond.code y_P_kind c_P_kind 5 (some .int) ∈ TB := tb_mem (List.mem_of_getElem? (i := 350) rfl) rfl
theorem kl_P_85 : Cond.classLink "AlloyPlans" 85 "java/lang/UnsupportedOperationException" ∈ TB := tb_mem (List.mem_of_getElem? (i := 351) (by decide +kernel)) rfl
theorem cm_UnsupportedOperationException : Cond.instantiable "java/lang/UnsupportedOperationException" 6 ∈ TB := tb_mem (List.mem_of_getElem? (i := 352) (by decide +kernel)) rfl
theorem ml_P_89 : Cond.methodLink "AlloyPlans" 89 ⟨"java/lang/UnsupportedOperationException", "<init>", "(Ljava/lang/String;)V"⟩ ∈ TB := tb_mem (List.mem_of_getElem? (i := 361) (by decide +kernel)) rfl
theorem ml_L_88 : Cond.methodLink "AlloyPlansLaw" 88 ⟨"AlloyPlansLaw", "holds", "(LAlloyPlans;IIII)I"⟩ ∈ TB := tb_mem (List.mem_of_getElem? (i := 367) (by decide +kernel)) rfl
theorem sm_L_holds : Cond.static ⟨"AlloyPlansLaw", "holds", "(LAlloyPlans;IIII)I"⟩ ∈ TB := tb_mem (List.mem_of_getElem? (i := 368) (by decide +kernel)) rfl
set_option maxRecDepth 20000 in
theorem w_L_holds : Cond.codeWith y_L_holds c_L_holds 6 (some .int) [(0, 9, 12, 21), (0, 9, 16, 15)] ∈ TB := tb_mem (List.mem_of_getElem? (i := 369) rfl) rfl
theorem ml_L_32 : Cond.methodLink "AlloyPlansLaw" 32 ⟨"AlloyPlans", "holds", "(IIII)V"⟩ ∈ TB := tb_mem (List.mem_of_getElem? (i := 370) (by decide +kernel)) rfl
theorem im_P_holds : Cond.instanceMethod ⟨"AlloyPlans", "holds", "(IIII)V"⟩ ∈ TB := tb_mem (List.mem_of_getElem? (i := 371) (by decide +kernel)) rfl
theorem se_P_holds : Cond.selects "AlloyPlans" ⟨"AlloyPlans", "holds", "(IIII)V"⟩ ⟨"AlloyPlans", "holds", "(IIII)V"⟩ ∈ TB := tb_mem (List.mem_of_getElem? (i := 372) (by decide +kernel)) rfl
set_option maxRecDepth 20000 in
theorem w_P_holds : Cond.code y_P_holds c_P_holds 5 none ∈ TB := tb_mem (List.mem_of_getElem? (i := 373) rfl) rfl
theorem ml_P_97 : Cond.methodLink "AlloyPlans" 97 ⟨"AlloyPlans", "isKind", "(I)Z"⟩ ∈ TB := tb_mem (List.mem_of_getElem? (i := 374) (by decide +kernel)) rfl
theorem im_P_isKind : Cond.instanceMethod ⟨"AlloyPlans", "isKind", "(I)Z"⟩ ∈ TB := tb_mem (List.mem_of_getElem? (i := 376) (by decide +kernel)) rfl
set_option maxRecDepth 20000 in
theorem w_P_isKind : Cond.code y_P_isKind c_P_isKind 2 (some .boolean) ∈ TB := tb_mem (List.mem_of_getElem? (i := 377) rfl) rfl
theorem ml_L_92 : Cond.methodLink "AlloyPlansLaw" 92 ⟨"AlloyPlansLaw", "yields", "(LAlloyPlans;III)I"⟩ ∈ TB := tb_mem (List.mem_of_getElem? (i := 378) (by decide +kernel)) rfl
theorem sm_L_yields : Cond.static ⟨"AlloyPlansLaw", "yields", "(LAlloyPlans;III)I"⟩ ∈ TB := tb_mem (List.mem_of_getElem? (i := 379) (by decide +kernel)) rfl
set_option maxRecDepth 20000 in
theorem w_L_yields : Cond.codeWith y_L_yields c_L_yields 5 (some .int) [(0, 7, 10, 21), (0, 7, 14, 15)] ∈ TB := tb_mem (List.mem_of_getElem? (i := 380) rfl) rfl
theorem ml_L_36 : Cond.methodLink "AlloyPlansLaw" 36 ⟨"AlloyPlans", "yields", "(III)V"⟩ ∈ TB := tb_mem (List.mem_of_getElem? (i := 381) (by decide +kernel)) rfl
theorem im_P_yields : Cond.instanceMethod ⟨"AlloyPlans", "yields", "(III)V"⟩ ∈ TB := tb_mem (List.mem_of_getElem? (i := 382) (by decide +kernel)) rfl
theorem se_P_yields : Cond.selects "AlloyPlans" ⟨"AlloyPlans", "yields", "(III)V"⟩ ⟨"AlloyPlans", "yields", "(III)V"⟩ ∈ TB := tb_mem (List.mem_of_getElem? (i := 383) (by decide +kernel)) rfl
set_option maxRecDepth 20000 in
theorem w_P_yields : Cond.code y_P_yields c_P_yields 4 none ∈ TB := tb_mem (List.mem_of_getElem? (i := 384) rfl) rfl
theorem ml_L_95 : Cond.methodLink "AlloyPlansLaw" 95 ⟨"AlloyPlansLaw", "run", "(LAlloyPlans;I[J)I"⟩ ∈ TB := tb_mem (List.mem_of_getElem? (i := 385) (by decide +kernel)) rfl
theorem sm_L_run : Cond.static ⟨"AlloyPlansLaw", "run", "(LAlloyPlans;I[J)I"⟩ ∈ TB := tb_mem (List.mem_of_getElem? (i := 386) (by decide +kernel)) rfl
set_option maxRecDepth 20000 in
theorem w_L_run : Cond.codeWith y_L_run c_L_run 4 (some .int) [(0, 9, 12, 15)] ∈ TB := tb_mem (List.mem_of_getElem? (i := 387) rfl) rfl
theorem ml_L_39 : Cond.methodLink "AlloyPlansLaw" 39 ⟨"AlloyPlans", "run", "(I)I"⟩ ∈ TB := tb_mem (List.mem_of_getElem? (i := 388) (by decide +kernel)) rfl
theorem im_P_run : Cond.instanceMethod ⟨"AlloyPlans", "run", "(I)I"⟩ ∈ TB := tb_mem (List.mem_of_getElem? (i := 389) (by decide +kernel)) rfl
theorem se_P_run : Cond.selects "AlloyPlans" ⟨"AlloyPlans", "run", "(I)I"⟩ ⟨"AlloyPlans", "run", "(I)I"⟩ ∈ TB := tb_mem (List.mem_of_getElem? (i := 390) (by decide +kernel)) rfl
set_option maxRecDepth 20000 in
theorem w_P_run : Cond.code y_P_run c_P_run 2 (some .int) ∈ TB := tb_mem (List.mem_of_getElem? (i := 391) rfl) rfl
theorem kc_P_110 : Cond.constant "AlloyPlans" 110 (100000000 : Int32) ∈ TB := tb_mem (List.mem_of_getElem? (i := 392) (by decide +kernel)) rfl
theorem ml_P_111 : Cond.methodLink "AlloyPlans" 111 ⟨"AlloyPlans$Search", "goThrough", "(LAlloyPlans$Melt;[LAlloyPlans$Alloy;II)V"⟩ ∈ TB := tb_mem (List.mem_of_getElem? (i := 393) (by decide +kernel)) rfl
theorem im_S_goThrough : Cond.instanceMethod ⟨"AlloyPlans$Search", "goThrough", "(LAlloyPlans$Melt;[LAlloyPlans$Alloy;II)V"⟩ ∈ TB := tb_mem (List.mem_of_getElem? (i := 394) (by decide +kernel)) rfl
theorem se_S_goThrough : Cond.selects "AlloyPlans$Search" ⟨"AlloyPlans$Search", "goThrough", "(LAlloyPlans$Melt;[LAlloyPlans$Alloy;II)V"⟩ ⟨"AlloyPlans$Search", "goThrough", "(LAlloyPlans$Melt;[LAlloyPlans$Alloy;II)V"⟩ ∈ TB := tb_mem (List.mem_of_getElem? (i := 395) (by decide +kernel)) rfl
set_option maxRecDepth 20000 in
theorem w_S_goThrough : Cond.code y_S_goThrough c_S_goThrough 6 none ∈ TB := tb_mem (List.mem_of_getElem? (i := 396) rfl) rfl
theorem ml_S_38 : Cond.methodLink "AlloyPlans$Search" 38 ⟨"AlloyPlans$Alloy", "weighAgainst", "([I)V"⟩ ∈ TB := tb_mem (List.mem_of_getElem? (i := 397) (by decide +kernel)) rfl
theorem im_A_weighAgainst : Cond.instanceMethod ⟨"AlloyPlans$Alloy", "weighAgainst", "([I)V"⟩ ∈ TB := tb_mem (List.mem_of_getElem? (i := 398) (by decide +kernel)) rfl
theorem se_A_weighAgainst : Cond.selects "AlloyPlans$Alloy" ⟨"AlloyPlans$Alloy", "weighAgainst", "([I)V"⟩ ⟨"AlloyPlans$Alloy", "weighAgainst", "([I)V"⟩ ∈ TB := tb_mem (List.mem_of_getElem? (i := 399) (by decide +kernel)) rfl
set_option maxRecDepth 20000 in
theorem w_A_weighAgainst : Cond.code y_A_weighAgainst c_A_weighAgainst 3 none ∈ TB := tb_mem (List.mem_of_getElem? (i := 400) rfl) rfl
theorem ml_A_29 : Cond.methodLink "AlloyPlans$Alloy" 29 ⟨"AlloyPlans$Alloy", "heldInStepAt", "(I)J"⟩ ∈ TB := tb_mem (List.mem_of_getElem? (i := 401) (by decide +kernel)) rfl
theorem im_A_heldInStepAt : Cond.instanceMethod ⟨"AlloyPlans$Alloy", "heldInStepAt", "(I)J"⟩ ∈ TB := tb_mem (List.mem_of_getElem? (i := 402) (by decide +kernel)) rfl
theorem se_A_heldInStepAt : Cond.selects "AlloyPlans$Alloy" ⟨"AlloyPlans$Alloy", "heldInStepAt", "(I)J"⟩ ⟨"AlloyPlans$Alloy", "heldInStepAt", "(I)J"⟩ ∈ TB := tb_mem (List.mem_of_getElem? (i := 403) (by decide +kernel)) rfl
set_option maxRecDepth 20000 in
theorem w_A_heldInStepAt : Cond.code y_A_heldInStepAt c_A_heldInStepAt 2 (some .long) ∈ TB := tb_mem (List.mem_of_getElem? (i := 404) rfl) rfl
theorem kd_A_33 : Cond.constantLong "AlloyPlans$Alloy" 33 (1000 : Int64) ∈ TB := tb_mem (List.mem_of_getElem? (i := 405) (by decide +kernel)) rfl
theorem sm_P_surplusAt : Cond.static ⟨"AlloyPlans", "surplusAt", "(IJJ)J"⟩ ∈ TB := tb_mem (List.mem_of_getElem? (i := 407) (by decide +kernel)) rfl
set_option maxRecDepth 20000 in
theorem w_P_surplusAt : Cond.code y_P_surplusAt c_P_surplusAt 5 (some .long) ∈ TB := tb_mem (List.mem_of_getElem? (i := 408) rfl) rfl
theorem ml_P_197 : Cond.methodLink "AlloyPlans" 197 ⟨"AlloyPlans", "isLowEnd", "(I)Z"⟩ ∈ TB := tb_mem (List.mem_of_getElem? (i := 409) (by decide +kernel)) rfl
theorem ml_S_44 : Cond.methodLink "AlloyPlans$Search" 44 ⟨"AlloyPlans$Mix", "becomeHeat", "(LAlloyPlans$Melt;I)V"⟩ ∈ TB := tb_mem (List.mem_of_getElem? (i := 410) (by decide +kernel)) rfl
theorem im_X_becomeHeat : Cond.instanceMethod ⟨"AlloyPlans$Mix", "becomeHeat", "(LAlloyPlans$Melt;I)V"⟩ ∈ TB := tb_mem (List.mem_of_getElem? (i := 411) (by decide +kernel)) rfl
theorem se_X_becomeHeat : Cond.selects "AlloyPlans$Mix" ⟨"AlloyPlans$Mix", "becomeHeat", "(LAlloyPlans$Melt;I)V"⟩ ⟨"AlloyPlans$Mix", "becomeHeat", "(LAlloyPlans$Melt;I)V"⟩ ∈ TB := tb_mem (List.mem_of_getElem? (i := 412) (by decide +kernel)) rfl
set_option maxRecDepth 20000 in
theorem w_X_becomeHeat : Cond.code y_X_becomeHeat c_X_becomeHeat 4 none ∈ TB := tb_mem (List.mem_of_getElem? (i := 413) rfl) rfl
theorem ml_X_25 : Cond.methodLink "AlloyPlans$Mix" 25 ⟨"AlloyPlans$Melt", "surplusOfHeat", "(I)J"⟩ ∈ TB := tb_mem (List.mem_of_getElem? (i := 414) (by decide +kernel)) rfl
theorem im_E_surplusOfHeat : Cond.instanceMethod ⟨"AlloyPlans$Melt", "surplusOfHeat", "(I)J"⟩ ∈ TB := tb_mem (List.mem_of_getElem? (i := 415) (by decide +kernel)) rfl
theorem se_E_surplusOfHeat : Cond.selects "AlloyPlans$Melt" ⟨"AlloyPlans$Melt", "surplusOfHeat", "(I)J"⟩ ⟨"AlloyPlans$Melt", "surplusOfHeat", "(I)J"⟩ ∈ TB := tb_mem (List.mem_of_getElem? (i := 416) (by decide +kernel)) rfl
set_option maxRecDepth 20000 in
theorem w_E_surplusOfHeat : Cond.code y_E_surplusOfHeat c_E_surplusOfHeat 2 (some .long) ∈ TB := tb_mem (List.mem_of_getElem? (i := 417) rfl) rfl
theorem ml_E_29 : Cond.methodLink "AlloyPlans$Melt" 29 ⟨"AlloyPlans$Melt", "heldAt", "(I)J"⟩ ∈ TB := tb_mem (List.mem_of_getElem? (i := 418) (by decide +kernel)) rfl
theorem im_E_heldAt : Cond.instanceMethod ⟨"AlloyPlans$Melt", "heldAt", "(I)J"⟩ ∈ TB := tb_mem (List.mem_of_getElem? (i := 419) (by decide +kernel)) rfl
theorem se_E_heldAt : Cond.selects "AlloyPlans$Melt" ⟨"AlloyPlans$Melt", "heldAt", "(I)J"⟩ ⟨"AlloyPlans$Melt", "heldAt", "(I)J"⟩ ∈ TB := tb_mem (List.mem_of_getElem? (i := 420) (by decide +kernel)) rfl
set_option maxRecDepth 20000 in
theorem w_E_heldAt : Cond.code y_E_heldAt c_E_heldAt 2 (some .long) ∈ TB := tb_mem (List.mem_of_getElem? (i := 421) rfl) rfl
theorem kd_E_27 : Cond.constantLong "AlloyPlans$Melt" 27 (1000 : Int64) ∈ TB := tb_mem (List.mem_of_getElem? (i := 422) (by decide +kernel)) rfl
theorem ml_S_48 : Cond.methodLink "AlloyPlans$Search" 48 ⟨"AlloyPlans$Search", "tryKindsFrom", "(I[LAlloyPlans$Alloy;I)V"⟩ ∈ TB := tb_mem (List.mem_of_getElem? (i := 424) (by decide +kernel)) rfl
theorem im_S_tryKindsFrom : Cond.instanceMethod ⟨"AlloyPlans$Search", "tryKindsFrom", "(I[LAlloyPlans$Alloy;I)V"⟩ ∈ TB := tb_mem (List.mem_of_getElem? (i := 426) (by decide +kernel)) rfl
set_option maxRecDepth 20000 in
theorem w_S_tryKindsFrom : Cond.code y_S_tryKindsFrom c_S_tryKindsFrom 7 none ∈ TB := tb_mem (List.mem_of_getElem? (i := 427) rfl) rfl
theorem ml_S_52 : Cond.methodLink "AlloyPlans$Search" 52 ⟨"AlloyPlans$Search", "judge", "(LAlloyPlans$Mix;)V"⟩ ∈ TB := tb_mem (List.mem_of_getElem? (i := 428) (by decide +kernel)) rfl
theorem im_S_judge : Cond.instanceMethod ⟨"AlloyPlans$Search", "judge", "(LAlloyPlans$Mix;)V"⟩ ∈ TB := tb_mem (List.mem_of_getElem? (i := 430) (by decide +kernel)) rfl
set_option maxRecDepth 20000 in
theorem w_S_judge : Cond.code y_S_judge c_S_judge 3 none ∈ TB := tb_mem (List.mem_of_getElem? (i := 431) rfl) rfl
theorem ml_S_85 : Cond.methodLink "AlloyPlans$Search" 85 ⟨"AlloyPlans$Mix", "countMet", "()I"⟩ ∈ TB := tb_mem (List.mem_of_getElem? (i := 432) (by decide +kernel)) rfl
theorem im_X_countMet : Cond.instanceMethod ⟨"AlloyPlans$Mix", "countMet", "()I"⟩ ∈ TB := tb_mem (List.mem_of_getElem? (i := 433) (by decide +kernel)) rfl
theorem se_X_countMet : Cond.selects "AlloyPlans$Mix" ⟨"AlloyPlans$Mix", "countMet", "()I"⟩ ⟨"AlloyPlans$Mix", "countMet", "()I"⟩ ∈ TB := tb_mem (List.mem_of_getElem? (i := 434) (by decide +kernel)) rfl
set_option maxRecDepth 20000 in
theorem w_X_countMet : Cond.code y_X_countMet c_X_countMet 2 (some .int) ∈ TB := tb_mem (List.mem_of_getElem? (i := 435) rfl) rfl
theorem ml_S_89 : Cond.methodLink "AlloyPlans$Search" 89 ⟨"java/lang/Math", "max", "(II)I"⟩ ∈ TB := tb_mem (List.mem_of_getElem? (i := 436) (by decide +kernel)) rfl
theorem ml_S_95 : Cond.methodLink "AlloyPlans$Search" 95 ⟨"java/lang/System", "arraycopy", "(Ljava/lang/Object;ILjava/lang/Object;II)V"⟩ ∈ TB := tb_mem (List.mem_of_getElem? (i := 439) (by decide +kernel)) rfl
theorem ml_S_56 : Cond.methodLink "AlloyPlans$Search" 56 ⟨"AlloyPlans$Mix", "becomeLike", "(LAlloyPlans$Mix;)V"⟩ ∈ TB := tb_mem (List.mem_of_getElem? (i := 442) (by decide +kernel)) rfl
theorem im_X_becomeLike : Cond.instanceMethod ⟨"AlloyPlans$Mix", "becomeLike", "(LAlloyPlans$Mix;)V"⟩ ∈ TB := tb_mem (List.mem_of_getElem? (i := 443) (by decide +kernel)) rfl
theorem se_X_becomeLike : Cond.selects "AlloyPlans$Mix" ⟨"AlloyPlans$Mix", "becomeLike", "(LAlloyPlans$Mix;)V"⟩ ⟨"AlloyPlans$Mix", "becomeLike", "(LAlloyPlans$Mix;)V"⟩ ∈ TB := tb_mem (List.mem_of_getElem? (i := 444) (by decide +kernel)) rfl
set_option maxRecDepth 20000 in
theorem w_X_becomeLike : Cond.code y_X_becomeLike c_X_becomeLike 2 none ∈ TB := tb_mem (List.mem_of_getElem? (i := 445) rfl) rfl
theorem ml_X_31 : Cond.methodLink "AlloyPlans$Mix" 31 ⟨"java/lang/System", "arraycopy", "(Ljava/lang/Object;ILjava/lang/Object;II)V"⟩ ∈ TB := tb_mem (List.mem_of_getElem? (i := 446) (by decide +kernel)) rfl
theorem ml_S_62 : Cond.methodLink "AlloyPlans$Search" 62 ⟨"AlloyPlans$Mix", "takeStep", "(LAlloyPlans$Alloy;Z)V"⟩ ∈ TB := tb_mem (List.mem_of_getElem? (i := 447) (by decide +kernel)) rfl
theorem im_X_takeStep : Cond.instanceMethod ⟨"AlloyPlans$Mix", "takeStep", "(LAlloyPlans$Alloy;Z)V"⟩ ∈ TB := tb_mem (List.mem_of_getElem? (i := 448) (by decide +kernel)) rfl
theorem se_X_takeStep : Cond.selects "AlloyPlans$Mix" ⟨"AlloyPlans$Mix", "takeStep", "(LAlloyPlans$Alloy;Z)V"⟩ ⟨"AlloyPlans$Mix", "takeStep", "(LAlloyPlans$Alloy;Z)V"⟩ ∈ TB := tb_mem (List.mem_of_getElem? (i := 449) (by decide +kernel)) rfl
set_option maxRecDepth 20000 in
theorem w_X_takeStep : Cond.code y_X_takeStep c_X_takeStep 4 none ∈ TB := tb_mem (List.mem_of_getElem? (i := 450) rfl) rfl
theorem ml_X_40 : Cond.methodLink "AlloyPlans$Mix" 40 ⟨"AlloyPlans$Alloy", "coolingOfStep", "()I"⟩ ∈ TB := tb_mem (List.mem_of_getElem? (i := 451) (by decide +kernel)) rfl
theorem im_A_coolingOfStep : Cond.instanceMethod ⟨"AlloyPlans$Alloy", "coolingOfStep", "()I"⟩ ∈ TB := tb_mem (List.mem_of_getElem? (i := 452) (by decide +kernel)) rfl
theorem se_A_coolingOfStep : Cond.selects "AlloyPlans$Alloy" ⟨"AlloyPlans$Alloy", "coolingOfStep", "()I"⟩ ⟨"AlloyPlans$Alloy", "coolingOfStep", "()I"⟩ ∈ TB := tb_mem (List.mem_of_getElem? (i := 453) (by decide +kernel)) rfl
set_option maxRecDepth 20000 in
theorem w_A_coolingOfStep : Cond.code y_A_coolingOfStep c_A_coolingOfStep 1 (some .int) ∈ TB := tb_mem (List.mem_of_getElem? (i := 454) rfl) rfl
theorem ml_S_66 : Cond.methodLink "AlloyPlans$Search" 66 ⟨"AlloyPlans$Search", "isWorthTrying", "(LAlloyPlans$Mix;)Z"⟩ ∈ TB := tb_mem (List.mem_of_getElem? (i := 455) (by decide +kernel)) rfl
theorem im_S_isWorthTrying : Cond.instanceMethod ⟨"AlloyPlans$Search", "isWorthTrying", "(LAlloyPlans$Mix;)Z"⟩ ∈ TB := tb_mem (List.mem_of_getElem? (i := 457) (by decide +kernel)) rfl
set_option maxRecDepth 20000 in
theorem w_S_isWorthTrying : Cond.code y_S_isWorthTrying c_S_isWorthTrying 2 (some .boolean) ∈ TB := tb_mem (List.mem_of_getElem? (i := 458) rfl) rfl
theorem ml_P_125 : Cond.methodLink "AlloyPlans" 125 ⟨"AlloyPlans$Plan", "settle", "([I[LAlloyPlans$Alloy;I)V"⟩ ∈ TB := tb_mem (List.mem_of_getElem? (i := 459) (by decide +kernel)) rfl
theorem im_N_settle : Cond.instanceMethod ⟨"AlloyPlans$Plan", "settle", "([I[LAlloyPlans$Alloy;I)V"⟩ ∈ TB := tb_mem (List.mem_of_getElem? (i := 460) (by decide +kernel)) rfl
theorem se_N_settle : Cond.selects "AlloyPlans$Plan" ⟨"AlloyPlans$Plan", "settle", "([I[LAlloyPlans$Alloy;I)V"⟩ ⟨"AlloyPlans$Plan", "settle", "([I[LAlloyPlans$Alloy;I)V"⟩ ∈ TB := tb_mem (List.mem_of_getElem? (i := 461) (by decide +kernel)) rfl
set_option maxRecDepth 20000 in
theorem w_N_settle : Cond.code y_N_settle c_N_settle 6 none ∈ TB := tb_mem (List.mem_of_getElem? (i := 462) rfl) rfl
theorem ml_N_36 : Cond.methodLink "AlloyPlans$Plan" 36 ⟨"AlloyPlans$Alloy", "coolingOfStep", "()I"⟩ ∈ TB := tb_mem (List.mem_of_getElem? (i := 463) (by decide +kernel)) rfl
theorem ml_L_99 : Cond.methodLink "AlloyPlansLaw" 99 ⟨"AlloyPlansLaw", "steps", "(LAlloyPlans;I[J)I"⟩ ∈ TB := tb_mem (List.mem_of_getElem? (i := 464) (by decide +kernel)) rfl
theorem sm_L_steps : Cond.static ⟨"AlloyPlansLaw", "steps", "(LAlloyPlans;I[J)I"⟩ ∈ TB := tb_mem (List.mem_of_getElem? (i := 465) (by decide +kernel)) rfl
set_option maxRecDepth 20000 in
theorem w_L_steps : Cond.codeWith y_L_steps c_L_steps 4 (some .int) [(0, 9, 12, 21), (0, 9, 15, 13)] ∈ TB := tb_mem (List.mem_of_getElem? (i := 466) rfl) rfl
theorem ml_L_43 : Cond.methodLink "AlloyPlansLaw" 43 ⟨"AlloyPlans", "steps", "(I)I"⟩ ∈ TB := tb_mem (List.mem_of_getElem? (i := 467) (by decide +kernel)) rfl
theorem im_P_steps : Cond.instanceMethod ⟨"AlloyPlans", "steps", "(I)I"⟩ ∈ TB := tb_mem (List.mem_of_getElem? (i := 468) (by decide +kernel)) rfl
theorem se_P_steps : Cond.selects "AlloyPlans" ⟨"AlloyPlans", "steps", "(I)I"⟩ ⟨"AlloyPlans", "steps", "(I)I"⟩ ∈ TB := tb_mem (List.mem_of_getElem? (i := 469) (by decide +kernel)) rfl
set_option maxRecDepth 20000 in
theorem w_P_steps : Cond.code y_P_steps c_P_steps 2 (some .int) ∈ TB := tb_mem (List.mem_of_getElem? (i := 470) rfl) rfl
theorem ml_P_129 : Cond.methodLink "AlloyPlans" 129 ⟨"AlloyPlans", "requirePlan", "()V"⟩ ∈ TB := tb_mem (List.mem_of_getElem? (i := 471) (by decide +kernel)) rfl
theorem im_P_requirePlan : Cond.instanceMethod ⟨"AlloyPlans", "requirePlan", "()V"⟩ ∈ TB := tb_mem (List.mem_of_getElem? (i := 473) (by decide +kernel)) rfl
set_option maxRecDepth 20000 in
theorem w_P_requirePlan : Cond.code y_P_requirePlan c_P_requirePlan 1 none ∈ TB := tb_mem (List.mem_of_getElem? (i := 474) rfl) rfl
theorem ml_L_102 : Cond.methodLink "AlloyPlansLaw" 102 ⟨"AlloyPlansLaw", "planned", "(LAlloyPlans;I[J)I"⟩ ∈ TB := tb_mem (List.mem_of_getElem? (i := 476) (by decide +kernel)) rfl
theorem sm_L_planned : Cond.static ⟨"AlloyPlansLaw", "planned", "(LAlloyPlans;I[J)I"⟩ ∈ TB := tb_mem (List.mem_of_getElem? (i := 477) (by decide +kernel)) rfl
set_option maxRecDepth 20000 in
theorem w_L_planned : Cond.codeWith y_L_planned c_L_planned 4 (some .int) [(0, 9, 12, 21), (0, 9, 15, 13)] ∈ TB := tb_mem (List.mem_of_getElem? (i := 478) rfl) rfl
theorem ml_L_46 : Cond.methodLink "AlloyPlansLaw" 46 ⟨"AlloyPlans", "planned", "(I)I"⟩ ∈ TB := tb_mem (List.mem_of_getElem? (i := 479) (by decide +kernel)) rfl
theorem im_P_planned : Cond.instanceMethod ⟨"AlloyPlans", "planned", "(I)I"⟩ ∈ TB := tb_mem (List.mem_of_getElem? (i := 480) (by decide +kernel)) rfl
theorem se_P_planned : Cond.selects "AlloyPlans" ⟨"AlloyPlans", "planned", "(I)I"⟩ ⟨"AlloyPlans", "planned", "(I)I"⟩ ∈ TB := tb_mem (List.mem_of_getElem? (i := 481) (by decide +kernel)) rfl
set_option maxRecDepth 20000 in
theorem w_P_planned : Cond.code y_P_planned c_P_planned 2 (some .int) ∈ TB := tb_mem (List.mem_of_getElem? (i := 482) rfl) rfl
theorem ml_L_105 : Cond.methodLink "AlloyPlansLaw" 105 ⟨"AlloyPlansLaw", "order", "(LAlloyPlans;I[J)I"⟩ ∈ TB := tb_mem (List.mem_of_getElem? (i := 483) (by decide +kernel)) rfl
theorem sm_L_order : Cond.static ⟨"AlloyPlansLaw", "order", "(LAlloyPlans;I[J)I"⟩ ∈ TB := tb_mem (List.mem_of_getElem? (i := 484) (by decide +kernel)) rfl
set_option maxRecDepth 20000 in
theorem w_L_order : Cond.codeWith y_L_order c_L_order 4 (some .int) [(0, 9, 12, 21), (0, 9, 15, 13)] ∈ TB := tb_mem (List.mem_of_getElem? (i := 485) rfl) rfl
theorem ml_L_49 : Cond.methodLink "AlloyPlansLaw" 49 ⟨"AlloyPlans", "order", "(I)I"⟩ ∈ TB := tb_mem (List.mem_of_getElem? (i := 486) (by decide +kernel)) rfl
theorem im_P_order : Cond.instanceMethod ⟨"AlloyPlans", "order", "(I)I"⟩ ∈ TB := tb_mem (List.mem_of_getElem? (i := 487) (by decide +kernel)) rfl
theorem se_P_order : Cond.selects "AlloyPlans" ⟨"AlloyPlans", "order", "(I)I"⟩ ⟨"AlloyPlans", "order", "(I)I"⟩ ∈ TB := tb_mem (List.mem_of_getElem? (i := 488) (by decide +kernel)) rfl
set_option maxRecDepth 20000 in
theorem w_P_order : Cond.code y_P_order c_P_order 3 (some .int) ∈ TB := tb_mem (List.mem_of_getElem? (i := 489) rfl) rfl
theorem ml_P_141 : Cond.methodLink "AlloyPlans" 141 ⟨"AlloyPlans$Plan", "isTaken", "(I)Z"⟩ ∈ TB := tb_mem (List.mem_of_getElem? (i := 490) (by decide +kernel)) rfl
theorem im_N_isTaken : Cond.instanceMethod ⟨"AlloyPlans$Plan", "isTaken", "(I)Z"⟩ ∈ TB := tb_mem (List.mem_of_getElem? (i := 491) (by decide +kernel)) rfl
theorem se_N_isTaken : Cond.selects "AlloyPlans$Plan" ⟨"AlloyPlans$Plan", "isTaken", "(I)Z"⟩ ⟨"AlloyPlans$Plan", "isTaken", "(I)Z"⟩ ∈ TB := tb_mem (List.mem_of_getElem? (i := 492) (by decide +kernel)) rfl
set_option maxRecDepth 20000 in
theorem w_N_isTaken : Cond.code y_N_isTaken c_N_isTaken 2 (some .boolean) ∈ TB := tb_mem (List.mem_of_getElem? (i := 493) rfl) rfl
theorem ml_P_144 : Cond.methodLink "AlloyPlans" 144 ⟨"AlloyPlans", "countAddedBefore", "(I)I"⟩ ∈ TB := tb_mem (List.mem_of_getElem? (i := 494) (by decide +kernel)) rfl
theorem im_P_countAddedBefore : Cond.instanceMethod ⟨"AlloyPlans", "countAddedBefore", "(I)I"⟩ ∈ TB := tb_mem (List.mem_of_getElem? (i := 496) (by decide +kernel)) rfl
set_option maxRecDepth 20000 in
theorem w_P_countAddedBefore : Cond.code y_P_countAddedBefore c_P_countAddedBefore 4 (some .int) ∈ TB := tb_mem (List.mem_of_getElem? (i := 497) rfl) rfl
theorem ml_P_186 : Cond.methodLink "AlloyPlans" 186 ⟨"AlloyPlans", "isAddedBefore", "(II)Z"⟩ ∈ TB := tb_mem (List.mem_of_getElem? (i := 498) (by decide +kernel)) rfl
theorem im_P_isAddedBefore : Cond.instanceMethod ⟨"AlloyPlans", "isAddedBefore", "(II)Z"⟩ ∈ TB := tb_mem (List.mem_of_getElem? (i := 500) (by decide +kernel)) rfl
set_option maxRecDepth 20000 in
theorem w_P_isAddedBefore : Cond.code y_P_isAddedBefore c_P_isAddedBefore 4 (some .boolean) ∈ TB := tb_mem (List.mem_of_getElem? (i := 501) rfl) rfl
theorem ml_L_108 : Cond.methodLink "AlloyPlansLaw" 108 ⟨"AlloyPlansLaw", "after", "(LAlloyPlans;III[J)I"⟩ ∈ TB := tb_mem (List.mem_of_getElem? (i := 502) (by decide +kernel)) rfl
theorem sm_L_after : Cond.static ⟨"AlloyPlansLaw", "after", "(LAlloyPlans;III[J)I"⟩ ∈ TB := tb_mem (List.mem_of_getElem? (i := 503) (by decide +kernel)) rfl
set_option maxRecDepth 20000 in
theorem w_L_after : Cond.codeWith y_L_after c_L_after 6 (some .int) [(0, 11, 14, 21), (0, 11, 18, 13)] ∈ TB := tb_mem (List.mem_of_getElem? (i := 504) rfl) rfl
theorem ml_L_52 : Cond.methodLink "AlloyPlansLaw" 52 ⟨"AlloyPlans", "after", "(III)J"⟩ ∈ TB := tb_mem (List.mem_of_getElem? (i := 505) (by decide +kernel)) rfl
theorem im_P_after : Cond.instanceMethod ⟨"AlloyPlans", "after", "(III)J"⟩ ∈ TB := tb_mem (List.mem_of_getElem? (i := 506) (by decide +kernel)) rfl
theorem se_P_after : Cond.selects "AlloyPlans" ⟨"AlloyPlans", "after", "(III)J"⟩ ⟨"AlloyPlans", "after", "(III)J"⟩ ∈ TB := tb_mem (List.mem_of_getElem? (i := 507) (by decide +kernel)) rfl
set_option maxRecDepth 20000 in
theorem w_P_after : Cond.code y_P_after c_P_after 8 (some .long) ∈ TB := tb_mem (List.mem_of_getElem? (i := 508) rfl) rfl
theorem ml_P_148 : Cond.methodLink "AlloyPlans" 148 ⟨"AlloyPlans", "heldByPlan", "(I)J"⟩ ∈ TB := tb_mem (List.mem_of_getElem? (i := 509) (by decide +kernel)) rfl
theorem im_P_heldByPlan : Cond.instanceMethod ⟨"AlloyPlans", "heldByPlan", "(I)J"⟩ ∈ TB := tb_mem (List.mem_of_getElem? (i := 511) (by decide +kernel)) rfl
set_option maxRecDepth 20000 in
theorem w_P_heldByPlan : Cond.code y_P_heldByPlan c_P_heldByPlan 5 (some .long) ∈ TB := tb_mem (List.mem_of_getElem? (i := 512) rfl) rfl
theorem ml_P_189 : Cond.methodLink "AlloyPlans" 189 ⟨"AlloyPlans$Melt", "heldAt", "(I)J"⟩ ∈ TB := tb_mem (List.mem_of_getElem? (i := 513) (by decide +kernel)) rfl
theorem ml_P_192 : Cond.methodLink "AlloyPlans" 192 ⟨"AlloyPlans$Alloy", "heldInStepAt", "(I)J"⟩ ∈ TB := tb_mem (List.mem_of_getElem? (i := 514) (by decide +kernel)) rfl
theorem ml_P_152 : Cond.methodLink "AlloyPlans" 152 ⟨"AlloyPlans", "wholeByPlan", "()J"⟩ ∈ TB := tb_mem (List.mem_of_getElem? (i := 515) (by decide +kernel)) rfl
theorem im_P_wholeByPlan : Cond.instanceMethod ⟨"AlloyPlans", "wholeByPlan", "()J"⟩ ∈ TB := tb_mem (List.mem_of_getElem? (i := 517) (by decide +kernel)) rfl
set_option maxRecDepth 20000 in
theorem w_P_wholeByPlan : Cond.code y_P_wholeByPlan c_P_wholeByPlan 1 (some .long) ∈ TB := tb_mem (List.mem_of_getElem? (i := 518) rfl) rfl
theorem kd_P_195 : Cond.constantLong "AlloyPlans" 195 (1000 : Int64) ∈ TB := tb_mem (List.mem_of_getElem? (i := 519) (by decide +kernel)) rfl
theorem ml_P_156 : Cond.methodLink "AlloyPlans" 156 ⟨"AlloyPlans", "commonDivisor", "(JJ)J"⟩ ∈ TB := tb_mem (List.mem_of_getElem? (i := 520) (by decide +kernel)) rfl
theorem sm_P_commonDivisor : Cond.static ⟨"AlloyPlans", "commonDivisor", "(JJ)J"⟩ ∈ TB := tb_mem (List.mem_of_getElem? (i := 521) (by decide +kernel)) rfl
set_option maxRecDepth 20000 in
theorem w_P_commonDivisor : Cond.code y_P_commonDivisor c_P_commonDivisor 11 (some .long) ∈ TB := tb_mem (List.mem_of_getElem? (i := 522) rfl) rfl
theorem ml_P_160 : Cond.methodLink "AlloyPlans" 160 ⟨"AlloyPlans", "quotient", "(JJ)J"⟩ ∈ TB := tb_mem (List.mem_of_getElem? (i := 523) (by decide +kernel)) rfl
theorem sm_P_quotient : Cond.static ⟨"AlloyPlans", "quotient", "(JJ)J"⟩ ∈ TB := tb_mem (List.mem_of_getElem? (i := 524) (by decide +kernel)) rfl
set_option maxRecDepth 20000 in
theorem w_P_quotient : Cond.code y_P_quotient c_P_quotient 4 (some .long) ∈ TB := tb_mem (List.mem_of_getElem? (i := 525) rfl) rfl
theorem ml_L_111 : Cond.methodLink "AlloyPlansLaw" 111 ⟨"AlloyPlansLaw", "add", "(LAlloyPlans;[J)I"⟩ ∈ TB := tb_mem (List.mem_of_getElem? (i := 526) (by decide +kernel)) rfl
theorem sm_L_add : Cond.static ⟨"AlloyPlansLaw", "add", "(LAlloyPlans;[J)I"⟩ ∈ TB := tb_mem (List.mem_of_getElem? (i := 527) (by decide +kernel)) rfl
set_option maxRecDepth 20000 in
theorem w_L_add : Cond.codeWith y_L_add c_L_add 3 (some .int) [(0, 8, 11, 13), (0, 8, 14, 30)] ∈ TB := tb_mem (List.mem_of_getElem? (i := 528) rfl) rfl
theorem ml_L_56 : Cond.methodLink "AlloyPlansLaw" 56 ⟨"AlloyPlans", "add", "()I"⟩ ∈ TB := tb_mem (List.mem_of_getElem? (i := 529) (by decide +kernel)) rfl
theorem im_P_add : Cond.instanceMethod ⟨"AlloyPlans", "add", "()I"⟩ ∈ TB := tb_mem (List.mem_of_getElem? (i := 530) (by decide +kernel)) rfl
theorem se_P_add : Cond.selects "AlloyPlans" ⟨"AlloyPlans", "add", "()I"⟩ ⟨"AlloyPlans", "add", "()I"⟩ ∈ TB := tb_mem (List.mem_of_getElem? (i := 531) (by decide +kernel)) rfl
set_option maxRecDepth 20000 in
theorem w_P_add : Cond.code y_P_add c_P_add 2 (some .int) ∈ TB := tb_mem (List.mem_of_getElem? (i := 532) rfl) rfl
theorem ml_P_165 : Cond.methodLink "AlloyPlans" 165 ⟨"AlloyPlans", "roundedByPlan", "(I)I"⟩ ∈ TB := tb_mem (List.mem_of_getElem? (i := 534) (by decide +kernel)) rfl
theorem im_P_roundedByPlan : Cond.instanceMethod ⟨"AlloyPlans", "roundedByPlan", "(I)I"⟩ ∈ TB := tb_mem (List.mem_of_getElem? (i := 536) (by decide +kernel)) rfl
set_option maxRecDepth 20000 in
theorem w_P_roundedByPlan : Cond.code y_P_roundedByPlan c_P_roundedByPlan 6 (some .int) ∈ TB := tb_mem (List.mem_of_getElem? (i := 537) rfl) rfl
theorem ml_L_115 : Cond.methodLink "AlloyPlansLaw" 115 ⟨"AlloyPlansLaw", "heatAt", "(LAlloyPlans;I[J)I"⟩ ∈ TB := tb_mem (List.mem_of_getElem? (i := 538) (by decide +kernel)) rfl
theorem sm_L_heatAt : Cond.static ⟨"AlloyPlansLaw", "heatAt", "(LAlloyPlans;I[J)I"⟩ ∈ TB := tb_mem (List.mem_of_getElem? (i := 539) (by decide +kernel)) rfl
set_option maxRecDepth 20000 in
theorem w_L_heatAt : Cond.codeWith y_L_heatAt c_L_heatAt 4 (some .int) [(0, 8, 11, 21)] ∈ TB := tb_mem (List.mem_of_getElem? (i := 540) rfl) rfl
theorem ml_L_60 : Cond.methodLink "AlloyPlansLaw" 60 ⟨"AlloyPlans", "heatAt", "(I)J"⟩ ∈ TB := tb_mem (List.mem_of_getElem? (i := 541) (by decide +kernel)) rfl
theorem im_P_heatAt : Cond.instanceMethod ⟨"AlloyPlans", "heatAt", "(I)J"⟩ ∈ TB := tb_mem (List.mem_of_getElem? (i := 542) (by decide +kernel)) rfl
theorem se_P_heatAt : Cond.selects "AlloyPlans" ⟨"AlloyPlans", "heatAt", "(I)J"⟩ ⟨"AlloyPlans", "heatAt", "(I)J"⟩ ∈ TB := tb_mem (List.mem_of_getElem? (i := 543) (by decide +kernel)) rfl
set_option maxRecDepth 20000 in
theorem w_P_heatAt : Cond.code y_P_heatAt c_P_heatAt 2 (some .long) ∈ TB := tb_mem (List.mem_of_getElem? (i := 544) rfl) rfl
theorem kl_L_65 : Cond.classLink "AlloyPlansLaw" 65 "AlloyPlansModel" ∈ TB := tb_mem (List.mem_of_getElem? (i := 545) (by decide +kernel)) rfl
theorem cm_M : Cond.instantiable "AlloyPlansModel" 19 ∈ TB := tb_mem (List.mem_of_getElem? (i := 546) (by decide +kernel)) rfl
theorem ml_L_67 : Cond.methodLink "AlloyPlansLaw" 67 ⟨"AlloyPlansModel", "<init>", "()V"⟩ ∈ TB := tb_mem (List.mem_of_getElem? (i := 547) (by decide +kernel)) rfl
theorem im_M_init : Cond.instanceMethod ⟨"AlloyPlansModel", "<init>", "()V"⟩ ∈ TB := tb_mem (List.mem_of_getElem? (i := 548) (by decide +kernel)) rfl
set_option maxRecDepth 20000 in
theorem w_M_init : Cond.code y_M_init c_M_init 2 none ∈ TB := tb_mem (List.mem_of_getElem? (i := 549) rfl) rfl
theorem ml_M_1 : Cond.methodLink "AlloyPlansModel" 1 ⟨"java/lang/Object", "<init>", "()V"⟩ ∈ TB := tb_mem (List.mem_of_getElem? (i := 550) (by decide +kernel)) rfl
theorem kc_M_53 : Cond.constant "AlloyPlansModel" 53 (100000 : Int32) ∈ TB := tb_mem (List.mem_of_getElem? (i := 551) (by decide +kernel)) rfl
theorem fl_M_54 : Cond.fieldLink "AlloyPlansModel" 54 "AlloyPlansModel" "thrown" "I" ∈ TB := tb_mem (List.mem_of_getElem? (i := 552) (by decide +kernel)) rfl
theorem fl_M_7 : Cond.fieldLink "AlloyPlansModel" 7 "AlloyPlansModel" "kilos" "I" ∈ TB := tb_mem (List.mem_of_getElem? (i := 553) (by decide +kernel)) rfl
theorem fl_M_13 : Cond.fieldLink "AlloyPlansModel" 13 "AlloyPlansModel" "presentLow" "[I" ∈ TB := tb_mem (List.mem_of_getElem? (i := 554) (by decide +kernel)) rfl
theorem fl_M_17 : Cond.fieldLink "AlloyPlansModel" 17 "AlloyPlansModel" "presentHigh" "[I" ∈ TB := tb_mem (List.mem_of_getElem? (i := 555) (by decide +kernel)) rfl
theorem fl_M_20 : Cond.fieldLink "AlloyPlansModel" 20 "AlloyPlansModel" "aimLow" "[I" ∈ TB := tb_mem (List.mem_of_getElem? (i := 556) (by decide +kernel)) rfl
theorem fl_M_23 : Cond.fieldLink "AlloyPlansModel" 23 "AlloyPlansModel" "aimHigh" "[I" ∈ TB := tb_mem (List.mem_of_getElem? (i := 557) (by decide +kernel)) rfl
theorem fl_M_61 : Cond.fieldLink "AlloyPlansModel" 61 "AlloyPlansModel" "kinds" "I" ∈ TB := tb_mem (List.mem_of_getElem? (i := 558) (by decide +kernel)) rfl
theorem fl_M_26 : Cond.fieldLink "AlloyPlansModel" 26 "AlloyPlansModel" "cents" "[I" ∈ TB := tb_mem (List.mem_of_getElem? (i := 559) (by decide +kernel)) rfl
theorem fl_M_29 : Cond.fieldLink "AlloyPlansModel" 29 "AlloyPlansModel" "each" "[I" ∈ TB := tb_mem (List.mem_of_getElem? (i := 560) (by decide +kernel)) rfl
theorem fl_M_32 : Cond.fieldLink "AlloyPlansModel" 32 "AlloyPlansModel" "most" "[I" ∈ TB := tb_mem (List.mem_of_getElem? (i := 561) (by decide +kernel)) rfl
theorem fl_M_35 : Cond.fieldLink "AlloyPlansModel" 35 "AlloyPlansModel" "low" "[I" ∈ TB := tb_mem (List.mem_of_getElem? (i := 562) (by decide +kernel)) rfl
theorem fl_M_38 : Cond.fieldLink "AlloyPlansModel" 38 "AlloyPlansModel" "high" "[I" ∈ TB := tb_mem (List.mem_of_getElem? (i := 563) (by decide +kernel)) rfl
theorem fl_M_41 : Cond.fieldLink "AlloyPlansModel" 41 "AlloyPlansModel" "stays" "[I" ∈ TB := tb_mem (List.mem_of_getElem? (i := 564) (by decide +kernel)) rfl
theorem fl_M_44 : Cond.fieldLink "AlloyPlansModel" 44 "AlloyPlansModel" "cools" "[I" ∈ TB := tb_mem (List.mem_of_getElem? (i := 565) (by decide +kernel)) rfl
theorem fl_M_72 : Cond.fieldLink "AlloyPlansModel" 72 "AlloyPlansModel" "planned" "Z" ∈ TB := tb_mem (List.mem_of_getElem? (i := 566) (by decide +kernel)) rfl
theorem fl_M_47 : Cond.fieldLink "AlloyPlansModel" 47 "AlloyPlansModel" "plan" "[I" ∈ TB := tb_mem (List.mem_of_getElem? (i := 567) (by decide +kernel)) rfl
theorem fl_M_50 : Cond.fieldLink "AlloyPlansModel" 50 "AlloyPlansModel" "tried" "[I" ∈ TB := tb_mem (List.mem_of_getElem? (i := 568) (by decide +kernel)) rfl
theorem fl_M_64 : Cond.fieldLink "AlloyPlansModel" 64 "AlloyPlansModel" "added" "I" ∈ TB := tb_mem (List.mem_of_getElem? (i := 569) (by decide +kernel)) rfl
theorem fl_M_116 : Cond.fieldLink "AlloyPlansModel" 116 "AlloyPlansModel" "paid" "J" ∈ TB := tb_mem (List.mem_of_getElem? (i := 570) (by decide +kernel)) rfl
theorem ml_L_74 : Cond.methodLink "AlloyPlansLaw" 74 ⟨"AlloyPlansModel", "thrown", "()I"⟩ ∈ TB := tb_mem (List.mem_of_getElem? (i := 610) (by decide +kernel)) rfl
theorem im_M_thrown : Cond.instanceMethod ⟨"AlloyPlansModel", "thrown", "()I"⟩ ∈ TB := tb_mem (List.mem_of_getElem? (i := 611) (by decide +kernel)) rfl
theorem se_M_thrown : Cond.selects "AlloyPlansModel" ⟨"AlloyPlansModel", "thrown", "()I"⟩ ⟨"AlloyPlansModel", "thrown", "()I"⟩ ∈ TB := tb_mem (List.mem_of_getElem? (i := 612) (by decide +kernel)) rfl
set_option maxRecDepth 20000 in
theorem w_M_thrown : Cond.code y_M_thrown c_M_thrown 1 (some .int) ∈ TB := tb_mem (List.mem_of_getElem? (i := 613) rfl) rfl
theorem ml_L_73 : Cond.methodLink "AlloyPlansLaw" 73 ⟨"AlloyPlansModel", "heat", "(I)V"⟩ ∈ TB := tb_mem (List.mem_of_getElem? (i := 614) (by decide +kernel)) rfl
theorem im_M_heat : Cond.instanceMethod ⟨"AlloyPlansModel", "heat", "(I)V"⟩ ∈ TB := tb_mem (List.mem_of_getElem? (i := 615) (by decide +kernel)) rfl
theorem se_M_heat : Cond.selects "AlloyPlansModel" ⟨"AlloyPlansModel", "heat", "(I)V"⟩ ⟨"AlloyPlansModel", "heat", "(I)V"⟩ ∈ TB := tb_mem (List.mem_of_getElem? (i := 616) (by decide +kernel)) rfl
set_option maxRecDepth 20000 in
theorem w_M_heat : Cond.code y_M_heat c_M_heat 2 none ∈ TB := tb_mem (List.mem_of_getElem? (i := 617) rfl) rfl
theorem kc_M_67 : Cond.constant "AlloyPlansModel" 67 (65536 : Int32) ∈ TB := tb_mem (List.mem_of_getElem? (i := 618) (by decide +kernel)) rfl
theorem ml_M_57 : Cond.methodLink "AlloyPlansModel" 57 ⟨"AlloyPlansModel", "in", "(III)Z"⟩ ∈ TB := tb_mem (List.mem_of_getElem? (i := 619) (by decide +kernel)) rfl
theorem sm_M_in : Cond.static ⟨"AlloyPlansModel", "in", "(III)Z"⟩ ∈ TB := tb_mem (List.mem_of_getElem? (i := 620) (by decide +kernel)) rfl
set_option maxRecDepth 20000 in
theorem w_M_in : Cond.code y_M_in c_M_in 3 (some .boolean) ∈ TB := tb_mem (List.mem_of_getElem? (i := 621) rfl) rfl
theorem ml_M_68 : Cond.methodLink "AlloyPlansModel" 68 ⟨"AlloyPlansModel", "goes", "(ZZ)Z"⟩ ∈ TB := tb_mem (List.mem_of_getElem? (i := 622) (by decide +kernel)) rfl
theorem im_M_goes : Cond.instanceMethod ⟨"AlloyPlansModel", "goes", "(ZZ)Z"⟩ ∈ TB := tb_mem (List.mem_of_getElem? (i := 624) (by decide +kernel)) rfl
set_option maxRecDepth 20000 in
theorem w_M_goes : Cond.code y_M_goes c_M_goes 3 (some .boolean) ∈ TB := tb_mem (List.mem_of_getElem? (i := 625) rfl) rfl
theorem ml_L_80 : Cond.methodLink "AlloyPlansLaw" 80 ⟨"AlloyPlansModel", "present", "(III)V"⟩ ∈ TB := tb_mem (List.mem_of_getElem? (i := 626) (by decide +kernel)) rfl
theorem im_M_present : Cond.instanceMethod ⟨"AlloyPlansModel", "present", "(III)V"⟩ ∈ TB := tb_mem (List.mem_of_getElem? (i := 627) (by decide +kernel)) rfl
theorem se_M_present : Cond.selects "AlloyPlansModel" ⟨"AlloyPlansModel", "present", "(III)V"⟩ ⟨"AlloyPlansModel", "present", "(III)V"⟩ ∈ TB := tb_mem (List.mem_of_getElem? (i := 628) (by decide +kernel)) rfl
set_option maxRecDepth 20000 in
theorem w_M_present : Cond.code y_M_present c_M_present 4 none ∈ TB := tb_mem (List.mem_of_getElem? (i := 629) rfl) rfl
theorem ml_M_76 : Cond.methodLink "AlloyPlansModel" 76 ⟨"AlloyPlansModel", "isElement", "(I)Z"⟩ ∈ TB := tb_mem (List.mem_of_getElem? (i := 630) (by decide +kernel)) rfl
theorem sm_M_isElement : Cond.static ⟨"AlloyPlansModel", "isElement", "(I)Z"⟩ ∈ TB := tb_mem (List.mem_of_getElem? (i := 631) (by decide +kernel)) rfl
set_option maxRecDepth 20000 in
theorem w_M_isElement : Cond.code y_M_isElement c_M_isElement 1 (some .boolean) ∈ TB := tb_mem (List.mem_of_getElem? (i := 632) rfl) rfl
theorem ml_M_80 : Cond.methodLink "AlloyPlansModel" 80 ⟨"AlloyPlansModel", "areShares", "(II)Z"⟩ ∈ TB := tb_mem (List.mem_of_getElem? (i := 633) (by decide +kernel)) rfl
theorem sm_M_areShares : Cond.static ⟨"AlloyPlansModel", "areShares", "(II)Z"⟩ ∈ TB := tb_mem (List.mem_of_getElem? (i := 634) (by decide +kernel)) rfl
set_option maxRecDepth 20000 in
theorem w_M_areShares : Cond.code y_M_areShares c_M_areShares 2 (some .boolean) ∈ TB := tb_mem (List.mem_of_getElem? (i := 635) rfl) rfl
theorem ml_L_83 : Cond.methodLink "AlloyPlansLaw" 83 ⟨"AlloyPlansModel", "aim", "(III)V"⟩ ∈ TB := tb_mem (List.mem_of_getElem? (i := 636) (by decide +kernel)) rfl
theorem im_M_aim : Cond.instanceMethod ⟨"AlloyPlansModel", "aim", "(III)V"⟩ ∈ TB := tb_mem (List.mem_of_getElem? (i := 637) (by decide +kernel)) rfl
theorem se_M_aim : Cond.selects "AlloyPlansModel" ⟨"AlloyPlansModel", "aim", "(III)V"⟩ ⟨"AlloyPlansModel", "aim", "(III)V"⟩ ∈ TB := tb_mem (List.mem_of_getElem? (i := 638) (by decide +kernel)) rfl
set_option maxRecDepth 20000 in
theorem w_M_aim : Cond.code y_M_aim c_M_aim 4 none ∈ TB := tb_mem (List.mem_of_getElem? (i := 639) rfl) rfl
theorem ml_L_87 : Cond.methodLink "AlloyPlansLaw" 87 ⟨"AlloyPlansModel", "kind", "(III)I"⟩ ∈ TB := tb_mem (List.mem_of_getElem? (i := 640) (by decide +kernel)) rfl
theorem im_M_kind : Cond.instanceMethod ⟨"AlloyPlansModel", "kind", "(III)I"⟩ ∈ TB := tb_mem (List.mem_of_getElem? (i := 641) (by decide +kernel)) rfl
theorem se_M_kind : Cond.selects "AlloyPlansModel" ⟨"AlloyPlansModel", "kind", "(III)I"⟩ ⟨"AlloyPlansModel", "kind", "(III)I"⟩ ∈ TB := tb_mem (List.mem_of_getElem? (i := 642) (by decide +kernel)) rfl
set_option maxRecDepth 20000 in
theorem w_M_kind : Cond.code y_M_kind c_M_kind 4 (some .int) ∈ TB := tb_mem (List.mem_of_getElem? (i := 643) rfl) rfl
theorem ml_L_91 : Cond.methodLink "AlloyPlansLaw" 91 ⟨"AlloyPlansModel", "holds", "(IIII)V"⟩ ∈ TB := tb_mem (List.mem_of_getElem? (i := 644) (by decide +kernel)) rfl
theorem im_M_holds : Cond.instanceMethod ⟨"AlloyPlansModel", "holds", "(IIII)V"⟩ ∈ TB := tb_mem (List.mem_of_getElem? (i := 645) (by decide +kernel)) rfl
theorem se_M_holds : Cond.selects "AlloyPlansModel" ⟨"AlloyPlansModel", "holds", "(IIII)V"⟩ ⟨"AlloyPlansModel", "holds", "(IIII)V"⟩ ∈ TB := tb_mem (List.mem_of_getElem? (i := 646) (by decide +kernel)) rfl
set_option maxRecDepth 20000 in
theorem w_M_holds : Cond.code y_M_holds c_M_holds 5 none ∈ TB := tb_mem (List.mem_of_getElem? (i := 647) rfl) rfl
theorem ml_M_84 : Cond.methodLink "AlloyPlansModel" 84 ⟨"AlloyPlansModel", "isKind", "(I)Z"⟩ ∈ TB := tb_mem (List.mem_of_getElem? (i := 648) (by decide +kernel)) rfl
theorem im_M_isKind : Cond.instanceMethod ⟨"AlloyPlansModel", "isKind", "(I)Z"⟩ ∈ TB := tb_mem (List.mem_of_getElem? (i := 650) (by decide +kernel)) rfl
set_option maxRecDepth 20000 in
theorem w_M_isKind : Cond.code y_M_isKind c_M_isKind 2 (some .boolean) ∈ TB := tb_mem (List.mem_of_getElem? (i := 651) rfl) rfl
theorem ml_L_94 : Cond.methodLink "AlloyPlansLaw" 94 ⟨"AlloyPlansModel", "yields", "(III)V"⟩ ∈ TB := tb_mem (List.mem_of_getElem? (i := 652) (by decide +kernel)) rfl
theorem im_M_yields : Cond.instanceMethod ⟨"AlloyPlansModel", "yields", "(III)V"⟩ ∈ TB := tb_mem (List.mem_of_getElem? (i := 653) (by decide +kernel)) rfl
theorem se_M_yields : Cond.selects "AlloyPlansModel" ⟨"AlloyPlansModel", "yields", "(III)V"⟩ ⟨"AlloyPlansModel", "yields", "(III)V"⟩ ∈ TB := tb_mem (List.mem_of_getElem? (i := 654) (by decide +kernel)) rfl
set_option maxRecDepth 20000 in
theorem w_M_yields : Cond.code y_M_yields c_M_yields 4 none ∈ TB := tb_mem (List.mem_of_getElem? (i := 655) rfl) rfl
theorem ml_L_98 : Cond.methodLink "AlloyPlansLaw" 98 ⟨"AlloyPlansModel", "run", "(I)I"⟩ ∈ TB := tb_mem (List.mem_of_getElem? (i := 656) (by decide +kernel)) rfl
theorem im_M_run : Cond.instanceMethod ⟨"AlloyPlansModel", "run", "(I)I"⟩ ∈ TB := tb_mem (List.mem_of_getElem? (i := 657) (by decide +kernel)) rfl
theorem se_M_run : Cond.selects "AlloyPlansModel" ⟨"AlloyPlansModel", "run", "(I)I"⟩ ⟨"AlloyPlansModel", "run", "(I)I"⟩ ∈ TB := tb_mem (List.mem_of_getElem? (i := 658) (by decide +kernel)) rfl
set_option maxRecDepth 20000 in
theorem w_M_run : Cond.code y_M_run c_M_run 9 (some .int) ∈ TB := tb_mem (List.mem_of_getElem? (i := 659) rfl) rfl
theorem kc_M_97 : Cond.constant "AlloyPlansModel" 97 (100000000 : Int32) ∈ TB := tb_mem (List.mem_of_getElem? (i := 660) (by decide +kernel)) rfl
theorem ml_M_98 : Cond.methodLink "AlloyPlansModel" 98 ⟨"AlloyPlansModel", "sets", "(I)Z"⟩ ∈ TB := tb_mem (List.mem_of_getElem? (i := 661) (by decide +kernel)) rfl
theorem im_M_sets : Cond.instanceMethod ⟨"AlloyPlansModel", "sets", "(I)Z"⟩ ∈ TB := tb_mem (List.mem_of_getElem? (i := 663) (by decide +kernel)) rfl
set_option maxRecDepth 20000 in
theorem w_M_sets : Cond.code y_M_sets c_M_sets 4 (some .boolean) ∈ TB := tb_mem (List.mem_of_getElem? (i := 664) rfl) rfl
theorem ml_M_101 : Cond.methodLink "AlloyPlansModel" 101 ⟨"AlloyPlansModel", "cooling", "()I"⟩ ∈ TB := tb_mem (List.mem_of_getElem? (i := 665) (by decide +kernel)) rfl
theorem im_M_cooling : Cond.instanceMethod ⟨"AlloyPlansModel", "cooling", "()I"⟩ ∈ TB := tb_mem (List.mem_of_getElem? (i := 667) (by decide +kernel)) rfl
set_option maxRecDepth 20000 in
theorem w_M_cooling : Cond.code y_M_cooling c_M_cooling 3 (some .int) ∈ TB := tb_mem (List.mem_of_getElem? (i := 668) rfl) rfl
theorem ml_M_104 : Cond.methodLink "AlloyPlansModel" 104 ⟨"AlloyPlansModel", "isMet", "(I)Z"⟩ ∈ TB := tb_mem (List.mem_of_getElem? (i := 669) (by decide +kernel)) rfl
theorem im_M_isMet : Cond.instanceMethod ⟨"AlloyPlansModel", "isMet", "(I)Z"⟩ ∈ TB := tb_mem (List.mem_of_getElem? (i := 671) (by decide +kernel)) rfl
set_option maxRecDepth 20000 in
theorem w_M_isMet : Cond.code y_M_isMet c_M_isMet 4 (some .boolean) ∈ TB := tb_mem (List.mem_of_getElem? (i := 672) rfl) rfl
theorem kd_M_87 : Cond.constantLong "AlloyPlansModel" 87 (1000 : Int64) ∈ TB := tb_mem (List.mem_of_getElem? (i := 673) (by decide +kernel)) rfl
theorem ml_M_89 : Cond.methodLink "AlloyPlansModel" 89 ⟨"AlloyPlansModel", "weight", "()I"⟩ ∈ TB := tb_mem (List.mem_of_getElem? (i := 674) (by decide +kernel)) rfl
theorem im_M_weight : Cond.instanceMethod ⟨"AlloyPlansModel", "weight", "()I"⟩ ∈ TB := tb_mem (List.mem_of_getElem? (i := 676) (by decide +kernel)) rfl
set_option maxRecDepth 20000 in
theorem w_M_weight : Cond.code y_M_weight c_M_weight 3 (some .int) ∈ TB := tb_mem (List.mem_of_getElem? (i := 677) rfl) rfl
theorem ml_M_93 : Cond.methodLink "AlloyPlansModel" 93 ⟨"AlloyPlansModel", "amount", "(II)J"⟩ ∈ TB := tb_mem (List.mem_of_getElem? (i := 678) (by decide +kernel)) rfl
theorem im_M_amount : Cond.instanceMethod ⟨"AlloyPlansModel", "amount", "(II)J"⟩ ∈ TB := tb_mem (List.mem_of_getElem? (i := 680) (by decide +kernel)) rfl
set_option maxRecDepth 20000 in
theorem w_M_amount : Cond.code y_M_amount c_M_amount 6 (some .long) ∈ TB := tb_mem (List.mem_of_getElem? (i := 681) rfl) rfl
theorem ml_M_107 : Cond.methodLink "AlloyPlansModel" 107 ⟨"AlloyPlansModel", "cost", "()I"⟩ ∈ TB := tb_mem (List.mem_of_getElem? (i := 682) (by decide +kernel)) rfl
theorem im_M_cost : Cond.instanceMethod ⟨"AlloyPlansModel", "cost", "()I"⟩ ∈ TB := tb_mem (List.mem_of_getElem? (i := 684) (by decide +kernel)) rfl
set_option maxRecDepth 20000 in
theorem w_M_cost : Cond.code y_M_cost c_M_cost 3 (some .int) ∈ TB := tb_mem (List.mem_of_getElem? (i := 685) rfl) rfl
theorem ml_M_110 : Cond.methodLink "AlloyPlansModel" 110 ⟨"AlloyPlansModel", "used", "()I"⟩ ∈ TB := tb_mem (List.mem_of_getElem? (i := 686) (by decide +kernel)) rfl
theorem im_M_used : Cond.instanceMethod ⟨"AlloyPlansModel", "used", "()I"⟩ ∈ TB := tb_mem (List.mem_of_getElem? (i := 688) (by decide +kernel)) rfl
set_option maxRecDepth 20000 in
theorem w_M_used : Cond.code y_M_used c_M_used 3 (some .int) ∈ TB := tb_mem (List.mem_of_getElem? (i := 689) rfl) rfl
theorem ml_L_101 : Cond.methodLink "AlloyPlansLaw" 101 ⟨"AlloyPlansModel", "steps", "(I)I"⟩ ∈ TB := tb_mem (List.mem_of_getElem? (i := 690) (by decide +kernel)) rfl
theorem im_M_steps : Cond.instanceMethod ⟨"AlloyPlansModel", "steps", "(I)I"⟩ ∈ TB := tb_mem (List.mem_of_getElem? (i := 691) (by decide +kernel)) rfl
theorem se_M_steps : Cond.selects "AlloyPlansModel" ⟨"AlloyPlansModel", "steps", "(I)I"⟩ ⟨"AlloyPlansModel", "steps", "(I)I"⟩ ∈ TB := tb_mem (List.mem_of_getElem? (i := 692) (by decide +kernel)) rfl
set_option maxRecDepth 20000 in
theorem w_M_steps : Cond.code y_M_steps c_M_steps 2 (some .int) ∈ TB := tb_mem (List.mem_of_getElem? (i := 693) rfl) rfl
theorem ml_L_104 : Cond.methodLink "AlloyPlansLaw" 104 ⟨"AlloyPlansModel", "planned", "(I)I"⟩ ∈ TB := tb_mem (List.mem_of_getElem? (i := 694) (by decide +kernel)) rfl
theorem im_M_planned : Cond.instanceMethod ⟨"AlloyPlansModel", "planned", "(I)I"⟩ ∈ TB := tb_mem (List.mem_of_getElem? (i := 695) (by decide +kernel)) rfl
theorem se_M_planned : Cond.selects "AlloyPlansModel" ⟨"AlloyPlansModel", "planned", "(I)I"⟩ ⟨"AlloyPlansModel", "planned", "(I)I"⟩ ∈ TB := tb_mem (List.mem_of_getElem? (i := 696) (by decide +kernel)) rfl
set_option maxRecDepth 20000 in
theorem w_M_planned : Cond.code y_M_planned c_M_planned 2 (some .int) ∈ TB := tb_mem (List.mem_of_getElem? (i := 697) rfl) rfl
theorem ml_M_113 : Cond.methodLink "AlloyPlansModel" 113 ⟨"AlloyPlansModel", "load", "()V"⟩ ∈ TB := tb_mem (List.mem_of_getElem? (i := 698) (by decide +kernel)) rfl
theorem im_M_load : Cond.instanceMethod ⟨"AlloyPlansModel", "load", "()V"⟩ ∈ TB := tb_mem (List.mem_of_getElem? (i := 700) (by decide +kernel)) rfl
set_option maxRecDepth 20000 in
theorem w_M_load : Cond.code y_M_load c_M_load 2 none ∈ TB := tb_mem (List.mem_of_getElem? (i := 701) rfl) rfl
theorem ml_L_107 : Cond.methodLink "AlloyPlansLaw" 107 ⟨"AlloyPlansModel", "order", "(I)I"⟩ ∈ TB := tb_mem (List.mem_of_getElem? (i := 702) (by decide +kernel)) rfl
theorem im_M_order : Cond.instanceMethod ⟨"AlloyPlansModel", "order", "(I)I"⟩ ∈ TB := tb_mem (List.mem_of_getElem? (i := 703) (by decide +kernel)) rfl
theorem se_M_order : Cond.selects "AlloyPlansModel" ⟨"AlloyPlansModel", "order", "(I)I"⟩ ⟨"AlloyPlansModel", "order", "(I)I"⟩ ∈ TB := tb_mem (List.mem_of_getElem? (i := 704) (by decide +kernel)) rfl
set_option maxRecDepth 20000 in
theorem w_M_order : Cond.code y_M_order c_M_order 5 (some .int) ∈ TB := tb_mem (List.mem_of_getElem? (i := 705) rfl) rfl
theorem ml_L_110 : Cond.methodLink "AlloyPlansLaw" 110 ⟨"AlloyPlansModel", "after", "(III)J"⟩ ∈ TB := tb_mem (List.mem_of_getElem? (i := 706) (by decide +kernel)) rfl
theorem im_M_after : Cond.instanceMethod ⟨"AlloyPlansModel", "after", "(III)J"⟩ ∈ TB := tb_mem (List.mem_of_getElem? (i := 707) (by decide +kernel)) rfl
theorem se_M_after : Cond.selects "AlloyPlansModel" ⟨"AlloyPlansModel", "after", "(III)J"⟩ ⟨"AlloyPlansModel", "after", "(III)J"⟩ ∈ TB := tb_mem (List.mem_of_getElem? (i := 708) (by decide +kernel)) rfl
set_option maxRecDepth 20000 in
theorem w_M_after : Cond.code y_M_after c_M_after 14 (some .long) ∈ TB := tb_mem (List.mem_of_getElem? (i := 709) rfl) rfl
theorem ml_L_114 : Cond.methodLink "AlloyPlansLaw" 114 ⟨"AlloyPlansModel", "add", "()I"⟩ ∈ TB := tb_mem (List.mem_of_getElem? (i := 710) (by decide +kernel)) rfl
theorem im_M_add : Cond.instanceMethod ⟨"AlloyPlansModel", "add", "()I"⟩ ∈ TB := tb_mem (List.mem_of_getElem? (i := 711) (by decide +kernel)) rfl
theorem se_M_add : Cond.selects "AlloyPlansModel" ⟨"AlloyPlansModel", "add", "()I"⟩ ⟨"AlloyPlansModel", "add", "()I"⟩ ∈ TB := tb_mem (List.mem_of_getElem? (i := 712) (by decide +kernel)) rfl
set_option maxRecDepth 20000 in
theorem w_M_add : Cond.code y_M_add c_M_add 8 (some .int) ∈ TB := tb_mem (List.mem_of_getElem? (i := 713) rfl) rfl
theorem ml_L_117 : Cond.methodLink "AlloyPlansLaw" 117 ⟨"AlloyPlansModel", "heatAt", "(I)J"⟩ ∈ TB := tb_mem (List.mem_of_getElem? (i := 714) (by decide +kernel)) rfl
theorem im_M_heatAt : Cond.instanceMethod ⟨"AlloyPlansModel", "heatAt", "(I)J"⟩ ∈ TB := tb_mem (List.mem_of_getElem? (i := 715) (by decide +kernel)) rfl
theorem se_M_heatAt : Cond.selects "AlloyPlansModel" ⟨"AlloyPlansModel", "heatAt", "(I)J"⟩ ⟨"AlloyPlansModel", "heatAt", "(I)J"⟩ ∈ TB := tb_mem (List.mem_of_getElem? (i := 716) (by decide +kernel)) rfl
set_option maxRecDepth 20000 in
theorem w_M_heatAt : Cond.code y_M_heatAt c_M_heatAt 2 (some .long) ∈ TB := tb_mem (List.mem_of_getElem? (i := 717) rfl) rfl
theorem se_P_tell : Cond.selects "AlloyPlans" ⟨"AlloyPlans", "tell", "([IIII)V"⟩ ⟨"AlloyPlans", "tell", "([IIII)V"⟩ ∈ TB := tb_sel (List.mem_of_getElem? (i := 1) (by decide +kernel)) rfl
theorem se_P_isKind : Cond.selects "AlloyPlans" ⟨"AlloyPlans", "isKind", "(I)Z"⟩ ⟨"AlloyPlans", "isKind", "(I)Z"⟩ ∈ TB := tb_sel (List.mem_of_getElem? (i := 2) (by decide +kernel)) rfl
theorem se_S_tryKindsFrom : Cond.selects "AlloyPlans$Search" ⟨"AlloyPlans$Search", "tryKindsFrom", "(I[LAlloyPlans$Alloy;I)V"⟩ ⟨"AlloyPlans$Search", "tryKindsFrom", "(I[LAlloyPlans$Alloy;I)V"⟩ ∈ TB := tb_sel (List.mem_of_getElem? (i := 3) (by decide +kernel)) rfl
theorem se_S_judge : Cond.selects "AlloyPlans$Search" ⟨"AlloyPlans$Search", "judge", "(LAlloyPlans$Mix;)V"⟩ ⟨"AlloyPlans$Search", "judge", "(LAlloyPlans$Mix;)V"⟩ ∈ TB := tb_sel (List.mem_of_getElem? (i := 4) (by decide +kernel)) rfl
theorem se_S_isWorthTrying : Cond.selects "AlloyPlans$Search" ⟨"AlloyPlans$Search", "isWorthTrying", "(LAlloyPlans$Mix;)Z"⟩ ⟨"AlloyPlans$Search", "isWorthTrying", "(LAlloyPlans$Mix;)Z"⟩ ∈ TB := tb_sel (List.mem_of_getElem? (i := 5) (by decide +kernel)) rfl
theorem se_P_requirePlan : Cond.selects "AlloyPlans" ⟨"AlloyPlans", "requirePlan", "()V"⟩ ⟨"AlloyPlans", "requirePlan", "()V"⟩ ∈ TB := tb_sel (List.mem_of_getElem? (i := 6) (by decide +kernel)) rfl
theorem se_P_countAddedBefore : Cond.selects "AlloyPlans" ⟨"AlloyPlans", "countAddedBefore", "(I)I"⟩ ⟨"AlloyPlans", "countAddedBefore", "(I)I"⟩ ∈ TB := tb_sel (List.mem_of_getElem? (i := 7) (by decide +kernel)) rfl
theorem se_P_isAddedBefore : Cond.selects "AlloyPlans" ⟨"AlloyPlans", "isAddedBefore", "(II)Z"⟩ ⟨"AlloyPlans", "isAddedBefore", "(II)Z"⟩ ∈ TB := tb_sel (List.mem_of_getElem? (i := 8) (by decide +kernel)) rfl
theorem se_P_heldByPlan : Cond.selects "AlloyPlans" ⟨"AlloyPlans", "heldByPlan", "(I)J"⟩ ⟨"AlloyPlans", "heldByPlan", "(I)J"⟩ ∈ TB := tb_sel (List.mem_of_getElem? (i := 9) (by decide +kernel)) rfl
theorem se_P_wholeByPlan : Cond.selects "AlloyPlans" ⟨"AlloyPlans", "wholeByPlan", "()J"⟩ ⟨"AlloyPlans", "wholeByPlan", "()J"⟩ ∈ TB := tb_sel (List.mem_of_getElem? (i := 10) (by decide +kernel)) rfl
theorem se_P_roundedByPlan : Cond.selects "AlloyPlans" ⟨"AlloyPlans", "roundedByPlan", "(I)I"⟩ ⟨"AlloyPlans", "roundedByPlan", "(I)I"⟩ ∈ TB := tb_sel (List.mem_of_getElem? (i := 11) (by decide +kernel)) rfl
theorem se_M_goes : Cond.selects "AlloyPlansModel" ⟨"AlloyPlansModel", "goes", "(ZZ)Z"⟩ ⟨"AlloyPlansModel", "goes", "(ZZ)Z"⟩ ∈ TB := tb_sel (List.mem_of_getElem? (i := 12) (by decide +kernel)) rfl
theorem se_M_isKind : Cond.selects "AlloyPlansModel" ⟨"AlloyPlansModel", "isKind", "(I)Z"⟩ ⟨"AlloyPlansModel", "isKind", "(I)Z"⟩ ∈ TB := tb_sel (List.mem_of_getElem? (i := 13) (by decide +kernel)) rfl
theorem se_M_sets : Cond.selects "AlloyPlansModel" ⟨"AlloyPlansModel", "sets", "(I)Z"⟩ ⟨"AlloyPlansModel", "sets", "(I)Z"⟩ ∈ TB := tb_sel (List.mem_of_getElem? (i := 14) (by decide +kernel)) rfl
theorem se_M_cooling : Cond.selects "AlloyPlansModel" ⟨"AlloyPlansModel", "cooling", "()I"⟩ ⟨"AlloyPlansModel", "cooling", "()I"⟩ ∈ TB := tb_sel (List.mem_of_getElem? (i := 15) (by decide +kernel)) rfl
theorem se_M_isMet : Cond.selects "AlloyPlansModel" ⟨"AlloyPlansModel", "isMet", "(I)Z"⟩ ⟨"AlloyPlansModel", "isMet", "(I)Z"⟩ ∈ TB := tb_sel (List.mem_of_getElem? (i := 16) (by decide +kernel)) rfl
theorem se_M_weight : Cond.selects "AlloyPlansModel" ⟨"AlloyPlansModel", "weight", "()I"⟩ ⟨"AlloyPlansModel", "weight", "()I"⟩ ∈ TB := tb_sel (List.mem_of_getElem? (i := 17) (by decide +kernel)) rfl
theorem se_M_amount : Cond.selects "AlloyPlansModel" ⟨"AlloyPlansModel", "amount", "(II)J"⟩ ⟨"AlloyPlansModel", "amount", "(II)J"⟩ ∈ TB := tb_sel (List.mem_of_getElem? (i := 18) (by decide +kernel)) rfl
theorem se_M_cost : Cond.selects "AlloyPlansModel" ⟨"AlloyPlansModel", "cost", "()I"⟩ ⟨"AlloyPlansModel", "cost", "()I"⟩ ∈ TB := tb_sel (List.mem_of_getElem? (i := 19) (by decide +kernel)) rfl
theorem se_M_used : Cond.selects "AlloyPlansModel" ⟨"AlloyPlansModel", "used", "()I"⟩ ⟨"AlloyPlansModel", "used", "()I"⟩ ∈ TB := tb_sel (List.mem_of_getElem? (i := 20) (by decide +kernel)) rfl
theorem se_M_load : Cond.selects "AlloyPlansModel" ⟨"AlloyPlansModel", "load", "()V"⟩ ⟨"AlloyPlansModel", "load", "()V"⟩ ∈ TB := tb_sel (List.mem_of_getElem? (i := 21) (by decide +kernel)) rfl
