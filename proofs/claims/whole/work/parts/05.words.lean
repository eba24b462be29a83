/-- the tables' words that go down to callees -/
def gw_tbl : List Cond := lw_tbl.filter goodWord
theorem u_in_all {C : String} {T : u_T} {N : Nat} {l : List Cond} (h : ∀ k, k < N → u_lay C T k ∈ l) : ∀ w ∈ u_ws C T N, w ∈ l := by
  intro w hw
  obtain ⟨k, hk, rfl⟩ := List.mem_map.mp hw
  exact h k (List.mem_range.mp hk)
/-! ===== the words that the bodies use, each by its place in the tables ===== -/
theorem wd_0 : Cond.selects RX5 yX5_refused yX5_refused ∈ gw_tbl := List.mem_filter.mpr ⟨List.mem_of_getElem? (i := 0) (by decide +kernel), rfl⟩
theorem wd_1 : Cond.selects RX4 yX4_think yX4_think ∈ gw_tbl := List.mem_filter.mpr ⟨List.mem_of_getElem? (i := 1) (by decide +kernel), rfl⟩
theorem wd_2 : Cond.selects RX4 yX4_goToFace yX4_goToFace ∈ gw_tbl := List.mem_filter.mpr ⟨List.mem_of_getElem? (i := 2) (by decide +kernel), rfl⟩
theorem wd_3 : Cond.selects RX4 yX4_goAllToFace yX4_goAllToFace ∈ gw_tbl := List.mem_filter.mpr ⟨List.mem_of_getElem? (i := 3) (by decide +kernel), rfl⟩
theorem wd_4 : Cond.selects RX4 yX4_beamsToFace yX4_beamsToFace ∈ gw_tbl := List.mem_filter.mpr ⟨List.mem_of_getElem? (i := 4) (by decide +kernel), rfl⟩
theorem wd_5 : Cond.selects RX4 yX4_humOne yX4_humOne ∈ gw_tbl := List.mem_filter.mpr ⟨List.mem_of_getElem? (i := 5) (by decide +kernel), rfl⟩
theorem wd_6 : Cond.selects RX4 yX4_fewestAt yX4_fewestAt ∈ gw_tbl := List.mem_filter.mpr ⟨List.mem_of_getElem? (i := 6) (by decide +kernel), rfl⟩
theorem wd_7 : Cond.selects RX4 yX4_price yX4_price ∈ gw_tbl := List.mem_filter.mpr ⟨List.mem_of_getElem? (i := 7) (by decide +kernel), rfl⟩
theorem wd_8 : Cond.selects RX5 yX5_longRefused yX5_longRefused ∈ gw_tbl := List.mem_filter.mpr ⟨List.mem_of_getElem? (i := 8) (by decide +kernel), rfl⟩
theorem wd_9 : Cond.selects RX4 yX4_cellWithCoughs yX4_cellWithCoughs ∈ gw_tbl := List.mem_filter.mpr ⟨List.mem_of_getElem? (i := 9) (by decide +kernel), rfl⟩
theorem wd_10 : Cond.selects RX4 yX4_goesAsTold yX4_goesAsTold ∈ gw_tbl := List.mem_filter.mpr ⟨List.mem_of_getElem? (i := 10) (by decide +kernel), rfl⟩
theorem wd_11 : Cond.selects RX6 yX6_no yX6_no ∈ gw_tbl := List.mem_filter.mpr ⟨List.mem_of_getElem? (i := 11) (by decide +kernel), rfl⟩
theorem wd_12 : Cond.selects RX6 yX6_statement yX6_statement ∈ gw_tbl := List.mem_filter.mpr ⟨List.mem_of_getElem? (i := 12) (by decide +kernel), rfl⟩
theorem wd_13 : Cond.selects RX6 yX6_letterNow yX6_letterNow ∈ gw_tbl := List.mem_filter.mpr ⟨List.mem_of_getElem? (i := 13) (by decide +kernel), rfl⟩
theorem wd_14 : Cond.selects RX6 yX6_readsAll yX6_readsAll ∈ gw_tbl := List.mem_filter.mpr ⟨List.mem_of_getElem? (i := 14) (by decide +kernel), rfl⟩
theorem wd_15 : Cond.selects RX6 yX6_readsDigits yX6_readsDigits ∈ gw_tbl := List.mem_filter.mpr ⟨List.mem_of_getElem? (i := 15) (by decide +kernel), rfl⟩
theorem wd_16 : Cond.selects RX6 yX6_readsMiner yX6_readsMiner ∈ gw_tbl := List.mem_filter.mpr ⟨List.mem_of_getElem? (i := 16) (by decide +kernel), rfl⟩
theorem wd_17 : Cond.selects RX6 yX6_passesAll yX6_passesAll ∈ gw_tbl := List.mem_filter.mpr ⟨List.mem_of_getElem? (i := 17) (by decide +kernel), rfl⟩
theorem wd_18 : Cond.selects RX6 yX6_passes yX6_passes ∈ gw_tbl := List.mem_filter.mpr ⟨List.mem_of_getElem? (i := 18) (by decide +kernel), rfl⟩
theorem wd_19 : Cond.selects RX6 yX6_passOne yX6_passOne ∈ gw_tbl := List.mem_filter.mpr ⟨List.mem_of_getElem? (i := 19) (by decide +kernel), rfl⟩
theorem wd_20 : Cond.selects RX6 yX6_comes yX6_comes ∈ gw_tbl := List.mem_filter.mpr ⟨List.mem_of_getElem? (i := 20) (by decide +kernel), rfl⟩
theorem wd_21 : Cond.selects RX6 yX6_comesBeams yX6_comesBeams ∈ gw_tbl := List.mem_filter.mpr ⟨List.mem_of_getElem? (i := 21) (by decide +kernel), rfl⟩
theorem wd_22 : Cond.selects RX6 yX6_comesPair yX6_comesPair ∈ gw_tbl := List.mem_filter.mpr ⟨List.mem_of_getElem? (i := 22) (by decide +kernel), rfl⟩
theorem wd_23 : Cond.selects RX6 yX6_comesOf yX6_comesOf ∈ gw_tbl := List.mem_filter.mpr ⟨List.mem_of_getElem? (i := 23) (by decide +kernel), rfl⟩
theorem wd_24 : Cond.selects RX6 yX6_isPair yX6_isPair ∈ gw_tbl := List.mem_filter.mpr ⟨List.mem_of_getElem? (i := 24) (by decide +kernel), rfl⟩
theorem wd_25 : Cond.selects RX6 yX6_isMiner yX6_isMiner ∈ gw_tbl := List.mem_filter.mpr ⟨List.mem_of_getElem? (i := 25) (by decide +kernel), rfl⟩
theorem wd_26 : Cond.selects RX6 yX6_changesTwo yX6_changesTwo ∈ gw_tbl := List.mem_filter.mpr ⟨List.mem_of_getElem? (i := 26) (by decide +kernel), rfl⟩
theorem wd_27 : Cond.selects RX6 yX6_changes yX6_changes ∈ gw_tbl := List.mem_filter.mpr ⟨List.mem_of_getElem? (i := 27) (by decide +kernel), rfl⟩
theorem wd_28 : Cond.selects RX6 yX6_comesMinutes yX6_comesMinutes ∈ gw_tbl := List.mem_filter.mpr ⟨List.mem_of_getElem? (i := 28) (by decide +kernel), rfl⟩
theorem wd_29 : Cond.selects RX6 yX6_goes yX6_goes ∈ gw_tbl := List.mem_filter.mpr ⟨List.mem_of_getElem? (i := 29) (by decide +kernel), rfl⟩
theorem wd_30 : Cond.selects RX6 yX6_goesMinute yX6_goesMinute ∈ gw_tbl := List.mem_filter.mpr ⟨List.mem_of_getElem? (i := 30) (by decide +kernel), rfl⟩
theorem wd_31 : Cond.selects RX6 yX6_goesPair yX6_goesPair ∈ gw_tbl := List.mem_filter.mpr ⟨List.mem_of_getElem? (i := 31) (by decide +kernel), rfl⟩
theorem wd_32 : Cond.selects RX6 yX6_speaker yX6_speaker ∈ gw_tbl := List.mem_filter.mpr ⟨List.mem_of_getElem? (i := 32) (by decide +kernel), rfl⟩
theorem wd_33 : Cond.selects RX6 yX6_wants yX6_wants ∈ gw_tbl := List.mem_filter.mpr ⟨List.mem_of_getElem? (i := 33) (by decide +kernel), rfl⟩
theorem wd_34 : Cond.selects RX6 yX6_wantsBy yX6_wantsBy ∈ gw_tbl := List.mem_filter.mpr ⟨List.mem_of_getElem? (i := 34) (by decide +kernel), rfl⟩
theorem wd_35 : Cond.selects RX6 yX6_stepsOf yX6_stepsOf ∈ gw_tbl := List.mem_filter.mpr ⟨List.mem_of_getElem? (i := 35) (by decide +kernel), rfl⟩
theorem wd_36 : Cond.selects RX6 yX6_facesMany yX6_facesMany ∈ gw_tbl := List.mem_filter.mpr ⟨List.mem_of_getElem? (i := 36) (by decide +kernel), rfl⟩
theorem wd_37 : Cond.selects RX6 yX6_thinks yX6_thinks ∈ gw_tbl := List.mem_filter.mpr ⟨List.mem_of_getElem? (i := 37) (by decide +kernel), rfl⟩
theorem wd_38 : Cond.selects RX6 yX6_forgets yX6_forgets ∈ gw_tbl := List.mem_filter.mpr ⟨List.mem_of_getElem? (i := 38) (by decide +kernel), rfl⟩
theorem wd_39 : Cond.selects RX6 yX6_allBruisesIn yX6_allBruisesIn ∈ gw_tbl := List.mem_filter.mpr ⟨List.mem_of_getElem? (i := 39) (by decide +kernel), rfl⟩
theorem wd_40 : Cond.selects RX6 yX6_allBruises yX6_allBruises ∈ gw_tbl := List.mem_filter.mpr ⟨List.mem_of_getElem? (i := 40) (by decide +kernel), rfl⟩
theorem wd_41 : Cond.selects RX6 yX6_firstFaced yX6_firstFaced ∈ gw_tbl := List.mem_filter.mpr ⟨List.mem_of_getElem? (i := 41) (by decide +kernel), rfl⟩
theorem wd_42 : Cond.selects RX6 yX6_facedWhen yX6_facedWhen ∈ gw_tbl := List.mem_filter.mpr ⟨List.mem_of_getElem? (i := 42) (by decide +kernel), rfl⟩
theorem wd_43 : Cond.selects RX6 yX6_allFaced yX6_allFaced ∈ gw_tbl := List.mem_filter.mpr ⟨List.mem_of_getElem? (i := 43) (by decide +kernel), rfl⟩
theorem wd_44 : Cond.selects RX6 yX6_saidWhen yX6_saidWhen ∈ gw_tbl := List.mem_filter.mpr ⟨List.mem_of_getElem? (i := 44) (by decide +kernel), rfl⟩
theorem wd_45 : Cond.selects RX6 yX6_beamsFrom yX6_beamsFrom ∈ gw_tbl := List.mem_filter.mpr ⟨List.mem_of_getElem? (i := 45) (by decide +kernel), rfl⟩
theorem wd_46 : Cond.selects RX6 yX6_walksMinute yX6_walksMinute ∈ gw_tbl := List.mem_filter.mpr ⟨List.mem_of_getElem? (i := 46) (by decide +kernel), rfl⟩
theorem wd_47 : Cond.selects RX6 yX6_walksOne yX6_walksOne ∈ gw_tbl := List.mem_filter.mpr ⟨List.mem_of_getElem? (i := 47) (by decide +kernel), rfl⟩
theorem wd_48 : Cond.selects RX6 yX6_farthest yX6_farthest ∈ gw_tbl := List.mem_filter.mpr ⟨List.mem_of_getElem? (i := 48) (by decide +kernel), rfl⟩
theorem wd_49 : Cond.selects RX6 yX6_leastFar yX6_leastFar ∈ gw_tbl := List.mem_filter.mpr ⟨List.mem_of_getElem? (i := 49) (by decide +kernel), rfl⟩
theorem wd_50 : Cond.selects RX6 yX6_mostHurt yX6_mostHurt ∈ gw_tbl := List.mem_filter.mpr ⟨List.mem_of_getElem? (i := 50) (by decide +kernel), rfl⟩
theorem wd_51 : Cond.selects RX6 yX6_together yX6_together ∈ gw_tbl := List.mem_filter.mpr ⟨List.mem_of_getElem? (i := 51) (by decide +kernel), rfl⟩
theorem wd_52 : Cond.selects RX6 yX6_allBeams yX6_allBeams ∈ gw_tbl := List.mem_filter.mpr ⟨List.mem_of_getElem? (i := 52) (by decide +kernel), rfl⟩
theorem wd_53 : Cond.selects RX6 yX6_findCosts yX6_findCosts ∈ gw_tbl := List.mem_filter.mpr ⟨List.mem_of_getElem? (i := 53) (by decide +kernel), rfl⟩
theorem wd_54 : Cond.selects RX6 yX6_lowestOf yX6_lowestOf ∈ gw_tbl := List.mem_filter.mpr ⟨List.mem_of_getElem? (i := 54) (by decide +kernel), rfl⟩
theorem wd_55 : Cond.selects RX6 yX6_bitsFor yX6_bitsFor ∈ gw_tbl := List.mem_filter.mpr ⟨List.mem_of_getElem? (i := 55) (by decide +kernel), rfl⟩
theorem wd_56 : Cond.selects RX6 yX6_isSo yX6_isSo ∈ gw_tbl := List.mem_filter.mpr ⟨List.mem_of_getElem? (i := 56) (by decide +kernel), rfl⟩
theorem wd_57 : Cond.selects RX6 yX6_draw yX6_draw ∈ gw_tbl := List.mem_filter.mpr ⟨List.mem_of_getElem? (i := 57) (by decide +kernel), rfl⟩
theorem wd_58 : Cond.selects RX6 yX6_faces yX6_faces ∈ gw_tbl := List.mem_filter.mpr ⟨List.mem_of_getElem? (i := 58) (by decide +kernel), rfl⟩
theorem wd_60 : Cond.initialized RX5 ∈ gw_tbl := List.mem_filter.mpr ⟨List.mem_of_getElem? (i := 60) (by decide +kernel), rfl⟩
theorem wd_61 : Cond.initialized RX0 ∈ gw_tbl := List.mem_filter.mpr ⟨List.mem_of_getElem? (i := 61) (by decide +kernel), rfl⟩
theorem wd_62 : Cond.initialized RX4 ∈ gw_tbl := List.mem_filter.mpr ⟨List.mem_of_getElem? (i := 62) (by decide +kernel), rfl⟩
theorem wd_63 : Cond.initialized RX2 ∈ gw_tbl := List.mem_filter.mpr ⟨List.mem_of_getElem? (i := 63) (by decide +kernel), rfl⟩
theorem wd_64 : Cond.initialized "java/lang/Math" ∈ gw_tbl := List.mem_filter.mpr ⟨List.mem_of_getElem? (i := 64) (by decide +kernel), rfl⟩
theorem wd_65 : Cond.initialized RX6 ∈ gw_tbl := List.mem_filter.mpr ⟨List.mem_of_getElem? (i := 65) (by decide +kernel), rfl⟩
theorem wd_66 : Cond.initialized RX3 ∈ gw_tbl := List.mem_filter.mpr ⟨List.mem_of_getElem? (i := 66) (by decide +kernel), rfl⟩
theorem wd_67 : Cond.initialized RX1 ∈ gw_tbl := List.mem_filter.mpr ⟨List.mem_of_getElem? (i := 67) (by decide +kernel), rfl⟩
theorem wd_68 : Cond.initialized RJ6 ∈ gw_tbl := List.mem_filter.mpr ⟨List.mem_of_getElem? (i := 68) (by decide +kernel), rfl⟩
theorem wd_83 : Cond.fieldLink RX0 9 "LampOfTheSilent$Gallery" "beamsByCell" "[I" ∈ gw_tbl := List.mem_filter.mpr ⟨List.mem_of_getElem? (i := 83) (by decide +kernel), rfl⟩
theorem wd_84 : Cond.fieldLink RX0 15 "LampOfTheSilent$Gallery" "cells" "[I" ∈ gw_tbl := List.mem_filter.mpr ⟨List.mem_of_getElem? (i := 84) (by decide +kernel), rfl⟩
theorem wd_85 : Cond.fieldLink RX0 18 "LampOfTheSilent$Gallery" "toSay" "[I" ∈ gw_tbl := List.mem_filter.mpr ⟨List.mem_of_getElem? (i := 85) (by decide +kernel), rfl⟩
theorem wd_86 : Cond.fieldLink RX0 21 "LampOfTheSilent$Gallery" "kinds" "[I" ∈ gw_tbl := List.mem_filter.mpr ⟨List.mem_of_getElem? (i := 86) (by decide +kernel), rfl⟩
theorem wd_87 : Cond.fieldLink RX0 24 "LampOfTheSilent$Gallery" "figures" "[I" ∈ gw_tbl := List.mem_filter.mpr ⟨List.mem_of_getElem? (i := 87) (by decide +kernel), rfl⟩
theorem wd_88 : Cond.fieldLink RX0 27 "LampOfTheSilent$Gallery" "bruises" "[I" ∈ gw_tbl := List.mem_filter.mpr ⟨List.mem_of_getElem? (i := 88) (by decide +kernel), rfl⟩
theorem wd_89 : Cond.fieldLink RX0 34 "LampOfTheSilent$Gallery" "pairCount" "I" ∈ gw_tbl := List.mem_filter.mpr ⟨List.mem_of_getElem? (i := 89) (by decide +kernel), rfl⟩
theorem wd_90 : Cond.fieldLink RX0 38 "LampOfTheSilent$Gallery" "minuteNow" "I" ∈ gw_tbl := List.mem_filter.mpr ⟨List.mem_of_getElem? (i := 90) (by decide +kernel), rfl⟩
theorem wd_91 : u_lay RX0 TX0 0 ∈ gw_tbl := List.mem_filter.mpr ⟨List.mem_of_getElem? (i := 91) (by decide +kernel), rfl⟩
theorem wd_93 : u_lay RX0 TX0 1 ∈ gw_tbl := List.mem_filter.mpr ⟨List.mem_of_getElem? (i := 93) (by decide +kernel), rfl⟩
theorem wd_95 : u_lay RX0 TX0 2 ∈ gw_tbl := List.mem_filter.mpr ⟨List.mem_of_getElem? (i := 95) (by decide +kernel), rfl⟩
theorem wd_97 : u_lay RX0 TX0 3 ∈ gw_tbl := List.mem_filter.mpr ⟨List.mem_of_getElem? (i := 97) (by decide +kernel), rfl⟩
theorem wd_99 : u_lay RX0 TX0 4 ∈ gw_tbl := List.mem_filter.mpr ⟨List.mem_of_getElem? (i := 99) (by decide +kernel), rfl⟩
theorem wd_101 : u_lay RX0 TX0 5 ∈ gw_tbl := List.mem_filter.mpr ⟨List.mem_of_getElem? (i := 101) (by decide +kernel), rfl⟩
theorem wd_103 : u_lay RX0 TX0 6 ∈ gw_tbl := List.mem_filter.mpr ⟨List.mem_of_getElem? (i := 103) (by decide +kernel), rfl⟩
theorem wd_105 : u_lay RX0 TX0 7 ∈ gw_tbl := List.mem_filter.mpr ⟨List.mem_of_getElem? (i := 105) (by decide +kernel), rfl⟩
theorem wd_117 : Cond.fieldLink RX4 22 "LampOfTheSilent$Thought" "now" "LLampOfTheSilent$Gallery;" ∈ gw_tbl := List.mem_filter.mpr ⟨List.mem_of_getElem? (i := 117) (by decide +kernel), rfl⟩
theorem wd_118 : Cond.fieldLink RX4 12 "LampOfTheSilent$Thought" "mind" "LLampOfTheSilent$Gallery;" ∈ gw_tbl := List.mem_filter.mpr ⟨List.mem_of_getElem? (i := 118) (by decide +kernel), rfl⟩
theorem wd_119 : Cond.fieldLink RX4 18 "LampOfTheSilent$Thought" "fewest" "[I" ∈ gw_tbl := List.mem_filter.mpr ⟨List.mem_of_getElem? (i := 119) (by decide +kernel), rfl⟩
theorem wd_120 : u_lay RX4 TX4 0 ∈ gw_tbl := List.mem_filter.mpr ⟨List.mem_of_getElem? (i := 120) (by decide +kernel), rfl⟩
theorem wd_122 : u_lay RX4 TX4 1 ∈ gw_tbl := List.mem_filter.mpr ⟨List.mem_of_getElem? (i := 122) (by decide +kernel), rfl⟩
theorem wd_124 : u_lay RX4 TX4 2 ∈ gw_tbl := List.mem_filter.mpr ⟨List.mem_of_getElem? (i := 124) (by decide +kernel), rfl⟩
theorem wd_134 : Cond.static yJ9_max_7cf53 ∈ gw_tbl := List.mem_filter.mpr ⟨List.mem_of_getElem? (i := 134) (by decide +kernel), rfl⟩
theorem wd_135 : Cond.code yJ9_max_7cf53 Lib.Math.max.code 2 (some .int) ∈ gw_tbl := List.mem_filter.mpr ⟨List.mem_of_getElem? (i := 135) (by decide +kernel), rfl⟩
theorem wd_136 : Cond.fieldLink RX2 13 "LampOfTheSilent$Numbers" "values" "[I" ∈ gw_tbl := List.mem_filter.mpr ⟨List.mem_of_getElem? (i := 136) (by decide +kernel), rfl⟩
theorem wd_137 : Cond.fieldLink RX2 19 "LampOfTheSilent$Numbers" "size" "I" ∈ gw_tbl := List.mem_filter.mpr ⟨List.mem_of_getElem? (i := 137) (by decide +kernel), rfl⟩
theorem wd_138 : u_lay RX2 TX2 0 ∈ gw_tbl := List.mem_filter.mpr ⟨List.mem_of_getElem? (i := 138) (by decide +kernel), rfl⟩
theorem wd_140 : u_lay RX2 TX2 1 ∈ gw_tbl := List.mem_filter.mpr ⟨List.mem_of_getElem? (i := 140) (by decide +kernel), rfl⟩
theorem wd_143 : Cond.fieldLink RX5 12 "LampOfTheSilent" "now" "LLampOfTheSilent$Gallery;" ∈ gw_tbl := List.mem_filter.mpr ⟨List.mem_of_getElem? (i := 143) (by decide +kernel), rfl⟩
theorem wd_144 : Cond.fieldLink RX5 16 "LampOfTheSilent" "kept" "LLampOfTheSilent$Gallery;" ∈ gw_tbl := List.mem_filter.mpr ⟨List.mem_of_getElem? (i := 144) (by decide +kernel), rfl⟩
theorem wd_145 : Cond.fieldLink RX5 259 "LampOfTheSilent" "isKept" "Z" ∈ gw_tbl := List.mem_filter.mpr ⟨List.mem_of_getElem? (i := 145) (by decide +kernel), rfl⟩
theorem wd_146 : Cond.fieldLink RX5 24 "LampOfTheSilent" "thought" "LLampOfTheSilent$Thought;" ∈ gw_tbl := List.mem_filter.mpr ⟨List.mem_of_getElem? (i := 146) (by decide +kernel), rfl⟩
theorem wd_147 : Cond.fieldLink RX5 33 "LampOfTheSilent" "letters" "LLampOfTheSilent$Numbers;" ∈ gw_tbl := List.mem_filter.mpr ⟨List.mem_of_getElem? (i := 147) (by decide +kernel), rfl⟩
theorem wd_148 : Cond.fieldLink RX5 37 "LampOfTheSilent" "told" "LLampOfTheSilent$Numbers;" ∈ gw_tbl := List.mem_filter.mpr ⟨List.mem_of_getElem? (i := 148) (by decide +kernel), rfl⟩
theorem wd_149 : Cond.fieldLink RX5 40 "LampOfTheSilent" "refusals" "[I" ∈ gw_tbl := List.mem_filter.mpr ⟨List.mem_of_getElem? (i := 149) (by decide +kernel), rfl⟩
theorem wd_150 : u_lay RX5 TX5 0 ∈ gw_tbl := List.mem_filter.mpr ⟨List.mem_of_getElem? (i := 150) (by decide +kernel), rfl⟩
theorem wd_152 : u_lay RX5 TX5 1 ∈ gw_tbl := List.mem_filter.mpr ⟨List.mem_of_getElem? (i := 152) (by decide +kernel), rfl⟩
theorem wd_154 : u_lay RX5 TX5 2 ∈ gw_tbl := List.mem_filter.mpr ⟨List.mem_of_getElem? (i := 154) (by decide +kernel), rfl⟩
theorem wd_156 : u_lay RX5 TX5 3 ∈ gw_tbl := List.mem_filter.mpr ⟨List.mem_of_getElem? (i := 156) (by decide +kernel), rfl⟩
theorem wd_158 : u_lay RX5 TX5 4 ∈ gw_tbl := List.mem_filter.mpr ⟨List.mem_of_getElem? (i := 158) (by decide +kernel), rfl⟩
theorem wd_160 : u_lay RX5 TX5 5 ∈ gw_tbl := List.mem_filter.mpr ⟨List.mem_of_getElem? (i := 160) (by decide +kernel), rfl⟩
theorem wd_162 : u_lay RX5 TX5 6 ∈ gw_tbl := List.mem_filter.mpr ⟨List.mem_of_getElem? (i := 162) (by decide +kernel), rfl⟩
theorem wd_165 : Cond.methodLink RL 13 yX5_letter ∈ gw_tbl := List.mem_filter.mpr ⟨List.mem_of_getElem? (i := 165) (by decide +kernel), rfl⟩
theorem wd_166 : Cond.instanceMethod yX5_letter ∈ gw_tbl := List.mem_filter.mpr ⟨List.mem_of_getElem? (i := 166) (by decide +kernel), rfl⟩
theorem wd_167 : Cond.selects RX5 yX5_letter yX5_letter ∈ gw_tbl := List.mem_filter.mpr ⟨List.mem_of_getElem? (i := 167) (by decide +kernel), rfl⟩
theorem wd_168 : Cond.code yX5_letter cX5_letter 2 (some .int) ∈ gw_tbl := List.mem_filter.mpr ⟨List.mem_of_getElem? (i := 168) (by decide +kernel), rfl⟩
theorem wd_169 : Cond.methodLink RX5 44 yX5_refused ∈ gw_tbl := List.mem_filter.mpr ⟨List.mem_of_getElem? (i := 169) (by decide +kernel), rfl⟩
theorem wd_171 : Cond.instanceMethod yX5_refused ∈ gw_tbl := List.mem_filter.mpr ⟨List.mem_of_getElem? (i := 171) (by decide +kernel), rfl⟩
theorem wd_172 : Cond.code yX5_refused cX5_refused 3 (some .int) ∈ gw_tbl := List.mem_filter.mpr ⟨List.mem_of_getElem? (i := 172) (by decide +kernel), rfl⟩
theorem wd_173 : Cond.methodLink RX5 48 yX2_isFull ∈ gw_tbl := List.mem_filter.mpr ⟨List.mem_of_getElem? (i := 173) (by decide +kernel), rfl⟩
theorem wd_174 : Cond.instanceMethod yX2_isFull ∈ gw_tbl := List.mem_filter.mpr ⟨List.mem_of_getElem? (i := 174) (by decide +kernel), rfl⟩
theorem wd_175 : Cond.selects RX2 yX2_isFull yX2_isFull ∈ gw_tbl := List.mem_filter.mpr ⟨List.mem_of_getElem? (i := 175) (by decide +kernel), rfl⟩
theorem wd_176 : Cond.code yX2_isFull cX2_isFull 1 (some .boolean) ∈ gw_tbl := List.mem_filter.mpr ⟨List.mem_of_getElem? (i := 176) (by decide +kernel), rfl⟩
theorem wd_177 : Cond.methodLink RX5 52 yX2_add ∈ gw_tbl := List.mem_filter.mpr ⟨List.mem_of_getElem? (i := 177) (by decide +kernel), rfl⟩
theorem wd_178 : Cond.instanceMethod yX2_add ∈ gw_tbl := List.mem_filter.mpr ⟨List.mem_of_getElem? (i := 178) (by decide +kernel), rfl⟩
theorem wd_179 : Cond.selects RX2 yX2_add yX2_add ∈ gw_tbl := List.mem_filter.mpr ⟨List.mem_of_getElem? (i := 179) (by decide +kernel), rfl⟩
theorem wd_180 : Cond.code yX2_add cX2_add 2 (some .int) ∈ gw_tbl := List.mem_filter.mpr ⟨List.mem_of_getElem? (i := 180) (by decide +kernel), rfl⟩
theorem wd_181 : Cond.methodLink RL 18 yX5_mine ∈ gw_tbl := List.mem_filter.mpr ⟨List.mem_of_getElem? (i := 181) (by decide +kernel), rfl⟩
theorem wd_182 : Cond.instanceMethod yX5_mine ∈ gw_tbl := List.mem_filter.mpr ⟨List.mem_of_getElem? (i := 182) (by decide +kernel), rfl⟩
theorem wd_183 : Cond.selects RX5 yX5_mine yX5_mine ∈ gw_tbl := List.mem_filter.mpr ⟨List.mem_of_getElem? (i := 183) (by decide +kernel), rfl⟩
theorem wd_184 : Cond.code yX5_mine cX5_mine 2 (some .int) ∈ gw_tbl := List.mem_filter.mpr ⟨List.mem_of_getElem? (i := 184) (by decide +kernel), rfl⟩
theorem wd_185 : Cond.methodLink RX5 55 yX3_comeTo ∈ gw_tbl := List.mem_filter.mpr ⟨List.mem_of_getElem? (i := 185) (by decide +kernel), rfl⟩
theorem wd_186 : Cond.static yX3_comeTo ∈ gw_tbl := List.mem_filter.mpr ⟨List.mem_of_getElem? (i := 186) (by decide +kernel), rfl⟩
theorem wd_187 : Cond.code yX3_comeTo cX3_comeTo 7 (some .int) ∈ gw_tbl := List.mem_filter.mpr ⟨List.mem_of_getElem? (i := 187) (by decide +kernel), rfl⟩
theorem wd_188 : Cond.methodLink RX3 11 yX3_brokenAt ∈ gw_tbl := List.mem_filter.mpr ⟨List.mem_of_getElem? (i := 188) (by decide +kernel), rfl⟩
theorem wd_189 : Cond.static yX3_brokenAt ∈ gw_tbl := List.mem_filter.mpr ⟨List.mem_of_getElem? (i := 189) (by decide +kernel), rfl⟩
theorem wd_190 : Cond.code yX3_brokenAt cX3_brokenAt 4 (some .int) ∈ gw_tbl := List.mem_filter.mpr ⟨List.mem_of_getElem? (i := 190) (by decide +kernel), rfl⟩
theorem wd_191 : Cond.methodLink RX3 28 yX2_size ∈ gw_tbl := List.mem_filter.mpr ⟨List.mem_of_getElem? (i := 191) (by decide +kernel), rfl⟩
theorem wd_192 : Cond.instanceMethod yX2_size ∈ gw_tbl := List.mem_filter.mpr ⟨List.mem_of_getElem? (i := 192) (by decide +kernel), rfl⟩
theorem wd_193 : Cond.selects RX2 yX2_size yX2_size ∈ gw_tbl := List.mem_filter.mpr ⟨List.mem_of_getElem? (i := 193) (by decide +kernel), rfl⟩
theorem wd_194 : Cond.code yX2_size cX2_size 1 (some .int) ∈ gw_tbl := List.mem_filter.mpr ⟨List.mem_of_getElem? (i := 194) (by decide +kernel), rfl⟩
theorem wd_195 : Cond.methodLink RX3 33 yX2_at ∈ gw_tbl := List.mem_filter.mpr ⟨List.mem_of_getElem? (i := 195) (by decide +kernel), rfl⟩
theorem wd_196 : Cond.instanceMethod yX2_at ∈ gw_tbl := List.mem_filter.mpr ⟨List.mem_of_getElem? (i := 196) (by decide +kernel), rfl⟩
theorem wd_197 : Cond.selects RX2 yX2_at yX2_at ∈ gw_tbl := List.mem_filter.mpr ⟨List.mem_of_getElem? (i := 197) (by decide +kernel), rfl⟩
theorem wd_198 : Cond.code yX2_at cX2_at 2 (some .int) ∈ gw_tbl := List.mem_filter.mpr ⟨List.mem_of_getElem? (i := 198) (by decide +kernel), rfl⟩
theorem wd_199 : Cond.methodLink RX3 37 yX3_sizeOf ∈ gw_tbl := List.mem_filter.mpr ⟨List.mem_of_getElem? (i := 199) (by decide +kernel), rfl⟩
theorem wd_200 : Cond.static yX3_sizeOf ∈ gw_tbl := List.mem_filter.mpr ⟨List.mem_of_getElem? (i := 200) (by decide +kernel), rfl⟩
theorem wd_201 : Cond.code yX3_sizeOf cX3_sizeOf 1 (some .int) ∈ gw_tbl := List.mem_filter.mpr ⟨List.mem_of_getElem? (i := 201) (by decide +kernel), rfl⟩
theorem wd_202 : Cond.methodLink RX3 50 yX3_fits ∈ gw_tbl := List.mem_filter.mpr ⟨List.mem_of_getElem? (i := 202) (by decide +kernel), rfl⟩
theorem wd_203 : Cond.static yX3_fits ∈ gw_tbl := List.mem_filter.mpr ⟨List.mem_of_getElem? (i := 203) (by decide +kernel), rfl⟩
theorem wd_204 : Cond.code yX3_fits cX3_fits 5 (some .boolean) ∈ gw_tbl := List.mem_filter.mpr ⟨List.mem_of_getElem? (i := 204) (by decide +kernel), rfl⟩
theorem wd_205 : Cond.methodLink RX3 54 yX1_ofLetter ∈ gw_tbl := List.mem_filter.mpr ⟨List.mem_of_getElem? (i := 205) (by decide +kernel), rfl⟩
theorem wd_206 : Cond.static yX1_ofLetter ∈ gw_tbl := List.mem_filter.mpr ⟨List.mem_of_getElem? (i := 206) (by decide +kernel), rfl⟩
theorem wd_207 : Cond.code yX1_ofLetter cX1_ofLetter 1 (some .int) ∈ gw_tbl := List.mem_filter.mpr ⟨List.mem_of_getElem? (i := 207) (by decide +kernel), rfl⟩
theorem wd_208 : Cond.methodLink RX3 15 yX0_pairs ∈ gw_tbl := List.mem_filter.mpr ⟨List.mem_of_getElem? (i := 208) (by decide +kernel), rfl⟩
theorem wd_209 : Cond.instanceMethod yX0_pairs ∈ gw_tbl := List.mem_filter.mpr ⟨List.mem_of_getElem? (i := 209) (by decide +kernel), rfl⟩
theorem wd_210 : Cond.selects RX0 yX0_pairs yX0_pairs ∈ gw_tbl := List.mem_filter.mpr ⟨List.mem_of_getElem? (i := 210) (by decide +kernel), rfl⟩
theorem wd_211 : Cond.code yX0_pairs cX0_pairs 1 (some .int) ∈ gw_tbl := List.mem_filter.mpr ⟨List.mem_of_getElem? (i := 211) (by decide +kernel), rfl⟩
theorem wd_212 : Cond.methodLink RX3 21 yX0_minute ∈ gw_tbl := List.mem_filter.mpr ⟨List.mem_of_getElem? (i := 212) (by decide +kernel), rfl⟩
theorem wd_213 : Cond.instanceMethod yX0_minute ∈ gw_tbl := List.mem_filter.mpr ⟨List.mem_of_getElem? (i := 213) (by decide +kernel), rfl⟩
theorem wd_214 : Cond.selects RX0 yX0_minute yX0_minute ∈ gw_tbl := List.mem_filter.mpr ⟨List.mem_of_getElem? (i := 214) (by decide +kernel), rfl⟩
theorem wd_215 : Cond.code yX0_minute cX0_minute 1 (some .int) ∈ gw_tbl := List.mem_filter.mpr ⟨List.mem_of_getElem? (i := 215) (by decide +kernel), rfl⟩
theorem wd_216 : Cond.methodLink RX3 24 yX3_wrongAt ∈ gw_tbl := List.mem_filter.mpr ⟨List.mem_of_getElem? (i := 216) (by decide +kernel), rfl⟩
theorem wd_217 : Cond.static yX3_wrongAt ∈ gw_tbl := List.mem_filter.mpr ⟨List.mem_of_getElem? (i := 217) (by decide +kernel), rfl⟩
theorem wd_218 : Cond.code yX3_wrongAt cX3_wrongAt 7 (some .int) ∈ gw_tbl := List.mem_filter.mpr ⟨List.mem_of_getElem? (i := 218) (by decide +kernel), rfl⟩
theorem wd_219 : Cond.methodLink RX3 59 yX3_isRight ∈ gw_tbl := List.mem_filter.mpr ⟨List.mem_of_getElem? (i := 219) (by decide +kernel), rfl⟩
theorem wd_220 : Cond.static yX3_isRight ∈ gw_tbl := List.mem_filter.mpr ⟨List.mem_of_getElem? (i := 220) (by decide +kernel), rfl⟩
theorem wd_221 : Cond.code yX3_isRight cX3_isRight 7 (some .boolean) ∈ gw_tbl := List.mem_filter.mpr ⟨List.mem_of_getElem? (i := 221) (by decide +kernel), rfl⟩
theorem wd_222 : Cond.methodLink RX3 66 yX3_digit ∈ gw_tbl := List.mem_filter.mpr ⟨List.mem_of_getElem? (i := 222) (by decide +kernel), rfl⟩
theorem wd_223 : Cond.static yX3_digit ∈ gw_tbl := List.mem_filter.mpr ⟨List.mem_of_getElem? (i := 223) (by decide +kernel), rfl⟩
theorem wd_224 : Cond.code yX3_digit cX3_digit 2 (some .int) ∈ gw_tbl := List.mem_filter.mpr ⟨List.mem_of_getElem? (i := 224) (by decide +kernel), rfl⟩
theorem wd_225 : Cond.methodLink RX3 62 yX3_twoDigits ∈ gw_tbl := List.mem_filter.mpr ⟨List.mem_of_getElem? (i := 225) (by decide +kernel), rfl⟩
theorem wd_226 : Cond.static yX3_twoDigits ∈ gw_tbl := List.mem_filter.mpr ⟨List.mem_of_getElem? (i := 226) (by decide +kernel), rfl⟩
theorem wd_227 : Cond.code yX3_twoDigits cX3_twoDigits 2 (some .int) ∈ gw_tbl := List.mem_filter.mpr ⟨List.mem_of_getElem? (i := 227) (by decide +kernel), rfl⟩
theorem wd_228 : Cond.methodLink RX3 40 yJ9_max_7cf53 ∈ gw_tbl := List.mem_filter.mpr ⟨List.mem_of_getElem? (i := 228) (by decide +kernel), rfl⟩
theorem wd_229 : Cond.methodLink RX3 46 yX3_come ∈ gw_tbl := List.mem_filter.mpr ⟨List.mem_of_getElem? (i := 229) (by decide +kernel), rfl⟩
theorem wd_230 : Cond.static yX3_come ∈ gw_tbl := List.mem_filter.mpr ⟨List.mem_of_getElem? (i := 230) (by decide +kernel), rfl⟩
theorem wd_231 : Cond.code yX3_come cX3_come 4 none ∈ gw_tbl := List.mem_filter.mpr ⟨List.mem_of_getElem? (i := 231) (by decide +kernel), rfl⟩
theorem wd_232 : Cond.methodLink RX3 69 yX0_setBeams ∈ gw_tbl := List.mem_filter.mpr ⟨List.mem_of_getElem? (i := 232) (by decide +kernel), rfl⟩
theorem wd_233 : Cond.instanceMethod yX0_setBeams ∈ gw_tbl := List.mem_filter.mpr ⟨List.mem_of_getElem? (i := 233) (by decide +kernel), rfl⟩
theorem wd_234 : Cond.selects RX0 yX0_setBeams yX0_setBeams ∈ gw_tbl := List.mem_filter.mpr ⟨List.mem_of_getElem? (i := 234) (by decide +kernel), rfl⟩
theorem wd_235 : Cond.code yX0_setBeams cX0_setBeams 3 none ∈ gw_tbl := List.mem_filter.mpr ⟨List.mem_of_getElem? (i := 235) (by decide +kernel), rfl⟩
theorem wd_236 : Cond.methodLink RX3 73 yX3_comePair ∈ gw_tbl := List.mem_filter.mpr ⟨List.mem_of_getElem? (i := 236) (by decide +kernel), rfl⟩
theorem wd_237 : Cond.static yX3_comePair ∈ gw_tbl := List.mem_filter.mpr ⟨List.mem_of_getElem? (i := 237) (by decide +kernel), rfl⟩
theorem wd_238 : Cond.code yX3_comePair cX3_comePair 4 none ∈ gw_tbl := List.mem_filter.mpr ⟨List.mem_of_getElem? (i := 238) (by decide +kernel), rfl⟩
theorem wd_239 : Cond.methodLink RX3 92 yX0_miners ∈ gw_tbl := List.mem_filter.mpr ⟨List.mem_of_getElem? (i := 239) (by decide +kernel), rfl⟩
theorem wd_240 : Cond.instanceMethod yX0_miners ∈ gw_tbl := List.mem_filter.mpr ⟨List.mem_of_getElem? (i := 240) (by decide +kernel), rfl⟩
theorem wd_241 : Cond.selects RX0 yX0_miners yX0_miners ∈ gw_tbl := List.mem_filter.mpr ⟨List.mem_of_getElem? (i := 241) (by decide +kernel), rfl⟩
theorem wd_242 : Cond.code yX0_miners cX0_miners 1 (some .int) ∈ gw_tbl := List.mem_filter.mpr ⟨List.mem_of_getElem? (i := 242) (by decide +kernel), rfl⟩
theorem wd_243 : Cond.methodLink RX3 95 yX0_addPair ∈ gw_tbl := List.mem_filter.mpr ⟨List.mem_of_getElem? (i := 243) (by decide +kernel), rfl⟩
theorem wd_244 : Cond.instanceMethod yX0_addPair ∈ gw_tbl := List.mem_filter.mpr ⟨List.mem_of_getElem? (i := 244) (by decide +kernel), rfl⟩
theorem wd_245 : Cond.selects RX0 yX0_addPair yX0_addPair ∈ gw_tbl := List.mem_filter.mpr ⟨List.mem_of_getElem? (i := 245) (by decide +kernel), rfl⟩
theorem wd_246 : Cond.code yX0_addPair cX0_addPair 1 none ∈ gw_tbl := List.mem_filter.mpr ⟨List.mem_of_getElem? (i := 246) (by decide +kernel), rfl⟩
theorem wd_247 : Cond.methodLink RX3 98 yX0_setKind ∈ gw_tbl := List.mem_filter.mpr ⟨List.mem_of_getElem? (i := 247) (by decide +kernel), rfl⟩
theorem wd_248 : Cond.instanceMethod yX0_setKind ∈ gw_tbl := List.mem_filter.mpr ⟨List.mem_of_getElem? (i := 248) (by decide +kernel), rfl⟩
theorem wd_249 : Cond.selects RX0 yX0_setKind yX0_setKind ∈ gw_tbl := List.mem_filter.mpr ⟨List.mem_of_getElem? (i := 249) (by decide +kernel), rfl⟩
theorem wd_250 : Cond.code yX0_setKind cX0_setKind 3 none ∈ gw_tbl := List.mem_filter.mpr ⟨List.mem_of_getElem? (i := 250) (by decide +kernel), rfl⟩
theorem wd_251 : Cond.methodLink RX3 101 yX0_setFigure ∈ gw_tbl := List.mem_filter.mpr ⟨List.mem_of_getElem? (i := 251) (by decide +kernel), rfl⟩
theorem wd_252 : Cond.instanceMethod yX0_setFigure ∈ gw_tbl := List.mem_filter.mpr ⟨List.mem_of_getElem? (i := 252) (by decide +kernel), rfl⟩
theorem wd_253 : Cond.selects RX0 yX0_setFigure yX0_setFigure ∈ gw_tbl := List.mem_filter.mpr ⟨List.mem_of_getElem? (i := 253) (by decide +kernel), rfl⟩
theorem wd_254 : Cond.code yX0_setFigure cX0_setFigure 3 none ∈ gw_tbl := List.mem_filter.mpr ⟨List.mem_of_getElem? (i := 254) (by decide +kernel), rfl⟩
theorem wd_255 : Cond.methodLink RX3 76 yX0_setCell ∈ gw_tbl := List.mem_filter.mpr ⟨List.mem_of_getElem? (i := 255) (by decide +kernel), rfl⟩
theorem wd_256 : Cond.instanceMethod yX0_setCell ∈ gw_tbl := List.mem_filter.mpr ⟨List.mem_of_getElem? (i := 256) (by decide +kernel), rfl⟩
theorem wd_257 : Cond.selects RX0 yX0_setCell yX0_setCell ∈ gw_tbl := List.mem_filter.mpr ⟨List.mem_of_getElem? (i := 257) (by decide +kernel), rfl⟩
theorem wd_258 : Cond.code yX0_setCell cX0_setCell 3 none ∈ gw_tbl := List.mem_filter.mpr ⟨List.mem_of_getElem? (i := 258) (by decide +kernel), rfl⟩
theorem wd_259 : Cond.methodLink RX0 41 yJ9_min_7cf53 ∈ gw_tbl := List.mem_filter.mpr ⟨List.mem_of_getElem? (i := 259) (by decide +kernel), rfl⟩
theorem wd_260 : Cond.static yJ9_min_7cf53 ∈ gw_tbl := List.mem_filter.mpr ⟨List.mem_of_getElem? (i := 260) (by decide +kernel), rfl⟩
theorem wd_261 : Cond.code yJ9_min_7cf53 Lib.Math.min.code 2 (some .int) ∈ gw_tbl := List.mem_filter.mpr ⟨List.mem_of_getElem? (i := 261) (by decide +kernel), rfl⟩
theorem wd_262 : Cond.methodLink RX3 79 yX0_toSayOf ∈ gw_tbl := List.mem_filter.mpr ⟨List.mem_of_getElem? (i := 262) (by decide +kernel), rfl⟩
theorem wd_263 : Cond.instanceMethod yX0_toSayOf ∈ gw_tbl := List.mem_filter.mpr ⟨List.mem_of_getElem? (i := 263) (by decide +kernel), rfl⟩
theorem wd_264 : Cond.selects RX0 yX0_toSayOf yX0_toSayOf ∈ gw_tbl := List.mem_filter.mpr ⟨List.mem_of_getElem? (i := 264) (by decide +kernel), rfl⟩
theorem wd_265 : Cond.code yX0_toSayOf cX0_toSayOf 2 (some .int) ∈ gw_tbl := List.mem_filter.mpr ⟨List.mem_of_getElem? (i := 265) (by decide +kernel), rfl⟩
theorem wd_266 : Cond.methodLink RX3 82 yX0_setToSay ∈ gw_tbl := List.mem_filter.mpr ⟨List.mem_of_getElem? (i := 266) (by decide +kernel), rfl⟩
theorem wd_267 : Cond.instanceMethod yX0_setToSay ∈ gw_tbl := List.mem_filter.mpr ⟨List.mem_of_getElem? (i := 267) (by decide +kernel), rfl⟩
theorem wd_268 : Cond.selects RX0 yX0_setToSay yX0_setToSay ∈ gw_tbl := List.mem_filter.mpr ⟨List.mem_of_getElem? (i := 268) (by decide +kernel), rfl⟩
theorem wd_269 : Cond.code yX0_setToSay cX0_setToSay 3 none ∈ gw_tbl := List.mem_filter.mpr ⟨List.mem_of_getElem? (i := 269) (by decide +kernel), rfl⟩
theorem wd_270 : Cond.methodLink RX0 47 yJ9_max_7cf53 ∈ gw_tbl := List.mem_filter.mpr ⟨List.mem_of_getElem? (i := 270) (by decide +kernel), rfl⟩
theorem wd_271 : Cond.methodLink RX3 85 yX0_changePlaces ∈ gw_tbl := List.mem_filter.mpr ⟨List.mem_of_getElem? (i := 271) (by decide +kernel), rfl⟩
theorem wd_272 : Cond.instanceMethod yX0_changePlaces ∈ gw_tbl := List.mem_filter.mpr ⟨List.mem_of_getElem? (i := 272) (by decide +kernel), rfl⟩
theorem wd_273 : Cond.selects RX0 yX0_changePlaces yX0_changePlaces ∈ gw_tbl := List.mem_filter.mpr ⟨List.mem_of_getElem? (i := 273) (by decide +kernel), rfl⟩
theorem wd_274 : Cond.code yX0_changePlaces cX0_changePlaces 6 none ∈ gw_tbl := List.mem_filter.mpr ⟨List.mem_of_getElem? (i := 274) (by decide +kernel), rfl⟩
theorem wd_275 : Cond.methodLink RX0 50 yX0_kindOf ∈ gw_tbl := List.mem_filter.mpr ⟨List.mem_of_getElem? (i := 275) (by decide +kernel), rfl⟩
theorem wd_276 : Cond.instanceMethod yX0_kindOf ∈ gw_tbl := List.mem_filter.mpr ⟨List.mem_of_getElem? (i := 276) (by decide +kernel), rfl⟩
theorem wd_277 : Cond.selects RX0 yX0_kindOf yX0_kindOf ∈ gw_tbl := List.mem_filter.mpr ⟨List.mem_of_getElem? (i := 277) (by decide +kernel), rfl⟩
theorem wd_278 : Cond.code yX0_kindOf cX0_kindOf 2 (some .int) ∈ gw_tbl := List.mem_filter.mpr ⟨List.mem_of_getElem? (i := 278) (by decide +kernel), rfl⟩
theorem wd_279 : Cond.methodLink RX0 54 yX0_figureOf ∈ gw_tbl := List.mem_filter.mpr ⟨List.mem_of_getElem? (i := 279) (by decide +kernel), rfl⟩
theorem wd_280 : Cond.instanceMethod yX0_figureOf ∈ gw_tbl := List.mem_filter.mpr ⟨List.mem_of_getElem? (i := 280) (by decide +kernel), rfl⟩
theorem wd_281 : Cond.selects RX0 yX0_figureOf yX0_figureOf ∈ gw_tbl := List.mem_filter.mpr ⟨List.mem_of_getElem? (i := 281) (by decide +kernel), rfl⟩
theorem wd_282 : Cond.code yX0_figureOf cX0_figureOf 2 (some .int) ∈ gw_tbl := List.mem_filter.mpr ⟨List.mem_of_getElem? (i := 282) (by decide +kernel), rfl⟩
theorem wd_283 : Cond.methodLink RX0 57 yX0_bruisesOf ∈ gw_tbl := List.mem_filter.mpr ⟨List.mem_of_getElem? (i := 283) (by decide +kernel), rfl⟩
theorem wd_284 : Cond.instanceMethod yX0_bruisesOf ∈ gw_tbl := List.mem_filter.mpr ⟨List.mem_of_getElem? (i := 284) (by decide +kernel), rfl⟩
theorem wd_285 : Cond.selects RX0 yX0_bruisesOf yX0_bruisesOf ∈ gw_tbl := List.mem_filter.mpr ⟨List.mem_of_getElem? (i := 285) (by decide +kernel), rfl⟩
theorem wd_286 : Cond.code yX0_bruisesOf cX0_bruisesOf 2 (some .int) ∈ gw_tbl := List.mem_filter.mpr ⟨List.mem_of_getElem? (i := 286) (by decide +kernel), rfl⟩
theorem wd_287 : Cond.methodLink RX0 60 yX0_setKind ∈ gw_tbl := List.mem_filter.mpr ⟨List.mem_of_getElem? (i := 287) (by decide +kernel), rfl⟩
theorem wd_288 : Cond.methodLink RX0 64 yX0_setFigure ∈ gw_tbl := List.mem_filter.mpr ⟨List.mem_of_getElem? (i := 288) (by decide +kernel), rfl⟩
theorem wd_289 : Cond.methodLink RX0 67 yX0_setBruises ∈ gw_tbl := List.mem_filter.mpr ⟨List.mem_of_getElem? (i := 289) (by decide +kernel), rfl⟩
theorem wd_290 : Cond.instanceMethod yX0_setBruises ∈ gw_tbl := List.mem_filter.mpr ⟨List.mem_of_getElem? (i := 290) (by decide +kernel), rfl⟩
theorem wd_291 : Cond.selects RX0 yX0_setBruises yX0_setBruises ∈ gw_tbl := List.mem_filter.mpr ⟨List.mem_of_getElem? (i := 291) (by decide +kernel), rfl⟩
theorem wd_292 : Cond.code yX0_setBruises cX0_setBruises 3 none ∈ gw_tbl := List.mem_filter.mpr ⟨List.mem_of_getElem? (i := 292) (by decide +kernel), rfl⟩
theorem wd_293 : Cond.methodLink RX3 88 yX0_pass ∈ gw_tbl := List.mem_filter.mpr ⟨List.mem_of_getElem? (i := 293) (by decide +kernel), rfl⟩
theorem wd_294 : Cond.instanceMethod yX0_pass ∈ gw_tbl := List.mem_filter.mpr ⟨List.mem_of_getElem? (i := 294) (by decide +kernel), rfl⟩
theorem wd_295 : Cond.selects RX0 yX0_pass yX0_pass ∈ gw_tbl := List.mem_filter.mpr ⟨List.mem_of_getElem? (i := 295) (by decide +kernel), rfl⟩
theorem wd_296 : Cond.code yX0_pass cX0_pass 4 none ∈ gw_tbl := List.mem_filter.mpr ⟨List.mem_of_getElem? (i := 296) (by decide +kernel), rfl⟩
theorem wd_297 : Cond.methodLink RX0 93 yX0_speakerIn ∈ gw_tbl := List.mem_filter.mpr ⟨List.mem_of_getElem? (i := 297) (by decide +kernel), rfl⟩
theorem wd_298 : Cond.instanceMethod yX0_speakerIn ∈ gw_tbl := List.mem_filter.mpr ⟨List.mem_of_getElem? (i := 298) (by decide +kernel), rfl⟩
theorem wd_299 : Cond.selects RX0 yX0_speakerIn yX0_speakerIn ∈ gw_tbl := List.mem_filter.mpr ⟨List.mem_of_getElem? (i := 299) (by decide +kernel), rfl⟩
theorem wd_300 : Cond.code yX0_speakerIn cX0_speakerIn 3 (some .int) ∈ gw_tbl := List.mem_filter.mpr ⟨List.mem_of_getElem? (i := 300) (by decide +kernel), rfl⟩
theorem wd_301 : Cond.methodLink RX0 89 yX0_wantsIn ∈ gw_tbl := List.mem_filter.mpr ⟨List.mem_of_getElem? (i := 301) (by decide +kernel), rfl⟩
theorem wd_302 : Cond.instanceMethod yX0_wantsIn ∈ gw_tbl := List.mem_filter.mpr ⟨List.mem_of_getElem? (i := 302) (by decide +kernel), rfl⟩
theorem wd_303 : Cond.selects RX0 yX0_wantsIn yX0_wantsIn ∈ gw_tbl := List.mem_filter.mpr ⟨List.mem_of_getElem? (i := 303) (by decide +kernel), rfl⟩
theorem wd_304 : Cond.code yX0_wantsIn cX0_wantsIn 5 (some .boolean) ∈ gw_tbl := List.mem_filter.mpr ⟨List.mem_of_getElem? (i := 304) (by decide +kernel), rfl⟩
theorem wd_305 : Cond.methodLink RX0 70 yX0_cellOf ∈ gw_tbl := List.mem_filter.mpr ⟨List.mem_of_getElem? (i := 305) (by decide +kernel), rfl⟩
theorem wd_306 : Cond.instanceMethod yX0_cellOf ∈ gw_tbl := List.mem_filter.mpr ⟨List.mem_of_getElem? (i := 306) (by decide +kernel), rfl⟩
theorem wd_307 : Cond.selects RX0 yX0_cellOf yX0_cellOf ∈ gw_tbl := List.mem_filter.mpr ⟨List.mem_of_getElem? (i := 307) (by decide +kernel), rfl⟩
theorem wd_308 : Cond.code yX0_cellOf cX0_cellOf 2 (some .int) ∈ gw_tbl := List.mem_filter.mpr ⟨List.mem_of_getElem? (i := 308) (by decide +kernel), rfl⟩
theorem wd_309 : Cond.methodLink RX0 77 yX0_toSayOf ∈ gw_tbl := List.mem_filter.mpr ⟨List.mem_of_getElem? (i := 309) (by decide +kernel), rfl⟩
theorem wd_310 : Cond.methodLink RX0 80 yX0_beamsIn ∈ gw_tbl := List.mem_filter.mpr ⟨List.mem_of_getElem? (i := 310) (by decide +kernel), rfl⟩
theorem wd_311 : Cond.instanceMethod yX0_beamsIn ∈ gw_tbl := List.mem_filter.mpr ⟨List.mem_of_getElem? (i := 311) (by decide +kernel), rfl⟩
theorem wd_312 : Cond.selects RX0 yX0_beamsIn yX0_beamsIn ∈ gw_tbl := List.mem_filter.mpr ⟨List.mem_of_getElem? (i := 312) (by decide +kernel), rfl⟩
theorem wd_313 : Cond.code yX0_beamsIn cX0_beamsIn 2 (some .int) ∈ gw_tbl := List.mem_filter.mpr ⟨List.mem_of_getElem? (i := 313) (by decide +kernel), rfl⟩
theorem wd_314 : Cond.methodLink RX0 83 yX1_wants ∈ gw_tbl := List.mem_filter.mpr ⟨List.mem_of_getElem? (i := 314) (by decide +kernel), rfl⟩
theorem wd_315 : Cond.static yX1_wants ∈ gw_tbl := List.mem_filter.mpr ⟨List.mem_of_getElem? (i := 315) (by decide +kernel), rfl⟩
theorem wd_316 : Cond.code yX1_wants cX1_wants 6 (some .boolean) ∈ gw_tbl := List.mem_filter.mpr ⟨List.mem_of_getElem? (i := 316) (by decide +kernel), rfl⟩
theorem wd_317 : Cond.methodLink RX0 96 yX0_walk ∈ gw_tbl := List.mem_filter.mpr ⟨List.mem_of_getElem? (i := 317) (by decide +kernel), rfl⟩
theorem wd_318 : Cond.instanceMethod yX0_walk ∈ gw_tbl := List.mem_filter.mpr ⟨List.mem_of_getElem? (i := 318) (by decide +kernel), rfl⟩
theorem wd_319 : Cond.selects RX0 yX0_walk yX0_walk ∈ gw_tbl := List.mem_filter.mpr ⟨List.mem_of_getElem? (i := 319) (by decide +kernel), rfl⟩
theorem wd_320 : Cond.code yX0_walk cX0_walk 4 none ∈ gw_tbl := List.mem_filter.mpr ⟨List.mem_of_getElem? (i := 320) (by decide +kernel), rfl⟩
theorem wd_321 : Cond.methodLink RX0 73 yX0_isFaced ∈ gw_tbl := List.mem_filter.mpr ⟨List.mem_of_getElem? (i := 321) (by decide +kernel), rfl⟩
theorem wd_322 : Cond.instanceMethod yX0_isFaced ∈ gw_tbl := List.mem_filter.mpr ⟨List.mem_of_getElem? (i := 322) (by decide +kernel), rfl⟩
theorem wd_323 : Cond.selects RX0 yX0_isFaced yX0_isFaced ∈ gw_tbl := List.mem_filter.mpr ⟨List.mem_of_getElem? (i := 323) (by decide +kernel), rfl⟩
theorem wd_324 : Cond.code yX0_isFaced cX0_isFaced 2 (some .boolean) ∈ gw_tbl := List.mem_filter.mpr ⟨List.mem_of_getElem? (i := 324) (by decide +kernel), rfl⟩
theorem wd_325 : Cond.methodLink RX0 99 yX1_goes ∈ gw_tbl := List.mem_filter.mpr ⟨List.mem_of_getElem? (i := 325) (by decide +kernel), rfl⟩
theorem wd_326 : Cond.static yX1_goes ∈ gw_tbl := List.mem_filter.mpr ⟨List.mem_of_getElem? (i := 326) (by decide +kernel), rfl⟩
theorem wd_327 : Cond.code yX1_goes cX1_goes 1 (some .int) ∈ gw_tbl := List.mem_filter.mpr ⟨List.mem_of_getElem? (i := 327) (by decide +kernel), rfl⟩
theorem wd_328 : Cond.methodLink RX0 102 yX0_setCell ∈ gw_tbl := List.mem_filter.mpr ⟨List.mem_of_getElem? (i := 328) (by decide +kernel), rfl⟩
theorem wd_329 : Cond.methodLink RX0 105 yX0_setToSay ∈ gw_tbl := List.mem_filter.mpr ⟨List.mem_of_getElem? (i := 329) (by decide +kernel), rfl⟩
theorem wd_330 : Cond.methodLink RX5 61 yX2_forget ∈ gw_tbl := List.mem_filter.mpr ⟨List.mem_of_getElem? (i := 330) (by decide +kernel), rfl⟩
theorem wd_331 : Cond.instanceMethod yX2_forget ∈ gw_tbl := List.mem_filter.mpr ⟨List.mem_of_getElem? (i := 331) (by decide +kernel), rfl⟩
theorem wd_332 : Cond.selects RX2 yX2_forget yX2_forget ∈ gw_tbl := List.mem_filter.mpr ⟨List.mem_of_getElem? (i := 332) (by decide +kernel), rfl⟩
theorem wd_333 : Cond.code yX2_forget cX2_forget 1 none ∈ gw_tbl := List.mem_filter.mpr ⟨List.mem_of_getElem? (i := 333) (by decide +kernel), rfl⟩
theorem wd_334 : Cond.methodLink RL 23 yX5_miner ∈ gw_tbl := List.mem_filter.mpr ⟨List.mem_of_getElem? (i := 334) (by decide +kernel), rfl⟩
theorem wd_335 : Cond.instanceMethod yX5_miner ∈ gw_tbl := List.mem_filter.mpr ⟨List.mem_of_getElem? (i := 335) (by decide +kernel), rfl⟩
theorem wd_336 : Cond.selects RX5 yX5_miner yX5_miner ∈ gw_tbl := List.mem_filter.mpr ⟨List.mem_of_getElem? (i := 336) (by decide +kernel), rfl⟩
theorem wd_337 : Cond.code yX5_miner cX5_miner 3 (some .int) ∈ gw_tbl := List.mem_filter.mpr ⟨List.mem_of_getElem? (i := 337) (by decide +kernel), rfl⟩
theorem wd_338 : Cond.methodLink RX5 64 yX0_isMiner ∈ gw_tbl := List.mem_filter.mpr ⟨List.mem_of_getElem? (i := 338) (by decide +kernel), rfl⟩
theorem wd_339 : Cond.instanceMethod yX0_isMiner ∈ gw_tbl := List.mem_filter.mpr ⟨List.mem_of_getElem? (i := 339) (by decide +kernel), rfl⟩
theorem wd_340 : Cond.selects RX0 yX0_isMiner yX0_isMiner ∈ gw_tbl := List.mem_filter.mpr ⟨List.mem_of_getElem? (i := 340) (by decide +kernel), rfl⟩
theorem wd_341 : Cond.code yX0_isMiner cX0_isMiner 2 (some .boolean) ∈ gw_tbl := List.mem_filter.mpr ⟨List.mem_of_getElem? (i := 341) (by decide +kernel), rfl⟩
theorem wd_342 : Cond.methodLink RX5 68 yX0_kindOf ∈ gw_tbl := List.mem_filter.mpr ⟨List.mem_of_getElem? (i := 342) (by decide +kernel), rfl⟩
theorem wd_343 : Cond.methodLink RX5 71 yX0_figureOf ∈ gw_tbl := List.mem_filter.mpr ⟨List.mem_of_getElem? (i := 343) (by decide +kernel), rfl⟩
theorem wd_344 : Cond.methodLink RX5 74 yX0_bruisesOf ∈ gw_tbl := List.mem_filter.mpr ⟨List.mem_of_getElem? (i := 344) (by decide +kernel), rfl⟩
theorem wd_345 : Cond.methodLink RX5 77 yX1_goes ∈ gw_tbl := List.mem_filter.mpr ⟨List.mem_of_getElem? (i := 345) (by decide +kernel), rfl⟩
theorem wd_346 : Cond.methodLink RL 28 yX5_pair ∈ gw_tbl := List.mem_filter.mpr ⟨List.mem_of_getElem? (i := 346) (by decide +kernel), rfl⟩
theorem wd_347 : Cond.instanceMethod yX5_pair ∈ gw_tbl := List.mem_filter.mpr ⟨List.mem_of_getElem? (i := 347) (by decide +kernel), rfl⟩
theorem wd_348 : Cond.selects RX5 yX5_pair yX5_pair ∈ gw_tbl := List.mem_filter.mpr ⟨List.mem_of_getElem? (i := 348) (by decide +kernel), rfl⟩
theorem wd_349 : Cond.code yX5_pair cX5_pair 3 (some .int) ∈ gw_tbl := List.mem_filter.mpr ⟨List.mem_of_getElem? (i := 349) (by decide +kernel), rfl⟩
theorem wd_350 : Cond.methodLink RX5 82 yX0_isPair ∈ gw_tbl := List.mem_filter.mpr ⟨List.mem_of_getElem? (i := 350) (by decide +kernel), rfl⟩
theorem wd_351 : Cond.instanceMethod yX0_isPair ∈ gw_tbl := List.mem_filter.mpr ⟨List.mem_of_getElem? (i := 351) (by decide +kernel), rfl⟩
theorem wd_352 : Cond.selects RX0 yX0_isPair yX0_isPair ∈ gw_tbl := List.mem_filter.mpr ⟨List.mem_of_getElem? (i := 352) (by decide +kernel), rfl⟩
theorem wd_353 : Cond.code yX0_isPair cX0_isPair 2 (some .boolean) ∈ gw_tbl := List.mem_filter.mpr ⟨List.mem_of_getElem? (i := 353) (by decide +kernel), rfl⟩
theorem wd_354 : Cond.methodLink RX5 85 yX0_cellOf ∈ gw_tbl := List.mem_filter.mpr ⟨List.mem_of_getElem? (i := 354) (by decide +kernel), rfl⟩
theorem wd_355 : Cond.methodLink RX5 88 yX0_toSayOf ∈ gw_tbl := List.mem_filter.mpr ⟨List.mem_of_getElem? (i := 355) (by decide +kernel), rfl⟩
theorem wd_356 : Cond.methodLink RX5 91 yX0_minute ∈ gw_tbl := List.mem_filter.mpr ⟨List.mem_of_getElem? (i := 356) (by decide +kernel), rfl⟩
theorem wd_357 : Cond.methodLink RX5 95 yX0_speakerIn ∈ gw_tbl := List.mem_filter.mpr ⟨List.mem_of_getElem? (i := 357) (by decide +kernel), rfl⟩
theorem wd_358 : Cond.methodLink RL 32 yX5_beams ∈ gw_tbl := List.mem_filter.mpr ⟨List.mem_of_getElem? (i := 358) (by decide +kernel), rfl⟩
theorem wd_359 : Cond.instanceMethod yX5_beams ∈ gw_tbl := List.mem_filter.mpr ⟨List.mem_of_getElem? (i := 359) (by decide +kernel), rfl⟩
theorem wd_360 : Cond.selects RX5 yX5_beams yX5_beams ∈ gw_tbl := List.mem_filter.mpr ⟨List.mem_of_getElem? (i := 360) (by decide +kernel), rfl⟩
theorem wd_361 : Cond.code yX5_beams cX5_beams 2 (some .int) ∈ gw_tbl := List.mem_filter.mpr ⟨List.mem_of_getElem? (i := 361) (by decide +kernel), rfl⟩
theorem wd_362 : Cond.methodLink RX5 99 yX0_isCell ∈ gw_tbl := List.mem_filter.mpr ⟨List.mem_of_getElem? (i := 362) (by decide +kernel), rfl⟩
theorem wd_363 : Cond.static yX0_isCell ∈ gw_tbl := List.mem_filter.mpr ⟨List.mem_of_getElem? (i := 363) (by decide +kernel), rfl⟩
theorem wd_364 : Cond.code yX0_isCell cX0_isCell 1 (some .boolean) ∈ gw_tbl := List.mem_filter.mpr ⟨List.mem_of_getElem? (i := 364) (by decide +kernel), rfl⟩
theorem wd_365 : Cond.methodLink RX5 102 yX0_beamsIn ∈ gw_tbl := List.mem_filter.mpr ⟨List.mem_of_getElem? (i := 365) (by decide +kernel), rfl⟩
theorem wd_366 : Cond.methodLink RL 36 yX5_props ∈ gw_tbl := List.mem_filter.mpr ⟨List.mem_of_getElem? (i := 366) (by decide +kernel), rfl⟩
theorem wd_367 : Cond.instanceMethod yX5_props ∈ gw_tbl := List.mem_filter.mpr ⟨List.mem_of_getElem? (i := 367) (by decide +kernel), rfl⟩
theorem wd_368 : Cond.selects RX5 yX5_props yX5_props ∈ gw_tbl := List.mem_filter.mpr ⟨List.mem_of_getElem? (i := 368) (by decide +kernel), rfl⟩
theorem wd_369 : Cond.code yX5_props cX5_props 4 (some .int) ∈ gw_tbl := List.mem_filter.mpr ⟨List.mem_of_getElem? (i := 369) (by decide +kernel), rfl⟩
theorem wd_370 : Cond.methodLink RX5 105 yX0_setBeams ∈ gw_tbl := List.mem_filter.mpr ⟨List.mem_of_getElem? (i := 370) (by decide +kernel), rfl⟩
theorem wd_371 : Cond.methodLink RL 40 yX5_stands ∈ gw_tbl := List.mem_filter.mpr ⟨List.mem_of_getElem? (i := 371) (by decide +kernel), rfl⟩
theorem wd_372 : Cond.instanceMethod yX5_stands ∈ gw_tbl := List.mem_filter.mpr ⟨List.mem_of_getElem? (i := 372) (by decide +kernel), rfl⟩
theorem wd_373 : Cond.selects RX5 yX5_stands yX5_stands ∈ gw_tbl := List.mem_filter.mpr ⟨List.mem_of_getElem? (i := 373) (by decide +kernel), rfl⟩
theorem wd_374 : Cond.code yX5_stands cX5_stands 4 (some .int) ∈ gw_tbl := List.mem_filter.mpr ⟨List.mem_of_getElem? (i := 374) (by decide +kernel), rfl⟩
theorem wd_375 : Cond.methodLink RX5 109 yX0_setCell ∈ gw_tbl := List.mem_filter.mpr ⟨List.mem_of_getElem? (i := 375) (by decide +kernel), rfl⟩
theorem wd_376 : Cond.methodLink RL 44 yX5_adds ∈ gw_tbl := List.mem_filter.mpr ⟨List.mem_of_getElem? (i := 376) (by decide +kernel), rfl⟩
theorem wd_377 : Cond.instanceMethod yX5_adds ∈ gw_tbl := List.mem_filter.mpr ⟨List.mem_of_getElem? (i := 377) (by decide +kernel), rfl⟩
theorem wd_378 : Cond.selects RX5 yX5_adds yX5_adds ∈ gw_tbl := List.mem_filter.mpr ⟨List.mem_of_getElem? (i := 378) (by decide +kernel), rfl⟩
theorem wd_379 : Cond.code yX5_adds cX5_adds 3 (some .int) ∈ gw_tbl := List.mem_filter.mpr ⟨List.mem_of_getElem? (i := 379) (by decide +kernel), rfl⟩
theorem wd_380 : Cond.methodLink RX5 112 yX0_setToSay ∈ gw_tbl := List.mem_filter.mpr ⟨List.mem_of_getElem? (i := 380) (by decide +kernel), rfl⟩
theorem wd_381 : Cond.methodLink RL 48 yX5_swaps ∈ gw_tbl := List.mem_filter.mpr ⟨List.mem_of_getElem? (i := 381) (by decide +kernel), rfl⟩
theorem wd_382 : Cond.instanceMethod yX5_swaps ∈ gw_tbl := List.mem_filter.mpr ⟨List.mem_of_getElem? (i := 382) (by decide +kernel), rfl⟩
theorem wd_383 : Cond.selects RX5 yX5_swaps yX5_swaps ∈ gw_tbl := List.mem_filter.mpr ⟨List.mem_of_getElem? (i := 383) (by decide +kernel), rfl⟩
theorem wd_384 : Cond.code yX5_swaps cX5_swaps 3 (some .int) ∈ gw_tbl := List.mem_filter.mpr ⟨List.mem_of_getElem? (i := 384) (by decide +kernel), rfl⟩
theorem wd_385 : Cond.methodLink RX5 115 yX0_changePlaces ∈ gw_tbl := List.mem_filter.mpr ⟨List.mem_of_getElem? (i := 385) (by decide +kernel), rfl⟩
theorem wd_386 : Cond.methodLink RL 52 yX5_turn ∈ gw_tbl := List.mem_filter.mpr ⟨List.mem_of_getElem? (i := 386) (by decide +kernel), rfl⟩
theorem wd_387 : Cond.instanceMethod yX5_turn ∈ gw_tbl := List.mem_filter.mpr ⟨List.mem_of_getElem? (i := 387) (by decide +kernel), rfl⟩
theorem wd_388 : Cond.selects RX5 yX5_turn yX5_turn ∈ gw_tbl := List.mem_filter.mpr ⟨List.mem_of_getElem? (i := 388) (by decide +kernel), rfl⟩
theorem wd_389 : Cond.code yX5_turn cX5_turn 5 (some .int) ∈ gw_tbl := List.mem_filter.mpr ⟨List.mem_of_getElem? (i := 389) (by decide +kernel), rfl⟩
theorem wd_390 : Cond.methodLink RX5 118 yX0_setKind ∈ gw_tbl := List.mem_filter.mpr ⟨List.mem_of_getElem? (i := 390) (by decide +kernel), rfl⟩
theorem wd_391 : Cond.methodLink RX5 121 yX0_setFigure ∈ gw_tbl := List.mem_filter.mpr ⟨List.mem_of_getElem? (i := 391) (by decide +kernel), rfl⟩
theorem wd_392 : Cond.methodLink RL 57 yX5_minutes ∈ gw_tbl := List.mem_filter.mpr ⟨List.mem_of_getElem? (i := 392) (by decide +kernel), rfl⟩
theorem wd_393 : Cond.instanceMethod yX5_minutes ∈ gw_tbl := List.mem_filter.mpr ⟨List.mem_of_getElem? (i := 393) (by decide +kernel), rfl⟩
theorem wd_394 : Cond.selects RX5 yX5_minutes yX5_minutes ∈ gw_tbl := List.mem_filter.mpr ⟨List.mem_of_getElem? (i := 394) (by decide +kernel), rfl⟩
theorem wd_395 : Cond.code yX5_minutes cX5_minutes 2 (some .int) ∈ gw_tbl := List.mem_filter.mpr ⟨List.mem_of_getElem? (i := 395) (by decide +kernel), rfl⟩
theorem wd_396 : Cond.methodLink RX5 124 yX0_pass ∈ gw_tbl := List.mem_filter.mpr ⟨List.mem_of_getElem? (i := 396) (by decide +kernel), rfl⟩
theorem wd_397 : Cond.methodLink RX5 127 yX0_facedBits ∈ gw_tbl := List.mem_filter.mpr ⟨List.mem_of_getElem? (i := 397) (by decide +kernel), rfl⟩
theorem wd_398 : Cond.instanceMethod yX0_facedBits ∈ gw_tbl := List.mem_filter.mpr ⟨List.mem_of_getElem? (i := 398) (by decide +kernel), rfl⟩
theorem wd_399 : Cond.selects RX0 yX0_facedBits yX0_facedBits ∈ gw_tbl := List.mem_filter.mpr ⟨List.mem_of_getElem? (i := 399) (by decide +kernel), rfl⟩
theorem wd_400 : Cond.code yX0_facedBits cX0_facedBits 3 (some .int) ∈ gw_tbl := List.mem_filter.mpr ⟨List.mem_of_getElem? (i := 400) (by decide +kernel), rfl⟩
theorem wd_401 : Cond.methodLink RX5 130 yJ6_bitCount_0f7a4 ∈ gw_tbl := List.mem_filter.mpr ⟨List.mem_of_getElem? (i := 401) (by decide +kernel), rfl⟩
theorem wd_402 : Cond.static yJ6_bitCount_0f7a4 ∈ gw_tbl := List.mem_filter.mpr ⟨List.mem_of_getElem? (i := 402) (by decide +kernel), rfl⟩
theorem wd_403 : Cond.code yJ6_bitCount_0f7a4 cJ6_bitCount_0f7a4 1 (some .int) ∈ gw_tbl := List.mem_filter.mpr ⟨List.mem_of_getElem? (i := 403) (by decide +kernel), rfl⟩
theorem wd_404 : Cond.constant RJ6 265 (zI 1431655765) ∈ gw_tbl := List.mem_filter.mpr ⟨List.mem_of_getElem? (i := 404) (by decide +kernel), rfl⟩
theorem wd_405 : Cond.constant RJ6 266 (zI 858993459) ∈ gw_tbl := List.mem_filter.mpr ⟨List.mem_of_getElem? (i := 405) (by decide +kernel), rfl⟩
theorem wd_406 : Cond.constant RJ6 267 (zI 252645135) ∈ gw_tbl := List.mem_filter.mpr ⟨List.mem_of_getElem? (i := 406) (by decide +kernel), rfl⟩
theorem wd_407 : Cond.methodLink RL 61 yX5_pairThen ∈ gw_tbl := List.mem_filter.mpr ⟨List.mem_of_getElem? (i := 407) (by decide +kernel), rfl⟩
theorem wd_408 : Cond.instanceMethod yX5_pairThen ∈ gw_tbl := List.mem_filter.mpr ⟨List.mem_of_getElem? (i := 408) (by decide +kernel), rfl⟩
theorem wd_409 : Cond.selects RX5 yX5_pairThen yX5_pairThen ∈ gw_tbl := List.mem_filter.mpr ⟨List.mem_of_getElem? (i := 409) (by decide +kernel), rfl⟩
theorem wd_410 : Cond.code yX5_pairThen cX5_pairThen 5 (some .int) ∈ gw_tbl := List.mem_filter.mpr ⟨List.mem_of_getElem? (i := 410) (by decide +kernel), rfl⟩
theorem wd_411 : Cond.methodLink RX5 135 yX5_refusalOf ∈ gw_tbl := List.mem_filter.mpr ⟨List.mem_of_getElem? (i := 411) (by decide +kernel), rfl⟩
theorem wd_412 : Cond.static yX5_refusalOf ∈ gw_tbl := List.mem_filter.mpr ⟨List.mem_of_getElem? (i := 412) (by decide +kernel), rfl⟩
theorem wd_413 : Cond.code yX5_refusalOf cX5_refusalOf 4 (some .int) ∈ gw_tbl := List.mem_filter.mpr ⟨List.mem_of_getElem? (i := 413) (by decide +kernel), rfl⟩
theorem wd_414 : Cond.methodLink RX5 139 yX4_cellThen ∈ gw_tbl := List.mem_filter.mpr ⟨List.mem_of_getElem? (i := 414) (by decide +kernel), rfl⟩
theorem wd_415 : Cond.instanceMethod yX4_cellThen ∈ gw_tbl := List.mem_filter.mpr ⟨List.mem_of_getElem? (i := 415) (by decide +kernel), rfl⟩
theorem wd_416 : Cond.selects RX4 yX4_cellThen yX4_cellThen ∈ gw_tbl := List.mem_filter.mpr ⟨List.mem_of_getElem? (i := 416) (by decide +kernel), rfl⟩
theorem wd_417 : Cond.code yX4_cellThen cX4_cellThen 3 (some .int) ∈ gw_tbl := List.mem_filter.mpr ⟨List.mem_of_getElem? (i := 417) (by decide +kernel), rfl⟩
theorem wd_418 : Cond.methodLink RX4 33 yX4_think ∈ gw_tbl := List.mem_filter.mpr ⟨List.mem_of_getElem? (i := 418) (by decide +kernel), rfl⟩
theorem wd_420 : Cond.instanceMethod yX4_think ∈ gw_tbl := List.mem_filter.mpr ⟨List.mem_of_getElem? (i := 420) (by decide +kernel), rfl⟩
theorem wd_421 : Cond.code yX4_think cX4_think 2 none ∈ gw_tbl := List.mem_filter.mpr ⟨List.mem_of_getElem? (i := 421) (by decide +kernel), rfl⟩
theorem wd_422 : Cond.methodLink RX4 25 yX0_become ∈ gw_tbl := List.mem_filter.mpr ⟨List.mem_of_getElem? (i := 422) (by decide +kernel), rfl⟩
theorem wd_423 : Cond.instanceMethod yX0_become ∈ gw_tbl := List.mem_filter.mpr ⟨List.mem_of_getElem? (i := 423) (by decide +kernel), rfl⟩
theorem wd_424 : Cond.selects RX0 yX0_become yX0_become ∈ gw_tbl := List.mem_filter.mpr ⟨List.mem_of_getElem? (i := 424) (by decide +kernel), rfl⟩
theorem wd_425 : Cond.code yX0_become cX0_become 2 none ∈ gw_tbl := List.mem_filter.mpr ⟨List.mem_of_getElem? (i := 425) (by decide +kernel), rfl⟩
theorem wd_426 : Cond.methodLink RX0 30 yX0_copy ∈ gw_tbl := List.mem_filter.mpr ⟨List.mem_of_getElem? (i := 426) (by decide +kernel), rfl⟩
theorem wd_427 : Cond.static yX0_copy ∈ gw_tbl := List.mem_filter.mpr ⟨List.mem_of_getElem? (i := 427) (by decide +kernel), rfl⟩
theorem wd_428 : Cond.code yX0_copy cX0_copy 3 none ∈ gw_tbl := List.mem_filter.mpr ⟨List.mem_of_getElem? (i := 428) (by decide +kernel), rfl⟩
theorem wd_429 : Cond.methodLink RX4 29 yX0_pass ∈ gw_tbl := List.mem_filter.mpr ⟨List.mem_of_getElem? (i := 429) (by decide +kernel), rfl⟩
theorem wd_430 : Cond.methodLink RX4 36 yX0_cellOf ∈ gw_tbl := List.mem_filter.mpr ⟨List.mem_of_getElem? (i := 430) (by decide +kernel), rfl⟩
theorem wd_431 : Cond.methodLink RX5 142 yX4_toSayThen ∈ gw_tbl := List.mem_filter.mpr ⟨List.mem_of_getElem? (i := 431) (by decide +kernel), rfl⟩
theorem wd_432 : Cond.instanceMethod yX4_toSayThen ∈ gw_tbl := List.mem_filter.mpr ⟨List.mem_of_getElem? (i := 432) (by decide +kernel), rfl⟩
theorem wd_433 : Cond.selects RX4 yX4_toSayThen yX4_toSayThen ∈ gw_tbl := List.mem_filter.mpr ⟨List.mem_of_getElem? (i := 433) (by decide +kernel), rfl⟩
theorem wd_434 : Cond.code yX4_toSayThen cX4_toSayThen 3 (some .int) ∈ gw_tbl := List.mem_filter.mpr ⟨List.mem_of_getElem? (i := 434) (by decide +kernel), rfl⟩
theorem wd_435 : Cond.methodLink RX4 40 yX0_toSayOf ∈ gw_tbl := List.mem_filter.mpr ⟨List.mem_of_getElem? (i := 435) (by decide +kernel), rfl⟩
theorem wd_436 : Cond.methodLink RL 65 yX5_bruisesThen ∈ gw_tbl := List.mem_filter.mpr ⟨List.mem_of_getElem? (i := 436) (by decide +kernel), rfl⟩
theorem wd_437 : Cond.instanceMethod yX5_bruisesThen ∈ gw_tbl := List.mem_filter.mpr ⟨List.mem_of_getElem? (i := 437) (by decide +kernel), rfl⟩
theorem wd_438 : Cond.selects RX5 yX5_bruisesThen yX5_bruisesThen ∈ gw_tbl := List.mem_filter.mpr ⟨List.mem_of_getElem? (i := 438) (by decide +kernel), rfl⟩
theorem wd_439 : Cond.code yX5_bruisesThen cX5_bruisesThen 4 (some .int) ∈ gw_tbl := List.mem_filter.mpr ⟨List.mem_of_getElem? (i := 439) (by decide +kernel), rfl⟩
theorem wd_440 : Cond.methodLink RX5 145 yX4_allBruisesThen ∈ gw_tbl := List.mem_filter.mpr ⟨List.mem_of_getElem? (i := 440) (by decide +kernel), rfl⟩
theorem wd_441 : Cond.instanceMethod yX4_allBruisesThen ∈ gw_tbl := List.mem_filter.mpr ⟨List.mem_of_getElem? (i := 441) (by decide +kernel), rfl⟩
theorem wd_442 : Cond.selects RX4 yX4_allBruisesThen yX4_allBruisesThen ∈ gw_tbl := List.mem_filter.mpr ⟨List.mem_of_getElem? (i := 442) (by decide +kernel), rfl⟩
theorem wd_443 : Cond.code yX4_allBruisesThen cX4_allBruisesThen 2 (some .int) ∈ gw_tbl := List.mem_filter.mpr ⟨List.mem_of_getElem? (i := 443) (by decide +kernel), rfl⟩
theorem wd_444 : Cond.methodLink RX4 46 yX0_allBruises ∈ gw_tbl := List.mem_filter.mpr ⟨List.mem_of_getElem? (i := 444) (by decide +kernel), rfl⟩
theorem wd_445 : Cond.instanceMethod yX0_allBruises ∈ gw_tbl := List.mem_filter.mpr ⟨List.mem_of_getElem? (i := 445) (by decide +kernel), rfl⟩
theorem wd_446 : Cond.selects RX0 yX0_allBruises yX0_allBruises ∈ gw_tbl := List.mem_filter.mpr ⟨List.mem_of_getElem? (i := 446) (by decide +kernel), rfl⟩
theorem wd_447 : Cond.code yX0_allBruises cX0_allBruises 3 (some .int) ∈ gw_tbl := List.mem_filter.mpr ⟨List.mem_of_getElem? (i := 447) (by decide +kernel), rfl⟩
theorem wd_448 : Cond.methodLink RX0 108 yX0_miners ∈ gw_tbl := List.mem_filter.mpr ⟨List.mem_of_getElem? (i := 448) (by decide +kernel), rfl⟩
theorem wd_449 : Cond.methodLink RX5 148 yX4_bruisesOfThen ∈ gw_tbl := List.mem_filter.mpr ⟨List.mem_of_getElem? (i := 449) (by decide +kernel), rfl⟩
theorem wd_450 : Cond.instanceMethod yX4_bruisesOfThen ∈ gw_tbl := List.mem_filter.mpr ⟨List.mem_of_getElem? (i := 450) (by decide +kernel), rfl⟩
theorem wd_451 : Cond.selects RX4 yX4_bruisesOfThen yX4_bruisesOfThen ∈ gw_tbl := List.mem_filter.mpr ⟨List.mem_of_getElem? (i := 451) (by decide +kernel), rfl⟩
theorem wd_452 : Cond.code yX4_bruisesOfThen cX4_bruisesOfThen 3 (some .int) ∈ gw_tbl := List.mem_filter.mpr ⟨List.mem_of_getElem? (i := 452) (by decide +kernel), rfl⟩
theorem wd_453 : Cond.methodLink RX4 43 yX0_bruisesOf ∈ gw_tbl := List.mem_filter.mpr ⟨List.mem_of_getElem? (i := 453) (by decide +kernel), rfl⟩
theorem wd_454 : Cond.methodLink RL 69 yX5_faced ∈ gw_tbl := List.mem_filter.mpr ⟨List.mem_of_getElem? (i := 454) (by decide +kernel), rfl⟩
theorem wd_455 : Cond.instanceMethod yX5_faced ∈ gw_tbl := List.mem_filter.mpr ⟨List.mem_of_getElem? (i := 455) (by decide +kernel), rfl⟩
theorem wd_456 : Cond.selects RX5 yX5_faced yX5_faced ∈ gw_tbl := List.mem_filter.mpr ⟨List.mem_of_getElem? (i := 456) (by decide +kernel), rfl⟩
theorem wd_457 : Cond.code yX5_faced cX5_faced 2 (some .int) ∈ gw_tbl := List.mem_filter.mpr ⟨List.mem_of_getElem? (i := 457) (by decide +kernel), rfl⟩
theorem wd_458 : Cond.methodLink RX5 151 yX4_firstFaced ∈ gw_tbl := List.mem_filter.mpr ⟨List.mem_of_getElem? (i := 458) (by decide +kernel), rfl⟩
theorem wd_459 : Cond.instanceMethod yX4_firstFaced ∈ gw_tbl := List.mem_filter.mpr ⟨List.mem_of_getElem? (i := 459) (by decide +kernel), rfl⟩
theorem wd_460 : Cond.selects RX4 yX4_firstFaced yX4_firstFaced ∈ gw_tbl := List.mem_filter.mpr ⟨List.mem_of_getElem? (i := 460) (by decide +kernel), rfl⟩
theorem wd_461 : Cond.code yX4_firstFaced cX4_firstFaced 5 (some .int) ∈ gw_tbl := List.mem_filter.mpr ⟨List.mem_of_getElem? (i := 461) (by decide +kernel), rfl⟩
theorem wd_462 : Cond.methodLink RX4 64 yX0_pairs ∈ gw_tbl := List.mem_filter.mpr ⟨List.mem_of_getElem? (i := 462) (by decide +kernel), rfl⟩
theorem wd_463 : Cond.methodLink RX4 50 yX4_goToFace ∈ gw_tbl := List.mem_filter.mpr ⟨List.mem_of_getElem? (i := 463) (by decide +kernel), rfl⟩
theorem wd_465 : Cond.instanceMethod yX4_goToFace ∈ gw_tbl := List.mem_filter.mpr ⟨List.mem_of_getElem? (i := 465) (by decide +kernel), rfl⟩
theorem wd_466 : Cond.code yX4_goToFace cX4_goToFace 3 (some .int) ∈ gw_tbl := List.mem_filter.mpr ⟨List.mem_of_getElem? (i := 466) (by decide +kernel), rfl⟩
theorem wd_467 : Cond.methodLink RX4 56 yX0_isFaced ∈ gw_tbl := List.mem_filter.mpr ⟨List.mem_of_getElem? (i := 467) (by decide +kernel), rfl⟩
theorem wd_468 : Cond.methodLink RX4 67 yX4_isSooner ∈ gw_tbl := List.mem_filter.mpr ⟨List.mem_of_getElem? (i := 468) (by decide +kernel), rfl⟩
theorem wd_469 : Cond.static yX4_isSooner ∈ gw_tbl := List.mem_filter.mpr ⟨List.mem_of_getElem? (i := 469) (by decide +kernel), rfl⟩
theorem wd_470 : Cond.code yX4_isSooner cX4_isSooner 2 (some .boolean) ∈ gw_tbl := List.mem_filter.mpr ⟨List.mem_of_getElem? (i := 470) (by decide +kernel), rfl⟩
theorem wd_471 : Cond.methodLink RX5 154 yX4_allFaced ∈ gw_tbl := List.mem_filter.mpr ⟨List.mem_of_getElem? (i := 471) (by decide +kernel), rfl⟩
theorem wd_472 : Cond.instanceMethod yX4_allFaced ∈ gw_tbl := List.mem_filter.mpr ⟨List.mem_of_getElem? (i := 472) (by decide +kernel), rfl⟩
theorem wd_473 : Cond.selects RX4 yX4_allFaced yX4_allFaced ∈ gw_tbl := List.mem_filter.mpr ⟨List.mem_of_getElem? (i := 473) (by decide +kernel), rfl⟩
theorem wd_474 : Cond.code yX4_allFaced cX4_allFaced 1 (some .int) ∈ gw_tbl := List.mem_filter.mpr ⟨List.mem_of_getElem? (i := 474) (by decide +kernel), rfl⟩
theorem wd_475 : Cond.methodLink RX4 53 yX4_goAllToFace ∈ gw_tbl := List.mem_filter.mpr ⟨List.mem_of_getElem? (i := 475) (by decide +kernel), rfl⟩
theorem wd_477 : Cond.instanceMethod yX4_goAllToFace ∈ gw_tbl := List.mem_filter.mpr ⟨List.mem_of_getElem? (i := 477) (by decide +kernel), rfl⟩
theorem wd_478 : Cond.code yX4_goAllToFace cX4_goAllToFace 2 (some .int) ∈ gw_tbl := List.mem_filter.mpr ⟨List.mem_of_getElem? (i := 478) (by decide +kernel), rfl⟩
theorem wd_479 : Cond.methodLink RX4 60 yX0_areAllFaced ∈ gw_tbl := List.mem_filter.mpr ⟨List.mem_of_getElem? (i := 479) (by decide +kernel), rfl⟩
theorem wd_480 : Cond.instanceMethod yX0_areAllFaced ∈ gw_tbl := List.mem_filter.mpr ⟨List.mem_of_getElem? (i := 480) (by decide +kernel), rfl⟩
theorem wd_481 : Cond.selects RX0 yX0_areAllFaced yX0_areAllFaced ∈ gw_tbl := List.mem_filter.mpr ⟨List.mem_of_getElem? (i := 481) (by decide +kernel), rfl⟩
theorem wd_482 : Cond.code yX0_areAllFaced cX0_areAllFaced 2 (some .boolean) ∈ gw_tbl := List.mem_filter.mpr ⟨List.mem_of_getElem? (i := 482) (by decide +kernel), rfl⟩
theorem wd_483 : Cond.methodLink RX5 157 yX4_facedBehind ∈ gw_tbl := List.mem_filter.mpr ⟨List.mem_of_getElem? (i := 483) (by decide +kernel), rfl⟩
theorem wd_484 : Cond.instanceMethod yX4_facedBehind ∈ gw_tbl := List.mem_filter.mpr ⟨List.mem_of_getElem? (i := 484) (by decide +kernel), rfl⟩
theorem wd_485 : Cond.selects RX4 yX4_facedBehind yX4_facedBehind ∈ gw_tbl := List.mem_filter.mpr ⟨List.mem_of_getElem? (i := 485) (by decide +kernel), rfl⟩
theorem wd_486 : Cond.code yX4_facedBehind cX4_facedBehind 2 (some .int) ∈ gw_tbl := List.mem_filter.mpr ⟨List.mem_of_getElem? (i := 486) (by decide +kernel), rfl⟩
theorem wd_487 : Cond.methodLink RL 73 yX5_done ∈ gw_tbl := List.mem_filter.mpr ⟨List.mem_of_getElem? (i := 487) (by decide +kernel), rfl⟩
theorem wd_488 : Cond.instanceMethod yX5_done ∈ gw_tbl := List.mem_filter.mpr ⟨List.mem_of_getElem? (i := 488) (by decide +kernel), rfl⟩
theorem wd_489 : Cond.selects RX5 yX5_done yX5_done ∈ gw_tbl := List.mem_filter.mpr ⟨List.mem_of_getElem? (i := 489) (by decide +kernel), rfl⟩
theorem wd_490 : Cond.code yX5_done cX5_done 2 (some .int) ∈ gw_tbl := List.mem_filter.mpr ⟨List.mem_of_getElem? (i := 490) (by decide +kernel), rfl⟩
theorem wd_491 : Cond.methodLink RX5 160 yX4_doneBehind ∈ gw_tbl := List.mem_filter.mpr ⟨List.mem_of_getElem? (i := 491) (by decide +kernel), rfl⟩
theorem wd_492 : Cond.instanceMethod yX4_doneBehind ∈ gw_tbl := List.mem_filter.mpr ⟨List.mem_of_getElem? (i := 492) (by decide +kernel), rfl⟩
theorem wd_493 : Cond.selects RX4 yX4_doneBehind yX4_doneBehind ∈ gw_tbl := List.mem_filter.mpr ⟨List.mem_of_getElem? (i := 493) (by decide +kernel), rfl⟩
theorem wd_494 : Cond.code yX4_doneBehind cX4_doneBehind 3 (some .int) ∈ gw_tbl := List.mem_filter.mpr ⟨List.mem_of_getElem? (i := 494) (by decide +kernel), rfl⟩
theorem wd_495 : Cond.methodLink RL 77 yX5_hurt ∈ gw_tbl := List.mem_filter.mpr ⟨List.mem_of_getElem? (i := 495) (by decide +kernel), rfl⟩
theorem wd_496 : Cond.instanceMethod yX5_hurt ∈ gw_tbl := List.mem_filter.mpr ⟨List.mem_of_getElem? (i := 496) (by decide +kernel), rfl⟩
theorem wd_497 : Cond.selects RX5 yX5_hurt yX5_hurt ∈ gw_tbl := List.mem_filter.mpr ⟨List.mem_of_getElem? (i := 497) (by decide +kernel), rfl⟩
theorem wd_498 : Cond.code yX5_hurt cX5_hurt 4 (some .int) ∈ gw_tbl := List.mem_filter.mpr ⟨List.mem_of_getElem? (i := 498) (by decide +kernel), rfl⟩
theorem wd_499 : Cond.methodLink RX5 163 yX4_hurtBehind ∈ gw_tbl := List.mem_filter.mpr ⟨List.mem_of_getElem? (i := 499) (by decide +kernel), rfl⟩
theorem wd_500 : Cond.instanceMethod yX4_hurtBehind ∈ gw_tbl := List.mem_filter.mpr ⟨List.mem_of_getElem? (i := 500) (by decide +kernel), rfl⟩
theorem wd_501 : Cond.selects RX4 yX4_hurtBehind yX4_hurtBehind ∈ gw_tbl := List.mem_filter.mpr ⟨List.mem_of_getElem? (i := 501) (by decide +kernel), rfl⟩
theorem wd_502 : Cond.code yX4_hurtBehind cX4_hurtBehind 4 (some .int) ∈ gw_tbl := List.mem_filter.mpr ⟨List.mem_of_getElem? (i := 502) (by decide +kernel), rfl⟩
theorem wd_503 : Cond.methodLink RL 81 yX5_begins ∈ gw_tbl := List.mem_filter.mpr ⟨List.mem_of_getElem? (i := 503) (by decide +kernel), rfl⟩
theorem wd_504 : Cond.instanceMethod yX5_begins ∈ gw_tbl := List.mem_filter.mpr ⟨List.mem_of_getElem? (i := 504) (by decide +kernel), rfl⟩
theorem wd_505 : Cond.selects RX5 yX5_begins yX5_begins ∈ gw_tbl := List.mem_filter.mpr ⟨List.mem_of_getElem? (i := 505) (by decide +kernel), rfl⟩
theorem wd_506 : Cond.code yX5_begins cX5_begins 2 (some .int) ∈ gw_tbl := List.mem_filter.mpr ⟨List.mem_of_getElem? (i := 506) (by decide +kernel), rfl⟩
theorem wd_507 : Cond.methodLink RX5 166 yX4_bestToSay ∈ gw_tbl := List.mem_filter.mpr ⟨List.mem_of_getElem? (i := 507) (by decide +kernel), rfl⟩
theorem wd_508 : Cond.instanceMethod yX4_bestToSay ∈ gw_tbl := List.mem_filter.mpr ⟨List.mem_of_getElem? (i := 508) (by decide +kernel), rfl⟩
theorem wd_509 : Cond.selects RX4 yX4_bestToSay yX4_bestToSay ∈ gw_tbl := List.mem_filter.mpr ⟨List.mem_of_getElem? (i := 509) (by decide +kernel), rfl⟩
theorem wd_510 : Cond.code yX4_bestToSay cX4_bestToSay 6 (some .int) ∈ gw_tbl := List.mem_filter.mpr ⟨List.mem_of_getElem? (i := 510) (by decide +kernel), rfl⟩
theorem wd_511 : Cond.methodLink RX4 71 yX0_setToSay ∈ gw_tbl := List.mem_filter.mpr ⟨List.mem_of_getElem? (i := 511) (by decide +kernel), rfl⟩
theorem wd_512 : Cond.methodLink RL 85 yX5_clears ∈ gw_tbl := List.mem_filter.mpr ⟨List.mem_of_getElem? (i := 512) (by decide +kernel), rfl⟩
theorem wd_513 : Cond.instanceMethod yX5_clears ∈ gw_tbl := List.mem_filter.mpr ⟨List.mem_of_getElem? (i := 513) (by decide +kernel), rfl⟩
theorem wd_514 : Cond.selects RX5 yX5_clears yX5_clears ∈ gw_tbl := List.mem_filter.mpr ⟨List.mem_of_getElem? (i := 514) (by decide +kernel), rfl⟩
theorem wd_515 : Cond.code yX5_clears cX5_clears 3 (some .int) ∈ gw_tbl := List.mem_filter.mpr ⟨List.mem_of_getElem? (i := 515) (by decide +kernel), rfl⟩
theorem wd_516 : Cond.methodLink RX5 169 yX4_dearestCell ∈ gw_tbl := List.mem_filter.mpr ⟨List.mem_of_getElem? (i := 516) (by decide +kernel), rfl⟩
theorem wd_517 : Cond.instanceMethod yX4_dearestCell ∈ gw_tbl := List.mem_filter.mpr ⟨List.mem_of_getElem? (i := 517) (by decide +kernel), rfl⟩
theorem wd_518 : Cond.selects RX4 yX4_dearestCell yX4_dearestCell ∈ gw_tbl := List.mem_filter.mpr ⟨List.mem_of_getElem? (i := 518) (by decide +kernel), rfl⟩
theorem wd_519 : Cond.code yX4_dearestCell cX4_dearestCell 5 (some .int) ∈ gw_tbl := List.mem_filter.mpr ⟨List.mem_of_getElem? (i := 519) (by decide +kernel), rfl⟩
theorem wd_520 : Cond.methodLink RX4 75 yX0_setBeams ∈ gw_tbl := List.mem_filter.mpr ⟨List.mem_of_getElem? (i := 520) (by decide +kernel), rfl⟩
theorem wd_521 : Cond.methodLink RL 89 yX5_change ∈ gw_tbl := List.mem_filter.mpr ⟨List.mem_of_getElem? (i := 521) (by decide +kernel), rfl⟩
theorem wd_522 : Cond.instanceMethod yX5_change ∈ gw_tbl := List.mem_filter.mpr ⟨List.mem_of_getElem? (i := 522) (by decide +kernel), rfl⟩
theorem wd_523 : Cond.selects RX5 yX5_change yX5_change ∈ gw_tbl := List.mem_filter.mpr ⟨List.mem_of_getElem? (i := 523) (by decide +kernel), rfl⟩
theorem wd_524 : Cond.code yX5_change cX5_change 1 (some .int) ∈ gw_tbl := List.mem_filter.mpr ⟨List.mem_of_getElem? (i := 524) (by decide +kernel), rfl⟩
theorem wd_525 : Cond.methodLink RX5 172 yX4_bestChange ∈ gw_tbl := List.mem_filter.mpr ⟨List.mem_of_getElem? (i := 525) (by decide +kernel), rfl⟩
theorem wd_526 : Cond.instanceMethod yX4_bestChange ∈ gw_tbl := List.mem_filter.mpr ⟨List.mem_of_getElem? (i := 526) (by decide +kernel), rfl⟩
theorem wd_527 : Cond.selects RX4 yX4_bestChange yX4_bestChange ∈ gw_tbl := List.mem_filter.mpr ⟨List.mem_of_getElem? (i := 527) (by decide +kernel), rfl⟩
theorem wd_528 : Cond.code yX4_bestChange cX4_bestChange 6 (some .int) ∈ gw_tbl := List.mem_filter.mpr ⟨List.mem_of_getElem? (i := 528) (by decide +kernel), rfl⟩
theorem wd_529 : Cond.methodLink RX4 78 yX4_allFaced ∈ gw_tbl := List.mem_filter.mpr ⟨List.mem_of_getElem? (i := 529) (by decide +kernel), rfl⟩
theorem wd_530 : Cond.methodLink RX4 81 yX0_miners ∈ gw_tbl := List.mem_filter.mpr ⟨List.mem_of_getElem? (i := 530) (by decide +kernel), rfl⟩
theorem wd_531 : Cond.methodLink RX4 84 yX0_changePlaces ∈ gw_tbl := List.mem_filter.mpr ⟨List.mem_of_getElem? (i := 531) (by decide +kernel), rfl⟩
theorem wd_532 : Cond.methodLink RL 93 yX5_bestKind ∈ gw_tbl := List.mem_filter.mpr ⟨List.mem_of_getElem? (i := 532) (by decide +kernel), rfl⟩
theorem wd_533 : Cond.instanceMethod yX5_bestKind ∈ gw_tbl := List.mem_filter.mpr ⟨List.mem_of_getElem? (i := 533) (by decide +kernel), rfl⟩
theorem wd_534 : Cond.selects RX5 yX5_bestKind yX5_bestKind ∈ gw_tbl := List.mem_filter.mpr ⟨List.mem_of_getElem? (i := 534) (by decide +kernel), rfl⟩
theorem wd_535 : Cond.code yX5_bestKind cX5_bestKind 3 (some .int) ∈ gw_tbl := List.mem_filter.mpr ⟨List.mem_of_getElem? (i := 535) (by decide +kernel), rfl⟩
theorem wd_536 : Cond.methodLink RX5 175 yX4_soonestKind ∈ gw_tbl := List.mem_filter.mpr ⟨List.mem_of_getElem? (i := 536) (by decide +kernel), rfl⟩
theorem wd_537 : Cond.instanceMethod yX4_soonestKind ∈ gw_tbl := List.mem_filter.mpr ⟨List.mem_of_getElem? (i := 537) (by decide +kernel), rfl⟩
theorem wd_538 : Cond.selects RX4 yX4_soonestKind yX4_soonestKind ∈ gw_tbl := List.mem_filter.mpr ⟨List.mem_of_getElem? (i := 538) (by decide +kernel), rfl⟩
theorem wd_539 : Cond.code yX4_soonestKind cX4_soonestKind 7 (some .int) ∈ gw_tbl := List.mem_filter.mpr ⟨List.mem_of_getElem? (i := 539) (by decide +kernel), rfl⟩
theorem wd_540 : Cond.methodLink RX4 87 yX0_setKind ∈ gw_tbl := List.mem_filter.mpr ⟨List.mem_of_getElem? (i := 540) (by decide +kernel), rfl⟩
theorem wd_541 : Cond.methodLink RL 97 yX5_bestCell ∈ gw_tbl := List.mem_filter.mpr ⟨List.mem_of_getElem? (i := 541) (by decide +kernel), rfl⟩
theorem wd_542 : Cond.instanceMethod yX5_bestCell ∈ gw_tbl := List.mem_filter.mpr ⟨List.mem_of_getElem? (i := 542) (by decide +kernel), rfl⟩
theorem wd_543 : Cond.selects RX5 yX5_bestCell yX5_bestCell ∈ gw_tbl := List.mem_filter.mpr ⟨List.mem_of_getElem? (i := 543) (by decide +kernel), rfl⟩
theorem wd_544 : Cond.code yX5_bestCell cX5_bestCell 3 (some .int) ∈ gw_tbl := List.mem_filter.mpr ⟨List.mem_of_getElem? (i := 544) (by decide +kernel), rfl⟩
theorem wd_545 : Cond.methodLink RX5 178 yX4_easiestCell ∈ gw_tbl := List.mem_filter.mpr ⟨List.mem_of_getElem? (i := 545) (by decide +kernel), rfl⟩
theorem wd_546 : Cond.instanceMethod yX4_easiestCell ∈ gw_tbl := List.mem_filter.mpr ⟨List.mem_of_getElem? (i := 546) (by decide +kernel), rfl⟩
theorem wd_547 : Cond.selects RX4 yX4_easiestCell yX4_easiestCell ∈ gw_tbl := List.mem_filter.mpr ⟨List.mem_of_getElem? (i := 547) (by decide +kernel), rfl⟩
theorem wd_548 : Cond.code yX4_easiestCell cX4_easiestCell 7 (some .int) ∈ gw_tbl := List.mem_filter.mpr ⟨List.mem_of_getElem? (i := 548) (by decide +kernel), rfl⟩
theorem wd_549 : Cond.methodLink RX4 90 yX0_setCell ∈ gw_tbl := List.mem_filter.mpr ⟨List.mem_of_getElem? (i := 549) (by decide +kernel), rfl⟩
theorem wd_550 : Cond.methodLink RX4 93 yX4_beamsToFace ∈ gw_tbl := List.mem_filter.mpr ⟨List.mem_of_getElem? (i := 550) (by decide +kernel), rfl⟩
theorem wd_552 : Cond.instanceMethod yX4_beamsToFace ∈ gw_tbl := List.mem_filter.mpr ⟨List.mem_of_getElem? (i := 552) (by decide +kernel), rfl⟩
theorem wd_553 : Cond.code yX4_beamsToFace cX4_beamsToFace 4 (some .int) ∈ gw_tbl := List.mem_filter.mpr ⟨List.mem_of_getElem? (i := 553) (by decide +kernel), rfl⟩
theorem wd_554 : Cond.methodLink RX4 96 yX0_minute ∈ gw_tbl := List.mem_filter.mpr ⟨List.mem_of_getElem? (i := 554) (by decide +kernel), rfl⟩
theorem wd_555 : Cond.methodLink RX4 99 yX0_speakerIn ∈ gw_tbl := List.mem_filter.mpr ⟨List.mem_of_getElem? (i := 555) (by decide +kernel), rfl⟩
theorem wd_556 : Cond.methodLink RX4 103 yX0_beamsIn ∈ gw_tbl := List.mem_filter.mpr ⟨List.mem_of_getElem? (i := 556) (by decide +kernel), rfl⟩
theorem wd_557 : Cond.methodLink RL 101 yX5_hum ∈ gw_tbl := List.mem_filter.mpr ⟨List.mem_of_getElem? (i := 557) (by decide +kernel), rfl⟩
theorem wd_558 : Cond.instanceMethod yX5_hum ∈ gw_tbl := List.mem_filter.mpr ⟨List.mem_of_getElem? (i := 558) (by decide +kernel), rfl⟩
theorem wd_559 : Cond.selects RX5 yX5_hum yX5_hum ∈ gw_tbl := List.mem_filter.mpr ⟨List.mem_of_getElem? (i := 559) (by decide +kernel), rfl⟩
theorem wd_560 : Cond.code yX5_hum cX5_hum 4 (some .int) ∈ gw_tbl := List.mem_filter.mpr ⟨List.mem_of_getElem? (i := 560) (by decide +kernel), rfl⟩
theorem wd_561 : Cond.methodLink RX5 181 yX4_fewestBeams ∈ gw_tbl := List.mem_filter.mpr ⟨List.mem_of_getElem? (i := 561) (by decide +kernel), rfl⟩
theorem wd_562 : Cond.instanceMethod yX4_fewestBeams ∈ gw_tbl := List.mem_filter.mpr ⟨List.mem_of_getElem? (i := 562) (by decide +kernel), rfl⟩
theorem wd_563 : Cond.selects RX4 yX4_fewestBeams yX4_fewestBeams ∈ gw_tbl := List.mem_filter.mpr ⟨List.mem_of_getElem? (i := 563) (by decide +kernel), rfl⟩
theorem wd_564 : Cond.code yX4_fewestBeams cX4_fewestBeams 5 (some .int) ∈ gw_tbl := List.mem_filter.mpr ⟨List.mem_of_getElem? (i := 564) (by decide +kernel), rfl⟩
theorem wd_565 : Cond.methodLink RX4 106 yX0_kindOf ∈ gw_tbl := List.mem_filter.mpr ⟨List.mem_of_getElem? (i := 565) (by decide +kernel), rfl⟩
theorem wd_566 : Cond.methodLink RX4 109 yX1_goes ∈ gw_tbl := List.mem_filter.mpr ⟨List.mem_of_getElem? (i := 566) (by decide +kernel), rfl⟩
theorem wd_567 : Cond.methodLink RX4 114 yX4_humOne ∈ gw_tbl := List.mem_filter.mpr ⟨List.mem_of_getElem? (i := 567) (by decide +kernel), rfl⟩
theorem wd_569 : Cond.instanceMethod yX4_humOne ∈ gw_tbl := List.mem_filter.mpr ⟨List.mem_of_getElem? (i := 569) (by decide +kernel), rfl⟩
theorem wd_570 : Cond.code yX4_humOne cX4_humOne 7 none ∈ gw_tbl := List.mem_filter.mpr ⟨List.mem_of_getElem? (i := 570) (by decide +kernel), rfl⟩
theorem wd_571 : Cond.methodLink RX4 117 yX4_fewestAt ∈ gw_tbl := List.mem_filter.mpr ⟨List.mem_of_getElem? (i := 571) (by decide +kernel), rfl⟩
theorem wd_573 : Cond.instanceMethod yX4_fewestAt ∈ gw_tbl := List.mem_filter.mpr ⟨List.mem_of_getElem? (i := 573) (by decide +kernel), rfl⟩
theorem wd_574 : Cond.code yX4_fewestAt cX4_fewestAt 2 (some .int) ∈ gw_tbl := List.mem_filter.mpr ⟨List.mem_of_getElem? (i := 574) (by decide +kernel), rfl⟩
theorem wd_575 : Cond.methodLink RL 105 yX5_first ∈ gw_tbl := List.mem_filter.mpr ⟨List.mem_of_getElem? (i := 575) (by decide +kernel), rfl⟩
theorem wd_576 : Cond.instanceMethod yX5_first ∈ gw_tbl := List.mem_filter.mpr ⟨List.mem_of_getElem? (i := 576) (by decide +kernel), rfl⟩
theorem wd_577 : Cond.selects RX5 yX5_first yX5_first ∈ gw_tbl := List.mem_filter.mpr ⟨List.mem_of_getElem? (i := 577) (by decide +kernel), rfl⟩
theorem wd_578 : Cond.code yX5_first cX5_first 2 (some .int) ∈ gw_tbl := List.mem_filter.mpr ⟨List.mem_of_getElem? (i := 578) (by decide +kernel), rfl⟩
theorem wd_579 : Cond.methodLink RX5 184 yX0_farthestOn ∈ gw_tbl := List.mem_filter.mpr ⟨List.mem_of_getElem? (i := 579) (by decide +kernel), rfl⟩
theorem wd_580 : Cond.instanceMethod yX0_farthestOn ∈ gw_tbl := List.mem_filter.mpr ⟨List.mem_of_getElem? (i := 580) (by decide +kernel), rfl⟩
theorem wd_581 : Cond.selects RX0 yX0_farthestOn yX0_farthestOn ∈ gw_tbl := List.mem_filter.mpr ⟨List.mem_of_getElem? (i := 581) (by decide +kernel), rfl⟩
theorem wd_582 : Cond.code yX0_farthestOn cX0_farthestOn 3 (some .int) ∈ gw_tbl := List.mem_filter.mpr ⟨List.mem_of_getElem? (i := 582) (by decide +kernel), rfl⟩
theorem wd_583 : Cond.methodLink RX5 187 yX0_leastFar ∈ gw_tbl := List.mem_filter.mpr ⟨List.mem_of_getElem? (i := 583) (by decide +kernel), rfl⟩
theorem wd_584 : Cond.instanceMethod yX0_leastFar ∈ gw_tbl := List.mem_filter.mpr ⟨List.mem_of_getElem? (i := 584) (by decide +kernel), rfl⟩
theorem wd_585 : Cond.selects RX0 yX0_leastFar yX0_leastFar ∈ gw_tbl := List.mem_filter.mpr ⟨List.mem_of_getElem? (i := 585) (by decide +kernel), rfl⟩
theorem wd_586 : Cond.code yX0_leastFar cX0_leastFar 3 (some .int) ∈ gw_tbl := List.mem_filter.mpr ⟨List.mem_of_getElem? (i := 586) (by decide +kernel), rfl⟩
theorem wd_587 : Cond.methodLink RX5 190 yX0_mostHurt ∈ gw_tbl := List.mem_filter.mpr ⟨List.mem_of_getElem? (i := 587) (by decide +kernel), rfl⟩
theorem wd_588 : Cond.instanceMethod yX0_mostHurt ∈ gw_tbl := List.mem_filter.mpr ⟨List.mem_of_getElem? (i := 588) (by decide +kernel), rfl⟩
theorem wd_589 : Cond.selects RX0 yX0_mostHurt yX0_mostHurt ∈ gw_tbl := List.mem_filter.mpr ⟨List.mem_of_getElem? (i := 589) (by decide +kernel), rfl⟩
theorem wd_590 : Cond.code yX0_mostHurt cX0_mostHurt 3 (some .int) ∈ gw_tbl := List.mem_filter.mpr ⟨List.mem_of_getElem? (i := 590) (by decide +kernel), rfl⟩
theorem wd_591 : Cond.methodLink RX5 193 yX0_twosTogether ∈ gw_tbl := List.mem_filter.mpr ⟨List.mem_of_getElem? (i := 591) (by decide +kernel), rfl⟩
theorem wd_592 : Cond.instanceMethod yX0_twosTogether ∈ gw_tbl := List.mem_filter.mpr ⟨List.mem_of_getElem? (i := 592) (by decide +kernel), rfl⟩
theorem wd_593 : Cond.selects RX0 yX0_twosTogether yX0_twosTogether ∈ gw_tbl := List.mem_filter.mpr ⟨List.mem_of_getElem? (i := 593) (by decide +kernel), rfl⟩
theorem wd_594 : Cond.code yX0_twosTogether cX0_twosTogether 4 (some .int) ∈ gw_tbl := List.mem_filter.mpr ⟨List.mem_of_getElem? (i := 594) (by decide +kernel), rfl⟩
theorem wd_595 : Cond.methodLink RL 109 yX5_timber ∈ gw_tbl := List.mem_filter.mpr ⟨List.mem_of_getElem? (i := 595) (by decide +kernel), rfl⟩
theorem wd_596 : Cond.instanceMethod yX5_timber ∈ gw_tbl := List.mem_filter.mpr ⟨List.mem_of_getElem? (i := 596) (by decide +kernel), rfl⟩
theorem wd_597 : Cond.selects RX5 yX5_timber yX5_timber ∈ gw_tbl := List.mem_filter.mpr ⟨List.mem_of_getElem? (i := 597) (by decide +kernel), rfl⟩
theorem wd_598 : Cond.code yX5_timber cX5_timber 2 (some .int) ∈ gw_tbl := List.mem_filter.mpr ⟨List.mem_of_getElem? (i := 598) (by decide +kernel), rfl⟩
theorem wd_599 : Cond.methodLink RX5 196 yX0_allBeams ∈ gw_tbl := List.mem_filter.mpr ⟨List.mem_of_getElem? (i := 599) (by decide +kernel), rfl⟩
theorem wd_600 : Cond.instanceMethod yX0_allBeams ∈ gw_tbl := List.mem_filter.mpr ⟨List.mem_of_getElem? (i := 600) (by decide +kernel), rfl⟩
theorem wd_601 : Cond.selects RX0 yX0_allBeams yX0_allBeams ∈ gw_tbl := List.mem_filter.mpr ⟨List.mem_of_getElem? (i := 601) (by decide +kernel), rfl⟩
theorem wd_602 : Cond.code yX0_allBeams cX0_allBeams 3 (some .int) ∈ gw_tbl := List.mem_filter.mpr ⟨List.mem_of_getElem? (i := 602) (by decide +kernel), rfl⟩
theorem wd_603 : Cond.methodLink RX5 199 yX0_cellOfMost ∈ gw_tbl := List.mem_filter.mpr ⟨List.mem_of_getElem? (i := 603) (by decide +kernel), rfl⟩
theorem wd_604 : Cond.instanceMethod yX0_cellOfMost ∈ gw_tbl := List.mem_filter.mpr ⟨List.mem_of_getElem? (i := 604) (by decide +kernel), rfl⟩
theorem wd_605 : Cond.selects RX0 yX0_cellOfMost yX0_cellOfMost ∈ gw_tbl := List.mem_filter.mpr ⟨List.mem_of_getElem? (i := 605) (by decide +kernel), rfl⟩
theorem wd_606 : Cond.code yX0_cellOfMost cX0_cellOfMost 3 (some .int) ∈ gw_tbl := List.mem_filter.mpr ⟨List.mem_of_getElem? (i := 606) (by decide +kernel), rfl⟩
theorem wd_607 : Cond.methodLink RX5 202 yX0_freeBits ∈ gw_tbl := List.mem_filter.mpr ⟨List.mem_of_getElem? (i := 607) (by decide +kernel), rfl⟩
theorem wd_608 : Cond.instanceMethod yX0_freeBits ∈ gw_tbl := List.mem_filter.mpr ⟨List.mem_of_getElem? (i := 608) (by decide +kernel), rfl⟩
theorem wd_609 : Cond.selects RX0 yX0_freeBits yX0_freeBits ∈ gw_tbl := List.mem_filter.mpr ⟨List.mem_of_getElem? (i := 609) (by decide +kernel), rfl⟩
theorem wd_610 : Cond.code yX0_freeBits cX0_freeBits 3 (some .int) ∈ gw_tbl := List.mem_filter.mpr ⟨List.mem_of_getElem? (i := 610) (by decide +kernel), rfl⟩
theorem wd_611 : Cond.methodLink RL 113 yX5_eager ∈ gw_tbl := List.mem_filter.mpr ⟨List.mem_of_getElem? (i := 611) (by decide +kernel), rfl⟩
theorem wd_612 : Cond.instanceMethod yX5_eager ∈ gw_tbl := List.mem_filter.mpr ⟨List.mem_of_getElem? (i := 612) (by decide +kernel), rfl⟩
theorem wd_613 : Cond.selects RX5 yX5_eager yX5_eager ∈ gw_tbl := List.mem_filter.mpr ⟨List.mem_of_getElem? (i := 613) (by decide +kernel), rfl⟩
theorem wd_614 : Cond.code yX5_eager cX5_eager 1 (some .int) ∈ gw_tbl := List.mem_filter.mpr ⟨List.mem_of_getElem? (i := 614) (by decide +kernel), rfl⟩
theorem wd_615 : Cond.methodLink RX5 205 yX0_eagerBits ∈ gw_tbl := List.mem_filter.mpr ⟨List.mem_of_getElem? (i := 615) (by decide +kernel), rfl⟩
theorem wd_616 : Cond.instanceMethod yX0_eagerBits ∈ gw_tbl := List.mem_filter.mpr ⟨List.mem_of_getElem? (i := 616) (by decide +kernel), rfl⟩
theorem wd_617 : Cond.selects RX0 yX0_eagerBits yX0_eagerBits ∈ gw_tbl := List.mem_filter.mpr ⟨List.mem_of_getElem? (i := 617) (by decide +kernel), rfl⟩
theorem wd_618 : Cond.code yX0_eagerBits cX0_eagerBits 3 (some .int) ∈ gw_tbl := List.mem_filter.mpr ⟨List.mem_of_getElem? (i := 618) (by decide +kernel), rfl⟩
theorem wd_619 : Cond.methodLink RL 117 yX5_two ∈ gw_tbl := List.mem_filter.mpr ⟨List.mem_of_getElem? (i := 619) (by decide +kernel), rfl⟩
theorem wd_620 : Cond.instanceMethod yX5_two ∈ gw_tbl := List.mem_filter.mpr ⟨List.mem_of_getElem? (i := 620) (by decide +kernel), rfl⟩
theorem wd_621 : Cond.selects RX5 yX5_two yX5_two ∈ gw_tbl := List.mem_filter.mpr ⟨List.mem_of_getElem? (i := 621) (by decide +kernel), rfl⟩
theorem wd_622 : Cond.code yX5_two cX5_two 4 (some .int) ∈ gw_tbl := List.mem_filter.mpr ⟨List.mem_of_getElem? (i := 622) (by decide +kernel), rfl⟩
theorem wd_623 : Cond.methodLink RX5 208 yX4_settledTwo ∈ gw_tbl := List.mem_filter.mpr ⟨List.mem_of_getElem? (i := 623) (by decide +kernel), rfl⟩
theorem wd_624 : Cond.instanceMethod yX4_settledTwo ∈ gw_tbl := List.mem_filter.mpr ⟨List.mem_of_getElem? (i := 624) (by decide +kernel), rfl⟩
theorem wd_625 : Cond.selects RX4 yX4_settledTwo yX4_settledTwo ∈ gw_tbl := List.mem_filter.mpr ⟨List.mem_of_getElem? (i := 625) (by decide +kernel), rfl⟩
theorem wd_626 : Cond.code yX4_settledTwo cX4_settledTwo 7 (some .int) ∈ gw_tbl := List.mem_filter.mpr ⟨List.mem_of_getElem? (i := 626) (by decide +kernel), rfl⟩
theorem wd_627 : Cond.methodLink RX4 120 yX4_price ∈ gw_tbl := List.mem_filter.mpr ⟨List.mem_of_getElem? (i := 627) (by decide +kernel), rfl⟩
theorem wd_629 : Cond.instanceMethod yX4_price ∈ gw_tbl := List.mem_filter.mpr ⟨List.mem_of_getElem? (i := 629) (by decide +kernel), rfl⟩
theorem wd_630 : Cond.code yX4_price cX4_price 8 (some .int) ∈ gw_tbl := List.mem_filter.mpr ⟨List.mem_of_getElem? (i := 630) (by decide +kernel), rfl⟩
theorem wd_631 : Cond.methodLink RX4 124 yX0_walk ∈ gw_tbl := List.mem_filter.mpr ⟨List.mem_of_getElem? (i := 631) (by decide +kernel), rfl⟩
theorem wd_632 : Cond.methodLink RL 121 yX5_cough ∈ gw_tbl := List.mem_filter.mpr ⟨List.mem_of_getElem? (i := 632) (by decide +kernel), rfl⟩
theorem wd_633 : Cond.instanceMethod yX5_cough ∈ gw_tbl := List.mem_filter.mpr ⟨List.mem_of_getElem? (i := 633) (by decide +kernel), rfl⟩
theorem wd_634 : Cond.selects RX5 yX5_cough yX5_cough ∈ gw_tbl := List.mem_filter.mpr ⟨List.mem_of_getElem? (i := 634) (by decide +kernel), rfl⟩
theorem wd_635 : Cond.code yX5_cough cX5_cough 6 (some .long) ∈ gw_tbl := List.mem_filter.mpr ⟨List.mem_of_getElem? (i := 635) (by decide +kernel), rfl⟩
theorem wd_636 : Cond.methodLink RX5 211 yX5_longRefused ∈ gw_tbl := List.mem_filter.mpr ⟨List.mem_of_getElem? (i := 636) (by decide +kernel), rfl⟩
theorem wd_638 : Cond.instanceMethod yX5_longRefused ∈ gw_tbl := List.mem_filter.mpr ⟨List.mem_of_getElem? (i := 638) (by decide +kernel), rfl⟩
theorem wd_639 : Cond.code yX5_longRefused cX5_longRefused 2 (some .long) ∈ gw_tbl := List.mem_filter.mpr ⟨List.mem_of_getElem? (i := 639) (by decide +kernel), rfl⟩
theorem wd_640 : Cond.constantLong RX5 269 (zL 4000000000000000000) ∈ gw_tbl := List.mem_filter.mpr ⟨List.mem_of_getElem? (i := 640) (by decide +kernel), rfl⟩
theorem wd_641 : Cond.methodLink RX5 215 yX4_coughsThatReach ∈ gw_tbl := List.mem_filter.mpr ⟨List.mem_of_getElem? (i := 641) (by decide +kernel), rfl⟩
theorem wd_642 : Cond.instanceMethod yX4_coughsThatReach ∈ gw_tbl := List.mem_filter.mpr ⟨List.mem_of_getElem? (i := 642) (by decide +kernel), rfl⟩
theorem wd_643 : Cond.selects RX4 yX4_coughsThatReach yX4_coughsThatReach ∈ gw_tbl := List.mem_filter.mpr ⟨List.mem_of_getElem? (i := 643) (by decide +kernel), rfl⟩
theorem wd_644 : Cond.code yX4_coughsThatReach cX4_coughsThatReach 8 (some .long) ∈ gw_tbl := List.mem_filter.mpr ⟨List.mem_of_getElem? (i := 644) (by decide +kernel), rfl⟩
theorem wd_645 : Cond.methodLink RX4 127 yX4_cellWithCoughs ∈ gw_tbl := List.mem_filter.mpr ⟨List.mem_of_getElem? (i := 645) (by decide +kernel), rfl⟩
theorem wd_647 : Cond.instanceMethod yX4_cellWithCoughs ∈ gw_tbl := List.mem_filter.mpr ⟨List.mem_of_getElem? (i := 647) (by decide +kernel), rfl⟩
theorem wd_648 : Cond.code yX4_cellWithCoughs cX4_cellWithCoughs 7 (some .int) ∈ gw_tbl := List.mem_filter.mpr ⟨List.mem_of_getElem? (i := 648) (by decide +kernel), rfl⟩
theorem wd_649 : Cond.methodLink RX4 131 yJ6_bitCount_0f7a4 ∈ gw_tbl := List.mem_filter.mpr ⟨List.mem_of_getElem? (i := 649) (by decide +kernel), rfl⟩
theorem wd_651 : Cond.static yX5_power ∈ gw_tbl := List.mem_filter.mpr ⟨List.mem_of_getElem? (i := 651) (by decide +kernel), rfl⟩
theorem wd_652 : Cond.code yX5_power cX5_power 6 (some .long) ∈ gw_tbl := List.mem_filter.mpr ⟨List.mem_of_getElem? (i := 652) (by decide +kernel), rfl⟩
theorem wd_653 : Cond.methodLink RX5 219 yX5_power ∈ gw_tbl := List.mem_filter.mpr ⟨List.mem_of_getElem? (i := 653) (by decide +kernel), rfl⟩
theorem wd_654 : Cond.methodLink RX5 223 yX5_partOf ∈ gw_tbl := List.mem_filter.mpr ⟨List.mem_of_getElem? (i := 654) (by decide +kernel), rfl⟩
theorem wd_655 : Cond.static yX5_partOf ∈ gw_tbl := List.mem_filter.mpr ⟨List.mem_of_getElem? (i := 655) (by decide +kernel), rfl⟩
theorem wd_656 : Cond.code yX5_partOf cX5_partOf 7 (some .long) ∈ gw_tbl := List.mem_filter.mpr ⟨List.mem_of_getElem? (i := 656) (by decide +kernel), rfl⟩
theorem wd_657 : Cond.methodLink RX5 271 yX5_sharedDivisor ∈ gw_tbl := List.mem_filter.mpr ⟨List.mem_of_getElem? (i := 657) (by decide +kernel), rfl⟩
theorem wd_658 : Cond.static yX5_sharedDivisor ∈ gw_tbl := List.mem_filter.mpr ⟨List.mem_of_getElem? (i := 658) (by decide +kernel), rfl⟩
theorem wd_659 : Cond.code yX5_sharedDivisor cX5_sharedDivisor 11 (some .long) ∈ gw_tbl := List.mem_filter.mpr ⟨List.mem_of_getElem? (i := 659) (by decide +kernel), rfl⟩
theorem wd_660 : Cond.methodLink RL 126 yX5_mean ∈ gw_tbl := List.mem_filter.mpr ⟨List.mem_of_getElem? (i := 660) (by decide +kernel), rfl⟩
theorem wd_661 : Cond.instanceMethod yX5_mean ∈ gw_tbl := List.mem_filter.mpr ⟨List.mem_of_getElem? (i := 661) (by decide +kernel), rfl⟩
theorem wd_662 : Cond.selects RX5 yX5_mean yX5_mean ∈ gw_tbl := List.mem_filter.mpr ⟨List.mem_of_getElem? (i := 662) (by decide +kernel), rfl⟩
theorem wd_663 : Cond.code yX5_mean cX5_mean 2 (some .long) ∈ gw_tbl := List.mem_filter.mpr ⟨List.mem_of_getElem? (i := 663) (by decide +kernel), rfl⟩
theorem wd_664 : Cond.methodLink RX5 227 yX0_allBruises ∈ gw_tbl := List.mem_filter.mpr ⟨List.mem_of_getElem? (i := 664) (by decide +kernel), rfl⟩
theorem wd_665 : Cond.methodLink RX5 230 yX0_miners ∈ gw_tbl := List.mem_filter.mpr ⟨List.mem_of_getElem? (i := 665) (by decide +kernel), rfl⟩
theorem wd_666 : Cond.methodLink RX5 233 yJ9_max_7cf53 ∈ gw_tbl := List.mem_filter.mpr ⟨List.mem_of_getElem? (i := 666) (by decide +kernel), rfl⟩
theorem wd_667 : Cond.methodLink RL 131 yX5_whatIs ∈ gw_tbl := List.mem_filter.mpr ⟨List.mem_of_getElem? (i := 667) (by decide +kernel), rfl⟩
theorem wd_668 : Cond.instanceMethod yX5_whatIs ∈ gw_tbl := List.mem_filter.mpr ⟨List.mem_of_getElem? (i := 668) (by decide +kernel), rfl⟩
theorem wd_669 : Cond.selects RX5 yX5_whatIs yX5_whatIs ∈ gw_tbl := List.mem_filter.mpr ⟨List.mem_of_getElem? (i := 669) (by decide +kernel), rfl⟩
theorem wd_670 : Cond.code yX5_whatIs cX5_whatIs 3 (some .int) ∈ gw_tbl := List.mem_filter.mpr ⟨List.mem_of_getElem? (i := 670) (by decide +kernel), rfl⟩
theorem wd_671 : Cond.methodLink RX5 238 yX4_kindsSo ∈ gw_tbl := List.mem_filter.mpr ⟨List.mem_of_getElem? (i := 671) (by decide +kernel), rfl⟩
theorem wd_672 : Cond.instanceMethod yX4_kindsSo ∈ gw_tbl := List.mem_filter.mpr ⟨List.mem_of_getElem? (i := 672) (by decide +kernel), rfl⟩
theorem wd_673 : Cond.selects RX4 yX4_kindsSo yX4_kindsSo ∈ gw_tbl := List.mem_filter.mpr ⟨List.mem_of_getElem? (i := 673) (by decide +kernel), rfl⟩
theorem wd_674 : Cond.code yX4_kindsSo cX4_kindsSo 5 (some .int) ∈ gw_tbl := List.mem_filter.mpr ⟨List.mem_of_getElem? (i := 674) (by decide +kernel), rfl⟩
theorem wd_675 : Cond.methodLink RX4 140 yX4_goesAsTold ∈ gw_tbl := List.mem_filter.mpr ⟨List.mem_of_getElem? (i := 675) (by decide +kernel), rfl⟩
theorem wd_677 : Cond.instanceMethod yX4_goesAsTold ∈ gw_tbl := List.mem_filter.mpr ⟨List.mem_of_getElem? (i := 677) (by decide +kernel), rfl⟩
theorem wd_678 : Cond.code yX4_goesAsTold cX4_goesAsTold 4 (some .boolean) ∈ gw_tbl := List.mem_filter.mpr ⟨List.mem_of_getElem? (i := 678) (by decide +kernel), rfl⟩
theorem wd_679 : Cond.methodLink RX4 147 yX2_size ∈ gw_tbl := List.mem_filter.mpr ⟨List.mem_of_getElem? (i := 679) (by decide +kernel), rfl⟩
theorem wd_680 : Cond.methodLink RX4 152 yX2_at ∈ gw_tbl := List.mem_filter.mpr ⟨List.mem_of_getElem? (i := 680) (by decide +kernel), rfl⟩
theorem wd_681 : Cond.methodLink RX5 242 yX4_figuresSo ∈ gw_tbl := List.mem_filter.mpr ⟨List.mem_of_getElem? (i := 681) (by decide +kernel), rfl⟩
theorem wd_682 : Cond.instanceMethod yX4_figuresSo ∈ gw_tbl := List.mem_filter.mpr ⟨List.mem_of_getElem? (i := 682) (by decide +kernel), rfl⟩
theorem wd_683 : Cond.selects RX4 yX4_figuresSo yX4_figuresSo ∈ gw_tbl := List.mem_filter.mpr ⟨List.mem_of_getElem? (i := 683) (by decide +kernel), rfl⟩
theorem wd_684 : Cond.code yX4_figuresSo cX4_figuresSo 5 (some .int) ∈ gw_tbl := List.mem_filter.mpr ⟨List.mem_of_getElem? (i := 684) (by decide +kernel), rfl⟩
theorem wd_685 : Cond.methodLink RX4 144 yX0_setFigure ∈ gw_tbl := List.mem_filter.mpr ⟨List.mem_of_getElem? (i := 685) (by decide +kernel), rfl⟩
theorem wd_686 : Cond.methodLink RL 135 yX5_row ∈ gw_tbl := List.mem_filter.mpr ⟨List.mem_of_getElem? (i := 686) (by decide +kernel), rfl⟩
theorem wd_687 : Cond.instanceMethod yX5_row ∈ gw_tbl := List.mem_filter.mpr ⟨List.mem_of_getElem? (i := 687) (by decide +kernel), rfl⟩
theorem wd_688 : Cond.selects RX5 yX5_row yX5_row ∈ gw_tbl := List.mem_filter.mpr ⟨List.mem_of_getElem? (i := 688) (by decide +kernel), rfl⟩
theorem wd_689 : Cond.code yX5_row cX5_row 2 (some .int) ∈ gw_tbl := List.mem_filter.mpr ⟨List.mem_of_getElem? (i := 689) (by decide +kernel), rfl⟩
theorem wd_690 : Cond.methodLink RL 139 yX5_judge ∈ gw_tbl := List.mem_filter.mpr ⟨List.mem_of_getElem? (i := 690) (by decide +kernel), rfl⟩
theorem wd_691 : Cond.instanceMethod yX5_judge ∈ gw_tbl := List.mem_filter.mpr ⟨List.mem_of_getElem? (i := 691) (by decide +kernel), rfl⟩
theorem wd_692 : Cond.selects RX5 yX5_judge yX5_judge ∈ gw_tbl := List.mem_filter.mpr ⟨List.mem_of_getElem? (i := 692) (by decide +kernel), rfl⟩
theorem wd_693 : Cond.code yX5_judge cX5_judge 2 (some .int) ∈ gw_tbl := List.mem_filter.mpr ⟨List.mem_of_getElem? (i := 693) (by decide +kernel), rfl⟩
theorem wd_694 : Cond.methodLink RX5 245 yX0_firstNotSo ∈ gw_tbl := List.mem_filter.mpr ⟨List.mem_of_getElem? (i := 694) (by decide +kernel), rfl⟩
theorem wd_695 : Cond.instanceMethod yX0_firstNotSo ∈ gw_tbl := List.mem_filter.mpr ⟨List.mem_of_getElem? (i := 695) (by decide +kernel), rfl⟩
theorem wd_696 : Cond.selects RX0 yX0_firstNotSo yX0_firstNotSo ∈ gw_tbl := List.mem_filter.mpr ⟨List.mem_of_getElem? (i := 696) (by decide +kernel), rfl⟩
theorem wd_697 : Cond.code yX0_firstNotSo cX0_firstNotSo 3 (some .int) ∈ gw_tbl := List.mem_filter.mpr ⟨List.mem_of_getElem? (i := 697) (by decide +kernel), rfl⟩
theorem wd_698 : Cond.methodLink RX0 112 yX2_size ∈ gw_tbl := List.mem_filter.mpr ⟨List.mem_of_getElem? (i := 698) (by decide +kernel), rfl⟩
theorem wd_699 : Cond.methodLink RX0 117 yX2_at ∈ gw_tbl := List.mem_filter.mpr ⟨List.mem_of_getElem? (i := 699) (by decide +kernel), rfl⟩
theorem wd_700 : Cond.methodLink RL 143 yX5_clear ∈ gw_tbl := List.mem_filter.mpr ⟨List.mem_of_getElem? (i := 700) (by decide +kernel), rfl⟩
theorem wd_701 : Cond.instanceMethod yX5_clear ∈ gw_tbl := List.mem_filter.mpr ⟨List.mem_of_getElem? (i := 701) (by decide +kernel), rfl⟩
theorem wd_702 : Cond.selects RX5 yX5_clear yX5_clear ∈ gw_tbl := List.mem_filter.mpr ⟨List.mem_of_getElem? (i := 702) (by decide +kernel), rfl⟩
theorem wd_703 : Cond.code yX5_clear cX5_clear 2 (some .int) ∈ gw_tbl := List.mem_filter.mpr ⟨List.mem_of_getElem? (i := 703) (by decide +kernel), rfl⟩
theorem wd_704 : Cond.methodLink RX5 249 yX2_size ∈ gw_tbl := List.mem_filter.mpr ⟨List.mem_of_getElem? (i := 704) (by decide +kernel), rfl⟩
theorem wd_705 : Cond.methodLink RL 147 yX5_lots ∈ gw_tbl := List.mem_filter.mpr ⟨List.mem_of_getElem? (i := 705) (by decide +kernel), rfl⟩
theorem wd_706 : Cond.instanceMethod yX5_lots ∈ gw_tbl := List.mem_filter.mpr ⟨List.mem_of_getElem? (i := 706) (by decide +kernel), rfl⟩
theorem wd_707 : Cond.selects RX5 yX5_lots yX5_lots ∈ gw_tbl := List.mem_filter.mpr ⟨List.mem_of_getElem? (i := 707) (by decide +kernel), rfl⟩
theorem wd_708 : Cond.code yX5_lots cX5_lots 5 (some .int) ∈ gw_tbl := List.mem_filter.mpr ⟨List.mem_of_getElem? (i := 708) (by decide +kernel), rfl⟩
theorem wd_709 : Cond.methodLink RX5 252 yX4_shiftsByLot ∈ gw_tbl := List.mem_filter.mpr ⟨List.mem_of_getElem? (i := 709) (by decide +kernel), rfl⟩
theorem wd_710 : Cond.instanceMethod yX4_shiftsByLot ∈ gw_tbl := List.mem_filter.mpr ⟨List.mem_of_getElem? (i := 710) (by decide +kernel), rfl⟩
theorem wd_711 : Cond.selects RX4 yX4_shiftsByLot yX4_shiftsByLot ∈ gw_tbl := List.mem_filter.mpr ⟨List.mem_of_getElem? (i := 711) (by decide +kernel), rfl⟩
theorem wd_712 : Cond.code yX4_shiftsByLot cX4_shiftsByLot 9 (some .int) ∈ gw_tbl := List.mem_filter.mpr ⟨List.mem_of_getElem? (i := 712) (by decide +kernel), rfl⟩
theorem wd_713 : Cond.methodLink RX4 155 yX4_nextSeed ∈ gw_tbl := List.mem_filter.mpr ⟨List.mem_of_getElem? (i := 713) (by decide +kernel), rfl⟩
theorem wd_714 : Cond.static yX4_nextSeed ∈ gw_tbl := List.mem_filter.mpr ⟨List.mem_of_getElem? (i := 714) (by decide +kernel), rfl⟩
theorem wd_715 : Cond.code yX4_nextSeed cX4_nextSeed 1 (some .int) ∈ gw_tbl := List.mem_filter.mpr ⟨List.mem_of_getElem? (i := 715) (by decide +kernel), rfl⟩
theorem wd_716 : Cond.constant RX4 164 (zI 1664525) ∈ gw_tbl := List.mem_filter.mpr ⟨List.mem_of_getElem? (i := 716) (by decide +kernel), rfl⟩
theorem wd_717 : Cond.constant RX4 165 (zI 1013904223) ∈ gw_tbl := List.mem_filter.mpr ⟨List.mem_of_getElem? (i := 717) (by decide +kernel), rfl⟩
theorem wd_718 : Cond.methodLink RX4 158 yX4_drawOf ∈ gw_tbl := List.mem_filter.mpr ⟨List.mem_of_getElem? (i := 718) (by decide +kernel), rfl⟩
theorem wd_719 : Cond.static yX4_drawOf ∈ gw_tbl := List.mem_filter.mpr ⟨List.mem_of_getElem? (i := 719) (by decide +kernel), rfl⟩
theorem wd_720 : Cond.code yX4_drawOf cX4_drawOf 2 (some .int) ∈ gw_tbl := List.mem_filter.mpr ⟨List.mem_of_getElem? (i := 720) (by decide +kernel), rfl⟩
theorem wd_721 : Cond.constant RX4 166 (zI 2147483647) ∈ gw_tbl := List.mem_filter.mpr ⟨List.mem_of_getElem? (i := 721) (by decide +kernel), rfl⟩
theorem wd_722 : Cond.methodLink RX4 161 yX0_facedBits ∈ gw_tbl := List.mem_filter.mpr ⟨List.mem_of_getElem? (i := 722) (by decide +kernel), rfl⟩
theorem wd_723 : Cond.methodLink RL 151 yX5_image ∈ gw_tbl := List.mem_filter.mpr ⟨List.mem_of_getElem? (i := 723) (by decide +kernel), rfl⟩
theorem wd_724 : Cond.instanceMethod yX5_image ∈ gw_tbl := List.mem_filter.mpr ⟨List.mem_of_getElem? (i := 724) (by decide +kernel), rfl⟩
theorem wd_725 : Cond.selects RX5 yX5_image yX5_image ∈ gw_tbl := List.mem_filter.mpr ⟨List.mem_of_getElem? (i := 725) (by decide +kernel), rfl⟩
theorem wd_726 : Cond.code yX5_image cX5_image 1 (some .int) ∈ gw_tbl := List.mem_filter.mpr ⟨List.mem_of_getElem? (i := 726) (by decide +kernel), rfl⟩
theorem wd_727 : Cond.methodLink RX5 256 yX0_become ∈ gw_tbl := List.mem_filter.mpr ⟨List.mem_of_getElem? (i := 727) (by decide +kernel), rfl⟩
theorem wd_728 : Cond.methodLink RL 155 yX5_on ∈ gw_tbl := List.mem_filter.mpr ⟨List.mem_of_getElem? (i := 728) (by decide +kernel), rfl⟩
theorem wd_729 : Cond.instanceMethod yX5_on ∈ gw_tbl := List.mem_filter.mpr ⟨List.mem_of_getElem? (i := 729) (by decide +kernel), rfl⟩
theorem wd_730 : Cond.selects RX5 yX5_on yX5_on ∈ gw_tbl := List.mem_filter.mpr ⟨List.mem_of_getElem? (i := 730) (by decide +kernel), rfl⟩
theorem wd_731 : Cond.code yX5_on cX5_on 1 (some .int) ∈ gw_tbl := List.mem_filter.mpr ⟨List.mem_of_getElem? (i := 731) (by decide +kernel), rfl⟩
theorem wd_732 : Cond.methodLink RL 159 yX5_count ∈ gw_tbl := List.mem_filter.mpr ⟨List.mem_of_getElem? (i := 732) (by decide +kernel), rfl⟩
theorem wd_733 : Cond.instanceMethod yX5_count ∈ gw_tbl := List.mem_filter.mpr ⟨List.mem_of_getElem? (i := 733) (by decide +kernel), rfl⟩
theorem wd_734 : Cond.selects RX5 yX5_count yX5_count ∈ gw_tbl := List.mem_filter.mpr ⟨List.mem_of_getElem? (i := 734) (by decide +kernel), rfl⟩
theorem wd_735 : Cond.code yX5_count cX5_count 2 (some .int) ∈ gw_tbl := List.mem_filter.mpr ⟨List.mem_of_getElem? (i := 735) (by decide +kernel), rfl⟩
theorem wd_736 : Cond.methodLink RX5 263 yX0_pairs ∈ gw_tbl := List.mem_filter.mpr ⟨List.mem_of_getElem? (i := 736) (by decide +kernel), rfl⟩
theorem wd_737 : Cond.methodLink RX5 266 yX0_allToSay ∈ gw_tbl := List.mem_filter.mpr ⟨List.mem_of_getElem? (i := 737) (by decide +kernel), rfl⟩
theorem wd_738 : Cond.instanceMethod yX0_allToSay ∈ gw_tbl := List.mem_filter.mpr ⟨List.mem_of_getElem? (i := 738) (by decide +kernel), rfl⟩
theorem wd_739 : Cond.selects RX0 yX0_allToSay yX0_allToSay ∈ gw_tbl := List.mem_filter.mpr ⟨List.mem_of_getElem? (i := 739) (by decide +kernel), rfl⟩
theorem wd_740 : Cond.code yX0_allToSay cX0_allToSay 3 (some .int) ∈ gw_tbl := List.mem_filter.mpr ⟨List.mem_of_getElem? (i := 740) (by decide +kernel), rfl⟩
theorem wd_747 : Cond.fieldLink RX6 7 "LampOfTheSilentModel" "refused" "[I" ∈ gw_tbl := List.mem_filter.mpr ⟨List.mem_of_getElem? (i := 747) (by decide +kernel), rfl⟩
theorem wd_748 : Cond.fieldLink RX6 13 "LampOfTheSilentModel" "beam" "[I" ∈ gw_tbl := List.mem_filter.mpr ⟨List.mem_of_getElem? (i := 748) (by decide +kernel), rfl⟩
theorem wd_749 : Cond.fieldLink RX6 16 "LampOfTheSilentModel" "kind" "[I" ∈ gw_tbl := List.mem_filter.mpr ⟨List.mem_of_getElem? (i := 749) (by decide +kernel), rfl⟩
theorem wd_750 : Cond.fieldLink RX6 19 "LampOfTheSilentModel" "figure" "[I" ∈ gw_tbl := List.mem_filter.mpr ⟨List.mem_of_getElem? (i := 750) (by decide +kernel), rfl⟩
theorem wd_751 : Cond.fieldLink RX6 22 "LampOfTheSilentModel" "bruise" "[I" ∈ gw_tbl := List.mem_filter.mpr ⟨List.mem_of_getElem? (i := 751) (by decide +kernel), rfl⟩
theorem wd_752 : Cond.fieldLink RX6 25 "LampOfTheSilentModel" "at" "[I" ∈ gw_tbl := List.mem_filter.mpr ⟨List.mem_of_getElem? (i := 752) (by decide +kernel), rfl⟩
theorem wd_753 : Cond.fieldLink RX6 28 "LampOfTheSilentModel" "toSay" "[I" ∈ gw_tbl := List.mem_filter.mpr ⟨List.mem_of_getElem? (i := 753) (by decide +kernel), rfl⟩
theorem wd_754 : Cond.fieldLink RX6 58 "LampOfTheSilentModel" "pairs" "I" ∈ gw_tbl := List.mem_filter.mpr ⟨List.mem_of_getElem? (i := 754) (by decide +kernel), rfl⟩
theorem wd_755 : Cond.fieldLink RX6 112 "LampOfTheSilentModel" "minute" "I" ∈ gw_tbl := List.mem_filter.mpr ⟨List.mem_of_getElem? (i := 755) (by decide +kernel), rfl⟩
theorem wd_756 : Cond.fieldLink RX6 31 "LampOfTheSilentModel" "tape" "[I" ∈ gw_tbl := List.mem_filter.mpr ⟨List.mem_of_getElem? (i := 756) (by decide +kernel), rfl⟩
theorem wd_757 : Cond.fieldLink RX6 34 "LampOfTheSilentModel" "letter" "[I" ∈ gw_tbl := List.mem_filter.mpr ⟨List.mem_of_getElem? (i := 757) (by decide +kernel), rfl⟩
theorem wd_758 : Cond.fieldLink RX6 37 "LampOfTheSilentModel" "letterAt" "[I" ∈ gw_tbl := List.mem_filter.mpr ⟨List.mem_of_getElem? (i := 758) (by decide +kernel), rfl⟩
theorem wd_759 : Cond.fieldLink RX6 40 "LampOfTheSilentModel" "told" "[I" ∈ gw_tbl := List.mem_filter.mpr ⟨List.mem_of_getElem? (i := 759) (by decide +kernel), rfl⟩
theorem wd_760 : Cond.fieldLink RX6 68 "LampOfTheSilentModel" "taped" "I" ∈ gw_tbl := List.mem_filter.mpr ⟨List.mem_of_getElem? (i := 760) (by decide +kernel), rfl⟩
theorem wd_761 : Cond.fieldLink RX6 75 "LampOfTheSilentModel" "reading" "I" ∈ gw_tbl := List.mem_filter.mpr ⟨List.mem_of_getElem? (i := 761) (by decide +kernel), rfl⟩
theorem wd_762 : Cond.fieldLink RX6 97 "LampOfTheSilentModel" "statements" "I" ∈ gw_tbl := List.mem_filter.mpr ⟨List.mem_of_getElem? (i := 762) (by decide +kernel), rfl⟩
theorem wd_763 : Cond.fieldLink RX6 43 "LampOfTheSilentModel" "kept" "[I" ∈ gw_tbl := List.mem_filter.mpr ⟨List.mem_of_getElem? (i := 763) (by decide +kernel), rfl⟩
theorem wd_764 : Cond.fieldLink RX6 169 "LampOfTheSilentModel" "hasImage" "Z" ∈ gw_tbl := List.mem_filter.mpr ⟨List.mem_of_getElem? (i := 764) (by decide +kernel), rfl⟩
theorem wd_765 : Cond.fieldLink RX6 149 "LampOfTheSilentModel" "isKeeping" "Z" ∈ gw_tbl := List.mem_filter.mpr ⟨List.mem_of_getElem? (i := 765) (by decide +kernel), rfl⟩
theorem wd_766 : Cond.fieldLink RX6 153 "LampOfTheSilentModel" "cursor" "I" ∈ gw_tbl := List.mem_filter.mpr ⟨List.mem_of_getElem? (i := 766) (by decide +kernel), rfl⟩
theorem wd_767 : Cond.fieldLink RX6 163 "LampOfTheSilentModel" "coughing" "Z" ∈ gw_tbl := List.mem_filter.mpr ⟨List.mem_of_getElem? (i := 767) (by decide +kernel), rfl⟩
theorem wd_768 : Cond.fieldLink RX6 166 "LampOfTheSilentModel" "wills" "I" ∈ gw_tbl := List.mem_filter.mpr ⟨List.mem_of_getElem? (i := 768) (by decide +kernel), rfl⟩
theorem wd_769 : Cond.fieldLink RX6 172 "LampOfTheSilentModel" "willing" "I" ∈ gw_tbl := List.mem_filter.mpr ⟨List.mem_of_getElem? (i := 769) (by decide +kernel), rfl⟩
theorem wd_770 : Cond.fieldLink RX6 46 "LampOfTheSilentModel" "walked" "[I" ∈ gw_tbl := List.mem_filter.mpr ⟨List.mem_of_getElem? (i := 770) (by decide +kernel), rfl⟩
theorem wd_771 : Cond.fieldLink RX6 49 "LampOfTheSilentModel" "walking" "[I" ∈ gw_tbl := List.mem_filter.mpr ⟨List.mem_of_getElem? (i := 771) (by decide +kernel), rfl⟩
theorem wd_772 : Cond.fieldLink RX6 52 "LampOfTheSilentModel" "costs" "[I" ∈ gw_tbl := List.mem_filter.mpr ⟨List.mem_of_getElem? (i := 772) (by decide +kernel), rfl⟩
theorem wd_773 : Cond.fieldLink RX6 55 "LampOfTheSilentModel" "row" "[I" ∈ gw_tbl := List.mem_filter.mpr ⟨List.mem_of_getElem? (i := 773) (by decide +kernel), rfl⟩
theorem wd_774 : Cond.fieldLink RX6 270 "LampOfTheSilentModel" "rowMany" "I" ∈ gw_tbl := List.mem_filter.mpr ⟨List.mem_of_getElem? (i := 774) (by decide +kernel), rfl⟩
theorem wd_775 : Cond.fieldLink RX6 280 "LampOfTheSilentModel" "lots" "I" ∈ gw_tbl := List.mem_filter.mpr ⟨List.mem_of_getElem? (i := 775) (by decide +kernel), rfl⟩
theorem wd_776 : u_lay RX6 TX6 0 ∈ gw_tbl := List.mem_filter.mpr ⟨List.mem_of_getElem? (i := 776) (by decide +kernel), rfl⟩
theorem wd_778 : u_lay RX6 TX6 1 ∈ gw_tbl := List.mem_filter.mpr ⟨List.mem_of_getElem? (i := 778) (by decide +kernel), rfl⟩
theorem wd_780 : u_lay RX6 TX6 2 ∈ gw_tbl := List.mem_filter.mpr ⟨List.mem_of_getElem? (i := 780) (by decide +kernel), rfl⟩
theorem wd_782 : u_lay RX6 TX6 3 ∈ gw_tbl := List.mem_filter.mpr ⟨List.mem_of_getElem? (i := 782) (by decide +kernel), rfl⟩
theorem wd_784 : u_lay RX6 TX6 4 ∈ gw_tbl := List.mem_filter.mpr ⟨List.mem_of_getElem? (i := 784) (by decide +kernel), rfl⟩
theorem wd_786 : u_lay RX6 TX6 5 ∈ gw_tbl := List.mem_filter.mpr ⟨List.mem_of_getElem? (i := 786) (by decide +kernel), rfl⟩
theorem wd_788 : u_lay RX6 TX6 6 ∈ gw_tbl := List.mem_filter.mpr ⟨List.mem_of_getElem? (i := 788) (by decide +kernel), rfl⟩
theorem wd_790 : u_lay RX6 TX6 7 ∈ gw_tbl := List.mem_filter.mpr ⟨List.mem_of_getElem? (i := 790) (by decide +kernel), rfl⟩
theorem wd_792 : u_lay RX6 TX6 8 ∈ gw_tbl := List.mem_filter.mpr ⟨List.mem_of_getElem? (i := 792) (by decide +kernel), rfl⟩
theorem wd_794 : u_lay RX6 TX6 9 ∈ gw_tbl := List.mem_filter.mpr ⟨List.mem_of_getElem? (i := 794) (by decide +kernel), rfl⟩
theorem wd_796 : u_lay RX6 TX6 10 ∈ gw_tbl := List.mem_filter.mpr ⟨List.mem_of_getElem? (i := 796) (by decide +kernel), rfl⟩
theorem wd_798 : u_lay RX6 TX6 11 ∈ gw_tbl := List.mem_filter.mpr ⟨List.mem_of_getElem? (i := 798) (by decide +kernel), rfl⟩
theorem wd_800 : u_lay RX6 TX6 12 ∈ gw_tbl := List.mem_filter.mpr ⟨List.mem_of_getElem? (i := 800) (by decide +kernel), rfl⟩
theorem wd_802 : u_lay RX6 TX6 13 ∈ gw_tbl := List.mem_filter.mpr ⟨List.mem_of_getElem? (i := 802) (by decide +kernel), rfl⟩
theorem wd_804 : u_lay RX6 TX6 14 ∈ gw_tbl := List.mem_filter.mpr ⟨List.mem_of_getElem? (i := 804) (by decide +kernel), rfl⟩
theorem wd_806 : u_lay RX6 TX6 15 ∈ gw_tbl := List.mem_filter.mpr ⟨List.mem_of_getElem? (i := 806) (by decide +kernel), rfl⟩
theorem wd_808 : u_lay RX6 TX6 16 ∈ gw_tbl := List.mem_filter.mpr ⟨List.mem_of_getElem? (i := 808) (by decide +kernel), rfl⟩
theorem wd_810 : u_lay RX6 TX6 17 ∈ gw_tbl := List.mem_filter.mpr ⟨List.mem_of_getElem? (i := 810) (by decide +kernel), rfl⟩
theorem wd_812 : u_lay RX6 TX6 18 ∈ gw_tbl := List.mem_filter.mpr ⟨List.mem_of_getElem? (i := 812) (by decide +kernel), rfl⟩
theorem wd_814 : u_lay RX6 TX6 19 ∈ gw_tbl := List.mem_filter.mpr ⟨List.mem_of_getElem? (i := 814) (by decide +kernel), rfl⟩
theorem wd_816 : u_lay RX6 TX6 20 ∈ gw_tbl := List.mem_filter.mpr ⟨List.mem_of_getElem? (i := 816) (by decide +kernel), rfl⟩
theorem wd_818 : u_lay RX6 TX6 21 ∈ gw_tbl := List.mem_filter.mpr ⟨List.mem_of_getElem? (i := 818) (by decide +kernel), rfl⟩
theorem wd_820 : u_lay RX6 TX6 22 ∈ gw_tbl := List.mem_filter.mpr ⟨List.mem_of_getElem? (i := 820) (by decide +kernel), rfl⟩
theorem wd_822 : u_lay RX6 TX6 23 ∈ gw_tbl := List.mem_filter.mpr ⟨List.mem_of_getElem? (i := 822) (by decide +kernel), rfl⟩
theorem wd_824 : u_lay RX6 TX6 24 ∈ gw_tbl := List.mem_filter.mpr ⟨List.mem_of_getElem? (i := 824) (by decide +kernel), rfl⟩
theorem wd_826 : u_lay RX6 TX6 25 ∈ gw_tbl := List.mem_filter.mpr ⟨List.mem_of_getElem? (i := 826) (by decide +kernel), rfl⟩
theorem wd_828 : u_lay RX6 TX6 26 ∈ gw_tbl := List.mem_filter.mpr ⟨List.mem_of_getElem? (i := 828) (by decide +kernel), rfl⟩
theorem wd_830 : u_lay RX6 TX6 27 ∈ gw_tbl := List.mem_filter.mpr ⟨List.mem_of_getElem? (i := 830) (by decide +kernel), rfl⟩
theorem wd_832 : u_lay RX6 TX6 28 ∈ gw_tbl := List.mem_filter.mpr ⟨List.mem_of_getElem? (i := 832) (by decide +kernel), rfl⟩
theorem wd_835 : Cond.methodLink RL 17 yX6_letter ∈ gw_tbl := List.mem_filter.mpr ⟨List.mem_of_getElem? (i := 835) (by decide +kernel), rfl⟩
theorem wd_836 : Cond.instanceMethod yX6_letter ∈ gw_tbl := List.mem_filter.mpr ⟨List.mem_of_getElem? (i := 836) (by decide +kernel), rfl⟩
theorem wd_837 : Cond.selects RX6 yX6_letter yX6_letter ∈ gw_tbl := List.mem_filter.mpr ⟨List.mem_of_getElem? (i := 837) (by decide +kernel), rfl⟩
theorem wd_838 : Cond.code yX6_letter cX6_letter 3 (some .int) ∈ gw_tbl := List.mem_filter.mpr ⟨List.mem_of_getElem? (i := 838) (by decide +kernel), rfl⟩
theorem wd_839 : Cond.methodLink RX6 64 yX6_bound ∈ gw_tbl := List.mem_filter.mpr ⟨List.mem_of_getElem? (i := 839) (by decide +kernel), rfl⟩
theorem wd_840 : Cond.static yX6_bound ∈ gw_tbl := List.mem_filter.mpr ⟨List.mem_of_getElem? (i := 840) (by decide +kernel), rfl⟩
theorem wd_841 : Cond.code yX6_bound cX6_bound 3 (some .int) ∈ gw_tbl := List.mem_filter.mpr ⟨List.mem_of_getElem? (i := 841) (by decide +kernel), rfl⟩
theorem wd_842 : Cond.methodLink RX6 71 yX6_no ∈ gw_tbl := List.mem_filter.mpr ⟨List.mem_of_getElem? (i := 842) (by decide +kernel), rfl⟩
theorem wd_844 : Cond.instanceMethod yX6_no ∈ gw_tbl := List.mem_filter.mpr ⟨List.mem_of_getElem? (i := 844) (by decide +kernel), rfl⟩
theorem wd_845 : Cond.code yX6_no cX6_no 2 (some .int) ∈ gw_tbl := List.mem_filter.mpr ⟨List.mem_of_getElem? (i := 845) (by decide +kernel), rfl⟩
theorem wd_846 : Cond.methodLink RL 22 yX6_mine ∈ gw_tbl := List.mem_filter.mpr ⟨List.mem_of_getElem? (i := 846) (by decide +kernel), rfl⟩
theorem wd_847 : Cond.instanceMethod yX6_mine ∈ gw_tbl := List.mem_filter.mpr ⟨List.mem_of_getElem? (i := 847) (by decide +kernel), rfl⟩
theorem wd_848 : Cond.selects RX6 yX6_mine yX6_mine ∈ gw_tbl := List.mem_filter.mpr ⟨List.mem_of_getElem? (i := 848) (by decide +kernel), rfl⟩
theorem wd_849 : Cond.code yX6_mine cX6_mine 3 (some .int) ∈ gw_tbl := List.mem_filter.mpr ⟨List.mem_of_getElem? (i := 849) (by decide +kernel), rfl⟩
theorem wd_850 : Cond.methodLink RX6 138 yX6_statement ∈ gw_tbl := List.mem_filter.mpr ⟨List.mem_of_getElem? (i := 850) (by decide +kernel), rfl⟩
theorem wd_852 : Cond.instanceMethod yX6_statement ∈ gw_tbl := List.mem_filter.mpr ⟨List.mem_of_getElem? (i := 852) (by decide +kernel), rfl⟩
theorem wd_853 : Cond.code yX6_statement cX6_statement 2 (some .boolean) ∈ gw_tbl := List.mem_filter.mpr ⟨List.mem_of_getElem? (i := 853) (by decide +kernel), rfl⟩
theorem wd_854 : Cond.methodLink RX6 78 yX6_letterNow ∈ gw_tbl := List.mem_filter.mpr ⟨List.mem_of_getElem? (i := 854) (by decide +kernel), rfl⟩
theorem wd_856 : Cond.instanceMethod yX6_letterNow ∈ gw_tbl := List.mem_filter.mpr ⟨List.mem_of_getElem? (i := 856) (by decide +kernel), rfl⟩
theorem wd_857 : Cond.code yX6_letterNow cX6_letterNow 1 (some .int) ∈ gw_tbl := List.mem_filter.mpr ⟨List.mem_of_getElem? (i := 857) (by decide +kernel), rfl⟩
theorem wd_858 : Cond.methodLink RX6 100 yX6_readsAll ∈ gw_tbl := List.mem_filter.mpr ⟨List.mem_of_getElem? (i := 858) (by decide +kernel), rfl⟩
theorem wd_860 : Cond.instanceMethod yX6_readsAll ∈ gw_tbl := List.mem_filter.mpr ⟨List.mem_of_getElem? (i := 860) (by decide +kernel), rfl⟩
theorem wd_861 : Cond.code yX6_readsAll cX6_readsAll 3 (some .boolean) ∈ gw_tbl := List.mem_filter.mpr ⟨List.mem_of_getElem? (i := 861) (by decide +kernel), rfl⟩
theorem wd_862 : Cond.methodLink RX6 89 yX6_readsDigits ∈ gw_tbl := List.mem_filter.mpr ⟨List.mem_of_getElem? (i := 862) (by decide +kernel), rfl⟩
theorem wd_864 : Cond.instanceMethod yX6_readsDigits ∈ gw_tbl := List.mem_filter.mpr ⟨List.mem_of_getElem? (i := 864) (by decide +kernel), rfl⟩
theorem wd_865 : Cond.code yX6_readsDigits cX6_readsDigits 5 (some .boolean) ∈ gw_tbl := List.mem_filter.mpr ⟨List.mem_of_getElem? (i := 865) (by decide +kernel), rfl⟩
theorem wd_866 : Cond.methodLink RX6 82 yX6_isIn ∈ gw_tbl := List.mem_filter.mpr ⟨List.mem_of_getElem? (i := 866) (by decide +kernel), rfl⟩
theorem wd_867 : Cond.static yX6_isIn ∈ gw_tbl := List.mem_filter.mpr ⟨List.mem_of_getElem? (i := 867) (by decide +kernel), rfl⟩
theorem wd_868 : Cond.code yX6_isIn cX6_isIn 3 (some .boolean) ∈ gw_tbl := List.mem_filter.mpr ⟨List.mem_of_getElem? (i := 868) (by decide +kernel), rfl⟩
theorem wd_869 : Cond.methodLink RX6 93 yX6_readsMiner ∈ gw_tbl := List.mem_filter.mpr ⟨List.mem_of_getElem? (i := 869) (by decide +kernel), rfl⟩
theorem wd_871 : Cond.instanceMethod yX6_readsMiner ∈ gw_tbl := List.mem_filter.mpr ⟨List.mem_of_getElem? (i := 871) (by decide +kernel), rfl⟩
theorem wd_872 : Cond.code yX6_readsMiner cX6_readsMiner 2 (some .boolean) ∈ gw_tbl := List.mem_filter.mpr ⟨List.mem_of_getElem? (i := 872) (by decide +kernel), rfl⟩
theorem wd_873 : Cond.methodLink RX6 86 yX6_kindOf ∈ gw_tbl := List.mem_filter.mpr ⟨List.mem_of_getElem? (i := 873) (by decide +kernel), rfl⟩
theorem wd_874 : Cond.static yX6_kindOf ∈ gw_tbl := List.mem_filter.mpr ⟨List.mem_of_getElem? (i := 874) (by decide +kernel), rfl⟩
theorem wd_875 : Cond.code yX6_kindOf cX6_kindOf 1 (some .int) ∈ gw_tbl := List.mem_filter.mpr ⟨List.mem_of_getElem? (i := 875) (by decide +kernel), rfl⟩
theorem wd_876 : Cond.methodLink RX6 142 yX6_passesAll ∈ gw_tbl := List.mem_filter.mpr ⟨List.mem_of_getElem? (i := 876) (by decide +kernel), rfl⟩
theorem wd_878 : Cond.instanceMethod yX6_passesAll ∈ gw_tbl := List.mem_filter.mpr ⟨List.mem_of_getElem? (i := 878) (by decide +kernel), rfl⟩
theorem wd_879 : Cond.code yX6_passesAll cX6_passesAll 3 none ∈ gw_tbl := List.mem_filter.mpr ⟨List.mem_of_getElem? (i := 879) (by decide +kernel), rfl⟩
theorem wd_880 : Cond.methodLink RX6 156 yX6_passes ∈ gw_tbl := List.mem_filter.mpr ⟨List.mem_of_getElem? (i := 880) (by decide +kernel), rfl⟩
theorem wd_882 : Cond.instanceMethod yX6_passes ∈ gw_tbl := List.mem_filter.mpr ⟨List.mem_of_getElem? (i := 882) (by decide +kernel), rfl⟩
theorem wd_883 : Cond.code yX6_passes cX6_passes 3 none ∈ gw_tbl := List.mem_filter.mpr ⟨List.mem_of_getElem? (i := 883) (by decide +kernel), rfl⟩
theorem wd_884 : Cond.methodLink RX6 160 yX6_passOne ∈ gw_tbl := List.mem_filter.mpr ⟨List.mem_of_getElem? (i := 884) (by decide +kernel), rfl⟩
theorem wd_886 : Cond.instanceMethod yX6_passOne ∈ gw_tbl := List.mem_filter.mpr ⟨List.mem_of_getElem? (i := 886) (by decide +kernel), rfl⟩
theorem wd_887 : Cond.code yX6_passOne cX6_passOne 3 (some .int) ∈ gw_tbl := List.mem_filter.mpr ⟨List.mem_of_getElem? (i := 887) (by decide +kernel), rfl⟩
theorem wd_888 : Cond.methodLink RX6 146 yX6_comes ∈ gw_tbl := List.mem_filter.mpr ⟨List.mem_of_getElem? (i := 888) (by decide +kernel), rfl⟩
theorem wd_890 : Cond.instanceMethod yX6_comes ∈ gw_tbl := List.mem_filter.mpr ⟨List.mem_of_getElem? (i := 890) (by decide +kernel), rfl⟩
theorem wd_891 : Cond.code yX6_comes cX6_comes 3 (some .boolean) ∈ gw_tbl := List.mem_filter.mpr ⟨List.mem_of_getElem? (i := 891) (by decide +kernel), rfl⟩
theorem wd_892 : Cond.methodLink RX6 119 yX6_comesBeams ∈ gw_tbl := List.mem_filter.mpr ⟨List.mem_of_getElem? (i := 892) (by decide +kernel), rfl⟩
theorem wd_894 : Cond.instanceMethod yX6_comesBeams ∈ gw_tbl := List.mem_filter.mpr ⟨List.mem_of_getElem? (i := 894) (by decide +kernel), rfl⟩
theorem wd_895 : Cond.code yX6_comesBeams cX6_comesBeams 3 (some .boolean) ∈ gw_tbl := List.mem_filter.mpr ⟨List.mem_of_getElem? (i := 895) (by decide +kernel), rfl⟩
theorem wd_896 : Cond.methodLink RX6 103 yX6_isCell ∈ gw_tbl := List.mem_filter.mpr ⟨List.mem_of_getElem? (i := 896) (by decide +kernel), rfl⟩
theorem wd_897 : Cond.static yX6_isCell ∈ gw_tbl := List.mem_filter.mpr ⟨List.mem_of_getElem? (i := 897) (by decide +kernel), rfl⟩
theorem wd_898 : Cond.code yX6_isCell cX6_isCell 1 (some .boolean) ∈ gw_tbl := List.mem_filter.mpr ⟨List.mem_of_getElem? (i := 898) (by decide +kernel), rfl⟩
theorem wd_899 : Cond.methodLink RX6 122 yX6_comesPair ∈ gw_tbl := List.mem_filter.mpr ⟨List.mem_of_getElem? (i := 899) (by decide +kernel), rfl⟩
theorem wd_901 : Cond.instanceMethod yX6_comesPair ∈ gw_tbl := List.mem_filter.mpr ⟨List.mem_of_getElem? (i := 901) (by decide +kernel), rfl⟩
theorem wd_902 : Cond.code yX6_comesPair cX6_comesPair 3 (some .boolean) ∈ gw_tbl := List.mem_filter.mpr ⟨List.mem_of_getElem? (i := 902) (by decide +kernel), rfl⟩
theorem wd_903 : Cond.methodLink RX6 125 yX6_comesOf ∈ gw_tbl := List.mem_filter.mpr ⟨List.mem_of_getElem? (i := 903) (by decide +kernel), rfl⟩
theorem wd_905 : Cond.instanceMethod yX6_comesOf ∈ gw_tbl := List.mem_filter.mpr ⟨List.mem_of_getElem? (i := 905) (by decide +kernel), rfl⟩
theorem wd_906 : Cond.code yX6_comesOf cX6_comesOf 4 (some .boolean) ∈ gw_tbl := List.mem_filter.mpr ⟨List.mem_of_getElem? (i := 906) (by decide +kernel), rfl⟩
theorem wd_907 : Cond.methodLink RX6 106 yX6_isPair ∈ gw_tbl := List.mem_filter.mpr ⟨List.mem_of_getElem? (i := 907) (by decide +kernel), rfl⟩
theorem wd_909 : Cond.instanceMethod yX6_isPair ∈ gw_tbl := List.mem_filter.mpr ⟨List.mem_of_getElem? (i := 909) (by decide +kernel), rfl⟩
theorem wd_910 : Cond.code yX6_isPair cX6_isPair 2 (some .boolean) ∈ gw_tbl := List.mem_filter.mpr ⟨List.mem_of_getElem? (i := 910) (by decide +kernel), rfl⟩
theorem wd_911 : Cond.methodLink RX6 109 yX6_held ∈ gw_tbl := List.mem_filter.mpr ⟨List.mem_of_getElem? (i := 911) (by decide +kernel), rfl⟩
theorem wd_912 : Cond.static yX6_held ∈ gw_tbl := List.mem_filter.mpr ⟨List.mem_of_getElem? (i := 912) (by decide +kernel), rfl⟩
theorem wd_913 : Cond.code yX6_held cX6_held 1 (some .int) ∈ gw_tbl := List.mem_filter.mpr ⟨List.mem_of_getElem? (i := 913) (by decide +kernel), rfl⟩
theorem wd_914 : Cond.methodLink RX6 128 yX6_isMiner ∈ gw_tbl := List.mem_filter.mpr ⟨List.mem_of_getElem? (i := 914) (by decide +kernel), rfl⟩
theorem wd_916 : Cond.instanceMethod yX6_isMiner ∈ gw_tbl := List.mem_filter.mpr ⟨List.mem_of_getElem? (i := 916) (by decide +kernel), rfl⟩
theorem wd_917 : Cond.code yX6_isMiner cX6_isMiner 2 (some .boolean) ∈ gw_tbl := List.mem_filter.mpr ⟨List.mem_of_getElem? (i := 917) (by decide +kernel), rfl⟩
theorem wd_918 : Cond.methodLink RX6 131 yX6_changesTwo ∈ gw_tbl := List.mem_filter.mpr ⟨List.mem_of_getElem? (i := 918) (by decide +kernel), rfl⟩
theorem wd_920 : Cond.instanceMethod yX6_changesTwo ∈ gw_tbl := List.mem_filter.mpr ⟨List.mem_of_getElem? (i := 920) (by decide +kernel), rfl⟩
theorem wd_921 : Cond.code yX6_changesTwo cX6_changesTwo 3 none ∈ gw_tbl := List.mem_filter.mpr ⟨List.mem_of_getElem? (i := 921) (by decide +kernel), rfl⟩
theorem wd_922 : Cond.methodLink RX6 200 yX6_changes ∈ gw_tbl := List.mem_filter.mpr ⟨List.mem_of_getElem? (i := 922) (by decide +kernel), rfl⟩
theorem wd_924 : Cond.instanceMethod yX6_changes ∈ gw_tbl := List.mem_filter.mpr ⟨List.mem_of_getElem? (i := 924) (by decide +kernel), rfl⟩
theorem wd_925 : Cond.code yX6_changes cX6_changes 5 none ∈ gw_tbl := List.mem_filter.mpr ⟨List.mem_of_getElem? (i := 925) (by decide +kernel), rfl⟩
theorem wd_926 : Cond.methodLink RX6 135 yX6_comesMinutes ∈ gw_tbl := List.mem_filter.mpr ⟨List.mem_of_getElem? (i := 926) (by decide +kernel), rfl⟩
theorem wd_928 : Cond.instanceMethod yX6_comesMinutes ∈ gw_tbl := List.mem_filter.mpr ⟨List.mem_of_getElem? (i := 928) (by decide +kernel), rfl⟩
theorem wd_929 : Cond.code yX6_comesMinutes cX6_comesMinutes 2 (some .boolean) ∈ gw_tbl := List.mem_filter.mpr ⟨List.mem_of_getElem? (i := 929) (by decide +kernel), rfl⟩
theorem wd_930 : Cond.methodLink RX6 115 yX6_goes ∈ gw_tbl := List.mem_filter.mpr ⟨List.mem_of_getElem? (i := 930) (by decide +kernel), rfl⟩
theorem wd_932 : Cond.instanceMethod yX6_goes ∈ gw_tbl := List.mem_filter.mpr ⟨List.mem_of_getElem? (i := 932) (by decide +kernel), rfl⟩
theorem wd_933 : Cond.code yX6_goes cX6_goes 3 none ∈ gw_tbl := List.mem_filter.mpr ⟨List.mem_of_getElem? (i := 933) (by decide +kernel), rfl⟩
theorem wd_934 : Cond.methodLink RX6 197 yX6_goesMinute ∈ gw_tbl := List.mem_filter.mpr ⟨List.mem_of_getElem? (i := 934) (by decide +kernel), rfl⟩
theorem wd_936 : Cond.instanceMethod yX6_goesMinute ∈ gw_tbl := List.mem_filter.mpr ⟨List.mem_of_getElem? (i := 936) (by decide +kernel), rfl⟩
theorem wd_937 : Cond.code yX6_goesMinute cX6_goesMinute 2 none ∈ gw_tbl := List.mem_filter.mpr ⟨List.mem_of_getElem? (i := 937) (by decide +kernel), rfl⟩
theorem wd_938 : Cond.methodLink RX6 194 yX6_goesPair ∈ gw_tbl := List.mem_filter.mpr ⟨List.mem_of_getElem? (i := 938) (by decide +kernel), rfl⟩
theorem wd_940 : Cond.instanceMethod yX6_goesPair ∈ gw_tbl := List.mem_filter.mpr ⟨List.mem_of_getElem? (i := 940) (by decide +kernel), rfl⟩
theorem wd_941 : Cond.code yX6_goesPair cX6_goesPair 3 none ∈ gw_tbl := List.mem_filter.mpr ⟨List.mem_of_getElem? (i := 941) (by decide +kernel), rfl⟩
theorem wd_942 : Cond.methodLink RX6 184 yX6_speaker ∈ gw_tbl := List.mem_filter.mpr ⟨List.mem_of_getElem? (i := 942) (by decide +kernel), rfl⟩
theorem wd_944 : Cond.instanceMethod yX6_speaker ∈ gw_tbl := List.mem_filter.mpr ⟨List.mem_of_getElem? (i := 944) (by decide +kernel), rfl⟩
theorem wd_945 : Cond.code yX6_speaker cX6_speaker 3 (some .int) ∈ gw_tbl := List.mem_filter.mpr ⟨List.mem_of_getElem? (i := 945) (by decide +kernel), rfl⟩
theorem wd_946 : Cond.methodLink RX6 181 yX6_wants ∈ gw_tbl := List.mem_filter.mpr ⟨List.mem_of_getElem? (i := 946) (by decide +kernel), rfl⟩
theorem wd_948 : Cond.instanceMethod yX6_wants ∈ gw_tbl := List.mem_filter.mpr ⟨List.mem_of_getElem? (i := 948) (by decide +kernel), rfl⟩
theorem wd_949 : Cond.code yX6_wants cX6_wants 4 (some .boolean) ∈ gw_tbl := List.mem_filter.mpr ⟨List.mem_of_getElem? (i := 949) (by decide +kernel), rfl⟩
theorem wd_950 : Cond.methodLink RX6 175 yX6_has ∈ gw_tbl := List.mem_filter.mpr ⟨List.mem_of_getElem? (i := 950) (by decide +kernel), rfl⟩
theorem wd_951 : Cond.static yX6_has ∈ gw_tbl := List.mem_filter.mpr ⟨List.mem_of_getElem? (i := 951) (by decide +kernel), rfl⟩
theorem wd_952 : Cond.code yX6_has cX6_has 2 (some .boolean) ∈ gw_tbl := List.mem_filter.mpr ⟨List.mem_of_getElem? (i := 952) (by decide +kernel), rfl⟩
theorem wd_953 : Cond.methodLink RX6 178 yX6_wantsBy ∈ gw_tbl := List.mem_filter.mpr ⟨List.mem_of_getElem? (i := 953) (by decide +kernel), rfl⟩
theorem wd_955 : Cond.instanceMethod yX6_wantsBy ∈ gw_tbl := List.mem_filter.mpr ⟨List.mem_of_getElem? (i := 955) (by decide +kernel), rfl⟩
theorem wd_956 : Cond.code yX6_wantsBy cX6_wantsBy 4 (some .boolean) ∈ gw_tbl := List.mem_filter.mpr ⟨List.mem_of_getElem? (i := 956) (by decide +kernel), rfl⟩
theorem wd_957 : Cond.methodLink RX6 188 yX6_stepsOf ∈ gw_tbl := List.mem_filter.mpr ⟨List.mem_of_getElem? (i := 957) (by decide +kernel), rfl⟩
theorem wd_959 : Cond.instanceMethod yX6_stepsOf ∈ gw_tbl := List.mem_filter.mpr ⟨List.mem_of_getElem? (i := 959) (by decide +kernel), rfl⟩
theorem wd_960 : Cond.code yX6_stepsOf cX6_stepsOf 2 (some .int) ∈ gw_tbl := List.mem_filter.mpr ⟨List.mem_of_getElem? (i := 960) (by decide +kernel), rfl⟩
theorem wd_961 : Cond.methodLink RX6 191 yX6_faceAtMost ∈ gw_tbl := List.mem_filter.mpr ⟨List.mem_of_getElem? (i := 961) (by decide +kernel), rfl⟩
theorem wd_962 : Cond.static yX6_faceAtMost ∈ gw_tbl := List.mem_filter.mpr ⟨List.mem_of_getElem? (i := 962) (by decide +kernel), rfl⟩
theorem wd_963 : Cond.code yX6_faceAtMost cX6_faceAtMost 1 (some .int) ∈ gw_tbl := List.mem_filter.mpr ⟨List.mem_of_getElem? (i := 963) (by decide +kernel), rfl⟩
theorem wd_964 : Cond.methodLink RL 154 yX6_image ∈ gw_tbl := List.mem_filter.mpr ⟨List.mem_of_getElem? (i := 964) (by decide +kernel), rfl⟩
theorem wd_965 : Cond.instanceMethod yX6_image ∈ gw_tbl := List.mem_filter.mpr ⟨List.mem_of_getElem? (i := 965) (by decide +kernel), rfl⟩
theorem wd_966 : Cond.selects RX6 yX6_image yX6_image ∈ gw_tbl := List.mem_filter.mpr ⟨List.mem_of_getElem? (i := 966) (by decide +kernel), rfl⟩
theorem wd_967 : Cond.code yX6_image cX6_image 1 (some .int) ∈ gw_tbl := List.mem_filter.mpr ⟨List.mem_of_getElem? (i := 967) (by decide +kernel), rfl⟩
theorem wd_968 : Cond.methodLink RL 158 yX6_on ∈ gw_tbl := List.mem_filter.mpr ⟨List.mem_of_getElem? (i := 968) (by decide +kernel), rfl⟩
theorem wd_969 : Cond.instanceMethod yX6_on ∈ gw_tbl := List.mem_filter.mpr ⟨List.mem_of_getElem? (i := 969) (by decide +kernel), rfl⟩
theorem wd_970 : Cond.selects RX6 yX6_on yX6_on ∈ gw_tbl := List.mem_filter.mpr ⟨List.mem_of_getElem? (i := 970) (by decide +kernel), rfl⟩
theorem wd_971 : Cond.code yX6_on cX6_on 1 (some .int) ∈ gw_tbl := List.mem_filter.mpr ⟨List.mem_of_getElem? (i := 971) (by decide +kernel), rfl⟩
theorem wd_972 : Cond.methodLink RL 27 yX6_miner ∈ gw_tbl := List.mem_filter.mpr ⟨List.mem_of_getElem? (i := 972) (by decide +kernel), rfl⟩
theorem wd_973 : Cond.instanceMethod yX6_miner ∈ gw_tbl := List.mem_filter.mpr ⟨List.mem_of_getElem? (i := 973) (by decide +kernel), rfl⟩
theorem wd_974 : Cond.selects RX6 yX6_miner yX6_miner ∈ gw_tbl := List.mem_filter.mpr ⟨List.mem_of_getElem? (i := 974) (by decide +kernel), rfl⟩
theorem wd_975 : Cond.code yX6_miner cX6_miner 3 (some .int) ∈ gw_tbl := List.mem_filter.mpr ⟨List.mem_of_getElem? (i := 975) (by decide +kernel), rfl⟩
theorem wd_976 : Cond.methodLink RL 31 yX6_pair ∈ gw_tbl := List.mem_filter.mpr ⟨List.mem_of_getElem? (i := 976) (by decide +kernel), rfl⟩
theorem wd_977 : Cond.instanceMethod yX6_pair ∈ gw_tbl := List.mem_filter.mpr ⟨List.mem_of_getElem? (i := 977) (by decide +kernel), rfl⟩
theorem wd_978 : Cond.selects RX6 yX6_pair yX6_pair ∈ gw_tbl := List.mem_filter.mpr ⟨List.mem_of_getElem? (i := 978) (by decide +kernel), rfl⟩
theorem wd_979 : Cond.code yX6_pair cX6_pair 3 (some .int) ∈ gw_tbl := List.mem_filter.mpr ⟨List.mem_of_getElem? (i := 979) (by decide +kernel), rfl⟩
theorem wd_980 : Cond.methodLink RL 35 yX6_beams ∈ gw_tbl := List.mem_filter.mpr ⟨List.mem_of_getElem? (i := 980) (by decide +kernel), rfl⟩
theorem wd_981 : Cond.instanceMethod yX6_beams ∈ gw_tbl := List.mem_filter.mpr ⟨List.mem_of_getElem? (i := 981) (by decide +kernel), rfl⟩
theorem wd_982 : Cond.selects RX6 yX6_beams yX6_beams ∈ gw_tbl := List.mem_filter.mpr ⟨List.mem_of_getElem? (i := 982) (by decide +kernel), rfl⟩
theorem wd_983 : Cond.code yX6_beams cX6_beams 2 (some .int) ∈ gw_tbl := List.mem_filter.mpr ⟨List.mem_of_getElem? (i := 983) (by decide +kernel), rfl⟩
theorem wd_984 : Cond.methodLink RL 39 yX6_props ∈ gw_tbl := List.mem_filter.mpr ⟨List.mem_of_getElem? (i := 984) (by decide +kernel), rfl⟩
theorem wd_985 : Cond.instanceMethod yX6_props ∈ gw_tbl := List.mem_filter.mpr ⟨List.mem_of_getElem? (i := 985) (by decide +kernel), rfl⟩
theorem wd_986 : Cond.selects RX6 yX6_props yX6_props ∈ gw_tbl := List.mem_filter.mpr ⟨List.mem_of_getElem? (i := 986) (by decide +kernel), rfl⟩
theorem wd_987 : Cond.code yX6_props cX6_props 5 (some .int) ∈ gw_tbl := List.mem_filter.mpr ⟨List.mem_of_getElem? (i := 987) (by decide +kernel), rfl⟩
theorem wd_988 : Cond.methodLink RL 43 yX6_stands ∈ gw_tbl := List.mem_filter.mpr ⟨List.mem_of_getElem? (i := 988) (by decide +kernel), rfl⟩
theorem wd_989 : Cond.instanceMethod yX6_stands ∈ gw_tbl := List.mem_filter.mpr ⟨List.mem_of_getElem? (i := 989) (by decide +kernel), rfl⟩
theorem wd_990 : Cond.selects RX6 yX6_stands yX6_stands ∈ gw_tbl := List.mem_filter.mpr ⟨List.mem_of_getElem? (i := 990) (by decide +kernel), rfl⟩
theorem wd_991 : Cond.code yX6_stands cX6_stands 4 (some .int) ∈ gw_tbl := List.mem_filter.mpr ⟨List.mem_of_getElem? (i := 991) (by decide +kernel), rfl⟩
theorem wd_992 : Cond.methodLink RL 47 yX6_adds ∈ gw_tbl := List.mem_filter.mpr ⟨List.mem_of_getElem? (i := 992) (by decide +kernel), rfl⟩
theorem wd_993 : Cond.instanceMethod yX6_adds ∈ gw_tbl := List.mem_filter.mpr ⟨List.mem_of_getElem? (i := 993) (by decide +kernel), rfl⟩
theorem wd_994 : Cond.selects RX6 yX6_adds yX6_adds ∈ gw_tbl := List.mem_filter.mpr ⟨List.mem_of_getElem? (i := 994) (by decide +kernel), rfl⟩
theorem wd_995 : Cond.code yX6_adds cX6_adds 4 (some .int) ∈ gw_tbl := List.mem_filter.mpr ⟨List.mem_of_getElem? (i := 995) (by decide +kernel), rfl⟩
theorem wd_996 : Cond.methodLink RL 51 yX6_swaps ∈ gw_tbl := List.mem_filter.mpr ⟨List.mem_of_getElem? (i := 996) (by decide +kernel), rfl⟩
theorem wd_997 : Cond.instanceMethod yX6_swaps ∈ gw_tbl := List.mem_filter.mpr ⟨List.mem_of_getElem? (i := 997) (by decide +kernel), rfl⟩
theorem wd_998 : Cond.selects RX6 yX6_swaps yX6_swaps ∈ gw_tbl := List.mem_filter.mpr ⟨List.mem_of_getElem? (i := 998) (by decide +kernel), rfl⟩
theorem wd_999 : Cond.code yX6_swaps cX6_swaps 3 (some .int) ∈ gw_tbl := List.mem_filter.mpr ⟨List.mem_of_getElem? (i := 999) (by decide +kernel), rfl⟩
theorem wd_1000 : Cond.methodLink RL 56 yX6_turn ∈ gw_tbl := List.mem_filter.mpr ⟨List.mem_of_getElem? (i := 1000) (by decide +kernel), rfl⟩
theorem wd_1001 : Cond.instanceMethod yX6_turn ∈ gw_tbl := List.mem_filter.mpr ⟨List.mem_of_getElem? (i := 1001) (by decide +kernel), rfl⟩
theorem wd_1002 : Cond.selects RX6 yX6_turn yX6_turn ∈ gw_tbl := List.mem_filter.mpr ⟨List.mem_of_getElem? (i := 1002) (by decide +kernel), rfl⟩
theorem wd_1003 : Cond.code yX6_turn cX6_turn 6 (some .int) ∈ gw_tbl := List.mem_filter.mpr ⟨List.mem_of_getElem? (i := 1003) (by decide +kernel), rfl⟩
theorem wd_1004 : Cond.methodLink RL 60 yX6_minutes ∈ gw_tbl := List.mem_filter.mpr ⟨List.mem_of_getElem? (i := 1004) (by decide +kernel), rfl⟩
theorem wd_1005 : Cond.instanceMethod yX6_minutes ∈ gw_tbl := List.mem_filter.mpr ⟨List.mem_of_getElem? (i := 1005) (by decide +kernel), rfl⟩
theorem wd_1006 : Cond.selects RX6 yX6_minutes yX6_minutes ∈ gw_tbl := List.mem_filter.mpr ⟨List.mem_of_getElem? (i := 1006) (by decide +kernel), rfl⟩
theorem wd_1007 : Cond.code yX6_minutes cX6_minutes 3 (some .int) ∈ gw_tbl := List.mem_filter.mpr ⟨List.mem_of_getElem? (i := 1007) (by decide +kernel), rfl⟩
theorem wd_1008 : Cond.methodLink RX6 204 yX6_facesMany ∈ gw_tbl := List.mem_filter.mpr ⟨List.mem_of_getElem? (i := 1008) (by decide +kernel), rfl⟩
theorem wd_1010 : Cond.instanceMethod yX6_facesMany ∈ gw_tbl := List.mem_filter.mpr ⟨List.mem_of_getElem? (i := 1010) (by decide +kernel), rfl⟩
theorem wd_1011 : Cond.code yX6_facesMany cX6_facesMany 3 (some .int) ∈ gw_tbl := List.mem_filter.mpr ⟨List.mem_of_getElem? (i := 1011) (by decide +kernel), rfl⟩
theorem wd_1012 : Cond.methodLink RL 64 yX6_pairThen ∈ gw_tbl := List.mem_filter.mpr ⟨List.mem_of_getElem? (i := 1012) (by decide +kernel), rfl⟩
theorem wd_1013 : Cond.instanceMethod yX6_pairThen ∈ gw_tbl := List.mem_filter.mpr ⟨List.mem_of_getElem? (i := 1013) (by decide +kernel), rfl⟩
theorem wd_1014 : Cond.selects RX6 yX6_pairThen yX6_pairThen ∈ gw_tbl := List.mem_filter.mpr ⟨List.mem_of_getElem? (i := 1014) (by decide +kernel), rfl⟩
theorem wd_1015 : Cond.code yX6_pairThen cX6_pairThen 6 (some .int) ∈ gw_tbl := List.mem_filter.mpr ⟨List.mem_of_getElem? (i := 1015) (by decide +kernel), rfl⟩
theorem wd_1016 : Cond.methodLink RX6 207 yX6_thinks ∈ gw_tbl := List.mem_filter.mpr ⟨List.mem_of_getElem? (i := 1016) (by decide +kernel), rfl⟩
theorem wd_1018 : Cond.instanceMethod yX6_thinks ∈ gw_tbl := List.mem_filter.mpr ⟨List.mem_of_getElem? (i := 1018) (by decide +kernel), rfl⟩
theorem wd_1019 : Cond.code yX6_thinks cX6_thinks 1 none ∈ gw_tbl := List.mem_filter.mpr ⟨List.mem_of_getElem? (i := 1019) (by decide +kernel), rfl⟩
theorem wd_1020 : Cond.methodLink RX6 210 yX6_forgets ∈ gw_tbl := List.mem_filter.mpr ⟨List.mem_of_getElem? (i := 1020) (by decide +kernel), rfl⟩
theorem wd_1022 : Cond.instanceMethod yX6_forgets ∈ gw_tbl := List.mem_filter.mpr ⟨List.mem_of_getElem? (i := 1022) (by decide +kernel), rfl⟩
theorem wd_1023 : Cond.code yX6_forgets cX6_forgets 1 none ∈ gw_tbl := List.mem_filter.mpr ⟨List.mem_of_getElem? (i := 1023) (by decide +kernel), rfl⟩
theorem wd_1024 : Cond.methodLink RL 68 yX6_bruisesThen ∈ gw_tbl := List.mem_filter.mpr ⟨List.mem_of_getElem? (i := 1024) (by decide +kernel), rfl⟩
theorem wd_1025 : Cond.instanceMethod yX6_bruisesThen ∈ gw_tbl := List.mem_filter.mpr ⟨List.mem_of_getElem? (i := 1025) (by decide +kernel), rfl⟩
theorem wd_1026 : Cond.selects RX6 yX6_bruisesThen yX6_bruisesThen ∈ gw_tbl := List.mem_filter.mpr ⟨List.mem_of_getElem? (i := 1026) (by decide +kernel), rfl⟩
theorem wd_1027 : Cond.code yX6_bruisesThen cX6_bruisesThen 5 (some .int) ∈ gw_tbl := List.mem_filter.mpr ⟨List.mem_of_getElem? (i := 1027) (by decide +kernel), rfl⟩
theorem wd_1028 : Cond.methodLink RX6 216 yX6_allBruisesIn ∈ gw_tbl := List.mem_filter.mpr ⟨List.mem_of_getElem? (i := 1028) (by decide +kernel), rfl⟩
theorem wd_1030 : Cond.instanceMethod yX6_allBruisesIn ∈ gw_tbl := List.mem_filter.mpr ⟨List.mem_of_getElem? (i := 1030) (by decide +kernel), rfl⟩
theorem wd_1031 : Cond.code yX6_allBruisesIn cX6_allBruisesIn 3 (some .int) ∈ gw_tbl := List.mem_filter.mpr ⟨List.mem_of_getElem? (i := 1031) (by decide +kernel), rfl⟩
theorem wd_1032 : Cond.methodLink RX6 213 yX6_allBruises ∈ gw_tbl := List.mem_filter.mpr ⟨List.mem_of_getElem? (i := 1032) (by decide +kernel), rfl⟩
theorem wd_1034 : Cond.instanceMethod yX6_allBruises ∈ gw_tbl := List.mem_filter.mpr ⟨List.mem_of_getElem? (i := 1034) (by decide +kernel), rfl⟩
theorem wd_1035 : Cond.code yX6_allBruises cX6_allBruises 3 (some .int) ∈ gw_tbl := List.mem_filter.mpr ⟨List.mem_of_getElem? (i := 1035) (by decide +kernel), rfl⟩
theorem wd_1036 : Cond.methodLink RL 72 yX6_faced ∈ gw_tbl := List.mem_filter.mpr ⟨List.mem_of_getElem? (i := 1036) (by decide +kernel), rfl⟩
theorem wd_1037 : Cond.instanceMethod yX6_faced ∈ gw_tbl := List.mem_filter.mpr ⟨List.mem_of_getElem? (i := 1037) (by decide +kernel), rfl⟩
theorem wd_1038 : Cond.selects RX6 yX6_faced yX6_faced ∈ gw_tbl := List.mem_filter.mpr ⟨List.mem_of_getElem? (i := 1038) (by decide +kernel), rfl⟩
theorem wd_1039 : Cond.code yX6_faced cX6_faced 2 (some .int) ∈ gw_tbl := List.mem_filter.mpr ⟨List.mem_of_getElem? (i := 1039) (by decide +kernel), rfl⟩
theorem wd_1040 : Cond.methodLink RX6 222 yX6_firstFaced ∈ gw_tbl := List.mem_filter.mpr ⟨List.mem_of_getElem? (i := 1040) (by decide +kernel), rfl⟩
theorem wd_1042 : Cond.instanceMethod yX6_firstFaced ∈ gw_tbl := List.mem_filter.mpr ⟨List.mem_of_getElem? (i := 1042) (by decide +kernel), rfl⟩
theorem wd_1043 : Cond.code yX6_firstFaced cX6_firstFaced 5 (some .int) ∈ gw_tbl := List.mem_filter.mpr ⟨List.mem_of_getElem? (i := 1043) (by decide +kernel), rfl⟩
theorem wd_1044 : Cond.methodLink RX6 219 yX6_facedWhen ∈ gw_tbl := List.mem_filter.mpr ⟨List.mem_of_getElem? (i := 1044) (by decide +kernel), rfl⟩
theorem wd_1046 : Cond.instanceMethod yX6_facedWhen ∈ gw_tbl := List.mem_filter.mpr ⟨List.mem_of_getElem? (i := 1046) (by decide +kernel), rfl⟩
theorem wd_1047 : Cond.code yX6_facedWhen cX6_facedWhen 4 (some .int) ∈ gw_tbl := List.mem_filter.mpr ⟨List.mem_of_getElem? (i := 1047) (by decide +kernel), rfl⟩
theorem wd_1048 : Cond.methodLink RX6 225 yX6_allFaced ∈ gw_tbl := List.mem_filter.mpr ⟨List.mem_of_getElem? (i := 1048) (by decide +kernel), rfl⟩
theorem wd_1050 : Cond.instanceMethod yX6_allFaced ∈ gw_tbl := List.mem_filter.mpr ⟨List.mem_of_getElem? (i := 1050) (by decide +kernel), rfl⟩
theorem wd_1051 : Cond.code yX6_allFaced cX6_allFaced 4 (some .int) ∈ gw_tbl := List.mem_filter.mpr ⟨List.mem_of_getElem? (i := 1051) (by decide +kernel), rfl⟩
theorem wd_1052 : Cond.methodLink RL 76 yX6_done ∈ gw_tbl := List.mem_filter.mpr ⟨List.mem_of_getElem? (i := 1052) (by decide +kernel), rfl⟩
theorem wd_1053 : Cond.instanceMethod yX6_done ∈ gw_tbl := List.mem_filter.mpr ⟨List.mem_of_getElem? (i := 1053) (by decide +kernel), rfl⟩
theorem wd_1054 : Cond.selects RX6 yX6_done yX6_done ∈ gw_tbl := List.mem_filter.mpr ⟨List.mem_of_getElem? (i := 1054) (by decide +kernel), rfl⟩
theorem wd_1055 : Cond.code yX6_done cX6_done 4 (some .int) ∈ gw_tbl := List.mem_filter.mpr ⟨List.mem_of_getElem? (i := 1055) (by decide +kernel), rfl⟩
theorem wd_1056 : Cond.methodLink RL 80 yX6_hurt ∈ gw_tbl := List.mem_filter.mpr ⟨List.mem_of_getElem? (i := 1056) (by decide +kernel), rfl⟩
theorem wd_1057 : Cond.instanceMethod yX6_hurt ∈ gw_tbl := List.mem_filter.mpr ⟨List.mem_of_getElem? (i := 1057) (by decide +kernel), rfl⟩
theorem wd_1058 : Cond.selects RX6 yX6_hurt yX6_hurt ∈ gw_tbl := List.mem_filter.mpr ⟨List.mem_of_getElem? (i := 1058) (by decide +kernel), rfl⟩
theorem wd_1059 : Cond.code yX6_hurt cX6_hurt 6 (some .int) ∈ gw_tbl := List.mem_filter.mpr ⟨List.mem_of_getElem? (i := 1059) (by decide +kernel), rfl⟩
theorem wd_1060 : Cond.methodLink RL 84 yX6_begins ∈ gw_tbl := List.mem_filter.mpr ⟨List.mem_of_getElem? (i := 1060) (by decide +kernel), rfl⟩
theorem wd_1061 : Cond.instanceMethod yX6_begins ∈ gw_tbl := List.mem_filter.mpr ⟨List.mem_of_getElem? (i := 1061) (by decide +kernel), rfl⟩
theorem wd_1062 : Cond.selects RX6 yX6_begins yX6_begins ∈ gw_tbl := List.mem_filter.mpr ⟨List.mem_of_getElem? (i := 1062) (by decide +kernel), rfl⟩
theorem wd_1063 : Cond.code yX6_begins cX6_begins 6 (some .int) ∈ gw_tbl := List.mem_filter.mpr ⟨List.mem_of_getElem? (i := 1063) (by decide +kernel), rfl⟩
theorem wd_1064 : Cond.methodLink RX6 228 yX6_saidWhen ∈ gw_tbl := List.mem_filter.mpr ⟨List.mem_of_getElem? (i := 1064) (by decide +kernel), rfl⟩
theorem wd_1066 : Cond.instanceMethod yX6_saidWhen ∈ gw_tbl := List.mem_filter.mpr ⟨List.mem_of_getElem? (i := 1066) (by decide +kernel), rfl⟩
theorem wd_1067 : Cond.code yX6_saidWhen cX6_saidWhen 5 (some .int) ∈ gw_tbl := List.mem_filter.mpr ⟨List.mem_of_getElem? (i := 1067) (by decide +kernel), rfl⟩
theorem wd_1068 : Cond.methodLink RL 88 yX6_clears ∈ gw_tbl := List.mem_filter.mpr ⟨List.mem_of_getElem? (i := 1068) (by decide +kernel), rfl⟩
theorem wd_1069 : Cond.instanceMethod yX6_clears ∈ gw_tbl := List.mem_filter.mpr ⟨List.mem_of_getElem? (i := 1069) (by decide +kernel), rfl⟩
theorem wd_1070 : Cond.selects RX6 yX6_clears yX6_clears ∈ gw_tbl := List.mem_filter.mpr ⟨List.mem_of_getElem? (i := 1070) (by decide +kernel), rfl⟩
theorem wd_1071 : Cond.code yX6_clears cX6_clears 8 (some .int) ∈ gw_tbl := List.mem_filter.mpr ⟨List.mem_of_getElem? (i := 1071) (by decide +kernel), rfl⟩
theorem wd_1072 : Cond.methodLink RL 92 yX6_change ∈ gw_tbl := List.mem_filter.mpr ⟨List.mem_of_getElem? (i := 1072) (by decide +kernel), rfl⟩
theorem wd_1073 : Cond.instanceMethod yX6_change ∈ gw_tbl := List.mem_filter.mpr ⟨List.mem_of_getElem? (i := 1073) (by decide +kernel), rfl⟩
theorem wd_1074 : Cond.selects RX6 yX6_change yX6_change ∈ gw_tbl := List.mem_filter.mpr ⟨List.mem_of_getElem? (i := 1074) (by decide +kernel), rfl⟩
theorem wd_1075 : Cond.code yX6_change cX6_change 6 (some .int) ∈ gw_tbl := List.mem_filter.mpr ⟨List.mem_of_getElem? (i := 1075) (by decide +kernel), rfl⟩
theorem wd_1076 : Cond.methodLink RL 96 yX6_bestKind ∈ gw_tbl := List.mem_filter.mpr ⟨List.mem_of_getElem? (i := 1076) (by decide +kernel), rfl⟩
theorem wd_1077 : Cond.instanceMethod yX6_bestKind ∈ gw_tbl := List.mem_filter.mpr ⟨List.mem_of_getElem? (i := 1077) (by decide +kernel), rfl⟩
theorem wd_1078 : Cond.selects RX6 yX6_bestKind yX6_bestKind ∈ gw_tbl := List.mem_filter.mpr ⟨List.mem_of_getElem? (i := 1078) (by decide +kernel), rfl⟩
theorem wd_1079 : Cond.code yX6_bestKind cX6_bestKind 9 (some .int) ∈ gw_tbl := List.mem_filter.mpr ⟨List.mem_of_getElem? (i := 1079) (by decide +kernel), rfl⟩
theorem wd_1080 : Cond.methodLink RL 100 yX6_bestCell ∈ gw_tbl := List.mem_filter.mpr ⟨List.mem_of_getElem? (i := 1080) (by decide +kernel), rfl⟩
theorem wd_1081 : Cond.instanceMethod yX6_bestCell ∈ gw_tbl := List.mem_filter.mpr ⟨List.mem_of_getElem? (i := 1081) (by decide +kernel), rfl⟩
theorem wd_1082 : Cond.selects RX6 yX6_bestCell yX6_bestCell ∈ gw_tbl := List.mem_filter.mpr ⟨List.mem_of_getElem? (i := 1082) (by decide +kernel), rfl⟩
theorem wd_1083 : Cond.code yX6_bestCell cX6_bestCell 8 (some .int) ∈ gw_tbl := List.mem_filter.mpr ⟨List.mem_of_getElem? (i := 1083) (by decide +kernel), rfl⟩
theorem wd_1084 : Cond.methodLink RX6 231 yX6_beamsFrom ∈ gw_tbl := List.mem_filter.mpr ⟨List.mem_of_getElem? (i := 1084) (by decide +kernel), rfl⟩
theorem wd_1086 : Cond.instanceMethod yX6_beamsFrom ∈ gw_tbl := List.mem_filter.mpr ⟨List.mem_of_getElem? (i := 1086) (by decide +kernel), rfl⟩
theorem wd_1087 : Cond.code yX6_beamsFrom cX6_beamsFrom 6 (some .int) ∈ gw_tbl := List.mem_filter.mpr ⟨List.mem_of_getElem? (i := 1087) (by decide +kernel), rfl⟩
theorem wd_1088 : Cond.methodLink RL 104 yX6_hum ∈ gw_tbl := List.mem_filter.mpr ⟨List.mem_of_getElem? (i := 1088) (by decide +kernel), rfl⟩
theorem wd_1089 : Cond.instanceMethod yX6_hum ∈ gw_tbl := List.mem_filter.mpr ⟨List.mem_of_getElem? (i := 1089) (by decide +kernel), rfl⟩
theorem wd_1090 : Cond.selects RX6 yX6_hum yX6_hum ∈ gw_tbl := List.mem_filter.mpr ⟨List.mem_of_getElem? (i := 1090) (by decide +kernel), rfl⟩
theorem wd_1091 : Cond.code yX6_hum cX6_hum 5 (some .int) ∈ gw_tbl := List.mem_filter.mpr ⟨List.mem_of_getElem? (i := 1091) (by decide +kernel), rfl⟩
theorem wd_1092 : Cond.methodLink RX6 237 yX6_walksMinute ∈ gw_tbl := List.mem_filter.mpr ⟨List.mem_of_getElem? (i := 1092) (by decide +kernel), rfl⟩
theorem wd_1094 : Cond.instanceMethod yX6_walksMinute ∈ gw_tbl := List.mem_filter.mpr ⟨List.mem_of_getElem? (i := 1094) (by decide +kernel), rfl⟩
theorem wd_1095 : Cond.code yX6_walksMinute cX6_walksMinute 3 none ∈ gw_tbl := List.mem_filter.mpr ⟨List.mem_of_getElem? (i := 1095) (by decide +kernel), rfl⟩
theorem wd_1096 : Cond.methodLink RX6 234 yX6_walksOne ∈ gw_tbl := List.mem_filter.mpr ⟨List.mem_of_getElem? (i := 1096) (by decide +kernel), rfl⟩
theorem wd_1098 : Cond.instanceMethod yX6_walksOne ∈ gw_tbl := List.mem_filter.mpr ⟨List.mem_of_getElem? (i := 1098) (by decide +kernel), rfl⟩
theorem wd_1099 : Cond.code yX6_walksOne cX6_walksOne 5 none ∈ gw_tbl := List.mem_filter.mpr ⟨List.mem_of_getElem? (i := 1099) (by decide +kernel), rfl⟩
theorem wd_1100 : Cond.methodLink RL 108 yX6_first ∈ gw_tbl := List.mem_filter.mpr ⟨List.mem_of_getElem? (i := 1100) (by decide +kernel), rfl⟩
theorem wd_1101 : Cond.instanceMethod yX6_first ∈ gw_tbl := List.mem_filter.mpr ⟨List.mem_of_getElem? (i := 1101) (by decide +kernel), rfl⟩
theorem wd_1102 : Cond.selects RX6 yX6_first yX6_first ∈ gw_tbl := List.mem_filter.mpr ⟨List.mem_of_getElem? (i := 1102) (by decide +kernel), rfl⟩
theorem wd_1103 : Cond.code yX6_first cX6_first 2 (some .int) ∈ gw_tbl := List.mem_filter.mpr ⟨List.mem_of_getElem? (i := 1103) (by decide +kernel), rfl⟩
theorem wd_1104 : Cond.methodLink RX6 240 yX6_farthest ∈ gw_tbl := List.mem_filter.mpr ⟨List.mem_of_getElem? (i := 1104) (by decide +kernel), rfl⟩
theorem wd_1106 : Cond.instanceMethod yX6_farthest ∈ gw_tbl := List.mem_filter.mpr ⟨List.mem_of_getElem? (i := 1106) (by decide +kernel), rfl⟩
theorem wd_1107 : Cond.code yX6_farthest cX6_farthest 3 (some .int) ∈ gw_tbl := List.mem_filter.mpr ⟨List.mem_of_getElem? (i := 1107) (by decide +kernel), rfl⟩
theorem wd_1108 : Cond.methodLink RX6 243 yX6_leastFar ∈ gw_tbl := List.mem_filter.mpr ⟨List.mem_of_getElem? (i := 1108) (by decide +kernel), rfl⟩
theorem wd_1110 : Cond.instanceMethod yX6_leastFar ∈ gw_tbl := List.mem_filter.mpr ⟨List.mem_of_getElem? (i := 1110) (by decide +kernel), rfl⟩
theorem wd_1111 : Cond.code yX6_leastFar cX6_leastFar 3 (some .int) ∈ gw_tbl := List.mem_filter.mpr ⟨List.mem_of_getElem? (i := 1111) (by decide +kernel), rfl⟩
theorem wd_1112 : Cond.methodLink RX6 246 yX6_mostHurt ∈ gw_tbl := List.mem_filter.mpr ⟨List.mem_of_getElem? (i := 1112) (by decide +kernel), rfl⟩
theorem wd_1114 : Cond.instanceMethod yX6_mostHurt ∈ gw_tbl := List.mem_filter.mpr ⟨List.mem_of_getElem? (i := 1114) (by decide +kernel), rfl⟩
theorem wd_1115 : Cond.code yX6_mostHurt cX6_mostHurt 3 (some .int) ∈ gw_tbl := List.mem_filter.mpr ⟨List.mem_of_getElem? (i := 1115) (by decide +kernel), rfl⟩
theorem wd_1116 : Cond.methodLink RX6 249 yX6_together ∈ gw_tbl := List.mem_filter.mpr ⟨List.mem_of_getElem? (i := 1116) (by decide +kernel), rfl⟩
theorem wd_1118 : Cond.instanceMethod yX6_together ∈ gw_tbl := List.mem_filter.mpr ⟨List.mem_of_getElem? (i := 1118) (by decide +kernel), rfl⟩
theorem wd_1119 : Cond.code yX6_together cX6_together 4 (some .int) ∈ gw_tbl := List.mem_filter.mpr ⟨List.mem_of_getElem? (i := 1119) (by decide +kernel), rfl⟩
theorem wd_1120 : Cond.methodLink RL 112 yX6_timber ∈ gw_tbl := List.mem_filter.mpr ⟨List.mem_of_getElem? (i := 1120) (by decide +kernel), rfl⟩
theorem wd_1121 : Cond.instanceMethod yX6_timber ∈ gw_tbl := List.mem_filter.mpr ⟨List.mem_of_getElem? (i := 1121) (by decide +kernel), rfl⟩
theorem wd_1122 : Cond.selects RX6 yX6_timber yX6_timber ∈ gw_tbl := List.mem_filter.mpr ⟨List.mem_of_getElem? (i := 1122) (by decide +kernel), rfl⟩
theorem wd_1123 : Cond.code yX6_timber cX6_timber 5 (some .int) ∈ gw_tbl := List.mem_filter.mpr ⟨List.mem_of_getElem? (i := 1123) (by decide +kernel), rfl⟩
theorem wd_1124 : Cond.methodLink RX6 252 yX6_allBeams ∈ gw_tbl := List.mem_filter.mpr ⟨List.mem_of_getElem? (i := 1124) (by decide +kernel), rfl⟩
theorem wd_1126 : Cond.instanceMethod yX6_allBeams ∈ gw_tbl := List.mem_filter.mpr ⟨List.mem_of_getElem? (i := 1126) (by decide +kernel), rfl⟩
theorem wd_1127 : Cond.code yX6_allBeams cX6_allBeams 3 (some .int) ∈ gw_tbl := List.mem_filter.mpr ⟨List.mem_of_getElem? (i := 1127) (by decide +kernel), rfl⟩
theorem wd_1128 : Cond.methodLink RL 116 yX6_eager ∈ gw_tbl := List.mem_filter.mpr ⟨List.mem_of_getElem? (i := 1128) (by decide +kernel), rfl⟩
theorem wd_1129 : Cond.instanceMethod yX6_eager ∈ gw_tbl := List.mem_filter.mpr ⟨List.mem_of_getElem? (i := 1129) (by decide +kernel), rfl⟩
theorem wd_1130 : Cond.selects RX6 yX6_eager yX6_eager ∈ gw_tbl := List.mem_filter.mpr ⟨List.mem_of_getElem? (i := 1130) (by decide +kernel), rfl⟩
theorem wd_1131 : Cond.code yX6_eager cX6_eager 3 (some .int) ∈ gw_tbl := List.mem_filter.mpr ⟨List.mem_of_getElem? (i := 1131) (by decide +kernel), rfl⟩
theorem wd_1132 : Cond.methodLink RL 120 yX6_two ∈ gw_tbl := List.mem_filter.mpr ⟨List.mem_of_getElem? (i := 1132) (by decide +kernel), rfl⟩
theorem wd_1133 : Cond.instanceMethod yX6_two ∈ gw_tbl := List.mem_filter.mpr ⟨List.mem_of_getElem? (i := 1133) (by decide +kernel), rfl⟩
theorem wd_1134 : Cond.selects RX6 yX6_two yX6_two ∈ gw_tbl := List.mem_filter.mpr ⟨List.mem_of_getElem? (i := 1134) (by decide +kernel), rfl⟩
theorem wd_1135 : Cond.code yX6_two cX6_two 5 (some .int) ∈ gw_tbl := List.mem_filter.mpr ⟨List.mem_of_getElem? (i := 1135) (by decide +kernel), rfl⟩
theorem wd_1136 : Cond.methodLink RX6 255 yX6_findCosts ∈ gw_tbl := List.mem_filter.mpr ⟨List.mem_of_getElem? (i := 1136) (by decide +kernel), rfl⟩
theorem wd_1138 : Cond.instanceMethod yX6_findCosts ∈ gw_tbl := List.mem_filter.mpr ⟨List.mem_of_getElem? (i := 1138) (by decide +kernel), rfl⟩
theorem wd_1139 : Cond.code yX6_findCosts cX6_findCosts 5 none ∈ gw_tbl := List.mem_filter.mpr ⟨List.mem_of_getElem? (i := 1139) (by decide +kernel), rfl⟩
theorem wd_1140 : Cond.methodLink RL 125 yX6_cough ∈ gw_tbl := List.mem_filter.mpr ⟨List.mem_of_getElem? (i := 1140) (by decide +kernel), rfl⟩
theorem wd_1141 : Cond.instanceMethod yX6_cough ∈ gw_tbl := List.mem_filter.mpr ⟨List.mem_of_getElem? (i := 1141) (by decide +kernel), rfl⟩
theorem wd_1142 : Cond.selects RX6 yX6_cough yX6_cough ∈ gw_tbl := List.mem_filter.mpr ⟨List.mem_of_getElem? (i := 1142) (by decide +kernel), rfl⟩
theorem wd_1143 : Cond.code yX6_cough cX6_cough 15 (some .long) ∈ gw_tbl := List.mem_filter.mpr ⟨List.mem_of_getElem? (i := 1143) (by decide +kernel), rfl⟩
theorem wd_1144 : Cond.methodLink RX6 262 yX6_lowestOf ∈ gw_tbl := List.mem_filter.mpr ⟨List.mem_of_getElem? (i := 1144) (by decide +kernel), rfl⟩
theorem wd_1146 : Cond.instanceMethod yX6_lowestOf ∈ gw_tbl := List.mem_filter.mpr ⟨List.mem_of_getElem? (i := 1146) (by decide +kernel), rfl⟩
theorem wd_1147 : Cond.code yX6_lowestOf cX6_lowestOf 2 (some .long) ∈ gw_tbl := List.mem_filter.mpr ⟨List.mem_of_getElem? (i := 1147) (by decide +kernel), rfl⟩
theorem wd_1148 : Cond.constantLong RX6 62 (zL 4000000000000000000) ∈ gw_tbl := List.mem_filter.mpr ⟨List.mem_of_getElem? (i := 1148) (by decide +kernel), rfl⟩
theorem wd_1149 : Cond.methodLink RX6 266 yX6_partOf ∈ gw_tbl := List.mem_filter.mpr ⟨List.mem_of_getElem? (i := 1149) (by decide +kernel), rfl⟩
theorem wd_1150 : Cond.static yX6_partOf ∈ gw_tbl := List.mem_filter.mpr ⟨List.mem_of_getElem? (i := 1150) (by decide +kernel), rfl⟩
theorem wd_1151 : Cond.code yX6_partOf cX6_partOf 5 (some .long) ∈ gw_tbl := List.mem_filter.mpr ⟨List.mem_of_getElem? (i := 1151) (by decide +kernel), rfl⟩
theorem wd_1152 : Cond.methodLink RX6 258 yX6_divisor ∈ gw_tbl := List.mem_filter.mpr ⟨List.mem_of_getElem? (i := 1152) (by decide +kernel), rfl⟩
theorem wd_1153 : Cond.static yX6_divisor ∈ gw_tbl := List.mem_filter.mpr ⟨List.mem_of_getElem? (i := 1153) (by decide +kernel), rfl⟩
theorem wd_1154 : Cond.code yX6_divisor cX6_divisor 10 (some .long) ∈ gw_tbl := List.mem_filter.mpr ⟨List.mem_of_getElem? (i := 1154) (by decide +kernel), rfl⟩
theorem wd_1155 : Cond.methodLink RL 130 yX6_mean ∈ gw_tbl := List.mem_filter.mpr ⟨List.mem_of_getElem? (i := 1155) (by decide +kernel), rfl⟩
theorem wd_1156 : Cond.instanceMethod yX6_mean ∈ gw_tbl := List.mem_filter.mpr ⟨List.mem_of_getElem? (i := 1156) (by decide +kernel), rfl⟩
theorem wd_1157 : Cond.selects RX6 yX6_mean yX6_mean ∈ gw_tbl := List.mem_filter.mpr ⟨List.mem_of_getElem? (i := 1157) (by decide +kernel), rfl⟩
theorem wd_1158 : Cond.code yX6_mean cX6_mean 2 (some .long) ∈ gw_tbl := List.mem_filter.mpr ⟨List.mem_of_getElem? (i := 1158) (by decide +kernel), rfl⟩
theorem wd_1159 : Cond.methodLink RL 134 yX6_whatIs ∈ gw_tbl := List.mem_filter.mpr ⟨List.mem_of_getElem? (i := 1159) (by decide +kernel), rfl⟩
theorem wd_1160 : Cond.instanceMethod yX6_whatIs ∈ gw_tbl := List.mem_filter.mpr ⟨List.mem_of_getElem? (i := 1160) (by decide +kernel), rfl⟩
theorem wd_1161 : Cond.selects RX6 yX6_whatIs yX6_whatIs ∈ gw_tbl := List.mem_filter.mpr ⟨List.mem_of_getElem? (i := 1161) (by decide +kernel), rfl⟩
theorem wd_1162 : Cond.code yX6_whatIs cX6_whatIs 4 (some .int) ∈ gw_tbl := List.mem_filter.mpr ⟨List.mem_of_getElem? (i := 1162) (by decide +kernel), rfl⟩
theorem wd_1163 : Cond.methodLink RX6 276 yX6_bitsFor ∈ gw_tbl := List.mem_filter.mpr ⟨List.mem_of_getElem? (i := 1163) (by decide +kernel), rfl⟩
theorem wd_1165 : Cond.instanceMethod yX6_bitsFor ∈ gw_tbl := List.mem_filter.mpr ⟨List.mem_of_getElem? (i := 1165) (by decide +kernel), rfl⟩
theorem wd_1166 : Cond.code yX6_bitsFor cX6_bitsFor 7 (some .int) ∈ gw_tbl := List.mem_filter.mpr ⟨List.mem_of_getElem? (i := 1166) (by decide +kernel), rfl⟩
theorem wd_1167 : Cond.methodLink RX6 273 yX6_isSo ∈ gw_tbl := List.mem_filter.mpr ⟨List.mem_of_getElem? (i := 1167) (by decide +kernel), rfl⟩
theorem wd_1169 : Cond.instanceMethod yX6_isSo ∈ gw_tbl := List.mem_filter.mpr ⟨List.mem_of_getElem? (i := 1169) (by decide +kernel), rfl⟩
theorem wd_1170 : Cond.code yX6_isSo cX6_isSo 4 (some .boolean) ∈ gw_tbl := List.mem_filter.mpr ⟨List.mem_of_getElem? (i := 1170) (by decide +kernel), rfl⟩
theorem wd_1171 : Cond.methodLink RL 138 yX6_row ∈ gw_tbl := List.mem_filter.mpr ⟨List.mem_of_getElem? (i := 1171) (by decide +kernel), rfl⟩
theorem wd_1172 : Cond.instanceMethod yX6_row ∈ gw_tbl := List.mem_filter.mpr ⟨List.mem_of_getElem? (i := 1172) (by decide +kernel), rfl⟩
theorem wd_1173 : Cond.selects RX6 yX6_row yX6_row ∈ gw_tbl := List.mem_filter.mpr ⟨List.mem_of_getElem? (i := 1173) (by decide +kernel), rfl⟩
theorem wd_1174 : Cond.code yX6_row cX6_row 3 (some .int) ∈ gw_tbl := List.mem_filter.mpr ⟨List.mem_of_getElem? (i := 1174) (by decide +kernel), rfl⟩
theorem wd_1175 : Cond.methodLink RL 142 yX6_judge ∈ gw_tbl := List.mem_filter.mpr ⟨List.mem_of_getElem? (i := 1175) (by decide +kernel), rfl⟩
theorem wd_1176 : Cond.instanceMethod yX6_judge ∈ gw_tbl := List.mem_filter.mpr ⟨List.mem_of_getElem? (i := 1176) (by decide +kernel), rfl⟩
theorem wd_1177 : Cond.selects RX6 yX6_judge yX6_judge ∈ gw_tbl := List.mem_filter.mpr ⟨List.mem_of_getElem? (i := 1177) (by decide +kernel), rfl⟩
theorem wd_1178 : Cond.code yX6_judge cX6_judge 3 (some .int) ∈ gw_tbl := List.mem_filter.mpr ⟨List.mem_of_getElem? (i := 1178) (by decide +kernel), rfl⟩
theorem wd_1179 : Cond.methodLink RL 146 yX6_clear ∈ gw_tbl := List.mem_filter.mpr ⟨List.mem_of_getElem? (i := 1179) (by decide +kernel), rfl⟩
theorem wd_1180 : Cond.instanceMethod yX6_clear ∈ gw_tbl := List.mem_filter.mpr ⟨List.mem_of_getElem? (i := 1180) (by decide +kernel), rfl⟩
theorem wd_1181 : Cond.selects RX6 yX6_clear yX6_clear ∈ gw_tbl := List.mem_filter.mpr ⟨List.mem_of_getElem? (i := 1181) (by decide +kernel), rfl⟩
theorem wd_1182 : Cond.code yX6_clear cX6_clear 2 (some .int) ∈ gw_tbl := List.mem_filter.mpr ⟨List.mem_of_getElem? (i := 1182) (by decide +kernel), rfl⟩
theorem wd_1183 : Cond.methodLink RL 150 yX6_lots ∈ gw_tbl := List.mem_filter.mpr ⟨List.mem_of_getElem? (i := 1183) (by decide +kernel), rfl⟩
theorem wd_1184 : Cond.instanceMethod yX6_lots ∈ gw_tbl := List.mem_filter.mpr ⟨List.mem_of_getElem? (i := 1184) (by decide +kernel), rfl⟩
theorem wd_1185 : Cond.selects RX6 yX6_lots yX6_lots ∈ gw_tbl := List.mem_filter.mpr ⟨List.mem_of_getElem? (i := 1185) (by decide +kernel), rfl⟩
theorem wd_1186 : Cond.code yX6_lots cX6_lots 9 (some .int) ∈ gw_tbl := List.mem_filter.mpr ⟨List.mem_of_getElem? (i := 1186) (by decide +kernel), rfl⟩
theorem wd_1187 : Cond.methodLink RX6 286 yX6_draw ∈ gw_tbl := List.mem_filter.mpr ⟨List.mem_of_getElem? (i := 1187) (by decide +kernel), rfl⟩
theorem wd_1189 : Cond.instanceMethod yX6_draw ∈ gw_tbl := List.mem_filter.mpr ⟨List.mem_of_getElem? (i := 1189) (by decide +kernel), rfl⟩
theorem wd_1190 : Cond.code yX6_draw cX6_draw 2 (some .int) ∈ gw_tbl := List.mem_filter.mpr ⟨List.mem_of_getElem? (i := 1190) (by decide +kernel), rfl⟩
theorem wd_1191 : Cond.constant RX6 283 (zI 1664525) ∈ gw_tbl := List.mem_filter.mpr ⟨List.mem_of_getElem? (i := 1191) (by decide +kernel), rfl⟩
theorem wd_1192 : Cond.constant RX6 284 (zI 1013904223) ∈ gw_tbl := List.mem_filter.mpr ⟨List.mem_of_getElem? (i := 1192) (by decide +kernel), rfl⟩
theorem wd_1193 : Cond.constant RX6 285 (zI 2147483647) ∈ gw_tbl := List.mem_filter.mpr ⟨List.mem_of_getElem? (i := 1193) (by decide +kernel), rfl⟩
theorem wd_1194 : Cond.methodLink RL 162 yX6_count ∈ gw_tbl := List.mem_filter.mpr ⟨List.mem_of_getElem? (i := 1194) (by decide +kernel), rfl⟩
theorem wd_1195 : Cond.instanceMethod yX6_count ∈ gw_tbl := List.mem_filter.mpr ⟨List.mem_of_getElem? (i := 1195) (by decide +kernel), rfl⟩
theorem wd_1196 : Cond.selects RX6 yX6_count yX6_count ∈ gw_tbl := List.mem_filter.mpr ⟨List.mem_of_getElem? (i := 1196) (by decide +kernel), rfl⟩
theorem wd_1197 : Cond.code yX6_count cX6_count 4 (some .int) ∈ gw_tbl := List.mem_filter.mpr ⟨List.mem_of_getElem? (i := 1197) (by decide +kernel), rfl⟩
theorem wd_1198 : Cond.methodLink RX6 289 yX6_faces ∈ gw_tbl := List.mem_filter.mpr ⟨List.mem_of_getElem? (i := 1198) (by decide +kernel), rfl⟩
theorem wd_1200 : Cond.instanceMethod yX6_faces ∈ gw_tbl := List.mem_filter.mpr ⟨List.mem_of_getElem? (i := 1200) (by decide +kernel), rfl⟩
theorem wd_1201 : Cond.code yX6_faces cX6_faces 3 (some .int) ∈ gw_tbl := List.mem_filter.mpr ⟨List.mem_of_getElem? (i := 1201) (by decide +kernel), rfl⟩
theorem lw_good : ∀ w ∈ gw_tbl, goodWord w = true := fun w h => (List.mem_filter.mp h).2
theorem inX0 : ∀ w ∈ u_ws RX0 TX0 8, w ∈ gw_tbl := u_in_all (lt_s (lt_s (lt_s (lt_s (lt_s (lt_s (lt_s (lt_s lt_0 wd_91) wd_93) wd_95) wd_97) wd_99) wd_101) wd_103) wd_105)
theorem inX2 : ∀ w ∈ u_ws RX2 TX2 2, w ∈ gw_tbl := u_in_all (lt_s (lt_s lt_0 wd_138) wd_140)
theorem inX4 : ∀ w ∈ u_ws RX4 TX4 3, w ∈ gw_tbl := u_in_all (lt_s (lt_s (lt_s lt_0 wd_120) wd_122) wd_124)
theorem inX5 : ∀ w ∈ u_ws RX5 TX5 7, w ∈ gw_tbl := u_in_all (lt_s (lt_s (lt_s (lt_s (lt_s (lt_s (lt_s lt_0 wd_150) wd_152) wd_154) wd_156) wd_158) wd_160) wd_162)
theorem inX6 : ∀ w ∈ u_ws RX6 TX6 29, w ∈ gw_tbl := u_in_all (lt_s (lt_s (lt_s (lt_s (lt_s (lt_s (lt_s (lt_s (lt_s (lt_s (lt_s (lt_s (lt_s (lt_s (lt_s (lt_s (lt_s (lt_s (lt_s (lt_s (lt_s (lt_s (lt_s (lt_s (lt_s (lt_s (lt_s (lt_s (lt_s lt_0 wd_776) wd_778) wd_780) wd_782) wd_784) wd_786) wd_788) wd_790) wd_792) wd_794) wd_796) wd_798) wd_800) wd_802) wd_804) wd_806) wd_808) wd_810) wd_812) wd_814) wd_816) wd_818) wd_820) wd_822) wd_824) wd_826) wd_828) wd_830) wd_832)
theorem in_c {a : Cond} {l ws : List Cond} (h : ∀ w ∈ ws, w ∈ l) : ∀ w ∈ ws, w ∈ a :: l := fun w hw => List.mem_cons_of_mem _ (h w hw)
theorem gd1 {a w : Cond} (h : w ∈ gw_tbl) : w ∈ a :: gw_tbl ∧ ((w.onTables && w.keeps) = true ∨ ∃ ty, w = .arrayClass ty) := ⟨List.mem_cons_of_mem _ h, good_of_word (lw_good w h)⟩
theorem gdS {a : Cond} {y : MethodName} {c : ByteArray} {n : Nat} {r : Option FieldType} (h5 : Cond.code y c n r ∈ gw_tbl) : GoodIn (a :: gw_tbl) (Cond.code y c n r :: gw_tbl) := fun w hw => (List.mem_cons.mp hw).elim (fun e => gd1 (e ▸ h5)) gd1
theorem gdV {a : Cond} {own C : String} {ix : Nat} {y : MethodName} {c : ByteArray} {n : Nat} {r : Option FieldType} (h1 : Cond.methodLink own ix y ∈ gw_tbl) (h2 : Cond.instanceMethod y ∈ gw_tbl) (h3 : Cond.selects C y y ∈ gw_tbl) (h4 : Cond.initialized C ∈ gw_tbl) (h5 : Cond.code y c n r ∈ gw_tbl) : GoodIn (a :: gw_tbl) (wsV own ix C y (Cond.code y c n r :: gw_tbl)) := by
  intro w hw
  unfold wsV at hw
  rcases List.mem_append.mp hw with h | h
  · simp only [List.mem_cons, List.not_mem_nil, or_false] at h
    rcases h with rfl | rfl | rfl | rfl
    · exact gd1 h1
    · exact gd1 h2
    · exact gd1 h3
    · exact gd1 h4
  · exact gdS h5 w h
