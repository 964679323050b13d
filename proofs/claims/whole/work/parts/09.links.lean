theorem mj_inTB {ws : List Cond} (ps : List Nat) (hp : ws = ps.filterMap (fun i => lw_tbl[i]?)) (h : ws.all goodWord = true) : ∀ w ∈ ws, w ∈ mj_TB := by
  intro w hw
  have h1 := List.all_eq_true.mp h w hw
  rw [hp] at hw
  obtain ⟨i, -, hi⟩ := List.mem_filterMap.mp hw
  exact List.mem_filter.mpr ⟨List.mem_of_getElem? hi, h1⟩
theorem w_0 : Cond.selects RX10 yX10_bad yX10_bad ∈ mj_TB := mj_tb 0 (by decide +kernel) (by decide +kernel)
theorem w_1 : Cond.selects RX10 yX10_full yX10_full ∈ mj_TB := mj_tb 1 (by decide +kernel) (by decide +kernel)
theorem w_2 : Cond.selects RX5 yX5_findTokens yX5_findTokens ∈ mj_TB := mj_tb 2 (by decide +kernel) (by decide +kernel)
theorem w_3 : Cond.selects RX5 yX5_endOfRun yX5_endOfRun ∈ mj_TB := mj_tb 3 (by decide +kernel) (by decide +kernel)
theorem w_4 : Cond.selects RX5 yX5_byteAt yX5_byteAt ∈ mj_TB := mj_tb 4 (by decide +kernel) (by decide +kernel)
theorem w_5 : Cond.selects RX5 yX5_endOfToken yX5_endOfToken ∈ mj_TB := mj_tb 5 (by decide +kernel) (by decide +kernel)
theorem w_6 : Cond.selects RX5 yX5_tokenIn yX5_tokenIn ∈ mj_TB := mj_tb 6 (by decide +kernel) (by decide +kernel)
theorem w_7 : Cond.selects RX5 yX5_wordIn yX5_wordIn ∈ mj_TB := mj_tb 7 (by decide +kernel) (by decide +kernel)
theorem w_8 : Cond.selects RX5 yX5_isWord yX5_isWord ∈ mj_TB := mj_tb 8 (by decide +kernel) (by decide +kernel)
theorem w_9 : Cond.selects RX5 yX5_numberIn yX5_numberIn ∈ mj_TB := mj_tb 9 (by decide +kernel) (by decide +kernel)
theorem w_10 : Cond.selects RX5 yX5_numberComes yX5_numberComes ∈ mj_TB := mj_tb 10 (by decide +kernel) (by decide +kernel)
theorem w_11 : Cond.selects RX5 yX5_advance yX5_advance ∈ mj_TB := mj_tb 11 (by decide +kernel) (by decide +kernel)
theorem w_12 : Cond.selects RX5 yX5_fault yX5_fault ∈ mj_TB := mj_tb 12 (by decide +kernel) (by decide +kernel)
theorem w_13 : Cond.selects RX5 yX5_stopComes yX5_stopComes ∈ mj_TB := mj_tb 13 (by decide +kernel) (by decide +kernel)
theorem w_14 : Cond.selects RX5 yX5_itemComes yX5_itemComes ∈ mj_TB := mj_tb 14 (by decide +kernel) (by decide +kernel)
theorem w_15 : Cond.selects RX5 yX5_cellsCome yX5_cellsCome ∈ mj_TB := mj_tb 15 (by decide +kernel) (by decide +kernel)
theorem w_16 : Cond.selects RX5 yX5_pairsCome yX5_pairsCome ∈ mj_TB := mj_tb 16 (by decide +kernel) (by decide +kernel)
theorem w_17 : Cond.selects RX5 yX5_voterComes yX5_voterComes ∈ mj_TB := mj_tb 17 (by decide +kernel) (by decide +kernel)
theorem w_18 : Cond.selects RX2 yX2_dropOldest yX2_dropOldest ∈ mj_TB := mj_tb 18 (by decide +kernel) (by decide +kernel)
theorem w_19 : Cond.selects RX10 yX10_no yX10_no ∈ mj_TB := mj_tb 19 (by decide +kernel) (by decide +kernel)
theorem w_20 : Cond.selects RX10 yX10_isVoter yX10_isVoter ∈ mj_TB := mj_tb 20 (by decide +kernel) (by decide +kernel)
theorem w_21 : Cond.selects RX10 yX10_yesNow yX10_yesNow ∈ mj_TB := mj_tb 21 (by decide +kernel) (by decide +kernel)
theorem w_22 : Cond.selects RX8 yX8_measure yX8_measure ∈ mj_TB := mj_tb 22 (by decide +kernel) (by decide +kernel)
theorem w_23 : Cond.selects RX7 yX7_heaviest yX7_heaviest ∈ mj_TB := mj_tb 23 (by decide +kernel) (by decide +kernel)
theorem w_24 : Cond.selects RX10 yX10_kindsNoted yX10_kindsNoted ∈ mj_TB := mj_tb 24 (by decide +kernel) (by decide +kernel)
theorem w_25 : Cond.selects RX10 yX10_fitsNotes yX10_fitsNotes ∈ mj_TB := mj_tb 25 (by decide +kernel) (by decide +kernel)
theorem w_26 : Cond.selects RX10 yX10_mostAlike yX10_mostAlike ∈ mj_TB := mj_tb 26 (by decide +kernel) (by decide +kernel)
theorem w_27 : Cond.selects RX10 yX10_fitsPolls yX10_fitsPolls ∈ mj_TB := mj_tb 27 (by decide +kernel) (by decide +kernel)
theorem w_28 : Cond.selects RX10 yX10_passNight yX10_passNight ∈ mj_TB := mj_tb 28 (by decide +kernel) (by decide +kernel)
theorem w_29 : Cond.selects RX10 yX10_keepFraction yX10_keepFraction ∈ mj_TB := mj_tb 29 (by decide +kernel) (by decide +kernel)
theorem w_30 : Cond.selects RX10 yX10_amount yX10_amount ∈ mj_TB := mj_tb 30 (by decide +kernel) (by decide +kernel)
theorem w_31 : Cond.selects RX11 yX11_bad yX11_bad ∈ mj_TB := mj_tb 31 (by decide +kernel) (by decide +kernel)
theorem w_32 : Cond.selects RX11 yX11_many yX11_many ∈ mj_TB := mj_tb 32 (by decide +kernel) (by decide +kernel)
theorem w_33 : Cond.selects RX11 yX11_full yX11_full ∈ mj_TB := mj_tb 33 (by decide +kernel) (by decide +kernel)
theorem w_34 : Cond.selects RX11 yX11_keep yX11_keep ∈ mj_TB := mj_tb 34 (by decide +kernel) (by decide +kernel)
theorem w_35 : Cond.selects RX11 yX11_layIce yX11_layIce ∈ mj_TB := mj_tb 35 (by decide +kernel) (by decide +kernel)
theorem w_36 : Cond.selects RX11 yX11_goDays yX11_goDays ∈ mj_TB := mj_tb 36 (by decide +kernel) (by decide +kernel)
theorem w_37 : Cond.selects RX11 yX11_goDay yX11_goDay ∈ mj_TB := mj_tb 37 (by decide +kernel) (by decide +kernel)
theorem w_38 : Cond.selects RX11 yX11_kindOf yX11_kindOf ∈ mj_TB := mj_tb 38 (by decide +kernel) (by decide +kernel)
theorem w_39 : Cond.selects RX11 yX11_allIce yX11_allIce ∈ mj_TB := mj_tb 39 (by decide +kernel) (by decide +kernel)
theorem w_40 : Cond.selects RX11 yX11_no yX11_no ∈ mj_TB := mj_tb 40 (by decide +kernel) (by decide +kernel)
theorem w_41 : Cond.selects RX11 yX11_isVoter yX11_isVoter ∈ mj_TB := mj_tb 41 (by decide +kernel) (by decide +kernel)
theorem w_42 : Cond.selects RX11 yX11_frostNow yX11_frostNow ∈ mj_TB := mj_tb 42 (by decide +kernel) (by decide +kernel)
theorem w_43 : Cond.selects RX11 yX11_votesYes yX11_votesYes ∈ mj_TB := mj_tb 43 (by decide +kernel) (by decide +kernel)
theorem w_44 : Cond.selects RX11 yX11_bears yX11_bears ∈ mj_TB := mj_tb 44 (by decide +kernel) (by decide +kernel)
theorem w_45 : Cond.selects RX11 yX11_leastBeside yX11_leastBeside ∈ mj_TB := mj_tb 45 (by decide +kernel) (by decide +kernel)
theorem w_46 : Cond.selects RX11 yX11_goOne yX11_goOne ∈ mj_TB := mj_tb 46 (by decide +kernel) (by decide +kernel)
theorem w_47 : Cond.selects RX11 yX11_layFar yX11_layFar ∈ mj_TB := mj_tb 47 (by decide +kernel) (by decide +kernel)
theorem w_48 : Cond.selects RX11 yX11_layNearer yX11_layNearer ∈ mj_TB := mj_tb 48 (by decide +kernel) (by decide +kernel)
theorem w_49 : Cond.selects RX11 yX11_nextOf yX11_nextOf ∈ mj_TB := mj_tb 49 (by decide +kernel) (by decide +kernel)
theorem w_50 : Cond.selects RX11 yX11_partsOf yX11_partsOf ∈ mj_TB := mj_tb 50 (by decide +kernel) (by decide +kernel)
theorem w_51 : Cond.selects RX11 yX11_isParted yX11_isParted ∈ mj_TB := mj_tb 51 (by decide +kernel) (by decide +kernel)
theorem w_52 : Cond.selects RX11 yX11_yesOf yX11_yesOf ∈ mj_TB := mj_tb 52 (by decide +kernel) (by decide +kernel)
theorem w_53 : Cond.selects RX11 yX11_wetOf yX11_wetOf ∈ mj_TB := mj_tb 53 (by decide +kernel) (by decide +kernel)
theorem w_54 : Cond.selects RX11 yX11_isCarried yX11_isCarried ∈ mj_TB := mj_tb 54 (by decide +kernel) (by decide +kernel)
theorem w_55 : Cond.selects RX11 yX11_heaviest yX11_heaviest ∈ mj_TB := mj_tb 55 (by decide +kernel) (by decide +kernel)
theorem w_56 : Cond.selects RX11 yX11_bearsIt yX11_bearsIt ∈ mj_TB := mj_tb 56 (by decide +kernel) (by decide +kernel)
theorem w_57 : Cond.selects RX11 yX11_kindsOf yX11_kindsOf ∈ mj_TB := mj_tb 57 (by decide +kernel) (by decide +kernel)
theorem w_58 : Cond.selects RX11 yX11_hasBy yX11_hasBy ∈ mj_TB := mj_tb 58 (by decide +kernel) (by decide +kernel)
theorem w_59 : Cond.selects RX11 yX11_fraction yX11_fraction ∈ mj_TB := mj_tb 59 (by decide +kernel) (by decide +kernel)
theorem w_60 : Cond.selects RX11 yX11_lookAt yX11_lookAt ∈ mj_TB := mj_tb 60 (by decide +kernel) (by decide +kernel)
theorem w_61 : Cond.selects RX11 yX11_takesLake yX11_takesLake ∈ mj_TB := mj_tb 61 (by decide +kernel) (by decide +kernel)
theorem w_62 : Cond.selects RX11 yX11_spells yX11_spells ∈ mj_TB := mj_tb 62 (by decide +kernel) (by decide +kernel)
theorem w_63 : Cond.selects RX11 yX11_goBehind yX11_goBehind ∈ mj_TB := mj_tb 63 (by decide +kernel) (by decide +kernel)
theorem w_64 : Cond.selects RX11 yX11_takes yX11_takes ∈ mj_TB := mj_tb 64 (by decide +kernel) (by decide +kernel)
theorem w_65 : Cond.selects RX11 yX11_takesItem yX11_takesItem ∈ mj_TB := mj_tb 65 (by decide +kernel) (by decide +kernel)
theorem w_66 : Cond.selects RX11 yX11_takesCell yX11_takesCell ∈ mj_TB := mj_tb 66 (by decide +kernel) (by decide +kernel)
theorem w_67 : Cond.selects RX11 yX11_takesWeek yX11_takesWeek ∈ mj_TB := mj_tb 67 (by decide +kernel) (by decide +kernel)
theorem w_68 : Cond.selects RX11 yX11_takesVoter yX11_takesVoter ∈ mj_TB := mj_tb 68 (by decide +kernel) (by decide +kernel)
theorem w_69 : Cond.selects RX11 yX11_counted yX11_counted ∈ mj_TB := mj_tb 69 (by decide +kernel) (by decide +kernel)
theorem w_70 : Cond.selects RX11 yX11_sums yX11_sums ∈ mj_TB := mj_tb 70 (by decide +kernel) (by decide +kernel)
theorem w_72 : Cond.initialized RX10 ∈ mj_TB := mj_tb 72 (by decide +kernel) (by decide +kernel)
theorem w_73 : Cond.initialized RX1 ∈ mj_TB := mj_tb 73 (by decide +kernel) (by decide +kernel)
theorem w_74 : Cond.initialized RX4 ∈ mj_TB := mj_tb 74 (by decide +kernel) (by decide +kernel)
theorem w_75 : Cond.initialized RX9 ∈ mj_TB := mj_tb 75 (by decide +kernel) (by decide +kernel)
theorem w_76 : Cond.initialized RX7 ∈ mj_TB := mj_tb 76 (by decide +kernel) (by decide +kernel)
theorem w_77 : Cond.initialized RX3 ∈ mj_TB := mj_tb 77 (by decide +kernel) (by decide +kernel)
theorem w_78 : Cond.initialized RX2 ∈ mj_TB := mj_tb 78 (by decide +kernel) (by decide +kernel)
theorem w_79 : Cond.initialized RX8 ∈ mj_TB := mj_tb 79 (by decide +kernel) (by decide +kernel)
theorem w_80 : Cond.initialized RX5 ∈ mj_TB := mj_tb 80 (by decide +kernel) (by decide +kernel)
theorem w_81 : Cond.initialized RX11 ∈ mj_TB := mj_tb 81 (by decide +kernel) (by decide +kernel)
theorem w_82 : Cond.initialized RJ7 ∈ mj_TB := mj_tb 82 (by decide +kernel) (by decide +kernel)
theorem w_83 : Cond.initialized "java/lang/Math" ∈ mj_TB := mj_tb 83 (by decide +kernel) (by decide +kernel)
theorem w_84 : Cond.initialized RJ0 ∈ mj_TB := mj_tb 84 (by decide +kernel) (by decide +kernel)
theorem w_85 : Cond.initialized RJ1 ∈ mj_TB := mj_tb 85 (by decide +kernel) (by decide +kernel)
theorem w_86 : Cond.initialized RJ3 ∈ mj_TB := mj_tb 86 (by decide +kernel) (by decide +kernel)
theorem w_87 : Cond.initialized RJ2 ∈ mj_TB := mj_tb 87 (by decide +kernel) (by decide +kernel)
theorem w_88 : Cond.initialized "java/lang/System" ∈ mj_TB := mj_tb 88 (by decide +kernel) (by decide +kernel)
theorem w_89 : Cond.initialized RX0 ∈ mj_TB := mj_tb 89 (by decide +kernel) (by decide +kernel)
theorem w_90 : Cond.initialized RX6 ∈ mj_TB := mj_tb 90 (by decide +kernel) (by decide +kernel)
theorem w_91 : Cond.initialized RJ6 ∈ mj_TB := mj_tb 91 (by decide +kernel) (by decide +kernel)
theorem w_92 : Cond.classLink RL 7 "IceVote" ∈ mj_TB := mj_tb 92 (by decide +kernel) (by decide +kernel)
theorem w_93 : Cond.instantiable "IceVote" 12 ∈ mj_TB := mj_tb 93 (by decide +kernel) (by decide +kernel)
theorem w_94 : Cond.methodLink RL 9 yX10_init ∈ mj_TB := mj_tb 94 (by decide +kernel) (by decide +kernel)
theorem w_95 : Cond.instanceMethod yX10_init ∈ mj_TB := mj_tb 95 (by decide +kernel) (by decide +kernel)
theorem w_96 : Cond.code yX10_init cX10_init 1 none ∈ mj_TB := mj_tb 96 (by decide +kernel) (by decide +kernel)
theorem w_97 : Cond.methodLink RX10 1 objectInit ∈ mj_TB := mj_tb 97 (by decide +kernel) (by decide +kernel)
theorem w_98 : Cond.instanceMethod objectInit ∈ mj_TB := mj_tb 98 (by decide +kernel) (by decide +kernel)
theorem w_99 : Cond.code objectInit ⟨#[0xb1]⟩ 1 none ∈ mj_TB := mj_tb 99 (by decide +kernel) (by decide +kernel)
theorem w_100 : Cond.classLink RX10 7 "IceVote$Lake" ∈ mj_TB := mj_tb 100 (by decide +kernel) (by decide +kernel)
theorem w_101 : Cond.instantiable "IceVote$Lake" 8 ∈ mj_TB := mj_tb 101 (by decide +kernel) (by decide +kernel)
theorem w_103 : Cond.instanceMethod yX1_init ∈ mj_TB := mj_tb 103 (by decide +kernel) (by decide +kernel)
theorem w_104 : Cond.code yX1_init cX1_init 1 none ∈ mj_TB := mj_tb 104 (by decide +kernel) (by decide +kernel)
theorem w_105 : Cond.methodLink RX1 3 objectInit ∈ mj_TB := mj_tb 105 (by decide +kernel) (by decide +kernel)
theorem w_106 : Cond.classLink RX1 9 "IceVote$Sheet" ∈ mj_TB := mj_tb 106 (by decide +kernel) (by decide +kernel)
theorem w_107 : Cond.instantiable "IceVote$Sheet" 2 ∈ mj_TB := mj_tb 107 (by decide +kernel) (by decide +kernel)
theorem w_109 : Cond.instanceMethod yX4_init ∈ mj_TB := mj_tb 109 (by decide +kernel) (by decide +kernel)
theorem w_110 : Cond.code yX4_init cX4_init 1 none ∈ mj_TB := mj_tb 110 (by decide +kernel) (by decide +kernel)
theorem w_111 : Cond.methodLink RX4 3 objectInit ∈ mj_TB := mj_tb 111 (by decide +kernel) (by decide +kernel)
theorem w_112 : Cond.fieldLink RX4 9 "IceVote$Sheet" "kind" "[I" ∈ mj_TB := mj_tb 112 (by decide +kernel) (by decide +kernel)
theorem w_113 : Cond.fieldLink RX4 15 "IceVote$Sheet" "ice" "[I" ∈ mj_TB := mj_tb 113 (by decide +kernel) (by decide +kernel)
theorem w_114 : Cond.fieldLink RX2 35 "IceVote$Sheet" "ice" "[I" ∈ mj_TB := mj_tb 114 (by decide +kernel) (by decide +kernel)
theorem w_120 : Cond.arrayClass .int ∈ mj_TB := mj_tb 120 (by decide +kernel) (by decide +kernel)
theorem w_121 : Cond.classLink RX1 18 "IceVote$Week" ∈ mj_TB := mj_tb 121 (by decide +kernel) (by decide +kernel)
theorem w_122 : Cond.instantiable "IceVote$Week" 2 ∈ mj_TB := mj_tb 122 (by decide +kernel) (by decide +kernel)
theorem w_124 : Cond.instanceMethod yX9_init ∈ mj_TB := mj_tb 124 (by decide +kernel) (by decide +kernel)
theorem w_125 : Cond.code yX9_init cX9_init 1 none ∈ mj_TB := mj_tb 125 (by decide +kernel) (by decide +kernel)
theorem w_126 : Cond.methodLink RX9 3 objectInit ∈ mj_TB := mj_tb 126 (by decide +kernel) (by decide +kernel)
theorem w_127 : Cond.fieldLink RX9 9 "IceVote$Week" "frost" "[I" ∈ mj_TB := mj_tb 127 (by decide +kernel) (by decide +kernel)
theorem w_128 : Cond.fieldLink RX9 15 "IceVote$Week" "sun" "[I" ∈ mj_TB := mj_tb 128 (by decide +kernel) (by decide +kernel)
theorem w_134 : Cond.classLink RX1 25 "IceVote$Voters" ∈ mj_TB := mj_tb 134 (by decide +kernel) (by decide +kernel)
theorem w_135 : Cond.instantiable "IceVote$Voters" 4 ∈ mj_TB := mj_tb 135 (by decide +kernel) (by decide +kernel)
theorem w_137 : Cond.instanceMethod yX7_init ∈ mj_TB := mj_tb 137 (by decide +kernel) (by decide +kernel)
theorem w_138 : Cond.code yX7_init cX7_init 1 none ∈ mj_TB := mj_tb 138 (by decide +kernel) (by decide +kernel)
theorem w_139 : Cond.methodLink RX7 3 objectInit ∈ mj_TB := mj_tb 139 (by decide +kernel) (by decide +kernel)
theorem w_140 : Cond.fieldLink RX7 9 "IceVote$Voters" "kind" "[I" ∈ mj_TB := mj_tb 140 (by decide +kernel) (by decide +kernel)
theorem w_141 : Cond.fieldLink RX7 15 "IceVote$Voters" "weight" "[I" ∈ mj_TB := mj_tb 141 (by decide +kernel) (by decide +kernel)
theorem w_142 : Cond.fieldLink RX7 18 "IceVote$Voters" "cell" "[I" ∈ mj_TB := mj_tb 142 (by decide +kernel) (by decide +kernel)
theorem w_143 : Cond.fieldLink RX7 21 "IceVote$Voters" "size" "I" ∈ mj_TB := mj_tb 143 (by decide +kernel) (by decide +kernel)
theorem w_144 : Cond.fieldLink RX10 77 "IceVote$Voters" "size" "I" ∈ mj_TB := mj_tb 144 (by decide +kernel) (by decide +kernel)
theorem w_145 : Cond.fieldLink RX1 85 "IceVote$Voters" "size" "I" ∈ mj_TB := mj_tb 145 (by decide +kernel) (by decide +kernel)
theorem w_146 : Cond.fieldLink RX5 83 "IceVote$Voters" "size" "I" ∈ mj_TB := mj_tb 146 (by decide +kernel) (by decide +kernel)
theorem w_156 : Cond.classLink RX1 32 "IceVote$Records" ∈ mj_TB := mj_tb 156 (by decide +kernel) (by decide +kernel)
theorem w_157 : Cond.instantiable "IceVote$Records" 2 ∈ mj_TB := mj_tb 157 (by decide +kernel) (by decide +kernel)
theorem w_159 : Cond.instanceMethod yX3_init ∈ mj_TB := mj_tb 159 (by decide +kernel) (by decide +kernel)
theorem w_160 : Cond.code yX3_init cX3_init 1 none ∈ mj_TB := mj_tb 160 (by decide +kernel) (by decide +kernel)
theorem w_161 : Cond.methodLink RX3 3 objectInit ∈ mj_TB := mj_tb 161 (by decide +kernel) (by decide +kernel)
theorem w_162 : Cond.fieldLink RX3 9 "IceVote$Records" "row" "[I" ∈ mj_TB := mj_tb 162 (by decide +kernel) (by decide +kernel)
theorem w_163 : Cond.fieldLink RX3 15 "IceVote$Records" "size" "I" ∈ mj_TB := mj_tb 163 (by decide +kernel) (by decide +kernel)
theorem w_164 : Cond.fieldLink RX10 270 "IceVote$Records" "size" "I" ∈ mj_TB := mj_tb 164 (by decide +kernel) (by decide +kernel)
theorem w_170 : Cond.classLink RX1 42 "IceVote$Past" ∈ mj_TB := mj_tb 170 (by decide +kernel) (by decide +kernel)
theorem w_171 : Cond.instantiable "IceVote$Past" 3 ∈ mj_TB := mj_tb 171 (by decide +kernel) (by decide +kernel)
theorem w_173 : Cond.instanceMethod yX2_init ∈ mj_TB := mj_tb 173 (by decide +kernel) (by decide +kernel)
theorem w_174 : Cond.code yX2_init cX2_init 1 none ∈ mj_TB := mj_tb 174 (by decide +kernel) (by decide +kernel)
theorem w_175 : Cond.methodLink RX2 3 objectInit ∈ mj_TB := mj_tb 175 (by decide +kernel) (by decide +kernel)
theorem w_176 : Cond.fieldLink RX2 9 "IceVote$Past" "ice" "[I" ∈ mj_TB := mj_tb 176 (by decide +kernel) (by decide +kernel)
theorem w_177 : Cond.fieldLink RX2 15 "IceVote$Past" "day" "[I" ∈ mj_TB := mj_tb 177 (by decide +kernel) (by decide +kernel)
theorem w_178 : Cond.fieldLink RX2 18 "IceVote$Past" "size" "I" ∈ mj_TB := mj_tb 178 (by decide +kernel) (by decide +kernel)
theorem w_179 : Cond.fieldLink RX10 176 "IceVote$Past" "size" "I" ∈ mj_TB := mj_tb 179 (by decide +kernel) (by decide +kernel)
theorem w_187 : Cond.fieldLink RX1 12 "IceVote$Lake" "sheet" "LIceVote$Sheet;" ∈ mj_TB := mj_tb 187 (by decide +kernel) (by decide +kernel)
theorem w_188 : Cond.fieldLink RX10 91 "IceVote$Lake" "sheet" "LIceVote$Sheet;" ∈ mj_TB := mj_tb 188 (by decide +kernel) (by decide +kernel)
theorem w_189 : Cond.fieldLink RX5 63 "IceVote$Lake" "sheet" "LIceVote$Sheet;" ∈ mj_TB := mj_tb 189 (by decide +kernel) (by decide +kernel)
theorem w_190 : Cond.fieldLink RX1 21 "IceVote$Lake" "week" "LIceVote$Week;" ∈ mj_TB := mj_tb 190 (by decide +kernel) (by decide +kernel)
theorem w_191 : Cond.fieldLink RX10 114 "IceVote$Lake" "week" "LIceVote$Week;" ∈ mj_TB := mj_tb 191 (by decide +kernel) (by decide +kernel)
theorem w_192 : Cond.fieldLink RX5 71 "IceVote$Lake" "week" "LIceVote$Week;" ∈ mj_TB := mj_tb 192 (by decide +kernel) (by decide +kernel)
theorem w_193 : Cond.fieldLink RX1 28 "IceVote$Lake" "voters" "LIceVote$Voters;" ∈ mj_TB := mj_tb 193 (by decide +kernel) (by decide +kernel)
theorem w_194 : Cond.fieldLink RX10 73 "IceVote$Lake" "voters" "LIceVote$Voters;" ∈ mj_TB := mj_tb 194 (by decide +kernel) (by decide +kernel)
theorem w_195 : Cond.fieldLink RX5 79 "IceVote$Lake" "voters" "LIceVote$Voters;" ∈ mj_TB := mj_tb 195 (by decide +kernel) (by decide +kernel)
theorem w_196 : Cond.fieldLink RX1 35 "IceVote$Lake" "notes" "LIceVote$Records;" ∈ mj_TB := mj_tb 196 (by decide +kernel) (by decide +kernel)
theorem w_197 : Cond.fieldLink RX10 266 "IceVote$Lake" "notes" "LIceVote$Records;" ∈ mj_TB := mj_tb 197 (by decide +kernel) (by decide +kernel)
theorem w_198 : Cond.fieldLink RX1 39 "IceVote$Lake" "polls" "LIceVote$Records;" ∈ mj_TB := mj_tb 198 (by decide +kernel) (by decide +kernel)
theorem w_199 : Cond.fieldLink RX10 276 "IceVote$Lake" "polls" "LIceVote$Records;" ∈ mj_TB := mj_tb 199 (by decide +kernel) (by decide +kernel)
theorem w_200 : Cond.fieldLink RX1 45 "IceVote$Lake" "past" "LIceVote$Past;" ∈ mj_TB := mj_tb 200 (by decide +kernel) (by decide +kernel)
theorem w_201 : Cond.fieldLink RX10 102 "IceVote$Lake" "past" "LIceVote$Past;" ∈ mj_TB := mj_tb 201 (by decide +kernel) (by decide +kernel)
theorem w_202 : Cond.fieldLink RX1 49 "IceVote$Lake" "word" "[I" ∈ mj_TB := mj_tb 202 (by decide +kernel) (by decide +kernel)
theorem w_203 : Cond.fieldLink RX10 130 "IceVote$Lake" "word" "[I" ∈ mj_TB := mj_tb 203 (by decide +kernel) (by decide +kernel)
theorem w_204 : Cond.fieldLink RX1 53 "IceVote$Lake" "day" "I" ∈ mj_TB := mj_tb 204 (by decide +kernel) (by decide +kernel)
theorem w_205 : Cond.fieldLink RX10 184 "IceVote$Lake" "day" "I" ∈ mj_TB := mj_tb 205 (by decide +kernel) (by decide +kernel)
theorem w_224 : Cond.classLink RX10 23 "IceVote$Sheet" ∈ mj_TB := mj_tb 224 (by decide +kernel) (by decide +kernel)
theorem w_226 : Cond.classLink RX10 30 "IceVote$Ways" ∈ mj_TB := mj_tb 226 (by decide +kernel) (by decide +kernel)
theorem w_227 : Cond.instantiable "IceVote$Ways" 2 ∈ mj_TB := mj_tb 227 (by decide +kernel) (by decide +kernel)
theorem w_229 : Cond.instanceMethod yX8_init ∈ mj_TB := mj_tb 229 (by decide +kernel) (by decide +kernel)
theorem w_230 : Cond.code yX8_init cX8_init 1 none ∈ mj_TB := mj_tb 230 (by decide +kernel) (by decide +kernel)
theorem w_231 : Cond.methodLink RX8 5 objectInit ∈ mj_TB := mj_tb 231 (by decide +kernel) (by decide +kernel)
theorem w_232 : Cond.fieldLink RX8 11 "IceVote$Ways" "ring" "[I" ∈ mj_TB := mj_tb 232 (by decide +kernel) (by decide +kernel)
theorem w_233 : Cond.fieldLink RX8 15 "IceVote$Ways" "steps" "[I" ∈ mj_TB := mj_tb 233 (by decide +kernel) (by decide +kernel)
theorem w_239 : Cond.classLink RX10 37 "IceVote$Text" ∈ mj_TB := mj_tb 239 (by decide +kernel) (by decide +kernel)
theorem w_240 : Cond.instantiable "IceVote$Text" 6 ∈ mj_TB := mj_tb 240 (by decide +kernel) (by decide +kernel)
theorem w_242 : Cond.instanceMethod yX5_init ∈ mj_TB := mj_tb 242 (by decide +kernel) (by decide +kernel)
theorem w_243 : Cond.code yX5_init cX5_init 1 none ∈ mj_TB := mj_tb 243 (by decide +kernel) (by decide +kernel)
theorem w_244 : Cond.methodLink RX5 3 objectInit ∈ mj_TB := mj_tb 244 (by decide +kernel) (by decide +kernel)
theorem w_245 : Cond.fieldLink RX5 9 "IceVote$Text" "bytes" "[I" ∈ mj_TB := mj_tb 245 (by decide +kernel) (by decide +kernel)
theorem w_246 : Cond.fieldLink RX5 15 "IceVote$Text" "length" "I" ∈ mj_TB := mj_tb 246 (by decide +kernel) (by decide +kernel)
theorem w_247 : Cond.fieldLink RX10 139 "IceVote$Text" "length" "I" ∈ mj_TB := mj_tb 247 (by decide +kernel) (by decide +kernel)
theorem w_248 : Cond.fieldLink RX5 19 "IceVote$Text" "tokens" "[I" ∈ mj_TB := mj_tb 248 (by decide +kernel) (by decide +kernel)
theorem w_249 : Cond.fieldLink RX5 22 "IceVote$Text" "starts" "[I" ∈ mj_TB := mj_tb 249 (by decide +kernel) (by decide +kernel)
theorem w_250 : Cond.fieldLink RX5 25 "IceVote$Text" "here" "I" ∈ mj_TB := mj_tb 250 (by decide +kernel) (by decide +kernel)
theorem w_251 : Cond.fieldLink RX5 28 "IceVote$Text" "token" "I" ∈ mj_TB := mj_tb 251 (by decide +kernel) (by decide +kernel)
theorem w_265 : Cond.fieldLink RX10 10 "IceVote" "now" "LIceVote$Lake;" ∈ mj_TB := mj_tb 265 (by decide +kernel) (by decide +kernel)
theorem w_266 : Cond.fieldLink RX10 16 "IceVote" "told" "LIceVote$Lake;" ∈ mj_TB := mj_tb 266 (by decide +kernel) (by decide +kernel)
theorem w_267 : Cond.fieldLink RX10 19 "IceVote" "images" "[LIceVote$Lake;" ∈ mj_TB := mj_tb 267 (by decide +kernel) (by decide +kernel)
theorem w_268 : Cond.fieldLink RX10 26 "IceVote" "trial" "LIceVote$Sheet;" ∈ mj_TB := mj_tb 268 (by decide +kernel) (by decide +kernel)
theorem w_269 : Cond.fieldLink RX10 33 "IceVote" "ways" "LIceVote$Ways;" ∈ mj_TB := mj_tb 269 (by decide +kernel) (by decide +kernel)
theorem w_270 : Cond.fieldLink RX10 40 "IceVote" "text" "LIceVote$Text;" ∈ mj_TB := mj_tb 270 (by decide +kernel) (by decide +kernel)
theorem w_271 : Cond.fieldLink RX10 44 "IceVote" "refused" "[I" ∈ mj_TB := mj_tb 271 (by decide +kernel) (by decide +kernel)
theorem w_272 : Cond.fieldLink RX10 48 "IceVote" "looks" "[I" ∈ mj_TB := mj_tb 272 (by decide +kernel) (by decide +kernel)
theorem w_273 : Cond.fieldLink RX10 51 "IceVote" "chance" "[J" ∈ mj_TB := mj_tb 273 (by decide +kernel) (by decide +kernel)
theorem w_274 : Cond.fieldLink RX10 55 "IceVote" "chanceAfter" "[J" ∈ mj_TB := mj_tb 274 (by decide +kernel) (by decide +kernel)
theorem w_275 : Cond.fieldLink RX10 58 "IceVote" "above" "J" ∈ mj_TB := mj_tb 275 (by decide +kernel) (by decide +kernel)
theorem w_276 : Cond.fieldLink RX10 62 "IceVote" "below" "J" ∈ mj_TB := mj_tb 276 (by decide +kernel) (by decide +kernel)
theorem w_302 : Cond.arrayClass .long ∈ mj_TB := mj_tb 302 (by decide +kernel) (by decide +kernel)
theorem w_303 : Cond.methodLink RL 13 yX10_lake ∈ mj_TB := mj_tb 303 (by decide +kernel) (by decide +kernel)
theorem w_304 : Cond.instanceMethod yX10_lake ∈ mj_TB := mj_tb 304 (by decide +kernel) (by decide +kernel)
theorem w_305 : Cond.selects RX10 yX10_lake yX10_lake ∈ mj_TB := mj_tb 305 (by decide +kernel) (by decide +kernel)
theorem w_306 : Cond.code yX10_lake cX10_lake 3 (some .int) ∈ mj_TB := mj_tb 306 (by decide +kernel) (by decide +kernel)
theorem w_307 : Cond.methodLink RX10 65 yX10_within ∈ mj_TB := mj_tb 307 (by decide +kernel) (by decide +kernel)
theorem w_308 : Cond.static yX10_within ∈ mj_TB := mj_tb 308 (by decide +kernel) (by decide +kernel)
theorem w_309 : Cond.code yX10_within cX10_within 3 (some .boolean) ∈ mj_TB := mj_tb 309 (by decide +kernel) (by decide +kernel)
theorem w_310 : Cond.methodLink RX10 69 yX10_bad ∈ mj_TB := mj_tb 310 (by decide +kernel) (by decide +kernel)
theorem w_312 : Cond.instanceMethod yX10_bad ∈ mj_TB := mj_tb 312 (by decide +kernel) (by decide +kernel)
theorem w_313 : Cond.code yX10_bad cX10_bad 1 (some .int) ∈ mj_TB := mj_tb 313 (by decide +kernel) (by decide +kernel)
theorem w_314 : Cond.methodLink RX10 83 yX1_restart ∈ mj_TB := mj_tb 314 (by decide +kernel) (by decide +kernel)
theorem w_315 : Cond.instanceMethod yX1_restart ∈ mj_TB := mj_tb 315 (by decide +kernel) (by decide +kernel)
theorem w_316 : Cond.selects RX1 yX1_restart yX1_restart ∈ mj_TB := mj_tb 316 (by decide +kernel) (by decide +kernel)
theorem w_317 : Cond.code yX1_restart cX1_restart 2 none ∈ mj_TB := mj_tb 317 (by decide +kernel) (by decide +kernel)
theorem w_318 : Cond.methodLink RX1 79 yX4_restart ∈ mj_TB := mj_tb 318 (by decide +kernel) (by decide +kernel)
theorem w_319 : Cond.instanceMethod yX4_restart ∈ mj_TB := mj_tb 319 (by decide +kernel) (by decide +kernel)
theorem w_320 : Cond.selects RX4 yX4_restart yX4_restart ∈ mj_TB := mj_tb 320 (by decide +kernel) (by decide +kernel)
theorem w_321 : Cond.code yX4_restart cX4_restart 2 none ∈ mj_TB := mj_tb 321 (by decide +kernel) (by decide +kernel)
theorem w_322 : Cond.methodLink RX4 24 yJ7_fill_53178 ∈ mj_TB := mj_tb 322 (by decide +kernel) (by decide +kernel)
theorem w_323 : Cond.static yJ7_fill_53178 ∈ mj_TB := mj_tb 323 (by decide +kernel) (by decide +kernel)
theorem w_324 : Cond.code yJ7_fill_53178 cJ7_fill_53178 4 none ∈ mj_TB := mj_tb 324 (by decide +kernel) (by decide +kernel)
theorem w_325 : Cond.methodLink RX1 83 yX9_restart ∈ mj_TB := mj_tb 325 (by decide +kernel) (by decide +kernel)
theorem w_326 : Cond.instanceMethod yX9_restart ∈ mj_TB := mj_tb 326 (by decide +kernel) (by decide +kernel)
theorem w_327 : Cond.selects RX9 yX9_restart yX9_restart ∈ mj_TB := mj_tb 327 (by decide +kernel) (by decide +kernel)
theorem w_328 : Cond.code yX9_restart cX9_restart 1 none ∈ mj_TB := mj_tb 328 (by decide +kernel) (by decide +kernel)
theorem w_329 : Cond.methodLink RX9 24 yJ7_fill_53178 ∈ mj_TB := mj_tb 329 (by decide +kernel) (by decide +kernel)
theorem w_330 : Cond.methodLink RX1 88 yX3_empty ∈ mj_TB := mj_tb 330 (by decide +kernel) (by decide +kernel)
theorem w_331 : Cond.instanceMethod yX3_empty ∈ mj_TB := mj_tb 331 (by decide +kernel) (by decide +kernel)
theorem w_332 : Cond.selects RX3 yX3_empty yX3_empty ∈ mj_TB := mj_tb 332 (by decide +kernel) (by decide +kernel)
theorem w_333 : Cond.code yX3_empty cX3_empty 2 (some .int) ∈ mj_TB := mj_tb 333 (by decide +kernel) (by decide +kernel)
theorem w_334 : Cond.methodLink RX1 92 yX2_empty ∈ mj_TB := mj_tb 334 (by decide +kernel) (by decide +kernel)
theorem w_335 : Cond.instanceMethod yX2_empty ∈ mj_TB := mj_tb 335 (by decide +kernel) (by decide +kernel)
theorem w_336 : Cond.selects RX2 yX2_empty yX2_empty ∈ mj_TB := mj_tb 336 (by decide +kernel) (by decide +kernel)
theorem w_337 : Cond.code yX2_empty cX2_empty 1 none ∈ mj_TB := mj_tb 337 (by decide +kernel) (by decide +kernel)
theorem w_338 : Cond.methodLink RX1 94 yJ7_fill_53178 ∈ mj_TB := mj_tb 338 (by decide +kernel) (by decide +kernel)
theorem w_339 : Cond.methodLink RL 18 yX10_cell ∈ mj_TB := mj_tb 339 (by decide +kernel) (by decide +kernel)
theorem w_340 : Cond.instanceMethod yX10_cell ∈ mj_TB := mj_tb 340 (by decide +kernel) (by decide +kernel)
theorem w_341 : Cond.selects RX10 yX10_cell yX10_cell ∈ mj_TB := mj_tb 341 (by decide +kernel) (by decide +kernel)
theorem w_342 : Cond.code yX10_cell cX10_cell 4 (some .int) ∈ mj_TB := mj_tb 342 (by decide +kernel) (by decide +kernel)
theorem w_343 : Cond.methodLink RX10 87 yX10_isCell ∈ mj_TB := mj_tb 343 (by decide +kernel) (by decide +kernel)
theorem w_344 : Cond.static yX10_isCell ∈ mj_TB := mj_tb 344 (by decide +kernel) (by decide +kernel)
theorem w_345 : Cond.code yX10_isCell cX10_isCell 1 (some .boolean) ∈ mj_TB := mj_tb 345 (by decide +kernel) (by decide +kernel)
theorem w_346 : Cond.methodLink RX10 94 yX4_kindOf ∈ mj_TB := mj_tb 346 (by decide +kernel) (by decide +kernel)
theorem w_347 : Cond.instanceMethod yX4_kindOf ∈ mj_TB := mj_tb 347 (by decide +kernel) (by decide +kernel)
theorem w_348 : Cond.selects RX4 yX4_kindOf yX4_kindOf ∈ mj_TB := mj_tb 348 (by decide +kernel) (by decide +kernel)
theorem w_349 : Cond.code yX4_kindOf cX4_kindOf 2 (some .int) ∈ mj_TB := mj_tb 349 (by decide +kernel) (by decide +kernel)
theorem w_351 : Cond.methodLink RX10 98 yX4_setKind ∈ mj_TB := mj_tb 351 (by decide +kernel) (by decide +kernel)
theorem w_352 : Cond.instanceMethod yX4_setKind ∈ mj_TB := mj_tb 352 (by decide +kernel) (by decide +kernel)
theorem w_353 : Cond.selects RX4 yX4_setKind yX4_setKind ∈ mj_TB := mj_tb 353 (by decide +kernel) (by decide +kernel)
theorem w_354 : Cond.code yX4_setKind cX4_setKind 3 none ∈ mj_TB := mj_tb 354 (by decide +kernel) (by decide +kernel)
theorem w_355 : Cond.methodLink RX10 106 yX2_empty ∈ mj_TB := mj_tb 355 (by decide +kernel) (by decide +kernel)
theorem w_356 : Cond.methodLink RL 23 yX10_weather ∈ mj_TB := mj_tb 356 (by decide +kernel) (by decide +kernel)
theorem w_357 : Cond.instanceMethod yX10_weather ∈ mj_TB := mj_tb 357 (by decide +kernel) (by decide +kernel)
theorem w_358 : Cond.selects RX10 yX10_weather yX10_weather ∈ mj_TB := mj_tb 358 (by decide +kernel) (by decide +kernel)
theorem w_359 : Cond.code yX10_weather cX10_weather 5 (some .int) ∈ mj_TB := mj_tb 359 (by decide +kernel) (by decide +kernel)
theorem w_360 : Cond.methodLink RX10 111 yX10_isSky ∈ mj_TB := mj_tb 360 (by decide +kernel) (by decide +kernel)
theorem w_361 : Cond.static yX10_isSky ∈ mj_TB := mj_tb 361 (by decide +kernel) (by decide +kernel)
theorem w_362 : Cond.code yX10_isSky cX10_isSky 1 (some .boolean) ∈ mj_TB := mj_tb 362 (by decide +kernel) (by decide +kernel)
theorem w_363 : Cond.methodLink RX10 118 yX9_frostOn ∈ mj_TB := mj_tb 363 (by decide +kernel) (by decide +kernel)
theorem w_364 : Cond.instanceMethod yX9_frostOn ∈ mj_TB := mj_tb 364 (by decide +kernel) (by decide +kernel)
theorem w_365 : Cond.selects RX9 yX9_frostOn yX9_frostOn ∈ mj_TB := mj_tb 365 (by decide +kernel) (by decide +kernel)
theorem w_366 : Cond.code yX9_frostOn cX9_frostOn 2 (some .int) ∈ mj_TB := mj_tb 366 (by decide +kernel) (by decide +kernel)
theorem w_367 : Cond.methodLink RX9 30 yJ9_floorMod_7cf53 ∈ mj_TB := mj_tb 367 (by decide +kernel) (by decide +kernel)
theorem w_368 : Cond.static yJ9_floorMod_7cf53 ∈ mj_TB := mj_tb 368 (by decide +kernel) (by decide +kernel)
theorem w_369 : Cond.code yJ9_floorMod_7cf53 cJ9_floorMod_7cf53 3 (some .int) ∈ mj_TB := mj_tb 369 (by decide +kernel) (by decide +kernel)
theorem w_370 : Cond.methodLink RX10 123 yX9_sunOn ∈ mj_TB := mj_tb 370 (by decide +kernel) (by decide +kernel)
theorem w_371 : Cond.instanceMethod yX9_sunOn ∈ mj_TB := mj_tb 371 (by decide +kernel) (by decide +kernel)
theorem w_372 : Cond.selects RX9 yX9_sunOn yX9_sunOn ∈ mj_TB := mj_tb 372 (by decide +kernel) (by decide +kernel)
theorem w_373 : Cond.code yX9_sunOn cX9_sunOn 2 (some .int) ∈ mj_TB := mj_tb 373 (by decide +kernel) (by decide +kernel)
theorem w_374 : Cond.methodLink RX10 126 yX9_set ∈ mj_TB := mj_tb 374 (by decide +kernel) (by decide +kernel)
theorem w_375 : Cond.instanceMethod yX9_set ∈ mj_TB := mj_tb 375 (by decide +kernel) (by decide +kernel)
theorem w_376 : Cond.selects RX9 yX9_set yX9_set ∈ mj_TB := mj_tb 376 (by decide +kernel) (by decide +kernel)
theorem w_377 : Cond.code yX9_set cX9_set 4 none ∈ mj_TB := mj_tb 377 (by decide +kernel) (by decide +kernel)
theorem w_378 : Cond.methodLink RL 28 yX10_ward ∈ mj_TB := mj_tb 378 (by decide +kernel) (by decide +kernel)
theorem w_379 : Cond.instanceMethod yX10_ward ∈ mj_TB := mj_tb 379 (by decide +kernel) (by decide +kernel)
theorem w_380 : Cond.selects RX10 yX10_ward yX10_ward ∈ mj_TB := mj_tb 380 (by decide +kernel) (by decide +kernel)
theorem w_381 : Cond.code yX10_ward cX10_ward 4 (some .int) ∈ mj_TB := mj_tb 381 (by decide +kernel) (by decide +kernel)
theorem w_382 : Cond.methodLink RL 32 yX10_voter ∈ mj_TB := mj_tb 382 (by decide +kernel) (by decide +kernel)
theorem w_383 : Cond.instanceMethod yX10_voter ∈ mj_TB := mj_tb 383 (by decide +kernel) (by decide +kernel)
theorem w_384 : Cond.selects RX10 yX10_voter yX10_voter ∈ mj_TB := mj_tb 384 (by decide +kernel) (by decide +kernel)
theorem w_385 : Cond.code yX10_voter cX10_voter 4 (some .int) ∈ mj_TB := mj_tb 385 (by decide +kernel) (by decide +kernel)
theorem w_386 : Cond.methodLink RX10 133 yX10_full ∈ mj_TB := mj_tb 386 (by decide +kernel) (by decide +kernel)
theorem w_388 : Cond.instanceMethod yX10_full ∈ mj_TB := mj_tb 388 (by decide +kernel) (by decide +kernel)
theorem w_389 : Cond.code yX10_full cX10_full 1 (some .int) ∈ mj_TB := mj_tb 389 (by decide +kernel) (by decide +kernel)
theorem w_390 : Cond.methodLink RX10 136 yX7_add ∈ mj_TB := mj_tb 390 (by decide +kernel) (by decide +kernel)
theorem w_391 : Cond.instanceMethod yX7_add ∈ mj_TB := mj_tb 391 (by decide +kernel) (by decide +kernel)
theorem w_392 : Cond.selects RX7 yX7_add yX7_add ∈ mj_TB := mj_tb 392 (by decide +kernel) (by decide +kernel)
theorem w_393 : Cond.code yX7_add cX7_add 4 none ∈ mj_TB := mj_tb 393 (by decide +kernel) (by decide +kernel)
theorem w_395 : Cond.methodLink RL 36 yX10_type ∈ mj_TB := mj_tb 395 (by decide +kernel) (by decide +kernel)
theorem w_396 : Cond.instanceMethod yX10_type ∈ mj_TB := mj_tb 396 (by decide +kernel) (by decide +kernel)
theorem w_397 : Cond.selects RX10 yX10_type yX10_type ∈ mj_TB := mj_tb 397 (by decide +kernel) (by decide +kernel)
theorem w_398 : Cond.code yX10_type cX10_type 2 (some .int) ∈ mj_TB := mj_tb 398 (by decide +kernel) (by decide +kernel)
theorem w_399 : Cond.methodLink RX10 142 yX5_add ∈ mj_TB := mj_tb 399 (by decide +kernel) (by decide +kernel)
theorem w_400 : Cond.instanceMethod yX5_add ∈ mj_TB := mj_tb 400 (by decide +kernel) (by decide +kernel)
theorem w_401 : Cond.selects RX5 yX5_add yX5_add ∈ mj_TB := mj_tb 401 (by decide +kernel) (by decide +kernel)
theorem w_402 : Cond.code yX5_add cX5_add 2 none ∈ mj_TB := mj_tb 402 (by decide +kernel) (by decide +kernel)
theorem w_404 : Cond.methodLink RL 40 yX10_clear ∈ mj_TB := mj_tb 404 (by decide +kernel) (by decide +kernel)
theorem w_405 : Cond.instanceMethod yX10_clear ∈ mj_TB := mj_tb 405 (by decide +kernel) (by decide +kernel)
theorem w_406 : Cond.selects RX10 yX10_clear yX10_clear ∈ mj_TB := mj_tb 406 (by decide +kernel) (by decide +kernel)
theorem w_407 : Cond.code yX10_clear cX10_clear 2 (some .int) ∈ mj_TB := mj_tb 407 (by decide +kernel) (by decide +kernel)
theorem w_408 : Cond.methodLink RL 45 yX10_read ∈ mj_TB := mj_tb 408 (by decide +kernel) (by decide +kernel)
theorem w_409 : Cond.instanceMethod yX10_read ∈ mj_TB := mj_tb 409 (by decide +kernel) (by decide +kernel)
theorem w_410 : Cond.selects RX10 yX10_read yX10_read ∈ mj_TB := mj_tb 410 (by decide +kernel) (by decide +kernel)
theorem w_411 : Cond.code yX10_read cX10_read 2 (some .int) ∈ mj_TB := mj_tb 411 (by decide +kernel) (by decide +kernel)
theorem w_412 : Cond.methodLink RX10 144 yX5_tell ∈ mj_TB := mj_tb 412 (by decide +kernel) (by decide +kernel)
theorem w_413 : Cond.instanceMethod yX5_tell ∈ mj_TB := mj_tb 413 (by decide +kernel) (by decide +kernel)
theorem w_414 : Cond.selects RX5 yX5_tell yX5_tell ∈ mj_TB := mj_tb 414 (by decide +kernel) (by decide +kernel)
theorem w_415 : Cond.code yX5_tell cX5_tell 3 (some .int) ∈ mj_TB := mj_tb 415 (by decide +kernel) (by decide +kernel)
theorem w_416 : Cond.methodLink RX5 35 yX5_findTokens ∈ mj_TB := mj_tb 416 (by decide +kernel) (by decide +kernel)
theorem w_418 : Cond.instanceMethod yX5_findTokens ∈ mj_TB := mj_tb 418 (by decide +kernel) (by decide +kernel)
theorem w_419 : Cond.code yX5_findTokens cX5_findTokens 4 none ∈ mj_TB := mj_tb 419 (by decide +kernel) (by decide +kernel)
theorem w_420 : Cond.methodLink RX5 107 yX5_endOfRun ∈ mj_TB := mj_tb 420 (by decide +kernel) (by decide +kernel)
theorem w_422 : Cond.instanceMethod yX5_endOfRun ∈ mj_TB := mj_tb 422 (by decide +kernel) (by decide +kernel)
theorem w_423 : Cond.code yX5_endOfRun cX5_endOfRun 5 (some .int) ∈ mj_TB := mj_tb 423 (by decide +kernel) (by decide +kernel)
theorem w_424 : Cond.methodLink RX5 119 yX5_byteAt ∈ mj_TB := mj_tb 424 (by decide +kernel) (by decide +kernel)
theorem w_426 : Cond.instanceMethod yX5_byteAt ∈ mj_TB := mj_tb 426 (by decide +kernel) (by decide +kernel)
theorem w_427 : Cond.code yX5_byteAt cX5_byteAt 2 (some .int) ∈ mj_TB := mj_tb 427 (by decide +kernel) (by decide +kernel)
theorem w_428 : Cond.methodLink RX5 111 yX5_endOfToken ∈ mj_TB := mj_tb 428 (by decide +kernel) (by decide +kernel)
theorem w_430 : Cond.instanceMethod yX5_endOfToken ∈ mj_TB := mj_tb 430 (by decide +kernel) (by decide +kernel)
theorem w_431 : Cond.code yX5_endOfToken cX5_endOfToken 3 (some .int) ∈ mj_TB := mj_tb 431 (by decide +kernel) (by decide +kernel)
theorem w_432 : Cond.methodLink RX5 122 Lib.Math.min.name ∈ mj_TB := mj_tb 432 (by decide +kernel) (by decide +kernel)
theorem w_433 : Cond.static Lib.Math.min.name ∈ mj_TB := mj_tb 433 (by decide +kernel) (by decide +kernel)
theorem w_434 : Cond.code Lib.Math.min.name Lib.Math.min.code 2 (some .int) ∈ mj_TB := mj_tb 434 (by decide +kernel) (by decide +kernel)
theorem w_435 : Cond.methodLink RX5 115 yX5_tokenIn ∈ mj_TB := mj_tb 435 (by decide +kernel) (by decide +kernel)
theorem w_437 : Cond.instanceMethod yX5_tokenIn ∈ mj_TB := mj_tb 437 (by decide +kernel) (by decide +kernel)
theorem w_438 : Cond.code yX5_tokenIn cX5_tokenIn 4 (some .int) ∈ mj_TB := mj_tb 438 (by decide +kernel) (by decide +kernel)
theorem w_439 : Cond.methodLink RX5 127 yX5_wordIn ∈ mj_TB := mj_tb 439 (by decide +kernel) (by decide +kernel)
theorem w_441 : Cond.instanceMethod yX5_wordIn ∈ mj_TB := mj_tb 441 (by decide +kernel) (by decide +kernel)
theorem w_442 : Cond.code yX5_wordIn cX5_wordIn 3 (some .int) ∈ mj_TB := mj_tb 442 (by decide +kernel) (by decide +kernel)
theorem w_444 : Cond.methodLink RX5 135 yX5_isWord ∈ mj_TB := mj_tb 444 (by decide +kernel) (by decide +kernel)
theorem w_446 : Cond.instanceMethod yX5_isWord ∈ mj_TB := mj_tb 446 (by decide +kernel) (by decide +kernel)
theorem w_447 : Cond.code yX5_isWord cX5_isWord 5 (some .boolean) ∈ mj_TB := mj_tb 447 (by decide +kernel) (by decide +kernel)
theorem w_448 : Cond.methodLink RX5 144 yJ0_length_8abf5 ∈ mj_TB := mj_tb 448 (by decide +kernel) (by decide +kernel)
theorem w_449 : Cond.instanceMethod yJ0_length_8abf5 ∈ mj_TB := mj_tb 449 (by decide +kernel) (by decide +kernel)
theorem w_450 : Cond.selects RJ0 yJ0_length_8abf5 yJ0_length_8abf5 ∈ mj_TB := mj_tb 450 (by decide +kernel) (by decide +kernel)
theorem w_451 : Cond.code yJ0_length_8abf5 cJ0_length_8abf5 1 (some .int) ∈ mj_TB := mj_tb 451 (by decide +kernel) (by decide +kernel)
theorem w_452 : Cond.methodLink RJ0 335 yJ0_coder_7d493 ∈ mj_TB := mj_tb 452 (by decide +kernel) (by decide +kernel)
theorem w_453 : Cond.instanceMethod yJ0_coder_7d493 ∈ mj_TB := mj_tb 453 (by decide +kernel) (by decide +kernel)
theorem w_454 : Cond.selects RJ0 yJ0_coder_7d493 yJ0_coder_7d493 ∈ mj_TB := mj_tb 454 (by decide +kernel) (by decide +kernel)
theorem w_455 : Cond.code yJ0_coder_7d493 cJ0_coder_7d493 1 (some .byte) ∈ mj_TB := mj_tb 455 (by decide +kernel) (by decide +kernel)
theorem w_458 : Cond.methodLink RX5 148 yJ0_charAt_5068e ∈ mj_TB := mj_tb 458 (by decide +kernel) (by decide +kernel)
theorem w_459 : Cond.instanceMethod yJ0_charAt_5068e ∈ mj_TB := mj_tb 459 (by decide +kernel) (by decide +kernel)
theorem w_460 : Cond.selects RJ0 yJ0_charAt_5068e yJ0_charAt_5068e ∈ mj_TB := mj_tb 460 (by decide +kernel) (by decide +kernel)
theorem w_461 : Cond.code yJ0_charAt_5068e cJ0_charAt_5068e 2 (some .char) ∈ mj_TB := mj_tb 461 (by decide +kernel) (by decide +kernel)
theorem w_462 : Cond.methodLink RJ0 492 yJ0_isLatin1_aae02 ∈ mj_TB := mj_tb 462 (by decide +kernel) (by decide +kernel)
theorem w_463 : Cond.instanceMethod yJ0_isLatin1_aae02 ∈ mj_TB := mj_tb 463 (by decide +kernel) (by decide +kernel)
theorem w_464 : Cond.selects RJ0 yJ0_isLatin1_aae02 yJ0_isLatin1_aae02 ∈ mj_TB := mj_tb 464 (by decide +kernel) (by decide +kernel)
theorem w_465 : Cond.code yJ0_isLatin1_aae02 cJ0_isLatin1_aae02 1 (some .boolean) ∈ mj_TB := mj_tb 465 (by decide +kernel) (by decide +kernel)
theorem w_466 : Cond.methodLink RJ0 495 yJ1_charAt_3b067 ∈ mj_TB := mj_tb 466 (by decide +kernel) (by decide +kernel)
theorem w_467 : Cond.static yJ1_charAt_3b067 ∈ mj_TB := mj_tb 467 (by decide +kernel) (by decide +kernel)
theorem w_468 : Cond.code yJ1_charAt_3b067 cJ1_charAt_3b067 2 (some .char) ∈ mj_TB := mj_tb 468 (by decide +kernel) (by decide +kernel)
theorem w_469 : Cond.methodLink RJ1 9 yJ0_checkIndex_df160 ∈ mj_TB := mj_tb 469 (by decide +kernel) (by decide +kernel)
theorem w_470 : Cond.static yJ0_checkIndex_df160 ∈ mj_TB := mj_tb 470 (by decide +kernel) (by decide +kernel)
theorem w_471 : Cond.code yJ0_checkIndex_df160 cJ0_checkIndex_df160 2 none ∈ mj_TB := mj_tb 471 (by decide +kernel) (by decide +kernel)
theorem w_474 : Cond.methodLink RJ0 1059 yJ3_checkIndex_8e157 ∈ mj_TB := mj_tb 474 (by decide +kernel) (by decide +kernel)
theorem w_475 : Cond.static yJ3_checkIndex_8e157 ∈ mj_TB := mj_tb 475 (by decide +kernel) (by decide +kernel)
theorem w_476 : Cond.code yJ3_checkIndex_8e157 cJ3_checkIndex_8e157 3 (some .int) ∈ mj_TB := mj_tb 476 (by decide +kernel) (by decide +kernel)
theorem w_477 : Cond.methodLink RJ0 498 yJ2_charAt_3b067 ∈ mj_TB := mj_tb 477 (by decide +kernel) (by decide +kernel)
theorem w_478 : Cond.static yJ2_charAt_3b067 ∈ mj_TB := mj_tb 478 (by decide +kernel) (by decide +kernel)
theorem w_479 : Cond.code yJ2_charAt_3b067 cJ2_charAt_3b067 2 (some .char) ∈ mj_TB := mj_tb 479 (by decide +kernel) (by decide +kernel)
theorem w_480 : Cond.methodLink RJ2 67 yJ2_checkIndex_2214a ∈ mj_TB := mj_tb 480 (by decide +kernel) (by decide +kernel)
theorem w_481 : Cond.static yJ2_checkIndex_2214a ∈ mj_TB := mj_tb 481 (by decide +kernel) (by decide +kernel)
theorem w_482 : Cond.code yJ2_checkIndex_2214a cJ2_checkIndex_2214a 2 none ∈ mj_TB := mj_tb 482 (by decide +kernel) (by decide +kernel)
theorem w_483 : Cond.methodLink RJ2 48 yJ2_length_9d52b ∈ mj_TB := mj_tb 483 (by decide +kernel) (by decide +kernel)
theorem w_484 : Cond.static yJ2_length_9d52b ∈ mj_TB := mj_tb 484 (by decide +kernel) (by decide +kernel)
theorem w_485 : Cond.code yJ2_length_9d52b cJ2_length_9d52b 1 (some .int) ∈ mj_TB := mj_tb 485 (by decide +kernel) (by decide +kernel)
theorem w_486 : Cond.methodLink RJ2 414 yJ0_checkIndex_df160 ∈ mj_TB := mj_tb 486 (by decide +kernel) (by decide +kernel)
theorem w_487 : Cond.methodLink RJ2 71 yJ2_getChar_3b067 ∈ mj_TB := mj_tb 487 (by decide +kernel) (by decide +kernel)
theorem w_488 : Cond.static yJ2_getChar_3b067 ∈ mj_TB := mj_tb 488 (by decide +kernel) (by decide +kernel)
theorem w_489 : Cond.code yJ2_getChar_3b067 cJ2_getChar_3b067 2 (some .char) ∈ mj_TB := mj_tb 489 (by decide +kernel) (by decide +kernel)
theorem w_499 : Cond.methodLink RX5 130 yX5_numberIn ∈ mj_TB := mj_tb 499 (by decide +kernel) (by decide +kernel)
theorem w_501 : Cond.instanceMethod yX5_numberIn ∈ mj_TB := mj_tb 501 (by decide +kernel) (by decide +kernel)
theorem w_502 : Cond.code yX5_numberIn cX5_numberIn 4 (some .int) ∈ mj_TB := mj_tb 502 (by decide +kernel) (by decide +kernel)
theorem w_503 : Cond.methodLink RX5 38 yX5_numberComes ∈ mj_TB := mj_tb 503 (by decide +kernel) (by decide +kernel)
theorem w_505 : Cond.instanceMethod yX5_numberComes ∈ mj_TB := mj_tb 505 (by decide +kernel) (by decide +kernel)
theorem w_506 : Cond.code yX5_numberComes cX5_numberComes 3 (some .boolean) ∈ mj_TB := mj_tb 506 (by decide +kernel) (by decide +kernel)
theorem w_507 : Cond.methodLink RX5 56 yX5_advance ∈ mj_TB := mj_tb 507 (by decide +kernel) (by decide +kernel)
theorem w_509 : Cond.instanceMethod yX5_advance ∈ mj_TB := mj_tb 509 (by decide +kernel) (by decide +kernel)
theorem w_510 : Cond.code yX5_advance cX5_advance 1 none ∈ mj_TB := mj_tb 510 (by decide +kernel) (by decide +kernel)
theorem w_511 : Cond.methodLink RX5 42 yX5_fault ∈ mj_TB := mj_tb 511 (by decide +kernel) (by decide +kernel)
theorem w_513 : Cond.instanceMethod yX5_fault ∈ mj_TB := mj_tb 513 (by decide +kernel) (by decide +kernel)
theorem w_514 : Cond.code yX5_fault cX5_fault 1 (some .int) ∈ mj_TB := mj_tb 514 (by decide +kernel) (by decide +kernel)
theorem w_515 : Cond.methodLink RX5 46 yX1_restart ∈ mj_TB := mj_tb 515 (by decide +kernel) (by decide +kernel)
theorem w_516 : Cond.methodLink RX5 52 yX5_stopComes ∈ mj_TB := mj_tb 516 (by decide +kernel) (by decide +kernel)
theorem w_518 : Cond.instanceMethod yX5_stopComes ∈ mj_TB := mj_tb 518 (by decide +kernel) (by decide +kernel)
theorem w_519 : Cond.code yX5_stopComes cX5_stopComes 1 (some .boolean) ∈ mj_TB := mj_tb 519 (by decide +kernel) (by decide +kernel)
theorem w_520 : Cond.methodLink RX5 59 yX5_itemComes ∈ mj_TB := mj_tb 520 (by decide +kernel) (by decide +kernel)
theorem w_522 : Cond.instanceMethod yX5_itemComes ∈ mj_TB := mj_tb 522 (by decide +kernel) (by decide +kernel)
theorem w_523 : Cond.code yX5_itemComes cX5_itemComes 2 (some .boolean) ∈ mj_TB := mj_tb 523 (by decide +kernel) (by decide +kernel)
theorem w_524 : Cond.methodLink RX5 67 yX5_cellsCome ∈ mj_TB := mj_tb 524 (by decide +kernel) (by decide +kernel)
theorem w_526 : Cond.instanceMethod yX5_cellsCome ∈ mj_TB := mj_tb 526 (by decide +kernel) (by decide +kernel)
theorem w_527 : Cond.code yX5_cellsCome cX5_cellsCome 4 (some .boolean) ∈ mj_TB := mj_tb 527 (by decide +kernel) (by decide +kernel)
theorem w_528 : Cond.methodLink RX5 92 yX4_setKind ∈ mj_TB := mj_tb 528 (by decide +kernel) (by decide +kernel)
theorem w_529 : Cond.methodLink RX5 75 yX5_pairsCome ∈ mj_TB := mj_tb 529 (by decide +kernel) (by decide +kernel)
theorem w_531 : Cond.instanceMethod yX5_pairsCome ∈ mj_TB := mj_tb 531 (by decide +kernel) (by decide +kernel)
theorem w_532 : Cond.code yX5_pairsCome cX5_pairsCome 4 (some .boolean) ∈ mj_TB := mj_tb 532 (by decide +kernel) (by decide +kernel)
theorem w_533 : Cond.methodLink RX5 98 yX9_set ∈ mj_TB := mj_tb 533 (by decide +kernel) (by decide +kernel)
theorem w_534 : Cond.methodLink RX5 88 yX5_voterComes ∈ mj_TB := mj_tb 534 (by decide +kernel) (by decide +kernel)
theorem w_536 : Cond.instanceMethod yX5_voterComes ∈ mj_TB := mj_tb 536 (by decide +kernel) (by decide +kernel)
theorem w_537 : Cond.code yX5_voterComes cX5_voterComes 4 (some .boolean) ∈ mj_TB := mj_tb 537 (by decide +kernel) (by decide +kernel)
theorem w_538 : Cond.methodLink RX5 104 yX7_add ∈ mj_TB := mj_tb 538 (by decide +kernel) (by decide +kernel)
theorem w_539 : Cond.methodLink RX10 148 yX1_copy ∈ mj_TB := mj_tb 539 (by decide +kernel) (by decide +kernel)
theorem w_540 : Cond.instanceMethod yX1_copy ∈ mj_TB := mj_tb 540 (by decide +kernel) (by decide +kernel)
theorem w_541 : Cond.selects RX1 yX1_copy yX1_copy ∈ mj_TB := mj_tb 541 (by decide +kernel) (by decide +kernel)
theorem w_542 : Cond.code yX1_copy cX1_copy 2 none ∈ mj_TB := mj_tb 542 (by decide +kernel) (by decide +kernel)
theorem w_543 : Cond.methodLink RX1 57 yX4_copy ∈ mj_TB := mj_tb 543 (by decide +kernel) (by decide +kernel)
theorem w_544 : Cond.instanceMethod yX4_copy ∈ mj_TB := mj_tb 544 (by decide +kernel) (by decide +kernel)
theorem w_545 : Cond.selects RX4 yX4_copy yX4_copy ∈ mj_TB := mj_tb 545 (by decide +kernel) (by decide +kernel)
theorem w_546 : Cond.code yX4_copy cX4_copy 2 none ∈ mj_TB := mj_tb 546 (by decide +kernel) (by decide +kernel)
theorem w_547 : Cond.methodLink RX4 18 arraycopyName ∈ mj_TB := mj_tb 547 (by decide +kernel) (by decide +kernel)
theorem w_548 : Cond.static arraycopyName ∈ mj_TB := mj_tb 548 (by decide +kernel) (by decide +kernel)
theorem w_549 : Cond.native arraycopyName ∈ mj_TB := mj_tb 549 (by decide +kernel) (by decide +kernel)
theorem w_550 : Cond.methodLink RX1 61 yX9_copy ∈ mj_TB := mj_tb 550 (by decide +kernel) (by decide +kernel)
theorem w_551 : Cond.instanceMethod yX9_copy ∈ mj_TB := mj_tb 551 (by decide +kernel) (by decide +kernel)
theorem w_552 : Cond.selects RX9 yX9_copy yX9_copy ∈ mj_TB := mj_tb 552 (by decide +kernel) (by decide +kernel)
theorem w_553 : Cond.code yX9_copy cX9_copy 2 none ∈ mj_TB := mj_tb 553 (by decide +kernel) (by decide +kernel)
theorem w_554 : Cond.methodLink RX9 18 arraycopyName ∈ mj_TB := mj_tb 554 (by decide +kernel) (by decide +kernel)
theorem w_555 : Cond.methodLink RX1 64 yX7_copy ∈ mj_TB := mj_tb 555 (by decide +kernel) (by decide +kernel)
theorem w_556 : Cond.instanceMethod yX7_copy ∈ mj_TB := mj_tb 556 (by decide +kernel) (by decide +kernel)
theorem w_557 : Cond.selects RX7 yX7_copy yX7_copy ∈ mj_TB := mj_tb 557 (by decide +kernel) (by decide +kernel)
theorem w_558 : Cond.code yX7_copy cX7_copy 2 none ∈ mj_TB := mj_tb 558 (by decide +kernel) (by decide +kernel)
theorem w_559 : Cond.methodLink RX7 25 arraycopyName ∈ mj_TB := mj_tb 559 (by decide +kernel) (by decide +kernel)
theorem w_560 : Cond.methodLink RX1 67 yX3_copy ∈ mj_TB := mj_tb 560 (by decide +kernel) (by decide +kernel)
theorem w_561 : Cond.instanceMethod yX3_copy ∈ mj_TB := mj_tb 561 (by decide +kernel) (by decide +kernel)
theorem w_562 : Cond.selects RX3 yX3_copy yX3_copy ∈ mj_TB := mj_tb 562 (by decide +kernel) (by decide +kernel)
theorem w_563 : Cond.code yX3_copy cX3_copy 2 none ∈ mj_TB := mj_tb 563 (by decide +kernel) (by decide +kernel)
theorem w_564 : Cond.methodLink RX3 19 arraycopyName ∈ mj_TB := mj_tb 564 (by decide +kernel) (by decide +kernel)
theorem w_565 : Cond.methodLink RX1 70 yX2_copy ∈ mj_TB := mj_tb 565 (by decide +kernel) (by decide +kernel)
theorem w_566 : Cond.instanceMethod yX2_copy ∈ mj_TB := mj_tb 566 (by decide +kernel) (by decide +kernel)
theorem w_567 : Cond.selects RX2 yX2_copy yX2_copy ∈ mj_TB := mj_tb 567 (by decide +kernel) (by decide +kernel)
theorem w_568 : Cond.code yX2_copy cX2_copy 2 none ∈ mj_TB := mj_tb 568 (by decide +kernel) (by decide +kernel)
theorem w_569 : Cond.methodLink RX2 22 arraycopyName ∈ mj_TB := mj_tb 569 (by decide +kernel) (by decide +kernel)
theorem w_570 : Cond.methodLink RX1 73 arraycopyName ∈ mj_TB := mj_tb 570 (by decide +kernel) (by decide +kernel)
theorem w_572 : Cond.methodLink RL 49 yX10_day ∈ mj_TB := mj_tb 572 (by decide +kernel) (by decide +kernel)
theorem w_573 : Cond.instanceMethod yX10_day ∈ mj_TB := mj_tb 573 (by decide +kernel) (by decide +kernel)
theorem w_574 : Cond.selects RX10 yX10_day yX10_day ∈ mj_TB := mj_tb 574 (by decide +kernel) (by decide +kernel)
theorem w_575 : Cond.code yX10_day cX10_day 2 (some .int) ∈ mj_TB := mj_tb 575 (by decide +kernel) (by decide +kernel)
theorem w_576 : Cond.methodLink RX10 152 yX1_keepPast ∈ mj_TB := mj_tb 576 (by decide +kernel) (by decide +kernel)
theorem w_577 : Cond.instanceMethod yX1_keepPast ∈ mj_TB := mj_tb 577 (by decide +kernel) (by decide +kernel)
theorem w_578 : Cond.selects RX1 yX1_keepPast yX1_keepPast ∈ mj_TB := mj_tb 578 (by decide +kernel) (by decide +kernel)
theorem w_579 : Cond.code yX1_keepPast cX1_keepPast 1 none ∈ mj_TB := mj_tb 579 (by decide +kernel) (by decide +kernel)
theorem w_580 : Cond.methodLink RX1 104 yX2_keep ∈ mj_TB := mj_tb 580 (by decide +kernel) (by decide +kernel)
theorem w_581 : Cond.instanceMethod yX2_keep ∈ mj_TB := mj_tb 581 (by decide +kernel) (by decide +kernel)
theorem w_582 : Cond.selects RX2 yX2_keep yX2_keep ∈ mj_TB := mj_tb 582 (by decide +kernel) (by decide +kernel)
theorem w_583 : Cond.code yX2_keep cX2_keep 3 none ∈ mj_TB := mj_tb 583 (by decide +kernel) (by decide +kernel)
theorem w_584 : Cond.methodLink RX2 28 yX2_dropOldest ∈ mj_TB := mj_tb 584 (by decide +kernel) (by decide +kernel)
theorem w_586 : Cond.instanceMethod yX2_dropOldest ∈ mj_TB := mj_tb 586 (by decide +kernel) (by decide +kernel)
theorem w_587 : Cond.code yX2_dropOldest cX2_dropOldest 1 none ∈ mj_TB := mj_tb 587 (by decide +kernel) (by decide +kernel)
theorem w_589 : Cond.methodLink RX10 155 yX1_passDays ∈ mj_TB := mj_tb 589 (by decide +kernel) (by decide +kernel)
theorem w_590 : Cond.instanceMethod yX1_passDays ∈ mj_TB := mj_tb 590 (by decide +kernel) (by decide +kernel)
theorem w_591 : Cond.selects RX1 yX1_passDays yX1_passDays ∈ mj_TB := mj_tb 591 (by decide +kernel) (by decide +kernel)
theorem w_592 : Cond.code yX1_passDays cX1_passDays 3 none ∈ mj_TB := mj_tb 592 (by decide +kernel) (by decide +kernel)
theorem w_593 : Cond.methodLink RX1 100 yX9_frostOn ∈ mj_TB := mj_tb 593 (by decide +kernel) (by decide +kernel)
theorem w_594 : Cond.methodLink RX1 108 yX9_sunOn ∈ mj_TB := mj_tb 594 (by decide +kernel) (by decide +kernel)
theorem w_595 : Cond.methodLink RX1 111 yX4_passDay ∈ mj_TB := mj_tb 595 (by decide +kernel) (by decide +kernel)
theorem w_596 : Cond.instanceMethod yX4_passDay ∈ mj_TB := mj_tb 596 (by decide +kernel) (by decide +kernel)
theorem w_597 : Cond.selects RX4 yX4_passDay yX4_passDay ∈ mj_TB := mj_tb 597 (by decide +kernel) (by decide +kernel)
theorem w_598 : Cond.code yX4_passDay cX4_passDay 4 none ∈ mj_TB := mj_tb 598 (by decide +kernel) (by decide +kernel)
theorem w_599 : Cond.methodLink RX4 40 yX0_after ∈ mj_TB := mj_tb 599 (by decide +kernel) (by decide +kernel)
theorem w_600 : Cond.static yX0_after ∈ mj_TB := mj_tb 600 (by decide +kernel) (by decide +kernel)
theorem w_601 : Cond.code yX0_after cX0_after 5 (some .int) ∈ mj_TB := mj_tb 601 (by decide +kernel) (by decide +kernel)
theorem w_602 : Cond.methodLink RX0 9 yX0_grows ∈ mj_TB := mj_tb 602 (by decide +kernel) (by decide +kernel)
theorem w_603 : Cond.static yX0_grows ∈ mj_TB := mj_tb 603 (by decide +kernel) (by decide +kernel)
theorem w_604 : Cond.code yX0_grows cX0_grows 3 (some .int) ∈ mj_TB := mj_tb 604 (by decide +kernel) (by decide +kernel)
theorem w_605 : Cond.methodLink RX0 27 yX0_streamGrows ∈ mj_TB := mj_tb 605 (by decide +kernel) (by decide +kernel)
theorem w_606 : Cond.static yX0_streamGrows ∈ mj_TB := mj_tb 606 (by decide +kernel) (by decide +kernel)
theorem w_607 : Cond.code yX0_streamGrows cX0_streamGrows 1 (some .int) ∈ mj_TB := mj_tb 607 (by decide +kernel) (by decide +kernel)
theorem w_608 : Cond.methodLink RX0 24 Lib.Math.max.name ∈ mj_TB := mj_tb 608 (by decide +kernel) (by decide +kernel)
theorem w_609 : Cond.static Lib.Math.max.name ∈ mj_TB := mj_tb 609 (by decide +kernel) (by decide +kernel)
theorem w_610 : Cond.code Lib.Math.max.name Lib.Math.max.code 2 (some .int) ∈ mj_TB := mj_tb 610 (by decide +kernel) (by decide +kernel)
theorem w_611 : Cond.methodLink RX0 15 Lib.Math.min.name ∈ mj_TB := mj_tb 611 (by decide +kernel) (by decide +kernel)
theorem w_612 : Cond.methodLink RX0 21 yX0_melts ∈ mj_TB := mj_tb 612 (by decide +kernel) (by decide +kernel)
theorem w_613 : Cond.static yX0_melts ∈ mj_TB := mj_tb 613 (by decide +kernel) (by decide +kernel)
theorem w_614 : Cond.code yX0_melts cX0_melts 2 (some .int) ∈ mj_TB := mj_tb 614 (by decide +kernel) (by decide +kernel)
theorem w_615 : Cond.methodLink RX10 158 yX4_together ∈ mj_TB := mj_tb 615 (by decide +kernel) (by decide +kernel)
theorem w_616 : Cond.instanceMethod yX4_together ∈ mj_TB := mj_tb 616 (by decide +kernel) (by decide +kernel)
theorem w_617 : Cond.selects RX4 yX4_together yX4_together ∈ mj_TB := mj_tb 617 (by decide +kernel) (by decide +kernel)
theorem w_618 : Cond.code yX4_together cX4_together 3 (some .int) ∈ mj_TB := mj_tb 618 (by decide +kernel) (by decide +kernel)
theorem w_619 : Cond.methodLink RL 53 yX10_tread ∈ mj_TB := mj_tb 619 (by decide +kernel) (by decide +kernel)
theorem w_620 : Cond.instanceMethod yX10_tread ∈ mj_TB := mj_tb 620 (by decide +kernel) (by decide +kernel)
theorem w_621 : Cond.selects RX10 yX10_tread yX10_tread ∈ mj_TB := mj_tb 621 (by decide +kernel) (by decide +kernel)
theorem w_622 : Cond.code yX10_tread cX10_tread 4 (some .int) ∈ mj_TB := mj_tb 622 (by decide +kernel) (by decide +kernel)
theorem w_623 : Cond.methodLink RX10 161 yX4_bears ∈ mj_TB := mj_tb 623 (by decide +kernel) (by decide +kernel)
theorem w_624 : Cond.instanceMethod yX4_bears ∈ mj_TB := mj_tb 624 (by decide +kernel) (by decide +kernel)
theorem w_625 : Cond.selects RX4 yX4_bears yX4_bears ∈ mj_TB := mj_tb 625 (by decide +kernel) (by decide +kernel)
theorem w_626 : Cond.code yX4_bears cX4_bears 2 (some .int) ∈ mj_TB := mj_tb 626 (by decide +kernel) (by decide +kernel)
theorem w_627 : Cond.methodLink RX4 34 yX0_bears ∈ mj_TB := mj_tb 627 (by decide +kernel) (by decide +kernel)
theorem w_628 : Cond.static yX0_bears ∈ mj_TB := mj_tb 628 (by decide +kernel) (by decide +kernel)
theorem w_629 : Cond.code yX0_bears cX0_bears 3 (some .int) ∈ mj_TB := mj_tb 629 (by decide +kernel) (by decide +kernel)
theorem w_630 : Cond.methodLink RX10 164 yX4_iceOf ∈ mj_TB := mj_tb 630 (by decide +kernel) (by decide +kernel)
theorem w_631 : Cond.instanceMethod yX4_iceOf ∈ mj_TB := mj_tb 631 (by decide +kernel) (by decide +kernel)
theorem w_632 : Cond.selects RX4 yX4_iceOf yX4_iceOf ∈ mj_TB := mj_tb 632 (by decide +kernel) (by decide +kernel)
theorem w_633 : Cond.code yX4_iceOf cX4_iceOf 2 (some .int) ∈ mj_TB := mj_tb 633 (by decide +kernel) (by decide +kernel)
theorem w_634 : Cond.methodLink RX10 167 Lib.Math.max.name ∈ mj_TB := mj_tb 634 (by decide +kernel) (by decide +kernel)
theorem w_635 : Cond.methodLink RX10 173 yX4_setIce ∈ mj_TB := mj_tb 635 (by decide +kernel) (by decide +kernel)
theorem w_636 : Cond.instanceMethod yX4_setIce ∈ mj_TB := mj_tb 636 (by decide +kernel) (by decide +kernel)
theorem w_637 : Cond.selects RX4 yX4_setIce yX4_setIce ∈ mj_TB := mj_tb 637 (by decide +kernel) (by decide +kernel)
theorem w_638 : Cond.code yX4_setIce cX4_setIce 3 none ∈ mj_TB := mj_tb 638 (by decide +kernel) (by decide +kernel)
theorem w_639 : Cond.methodLink RL 57 yX10_stone ∈ mj_TB := mj_tb 639 (by decide +kernel) (by decide +kernel)
theorem w_640 : Cond.instanceMethod yX10_stone ∈ mj_TB := mj_tb 640 (by decide +kernel) (by decide +kernel)
theorem w_641 : Cond.selects RX10 yX10_stone yX10_stone ∈ mj_TB := mj_tb 641 (by decide +kernel) (by decide +kernel)
theorem w_642 : Cond.code yX10_stone cX10_stone 2 (some .int) ∈ mj_TB := mj_tb 642 (by decide +kernel) (by decide +kernel)
theorem w_643 : Cond.methodLink RL 61 yX10_undo ∈ mj_TB := mj_tb 643 (by decide +kernel) (by decide +kernel)
theorem w_644 : Cond.instanceMethod yX10_undo ∈ mj_TB := mj_tb 644 (by decide +kernel) (by decide +kernel)
theorem w_645 : Cond.selects RX10 yX10_undo yX10_undo ∈ mj_TB := mj_tb 645 (by decide +kernel) (by decide +kernel)
theorem w_646 : Cond.code yX10_undo cX10_undo 1 (some .int) ∈ mj_TB := mj_tb 646 (by decide +kernel) (by decide +kernel)
theorem w_647 : Cond.methodLink RX10 177 yX10_no ∈ mj_TB := mj_tb 647 (by decide +kernel) (by decide +kernel)
theorem w_649 : Cond.instanceMethod yX10_no ∈ mj_TB := mj_tb 649 (by decide +kernel) (by decide +kernel)
theorem w_650 : Cond.code yX10_no cX10_no 1 (some .int) ∈ mj_TB := mj_tb 650 (by decide +kernel) (by decide +kernel)
theorem w_651 : Cond.methodLink RX10 180 yX2_goBack ∈ mj_TB := mj_tb 651 (by decide +kernel) (by decide +kernel)
theorem w_652 : Cond.instanceMethod yX2_goBack ∈ mj_TB := mj_tb 652 (by decide +kernel) (by decide +kernel)
theorem w_653 : Cond.selects RX2 yX2_goBack yX2_goBack ∈ mj_TB := mj_tb 653 (by decide +kernel) (by decide +kernel)
theorem w_654 : Cond.code yX2_goBack cX2_goBack 2 (some .int) ∈ mj_TB := mj_tb 654 (by decide +kernel) (by decide +kernel)
theorem w_655 : Cond.methodLink RL 65 yX10_of ∈ mj_TB := mj_tb 655 (by decide +kernel) (by decide +kernel)
theorem w_656 : Cond.instanceMethod yX10_of ∈ mj_TB := mj_tb 656 (by decide +kernel) (by decide +kernel)
theorem w_657 : Cond.selects RX10 yX10_of yX10_of ∈ mj_TB := mj_tb 657 (by decide +kernel) (by decide +kernel)
theorem w_658 : Cond.code yX10_of cX10_of 3 (some .int) ∈ mj_TB := mj_tb 658 (by decide +kernel) (by decide +kernel)
theorem w_659 : Cond.methodLink RL 69 yX10_about ∈ mj_TB := mj_tb 659 (by decide +kernel) (by decide +kernel)
theorem w_660 : Cond.instanceMethod yX10_about ∈ mj_TB := mj_tb 660 (by decide +kernel) (by decide +kernel)
theorem w_661 : Cond.selects RX10 yX10_about yX10_about ∈ mj_TB := mj_tb 661 (by decide +kernel) (by decide +kernel)
theorem w_662 : Cond.code yX10_about cX10_about 3 (some .int) ∈ mj_TB := mj_tb 662 (by decide +kernel) (by decide +kernel)
theorem w_663 : Cond.methodLink RX10 187 yX10_isVoter ∈ mj_TB := mj_tb 663 (by decide +kernel) (by decide +kernel)
theorem w_665 : Cond.instanceMethod yX10_isVoter ∈ mj_TB := mj_tb 665 (by decide +kernel) (by decide +kernel)
theorem w_666 : Cond.code yX10_isVoter cX10_isVoter 2 (some .boolean) ∈ mj_TB := mj_tb 666 (by decide +kernel) (by decide +kernel)
theorem w_667 : Cond.methodLink RX10 190 yX7_kindOf ∈ mj_TB := mj_tb 667 (by decide +kernel) (by decide +kernel)
theorem w_668 : Cond.instanceMethod yX7_kindOf ∈ mj_TB := mj_tb 668 (by decide +kernel) (by decide +kernel)
theorem w_669 : Cond.selects RX7 yX7_kindOf yX7_kindOf ∈ mj_TB := mj_tb 669 (by decide +kernel) (by decide +kernel)
theorem w_670 : Cond.code yX7_kindOf cX7_kindOf 2 (some .int) ∈ mj_TB := mj_tb 670 (by decide +kernel) (by decide +kernel)
theorem w_671 : Cond.methodLink RX10 191 yX7_weightOf ∈ mj_TB := mj_tb 671 (by decide +kernel) (by decide +kernel)
theorem w_672 : Cond.instanceMethod yX7_weightOf ∈ mj_TB := mj_tb 672 (by decide +kernel) (by decide +kernel)
theorem w_673 : Cond.selects RX7 yX7_weightOf yX7_weightOf ∈ mj_TB := mj_tb 673 (by decide +kernel) (by decide +kernel)
theorem w_674 : Cond.code yX7_weightOf cX7_weightOf 2 (some .int) ∈ mj_TB := mj_tb 674 (by decide +kernel) (by decide +kernel)
theorem w_675 : Cond.methodLink RX10 194 yX7_cellOf ∈ mj_TB := mj_tb 675 (by decide +kernel) (by decide +kernel)
theorem w_676 : Cond.instanceMethod yX7_cellOf ∈ mj_TB := mj_tb 676 (by decide +kernel) (by decide +kernel)
theorem w_677 : Cond.selects RX7 yX7_cellOf yX7_cellOf ∈ mj_TB := mj_tb 677 (by decide +kernel) (by decide +kernel)
theorem w_678 : Cond.code yX7_cellOf cX7_cellOf 2 (some .int) ∈ mj_TB := mj_tb 678 (by decide +kernel) (by decide +kernel)
theorem w_679 : Cond.methodLink RX10 197 yX10_yesNow ∈ mj_TB := mj_tb 679 (by decide +kernel) (by decide +kernel)
theorem w_681 : Cond.instanceMethod yX10_yesNow ∈ mj_TB := mj_tb 681 (by decide +kernel) (by decide +kernel)
theorem w_682 : Cond.code yX10_yesNow cX10_yesNow 1 (some .int) ∈ mj_TB := mj_tb 682 (by decide +kernel) (by decide +kernel)
theorem w_683 : Cond.methodLink RX10 245 yX1_frost ∈ mj_TB := mj_tb 683 (by decide +kernel) (by decide +kernel)
theorem w_684 : Cond.instanceMethod yX1_frost ∈ mj_TB := mj_tb 684 (by decide +kernel) (by decide +kernel)
theorem w_685 : Cond.selects RX1 yX1_frost yX1_frost ∈ mj_TB := mj_tb 685 (by decide +kernel) (by decide +kernel)
theorem w_686 : Cond.code yX1_frost cX1_frost 1 (some .int) ∈ mj_TB := mj_tb 686 (by decide +kernel) (by decide +kernel)
theorem w_687 : Cond.methodLink RX10 336 yX7_yes ∈ mj_TB := mj_tb 687 (by decide +kernel) (by decide +kernel)
theorem w_688 : Cond.instanceMethod yX7_yes ∈ mj_TB := mj_tb 688 (by decide +kernel) (by decide +kernel)
theorem w_689 : Cond.selects RX7 yX7_yes yX7_yes ∈ mj_TB := mj_tb 689 (by decide +kernel) (by decide +kernel)
theorem w_690 : Cond.code yX7_yes cX7_yes 6 (some .int) ∈ mj_TB := mj_tb 690 (by decide +kernel) (by decide +kernel)
theorem w_691 : Cond.methodLink RX7 35 yX4_leastBeside ∈ mj_TB := mj_tb 691 (by decide +kernel) (by decide +kernel)
theorem w_692 : Cond.instanceMethod yX4_leastBeside ∈ mj_TB := mj_tb 692 (by decide +kernel) (by decide +kernel)
theorem w_693 : Cond.selects RX4 yX4_leastBeside yX4_leastBeside ∈ mj_TB := mj_tb 693 (by decide +kernel) (by decide +kernel)
theorem w_694 : Cond.code yX4_leastBeside cX4_leastBeside 3 (some .int) ∈ mj_TB := mj_tb 694 (by decide +kernel) (by decide +kernel)
theorem w_695 : Cond.methodLink RX4 44 yX4_bears ∈ mj_TB := mj_tb 695 (by decide +kernel) (by decide +kernel)
theorem w_696 : Cond.methodLink RX4 47 Lib.Math.min.name ∈ mj_TB := mj_tb 696 (by decide +kernel) (by decide +kernel)
theorem w_697 : Cond.methodLink RX7 41 yX4_bears ∈ mj_TB := mj_tb 697 (by decide +kernel) (by decide +kernel)
theorem w_698 : Cond.methodLink RX7 44 yX6_yes ∈ mj_TB := mj_tb 698 (by decide +kernel) (by decide +kernel)
theorem w_699 : Cond.static yX6_yes ∈ mj_TB := mj_tb 699 (by decide +kernel) (by decide +kernel)
theorem w_700 : Cond.code yX6_yes cX6_yes 8 (some .boolean) ∈ mj_TB := mj_tb 700 (by decide +kernel) (by decide +kernel)
theorem w_701 : Cond.methodLink RX10 200 yX10_has ∈ mj_TB := mj_tb 701 (by decide +kernel) (by decide +kernel)
theorem w_702 : Cond.static yX10_has ∈ mj_TB := mj_tb 702 (by decide +kernel) (by decide +kernel)
theorem w_703 : Cond.code yX10_has cX10_has 2 (some .boolean) ∈ mj_TB := mj_tb 703 (by decide +kernel) (by decide +kernel)
theorem w_704 : Cond.methodLink RL 73 yX10_then ∈ mj_TB := mj_tb 704 (by decide +kernel) (by decide +kernel)
theorem w_705 : Cond.instanceMethod yX10_then ∈ mj_TB := mj_tb 705 (by decide +kernel) (by decide +kernel)
theorem w_706 : Cond.selects RX10 yX10_then yX10_then ∈ mj_TB := mj_tb 706 (by decide +kernel) (by decide +kernel)
theorem w_707 : Cond.code yX10_then cX10_then 5 (some .int) ∈ mj_TB := mj_tb 707 (by decide +kernel) (by decide +kernel)
theorem w_708 : Cond.methodLink RX10 204 yX1_iceBehind ∈ mj_TB := mj_tb 708 (by decide +kernel) (by decide +kernel)
theorem w_709 : Cond.instanceMethod yX1_iceBehind ∈ mj_TB := mj_tb 709 (by decide +kernel) (by decide +kernel)
theorem w_710 : Cond.selects RX1 yX1_iceBehind yX1_iceBehind ∈ mj_TB := mj_tb 710 (by decide +kernel) (by decide +kernel)
theorem w_711 : Cond.code yX1_iceBehind cX1_iceBehind 6 (some .int) ∈ mj_TB := mj_tb 711 (by decide +kernel) (by decide +kernel)
theorem w_712 : Cond.methodLink RX1 115 yX4_kindOf ∈ mj_TB := mj_tb 712 (by decide +kernel) (by decide +kernel)
theorem w_713 : Cond.methodLink RX1 118 yX4_iceOf ∈ mj_TB := mj_tb 713 (by decide +kernel) (by decide +kernel)
theorem w_714 : Cond.methodLink RX1 121 yX9_iceAfter ∈ mj_TB := mj_tb 714 (by decide +kernel) (by decide +kernel)
theorem w_715 : Cond.instanceMethod yX9_iceAfter ∈ mj_TB := mj_tb 715 (by decide +kernel) (by decide +kernel)
theorem w_716 : Cond.selects RX9 yX9_iceAfter yX9_iceAfter ∈ mj_TB := mj_tb 716 (by decide +kernel) (by decide +kernel)
theorem w_717 : Cond.code yX9_iceAfter cX9_iceAfter 4 (some .int) ∈ mj_TB := mj_tb 717 (by decide +kernel) (by decide +kernel)
theorem w_718 : Cond.methodLink RX9 36 yX9_frostOn ∈ mj_TB := mj_tb 718 (by decide +kernel) (by decide +kernel)
theorem w_719 : Cond.methodLink RX9 40 yX9_sunOn ∈ mj_TB := mj_tb 719 (by decide +kernel) (by decide +kernel)
theorem w_720 : Cond.methodLink RX9 43 yX0_after ∈ mj_TB := mj_tb 720 (by decide +kernel) (by decide +kernel)
theorem w_721 : Cond.methodLink RX10 207 yX0_bears ∈ mj_TB := mj_tb 721 (by decide +kernel) (by decide +kernel)
theorem w_722 : Cond.methodLink RL 77 yX10_when ∈ mj_TB := mj_tb 722 (by decide +kernel) (by decide +kernel)
theorem w_723 : Cond.instanceMethod yX10_when ∈ mj_TB := mj_tb 723 (by decide +kernel) (by decide +kernel)
theorem w_724 : Cond.selects RX10 yX10_when yX10_when ∈ mj_TB := mj_tb 724 (by decide +kernel) (by decide +kernel)
theorem w_725 : Cond.code yX10_when cX10_when 6 (some .int) ∈ mj_TB := mj_tb 725 (by decide +kernel) (by decide +kernel)
theorem w_726 : Cond.methodLink RX10 211 yX10_isBorne ∈ mj_TB := mj_tb 726 (by decide +kernel) (by decide +kernel)
theorem w_727 : Cond.static yX10_isBorne ∈ mj_TB := mj_tb 727 (by decide +kernel) (by decide +kernel)
theorem w_728 : Cond.code yX10_isBorne cX10_isBorne 1 (some .boolean) ∈ mj_TB := mj_tb 728 (by decide +kernel) (by decide +kernel)
theorem w_729 : Cond.methodLink RX10 214 yX9_iceAfter ∈ mj_TB := mj_tb 729 (by decide +kernel) (by decide +kernel)
theorem w_730 : Cond.methodLink RL 81 yX10_where ∈ mj_TB := mj_tb 730 (by decide +kernel) (by decide +kernel)
theorem w_731 : Cond.instanceMethod yX10_where ∈ mj_TB := mj_tb 731 (by decide +kernel) (by decide +kernel)
theorem w_732 : Cond.selects RX10 yX10_where yX10_where ∈ mj_TB := mj_tb 732 (by decide +kernel) (by decide +kernel)
theorem w_733 : Cond.code yX10_where cX10_where 4 (some .int) ∈ mj_TB := mj_tb 733 (by decide +kernel) (by decide +kernel)
theorem w_734 : Cond.methodLink RX10 218 yX4_copy ∈ mj_TB := mj_tb 734 (by decide +kernel) (by decide +kernel)
theorem w_735 : Cond.methodLink RX10 221 yX4_passDay ∈ mj_TB := mj_tb 735 (by decide +kernel) (by decide +kernel)
theorem w_736 : Cond.methodLink RX10 224 yX4_bearing ∈ mj_TB := mj_tb 736 (by decide +kernel) (by decide +kernel)
theorem w_737 : Cond.instanceMethod yX4_bearing ∈ mj_TB := mj_tb 737 (by decide +kernel) (by decide +kernel)
theorem w_738 : Cond.selects RX4 yX4_bearing yX4_bearing ∈ mj_TB := mj_tb 738 (by decide +kernel) (by decide +kernel)
theorem w_739 : Cond.code yX4_bearing cX4_bearing 4 (some .int) ∈ mj_TB := mj_tb 739 (by decide +kernel) (by decide +kernel)
theorem w_740 : Cond.methodLink RL 85 yX10_horses ∈ mj_TB := mj_tb 740 (by decide +kernel) (by decide +kernel)
theorem w_741 : Cond.instanceMethod yX10_horses ∈ mj_TB := mj_tb 741 (by decide +kernel) (by decide +kernel)
theorem w_742 : Cond.selects RX10 yX10_horses yX10_horses ∈ mj_TB := mj_tb 742 (by decide +kernel) (by decide +kernel)
theorem w_743 : Cond.code yX10_horses cX10_horses 3 (some .int) ∈ mj_TB := mj_tb 743 (by decide +kernel) (by decide +kernel)
theorem w_744 : Cond.methodLink RX10 227 yX4_bearsTogether ∈ mj_TB := mj_tb 744 (by decide +kernel) (by decide +kernel)
theorem w_745 : Cond.instanceMethod yX4_bearsTogether ∈ mj_TB := mj_tb 745 (by decide +kernel) (by decide +kernel)
theorem w_746 : Cond.selects RX4 yX4_bearsTogether yX4_bearsTogether ∈ mj_TB := mj_tb 746 (by decide +kernel) (by decide +kernel)
theorem w_747 : Cond.code yX4_bearsTogether cX4_bearsTogether 3 (some .int) ∈ mj_TB := mj_tb 747 (by decide +kernel) (by decide +kernel)
theorem w_748 : Cond.methodLink RL 89 yX10_path ∈ mj_TB := mj_tb 748 (by decide +kernel) (by decide +kernel)
theorem w_749 : Cond.instanceMethod yX10_path ∈ mj_TB := mj_tb 749 (by decide +kernel) (by decide +kernel)
theorem w_750 : Cond.selects RX10 yX10_path yX10_path ∈ mj_TB := mj_tb 750 (by decide +kernel) (by decide +kernel)
theorem w_751 : Cond.code yX10_path cX10_path 6 (some .int) ∈ mj_TB := mj_tb 751 (by decide +kernel) (by decide +kernel)
theorem w_752 : Cond.methodLink RX10 230 yX8_find ∈ mj_TB := mj_tb 752 (by decide +kernel) (by decide +kernel)
theorem w_753 : Cond.instanceMethod yX8_find ∈ mj_TB := mj_tb 753 (by decide +kernel) (by decide +kernel)
theorem w_754 : Cond.selects RX8 yX8_find yX8_find ∈ mj_TB := mj_tb 754 (by decide +kernel) (by decide +kernel)
theorem w_755 : Cond.code yX8_find cX8_find 7 (some .int) ∈ mj_TB := mj_tb 755 (by decide +kernel) (by decide +kernel)
theorem w_756 : Cond.methodLink RX8 25 yX8_measure ∈ mj_TB := mj_tb 756 (by decide +kernel) (by decide +kernel)
theorem w_758 : Cond.instanceMethod yX8_measure ∈ mj_TB := mj_tb 758 (by decide +kernel) (by decide +kernel)
theorem w_759 : Cond.code yX8_measure cX8_measure 5 (some .int) ∈ mj_TB := mj_tb 759 (by decide +kernel) (by decide +kernel)
theorem w_761 : Cond.methodLink RX8 21 yX8_beside ∈ mj_TB := mj_tb 761 (by decide +kernel) (by decide +kernel)
theorem w_762 : Cond.static yX8_beside ∈ mj_TB := mj_tb 762 (by decide +kernel) (by decide +kernel)
theorem w_763 : Cond.code yX8_beside cX8_beside 3 (some .int) ∈ mj_TB := mj_tb 763 (by decide +kernel) (by decide +kernel)
theorem w_764 : Cond.constant RX8 18 (-17318417) ∈ mj_TB := mj_tb 764 (by decide +kernel) (by decide +kernel)
theorem w_765 : Cond.constant RX8 19 (-1082402) ∈ mj_TB := mj_tb 765 (by decide +kernel) (by decide +kernel)
theorem w_766 : Cond.constant RX8 20 (33554431) ∈ mj_TB := mj_tb 766 (by decide +kernel) (by decide +kernel)
theorem w_767 : Cond.methodLink RX8 29 yX8_first ∈ mj_TB := mj_tb 767 (by decide +kernel) (by decide +kernel)
theorem w_768 : Cond.static yX8_first ∈ mj_TB := mj_tb 768 (by decide +kernel) (by decide +kernel)
theorem w_769 : Cond.code yX8_first cX8_first 2 (some .int) ∈ mj_TB := mj_tb 769 (by decide +kernel) (by decide +kernel)
theorem w_770 : Cond.methodLink RX10 233 yX8_step ∈ mj_TB := mj_tb 770 (by decide +kernel) (by decide +kernel)
theorem w_771 : Cond.instanceMethod yX8_step ∈ mj_TB := mj_tb 771 (by decide +kernel) (by decide +kernel)
theorem w_772 : Cond.selects RX8 yX8_step yX8_step ∈ mj_TB := mj_tb 772 (by decide +kernel) (by decide +kernel)
theorem w_773 : Cond.code yX8_step cX8_step 2 (some .int) ∈ mj_TB := mj_tb 773 (by decide +kernel) (by decide +kernel)
theorem w_775 : Cond.methodLink RL 94 yX10_safe ∈ mj_TB := mj_tb 775 (by decide +kernel) (by decide +kernel)
theorem w_776 : Cond.instanceMethod yX10_safe ∈ mj_TB := mj_tb 776 (by decide +kernel) (by decide +kernel)
theorem w_777 : Cond.selects RX10 yX10_safe yX10_safe ∈ mj_TB := mj_tb 777 (by decide +kernel) (by decide +kernel)
theorem w_778 : Cond.code yX10_safe cX10_safe 6 (some .int) ∈ mj_TB := mj_tb 778 (by decide +kernel) (by decide +kernel)
theorem w_779 : Cond.methodLink RX10 236 yX8_joined ∈ mj_TB := mj_tb 779 (by decide +kernel) (by decide +kernel)
theorem w_780 : Cond.static yX8_joined ∈ mj_TB := mj_tb 780 (by decide +kernel) (by decide +kernel)
theorem w_781 : Cond.code yX8_joined cX8_joined 7 (some .boolean) ∈ mj_TB := mj_tb 781 (by decide +kernel) (by decide +kernel)
theorem w_782 : Cond.methodLink RL 98 yX10_cross ∈ mj_TB := mj_tb 782 (by decide +kernel) (by decide +kernel)
theorem w_783 : Cond.instanceMethod yX10_cross ∈ mj_TB := mj_tb 783 (by decide +kernel) (by decide +kernel)
theorem w_784 : Cond.selects RX10 yX10_cross yX10_cross ∈ mj_TB := mj_tb 784 (by decide +kernel) (by decide +kernel)
theorem w_785 : Cond.code yX10_cross cX10_cross 8 (some .int) ∈ mj_TB := mj_tb 785 (by decide +kernel) (by decide +kernel)
theorem w_786 : Cond.methodLink RL 102 yX10_apart ∈ mj_TB := mj_tb 786 (by decide +kernel) (by decide +kernel)
theorem w_787 : Cond.instanceMethod yX10_apart ∈ mj_TB := mj_tb 787 (by decide +kernel) (by decide +kernel)
theorem w_788 : Cond.selects RX10 yX10_apart yX10_apart ∈ mj_TB := mj_tb 788 (by decide +kernel) (by decide +kernel)
theorem w_789 : Cond.code yX10_apart cX10_apart 6 (some .int) ∈ mj_TB := mj_tb 789 (by decide +kernel) (by decide +kernel)
theorem w_790 : Cond.methodLink RX10 239 yX8_cut ∈ mj_TB := mj_tb 790 (by decide +kernel) (by decide +kernel)
theorem w_791 : Cond.static yX8_cut ∈ mj_TB := mj_tb 791 (by decide +kernel) (by decide +kernel)
theorem w_792 : Cond.code yX8_cut cX8_cut 7 (some .int) ∈ mj_TB := mj_tb 792 (by decide +kernel) (by decide +kernel)
theorem w_793 : Cond.methodLink RX8 40 yX8_joined ∈ mj_TB := mj_tb 793 (by decide +kernel) (by decide +kernel)
theorem w_794 : Cond.methodLink RL 106 yX10_votes ∈ mj_TB := mj_tb 794 (by decide +kernel) (by decide +kernel)
theorem w_795 : Cond.instanceMethod yX10_votes ∈ mj_TB := mj_tb 795 (by decide +kernel) (by decide +kernel)
theorem w_796 : Cond.selects RX10 yX10_votes yX10_votes ∈ mj_TB := mj_tb 796 (by decide +kernel) (by decide +kernel)
theorem w_797 : Cond.code yX10_votes cX10_votes 2 (some .int) ∈ mj_TB := mj_tb 797 (by decide +kernel) (by decide +kernel)
theorem w_798 : Cond.methodLink RX10 242 yX7_carried ∈ mj_TB := mj_tb 798 (by decide +kernel) (by decide +kernel)
theorem w_799 : Cond.instanceMethod yX7_carried ∈ mj_TB := mj_tb 799 (by decide +kernel) (by decide +kernel)
theorem w_800 : Cond.selects RX7 yX7_carried yX7_carried ∈ mj_TB := mj_tb 800 (by decide +kernel) (by decide +kernel)
theorem w_801 : Cond.code yX7_carried cX7_carried 3 (some .boolean) ∈ mj_TB := mj_tb 801 (by decide +kernel) (by decide +kernel)
theorem w_802 : Cond.methodLink RX7 50 yJ6_bitCount_0f7a4 ∈ mj_TB := mj_tb 802 (by decide +kernel) (by decide +kernel)
theorem w_803 : Cond.static yJ6_bitCount_0f7a4 ∈ mj_TB := mj_tb 803 (by decide +kernel) (by decide +kernel)
theorem w_804 : Cond.code yJ6_bitCount_0f7a4 cJ6_bitCount_0f7a4 1 (some .int) ∈ mj_TB := mj_tb 804 (by decide +kernel) (by decide +kernel)
theorem w_805 : Cond.constant RJ6 265 (1431655765) ∈ mj_TB := mj_tb 805 (by decide +kernel) (by decide +kernel)
theorem w_806 : Cond.constant RJ6 266 (858993459) ∈ mj_TB := mj_tb 806 (by decide +kernel) (by decide +kernel)
theorem w_807 : Cond.constant RJ6 267 (252645135) ∈ mj_TB := mj_tb 807 (by decide +kernel) (by decide +kernel)
theorem w_808 : Cond.methodLink RX7 55 yX7_heaviest ∈ mj_TB := mj_tb 808 (by decide +kernel) (by decide +kernel)
theorem w_810 : Cond.instanceMethod yX7_heaviest ∈ mj_TB := mj_tb 810 (by decide +kernel) (by decide +kernel)
theorem w_811 : Cond.code yX7_heaviest cX7_heaviest 3 (some .int) ∈ mj_TB := mj_tb 811 (by decide +kernel) (by decide +kernel)
theorem w_812 : Cond.methodLink RX7 63 yX7_weightOf ∈ mj_TB := mj_tb 812 (by decide +kernel) (by decide +kernel)
theorem w_814 : Cond.methodLink RX10 248 yX7_wet ∈ mj_TB := mj_tb 814 (by decide +kernel) (by decide +kernel)
theorem w_815 : Cond.instanceMethod yX7_wet ∈ mj_TB := mj_tb 815 (by decide +kernel) (by decide +kernel)
theorem w_816 : Cond.selects RX7 yX7_wet yX7_wet ∈ mj_TB := mj_tb 816 (by decide +kernel) (by decide +kernel)
theorem w_817 : Cond.code yX7_wet cX7_wet 4 (some .int) ∈ mj_TB := mj_tb 817 (by decide +kernel) (by decide +kernel)
theorem w_818 : Cond.methodLink RX7 66 yX7_yes ∈ mj_TB := mj_tb 818 (by decide +kernel) (by decide +kernel)
theorem w_819 : Cond.methodLink RX7 69 yX7_carried ∈ mj_TB := mj_tb 819 (by decide +kernel) (by decide +kernel)
theorem w_820 : Cond.methodLink RX7 73 yX7_heavy ∈ mj_TB := mj_tb 820 (by decide +kernel) (by decide +kernel)
theorem w_821 : Cond.instanceMethod yX7_heavy ∈ mj_TB := mj_tb 821 (by decide +kernel) (by decide +kernel)
theorem w_822 : Cond.selects RX7 yX7_heavy yX7_heavy ∈ mj_TB := mj_tb 822 (by decide +kernel) (by decide +kernel)
theorem w_823 : Cond.code yX7_heavy cX7_heavy 4 (some .int) ∈ mj_TB := mj_tb 823 (by decide +kernel) (by decide +kernel)
theorem w_824 : Cond.methodLink RL 110 yX10_turn ∈ mj_TB := mj_tb 824 (by decide +kernel) (by decide +kernel)
theorem w_825 : Cond.instanceMethod yX10_turn ∈ mj_TB := mj_tb 825 (by decide +kernel) (by decide +kernel)
theorem w_826 : Cond.selects RX10 yX10_turn yX10_turn ∈ mj_TB := mj_tb 826 (by decide +kernel) (by decide +kernel)
theorem w_827 : Cond.code yX10_turn cX10_turn 6 (some .int) ∈ mj_TB := mj_tb 827 (by decide +kernel) (by decide +kernel)
theorem w_828 : Cond.methodLink RX10 252 yX7_sets ∈ mj_TB := mj_tb 828 (by decide +kernel) (by decide +kernel)
theorem w_829 : Cond.instanceMethod yX7_sets ∈ mj_TB := mj_tb 829 (by decide +kernel) (by decide +kernel)
theorem w_830 : Cond.selects RX7 yX7_sets yX7_sets ∈ mj_TB := mj_tb 830 (by decide +kernel) (by decide +kernel)
theorem w_831 : Cond.code yX7_sets cX7_sets 1 (some .int) ∈ mj_TB := mj_tb 831 (by decide +kernel) (by decide +kernel)
theorem w_832 : Cond.methodLink RX10 255 yJ6_bitCount_0f7a4 ∈ mj_TB := mj_tb 832 (by decide +kernel) (by decide +kernel)
theorem w_833 : Cond.methodLink RL 114 yX10_seen ∈ mj_TB := mj_tb 833 (by decide +kernel) (by decide +kernel)
theorem w_834 : Cond.instanceMethod yX10_seen ∈ mj_TB := mj_tb 834 (by decide +kernel) (by decide +kernel)
theorem w_835 : Cond.selects RX10 yX10_seen yX10_seen ∈ mj_TB := mj_tb 835 (by decide +kernel) (by decide +kernel)
theorem w_836 : Cond.code yX10_seen cX10_seen 8 (some .int) ∈ mj_TB := mj_tb 836 (by decide +kernel) (by decide +kernel)
theorem w_837 : Cond.methodLink RX10 260 yX7_heavy ∈ mj_TB := mj_tb 837 (by decide +kernel) (by decide +kernel)
theorem w_838 : Cond.methodLink RL 118 yX10_lies ∈ mj_TB := mj_tb 838 (by decide +kernel) (by decide +kernel)
theorem w_839 : Cond.instanceMethod yX10_lies ∈ mj_TB := mj_tb 839 (by decide +kernel) (by decide +kernel)
theorem w_840 : Cond.selects RX10 yX10_lies yX10_lies ∈ mj_TB := mj_tb 840 (by decide +kernel) (by decide +kernel)
theorem w_841 : Cond.code yX10_lies cX10_lies 3 (some .int) ∈ mj_TB := mj_tb 841 (by decide +kernel) (by decide +kernel)
theorem w_842 : Cond.methodLink RX10 263 yX4_iceOfWard ∈ mj_TB := mj_tb 842 (by decide +kernel) (by decide +kernel)
theorem w_843 : Cond.instanceMethod yX4_iceOfWard ∈ mj_TB := mj_tb 843 (by decide +kernel) (by decide +kernel)
theorem w_844 : Cond.selects RX4 yX4_iceOfWard yX4_iceOfWard ∈ mj_TB := mj_tb 844 (by decide +kernel) (by decide +kernel)
theorem w_845 : Cond.code yX4_iceOfWard cX4_iceOfWard 3 (some .int) ∈ mj_TB := mj_tb 845 (by decide +kernel) (by decide +kernel)
theorem w_846 : Cond.methodLink RX4 52 yX4_iceOf ∈ mj_TB := mj_tb 846 (by decide +kernel) (by decide +kernel)
theorem w_847 : Cond.methodLink RL 122 yX10_stones ∈ mj_TB := mj_tb 847 (by decide +kernel) (by decide +kernel)
theorem w_848 : Cond.instanceMethod yX10_stones ∈ mj_TB := mj_tb 848 (by decide +kernel) (by decide +kernel)
theorem w_849 : Cond.selects RX10 yX10_stones yX10_stones ∈ mj_TB := mj_tb 849 (by decide +kernel) (by decide +kernel)
theorem w_850 : Cond.code yX10_stones cX10_stones 6 (some .int) ∈ mj_TB := mj_tb 850 (by decide +kernel) (by decide +kernel)
theorem w_851 : Cond.methodLink RL 126 yX10_note ∈ mj_TB := mj_tb 851 (by decide +kernel) (by decide +kernel)
theorem w_852 : Cond.instanceMethod yX10_note ∈ mj_TB := mj_tb 852 (by decide +kernel) (by decide +kernel)
theorem w_853 : Cond.selects RX10 yX10_note yX10_note ∈ mj_TB := mj_tb 853 (by decide +kernel) (by decide +kernel)
theorem w_854 : Cond.code yX10_note cX10_note 6 (some .int) ∈ mj_TB := mj_tb 854 (by decide +kernel) (by decide +kernel)
theorem w_855 : Cond.methodLink RX10 273 yX3_add ∈ mj_TB := mj_tb 855 (by decide +kernel) (by decide +kernel)
theorem w_856 : Cond.instanceMethod yX3_add ∈ mj_TB := mj_tb 856 (by decide +kernel) (by decide +kernel)
theorem w_857 : Cond.selects RX3 yX3_add yX3_add ∈ mj_TB := mj_tb 857 (by decide +kernel) (by decide +kernel)
theorem w_858 : Cond.code yX3_add cX3_add 7 (some .int) ∈ mj_TB := mj_tb 858 (by decide +kernel) (by decide +kernel)
theorem w_860 : Cond.methodLink RL 131 yX10_voted ∈ mj_TB := mj_tb 860 (by decide +kernel) (by decide +kernel)
theorem w_861 : Cond.instanceMethod yX10_voted ∈ mj_TB := mj_tb 861 (by decide +kernel) (by decide +kernel)
theorem w_862 : Cond.selects RX10 yX10_voted yX10_voted ∈ mj_TB := mj_tb 862 (by decide +kernel) (by decide +kernel)
theorem w_863 : Cond.code yX10_voted cX10_voted 6 (some .int) ∈ mj_TB := mj_tb 863 (by decide +kernel) (by decide +kernel)
theorem w_864 : Cond.methodLink RL 135 yX10_forget ∈ mj_TB := mj_tb 864 (by decide +kernel) (by decide +kernel)
theorem w_865 : Cond.instanceMethod yX10_forget ∈ mj_TB := mj_tb 865 (by decide +kernel) (by decide +kernel)
theorem w_866 : Cond.selects RX10 yX10_forget yX10_forget ∈ mj_TB := mj_tb 866 (by decide +kernel) (by decide +kernel)
theorem w_867 : Cond.code yX10_forget cX10_forget 2 (some .int) ∈ mj_TB := mj_tb 867 (by decide +kernel) (by decide +kernel)
theorem w_868 : Cond.methodLink RX10 279 yX3_empty ∈ mj_TB := mj_tb 868 (by decide +kernel) (by decide +kernel)
theorem w_869 : Cond.methodLink RL 139 yX10_is ∈ mj_TB := mj_tb 869 (by decide +kernel) (by decide +kernel)
theorem w_870 : Cond.instanceMethod yX10_is ∈ mj_TB := mj_tb 870 (by decide +kernel) (by decide +kernel)
theorem w_871 : Cond.selects RX10 yX10_is yX10_is ∈ mj_TB := mj_tb 871 (by decide +kernel) (by decide +kernel)
theorem w_872 : Cond.code yX10_is cX10_is 2 (some .int) ∈ mj_TB := mj_tb 872 (by decide +kernel) (by decide +kernel)
theorem w_873 : Cond.methodLink RX10 281 yX10_kindsNoted ∈ mj_TB := mj_tb 873 (by decide +kernel) (by decide +kernel)
theorem w_875 : Cond.instanceMethod yX10_kindsNoted ∈ mj_TB := mj_tb 875 (by decide +kernel) (by decide +kernel)
theorem w_876 : Cond.code yX10_kindsNoted cX10_kindsNoted 4 (some .int) ∈ mj_TB := mj_tb 876 (by decide +kernel) (by decide +kernel)
theorem w_877 : Cond.methodLink RX10 339 yX10_fitsNotes ∈ mj_TB := mj_tb 877 (by decide +kernel) (by decide +kernel)
theorem w_879 : Cond.instanceMethod yX10_fitsNotes ∈ mj_TB := mj_tb 879 (by decide +kernel) (by decide +kernel)
theorem w_880 : Cond.code yX10_fitsNotes cX10_fitsNotes 6 (some .boolean) ∈ mj_TB := mj_tb 880 (by decide +kernel) (by decide +kernel)
theorem w_881 : Cond.methodLink RX10 342 yX3_at ∈ mj_TB := mj_tb 881 (by decide +kernel) (by decide +kernel)
theorem w_882 : Cond.instanceMethod yX3_at ∈ mj_TB := mj_tb 882 (by decide +kernel) (by decide +kernel)
theorem w_883 : Cond.selects RX3 yX3_at yX3_at ∈ mj_TB := mj_tb 883 (by decide +kernel) (by decide +kernel)
theorem w_884 : Cond.code yX3_at cX3_at 4 (some .int) ∈ mj_TB := mj_tb 884 (by decide +kernel) (by decide +kernel)
theorem w_885 : Cond.methodLink RX10 345 yX0_after ∈ mj_TB := mj_tb 885 (by decide +kernel) (by decide +kernel)
theorem w_886 : Cond.methodLink RL 143 yX10_next ∈ mj_TB := mj_tb 886 (by decide +kernel) (by decide +kernel)
theorem w_887 : Cond.instanceMethod yX10_next ∈ mj_TB := mj_tb 887 (by decide +kernel) (by decide +kernel)
theorem w_888 : Cond.selects RX10 yX10_next yX10_next ∈ mj_TB := mj_tb 888 (by decide +kernel) (by decide +kernel)
theorem w_889 : Cond.code yX10_next cX10_next 7 (some .int) ∈ mj_TB := mj_tb 889 (by decide +kernel) (by decide +kernel)
theorem w_890 : Cond.methodLink RX10 284 yX10_mostAlike ∈ mj_TB := mj_tb 890 (by decide +kernel) (by decide +kernel)
theorem w_892 : Cond.instanceMethod yX10_mostAlike ∈ mj_TB := mj_tb 892 (by decide +kernel) (by decide +kernel)
theorem w_893 : Cond.code yX10_mostAlike cX10_mostAlike 9 (some .int) ∈ mj_TB := mj_tb 893 (by decide +kernel) (by decide +kernel)
theorem w_894 : Cond.methodLink RL 147 yX10_who ∈ mj_TB := mj_tb 894 (by decide +kernel) (by decide +kernel)
theorem w_895 : Cond.instanceMethod yX10_who ∈ mj_TB := mj_tb 895 (by decide +kernel) (by decide +kernel)
theorem w_896 : Cond.selects RX10 yX10_who yX10_who ∈ mj_TB := mj_tb 896 (by decide +kernel) (by decide +kernel)
theorem w_897 : Cond.code yX10_who cX10_who 4 (some .int) ∈ mj_TB := mj_tb 897 (by decide +kernel) (by decide +kernel)
theorem w_898 : Cond.methodLink RX10 288 yX10_fitsPolls ∈ mj_TB := mj_tb 898 (by decide +kernel) (by decide +kernel)
theorem w_900 : Cond.instanceMethod yX10_fitsPolls ∈ mj_TB := mj_tb 900 (by decide +kernel) (by decide +kernel)
theorem w_901 : Cond.code yX10_fitsPolls cX10_fitsPolls 7 (some .boolean) ∈ mj_TB := mj_tb 901 (by decide +kernel) (by decide +kernel)
theorem w_902 : Cond.methodLink RX10 348 yX6_yes ∈ mj_TB := mj_tb 902 (by decide +kernel) (by decide +kernel)
theorem w_903 : Cond.methodLink RL 151 yX10_two ∈ mj_TB := mj_tb 903 (by decide +kernel) (by decide +kernel)
theorem w_904 : Cond.instanceMethod yX10_two ∈ mj_TB := mj_tb 904 (by decide +kernel) (by decide +kernel)
theorem w_905 : Cond.selects RX10 yX10_two yX10_two ∈ mj_TB := mj_tb 905 (by decide +kernel) (by decide +kernel)
theorem w_906 : Cond.code yX10_two cX10_two 10 (some .int) ∈ mj_TB := mj_tb 906 (by decide +kernel) (by decide +kernel)
theorem w_907 : Cond.methodLink RX10 291 yX7_gain ∈ mj_TB := mj_tb 907 (by decide +kernel) (by decide +kernel)
theorem w_908 : Cond.instanceMethod yX7_gain ∈ mj_TB := mj_tb 908 (by decide +kernel) (by decide +kernel)
theorem w_909 : Cond.selects RX7 yX7_gain yX7_gain ∈ mj_TB := mj_tb 909 (by decide +kernel) (by decide +kernel)
theorem w_910 : Cond.code yX7_gain cX7_gain 4 (some .int) ∈ mj_TB := mj_tb 910 (by decide +kernel) (by decide +kernel)
theorem w_911 : Cond.methodLink RL 155 yX10_thaw ∈ mj_TB := mj_tb 911 (by decide +kernel) (by decide +kernel)
theorem w_912 : Cond.instanceMethod yX10_thaw ∈ mj_TB := mj_tb 912 (by decide +kernel) (by decide +kernel)
theorem w_913 : Cond.selects RX10 yX10_thaw yX10_thaw ∈ mj_TB := mj_tb 913 (by decide +kernel) (by decide +kernel)
theorem w_914 : Cond.code yX10_thaw cX10_thaw 11 (some .int) ∈ mj_TB := mj_tb 914 (by decide +kernel) (by decide +kernel)
theorem w_915 : Cond.methodLink RX10 294 yJ7_fill_d0a16 ∈ mj_TB := mj_tb 915 (by decide +kernel) (by decide +kernel)
theorem w_916 : Cond.static yJ7_fill_d0a16 ∈ mj_TB := mj_tb 916 (by decide +kernel) (by decide +kernel)
theorem w_917 : Cond.code yJ7_fill_d0a16 cJ7_fill_d0a16 5 none ∈ mj_TB := mj_tb 917 (by decide +kernel) (by decide +kernel)
theorem w_918 : Cond.methodLink RX10 300 yX10_addAt ∈ mj_TB := mj_tb 918 (by decide +kernel) (by decide +kernel)
theorem w_919 : Cond.static yX10_addAt ∈ mj_TB := mj_tb 919 (by decide +kernel) (by decide +kernel)
theorem w_920 : Cond.code yX10_addAt cX10_addAt 4 none ∈ mj_TB := mj_tb 920 (by decide +kernel) (by decide +kernel)
theorem w_921 : Cond.methodLink RX10 304 yX10_passNight ∈ mj_TB := mj_tb 921 (by decide +kernel) (by decide +kernel)
theorem w_923 : Cond.instanceMethod yX10_passNight ∈ mj_TB := mj_tb 923 (by decide +kernel) (by decide +kernel)
theorem w_924 : Cond.code yX10_passNight cX10_passNight 7 none ∈ mj_TB := mj_tb 924 (by decide +kernel) (by decide +kernel)
theorem w_925 : Cond.methodLink RX10 353 arraycopyName ∈ mj_TB := mj_tb 925 (by decide +kernel) (by decide +kernel)
theorem w_926 : Cond.constantLong RX10 307 (10) ∈ mj_TB := mj_tb 926 (by decide +kernel) (by decide +kernel)
theorem w_927 : Cond.methodLink RX10 309 yX10_keepFraction ∈ mj_TB := mj_tb 927 (by decide +kernel) (by decide +kernel)
theorem w_929 : Cond.instanceMethod yX10_keepFraction ∈ mj_TB := mj_tb 929 (by decide +kernel) (by decide +kernel)
theorem w_930 : Cond.code yX10_keepFraction cX10_keepFraction 12 none ∈ mj_TB := mj_tb 930 (by decide +kernel) (by decide +kernel)
theorem w_931 : Cond.methodLink RL 159 yX10_winters ∈ mj_TB := mj_tb 931 (by decide +kernel) (by decide +kernel)
theorem w_932 : Cond.instanceMethod yX10_winters ∈ mj_TB := mj_tb 932 (by decide +kernel) (by decide +kernel)
theorem w_933 : Cond.selects RX10 yX10_winters yX10_winters ∈ mj_TB := mj_tb 933 (by decide +kernel) (by decide +kernel)
theorem w_934 : Cond.code yX10_winters cX10_winters 9 (some .int) ∈ mj_TB := mj_tb 934 (by decide +kernel) (by decide +kernel)
theorem w_935 : Cond.constant RX10 313 (999999) ∈ mj_TB := mj_tb 935 (by decide +kernel) (by decide +kernel)
theorem w_936 : Cond.constantLong RX10 314 (1103515245) ∈ mj_TB := mj_tb 936 (by decide +kernel) (by decide +kernel)
theorem w_937 : Cond.constantLong RX10 316 (12345) ∈ mj_TB := mj_tb 937 (by decide +kernel) (by decide +kernel)
theorem w_938 : Cond.constantLong RX10 318 (2147483648) ∈ mj_TB := mj_tb 938 (by decide +kernel) (by decide +kernel)
theorem w_939 : Cond.constantLong RX10 320 (65536) ∈ mj_TB := mj_tb 939 (by decide +kernel) (by decide +kernel)
theorem w_940 : Cond.constantLong RX10 322 (1048576) ∈ mj_TB := mj_tb 940 (by decide +kernel) (by decide +kernel)
theorem w_941 : Cond.methodLink RL 163 yX10_part ∈ mj_TB := mj_tb 941 (by decide +kernel) (by decide +kernel)
theorem w_942 : Cond.instanceMethod yX10_part ∈ mj_TB := mj_tb 942 (by decide +kernel) (by decide +kernel)
theorem w_943 : Cond.selects RX10 yX10_part yX10_part ∈ mj_TB := mj_tb 943 (by decide +kernel) (by decide +kernel)
theorem w_944 : Cond.code yX10_part cX10_part 2 (some .long) ∈ mj_TB := mj_tb 944 (by decide +kernel) (by decide +kernel)
theorem w_945 : Cond.methodLink RL 168 yX10_image ∈ mj_TB := mj_tb 945 (by decide +kernel) (by decide +kernel)
theorem w_946 : Cond.instanceMethod yX10_image ∈ mj_TB := mj_tb 946 (by decide +kernel) (by decide +kernel)
theorem w_947 : Cond.selects RX10 yX10_image yX10_image ∈ mj_TB := mj_tb 947 (by decide +kernel) (by decide +kernel)
theorem w_948 : Cond.code yX10_image cX10_image 3 (some .int) ∈ mj_TB := mj_tb 948 (by decide +kernel) (by decide +kernel)
theorem w_949 : Cond.methodLink RL 172 yX10_from ∈ mj_TB := mj_tb 949 (by decide +kernel) (by decide +kernel)
theorem w_950 : Cond.instanceMethod yX10_from ∈ mj_TB := mj_tb 950 (by decide +kernel) (by decide +kernel)
theorem w_951 : Cond.selects RX10 yX10_from yX10_from ∈ mj_TB := mj_tb 951 (by decide +kernel) (by decide +kernel)
theorem w_952 : Cond.code yX10_from cX10_from 3 (some .int) ∈ mj_TB := mj_tb 952 (by decide +kernel) (by decide +kernel)
theorem w_953 : Cond.methodLink RL 176 yX10_status ∈ mj_TB := mj_tb 953 (by decide +kernel) (by decide +kernel)
theorem w_954 : Cond.instanceMethod yX10_status ∈ mj_TB := mj_tb 954 (by decide +kernel) (by decide +kernel)
theorem w_955 : Cond.selects RX10 yX10_status yX10_status ∈ mj_TB := mj_tb 955 (by decide +kernel) (by decide +kernel)
theorem w_956 : Cond.code yX10_status cX10_status 2 (some .int) ∈ mj_TB := mj_tb 956 (by decide +kernel) (by decide +kernel)
theorem w_957 : Cond.methodLink RL 180 yX10_count ∈ mj_TB := mj_tb 957 (by decide +kernel) (by decide +kernel)
theorem w_958 : Cond.instanceMethod yX10_count ∈ mj_TB := mj_tb 958 (by decide +kernel) (by decide +kernel)
theorem w_959 : Cond.selects RX10 yX10_count yX10_count ∈ mj_TB := mj_tb 959 (by decide +kernel) (by decide +kernel)
theorem w_960 : Cond.code yX10_count cX10_count 2 (some .int) ∈ mj_TB := mj_tb 960 (by decide +kernel) (by decide +kernel)
theorem w_961 : Cond.methodLink RX10 324 yX10_amount ∈ mj_TB := mj_tb 961 (by decide +kernel) (by decide +kernel)
theorem w_963 : Cond.instanceMethod yX10_amount ∈ mj_TB := mj_tb 963 (by decide +kernel) (by decide +kernel)
theorem w_964 : Cond.code yX10_amount cX10_amount 2 (some .int) ∈ mj_TB := mj_tb 964 (by decide +kernel) (by decide +kernel)
theorem w_965 : Cond.methodLink RL 184 yX10_digest ∈ mj_TB := mj_tb 965 (by decide +kernel) (by decide +kernel)
theorem w_966 : Cond.instanceMethod yX10_digest ∈ mj_TB := mj_tb 966 (by decide +kernel) (by decide +kernel)
theorem w_967 : Cond.selects RX10 yX10_digest yX10_digest ∈ mj_TB := mj_tb 967 (by decide +kernel) (by decide +kernel)
theorem w_968 : Cond.code yX10_digest cX10_digest 4 (some .long) ∈ mj_TB := mj_tb 968 (by decide +kernel) (by decide +kernel)
theorem w_969 : Cond.constantLong RX10 327 (1453) ∈ mj_TB := mj_tb 969 (by decide +kernel) (by decide +kernel)
theorem w_970 : Cond.constantLong RX10 329 (31) ∈ mj_TB := mj_tb 970 (by decide +kernel) (by decide +kernel)
theorem w_971 : Cond.methodLink RX10 331 yX7_fold ∈ mj_TB := mj_tb 971 (by decide +kernel) (by decide +kernel)
theorem w_972 : Cond.instanceMethod yX7_fold ∈ mj_TB := mj_tb 972 (by decide +kernel) (by decide +kernel)
theorem w_973 : Cond.selects RX7 yX7_fold yX7_fold ∈ mj_TB := mj_tb 973 (by decide +kernel) (by decide +kernel)
theorem w_974 : Cond.code yX7_fold cX7_fold 6 (some .long) ∈ mj_TB := mj_tb 974 (by decide +kernel) (by decide +kernel)
theorem w_975 : Cond.constantLong RX7 77 (31) ∈ mj_TB := mj_tb 975 (by decide +kernel) (by decide +kernel)
theorem w_976 : Cond.methodLink RX10 335 yX3_fold ∈ mj_TB := mj_tb 976 (by decide +kernel) (by decide +kernel)
theorem w_977 : Cond.instanceMethod yX3_fold ∈ mj_TB := mj_tb 977 (by decide +kernel) (by decide +kernel)
theorem w_978 : Cond.selects RX3 yX3_fold yX3_fold ∈ mj_TB := mj_tb 978 (by decide +kernel) (by decide +kernel)
theorem w_979 : Cond.code yX3_fold cX3_fold 6 (some .long) ∈ mj_TB := mj_tb 979 (by decide +kernel) (by decide +kernel)
theorem w_980 : Cond.constantLong RX3 29 (31) ∈ mj_TB := mj_tb 980 (by decide +kernel) (by decide +kernel)
theorem w_981 : Cond.classLink RL 10 "IceVoteModel" ∈ mj_TB := mj_tb 981 (by decide +kernel) (by decide +kernel)
theorem w_982 : Cond.instantiable "IceVoteModel" 16 ∈ mj_TB := mj_tb 982 (by decide +kernel) (by decide +kernel)
theorem w_983 : Cond.methodLink RL 12 yX11_init ∈ mj_TB := mj_tb 983 (by decide +kernel) (by decide +kernel)
theorem w_984 : Cond.instanceMethod yX11_init ∈ mj_TB := mj_tb 984 (by decide +kernel) (by decide +kernel)
theorem w_985 : Cond.code yX11_init cX11_init 1 none ∈ mj_TB := mj_tb 985 (by decide +kernel) (by decide +kernel)
theorem w_986 : Cond.methodLink RX11 1 objectInit ∈ mj_TB := mj_tb 986 (by decide +kernel) (by decide +kernel)
theorem w_987 : Cond.methodLink RX11 42 yX11_begin ∈ mj_TB := mj_tb 987 (by decide +kernel) (by decide +kernel)
theorem w_988 : Cond.static yX11_begin ∈ mj_TB := mj_tb 988 (by decide +kernel) (by decide +kernel)
theorem w_989 : Cond.code yX11_begin cX11_begin 3 none ∈ mj_TB := mj_tb 989 (by decide +kernel) (by decide +kernel)
theorem w_990 : Cond.fieldLink RX11 7 "IceVoteModel" "told" "[I" ∈ mj_TB := mj_tb 990 (by decide +kernel) (by decide +kernel)
theorem w_991 : Cond.fieldLink RX11 13 "IceVoteModel" "kept" "[I" ∈ mj_TB := mj_tb 991 (by decide +kernel) (by decide +kernel)
theorem w_992 : Cond.fieldLink RX11 16 "IceVoteModel" "isKept" "[Z" ∈ mj_TB := mj_tb 992 (by decide +kernel) (by decide +kernel)
theorem w_993 : Cond.fieldLink RX11 20 "IceVoteModel" "refused" "[I" ∈ mj_TB := mj_tb 993 (by decide +kernel) (by decide +kernel)
theorem w_994 : Cond.fieldLink RX11 205 "IceVoteModel" "above" "J" ∈ mj_TB := mj_tb 994 (by decide +kernel) (by decide +kernel)
theorem w_995 : Cond.fieldLink RX11 23 "IceVoteModel" "below" "J" ∈ mj_TB := mj_tb 995 (by decide +kernel) (by decide +kernel)
theorem w_996 : Cond.fieldLink RX11 27 "IceVoteModel" "ices" "[I" ∈ mj_TB := mj_tb 996 (by decide +kernel) (by decide +kernel)
theorem w_997 : Cond.fieldLink RX11 30 "IceVoteModel" "far" "[I" ∈ mj_TB := mj_tb 997 (by decide +kernel) (by decide +kernel)
theorem w_998 : Cond.fieldLink RX11 33 "IceVoteModel" "bytes" "[I" ∈ mj_TB := mj_tb 998 (by decide +kernel) (by decide +kernel)
theorem w_999 : Cond.fieldLink RX11 230 "IceVoteModel" "bytesLong" "I" ∈ mj_TB := mj_tb 999 (by decide +kernel) (by decide +kernel)
theorem w_1000 : Cond.fieldLink RX11 242 "IceVoteModel" "tokenAt" "I" ∈ mj_TB := mj_tb 1000 (by decide +kernel) (by decide +kernel)
theorem w_1001 : Cond.fieldLink RX11 245 "IceVoteModel" "tokenLong" "I" ∈ mj_TB := mj_tb 1001 (by decide +kernel) (by decide +kernel)
theorem w_1002 : Cond.fieldLink RX11 248 "IceVoteModel" "token" "I" ∈ mj_TB := mj_tb 1002 (by decide +kernel) (by decide +kernel)
theorem w_1003 : Cond.fieldLink RX11 251 "IceVoteModel" "value" "I" ∈ mj_TB := mj_tb 1003 (by decide +kernel) (by decide +kernel)
theorem w_1004 : Cond.fieldLink RX11 36 "IceVoteModel" "anew" "[I" ∈ mj_TB := mj_tb 1004 (by decide +kernel) (by decide +kernel)
theorem w_1005 : Cond.fieldLink RX11 39 "IceVoteModel" "values" "[I" ∈ mj_TB := mj_tb 1005 (by decide +kernel) (by decide +kernel)
theorem w_1039 : Cond.arrayClass .boolean ∈ mj_TB := mj_tb 1039 (by decide +kernel) (by decide +kernel)
theorem w_1040 : Cond.methodLink RL 17 yX11_lake ∈ mj_TB := mj_tb 1040 (by decide +kernel) (by decide +kernel)
theorem w_1041 : Cond.instanceMethod yX11_lake ∈ mj_TB := mj_tb 1041 (by decide +kernel) (by decide +kernel)
theorem w_1042 : Cond.selects RX11 yX11_lake yX11_lake ∈ mj_TB := mj_tb 1042 (by decide +kernel) (by decide +kernel)
theorem w_1043 : Cond.code yX11_lake cX11_lake 3 (some .int) ∈ mj_TB := mj_tb 1043 (by decide +kernel) (by decide +kernel)
theorem w_1044 : Cond.methodLink RX11 62 yX11_isIce ∈ mj_TB := mj_tb 1044 (by decide +kernel) (by decide +kernel)
theorem w_1045 : Cond.static yX11_isIce ∈ mj_TB := mj_tb 1045 (by decide +kernel) (by decide +kernel)
theorem w_1046 : Cond.code yX11_isIce cX11_isIce 1 (some .boolean) ∈ mj_TB := mj_tb 1046 (by decide +kernel) (by decide +kernel)
theorem w_1047 : Cond.constantLong RX11 56 (99) ∈ mj_TB := mj_tb 1047 (by decide +kernel) (by decide +kernel)
theorem w_1048 : Cond.methodLink RX11 50 yX11_in ∈ mj_TB := mj_tb 1048 (by decide +kernel) (by decide +kernel)
theorem w_1049 : Cond.static yX11_in ∈ mj_TB := mj_tb 1049 (by decide +kernel) (by decide +kernel)
theorem w_1050 : Cond.code yX11_in cX11_in 6 (some .boolean) ∈ mj_TB := mj_tb 1050 (by decide +kernel) (by decide +kernel)
theorem w_1051 : Cond.methodLink RX11 66 yX11_bad ∈ mj_TB := mj_tb 1051 (by decide +kernel) (by decide +kernel)
theorem w_1053 : Cond.instanceMethod yX11_bad ∈ mj_TB := mj_tb 1053 (by decide +kernel) (by decide +kernel)
theorem w_1054 : Cond.code yX11_bad cX11_bad 2 (some .int) ∈ mj_TB := mj_tb 1054 (by decide +kernel) (by decide +kernel)
theorem w_1055 : Cond.methodLink RX11 46 yX11_many ∈ mj_TB := mj_tb 1055 (by decide +kernel) (by decide +kernel)
theorem w_1057 : Cond.instanceMethod yX11_many ∈ mj_TB := mj_tb 1057 (by decide +kernel) (by decide +kernel)
theorem w_1058 : Cond.code yX11_many cX11_many 1 (some .int) ∈ mj_TB := mj_tb 1058 (by decide +kernel) (by decide +kernel)
theorem w_1059 : Cond.methodLink RL 22 yX11_cell ∈ mj_TB := mj_tb 1059 (by decide +kernel) (by decide +kernel)
theorem w_1060 : Cond.instanceMethod yX11_cell ∈ mj_TB := mj_tb 1060 (by decide +kernel) (by decide +kernel)
theorem w_1061 : Cond.selects RX11 yX11_cell yX11_cell ∈ mj_TB := mj_tb 1061 (by decide +kernel) (by decide +kernel)
theorem w_1062 : Cond.code yX11_cell cX11_cell 4 (some .int) ∈ mj_TB := mj_tb 1062 (by decide +kernel) (by decide +kernel)
theorem w_1063 : Cond.methodLink RX11 70 yX11_isCell ∈ mj_TB := mj_tb 1063 (by decide +kernel) (by decide +kernel)
theorem w_1064 : Cond.static yX11_isCell ∈ mj_TB := mj_tb 1064 (by decide +kernel) (by decide +kernel)
theorem w_1065 : Cond.code yX11_isCell cX11_isCell 1 (some .boolean) ∈ mj_TB := mj_tb 1065 (by decide +kernel) (by decide +kernel)
theorem w_1066 : Cond.constantLong RX11 54 (24) ∈ mj_TB := mj_tb 1066 (by decide +kernel) (by decide +kernel)
theorem w_1067 : Cond.constantLong RX11 73 (5) ∈ mj_TB := mj_tb 1067 (by decide +kernel) (by decide +kernel)
theorem w_1068 : Cond.methodLink RL 27 yX11_weather ∈ mj_TB := mj_tb 1068 (by decide +kernel) (by decide +kernel)
theorem w_1069 : Cond.instanceMethod yX11_weather ∈ mj_TB := mj_tb 1069 (by decide +kernel) (by decide +kernel)
theorem w_1070 : Cond.selects RX11 yX11_weather yX11_weather ∈ mj_TB := mj_tb 1070 (by decide +kernel) (by decide +kernel)
theorem w_1071 : Cond.code yX11_weather cX11_weather 5 (some .int) ∈ mj_TB := mj_tb 1071 (by decide +kernel) (by decide +kernel)
theorem w_1072 : Cond.constantLong RX11 75 (6) ∈ mj_TB := mj_tb 1072 (by decide +kernel) (by decide +kernel)
theorem w_1073 : Cond.methodLink RX11 77 yX11_isWeather ∈ mj_TB := mj_tb 1073 (by decide +kernel) (by decide +kernel)
theorem w_1074 : Cond.static yX11_isWeather ∈ mj_TB := mj_tb 1074 (by decide +kernel) (by decide +kernel)
theorem w_1075 : Cond.code yX11_isWeather cX11_isWeather 1 (some .boolean) ∈ mj_TB := mj_tb 1075 (by decide +kernel) (by decide +kernel)
theorem w_1076 : Cond.constantLong RX11 58 (9) ∈ mj_TB := mj_tb 1076 (by decide +kernel) (by decide +kernel)
theorem w_1077 : Cond.methodLink RL 31 yX11_ward ∈ mj_TB := mj_tb 1077 (by decide +kernel) (by decide +kernel)
theorem w_1078 : Cond.instanceMethod yX11_ward ∈ mj_TB := mj_tb 1078 (by decide +kernel) (by decide +kernel)
theorem w_1079 : Cond.selects RX11 yX11_ward yX11_ward ∈ mj_TB := mj_tb 1079 (by decide +kernel) (by decide +kernel)
theorem w_1080 : Cond.code yX11_ward cX11_ward 4 (some .int) ∈ mj_TB := mj_tb 1080 (by decide +kernel) (by decide +kernel)
theorem w_1081 : Cond.constantLong RX11 80 (3) ∈ mj_TB := mj_tb 1081 (by decide +kernel) (by decide +kernel)
theorem w_1082 : Cond.methodLink RL 35 yX11_voter ∈ mj_TB := mj_tb 1082 (by decide +kernel) (by decide +kernel)
theorem w_1083 : Cond.instanceMethod yX11_voter ∈ mj_TB := mj_tb 1083 (by decide +kernel) (by decide +kernel)
theorem w_1084 : Cond.selects RX11 yX11_voter yX11_voter ∈ mj_TB := mj_tb 1084 (by decide +kernel) (by decide +kernel)
theorem w_1085 : Cond.code yX11_voter cX11_voter 4 (some .int) ∈ mj_TB := mj_tb 1085 (by decide +kernel) (by decide +kernel)
theorem w_1086 : Cond.methodLink RX11 82 yX11_full ∈ mj_TB := mj_tb 1086 (by decide +kernel) (by decide +kernel)
theorem w_1088 : Cond.instanceMethod yX11_full ∈ mj_TB := mj_tb 1088 (by decide +kernel) (by decide +kernel)
theorem w_1089 : Cond.code yX11_full cX11_full 1 (some .int) ∈ mj_TB := mj_tb 1089 (by decide +kernel) (by decide +kernel)
theorem w_1090 : Cond.methodLink RX11 85 yX11_layVoter ∈ mj_TB := mj_tb 1090 (by decide +kernel) (by decide +kernel)
theorem w_1091 : Cond.static yX11_layVoter ∈ mj_TB := mj_tb 1091 (by decide +kernel) (by decide +kernel)
theorem w_1092 : Cond.code yX11_layVoter cX11_layVoter 5 none ∈ mj_TB := mj_tb 1092 (by decide +kernel) (by decide +kernel)
theorem w_1093 : Cond.methodLink RL 52 yX11_day ∈ mj_TB := mj_tb 1093 (by decide +kernel) (by decide +kernel)
theorem w_1094 : Cond.instanceMethod yX11_day ∈ mj_TB := mj_tb 1094 (by decide +kernel) (by decide +kernel)
theorem w_1095 : Cond.selects RX11 yX11_day yX11_day ∈ mj_TB := mj_tb 1095 (by decide +kernel) (by decide +kernel)
theorem w_1096 : Cond.code yX11_day cX11_day 4 (some .int) ∈ mj_TB := mj_tb 1096 (by decide +kernel) (by decide +kernel)
theorem w_1097 : Cond.constantLong RX11 119 (60) ∈ mj_TB := mj_tb 1097 (by decide +kernel) (by decide +kernel)
theorem w_1098 : Cond.methodLink RX11 121 yX11_keep ∈ mj_TB := mj_tb 1098 (by decide +kernel) (by decide +kernel)
theorem w_1100 : Cond.instanceMethod yX11_keep ∈ mj_TB := mj_tb 1100 (by decide +kernel) (by decide +kernel)
theorem w_1101 : Cond.code yX11_keep cX11_keep 2 none ∈ mj_TB := mj_tb 1101 (by decide +kernel) (by decide +kernel)
theorem w_1102 : Cond.methodLink RX11 124 yX11_layIce ∈ mj_TB := mj_tb 1102 (by decide +kernel) (by decide +kernel)
theorem w_1104 : Cond.instanceMethod yX11_layIce ∈ mj_TB := mj_tb 1104 (by decide +kernel) (by decide +kernel)
theorem w_1105 : Cond.code yX11_layIce cX11_layIce 2 none ∈ mj_TB := mj_tb 1105 (by decide +kernel) (by decide +kernel)
theorem w_1106 : Cond.methodLink RX11 127 yX11_goDays ∈ mj_TB := mj_tb 1106 (by decide +kernel) (by decide +kernel)
theorem w_1108 : Cond.instanceMethod yX11_goDays ∈ mj_TB := mj_tb 1108 (by decide +kernel) (by decide +kernel)
theorem w_1109 : Cond.code yX11_goDays cX11_goDays 4 none ∈ mj_TB := mj_tb 1109 (by decide +kernel) (by decide +kernel)
theorem w_1110 : Cond.methodLink RX11 107 yX11_goDay ∈ mj_TB := mj_tb 1110 (by decide +kernel) (by decide +kernel)
theorem w_1112 : Cond.instanceMethod yX11_goDay ∈ mj_TB := mj_tb 1112 (by decide +kernel) (by decide +kernel)
theorem w_1113 : Cond.code yX11_goDay cX11_goDay 4 none ∈ mj_TB := mj_tb 1113 (by decide +kernel) (by decide +kernel)
theorem w_1114 : Cond.methodLink RX11 97 yX11_kindOf ∈ mj_TB := mj_tb 1114 (by decide +kernel) (by decide +kernel)
theorem w_1116 : Cond.instanceMethod yX11_kindOf ∈ mj_TB := mj_tb 1116 (by decide +kernel) (by decide +kernel)
theorem w_1117 : Cond.code yX11_kindOf cX11_kindOf 2 (some .int) ∈ mj_TB := mj_tb 1117 (by decide +kernel) (by decide +kernel)
theorem w_1118 : Cond.methodLink RX11 103 yX11_behindDay ∈ mj_TB := mj_tb 1118 (by decide +kernel) (by decide +kernel)
theorem w_1119 : Cond.static yX11_behindDay ∈ mj_TB := mj_tb 1119 (by decide +kernel) (by decide +kernel)
theorem w_1120 : Cond.code yX11_behindDay cX11_behindDay 6 (some .int) ∈ mj_TB := mj_tb 1120 (by decide +kernel) (by decide +kernel)
theorem w_1121 : Cond.methodLink RX11 89 yX11_growsAs ∈ mj_TB := mj_tb 1121 (by decide +kernel) (by decide +kernel)
theorem w_1122 : Cond.static yX11_growsAs ∈ mj_TB := mj_tb 1122 (by decide +kernel) (by decide +kernel)
theorem w_1123 : Cond.code yX11_growsAs cX11_growsAs 3 (some .int) ∈ mj_TB := mj_tb 1123 (by decide +kernel) (by decide +kernel)
theorem w_1124 : Cond.methodLink RX11 93 yX11_meltsAs ∈ mj_TB := mj_tb 1124 (by decide +kernel) (by decide +kernel)
theorem w_1125 : Cond.static yX11_meltsAs ∈ mj_TB := mj_tb 1125 (by decide +kernel) (by decide +kernel)
theorem w_1126 : Cond.code yX11_meltsAs cX11_meltsAs 2 (some .int) ∈ mj_TB := mj_tb 1126 (by decide +kernel) (by decide +kernel)
theorem w_1127 : Cond.methodLink RX11 131 yX11_allIce ∈ mj_TB := mj_tb 1127 (by decide +kernel) (by decide +kernel)
theorem w_1129 : Cond.instanceMethod yX11_allIce ∈ mj_TB := mj_tb 1129 (by decide +kernel) (by decide +kernel)
theorem w_1130 : Cond.code yX11_allIce cX11_allIce 3 (some .int) ∈ mj_TB := mj_tb 1130 (by decide +kernel) (by decide +kernel)
theorem w_1131 : Cond.methodLink RL 56 yX11_tread ∈ mj_TB := mj_tb 1131 (by decide +kernel) (by decide +kernel)
theorem w_1132 : Cond.instanceMethod yX11_tread ∈ mj_TB := mj_tb 1132 (by decide +kernel) (by decide +kernel)
theorem w_1133 : Cond.selects RX11 yX11_tread yX11_tread ∈ mj_TB := mj_tb 1133 (by decide +kernel) (by decide +kernel)
theorem w_1134 : Cond.code yX11_tread cX11_tread 5 (some .int) ∈ mj_TB := mj_tb 1134 (by decide +kernel) (by decide +kernel)
theorem w_1135 : Cond.methodLink RX11 100 yX11_bearsAs ∈ mj_TB := mj_tb 1135 (by decide +kernel) (by decide +kernel)
theorem w_1136 : Cond.static yX11_bearsAs ∈ mj_TB := mj_tb 1136 (by decide +kernel) (by decide +kernel)
theorem w_1137 : Cond.code yX11_bearsAs cX11_bearsAs 3 (some .int) ∈ mj_TB := mj_tb 1137 (by decide +kernel) (by decide +kernel)
theorem w_1138 : Cond.methodLink RL 60 yX11_stone ∈ mj_TB := mj_tb 1138 (by decide +kernel) (by decide +kernel)
theorem w_1139 : Cond.instanceMethod yX11_stone ∈ mj_TB := mj_tb 1139 (by decide +kernel) (by decide +kernel)
theorem w_1140 : Cond.selects RX11 yX11_stone yX11_stone ∈ mj_TB := mj_tb 1140 (by decide +kernel) (by decide +kernel)
theorem w_1141 : Cond.code yX11_stone cX11_stone 2 (some .int) ∈ mj_TB := mj_tb 1141 (by decide +kernel) (by decide +kernel)
theorem w_1142 : Cond.methodLink RL 64 yX11_undo ∈ mj_TB := mj_tb 1142 (by decide +kernel) (by decide +kernel)
theorem w_1143 : Cond.instanceMethod yX11_undo ∈ mj_TB := mj_tb 1143 (by decide +kernel) (by decide +kernel)
theorem w_1144 : Cond.selects RX11 yX11_undo yX11_undo ∈ mj_TB := mj_tb 1144 (by decide +kernel) (by decide +kernel)
theorem w_1145 : Cond.code yX11_undo cX11_undo 2 (some .int) ∈ mj_TB := mj_tb 1145 (by decide +kernel) (by decide +kernel)
theorem w_1146 : Cond.methodLink RX11 134 yX11_no ∈ mj_TB := mj_tb 1146 (by decide +kernel) (by decide +kernel)
theorem w_1148 : Cond.instanceMethod yX11_no ∈ mj_TB := mj_tb 1148 (by decide +kernel) (by decide +kernel)
theorem w_1149 : Cond.code yX11_no cX11_no 1 (some .int) ∈ mj_TB := mj_tb 1149 (by decide +kernel) (by decide +kernel)
theorem w_1150 : Cond.methodLink RL 68 yX11_of ∈ mj_TB := mj_tb 1150 (by decide +kernel) (by decide +kernel)
theorem w_1151 : Cond.instanceMethod yX11_of ∈ mj_TB := mj_tb 1151 (by decide +kernel) (by decide +kernel)
theorem w_1152 : Cond.selects RX11 yX11_of yX11_of ∈ mj_TB := mj_tb 1152 (by decide +kernel) (by decide +kernel)
theorem w_1153 : Cond.code yX11_of cX11_of 3 (some .int) ∈ mj_TB := mj_tb 1153 (by decide +kernel) (by decide +kernel)
theorem w_1154 : Cond.constantLong RX11 137 (2) ∈ mj_TB := mj_tb 1154 (by decide +kernel) (by decide +kernel)
theorem w_1155 : Cond.methodLink RL 72 yX11_about ∈ mj_TB := mj_tb 1155 (by decide +kernel) (by decide +kernel)
theorem w_1156 : Cond.instanceMethod yX11_about ∈ mj_TB := mj_tb 1156 (by decide +kernel) (by decide +kernel)
theorem w_1157 : Cond.selects RX11 yX11_about yX11_about ∈ mj_TB := mj_tb 1157 (by decide +kernel) (by decide +kernel)
theorem w_1158 : Cond.code yX11_about cX11_about 4 (some .int) ∈ mj_TB := mj_tb 1158 (by decide +kernel) (by decide +kernel)
theorem w_1159 : Cond.methodLink RX11 146 yX11_isVoter ∈ mj_TB := mj_tb 1159 (by decide +kernel) (by decide +kernel)
theorem w_1161 : Cond.instanceMethod yX11_isVoter ∈ mj_TB := mj_tb 1161 (by decide +kernel) (by decide +kernel)
theorem w_1162 : Cond.code yX11_isVoter cX11_isVoter 2 (some .boolean) ∈ mj_TB := mj_tb 1162 (by decide +kernel) (by decide +kernel)
theorem w_1163 : Cond.methodLink RX11 149 yX11_frostNow ∈ mj_TB := mj_tb 1163 (by decide +kernel) (by decide +kernel)
theorem w_1165 : Cond.instanceMethod yX11_frostNow ∈ mj_TB := mj_tb 1165 (by decide +kernel) (by decide +kernel)
theorem w_1166 : Cond.code yX11_frostNow cX11_frostNow 1 (some .int) ∈ mj_TB := mj_tb 1166 (by decide +kernel) (by decide +kernel)
theorem w_1167 : Cond.methodLink RX11 152 yX11_votesYes ∈ mj_TB := mj_tb 1167 (by decide +kernel) (by decide +kernel)
theorem w_1169 : Cond.instanceMethod yX11_votesYes ∈ mj_TB := mj_tb 1169 (by decide +kernel) (by decide +kernel)
theorem w_1170 : Cond.code yX11_votesYes cX11_votesYes 4 (some .boolean) ∈ mj_TB := mj_tb 1170 (by decide +kernel) (by decide +kernel)
theorem w_1171 : Cond.methodLink RX11 116 yX11_bears ∈ mj_TB := mj_tb 1171 (by decide +kernel) (by decide +kernel)
theorem w_1173 : Cond.instanceMethod yX11_bears ∈ mj_TB := mj_tb 1173 (by decide +kernel) (by decide +kernel)
theorem w_1174 : Cond.code yX11_bears cX11_bears 2 (some .int) ∈ mj_TB := mj_tb 1174 (by decide +kernel) (by decide +kernel)
theorem w_1175 : Cond.methodLink RX11 139 yX11_leastBeside ∈ mj_TB := mj_tb 1175 (by decide +kernel) (by decide +kernel)
theorem w_1177 : Cond.instanceMethod yX11_leastBeside ∈ mj_TB := mj_tb 1177 (by decide +kernel) (by decide +kernel)
theorem w_1178 : Cond.code yX11_leastBeside cX11_leastBeside 4 (some .int) ∈ mj_TB := mj_tb 1178 (by decide +kernel) (by decide +kernel)
theorem w_1179 : Cond.constant RX11 111 (1000000) ∈ mj_TB := mj_tb 1179 (by decide +kernel) (by decide +kernel)
theorem w_1180 : Cond.methodLink RX11 112 yX11_areBeside ∈ mj_TB := mj_tb 1180 (by decide +kernel) (by decide +kernel)
theorem w_1181 : Cond.static yX11_areBeside ∈ mj_TB := mj_tb 1181 (by decide +kernel) (by decide +kernel)
theorem w_1182 : Cond.code yX11_areBeside cX11_areBeside 4 (some .boolean) ∈ mj_TB := mj_tb 1182 (by decide +kernel) (by decide +kernel)
theorem w_1183 : Cond.methodLink RX11 142 yX11_votesAs ∈ mj_TB := mj_tb 1183 (by decide +kernel) (by decide +kernel)
theorem w_1184 : Cond.static yX11_votesAs ∈ mj_TB := mj_tb 1184 (by decide +kernel) (by decide +kernel)
theorem w_1185 : Cond.code yX11_votesAs cX11_votesAs 8 (some .boolean) ∈ mj_TB := mj_tb 1185 (by decide +kernel) (by decide +kernel)
theorem w_1186 : Cond.methodLink RL 76 yX11_then ∈ mj_TB := mj_tb 1186 (by decide +kernel) (by decide +kernel)
theorem w_1187 : Cond.instanceMethod yX11_then ∈ mj_TB := mj_tb 1187 (by decide +kernel) (by decide +kernel)
theorem w_1188 : Cond.selects RX11 yX11_then yX11_then ∈ mj_TB := mj_tb 1188 (by decide +kernel) (by decide +kernel)
theorem w_1189 : Cond.code yX11_then cX11_then 4 (some .int) ∈ mj_TB := mj_tb 1189 (by decide +kernel) (by decide +kernel)
theorem w_1190 : Cond.methodLink RL 80 yX11_when ∈ mj_TB := mj_tb 1190 (by decide +kernel) (by decide +kernel)
theorem w_1191 : Cond.instanceMethod yX11_when ∈ mj_TB := mj_tb 1191 (by decide +kernel) (by decide +kernel)
theorem w_1192 : Cond.selects RX11 yX11_when yX11_when ∈ mj_TB := mj_tb 1192 (by decide +kernel) (by decide +kernel)
theorem w_1193 : Cond.code yX11_when cX11_when 4 (some .int) ∈ mj_TB := mj_tb 1193 (by decide +kernel) (by decide +kernel)
theorem w_1194 : Cond.methodLink RX11 155 yX11_isBurden ∈ mj_TB := mj_tb 1194 (by decide +kernel) (by decide +kernel)
theorem w_1195 : Cond.static yX11_isBurden ∈ mj_TB := mj_tb 1195 (by decide +kernel) (by decide +kernel)
theorem w_1196 : Cond.code yX11_isBurden cX11_isBurden 1 (some .boolean) ∈ mj_TB := mj_tb 1196 (by decide +kernel) (by decide +kernel)
theorem w_1197 : Cond.constantLong RX11 60 (198) ∈ mj_TB := mj_tb 1197 (by decide +kernel) (by decide +kernel)
theorem w_1198 : Cond.methodLink RX11 158 yX11_goOne ∈ mj_TB := mj_tb 1198 (by decide +kernel) (by decide +kernel)
theorem w_1200 : Cond.instanceMethod yX11_goOne ∈ mj_TB := mj_tb 1200 (by decide +kernel) (by decide +kernel)
theorem w_1201 : Cond.code yX11_goOne cX11_goOne 3 none ∈ mj_TB := mj_tb 1201 (by decide +kernel) (by decide +kernel)
theorem w_1202 : Cond.methodLink RL 84 yX11_where ∈ mj_TB := mj_tb 1202 (by decide +kernel) (by decide +kernel)
theorem w_1203 : Cond.instanceMethod yX11_where ∈ mj_TB := mj_tb 1203 (by decide +kernel) (by decide +kernel)
theorem w_1204 : Cond.selects RX11 yX11_where yX11_where ∈ mj_TB := mj_tb 1204 (by decide +kernel) (by decide +kernel)
theorem w_1205 : Cond.code yX11_where cX11_where 5 (some .int) ∈ mj_TB := mj_tb 1205 (by decide +kernel) (by decide +kernel)
theorem w_1206 : Cond.methodLink RL 88 yX11_horses ∈ mj_TB := mj_tb 1206 (by decide +kernel) (by decide +kernel)
theorem w_1207 : Cond.instanceMethod yX11_horses ∈ mj_TB := mj_tb 1207 (by decide +kernel) (by decide +kernel)
theorem w_1208 : Cond.selects RX11 yX11_horses yX11_horses ∈ mj_TB := mj_tb 1208 (by decide +kernel) (by decide +kernel)
theorem w_1209 : Cond.code yX11_horses cX11_horses 5 (some .int) ∈ mj_TB := mj_tb 1209 (by decide +kernel) (by decide +kernel)
theorem w_1210 : Cond.methodLink RL 93 yX11_path ∈ mj_TB := mj_tb 1210 (by decide +kernel) (by decide +kernel)
theorem w_1211 : Cond.instanceMethod yX11_path ∈ mj_TB := mj_tb 1211 (by decide +kernel) (by decide +kernel)
theorem w_1212 : Cond.selects RX11 yX11_path yX11_path ∈ mj_TB := mj_tb 1212 (by decide +kernel) (by decide +kernel)
theorem w_1213 : Cond.code yX11_path cX11_path 7 (some .int) ∈ mj_TB := mj_tb 1213 (by decide +kernel) (by decide +kernel)
theorem w_1214 : Cond.methodLink RX11 167 yX11_layFar ∈ mj_TB := mj_tb 1214 (by decide +kernel) (by decide +kernel)
theorem w_1216 : Cond.instanceMethod yX11_layFar ∈ mj_TB := mj_tb 1216 (by decide +kernel) (by decide +kernel)
theorem w_1217 : Cond.code yX11_layFar cX11_layFar 6 none ∈ mj_TB := mj_tb 1217 (by decide +kernel) (by decide +kernel)
theorem w_1218 : Cond.methodLink RX11 161 yX11_has ∈ mj_TB := mj_tb 1218 (by decide +kernel) (by decide +kernel)
theorem w_1219 : Cond.static yX11_has ∈ mj_TB := mj_tb 1219 (by decide +kernel) (by decide +kernel)
theorem w_1220 : Cond.code yX11_has cX11_has 2 (some .boolean) ∈ mj_TB := mj_tb 1220 (by decide +kernel) (by decide +kernel)
theorem w_1221 : Cond.methodLink RX11 164 yX11_layNearer ∈ mj_TB := mj_tb 1221 (by decide +kernel) (by decide +kernel)
theorem w_1223 : Cond.instanceMethod yX11_layNearer ∈ mj_TB := mj_tb 1223 (by decide +kernel) (by decide +kernel)
theorem w_1224 : Cond.code yX11_layNearer cX11_layNearer 5 (some .boolean) ∈ mj_TB := mj_tb 1224 (by decide +kernel) (by decide +kernel)
theorem w_1225 : Cond.methodLink RX11 171 yX11_nextOf ∈ mj_TB := mj_tb 1225 (by decide +kernel) (by decide +kernel)
theorem w_1227 : Cond.instanceMethod yX11_nextOf ∈ mj_TB := mj_tb 1227 (by decide +kernel) (by decide +kernel)
theorem w_1228 : Cond.code yX11_nextOf cX11_nextOf 3 (some .int) ∈ mj_TB := mj_tb 1228 (by decide +kernel) (by decide +kernel)
theorem w_1229 : Cond.methodLink RL 97 yX11_safe ∈ mj_TB := mj_tb 1229 (by decide +kernel) (by decide +kernel)
theorem w_1230 : Cond.instanceMethod yX11_safe ∈ mj_TB := mj_tb 1230 (by decide +kernel) (by decide +kernel)
theorem w_1231 : Cond.selects RX11 yX11_safe yX11_safe ∈ mj_TB := mj_tb 1231 (by decide +kernel) (by decide +kernel)
theorem w_1232 : Cond.code yX11_safe cX11_safe 4 (some .int) ∈ mj_TB := mj_tb 1232 (by decide +kernel) (by decide +kernel)
theorem w_1233 : Cond.methodLink RL 101 yX11_cross ∈ mj_TB := mj_tb 1233 (by decide +kernel) (by decide +kernel)
theorem w_1234 : Cond.instanceMethod yX11_cross ∈ mj_TB := mj_tb 1234 (by decide +kernel) (by decide +kernel)
theorem w_1235 : Cond.selects RX11 yX11_cross yX11_cross ∈ mj_TB := mj_tb 1235 (by decide +kernel) (by decide +kernel)
theorem w_1236 : Cond.code yX11_cross cX11_cross 7 (some .int) ∈ mj_TB := mj_tb 1236 (by decide +kernel) (by decide +kernel)
theorem w_1237 : Cond.methodLink RL 105 yX11_apart ∈ mj_TB := mj_tb 1237 (by decide +kernel) (by decide +kernel)
theorem w_1238 : Cond.instanceMethod yX11_apart ∈ mj_TB := mj_tb 1238 (by decide +kernel) (by decide +kernel)
theorem w_1239 : Cond.selects RX11 yX11_apart yX11_apart ∈ mj_TB := mj_tb 1239 (by decide +kernel) (by decide +kernel)
theorem w_1240 : Cond.code yX11_apart cX11_apart 6 (some .int) ∈ mj_TB := mj_tb 1240 (by decide +kernel) (by decide +kernel)
theorem w_1241 : Cond.methodLink RX11 178 yX11_partsOf ∈ mj_TB := mj_tb 1241 (by decide +kernel) (by decide +kernel)
theorem w_1243 : Cond.instanceMethod yX11_partsOf ∈ mj_TB := mj_tb 1243 (by decide +kernel) (by decide +kernel)
theorem w_1244 : Cond.code yX11_partsOf cX11_partsOf 7 (some .int) ∈ mj_TB := mj_tb 1244 (by decide +kernel) (by decide +kernel)
theorem w_1245 : Cond.methodLink RX11 174 yX11_isParted ∈ mj_TB := mj_tb 1245 (by decide +kernel) (by decide +kernel)
theorem w_1247 : Cond.instanceMethod yX11_isParted ∈ mj_TB := mj_tb 1247 (by decide +kernel) (by decide +kernel)
theorem w_1248 : Cond.code yX11_isParted cX11_isParted 5 (some .boolean) ∈ mj_TB := mj_tb 1248 (by decide +kernel) (by decide +kernel)
theorem w_1249 : Cond.methodLink RL 109 yX11_votes ∈ mj_TB := mj_tb 1249 (by decide +kernel) (by decide +kernel)
theorem w_1250 : Cond.instanceMethod yX11_votes ∈ mj_TB := mj_tb 1250 (by decide +kernel) (by decide +kernel)
theorem w_1251 : Cond.selects RX11 yX11_votes yX11_votes ∈ mj_TB := mj_tb 1251 (by decide +kernel) (by decide +kernel)
theorem w_1252 : Cond.code yX11_votes cX11_votes 3 (some .int) ∈ mj_TB := mj_tb 1252 (by decide +kernel) (by decide +kernel)
theorem w_1253 : Cond.methodLink RX11 193 yX11_yesOf ∈ mj_TB := mj_tb 1253 (by decide +kernel) (by decide +kernel)
theorem w_1255 : Cond.instanceMethod yX11_yesOf ∈ mj_TB := mj_tb 1255 (by decide +kernel) (by decide +kernel)
theorem w_1256 : Cond.code yX11_yesOf cX11_yesOf 4 (some .int) ∈ mj_TB := mj_tb 1256 (by decide +kernel) (by decide +kernel)
theorem w_1257 : Cond.methodLink RX11 196 yX11_wetOf ∈ mj_TB := mj_tb 1257 (by decide +kernel) (by decide +kernel)
theorem w_1259 : Cond.instanceMethod yX11_wetOf ∈ mj_TB := mj_tb 1259 (by decide +kernel) (by decide +kernel)
theorem w_1260 : Cond.code yX11_wetOf cX11_wetOf 4 (some .int) ∈ mj_TB := mj_tb 1260 (by decide +kernel) (by decide +kernel)
theorem w_1261 : Cond.methodLink RX11 187 yX11_isCarried ∈ mj_TB := mj_tb 1261 (by decide +kernel) (by decide +kernel)
theorem w_1263 : Cond.instanceMethod yX11_isCarried ∈ mj_TB := mj_tb 1263 (by decide +kernel) (by decide +kernel)
theorem w_1264 : Cond.code yX11_isCarried cX11_isCarried 3 (some .boolean) ∈ mj_TB := mj_tb 1264 (by decide +kernel) (by decide +kernel)
theorem w_1265 : Cond.methodLink RX11 181 yX11_bits ∈ mj_TB := mj_tb 1265 (by decide +kernel) (by decide +kernel)
theorem w_1266 : Cond.static yX11_bits ∈ mj_TB := mj_tb 1266 (by decide +kernel) (by decide +kernel)
theorem w_1267 : Cond.code yX11_bits cX11_bits 3 (some .int) ∈ mj_TB := mj_tb 1267 (by decide +kernel) (by decide +kernel)
theorem w_1268 : Cond.methodLink RX11 184 yX11_heaviest ∈ mj_TB := mj_tb 1268 (by decide +kernel) (by decide +kernel)
theorem w_1270 : Cond.instanceMethod yX11_heaviest ∈ mj_TB := mj_tb 1270 (by decide +kernel) (by decide +kernel)
theorem w_1271 : Cond.code yX11_heaviest cX11_heaviest 3 (some .int) ∈ mj_TB := mj_tb 1271 (by decide +kernel) (by decide +kernel)
theorem w_1272 : Cond.methodLink RX11 190 yX11_bearsIt ∈ mj_TB := mj_tb 1272 (by decide +kernel) (by decide +kernel)
theorem w_1274 : Cond.instanceMethod yX11_bearsIt ∈ mj_TB := mj_tb 1274 (by decide +kernel) (by decide +kernel)
theorem w_1275 : Cond.code yX11_bearsIt cX11_bearsIt 2 (some .boolean) ∈ mj_TB := mj_tb 1275 (by decide +kernel) (by decide +kernel)
theorem w_1276 : Cond.methodLink RL 113 yX11_turn ∈ mj_TB := mj_tb 1276 (by decide +kernel) (by decide +kernel)
theorem w_1277 : Cond.instanceMethod yX11_turn ∈ mj_TB := mj_tb 1277 (by decide +kernel) (by decide +kernel)
theorem w_1278 : Cond.selects RX11 yX11_turn yX11_turn ∈ mj_TB := mj_tb 1278 (by decide +kernel) (by decide +kernel)
theorem w_1279 : Cond.code yX11_turn cX11_turn 5 (some .int) ∈ mj_TB := mj_tb 1279 (by decide +kernel) (by decide +kernel)
theorem w_1280 : Cond.methodLink RL 117 yX11_seen ∈ mj_TB := mj_tb 1280 (by decide +kernel) (by decide +kernel)
theorem w_1281 : Cond.instanceMethod yX11_seen ∈ mj_TB := mj_tb 1281 (by decide +kernel) (by decide +kernel)
theorem w_1282 : Cond.selects RX11 yX11_seen yX11_seen ∈ mj_TB := mj_tb 1282 (by decide +kernel) (by decide +kernel)
theorem w_1283 : Cond.code yX11_seen cX11_seen 7 (some .int) ∈ mj_TB := mj_tb 1283 (by decide +kernel) (by decide +kernel)
theorem w_1284 : Cond.methodLink RL 121 yX11_lies ∈ mj_TB := mj_tb 1284 (by decide +kernel) (by decide +kernel)
theorem w_1285 : Cond.instanceMethod yX11_lies ∈ mj_TB := mj_tb 1285 (by decide +kernel) (by decide +kernel)
theorem w_1286 : Cond.selects RX11 yX11_lies yX11_lies ∈ mj_TB := mj_tb 1286 (by decide +kernel) (by decide +kernel)
theorem w_1287 : Cond.code yX11_lies cX11_lies 5 (some .int) ∈ mj_TB := mj_tb 1287 (by decide +kernel) (by decide +kernel)
theorem w_1288 : Cond.methodLink RL 125 yX11_stones ∈ mj_TB := mj_tb 1288 (by decide +kernel) (by decide +kernel)
theorem w_1289 : Cond.instanceMethod yX11_stones ∈ mj_TB := mj_tb 1289 (by decide +kernel) (by decide +kernel)
theorem w_1290 : Cond.selects RX11 yX11_stones yX11_stones ∈ mj_TB := mj_tb 1290 (by decide +kernel) (by decide +kernel)
theorem w_1291 : Cond.code yX11_stones cX11_stones 6 (some .int) ∈ mj_TB := mj_tb 1291 (by decide +kernel) (by decide +kernel)
theorem w_1292 : Cond.methodLink RL 130 yX11_note ∈ mj_TB := mj_tb 1292 (by decide +kernel) (by decide +kernel)
theorem w_1293 : Cond.instanceMethod yX11_note ∈ mj_TB := mj_tb 1293 (by decide +kernel) (by decide +kernel)
theorem w_1294 : Cond.selects RX11 yX11_note yX11_note ∈ mj_TB := mj_tb 1294 (by decide +kernel) (by decide +kernel)
theorem w_1295 : Cond.code yX11_note cX11_note 7 (some .int) ∈ mj_TB := mj_tb 1295 (by decide +kernel) (by decide +kernel)
theorem w_1296 : Cond.methodLink RL 134 yX11_voted ∈ mj_TB := mj_tb 1296 (by decide +kernel) (by decide +kernel)
theorem w_1297 : Cond.instanceMethod yX11_voted ∈ mj_TB := mj_tb 1297 (by decide +kernel) (by decide +kernel)
theorem w_1298 : Cond.selects RX11 yX11_voted yX11_voted ∈ mj_TB := mj_tb 1298 (by decide +kernel) (by decide +kernel)
theorem w_1299 : Cond.code yX11_voted cX11_voted 7 (some .int) ∈ mj_TB := mj_tb 1299 (by decide +kernel) (by decide +kernel)
theorem w_1300 : Cond.methodLink RL 138 yX11_forget ∈ mj_TB := mj_tb 1300 (by decide +kernel) (by decide +kernel)
theorem w_1301 : Cond.instanceMethod yX11_forget ∈ mj_TB := mj_tb 1301 (by decide +kernel) (by decide +kernel)
theorem w_1302 : Cond.selects RX11 yX11_forget yX11_forget ∈ mj_TB := mj_tb 1302 (by decide +kernel) (by decide +kernel)
theorem w_1303 : Cond.code yX11_forget cX11_forget 3 (some .int) ∈ mj_TB := mj_tb 1303 (by decide +kernel) (by decide +kernel)
theorem w_1304 : Cond.methodLink RL 142 yX11_is ∈ mj_TB := mj_tb 1304 (by decide +kernel) (by decide +kernel)
theorem w_1305 : Cond.instanceMethod yX11_is ∈ mj_TB := mj_tb 1305 (by decide +kernel) (by decide +kernel)
theorem w_1306 : Cond.selects RX11 yX11_is yX11_is ∈ mj_TB := mj_tb 1306 (by decide +kernel) (by decide +kernel)
theorem w_1307 : Cond.code yX11_is cX11_is 2 (some .int) ∈ mj_TB := mj_tb 1307 (by decide +kernel) (by decide +kernel)
theorem w_1308 : Cond.methodLink RX11 199 yX11_kindsOf ∈ mj_TB := mj_tb 1308 (by decide +kernel) (by decide +kernel)
theorem w_1310 : Cond.instanceMethod yX11_kindsOf ∈ mj_TB := mj_tb 1310 (by decide +kernel) (by decide +kernel)
theorem w_1311 : Cond.code yX11_kindsOf cX11_kindsOf 7 (some .int) ∈ mj_TB := mj_tb 1311 (by decide +kernel) (by decide +kernel)
theorem w_1312 : Cond.methodLink RL 146 yX11_next ∈ mj_TB := mj_tb 1312 (by decide +kernel) (by decide +kernel)
theorem w_1313 : Cond.instanceMethod yX11_next ∈ mj_TB := mj_tb 1313 (by decide +kernel) (by decide +kernel)
theorem w_1314 : Cond.selects RX11 yX11_next yX11_next ∈ mj_TB := mj_tb 1314 (by decide +kernel) (by decide +kernel)
theorem w_1315 : Cond.code yX11_next cX11_next 11 (some .int) ∈ mj_TB := mj_tb 1315 (by decide +kernel) (by decide +kernel)
theorem w_1316 : Cond.methodLink RL 150 yX11_who ∈ mj_TB := mj_tb 1316 (by decide +kernel) (by decide +kernel)
theorem w_1317 : Cond.instanceMethod yX11_who ∈ mj_TB := mj_tb 1317 (by decide +kernel) (by decide +kernel)
theorem w_1318 : Cond.selects RX11 yX11_who yX11_who ∈ mj_TB := mj_tb 1318 (by decide +kernel) (by decide +kernel)
theorem w_1319 : Cond.code yX11_who cX11_who 8 (some .int) ∈ mj_TB := mj_tb 1319 (by decide +kernel) (by decide +kernel)
theorem w_1320 : Cond.methodLink RL 154 yX11_two ∈ mj_TB := mj_tb 1320 (by decide +kernel) (by decide +kernel)
theorem w_1321 : Cond.instanceMethod yX11_two ∈ mj_TB := mj_tb 1321 (by decide +kernel) (by decide +kernel)
theorem w_1322 : Cond.selects RX11 yX11_two yX11_two ∈ mj_TB := mj_tb 1322 (by decide +kernel) (by decide +kernel)
theorem w_1323 : Cond.code yX11_two cX11_two 8 (some .int) ∈ mj_TB := mj_tb 1323 (by decide +kernel) (by decide +kernel)
theorem w_1324 : Cond.methodLink RX11 202 yX11_hasBy ∈ mj_TB := mj_tb 1324 (by decide +kernel) (by decide +kernel)
theorem w_1326 : Cond.instanceMethod yX11_hasBy ∈ mj_TB := mj_tb 1326 (by decide +kernel) (by decide +kernel)
theorem w_1327 : Cond.code yX11_hasBy cX11_hasBy 3 (some .int) ∈ mj_TB := mj_tb 1327 (by decide +kernel) (by decide +kernel)
theorem w_1328 : Cond.methodLink RL 158 yX11_thaw ∈ mj_TB := mj_tb 1328 (by decide +kernel) (by decide +kernel)
theorem w_1329 : Cond.instanceMethod yX11_thaw ∈ mj_TB := mj_tb 1329 (by decide +kernel) (by decide +kernel)
theorem w_1330 : Cond.selects RX11 yX11_thaw yX11_thaw ∈ mj_TB := mj_tb 1330 (by decide +kernel) (by decide +kernel)
theorem w_1331 : Cond.code yX11_thaw cX11_thaw 15 (some .int) ∈ mj_TB := mj_tb 1331 (by decide +kernel) (by decide +kernel)
theorem w_1332 : Cond.constantLong RX11 208 (8) ∈ mj_TB := mj_tb 1332 (by decide +kernel) (by decide +kernel)
theorem w_1333 : Cond.constantLong RX11 210 (10) ∈ mj_TB := mj_tb 1333 (by decide +kernel) (by decide +kernel)
theorem w_1334 : Cond.methodLink RX11 212 yX11_fraction ∈ mj_TB := mj_tb 1334 (by decide +kernel) (by decide +kernel)
theorem w_1336 : Cond.instanceMethod yX11_fraction ∈ mj_TB := mj_tb 1336 (by decide +kernel) (by decide +kernel)
theorem w_1337 : Cond.code yX11_fraction cX11_fraction 11 none ∈ mj_TB := mj_tb 1337 (by decide +kernel) (by decide +kernel)
theorem w_1338 : Cond.methodLink RL 162 yX11_winters ∈ mj_TB := mj_tb 1338 (by decide +kernel) (by decide +kernel)
theorem w_1339 : Cond.instanceMethod yX11_winters ∈ mj_TB := mj_tb 1339 (by decide +kernel) (by decide +kernel)
theorem w_1340 : Cond.selects RX11 yX11_winters yX11_winters ∈ mj_TB := mj_tb 1340 (by decide +kernel) (by decide +kernel)
theorem w_1341 : Cond.code yX11_winters cX11_winters 8 (some .int) ∈ mj_TB := mj_tb 1341 (by decide +kernel) (by decide +kernel)
theorem w_1342 : Cond.constantLong RX11 216 (999999) ∈ mj_TB := mj_tb 1342 (by decide +kernel) (by decide +kernel)
theorem w_1343 : Cond.constantLong RX11 218 (1103515245) ∈ mj_TB := mj_tb 1343 (by decide +kernel) (by decide +kernel)
theorem w_1344 : Cond.constantLong RX11 220 (12345) ∈ mj_TB := mj_tb 1344 (by decide +kernel) (by decide +kernel)
theorem w_1345 : Cond.constantLong RX11 222 (2147483648) ∈ mj_TB := mj_tb 1345 (by decide +kernel) (by decide +kernel)
theorem w_1346 : Cond.constantLong RX11 224 (65536) ∈ mj_TB := mj_tb 1346 (by decide +kernel) (by decide +kernel)
theorem w_1347 : Cond.constantLong RX11 226 (1048576) ∈ mj_TB := mj_tb 1347 (by decide +kernel) (by decide +kernel)
theorem w_1348 : Cond.methodLink RL 39 yX11_type ∈ mj_TB := mj_tb 1348 (by decide +kernel) (by decide +kernel)
theorem w_1349 : Cond.instanceMethod yX11_type ∈ mj_TB := mj_tb 1349 (by decide +kernel) (by decide +kernel)
theorem w_1350 : Cond.selects RX11 yX11_type yX11_type ∈ mj_TB := mj_tb 1350 (by decide +kernel) (by decide +kernel)
theorem w_1351 : Cond.code yX11_type cX11_type 2 (some .int) ∈ mj_TB := mj_tb 1351 (by decide +kernel) (by decide +kernel)
theorem w_1352 : Cond.constantLong RX11 228 (127) ∈ mj_TB := mj_tb 1352 (by decide +kernel) (by decide +kernel)
theorem w_1353 : Cond.methodLink RL 44 yX11_clear ∈ mj_TB := mj_tb 1353 (by decide +kernel) (by decide +kernel)
theorem w_1354 : Cond.instanceMethod yX11_clear ∈ mj_TB := mj_tb 1354 (by decide +kernel) (by decide +kernel)
theorem w_1355 : Cond.selects RX11 yX11_clear yX11_clear ∈ mj_TB := mj_tb 1355 (by decide +kernel) (by decide +kernel)
theorem w_1356 : Cond.code yX11_clear cX11_clear 2 (some .int) ∈ mj_TB := mj_tb 1356 (by decide +kernel) (by decide +kernel)
theorem w_1357 : Cond.methodLink RL 48 yX11_read ∈ mj_TB := mj_tb 1357 (by decide +kernel) (by decide +kernel)
theorem w_1358 : Cond.instanceMethod yX11_read ∈ mj_TB := mj_tb 1358 (by decide +kernel) (by decide +kernel)
theorem w_1359 : Cond.selects RX11 yX11_read yX11_read ∈ mj_TB := mj_tb 1359 (by decide +kernel) (by decide +kernel)
theorem w_1360 : Cond.code yX11_read cX11_read 3 (some .int) ∈ mj_TB := mj_tb 1360 (by decide +kernel) (by decide +kernel)
theorem w_1361 : Cond.methodLink RX11 260 yX11_lookAt ∈ mj_TB := mj_tb 1361 (by decide +kernel) (by decide +kernel)
theorem w_1363 : Cond.instanceMethod yX11_lookAt ∈ mj_TB := mj_tb 1363 (by decide +kernel) (by decide +kernel)
theorem w_1364 : Cond.code yX11_lookAt cX11_lookAt 5 none ∈ mj_TB := mj_tb 1364 (by decide +kernel) (by decide +kernel)
theorem w_1365 : Cond.methodLink RX11 254 yX11_isSmall ∈ mj_TB := mj_tb 1365 (by decide +kernel) (by decide +kernel)
theorem w_1366 : Cond.static yX11_isSmall ∈ mj_TB := mj_tb 1366 (by decide +kernel) (by decide +kernel)
theorem w_1367 : Cond.code yX11_isSmall cX11_isSmall 1 (some .boolean) ∈ mj_TB := mj_tb 1367 (by decide +kernel) (by decide +kernel)
theorem w_1368 : Cond.constantLong RX11 234 (97) ∈ mj_TB := mj_tb 1368 (by decide +kernel) (by decide +kernel)
theorem w_1369 : Cond.constantLong RX11 236 (122) ∈ mj_TB := mj_tb 1369 (by decide +kernel) (by decide +kernel)
theorem w_1370 : Cond.methodLink RX11 257 yX11_isFigure ∈ mj_TB := mj_tb 1370 (by decide +kernel) (by decide +kernel)
theorem w_1371 : Cond.static yX11_isFigure ∈ mj_TB := mj_tb 1371 (by decide +kernel) (by decide +kernel)
theorem w_1372 : Cond.code yX11_isFigure cX11_isFigure 1 (some .boolean) ∈ mj_TB := mj_tb 1372 (by decide +kernel) (by decide +kernel)
theorem w_1373 : Cond.constantLong RX11 238 (48) ∈ mj_TB := mj_tb 1373 (by decide +kernel) (by decide +kernel)
theorem w_1374 : Cond.constantLong RX11 240 (57) ∈ mj_TB := mj_tb 1374 (by decide +kernel) (by decide +kernel)
theorem w_1375 : Cond.methodLink RX11 284 yX11_takesLake ∈ mj_TB := mj_tb 1375 (by decide +kernel) (by decide +kernel)
theorem w_1377 : Cond.instanceMethod yX11_takesLake ∈ mj_TB := mj_tb 1377 (by decide +kernel) (by decide +kernel)
theorem w_1378 : Cond.code yX11_takesLake cX11_takesLake 1 (some .boolean) ∈ mj_TB := mj_tb 1378 (by decide +kernel) (by decide +kernel)
theorem w_1379 : Cond.methodLink RX11 266 yX11_spells ∈ mj_TB := mj_tb 1379 (by decide +kernel) (by decide +kernel)
theorem w_1381 : Cond.instanceMethod yX11_spells ∈ mj_TB := mj_tb 1381 (by decide +kernel) (by decide +kernel)
theorem w_1382 : Cond.code yX11_spells cX11_spells 10 (some .boolean) ∈ mj_TB := mj_tb 1382 (by decide +kernel) (by decide +kernel)
theorem w_1383 : Cond.methodLink RX11 263 yX11_goBehind ∈ mj_TB := mj_tb 1383 (by decide +kernel) (by decide +kernel)
theorem w_1385 : Cond.instanceMethod yX11_goBehind ∈ mj_TB := mj_tb 1385 (by decide +kernel) (by decide +kernel)
theorem w_1386 : Cond.code yX11_goBehind cX11_goBehind 1 none ∈ mj_TB := mj_tb 1386 (by decide +kernel) (by decide +kernel)
theorem w_1387 : Cond.methodLink RX11 270 yX11_takes ∈ mj_TB := mj_tb 1387 (by decide +kernel) (by decide +kernel)
theorem w_1389 : Cond.instanceMethod yX11_takes ∈ mj_TB := mj_tb 1389 (by decide +kernel) (by decide +kernel)
theorem w_1390 : Cond.code yX11_takes cX11_takes 4 (some .boolean) ∈ mj_TB := mj_tb 1390 (by decide +kernel) (by decide +kernel)
theorem w_1391 : Cond.methodLink RX11 287 yX11_takesItem ∈ mj_TB := mj_tb 1391 (by decide +kernel) (by decide +kernel)
theorem w_1393 : Cond.instanceMethod yX11_takesItem ∈ mj_TB := mj_tb 1393 (by decide +kernel) (by decide +kernel)
theorem w_1394 : Cond.code yX11_takesItem cX11_takesItem 1 (some .boolean) ∈ mj_TB := mj_tb 1394 (by decide +kernel) (by decide +kernel)
theorem w_1395 : Cond.methodLink RX11 274 yX11_takesCell ∈ mj_TB := mj_tb 1395 (by decide +kernel) (by decide +kernel)
theorem w_1397 : Cond.instanceMethod yX11_takesCell ∈ mj_TB := mj_tb 1397 (by decide +kernel) (by decide +kernel)
theorem w_1398 : Cond.code yX11_takesCell cX11_takesCell 1 (some .boolean) ∈ mj_TB := mj_tb 1398 (by decide +kernel) (by decide +kernel)
theorem w_1399 : Cond.methodLink RX11 278 yX11_takesWeek ∈ mj_TB := mj_tb 1399 (by decide +kernel) (by decide +kernel)
theorem w_1401 : Cond.instanceMethod yX11_takesWeek ∈ mj_TB := mj_tb 1401 (by decide +kernel) (by decide +kernel)
theorem w_1402 : Cond.code yX11_takesWeek cX11_takesWeek 2 (some .boolean) ∈ mj_TB := mj_tb 1402 (by decide +kernel) (by decide +kernel)
theorem w_1403 : Cond.methodLink RX11 281 yX11_takesVoter ∈ mj_TB := mj_tb 1403 (by decide +kernel) (by decide +kernel)
theorem w_1405 : Cond.instanceMethod yX11_takesVoter ∈ mj_TB := mj_tb 1405 (by decide +kernel) (by decide +kernel)
theorem w_1406 : Cond.code yX11_takesVoter cX11_takesVoter 1 (some .boolean) ∈ mj_TB := mj_tb 1406 (by decide +kernel) (by decide +kernel)
theorem w_1407 : Cond.methodLink RL 167 yX11_part ∈ mj_TB := mj_tb 1407 (by decide +kernel) (by decide +kernel)
theorem w_1408 : Cond.instanceMethod yX11_part ∈ mj_TB := mj_tb 1408 (by decide +kernel) (by decide +kernel)
theorem w_1409 : Cond.selects RX11 yX11_part yX11_part ∈ mj_TB := mj_tb 1409 (by decide +kernel) (by decide +kernel)
theorem w_1410 : Cond.code yX11_part cX11_part 2 (some .long) ∈ mj_TB := mj_tb 1410 (by decide +kernel) (by decide +kernel)
theorem w_1411 : Cond.methodLink RL 171 yX11_image ∈ mj_TB := mj_tb 1411 (by decide +kernel) (by decide +kernel)
theorem w_1412 : Cond.instanceMethod yX11_image ∈ mj_TB := mj_tb 1412 (by decide +kernel) (by decide +kernel)
theorem w_1413 : Cond.selects RX11 yX11_image yX11_image ∈ mj_TB := mj_tb 1413 (by decide +kernel) (by decide +kernel)
theorem w_1414 : Cond.code yX11_image cX11_image 3 (some .int) ∈ mj_TB := mj_tb 1414 (by decide +kernel) (by decide +kernel)
theorem w_1415 : Cond.methodLink RL 175 yX11_from ∈ mj_TB := mj_tb 1415 (by decide +kernel) (by decide +kernel)
theorem w_1416 : Cond.instanceMethod yX11_from ∈ mj_TB := mj_tb 1416 (by decide +kernel) (by decide +kernel)
theorem w_1417 : Cond.selects RX11 yX11_from yX11_from ∈ mj_TB := mj_tb 1417 (by decide +kernel) (by decide +kernel)
theorem w_1418 : Cond.code yX11_from cX11_from 3 (some .int) ∈ mj_TB := mj_tb 1418 (by decide +kernel) (by decide +kernel)
theorem w_1419 : Cond.methodLink RL 179 yX11_status ∈ mj_TB := mj_tb 1419 (by decide +kernel) (by decide +kernel)
theorem w_1420 : Cond.instanceMethod yX11_status ∈ mj_TB := mj_tb 1420 (by decide +kernel) (by decide +kernel)
theorem w_1421 : Cond.selects RX11 yX11_status yX11_status ∈ mj_TB := mj_tb 1421 (by decide +kernel) (by decide +kernel)
theorem w_1422 : Cond.code yX11_status cX11_status 2 (some .int) ∈ mj_TB := mj_tb 1422 (by decide +kernel) (by decide +kernel)
theorem w_1423 : Cond.methodLink RL 183 yX11_count ∈ mj_TB := mj_tb 1423 (by decide +kernel) (by decide +kernel)
theorem w_1424 : Cond.instanceMethod yX11_count ∈ mj_TB := mj_tb 1424 (by decide +kernel) (by decide +kernel)
theorem w_1425 : Cond.selects RX11 yX11_count yX11_count ∈ mj_TB := mj_tb 1425 (by decide +kernel) (by decide +kernel)
theorem w_1426 : Cond.code yX11_count cX11_count 2 (some .int) ∈ mj_TB := mj_tb 1426 (by decide +kernel) (by decide +kernel)
theorem w_1427 : Cond.methodLink RX11 290 yX11_counted ∈ mj_TB := mj_tb 1427 (by decide +kernel) (by decide +kernel)
theorem w_1429 : Cond.instanceMethod yX11_counted ∈ mj_TB := mj_tb 1429 (by decide +kernel) (by decide +kernel)
theorem w_1430 : Cond.code yX11_counted cX11_counted 2 (some .int) ∈ mj_TB := mj_tb 1430 (by decide +kernel) (by decide +kernel)
theorem w_1431 : Cond.methodLink RL 188 yX11_digest ∈ mj_TB := mj_tb 1431 (by decide +kernel) (by decide +kernel)
theorem w_1432 : Cond.instanceMethod yX11_digest ∈ mj_TB := mj_tb 1432 (by decide +kernel) (by decide +kernel)
theorem w_1433 : Cond.selects RX11 yX11_digest yX11_digest ∈ mj_TB := mj_tb 1433 (by decide +kernel) (by decide +kernel)
theorem w_1434 : Cond.code yX11_digest cX11_digest 4 (some .long) ∈ mj_TB := mj_tb 1434 (by decide +kernel) (by decide +kernel)
theorem w_1435 : Cond.constantLong RX11 295 (1453) ∈ mj_TB := mj_tb 1435 (by decide +kernel) (by decide +kernel)
theorem w_1436 : Cond.constantLong RX11 293 (31) ∈ mj_TB := mj_tb 1436 (by decide +kernel) (by decide +kernel)
theorem w_1437 : Cond.methodLink RX11 297 yX11_sums ∈ mj_TB := mj_tb 1437 (by decide +kernel) (by decide +kernel)
theorem w_1439 : Cond.instanceMethod yX11_sums ∈ mj_TB := mj_tb 1439 (by decide +kernel) (by decide +kernel)
theorem w_1440 : Cond.code yX11_sums cX11_sums 8 (some .long) ∈ mj_TB := mj_tb 1440 (by decide +kernel) (by decide +kernel)
theorem inTX1 : ∀ w ∈ u_ws RX1 TX1 8, w ∈ mj_TB := mj_inTB [206, 208, 210, 212, 214, 216, 218, 220] (by decide +kernel) (by decide +kernel)
theorem inTX2 : ∀ w ∈ u_ws RX2 TX2 3, w ∈ mj_TB := mj_inTB [180, 182, 184] (by decide +kernel) (by decide +kernel)
theorem inTX3 : ∀ w ∈ u_ws RX3 TX3 2, w ∈ mj_TB := mj_inTB [165, 167] (by decide +kernel) (by decide +kernel)
theorem inTX4 : ∀ w ∈ u_ws RX4 TX4 2, w ∈ mj_TB := mj_inTB [115, 117] (by decide +kernel) (by decide +kernel)
theorem inTX5 : ∀ w ∈ u_ws RX5 TX5 6, w ∈ mj_TB := mj_inTB [252, 254, 256, 258, 260, 262] (by decide +kernel) (by decide +kernel)
theorem inTX7 : ∀ w ∈ u_ws RX7 TX7 4, w ∈ mj_TB := mj_inTB [147, 149, 151, 153] (by decide +kernel) (by decide +kernel)
theorem inTX8 : ∀ w ∈ u_ws RX8 TX8 2, w ∈ mj_TB := mj_inTB [234, 236] (by decide +kernel) (by decide +kernel)
theorem inTX9 : ∀ w ∈ u_ws RX9 TX9 2, w ∈ mj_TB := mj_inTB [129, 131] (by decide +kernel) (by decide +kernel)
theorem inTX10 : ∀ w ∈ u_ws RX10 TX10 12, w ∈ mj_TB := mj_inTB [277, 279, 281, 283, 285, 287, 289, 291, 293, 295, 297, 299] (by decide +kernel) (by decide +kernel)
theorem inTX11 : ∀ w ∈ u_ws RX11 TX11 16, w ∈ mj_TB := mj_inTB [1006, 1008, 1010, 1012, 1014, 1016, 1018, 1020, 1022, 1024, 1026, 1028, 1030, 1032, 1034, 1036] (by decide +kernel) (by decide +kernel)
abbrev iX0_after : mj_I := (yX0_after, cX0_after, 5, (some .int), 2, 0, 0)
abbrev iX0_grows : mj_I := (yX0_grows, cX0_grows, 3, (some .int), 1, 0, 0)
abbrev iX0_streamGrows : mj_I := (yX0_streamGrows, cX0_streamGrows, 1, (some .int), 0, 0, 0)
abbrev iX0_melts : mj_I := (yX0_melts, cX0_melts, 2, (some .int), 0, 0, 0)
abbrev iX0_bears : mj_I := (yX0_bears, cX0_bears, 3, (some .int), 1, 0, 0)
abbrev iX1_init : mj_I := (yX1_init, cX1_init, 1, none, 2, 18, 372)
abbrev iX1_copy : mj_I := (yX1_copy, cX1_copy, 2, none, 2, 0, 0)
abbrev iX1_restart : mj_I := (yX1_restart, cX1_restart, 2, none, 2, 0, 0)
abbrev iX1_frost : mj_I := (yX1_frost, cX1_frost, 1, (some .int), 2, 0, 0)
abbrev iX1_keepPast : mj_I := (yX1_keepPast, cX1_keepPast, 1, none, 3, 0, 0)
abbrev iX1_passDays : mj_I := (yX1_passDays, cX1_passDays, 3, none, 4, 0, 0)
abbrev iX1_iceBehind : mj_I := (yX1_iceBehind, cX1_iceBehind, 6, (some .int), 4, 0, 0)
abbrev iX2_init : mj_I := (yX2_init, cX2_init, 1, none, 1, 2, 208)
abbrev iX2_copy : mj_I := (yX2_copy, cX2_copy, 2, none, 1, 0, 0)
abbrev iX2_empty : mj_I := (yX2_empty, cX2_empty, 1, none, 0, 0, 0)
abbrev iX2_keep : mj_I := (yX2_keep, cX2_keep, 3, none, 2, 0, 0)
abbrev iX2_dropOldest : mj_I := (yX2_dropOldest, cX2_dropOldest, 1, none, 1, 0, 0)
abbrev iX2_goBack : mj_I := (yX2_goBack, cX2_goBack, 2, (some .int), 1, 0, 0)
abbrev iX3_init : mj_I := (yX3_init, cX3_init, 1, none, 1, 1, 30)
abbrev iX3_copy : mj_I := (yX3_copy, cX3_copy, 2, none, 1, 0, 0)
abbrev iX3_add : mj_I := (yX3_add, cX3_add, 7, (some .int), 1, 0, 0)
abbrev iX3_at : mj_I := (yX3_at, cX3_at, 4, (some .int), 0, 0, 0)
abbrev iX3_empty : mj_I := (yX3_empty, cX3_empty, 2, (some .int), 0, 0, 0)
abbrev iX3_fold : mj_I := (yX3_fold, cX3_fold, 6, (some .long), 0, 0, 0)
abbrev iX4_init : mj_I := (yX4_init, cX4_init, 1, none, 1, 2, 50)
abbrev iX4_copy : mj_I := (yX4_copy, cX4_copy, 2, none, 1, 0, 0)
abbrev iX4_restart : mj_I := (yX4_restart, cX4_restart, 2, none, 1, 0, 0)
abbrev iX4_kindOf : mj_I := (yX4_kindOf, cX4_kindOf, 2, (some .int), 2, 0, 0)
abbrev iX4_iceOf : mj_I := (yX4_iceOf, cX4_iceOf, 2, (some .int), 2, 0, 0)
abbrev iX4_bears : mj_I := (yX4_bears, cX4_bears, 2, (some .int), 2, 0, 0)
abbrev iX4_setKind : mj_I := (yX4_setKind, cX4_setKind, 3, none, 2, 0, 0)
abbrev iX4_setIce : mj_I := (yX4_setIce, cX4_setIce, 3, none, 2, 0, 0)
abbrev iX4_passDay : mj_I := (yX4_passDay, cX4_passDay, 4, none, 3, 0, 0)
abbrev iX4_together : mj_I := (yX4_together, cX4_together, 3, (some .int), 0, 0, 0)
abbrev iX4_bearsTogether : mj_I := (yX4_bearsTogether, cX4_bearsTogether, 3, (some .int), 3, 0, 0)
abbrev iX4_bearing : mj_I := (yX4_bearing, cX4_bearing, 4, (some .int), 3, 0, 0)
abbrev iX4_leastBeside : mj_I := (yX4_leastBeside, cX4_leastBeside, 3, (some .int), 3, 0, 0)
abbrev iX4_iceOfWard : mj_I := (yX4_iceOfWard, cX4_iceOfWard, 3, (some .int), 3, 0, 0)
abbrev iX5_init : mj_I := (yX5_init, cX5_init, 1, none, 1, 3, 452)
abbrev iX5_add : mj_I := (yX5_add, cX5_add, 2, none, 1, 0, 0)
abbrev iX5_tell : mj_I := (yX5_tell, cX5_tell, 3, (some .int), 9, 0, 0)
abbrev iX5_fault : mj_I := (yX5_fault, cX5_fault, 1, (some .int), 1, 0, 0)
abbrev iX5_itemComes : mj_I := (yX5_itemComes, cX5_itemComes, 2, (some .boolean), 4, 0, 0)
abbrev iX5_cellsCome : mj_I := (yX5_cellsCome, cX5_cellsCome, 4, (some .boolean), 3, 0, 0)
abbrev iX5_pairsCome : mj_I := (yX5_pairsCome, cX5_pairsCome, 4, (some .boolean), 3, 0, 0)
abbrev iX5_voterComes : mj_I := (yX5_voterComes, cX5_voterComes, 4, (some .boolean), 3, 0, 0)
abbrev iX5_numberComes : mj_I := (yX5_numberComes, cX5_numberComes, 3, (some .boolean), 2, 0, 0)
abbrev iX5_stopComes : mj_I := (yX5_stopComes, cX5_stopComes, 1, (some .boolean), 2, 0, 0)
abbrev iX5_advance : mj_I := (yX5_advance, cX5_advance, 1, none, 1, 0, 0)
abbrev iX5_findTokens : mj_I := (yX5_findTokens, cX5_findTokens, 4, none, 8, 0, 0)
abbrev iX5_endOfToken : mj_I := (yX5_endOfToken, cX5_endOfToken, 3, (some .int), 2, 0, 0)
abbrev iX5_endOfRun : mj_I := (yX5_endOfRun, cX5_endOfRun, 5, (some .int), 1, 0, 0)
abbrev iX5_byteAt : mj_I := (yX5_byteAt, cX5_byteAt, 2, (some .int), 0, 0, 0)
abbrev iX5_tokenIn : mj_I := (yX5_tokenIn, cX5_tokenIn, 4, (some .int), 7, 0, 0)
abbrev iX5_numberIn : mj_I := (yX5_numberIn, cX5_numberIn, 4, (some .int), 1, 0, 0)
abbrev iX5_wordIn : mj_I := (yX5_wordIn, cX5_wordIn, 3, (some .int), 6, 0, 0)
abbrev iX5_isWord : mj_I := (yX5_isWord, cX5_isWord, 5, (some .boolean), 5, 0, 0)
abbrev iX6_yes : mj_I := (yX6_yes, cX6_yes, 8, (some .boolean), 0, 0, 0)
abbrev iX7_init : mj_I := (yX7_init, cX7_init, 1, none, 1, 3, 21)
abbrev iX7_copy : mj_I := (yX7_copy, cX7_copy, 2, none, 1, 0, 0)
abbrev iX7_add : mj_I := (yX7_add, cX7_add, 4, none, 1, 0, 0)
abbrev iX7_kindOf : mj_I := (yX7_kindOf, cX7_kindOf, 2, (some .int), 1, 0, 0)
abbrev iX7_weightOf : mj_I := (yX7_weightOf, cX7_weightOf, 2, (some .int), 1, 0, 0)
abbrev iX7_cellOf : mj_I := (yX7_cellOf, cX7_cellOf, 2, (some .int), 1, 0, 0)
abbrev iX7_sets : mj_I := (yX7_sets, cX7_sets, 1, (some .int), 0, 0, 0)
abbrev iX7_yes : mj_I := (yX7_yes, cX7_yes, 6, (some .int), 4, 0, 0)
abbrev iX7_carried : mj_I := (yX7_carried, cX7_carried, 3, (some .boolean), 3, 0, 0)
abbrev iX7_heaviest : mj_I := (yX7_heaviest, cX7_heaviest, 3, (some .int), 2, 0, 0)
abbrev iX7_heavy : mj_I := (yX7_heavy, cX7_heavy, 4, (some .int), 3, 0, 0)
abbrev iX7_wet : mj_I := (yX7_wet, cX7_wet, 4, (some .int), 5, 0, 0)
abbrev iX7_gain : mj_I := (yX7_gain, cX7_gain, 4, (some .int), 4, 0, 0)
abbrev iX7_fold : mj_I := (yX7_fold, cX7_fold, 6, (some .long), 0, 0, 0)
abbrev iX8_init : mj_I := (yX8_init, cX8_init, 1, none, 1, 2, 50)
abbrev iX8_beside : mj_I := (yX8_beside, cX8_beside, 3, (some .int), 0, 0, 0)
abbrev iX8_joined : mj_I := (yX8_joined, cX8_joined, 7, (some .boolean), 1, 0, 0)
abbrev iX8_find : mj_I := (yX8_find, cX8_find, 7, (some .int), 2, 0, 0)
abbrev iX8_measure : mj_I := (yX8_measure, cX8_measure, 5, (some .int), 1, 0, 0)
abbrev iX8_first : mj_I := (yX8_first, cX8_first, 2, (some .int), 1, 0, 0)
abbrev iX8_step : mj_I := (yX8_step, cX8_step, 2, (some .int), 2, 0, 0)
abbrev iX8_cut : mj_I := (yX8_cut, cX8_cut, 7, (some .int), 2, 0, 0)
abbrev iX9_init : mj_I := (yX9_init, cX9_init, 1, none, 1, 2, 14)
abbrev iX9_copy : mj_I := (yX9_copy, cX9_copy, 2, none, 1, 0, 0)
abbrev iX9_restart : mj_I := (yX9_restart, cX9_restart, 1, none, 1, 0, 0)
abbrev iX9_set : mj_I := (yX9_set, cX9_set, 4, none, 1, 0, 0)
abbrev iX9_frostOn : mj_I := (yX9_frostOn, cX9_frostOn, 2, (some .int), 1, 0, 0)
abbrev iX9_sunOn : mj_I := (yX9_sunOn, cX9_sunOn, 2, (some .int), 1, 0, 0)
abbrev iX9_iceAfter : mj_I := (yX9_iceAfter, cX9_iceAfter, 4, (some .int), 3, 0, 0)
abbrev iX10_init : mj_I := (yX10_init, cX10_init, 1, none, 3, 53, 1533)
abbrev iX10_lake : mj_I := (yX10_lake, cX10_lake, 3, (some .int), 3, 0, 0)
abbrev iX10_cell : mj_I := (yX10_cell, cX10_cell, 4, (some .int), 3, 0, 0)
abbrev iX10_weather : mj_I := (yX10_weather, cX10_weather, 5, (some .int), 2, 0, 0)
abbrev iX10_ward : mj_I := (yX10_ward, cX10_ward, 4, (some .int), 1, 0, 0)
abbrev iX10_voter : mj_I := (yX10_voter, cX10_voter, 4, (some .int), 2, 0, 0)
abbrev iX10_type : mj_I := (yX10_type, cX10_type, 2, (some .int), 2, 0, 0)
abbrev iX10_clear : mj_I := (yX10_clear, cX10_clear, 2, (some .int), 0, 0, 0)
abbrev iX10_read : mj_I := (yX10_read, cX10_read, 2, (some .int), 10, 0, 0)
abbrev iX10_day : mj_I := (yX10_day, cX10_day, 2, (some .int), 5, 0, 0)
abbrev iX10_tread : mj_I := (yX10_tread, cX10_tread, 4, (some .int), 4, 0, 0)
abbrev iX10_stone : mj_I := (yX10_stone, cX10_stone, 2, (some .int), 4, 0, 0)
abbrev iX10_undo : mj_I := (yX10_undo, cX10_undo, 1, (some .int), 2, 0, 0)
abbrev iX10_of : mj_I := (yX10_of, cX10_of, 3, (some .int), 3, 0, 0)
abbrev iX10_about : mj_I := (yX10_about, cX10_about, 3, (some .int), 6, 0, 0)
abbrev iX10_then : mj_I := (yX10_then, cX10_then, 5, (some .int), 5, 0, 0)
abbrev iX10_when : mj_I := (yX10_when, cX10_when, 6, (some .int), 4, 0, 0)
abbrev iX10_where : mj_I := (yX10_where, cX10_where, 4, (some .int), 4, 0, 0)
abbrev iX10_horses : mj_I := (yX10_horses, cX10_horses, 3, (some .int), 4, 0, 0)
abbrev iX10_path : mj_I := (yX10_path, cX10_path, 6, (some .int), 4, 0, 0)
abbrev iX10_safe : mj_I := (yX10_safe, cX10_safe, 6, (some .int), 4, 0, 0)
abbrev iX10_cross : mj_I := (yX10_cross, cX10_cross, 8, (some .int), 4, 0, 0)
abbrev iX10_apart : mj_I := (yX10_apart, cX10_apart, 6, (some .int), 4, 0, 0)
abbrev iX10_votes : mj_I := (yX10_votes, cX10_votes, 2, (some .int), 6, 0, 0)
abbrev iX10_turn : mj_I := (yX10_turn, cX10_turn, 6, (some .int), 6, 0, 0)
abbrev iX10_seen : mj_I := (yX10_seen, cX10_seen, 8, (some .int), 4, 0, 0)
abbrev iX10_lies : mj_I := (yX10_lies, cX10_lies, 3, (some .int), 4, 0, 0)
abbrev iX10_stones : mj_I := (yX10_stones, cX10_stones, 6, (some .int), 3, 0, 0)
abbrev iX10_note : mj_I := (yX10_note, cX10_note, 6, (some .int), 2, 0, 0)
abbrev iX10_voted : mj_I := (yX10_voted, cX10_voted, 6, (some .int), 2, 0, 0)
abbrev iX10_forget : mj_I := (yX10_forget, cX10_forget, 2, (some .int), 1, 0, 0)
abbrev iX10_is : mj_I := (yX10_is, cX10_is, 2, (some .int), 5, 0, 0)
abbrev iX10_next : mj_I := (yX10_next, cX10_next, 7, (some .int), 5, 0, 0)
abbrev iX10_who : mj_I := (yX10_who, cX10_who, 4, (some .int), 3, 0, 0)
abbrev iX10_two : mj_I := (yX10_two, cX10_two, 10, (some .int), 6, 0, 0)
abbrev iX10_thaw : mj_I := (yX10_thaw, cX10_thaw, 11, (some .int), 4, 0, 0)
abbrev iX10_winters : mj_I := (yX10_winters, cX10_winters, 9, (some .int), 6, 0, 0)
abbrev iX10_part : mj_I := (yX10_part, cX10_part, 2, (some .long), 1, 0, 0)
abbrev iX10_image : mj_I := (yX10_image, cX10_image, 3, (some .int), 3, 19, 380)
abbrev iX10_from : mj_I := (yX10_from, cX10_from, 3, (some .int), 3, 0, 0)
abbrev iX10_status : mj_I := (yX10_status, cX10_status, 2, (some .int), 1, 0, 0)
abbrev iX10_count : mj_I := (yX10_count, cX10_count, 2, (some .int), 2, 0, 0)
abbrev iX10_digest : mj_I := (yX10_digest, cX10_digest, 4, (some .long), 3, 0, 0)
abbrev iX10_bad : mj_I := (yX10_bad, cX10_bad, 1, (some .int), 0, 0, 0)
abbrev iX10_no : mj_I := (yX10_no, cX10_no, 1, (some .int), 0, 0, 0)
abbrev iX10_full : mj_I := (yX10_full, cX10_full, 1, (some .int), 0, 0, 0)
abbrev iX10_isVoter : mj_I := (yX10_isVoter, cX10_isVoter, 2, (some .boolean), 1, 0, 0)
abbrev iX10_isCell : mj_I := (yX10_isCell, cX10_isCell, 1, (some .boolean), 1, 0, 0)
abbrev iX10_isSky : mj_I := (yX10_isSky, cX10_isSky, 1, (some .boolean), 1, 0, 0)
abbrev iX10_isBorne : mj_I := (yX10_isBorne, cX10_isBorne, 1, (some .boolean), 1, 0, 0)
abbrev iX10_within : mj_I := (yX10_within, cX10_within, 3, (some .boolean), 0, 0, 0)
abbrev iX10_has : mj_I := (yX10_has, cX10_has, 2, (some .boolean), 0, 0, 0)
abbrev iX10_amount : mj_I := (yX10_amount, cX10_amount, 2, (some .int), 1, 0, 0)
abbrev iX10_yesNow : mj_I := (yX10_yesNow, cX10_yesNow, 1, (some .int), 5, 0, 0)
abbrev iX10_kindsNoted : mj_I := (yX10_kindsNoted, cX10_kindsNoted, 4, (some .int), 4, 0, 0)
abbrev iX10_fitsNotes : mj_I := (yX10_fitsNotes, cX10_fitsNotes, 6, (some .boolean), 3, 0, 0)
abbrev iX10_mostAlike : mj_I := (yX10_mostAlike, cX10_mostAlike, 9, (some .int), 3, 0, 0)
abbrev iX10_fitsPolls : mj_I := (yX10_fitsPolls, cX10_fitsPolls, 7, (some .boolean), 2, 0, 0)
abbrev iX10_passNight : mj_I := (yX10_passNight, cX10_passNight, 7, none, 3, 0, 0)
abbrev iX10_addAt : mj_I := (yX10_addAt, cX10_addAt, 4, none, 0, 0, 0)
abbrev iX10_keepFraction : mj_I := (yX10_keepFraction, cX10_keepFraction, 12, none, 0, 0, 0)
abbrev iX11_init : mj_I := (yX11_init, cX11_init, 1, none, 1, 9, 1448)
abbrev iX11_in : mj_I := (yX11_in, cX11_in, 6, (some .boolean), 0, 0, 0)
abbrev iX11_bad : mj_I := (yX11_bad, cX11_bad, 2, (some .int), 0, 0, 0)
abbrev iX11_no : mj_I := (yX11_no, cX11_no, 1, (some .int), 0, 0, 0)
abbrev iX11_full : mj_I := (yX11_full, cX11_full, 1, (some .int), 0, 0, 0)
abbrev iX11_bits : mj_I := (yX11_bits, cX11_bits, 3, (some .int), 0, 0, 0)
abbrev iX11_has : mj_I := (yX11_has, cX11_has, 2, (some .boolean), 0, 0, 0)
abbrev iX11_begin : mj_I := (yX11_begin, cX11_begin, 3, none, 0, 0, 0)
abbrev iX11_many : mj_I := (yX11_many, cX11_many, 1, (some .int), 0, 0, 0)
abbrev iX11_isVoter : mj_I := (yX11_isVoter, cX11_isVoter, 2, (some .boolean), 1, 0, 0)
abbrev iX11_isCell : mj_I := (yX11_isCell, cX11_isCell, 1, (some .boolean), 1, 0, 0)
abbrev iX11_isIce : mj_I := (yX11_isIce, cX11_isIce, 1, (some .boolean), 1, 0, 0)
abbrev iX11_isWeather : mj_I := (yX11_isWeather, cX11_isWeather, 1, (some .boolean), 1, 0, 0)
abbrev iX11_isBurden : mj_I := (yX11_isBurden, cX11_isBurden, 1, (some .boolean), 1, 0, 0)
abbrev iX11_lake : mj_I := (yX11_lake, cX11_lake, 3, (some .int), 2, 0, 0)
abbrev iX11_cell : mj_I := (yX11_cell, cX11_cell, 4, (some .int), 2, 0, 0)
abbrev iX11_weather : mj_I := (yX11_weather, cX11_weather, 5, (some .int), 2, 0, 0)
abbrev iX11_ward : mj_I := (yX11_ward, cX11_ward, 4, (some .int), 2, 0, 0)
abbrev iX11_layVoter : mj_I := (yX11_layVoter, cX11_layVoter, 5, none, 0, 0, 0)
abbrev iX11_voter : mj_I := (yX11_voter, cX11_voter, 4, (some .int), 2, 0, 0)
abbrev iX11_growsAs : mj_I := (yX11_growsAs, cX11_growsAs, 3, (some .int), 0, 0, 0)
abbrev iX11_meltsAs : mj_I := (yX11_meltsAs, cX11_meltsAs, 2, (some .int), 0, 0, 0)
abbrev iX11_bearsAs : mj_I := (yX11_bearsAs, cX11_bearsAs, 3, (some .int), 0, 0, 0)
abbrev iX11_behindDay : mj_I := (yX11_behindDay, cX11_behindDay, 6, (some .int), 1, 0, 0)
abbrev iX11_votesAs : mj_I := (yX11_votesAs, cX11_votesAs, 8, (some .boolean), 0, 0, 0)
abbrev iX11_layIce : mj_I := (yX11_layIce, cX11_layIce, 2, none, 0, 0, 0)
abbrev iX11_kindOf : mj_I := (yX11_kindOf, cX11_kindOf, 2, (some .int), 0, 0, 0)
abbrev iX11_bears : mj_I := (yX11_bears, cX11_bears, 2, (some .int), 1, 0, 0)
abbrev iX11_goDay : mj_I := (yX11_goDay, cX11_goDay, 4, none, 2, 0, 0)
abbrev iX11_goDays : mj_I := (yX11_goDays, cX11_goDays, 4, none, 3, 0, 0)
abbrev iX11_areBeside : mj_I := (yX11_areBeside, cX11_areBeside, 4, (some .boolean), 0, 0, 0)
abbrev iX11_leastBeside : mj_I := (yX11_leastBeside, cX11_leastBeside, 4, (some .int), 2, 0, 0)
abbrev iX11_keep : mj_I := (yX11_keep, cX11_keep, 2, none, 0, 0, 0)
abbrev iX11_allIce : mj_I := (yX11_allIce, cX11_allIce, 3, (some .int), 0, 0, 0)
abbrev iX11_day : mj_I := (yX11_day, cX11_day, 4, (some .int), 4, 0, 0)
abbrev iX11_tread : mj_I := (yX11_tread, cX11_tread, 5, (some .int), 2, 0, 0)
abbrev iX11_stone : mj_I := (yX11_stone, cX11_stone, 2, (some .int), 2, 0, 0)
abbrev iX11_undo : mj_I := (yX11_undo, cX11_undo, 2, (some .int), 1, 0, 0)
abbrev iX11_of : mj_I := (yX11_of, cX11_of, 3, (some .int), 2, 0, 0)
abbrev iX11_frostNow : mj_I := (yX11_frostNow, cX11_frostNow, 1, (some .int), 0, 0, 0)
abbrev iX11_votesYes : mj_I := (yX11_votesYes, cX11_votesYes, 4, (some .boolean), 3, 0, 0)
abbrev iX11_about : mj_I := (yX11_about, cX11_about, 4, (some .int), 4, 0, 0)
abbrev iX11_then : mj_I := (yX11_then, cX11_then, 4, (some .int), 4, 0, 0)
abbrev iX11_goOne : mj_I := (yX11_goOne, cX11_goOne, 3, none, 3, 0, 0)
abbrev iX11_when : mj_I := (yX11_when, cX11_when, 4, (some .int), 4, 0, 0)
abbrev iX11_where : mj_I := (yX11_where, cX11_where, 5, (some .int), 4, 0, 0)
abbrev iX11_horses : mj_I := (yX11_horses, cX11_horses, 5, (some .int), 4, 0, 0)
abbrev iX11_layFar : mj_I := (yX11_layFar, cX11_layFar, 6, none, 3, 0, 0)
abbrev iX11_layNearer : mj_I := (yX11_layNearer, cX11_layNearer, 5, (some .boolean), 2, 0, 0)
abbrev iX11_nextOf : mj_I := (yX11_nextOf, cX11_nextOf, 3, (some .int), 1, 0, 0)
abbrev iX11_path : mj_I := (yX11_path, cX11_path, 7, (some .int), 4, 0, 0)
abbrev iX11_safe : mj_I := (yX11_safe, cX11_safe, 4, (some .int), 4, 0, 0)
abbrev iX11_cross : mj_I := (yX11_cross, cX11_cross, 7, (some .int), 4, 0, 0)
abbrev iX11_isParted : mj_I := (yX11_isParted, cX11_isParted, 5, (some .boolean), 4, 0, 0)
abbrev iX11_partsOf : mj_I := (yX11_partsOf, cX11_partsOf, 7, (some .int), 5, 0, 0)
abbrev iX11_apart : mj_I := (yX11_apart, cX11_apart, 6, (some .int), 6, 0, 0)
abbrev iX11_yesOf : mj_I := (yX11_yesOf, cX11_yesOf, 4, (some .int), 4, 0, 0)
abbrev iX11_heaviest : mj_I := (yX11_heaviest, cX11_heaviest, 3, (some .int), 1, 0, 0)
abbrev iX11_isCarried : mj_I := (yX11_isCarried, cX11_isCarried, 3, (some .boolean), 2, 0, 0)
abbrev iX11_bearsIt : mj_I := (yX11_bearsIt, cX11_bearsIt, 2, (some .boolean), 2, 0, 0)
abbrev iX11_wetOf : mj_I := (yX11_wetOf, cX11_wetOf, 4, (some .int), 3, 0, 0)
abbrev iX11_votes : mj_I := (yX11_votes, cX11_votes, 3, (some .int), 5, 0, 0)
abbrev iX11_turn : mj_I := (yX11_turn, cX11_turn, 5, (some .int), 5, 0, 0)
abbrev iX11_seen : mj_I := (yX11_seen, cX11_seen, 7, (some .int), 4, 0, 0)
abbrev iX11_lies : mj_I := (yX11_lies, cX11_lies, 5, (some .int), 0, 0, 0)
abbrev iX11_stones : mj_I := (yX11_stones, cX11_stones, 6, (some .int), 2, 0, 0)
abbrev iX11_note : mj_I := (yX11_note, cX11_note, 7, (some .int), 2, 0, 0)
abbrev iX11_voted : mj_I := (yX11_voted, cX11_voted, 7, (some .int), 2, 0, 0)
abbrev iX11_forget : mj_I := (yX11_forget, cX11_forget, 3, (some .int), 1, 0, 0)
abbrev iX11_kindsOf : mj_I := (yX11_kindsOf, cX11_kindsOf, 7, (some .int), 2, 0, 0)
abbrev iX11_is : mj_I := (yX11_is, cX11_is, 2, (some .int), 3, 0, 0)
abbrev iX11_next : mj_I := (yX11_next, cX11_next, 11, (some .int), 3, 0, 0)
abbrev iX11_who : mj_I := (yX11_who, cX11_who, 8, (some .int), 2, 0, 0)
abbrev iX11_hasBy : mj_I := (yX11_hasBy, cX11_hasBy, 3, (some .int), 3, 0, 0)
abbrev iX11_two : mj_I := (yX11_two, cX11_two, 8, (some .int), 5, 0, 0)
abbrev iX11_fraction : mj_I := (yX11_fraction, cX11_fraction, 11, none, 0, 0, 0)
abbrev iX11_thaw : mj_I := (yX11_thaw, cX11_thaw, 15, (some .int), 2, 0, 0)
abbrev iX11_winters : mj_I := (yX11_winters, cX11_winters, 8, (some .int), 5, 0, 0)
abbrev iX11_type : mj_I := (yX11_type, cX11_type, 2, (some .int), 1, 0, 0)
abbrev iX11_clear : mj_I := (yX11_clear, cX11_clear, 2, (some .int), 0, 0, 0)
abbrev iX11_isSmall : mj_I := (yX11_isSmall, cX11_isSmall, 1, (some .boolean), 1, 0, 0)
abbrev iX11_isFigure : mj_I := (yX11_isFigure, cX11_isFigure, 1, (some .boolean), 1, 0, 0)
abbrev iX11_lookAt : mj_I := (yX11_lookAt, cX11_lookAt, 5, none, 2, 0, 0)
abbrev iX11_goBehind : mj_I := (yX11_goBehind, cX11_goBehind, 1, none, 3, 0, 0)
abbrev iX11_spells : mj_I := (yX11_spells, cX11_spells, 10, (some .boolean), 0, 0, 0)
abbrev iX11_takes : mj_I := (yX11_takes, cX11_takes, 4, (some .boolean), 4, 0, 0)
abbrev iX11_takesLake : mj_I := (yX11_takesLake, cX11_takesLake, 1, (some .boolean), 5, 0, 0)
abbrev iX11_takesCell : mj_I := (yX11_takesCell, cX11_takesCell, 1, (some .boolean), 5, 0, 0)
abbrev iX11_takesWeek : mj_I := (yX11_takesWeek, cX11_takesWeek, 2, (some .boolean), 5, 0, 0)
abbrev iX11_takesVoter : mj_I := (yX11_takesVoter, cX11_takesVoter, 1, (some .boolean), 5, 0, 0)
abbrev iX11_takesItem : mj_I := (yX11_takesItem, cX11_takesItem, 1, (some .boolean), 6, 0, 0)
abbrev iX11_read : mj_I := (yX11_read, cX11_read, 3, (some .int), 7, 0, 0)
abbrev iX11_part : mj_I := (yX11_part, cX11_part, 2, (some .long), 1, 0, 0)
abbrev iX11_image : mj_I := (yX11_image, cX11_image, 3, (some .int), 1, 0, 0)
abbrev iX11_from : mj_I := (yX11_from, cX11_from, 3, (some .int), 1, 0, 0)
abbrev iX11_status : mj_I := (yX11_status, cX11_status, 2, (some .int), 1, 0, 0)
abbrev iX11_counted : mj_I := (yX11_counted, cX11_counted, 2, (some .int), 1, 0, 0)
abbrev iX11_count : mj_I := (yX11_count, cX11_count, 2, (some .int), 2, 0, 0)
abbrev iX11_sums : mj_I := (yX11_sums, cX11_sums, 8, (some .long), 0, 0, 0)
abbrev iX11_digest : mj_I := (yX11_digest, cX11_digest, 4, (some .long), 2, 0, 0)
abbrev iJ6_bitCount_0f7a4 : mj_I := (yJ6_bitCount_0f7a4, cJ6_bitCount_0f7a4, 1, (some .int), 0, 0, 0)
abbrev iJ9_floorMod_7cf53 : mj_I := (yJ9_floorMod_7cf53, cJ9_floorMod_7cf53, 3, (some .int), 0, 0, 0)
abbrev iJ9_max_7cf53 : mj_I := (yJ9_max_7cf53, cJ9_max_7cf53, 2, (some .int), 0, 0, 0)
abbrev iJ9_min_7cf53 : mj_I := (yJ9_min_7cf53, cJ9_min_7cf53, 2, (some .int), 0, 0, 0)
abbrev iJ0_length_8abf5 : mj_I := (yJ0_length_8abf5, cJ0_length_8abf5, 1, (some .int), 1, 0, 0)
abbrev iJ0_charAt_5068e : mj_I := (yJ0_charAt_5068e, cJ0_charAt_5068e, 2, (some .char), 4, 0, 0)
abbrev iJ0_coder_7d493 : mj_I := (yJ0_coder_7d493, cJ0_coder_7d493, 1, (some .byte), 0, 0, 0)
abbrev iJ0_isLatin1_aae02 : mj_I := (yJ0_isLatin1_aae02, cJ0_isLatin1_aae02, 1, (some .boolean), 0, 0, 0)
abbrev iJ0_checkIndex_df160 : mj_I := (yJ0_checkIndex_df160, cJ0_checkIndex_df160, 2, none, 1, 0, 0)
abbrev iJ1_charAt_3b067 : mj_I := (yJ1_charAt_3b067, cJ1_charAt_3b067, 2, (some .char), 2, 0, 0)
abbrev iJ2_getChar_3b067 : mj_I := (yJ2_getChar_3b067, cJ2_getChar_3b067, 2, (some .char), 1, 0, 0)
abbrev iJ2_length_9d52b : mj_I := (yJ2_length_9d52b, cJ2_length_9d52b, 1, (some .int), 0, 0, 0)
abbrev iJ2_charAt_3b067 : mj_I := (yJ2_charAt_3b067, cJ2_charAt_3b067, 2, (some .char), 3, 0, 0)
abbrev iJ2_checkIndex_2214a : mj_I := (yJ2_checkIndex_2214a, cJ2_checkIndex_2214a, 2, none, 2, 0, 0)
abbrev iJ7_fill_d0a16 : mj_I := (yJ7_fill_d0a16, cJ7_fill_d0a16, 5, none, 0, 0, 0)
abbrev iJ7_fill_53178 : mj_I := (yJ7_fill_53178, cJ7_fill_53178, 4, none, 0, 0, 0)
abbrev iJ3_checkIndex_8e157 : mj_I := (yJ3_checkIndex_8e157, cJ3_checkIndex_8e157, 3, (some .int), 0, 0, 0)
theorem lkX0_9 : mj_lkS RX0 9 iX0_grows 3 := ⟨w_602, w_603, w_89, w_604, ⟨by decide +kernel, by decide +kernel, by decide +kernel⟩⟩
theorem lkX0_21 : mj_lkS RX0 21 iX0_melts 2 := ⟨w_612, w_613, w_89, w_614, ⟨by decide +kernel, by decide +kernel, by decide +kernel⟩⟩
theorem lkX0_27 : mj_lkS RX0 27 iX0_streamGrows 1 := ⟨w_605, w_606, w_89, w_607, ⟨by decide +kernel, by decide +kernel, by decide +kernel⟩⟩
theorem lkX1_11 : mj_lkIN RX1 11 iX4_init 0 := ⟨⟨"IceVote", List.mem_of_getElem? (i := 108) (by decide +kernel)⟩, w_109, w_74, w_110, rfl, rfl, ⟨by decide +kernel, by decide +kernel, by decide +kernel⟩⟩
theorem lkX1_20 : mj_lkIN RX1 20 iX9_init 0 := ⟨⟨"IceVote", List.mem_of_getElem? (i := 123) (by decide +kernel)⟩, w_124, w_75, w_125, rfl, rfl, ⟨by decide +kernel, by decide +kernel, by decide +kernel⟩⟩
theorem lkX1_27 : mj_lkIN RX1 27 iX7_init 0 := ⟨⟨"IceVote", List.mem_of_getElem? (i := 136) (by decide +kernel)⟩, w_137, w_76, w_138, rfl, rfl, ⟨by decide +kernel, by decide +kernel, by decide +kernel⟩⟩
theorem lkX1_34 : mj_lkIN RX1 34 iX3_init 0 := ⟨⟨"IceVote", List.mem_of_getElem? (i := 158) (by decide +kernel)⟩, w_159, w_77, w_160, rfl, rfl, ⟨by decide +kernel, by decide +kernel, by decide +kernel⟩⟩
theorem lkX1_44 : mj_lkIN RX1 44 iX2_init 0 := ⟨⟨"IceVote", List.mem_of_getElem? (i := 172) (by decide +kernel)⟩, w_173, w_78, w_174, rfl, rfl, ⟨by decide +kernel, by decide +kernel, by decide +kernel⟩⟩
theorem lkX1_57 : mj_lkV RX1 57 iX4_copy 1 := ⟨w_543, w_544, w_545, w_74, w_546, ⟨by decide +kernel, by decide +kernel, by decide +kernel⟩⟩
theorem lkX1_61 : mj_lkV RX1 61 iX9_copy 1 := ⟨w_550, w_551, w_552, w_75, w_553, ⟨by decide +kernel, by decide +kernel, by decide +kernel⟩⟩
theorem lkX1_64 : mj_lkV RX1 64 iX7_copy 1 := ⟨w_555, w_556, w_557, w_76, w_558, ⟨by decide +kernel, by decide +kernel, by decide +kernel⟩⟩
theorem lkX1_67 : mj_lkV RX1 67 iX3_copy 1 := ⟨w_560, w_561, w_562, w_77, w_563, ⟨by decide +kernel, by decide +kernel, by decide +kernel⟩⟩
theorem lkX1_70 : mj_lkV RX1 70 iX2_copy 1 := ⟨w_565, w_566, w_567, w_78, w_568, ⟨by decide +kernel, by decide +kernel, by decide +kernel⟩⟩
theorem lkX1_79 : mj_lkV RX1 79 iX4_restart 1 := ⟨w_318, w_319, w_320, w_74, w_321, ⟨by decide +kernel, by decide +kernel, by decide +kernel⟩⟩
theorem lkX1_83 : mj_lkV RX1 83 iX9_restart 0 := ⟨w_325, w_326, w_327, w_75, w_328, ⟨by decide +kernel, by decide +kernel, by decide +kernel⟩⟩
theorem lkX1_88 : mj_lkV RX1 88 iX3_empty 0 := ⟨w_330, w_331, w_332, w_77, w_333, ⟨by decide +kernel, by decide +kernel, by decide +kernel⟩⟩
theorem lkX1_92 : mj_lkV RX1 92 iX2_empty 0 := ⟨w_334, w_335, w_336, w_78, w_337, ⟨by decide +kernel, by decide +kernel, by decide +kernel⟩⟩
theorem lkX1_94 : mj_lkS RX1 94 iJ7_fill_53178 2 := ⟨w_338, w_323, w_82, w_324, ⟨by decide +kernel, by decide +kernel, by decide +kernel⟩⟩
theorem lkX1_100 : mj_lkV RX1 100 iX9_frostOn 1 := ⟨w_593, w_364, w_365, w_75, w_366, ⟨by decide +kernel, by decide +kernel, by decide +kernel⟩⟩
theorem lkX1_104 : mj_lkV RX1 104 iX2_keep 2 := ⟨w_580, w_581, w_582, w_78, w_583, ⟨by decide +kernel, by decide +kernel, by decide +kernel⟩⟩
theorem lkX1_108 : mj_lkV RX1 108 iX9_sunOn 1 := ⟨w_594, w_371, w_372, w_75, w_373, ⟨by decide +kernel, by decide +kernel, by decide +kernel⟩⟩
theorem lkX1_111 : mj_lkV RX1 111 iX4_passDay 2 := ⟨w_595, w_596, w_597, w_74, w_598, ⟨by decide +kernel, by decide +kernel, by decide +kernel⟩⟩
theorem lkX1_115 : mj_lkV RX1 115 iX4_kindOf 1 := ⟨w_712, w_347, w_348, w_74, w_349, ⟨by decide +kernel, by decide +kernel, by decide +kernel⟩⟩
theorem lkX1_118 : mj_lkV RX1 118 iX4_iceOf 1 := ⟨w_713, w_631, w_632, w_74, w_633, ⟨by decide +kernel, by decide +kernel, by decide +kernel⟩⟩
theorem lkX1_121 : mj_lkV RX1 121 iX9_iceAfter 3 := ⟨w_714, w_715, w_716, w_75, w_717, ⟨by decide +kernel, by decide +kernel, by decide +kernel⟩⟩
theorem lkX2_28 : mj_lkV RX2 28 iX2_dropOldest 0 := ⟨w_584, w_586, w_18, w_78, w_587, ⟨by decide +kernel, by decide +kernel, by decide +kernel⟩⟩
theorem lkX2_31 : mj_lkSN RX2 31 iX10_within 3 := ⟨⟨"IceVote", List.mem_of_getElem? (i := 588) (by decide +kernel)⟩, w_308, w_72, w_309, ⟨by decide +kernel, by decide +kernel, by decide +kernel⟩⟩
theorem lkX3_25 : mj_lkSN RX3 25 iX10_within 3 := ⟨⟨"IceVote", List.mem_of_getElem? (i := 859) (by decide +kernel)⟩, w_308, w_72, w_309, ⟨by decide +kernel, by decide +kernel, by decide +kernel⟩⟩
theorem lkX4_24 : mj_lkS RX4 24 iJ7_fill_53178 2 := ⟨w_322, w_323, w_82, w_324, ⟨by decide +kernel, by decide +kernel, by decide +kernel⟩⟩
theorem lkX4_30 : mj_lkSN RX4 30 iX10_isCell 1 := ⟨⟨"IceVote", List.mem_of_getElem? (i := 350) (by decide +kernel)⟩, w_344, w_72, w_345, ⟨by decide +kernel, by decide +kernel, by decide +kernel⟩⟩
theorem lkX4_34 : mj_lkS RX4 34 iX0_bears 2 := ⟨w_627, w_628, w_89, w_629, ⟨by decide +kernel, by decide +kernel, by decide +kernel⟩⟩
theorem lkX4_40 : mj_lkS RX4 40 iX0_after 4 := ⟨w_599, w_600, w_89, w_601, ⟨by decide +kernel, by decide +kernel, by decide +kernel⟩⟩
theorem lkX4_44 : mj_lkV RX4 44 iX4_bears 1 := ⟨w_695, w_624, w_625, w_74, w_626, ⟨by decide +kernel, by decide +kernel, by decide +kernel⟩⟩
theorem lkX4_52 : mj_lkV RX4 52 iX4_iceOf 1 := ⟨w_846, w_631, w_632, w_74, w_633, ⟨by decide +kernel, by decide +kernel, by decide +kernel⟩⟩
theorem lkX5_31 : mj_lkSN RX5 31 iX10_within 3 := ⟨⟨"IceVote", List.mem_of_getElem? (i := 403) (by decide +kernel)⟩, w_308, w_72, w_309, ⟨by decide +kernel, by decide +kernel, by decide +kernel⟩⟩
theorem lkX5_35 : mj_lkV RX5 35 iX5_findTokens 0 := ⟨w_416, w_418, w_2, w_80, w_419, ⟨by decide +kernel, by decide +kernel, by decide +kernel⟩⟩
theorem lkX5_38 : mj_lkV RX5 38 iX5_numberComes 2 := ⟨w_503, w_505, w_10, w_80, w_506, ⟨by decide +kernel, by decide +kernel, by decide +kernel⟩⟩
theorem lkX5_42 : mj_lkV RX5 42 iX5_fault 0 := ⟨w_511, w_513, w_12, w_80, w_514, ⟨by decide +kernel, by decide +kernel, by decide +kernel⟩⟩
theorem lkX5_46 : mj_lkV RX5 46 iX1_restart 1 := ⟨w_515, w_315, w_316, w_73, w_317, ⟨by decide +kernel, by decide +kernel, by decide +kernel⟩⟩
theorem lkX5_52 : mj_lkV RX5 52 iX5_stopComes 0 := ⟨w_516, w_518, w_13, w_80, w_519, ⟨by decide +kernel, by decide +kernel, by decide +kernel⟩⟩
theorem lkX5_56 : mj_lkV RX5 56 iX5_advance 0 := ⟨w_507, w_509, w_11, w_80, w_510, ⟨by decide +kernel, by decide +kernel, by decide +kernel⟩⟩
theorem lkX5_59 : mj_lkV RX5 59 iX5_itemComes 1 := ⟨w_520, w_522, w_14, w_80, w_523, ⟨by decide +kernel, by decide +kernel, by decide +kernel⟩⟩
theorem lkX5_67 : mj_lkV RX5 67 iX5_cellsCome 1 := ⟨w_524, w_526, w_15, w_80, w_527, ⟨by decide +kernel, by decide +kernel, by decide +kernel⟩⟩
theorem lkX5_75 : mj_lkV RX5 75 iX5_pairsCome 1 := ⟨w_529, w_531, w_16, w_80, w_532, ⟨by decide +kernel, by decide +kernel, by decide +kernel⟩⟩
theorem lkX5_88 : mj_lkV RX5 88 iX5_voterComes 1 := ⟨w_534, w_536, w_17, w_80, w_537, ⟨by decide +kernel, by decide +kernel, by decide +kernel⟩⟩
theorem lkX5_92 : mj_lkV RX5 92 iX4_setKind 2 := ⟨w_528, w_352, w_353, w_74, w_354, ⟨by decide +kernel, by decide +kernel, by decide +kernel⟩⟩
theorem lkX5_98 : mj_lkV RX5 98 iX9_set 3 := ⟨w_533, w_375, w_376, w_75, w_377, ⟨by decide +kernel, by decide +kernel, by decide +kernel⟩⟩
theorem lkX5_104 : mj_lkV RX5 104 iX7_add 3 := ⟨w_538, w_391, w_392, w_76, w_393, ⟨by decide +kernel, by decide +kernel, by decide +kernel⟩⟩
theorem lkX5_107 : mj_lkV RX5 107 iX5_endOfRun 3 := ⟨w_420, w_422, w_3, w_80, w_423, ⟨by decide +kernel, by decide +kernel, by decide +kernel⟩⟩
theorem lkX5_111 : mj_lkV RX5 111 iX5_endOfToken 1 := ⟨w_428, w_430, w_5, w_80, w_431, ⟨by decide +kernel, by decide +kernel, by decide +kernel⟩⟩
theorem lkX5_115 : mj_lkV RX5 115 iX5_tokenIn 2 := ⟨w_435, w_437, w_6, w_80, w_438, ⟨by decide +kernel, by decide +kernel, by decide +kernel⟩⟩
theorem lkX5_119 : mj_lkV RX5 119 iX5_byteAt 1 := ⟨w_424, w_426, w_4, w_80, w_427, ⟨by decide +kernel, by decide +kernel, by decide +kernel⟩⟩
theorem lkX5_127 : mj_lkV RX5 127 iX5_wordIn 2 := ⟨w_439, w_441, w_7, w_80, w_442, ⟨by decide +kernel, by decide +kernel, by decide +kernel⟩⟩
theorem lkX5_130 : mj_lkV RX5 130 iX5_numberIn 2 := ⟨w_499, w_501, w_9, w_80, w_502, ⟨by decide +kernel, by decide +kernel, by decide +kernel⟩⟩
theorem lkX5_135 : mj_lkV RX5 135 iX5_isWord 3 := ⟨w_444, w_446, w_8, w_80, w_447, ⟨by decide +kernel, by decide +kernel, by decide +kernel⟩⟩
theorem lkX5_144 : mj_lkV RX5 144 iJ0_length_8abf5 0 := ⟨w_448, w_449, w_450, w_84, w_451, ⟨by decide +kernel, by decide +kernel, by decide +kernel⟩⟩
theorem lkX5_148 : mj_lkV RX5 148 iJ0_charAt_5068e 1 := ⟨w_458, w_459, w_460, w_84, w_461, ⟨by decide +kernel, by decide +kernel, by decide +kernel⟩⟩
theorem lkX7_31 : mj_lkSN RX7 31 iX10_within 3 := ⟨⟨"IceVote", List.mem_of_getElem? (i := 394) (by decide +kernel)⟩, w_308, w_72, w_309, ⟨by decide +kernel, by decide +kernel, by decide +kernel⟩⟩
theorem lkX7_35 : mj_lkV RX7 35 iX4_leastBeside 1 := ⟨w_691, w_692, w_693, w_74, w_694, ⟨by decide +kernel, by decide +kernel, by decide +kernel⟩⟩
theorem lkX7_41 : mj_lkV RX7 41 iX4_bears 1 := ⟨w_697, w_624, w_625, w_74, w_626, ⟨by decide +kernel, by decide +kernel, by decide +kernel⟩⟩
theorem lkX7_44 : mj_lkS RX7 44 iX6_yes 5 := ⟨w_698, w_699, w_90, w_700, ⟨by decide +kernel, by decide +kernel, by decide +kernel⟩⟩
theorem lkX7_50 : mj_lkS RX7 50 iJ6_bitCount_0f7a4 1 := ⟨w_802, w_803, w_91, w_804, ⟨by decide +kernel, by decide +kernel, by decide +kernel⟩⟩
theorem lkX7_55 : mj_lkV RX7 55 iX7_heaviest 0 := ⟨w_808, w_810, w_23, w_76, w_811, ⟨by decide +kernel, by decide +kernel, by decide +kernel⟩⟩
theorem lkX7_59 : mj_lkSN RX7 59 iX10_has 2 := ⟨⟨"IceVote", List.mem_of_getElem? (i := 813) (by decide +kernel)⟩, w_702, w_72, w_703, ⟨by decide +kernel, by decide +kernel, by decide +kernel⟩⟩
theorem lkX7_63 : mj_lkV RX7 63 iX7_weightOf 1 := ⟨w_812, w_672, w_673, w_76, w_674, ⟨by decide +kernel, by decide +kernel, by decide +kernel⟩⟩
theorem lkX7_66 : mj_lkV RX7 66 iX7_yes 2 := ⟨w_818, w_688, w_689, w_76, w_690, ⟨by decide +kernel, by decide +kernel, by decide +kernel⟩⟩
theorem lkX7_69 : mj_lkV RX7 69 iX7_carried 1 := ⟨w_819, w_799, w_800, w_76, w_801, ⟨by decide +kernel, by decide +kernel, by decide +kernel⟩⟩
theorem lkX7_73 : mj_lkV RX7 73 iX7_heavy 1 := ⟨w_820, w_821, w_822, w_76, w_823, ⟨by decide +kernel, by decide +kernel, by decide +kernel⟩⟩
theorem lkX8_21 : mj_lkS RX8 21 iX8_beside 1 := ⟨w_761, w_762, w_79, w_763, ⟨by decide +kernel, by decide +kernel, by decide +kernel⟩⟩
theorem lkX8_25 : mj_lkV RX8 25 iX8_measure 3 := ⟨w_756, w_758, w_22, w_79, w_759, ⟨by decide +kernel, by decide +kernel, by decide +kernel⟩⟩
theorem lkX8_29 : mj_lkS RX8 29 iX8_first 1 := ⟨w_767, w_768, w_79, w_769, ⟨by decide +kernel, by decide +kernel, by decide +kernel⟩⟩
theorem lkX8_32 : mj_lkSN RX8 32 iX10_has 2 := ⟨⟨"IceVote", List.mem_of_getElem? (i := 760) (by decide +kernel)⟩, w_702, w_72, w_703, ⟨by decide +kernel, by decide +kernel, by decide +kernel⟩⟩
theorem lkX8_36 : mj_lkSN RX8 36 iX10_isCell 1 := ⟨⟨"IceVote", List.mem_of_getElem? (i := 774) (by decide +kernel)⟩, w_344, w_72, w_345, ⟨by decide +kernel, by decide +kernel, by decide +kernel⟩⟩
theorem lkX8_40 : mj_lkS RX8 40 iX8_joined 3 := ⟨w_793, w_780, w_79, w_781, ⟨by decide +kernel, by decide +kernel, by decide +kernel⟩⟩
theorem lkX9_24 : mj_lkS RX9 24 iJ7_fill_53178 2 := ⟨w_329, w_323, w_82, w_324, ⟨by decide +kernel, by decide +kernel, by decide +kernel⟩⟩
theorem lkX9_30 : mj_lkS RX9 30 iJ9_floorMod_7cf53 2 := ⟨w_367, w_368, w_83, w_369, ⟨by decide +kernel, by decide +kernel, by decide +kernel⟩⟩
theorem lkX9_36 : mj_lkV RX9 36 iX9_frostOn 1 := ⟨w_718, w_364, w_365, w_75, w_366, ⟨by decide +kernel, by decide +kernel, by decide +kernel⟩⟩
theorem lkX9_40 : mj_lkV RX9 40 iX9_sunOn 1 := ⟨w_719, w_371, w_372, w_75, w_373, ⟨by decide +kernel, by decide +kernel, by decide +kernel⟩⟩
theorem lkX9_43 : mj_lkS RX9 43 iX0_after 4 := ⟨w_720, w_600, w_89, w_601, ⟨by decide +kernel, by decide +kernel, by decide +kernel⟩⟩
theorem lkX10_9 : mj_lkIN RX10 9 iX1_init 0 := ⟨⟨"IceVote", List.mem_of_getElem? (i := 102) (by decide +kernel)⟩, w_103, w_73, w_104, rfl, rfl, ⟨by decide +kernel, by decide +kernel, by decide +kernel⟩⟩
theorem lkX10_25 : mj_lkIN RX10 25 iX4_init 0 := ⟨⟨"IceVote", List.mem_of_getElem? (i := 225) (by decide +kernel)⟩, w_109, w_74, w_110, rfl, rfl, ⟨by decide +kernel, by decide +kernel, by decide +kernel⟩⟩
theorem lkX10_32 : mj_lkIN RX10 32 iX8_init 0 := ⟨⟨"IceVote", List.mem_of_getElem? (i := 228) (by decide +kernel)⟩, w_229, w_79, w_230, rfl, rfl, ⟨by decide +kernel, by decide +kernel, by decide +kernel⟩⟩
theorem lkX10_39 : mj_lkIN RX10 39 iX5_init 0 := ⟨⟨"IceVote", List.mem_of_getElem? (i := 241) (by decide +kernel)⟩, w_242, w_80, w_243, rfl, rfl, ⟨by decide +kernel, by decide +kernel, by decide +kernel⟩⟩
theorem lkX10_65 : mj_lkS RX10 65 iX10_within 3 := ⟨w_307, w_308, w_72, w_309, ⟨by decide +kernel, by decide +kernel, by decide +kernel⟩⟩
theorem lkX10_69 : mj_lkV RX10 69 iX10_bad 0 := ⟨w_310, w_312, w_0, w_72, w_313, ⟨by decide +kernel, by decide +kernel, by decide +kernel⟩⟩
theorem lkX10_83 : mj_lkV RX10 83 iX1_restart 1 := ⟨w_314, w_315, w_316, w_73, w_317, ⟨by decide +kernel, by decide +kernel, by decide +kernel⟩⟩
theorem lkX10_87 : mj_lkS RX10 87 iX10_isCell 1 := ⟨w_343, w_344, w_72, w_345, ⟨by decide +kernel, by decide +kernel, by decide +kernel⟩⟩
theorem lkX10_94 : mj_lkV RX10 94 iX4_kindOf 1 := ⟨w_346, w_347, w_348, w_74, w_349, ⟨by decide +kernel, by decide +kernel, by decide +kernel⟩⟩
theorem lkX10_98 : mj_lkV RX10 98 iX4_setKind 2 := ⟨w_351, w_352, w_353, w_74, w_354, ⟨by decide +kernel, by decide +kernel, by decide +kernel⟩⟩
theorem lkX10_106 : mj_lkV RX10 106 iX2_empty 0 := ⟨w_355, w_335, w_336, w_78, w_337, ⟨by decide +kernel, by decide +kernel, by decide +kernel⟩⟩
theorem lkX10_111 : mj_lkS RX10 111 iX10_isSky 1 := ⟨w_360, w_361, w_72, w_362, ⟨by decide +kernel, by decide +kernel, by decide +kernel⟩⟩
theorem lkX10_118 : mj_lkV RX10 118 iX9_frostOn 1 := ⟨w_363, w_364, w_365, w_75, w_366, ⟨by decide +kernel, by decide +kernel, by decide +kernel⟩⟩
theorem lkX10_123 : mj_lkV RX10 123 iX9_sunOn 1 := ⟨w_370, w_371, w_372, w_75, w_373, ⟨by decide +kernel, by decide +kernel, by decide +kernel⟩⟩
theorem lkX10_126 : mj_lkV RX10 126 iX9_set 3 := ⟨w_374, w_375, w_376, w_75, w_377, ⟨by decide +kernel, by decide +kernel, by decide +kernel⟩⟩
theorem lkX10_133 : mj_lkV RX10 133 iX10_full 0 := ⟨w_386, w_388, w_1, w_72, w_389, ⟨by decide +kernel, by decide +kernel, by decide +kernel⟩⟩
theorem lkX10_136 : mj_lkV RX10 136 iX7_add 3 := ⟨w_390, w_391, w_392, w_76, w_393, ⟨by decide +kernel, by decide +kernel, by decide +kernel⟩⟩
theorem lkX10_142 : mj_lkV RX10 142 iX5_add 1 := ⟨w_399, w_400, w_401, w_80, w_402, ⟨by decide +kernel, by decide +kernel, by decide +kernel⟩⟩
theorem lkX10_144 : mj_lkV RX10 144 iX5_tell 1 := ⟨w_412, w_413, w_414, w_80, w_415, ⟨by decide +kernel, by decide +kernel, by decide +kernel⟩⟩
theorem lkX10_148 : mj_lkV RX10 148 iX1_copy 1 := ⟨w_539, w_540, w_541, w_73, w_542, ⟨by decide +kernel, by decide +kernel, by decide +kernel⟩⟩
theorem lkX10_152 : mj_lkV RX10 152 iX1_keepPast 0 := ⟨w_576, w_577, w_578, w_73, w_579, ⟨by decide +kernel, by decide +kernel, by decide +kernel⟩⟩
theorem lkX10_155 : mj_lkV RX10 155 iX1_passDays 1 := ⟨w_589, w_590, w_591, w_73, w_592, ⟨by decide +kernel, by decide +kernel, by decide +kernel⟩⟩
theorem lkX10_158 : mj_lkV RX10 158 iX4_together 0 := ⟨w_615, w_616, w_617, w_74, w_618, ⟨by decide +kernel, by decide +kernel, by decide +kernel⟩⟩
theorem lkX10_161 : mj_lkV RX10 161 iX4_bears 1 := ⟨w_623, w_624, w_625, w_74, w_626, ⟨by decide +kernel, by decide +kernel, by decide +kernel⟩⟩
theorem lkX10_164 : mj_lkV RX10 164 iX4_iceOf 1 := ⟨w_630, w_631, w_632, w_74, w_633, ⟨by decide +kernel, by decide +kernel, by decide +kernel⟩⟩
theorem lkX10_173 : mj_lkV RX10 173 iX4_setIce 2 := ⟨w_635, w_636, w_637, w_74, w_638, ⟨by decide +kernel, by decide +kernel, by decide +kernel⟩⟩
theorem lkX10_177 : mj_lkV RX10 177 iX10_no 0 := ⟨w_647, w_649, w_19, w_72, w_650, ⟨by decide +kernel, by decide +kernel, by decide +kernel⟩⟩
theorem lkX10_180 : mj_lkV RX10 180 iX2_goBack 1 := ⟨w_651, w_652, w_653, w_78, w_654, ⟨by decide +kernel, by decide +kernel, by decide +kernel⟩⟩
theorem lkX10_187 : mj_lkV RX10 187 iX10_isVoter 1 := ⟨w_663, w_665, w_20, w_72, w_666, ⟨by decide +kernel, by decide +kernel, by decide +kernel⟩⟩
theorem lkX10_190 : mj_lkV RX10 190 iX7_kindOf 1 := ⟨w_667, w_668, w_669, w_76, w_670, ⟨by decide +kernel, by decide +kernel, by decide +kernel⟩⟩
theorem lkX10_191 : mj_lkV RX10 191 iX7_weightOf 1 := ⟨w_671, w_672, w_673, w_76, w_674, ⟨by decide +kernel, by decide +kernel, by decide +kernel⟩⟩
theorem lkX10_194 : mj_lkV RX10 194 iX7_cellOf 1 := ⟨w_675, w_676, w_677, w_76, w_678, ⟨by decide +kernel, by decide +kernel, by decide +kernel⟩⟩
theorem lkX10_197 : mj_lkV RX10 197 iX10_yesNow 0 := ⟨w_679, w_681, w_21, w_72, w_682, ⟨by decide +kernel, by decide +kernel, by decide +kernel⟩⟩
theorem lkX10_200 : mj_lkS RX10 200 iX10_has 2 := ⟨w_701, w_702, w_72, w_703, ⟨by decide +kernel, by decide +kernel, by decide +kernel⟩⟩
theorem lkX10_204 : mj_lkV RX10 204 iX1_iceBehind 2 := ⟨w_708, w_709, w_710, w_73, w_711, ⟨by decide +kernel, by decide +kernel, by decide +kernel⟩⟩
theorem lkX10_207 : mj_lkS RX10 207 iX0_bears 2 := ⟨w_721, w_628, w_89, w_629, ⟨by decide +kernel, by decide +kernel, by decide +kernel⟩⟩
theorem lkX10_211 : mj_lkS RX10 211 iX10_isBorne 1 := ⟨w_726, w_727, w_72, w_728, ⟨by decide +kernel, by decide +kernel, by decide +kernel⟩⟩
theorem lkX10_214 : mj_lkV RX10 214 iX9_iceAfter 3 := ⟨w_729, w_715, w_716, w_75, w_717, ⟨by decide +kernel, by decide +kernel, by decide +kernel⟩⟩
theorem lkX10_218 : mj_lkV RX10 218 iX4_copy 1 := ⟨w_734, w_544, w_545, w_74, w_546, ⟨by decide +kernel, by decide +kernel, by decide +kernel⟩⟩
theorem lkX10_221 : mj_lkV RX10 221 iX4_passDay 2 := ⟨w_735, w_596, w_597, w_74, w_598, ⟨by decide +kernel, by decide +kernel, by decide +kernel⟩⟩
theorem lkX10_224 : mj_lkV RX10 224 iX4_bearing 1 := ⟨w_736, w_737, w_738, w_74, w_739, ⟨by decide +kernel, by decide +kernel, by decide +kernel⟩⟩
theorem lkX10_227 : mj_lkV RX10 227 iX4_bearsTogether 0 := ⟨w_744, w_745, w_746, w_74, w_747, ⟨by decide +kernel, by decide +kernel, by decide +kernel⟩⟩
theorem lkX10_230 : mj_lkV RX10 230 iX8_find 3 := ⟨w_752, w_753, w_754, w_79, w_755, ⟨by decide +kernel, by decide +kernel, by decide +kernel⟩⟩
theorem lkX10_233 : mj_lkV RX10 233 iX8_step 1 := ⟨w_770, w_771, w_772, w_79, w_773, ⟨by decide +kernel, by decide +kernel, by decide +kernel⟩⟩
theorem lkX10_236 : mj_lkS RX10 236 iX8_joined 3 := ⟨w_779, w_780, w_79, w_781, ⟨by decide +kernel, by decide +kernel, by decide +kernel⟩⟩
theorem lkX10_239 : mj_lkS RX10 239 iX8_cut 3 := ⟨w_790, w_791, w_79, w_792, ⟨by decide +kernel, by decide +kernel, by decide +kernel⟩⟩
theorem lkX10_242 : mj_lkV RX10 242 iX7_carried 1 := ⟨w_798, w_799, w_800, w_76, w_801, ⟨by decide +kernel, by decide +kernel, by decide +kernel⟩⟩
theorem lkX10_245 : mj_lkV RX10 245 iX1_frost 0 := ⟨w_683, w_684, w_685, w_73, w_686, ⟨by decide +kernel, by decide +kernel, by decide +kernel⟩⟩
theorem lkX10_248 : mj_lkV RX10 248 iX7_wet 2 := ⟨w_814, w_815, w_816, w_76, w_817, ⟨by decide +kernel, by decide +kernel, by decide +kernel⟩⟩
theorem lkX10_252 : mj_lkV RX10 252 iX7_sets 0 := ⟨w_828, w_829, w_830, w_76, w_831, ⟨by decide +kernel, by decide +kernel, by decide +kernel⟩⟩
theorem lkX10_255 : mj_lkS RX10 255 iJ6_bitCount_0f7a4 1 := ⟨w_832, w_803, w_91, w_804, ⟨by decide +kernel, by decide +kernel, by decide +kernel⟩⟩
theorem lkX10_260 : mj_lkV RX10 260 iX7_heavy 1 := ⟨w_837, w_821, w_822, w_76, w_823, ⟨by decide +kernel, by decide +kernel, by decide +kernel⟩⟩
theorem lkX10_263 : mj_lkV RX10 263 iX4_iceOfWard 1 := ⟨w_842, w_843, w_844, w_74, w_845, ⟨by decide +kernel, by decide +kernel, by decide +kernel⟩⟩
theorem lkX10_273 : mj_lkV RX10 273 iX3_add 5 := ⟨w_855, w_856, w_857, w_77, w_858, ⟨by decide +kernel, by decide +kernel, by decide +kernel⟩⟩
theorem lkX10_279 : mj_lkV RX10 279 iX3_empty 0 := ⟨w_868, w_331, w_332, w_77, w_333, ⟨by decide +kernel, by decide +kernel, by decide +kernel⟩⟩
theorem lkX10_281 : mj_lkV RX10 281 iX10_kindsNoted 1 := ⟨w_873, w_875, w_24, w_72, w_876, ⟨by decide +kernel, by decide +kernel, by decide +kernel⟩⟩
theorem lkX10_284 : mj_lkV RX10 284 iX10_mostAlike 4 := ⟨w_890, w_892, w_26, w_72, w_893, ⟨by decide +kernel, by decide +kernel, by decide +kernel⟩⟩
theorem lkX10_288 : mj_lkV RX10 288 iX10_fitsPolls 2 := ⟨w_898, w_900, w_27, w_72, w_901, ⟨by decide +kernel, by decide +kernel, by decide +kernel⟩⟩
theorem lkX10_291 : mj_lkV RX10 291 iX7_gain 3 := ⟨w_907, w_908, w_909, w_76, w_910, ⟨by decide +kernel, by decide +kernel, by decide +kernel⟩⟩
theorem lkX10_294 : mj_lkS RX10 294 iJ7_fill_d0a16 2 := ⟨w_915, w_916, w_82, w_917, ⟨by decide +kernel, by decide +kernel, by decide +kernel⟩⟩
theorem lkX10_300 : mj_lkS RX10 300 iX10_addAt 3 := ⟨w_918, w_919, w_72, w_920, ⟨by decide +kernel, by decide +kernel, by decide +kernel⟩⟩
theorem lkX10_304 : mj_lkV RX10 304 iX10_passNight 3 := ⟨w_921, w_923, w_28, w_72, w_924, ⟨by decide +kernel, by decide +kernel, by decide +kernel⟩⟩
theorem lkX10_309 : mj_lkV RX10 309 iX10_keepFraction 2 := ⟨w_927, w_929, w_29, w_72, w_930, ⟨by decide +kernel, by decide +kernel, by decide +kernel⟩⟩
theorem lkX10_324 : mj_lkV RX10 324 iX10_amount 1 := ⟨w_961, w_963, w_30, w_72, w_964, ⟨by decide +kernel, by decide +kernel, by decide +kernel⟩⟩
theorem lkX10_331 : mj_lkV RX10 331 iX7_fold 1 := ⟨w_971, w_972, w_973, w_76, w_974, ⟨by decide +kernel, by decide +kernel, by decide +kernel⟩⟩
theorem lkX10_335 : mj_lkV RX10 335 iX3_fold 1 := ⟨w_976, w_977, w_978, w_77, w_979, ⟨by decide +kernel, by decide +kernel, by decide +kernel⟩⟩
theorem lkX10_336 : mj_lkV RX10 336 iX7_yes 2 := ⟨w_687, w_688, w_689, w_76, w_690, ⟨by decide +kernel, by decide +kernel, by decide +kernel⟩⟩
theorem lkX10_339 : mj_lkV RX10 339 iX10_fitsNotes 2 := ⟨w_877, w_879, w_25, w_72, w_880, ⟨by decide +kernel, by decide +kernel, by decide +kernel⟩⟩
theorem lkX10_342 : mj_lkV RX10 342 iX3_at 2 := ⟨w_881, w_882, w_883, w_77, w_884, ⟨by decide +kernel, by decide +kernel, by decide +kernel⟩⟩
theorem lkX10_345 : mj_lkS RX10 345 iX0_after 4 := ⟨w_885, w_600, w_89, w_601, ⟨by decide +kernel, by decide +kernel, by decide +kernel⟩⟩
theorem lkX10_348 : mj_lkS RX10 348 iX6_yes 5 := ⟨w_902, w_699, w_90, w_700, ⟨by decide +kernel, by decide +kernel, by decide +kernel⟩⟩
theorem lkX11_42 : mj_lkS RX11 42 iX11_begin 2 := ⟨w_987, w_988, w_81, w_989, ⟨by decide +kernel, by decide +kernel, by decide +kernel⟩⟩
theorem lkX11_46 : mj_lkV RX11 46 iX11_many 0 := ⟨w_1055, w_1057, w_32, w_81, w_1058, ⟨by decide +kernel, by decide +kernel, by decide +kernel⟩⟩
theorem lkX11_50 : mj_lkS RX11 50 iX11_in 3 := ⟨w_1048, w_1049, w_81, w_1050, ⟨by decide +kernel, by decide +kernel, by decide +kernel⟩⟩
theorem lkX11_62 : mj_lkS RX11 62 iX11_isIce 1 := ⟨w_1044, w_1045, w_81, w_1046, ⟨by decide +kernel, by decide +kernel, by decide +kernel⟩⟩
theorem lkX11_66 : mj_lkV RX11 66 iX11_bad 1 := ⟨w_1051, w_1053, w_31, w_81, w_1054, ⟨by decide +kernel, by decide +kernel, by decide +kernel⟩⟩
theorem lkX11_70 : mj_lkS RX11 70 iX11_isCell 1 := ⟨w_1063, w_1064, w_81, w_1065, ⟨by decide +kernel, by decide +kernel, by decide +kernel⟩⟩
theorem lkX11_77 : mj_lkS RX11 77 iX11_isWeather 1 := ⟨w_1073, w_1074, w_81, w_1075, ⟨by decide +kernel, by decide +kernel, by decide +kernel⟩⟩
theorem lkX11_82 : mj_lkV RX11 82 iX11_full 0 := ⟨w_1086, w_1088, w_33, w_81, w_1089, ⟨by decide +kernel, by decide +kernel, by decide +kernel⟩⟩
theorem lkX11_85 : mj_lkS RX11 85 iX11_layVoter 4 := ⟨w_1090, w_1091, w_81, w_1092, ⟨by decide +kernel, by decide +kernel, by decide +kernel⟩⟩
theorem lkX11_89 : mj_lkS RX11 89 iX11_growsAs 3 := ⟨w_1121, w_1122, w_81, w_1123, ⟨by decide +kernel, by decide +kernel, by decide +kernel⟩⟩
theorem lkX11_93 : mj_lkS RX11 93 iX11_meltsAs 2 := ⟨w_1124, w_1125, w_81, w_1126, ⟨by decide +kernel, by decide +kernel, by decide +kernel⟩⟩
theorem lkX11_97 : mj_lkV RX11 97 iX11_kindOf 1 := ⟨w_1114, w_1116, w_38, w_81, w_1117, ⟨by decide +kernel, by decide +kernel, by decide +kernel⟩⟩
theorem lkX11_100 : mj_lkS RX11 100 iX11_bearsAs 2 := ⟨w_1135, w_1136, w_81, w_1137, ⟨by decide +kernel, by decide +kernel, by decide +kernel⟩⟩
theorem lkX11_103 : mj_lkS RX11 103 iX11_behindDay 4 := ⟨w_1118, w_1119, w_81, w_1120, ⟨by decide +kernel, by decide +kernel, by decide +kernel⟩⟩
theorem lkX11_107 : mj_lkV RX11 107 iX11_goDay 2 := ⟨w_1110, w_1112, w_37, w_81, w_1113, ⟨by decide +kernel, by decide +kernel, by decide +kernel⟩⟩
theorem lkX11_112 : mj_lkS RX11 112 iX11_areBeside 2 := ⟨w_1180, w_1181, w_81, w_1182, ⟨by decide +kernel, by decide +kernel, by decide +kernel⟩⟩
theorem lkX11_116 : mj_lkV RX11 116 iX11_bears 1 := ⟨w_1171, w_1173, w_44, w_81, w_1174, ⟨by decide +kernel, by decide +kernel, by decide +kernel⟩⟩
theorem lkX11_121 : mj_lkV RX11 121 iX11_keep 0 := ⟨w_1098, w_1100, w_34, w_81, w_1101, ⟨by decide +kernel, by decide +kernel, by decide +kernel⟩⟩
theorem lkX11_124 : mj_lkV RX11 124 iX11_layIce 0 := ⟨w_1102, w_1104, w_35, w_81, w_1105, ⟨by decide +kernel, by decide +kernel, by decide +kernel⟩⟩
theorem lkX11_127 : mj_lkV RX11 127 iX11_goDays 1 := ⟨w_1106, w_1108, w_36, w_81, w_1109, ⟨by decide +kernel, by decide +kernel, by decide +kernel⟩⟩
theorem lkX11_131 : mj_lkV RX11 131 iX11_allIce 0 := ⟨w_1127, w_1129, w_39, w_81, w_1130, ⟨by decide +kernel, by decide +kernel, by decide +kernel⟩⟩
theorem lkX11_134 : mj_lkV RX11 134 iX11_no 0 := ⟨w_1146, w_1148, w_40, w_81, w_1149, ⟨by decide +kernel, by decide +kernel, by decide +kernel⟩⟩
theorem lkX11_139 : mj_lkV RX11 139 iX11_leastBeside 1 := ⟨w_1175, w_1177, w_45, w_81, w_1178, ⟨by decide +kernel, by decide +kernel, by decide +kernel⟩⟩
theorem lkX11_142 : mj_lkS RX11 142 iX11_votesAs 5 := ⟨w_1183, w_1184, w_81, w_1185, ⟨by decide +kernel, by decide +kernel, by decide +kernel⟩⟩
theorem lkX11_146 : mj_lkV RX11 146 iX11_isVoter 1 := ⟨w_1159, w_1161, w_41, w_81, w_1162, ⟨by decide +kernel, by decide +kernel, by decide +kernel⟩⟩
theorem lkX11_149 : mj_lkV RX11 149 iX11_frostNow 0 := ⟨w_1163, w_1165, w_42, w_81, w_1166, ⟨by decide +kernel, by decide +kernel, by decide +kernel⟩⟩
theorem lkX11_152 : mj_lkV RX11 152 iX11_votesYes 2 := ⟨w_1167, w_1169, w_43, w_81, w_1170, ⟨by decide +kernel, by decide +kernel, by decide +kernel⟩⟩
theorem lkX11_155 : mj_lkS RX11 155 iX11_isBurden 1 := ⟨w_1194, w_1195, w_81, w_1196, ⟨by decide +kernel, by decide +kernel, by decide +kernel⟩⟩
theorem lkX11_158 : mj_lkV RX11 158 iX11_goOne 1 := ⟨w_1198, w_1200, w_46, w_81, w_1201, ⟨by decide +kernel, by decide +kernel, by decide +kernel⟩⟩
theorem lkX11_161 : mj_lkS RX11 161 iX11_has 2 := ⟨w_1218, w_1219, w_81, w_1220, ⟨by decide +kernel, by decide +kernel, by decide +kernel⟩⟩
theorem lkX11_164 : mj_lkV RX11 164 iX11_layNearer 1 := ⟨w_1221, w_1223, w_48, w_81, w_1224, ⟨by decide +kernel, by decide +kernel, by decide +kernel⟩⟩
theorem lkX11_167 : mj_lkV RX11 167 iX11_layFar 3 := ⟨w_1214, w_1216, w_47, w_81, w_1217, ⟨by decide +kernel, by decide +kernel, by decide +kernel⟩⟩
theorem lkX11_171 : mj_lkV RX11 171 iX11_nextOf 1 := ⟨w_1225, w_1227, w_49, w_81, w_1228, ⟨by decide +kernel, by decide +kernel, by decide +kernel⟩⟩
theorem lkX11_174 : mj_lkV RX11 174 iX11_isParted 4 := ⟨w_1245, w_1247, w_51, w_81, w_1248, ⟨by decide +kernel, by decide +kernel, by decide +kernel⟩⟩
theorem lkX11_178 : mj_lkV RX11 178 iX11_partsOf 3 := ⟨w_1241, w_1243, w_50, w_81, w_1244, ⟨by decide +kernel, by decide +kernel, by decide +kernel⟩⟩
theorem lkX11_181 : mj_lkS RX11 181 iX11_bits 1 := ⟨w_1265, w_1266, w_81, w_1267, ⟨by decide +kernel, by decide +kernel, by decide +kernel⟩⟩
theorem lkX11_184 : mj_lkV RX11 184 iX11_heaviest 0 := ⟨w_1268, w_1270, w_55, w_81, w_1271, ⟨by decide +kernel, by decide +kernel, by decide +kernel⟩⟩
theorem lkX11_187 : mj_lkV RX11 187 iX11_isCarried 1 := ⟨w_1261, w_1263, w_54, w_81, w_1264, ⟨by decide +kernel, by decide +kernel, by decide +kernel⟩⟩
theorem lkX11_190 : mj_lkV RX11 190 iX11_bearsIt 1 := ⟨w_1272, w_1274, w_56, w_81, w_1275, ⟨by decide +kernel, by decide +kernel, by decide +kernel⟩⟩
theorem lkX11_193 : mj_lkV RX11 193 iX11_yesOf 1 := ⟨w_1253, w_1255, w_52, w_81, w_1256, ⟨by decide +kernel, by decide +kernel, by decide +kernel⟩⟩
theorem lkX11_196 : mj_lkV RX11 196 iX11_wetOf 1 := ⟨w_1257, w_1259, w_53, w_81, w_1260, ⟨by decide +kernel, by decide +kernel, by decide +kernel⟩⟩
theorem lkX11_199 : mj_lkV RX11 199 iX11_kindsOf 1 := ⟨w_1308, w_1310, w_57, w_81, w_1311, ⟨by decide +kernel, by decide +kernel, by decide +kernel⟩⟩
theorem lkX11_202 : mj_lkV RX11 202 iX11_hasBy 2 := ⟨w_1324, w_1326, w_58, w_81, w_1327, ⟨by decide +kernel, by decide +kernel, by decide +kernel⟩⟩
theorem lkX11_212 : mj_lkV RX11 212 iX11_fraction 2 := ⟨w_1334, w_1336, w_59, w_81, w_1337, ⟨by decide +kernel, by decide +kernel, by decide +kernel⟩⟩
theorem lkX11_254 : mj_lkS RX11 254 iX11_isSmall 1 := ⟨w_1365, w_1366, w_81, w_1367, ⟨by decide +kernel, by decide +kernel, by decide +kernel⟩⟩
theorem lkX11_257 : mj_lkS RX11 257 iX11_isFigure 1 := ⟨w_1370, w_1371, w_81, w_1372, ⟨by decide +kernel, by decide +kernel, by decide +kernel⟩⟩
theorem lkX11_260 : mj_lkV RX11 260 iX11_lookAt 1 := ⟨w_1361, w_1363, w_60, w_81, w_1364, ⟨by decide +kernel, by decide +kernel, by decide +kernel⟩⟩
theorem lkX11_263 : mj_lkV RX11 263 iX11_goBehind 0 := ⟨w_1383, w_1385, w_63, w_81, w_1386, ⟨by decide +kernel, by decide +kernel, by decide +kernel⟩⟩
theorem lkX11_266 : mj_lkV RX11 266 iX11_spells 7 := ⟨w_1379, w_1381, w_62, w_81, w_1382, ⟨by decide +kernel, by decide +kernel, by decide +kernel⟩⟩
theorem lkX11_270 : mj_lkV RX11 270 iX11_takes 3 := ⟨w_1387, w_1389, w_64, w_81, w_1390, ⟨by decide +kernel, by decide +kernel, by decide +kernel⟩⟩
theorem lkX11_274 : mj_lkV RX11 274 iX11_takesCell 0 := ⟨w_1395, w_1397, w_66, w_81, w_1398, ⟨by decide +kernel, by decide +kernel, by decide +kernel⟩⟩
theorem lkX11_278 : mj_lkV RX11 278 iX11_takesWeek 0 := ⟨w_1399, w_1401, w_67, w_81, w_1402, ⟨by decide +kernel, by decide +kernel, by decide +kernel⟩⟩
theorem lkX11_281 : mj_lkV RX11 281 iX11_takesVoter 0 := ⟨w_1403, w_1405, w_68, w_81, w_1406, ⟨by decide +kernel, by decide +kernel, by decide +kernel⟩⟩
theorem lkX11_284 : mj_lkV RX11 284 iX11_takesLake 0 := ⟨w_1375, w_1377, w_61, w_81, w_1378, ⟨by decide +kernel, by decide +kernel, by decide +kernel⟩⟩
theorem lkX11_287 : mj_lkV RX11 287 iX11_takesItem 0 := ⟨w_1391, w_1393, w_65, w_81, w_1394, ⟨by decide +kernel, by decide +kernel, by decide +kernel⟩⟩
theorem lkX11_290 : mj_lkV RX11 290 iX11_counted 1 := ⟨w_1427, w_1429, w_69, w_81, w_1430, ⟨by decide +kernel, by decide +kernel, by decide +kernel⟩⟩
theorem lkX11_297 : mj_lkV RX11 297 iX11_sums 3 := ⟨w_1437, w_1439, w_70, w_81, w_1440, ⟨by decide +kernel, by decide +kernel, by decide +kernel⟩⟩
theorem lkJ0_335 : mj_lkV RJ0 335 iJ0_coder_7d493 0 := ⟨w_452, w_453, w_454, w_84, w_455, ⟨by decide +kernel, by decide +kernel, by decide +kernel⟩⟩
theorem lkJ0_492 : mj_lkV RJ0 492 iJ0_isLatin1_aae02 0 := ⟨w_462, w_463, w_464, w_84, w_465, ⟨by decide +kernel, by decide +kernel, by decide +kernel⟩⟩
theorem lkJ0_495 : mj_lkS RJ0 495 iJ1_charAt_3b067 2 := ⟨w_466, w_467, w_85, w_468, ⟨by decide +kernel, by decide +kernel, by decide +kernel⟩⟩
theorem lkJ0_498 : mj_lkS RJ0 498 iJ2_charAt_3b067 2 := ⟨w_477, w_478, w_87, w_479, ⟨by decide +kernel, by decide +kernel, by decide +kernel⟩⟩
theorem lkJ0_1059 : mj_lkS RJ0 1059 iJ3_checkIndex_8e157 3 := ⟨w_474, w_475, w_86, w_476, ⟨by decide +kernel, by decide +kernel, by decide +kernel⟩⟩
theorem lkJ1_9 : mj_lkS RJ1 9 iJ0_checkIndex_df160 2 := ⟨w_469, w_470, w_84, w_471, ⟨by decide +kernel, by decide +kernel, by decide +kernel⟩⟩
theorem lkJ2_48 : mj_lkS RJ2 48 iJ2_length_9d52b 1 := ⟨w_483, w_484, w_87, w_485, ⟨by decide +kernel, by decide +kernel, by decide +kernel⟩⟩
theorem lkJ2_67 : mj_lkS RJ2 67 iJ2_checkIndex_2214a 2 := ⟨w_480, w_481, w_87, w_482, ⟨by decide +kernel, by decide +kernel, by decide +kernel⟩⟩
theorem lkJ2_71 : mj_lkS RJ2 71 iJ2_getChar_3b067 2 := ⟨w_487, w_488, w_87, w_489, ⟨by decide +kernel, by decide +kernel, by decide +kernel⟩⟩
theorem lkJ2_414 : mj_lkS RJ2 414 iJ0_checkIndex_df160 2 := ⟨w_486, w_470, w_84, w_471, ⟨by decide +kernel, by decide +kernel, by decide +kernel⟩⟩
theorem lkL_9 : mj_lkI RL 9 iX10_init 0 := ⟨w_94, w_95, w_72, w_96, rfl, rfl, ⟨by decide +kernel, by decide +kernel, by decide +kernel⟩⟩
theorem lkL_12 : mj_lkI RL 12 iX11_init 0 := ⟨w_983, w_984, w_81, w_985, rfl, rfl, ⟨by decide +kernel, by decide +kernel, by decide +kernel⟩⟩
theorem lkL_13 : mj_lkV RL 13 iX10_lake 1 := ⟨w_303, w_304, w_305, w_72, w_306, ⟨by decide +kernel, by decide +kernel, by decide +kernel⟩⟩
theorem lkL_17 : mj_lkV RL 17 iX11_lake 1 := ⟨w_1040, w_1041, w_1042, w_81, w_1043, ⟨by decide +kernel, by decide +kernel, by decide +kernel⟩⟩
theorem lkL_18 : mj_lkV RL 18 iX10_cell 2 := ⟨w_339, w_340, w_341, w_72, w_342, ⟨by decide +kernel, by decide +kernel, by decide +kernel⟩⟩
theorem lkL_22 : mj_lkV RL 22 iX11_cell 2 := ⟨w_1059, w_1060, w_1061, w_81, w_1062, ⟨by decide +kernel, by decide +kernel, by decide +kernel⟩⟩
theorem lkL_23 : mj_lkV RL 23 iX10_weather 3 := ⟨w_356, w_357, w_358, w_72, w_359, ⟨by decide +kernel, by decide +kernel, by decide +kernel⟩⟩
theorem lkL_27 : mj_lkV RL 27 iX11_weather 3 := ⟨w_1068, w_1069, w_1070, w_81, w_1071, ⟨by decide +kernel, by decide +kernel, by decide +kernel⟩⟩
theorem lkL_28 : mj_lkV RL 28 iX10_ward 2 := ⟨w_378, w_379, w_380, w_72, w_381, ⟨by decide +kernel, by decide +kernel, by decide +kernel⟩⟩
theorem lkL_31 : mj_lkV RL 31 iX11_ward 2 := ⟨w_1077, w_1078, w_1079, w_81, w_1080, ⟨by decide +kernel, by decide +kernel, by decide +kernel⟩⟩
theorem lkL_32 : mj_lkV RL 32 iX10_voter 3 := ⟨w_382, w_383, w_384, w_72, w_385, ⟨by decide +kernel, by decide +kernel, by decide +kernel⟩⟩
theorem lkL_35 : mj_lkV RL 35 iX11_voter 3 := ⟨w_1082, w_1083, w_1084, w_81, w_1085, ⟨by decide +kernel, by decide +kernel, by decide +kernel⟩⟩
theorem lkL_36 : mj_lkV RL 36 iX10_type 1 := ⟨w_395, w_396, w_397, w_72, w_398, ⟨by decide +kernel, by decide +kernel, by decide +kernel⟩⟩
theorem lkL_39 : mj_lkV RL 39 iX11_type 1 := ⟨w_1348, w_1349, w_1350, w_81, w_1351, ⟨by decide +kernel, by decide +kernel, by decide +kernel⟩⟩
theorem lkL_40 : mj_lkV RL 40 iX10_clear 0 := ⟨w_404, w_405, w_406, w_72, w_407, ⟨by decide +kernel, by decide +kernel, by decide +kernel⟩⟩
theorem lkL_44 : mj_lkV RL 44 iX11_clear 0 := ⟨w_1353, w_1354, w_1355, w_81, w_1356, ⟨by decide +kernel, by decide +kernel, by decide +kernel⟩⟩
theorem lkL_45 : mj_lkV RL 45 iX10_read 0 := ⟨w_408, w_409, w_410, w_72, w_411, ⟨by decide +kernel, by decide +kernel, by decide +kernel⟩⟩
theorem lkL_48 : mj_lkV RL 48 iX11_read 0 := ⟨w_1357, w_1358, w_1359, w_81, w_1360, ⟨by decide +kernel, by decide +kernel, by decide +kernel⟩⟩
theorem lkL_49 : mj_lkV RL 49 iX10_day 1 := ⟨w_572, w_573, w_574, w_72, w_575, ⟨by decide +kernel, by decide +kernel, by decide +kernel⟩⟩
theorem lkL_52 : mj_lkV RL 52 iX11_day 1 := ⟨w_1093, w_1094, w_1095, w_81, w_1096, ⟨by decide +kernel, by decide +kernel, by decide +kernel⟩⟩
theorem lkL_53 : mj_lkV RL 53 iX10_tread 2 := ⟨w_619, w_620, w_621, w_72, w_622, ⟨by decide +kernel, by decide +kernel, by decide +kernel⟩⟩
theorem lkL_56 : mj_lkV RL 56 iX11_tread 2 := ⟨w_1131, w_1132, w_1133, w_81, w_1134, ⟨by decide +kernel, by decide +kernel, by decide +kernel⟩⟩
theorem lkL_57 : mj_lkV RL 57 iX10_stone 1 := ⟨w_639, w_640, w_641, w_72, w_642, ⟨by decide +kernel, by decide +kernel, by decide +kernel⟩⟩
theorem lkL_60 : mj_lkV RL 60 iX11_stone 1 := ⟨w_1138, w_1139, w_1140, w_81, w_1141, ⟨by decide +kernel, by decide +kernel, by decide +kernel⟩⟩
theorem lkL_61 : mj_lkV RL 61 iX10_undo 0 := ⟨w_643, w_644, w_645, w_72, w_646, ⟨by decide +kernel, by decide +kernel, by decide +kernel⟩⟩
theorem lkL_64 : mj_lkV RL 64 iX11_undo 0 := ⟨w_1142, w_1143, w_1144, w_81, w_1145, ⟨by decide +kernel, by decide +kernel, by decide +kernel⟩⟩
theorem lkL_65 : mj_lkV RL 65 iX10_of 2 := ⟨w_655, w_656, w_657, w_72, w_658, ⟨by decide +kernel, by decide +kernel, by decide +kernel⟩⟩
theorem lkL_68 : mj_lkV RL 68 iX11_of 2 := ⟨w_1150, w_1151, w_1152, w_81, w_1153, ⟨by decide +kernel, by decide +kernel, by decide +kernel⟩⟩
theorem lkL_69 : mj_lkV RL 69 iX10_about 2 := ⟨w_659, w_660, w_661, w_72, w_662, ⟨by decide +kernel, by decide +kernel, by decide +kernel⟩⟩
theorem lkL_72 : mj_lkV RL 72 iX11_about 2 := ⟨w_1155, w_1156, w_1157, w_81, w_1158, ⟨by decide +kernel, by decide +kernel, by decide +kernel⟩⟩
theorem lkL_73 : mj_lkV RL 73 iX10_then 3 := ⟨w_704, w_705, w_706, w_72, w_707, ⟨by decide +kernel, by decide +kernel, by decide +kernel⟩⟩
theorem lkL_76 : mj_lkV RL 76 iX11_then 3 := ⟨w_1186, w_1187, w_1188, w_81, w_1189, ⟨by decide +kernel, by decide +kernel, by decide +kernel⟩⟩
theorem lkL_77 : mj_lkV RL 77 iX10_when 2 := ⟨w_722, w_723, w_724, w_72, w_725, ⟨by decide +kernel, by decide +kernel, by decide +kernel⟩⟩
theorem lkL_80 : mj_lkV RL 80 iX11_when 2 := ⟨w_1190, w_1191, w_1192, w_81, w_1193, ⟨by decide +kernel, by decide +kernel, by decide +kernel⟩⟩
theorem lkL_81 : mj_lkV RL 81 iX10_where 2 := ⟨w_730, w_731, w_732, w_72, w_733, ⟨by decide +kernel, by decide +kernel, by decide +kernel⟩⟩
theorem lkL_84 : mj_lkV RL 84 iX11_where 2 := ⟨w_1202, w_1203, w_1204, w_81, w_1205, ⟨by decide +kernel, by decide +kernel, by decide +kernel⟩⟩
theorem lkL_85 : mj_lkV RL 85 iX10_horses 1 := ⟨w_740, w_741, w_742, w_72, w_743, ⟨by decide +kernel, by decide +kernel, by decide +kernel⟩⟩
theorem lkL_88 : mj_lkV RL 88 iX11_horses 1 := ⟨w_1206, w_1207, w_1208, w_81, w_1209, ⟨by decide +kernel, by decide +kernel, by decide +kernel⟩⟩
theorem lkL_89 : mj_lkV RL 89 iX10_path 4 := ⟨w_748, w_749, w_750, w_72, w_751, ⟨by decide +kernel, by decide +kernel, by decide +kernel⟩⟩
theorem lkL_93 : mj_lkV RL 93 iX11_path 4 := ⟨w_1210, w_1211, w_1212, w_81, w_1213, ⟨by decide +kernel, by decide +kernel, by decide +kernel⟩⟩
theorem lkL_94 : mj_lkV RL 94 iX10_safe 2 := ⟨w_775, w_776, w_777, w_72, w_778, ⟨by decide +kernel, by decide +kernel, by decide +kernel⟩⟩
theorem lkL_97 : mj_lkV RL 97 iX11_safe 2 := ⟨w_1229, w_1230, w_1231, w_81, w_1232, ⟨by decide +kernel, by decide +kernel, by decide +kernel⟩⟩
theorem lkL_98 : mj_lkV RL 98 iX10_cross 3 := ⟨w_782, w_783, w_784, w_72, w_785, ⟨by decide +kernel, by decide +kernel, by decide +kernel⟩⟩
theorem lkL_101 : mj_lkV RL 101 iX11_cross 3 := ⟨w_1233, w_1234, w_1235, w_81, w_1236, ⟨by decide +kernel, by decide +kernel, by decide +kernel⟩⟩
theorem lkL_102 : mj_lkV RL 102 iX10_apart 4 := ⟨w_786, w_787, w_788, w_72, w_789, ⟨by decide +kernel, by decide +kernel, by decide +kernel⟩⟩
theorem lkL_105 : mj_lkV RL 105 iX11_apart 4 := ⟨w_1237, w_1238, w_1239, w_81, w_1240, ⟨by decide +kernel, by decide +kernel, by decide +kernel⟩⟩
theorem lkL_106 : mj_lkV RL 106 iX10_votes 1 := ⟨w_794, w_795, w_796, w_72, w_797, ⟨by decide +kernel, by decide +kernel, by decide +kernel⟩⟩
theorem lkL_109 : mj_lkV RL 109 iX11_votes 1 := ⟨w_1249, w_1250, w_1251, w_81, w_1252, ⟨by decide +kernel, by decide +kernel, by decide +kernel⟩⟩
theorem lkL_110 : mj_lkV RL 110 iX10_turn 0 := ⟨w_824, w_825, w_826, w_72, w_827, ⟨by decide +kernel, by decide +kernel, by decide +kernel⟩⟩
theorem lkL_113 : mj_lkV RL 113 iX11_turn 0 := ⟨w_1276, w_1277, w_1278, w_81, w_1279, ⟨by decide +kernel, by decide +kernel, by decide +kernel⟩⟩
theorem lkL_114 : mj_lkV RL 114 iX10_seen 2 := ⟨w_833, w_834, w_835, w_72, w_836, ⟨by decide +kernel, by decide +kernel, by decide +kernel⟩⟩
theorem lkL_117 : mj_lkV RL 117 iX11_seen 2 := ⟨w_1280, w_1281, w_1282, w_81, w_1283, ⟨by decide +kernel, by decide +kernel, by decide +kernel⟩⟩
theorem lkL_118 : mj_lkV RL 118 iX10_lies 0 := ⟨w_838, w_839, w_840, w_72, w_841, ⟨by decide +kernel, by decide +kernel, by decide +kernel⟩⟩
theorem lkL_121 : mj_lkV RL 121 iX11_lies 0 := ⟨w_1284, w_1285, w_1286, w_81, w_1287, ⟨by decide +kernel, by decide +kernel, by decide +kernel⟩⟩
theorem lkL_122 : mj_lkV RL 122 iX10_stones 3 := ⟨w_847, w_848, w_849, w_72, w_850, ⟨by decide +kernel, by decide +kernel, by decide +kernel⟩⟩
theorem lkL_125 : mj_lkV RL 125 iX11_stones 3 := ⟨w_1288, w_1289, w_1290, w_81, w_1291, ⟨by decide +kernel, by decide +kernel, by decide +kernel⟩⟩
theorem lkL_126 : mj_lkV RL 126 iX10_note 5 := ⟨w_851, w_852, w_853, w_72, w_854, ⟨by decide +kernel, by decide +kernel, by decide +kernel⟩⟩
theorem lkL_130 : mj_lkV RL 130 iX11_note 5 := ⟨w_1292, w_1293, w_1294, w_81, w_1295, ⟨by decide +kernel, by decide +kernel, by decide +kernel⟩⟩
theorem lkL_131 : mj_lkV RL 131 iX10_voted 5 := ⟨w_860, w_861, w_862, w_72, w_863, ⟨by decide +kernel, by decide +kernel, by decide +kernel⟩⟩
theorem lkL_134 : mj_lkV RL 134 iX11_voted 5 := ⟨w_1296, w_1297, w_1298, w_81, w_1299, ⟨by decide +kernel, by decide +kernel, by decide +kernel⟩⟩
theorem lkL_135 : mj_lkV RL 135 iX10_forget 1 := ⟨w_864, w_865, w_866, w_72, w_867, ⟨by decide +kernel, by decide +kernel, by decide +kernel⟩⟩
theorem lkL_138 : mj_lkV RL 138 iX11_forget 1 := ⟨w_1300, w_1301, w_1302, w_81, w_1303, ⟨by decide +kernel, by decide +kernel, by decide +kernel⟩⟩
theorem lkL_139 : mj_lkV RL 139 iX10_is 1 := ⟨w_869, w_870, w_871, w_72, w_872, ⟨by decide +kernel, by decide +kernel, by decide +kernel⟩⟩
theorem lkL_142 : mj_lkV RL 142 iX11_is 1 := ⟨w_1304, w_1305, w_1306, w_81, w_1307, ⟨by decide +kernel, by decide +kernel, by decide +kernel⟩⟩
theorem lkL_143 : mj_lkV RL 143 iX10_next 1 := ⟨w_886, w_887, w_888, w_72, w_889, ⟨by decide +kernel, by decide +kernel, by decide +kernel⟩⟩
theorem lkL_146 : mj_lkV RL 146 iX11_next 1 := ⟨w_1312, w_1313, w_1314, w_81, w_1315, ⟨by decide +kernel, by decide +kernel, by decide +kernel⟩⟩
theorem lkL_147 : mj_lkV RL 147 iX10_who 1 := ⟨w_894, w_895, w_896, w_72, w_897, ⟨by decide +kernel, by decide +kernel, by decide +kernel⟩⟩
theorem lkL_150 : mj_lkV RL 150 iX11_who 1 := ⟨w_1316, w_1317, w_1318, w_81, w_1319, ⟨by decide +kernel, by decide +kernel, by decide +kernel⟩⟩
theorem lkL_151 : mj_lkV RL 151 iX10_two 2 := ⟨w_903, w_904, w_905, w_72, w_906, ⟨by decide +kernel, by decide +kernel, by decide +kernel⟩⟩
theorem lkL_154 : mj_lkV RL 154 iX11_two 2 := ⟨w_1320, w_1321, w_1322, w_81, w_1323, ⟨by decide +kernel, by decide +kernel, by decide +kernel⟩⟩
theorem lkL_155 : mj_lkV RL 155 iX10_thaw 4 := ⟨w_911, w_912, w_913, w_72, w_914, ⟨by decide +kernel, by decide +kernel, by decide +kernel⟩⟩
theorem lkL_158 : mj_lkV RL 158 iX11_thaw 4 := ⟨w_1328, w_1329, w_1330, w_81, w_1331, ⟨by decide +kernel, by decide +kernel, by decide +kernel⟩⟩
theorem lkL_159 : mj_lkV RL 159 iX10_winters 2 := ⟨w_931, w_932, w_933, w_72, w_934, ⟨by decide +kernel, by decide +kernel, by decide +kernel⟩⟩
theorem lkL_162 : mj_lkV RL 162 iX11_winters 2 := ⟨w_1338, w_1339, w_1340, w_81, w_1341, ⟨by decide +kernel, by decide +kernel, by decide +kernel⟩⟩
theorem lkL_163 : mj_lkV RL 163 iX10_part 1 := ⟨w_941, w_942, w_943, w_72, w_944, ⟨by decide +kernel, by decide +kernel, by decide +kernel⟩⟩
theorem lkL_167 : mj_lkV RL 167 iX11_part 1 := ⟨w_1407, w_1408, w_1409, w_81, w_1410, ⟨by decide +kernel, by decide +kernel, by decide +kernel⟩⟩
theorem lkL_168 : mj_lkV RL 168 iX10_image 1 := ⟨w_945, w_946, w_947, w_72, w_948, ⟨by decide +kernel, by decide +kernel, by decide +kernel⟩⟩
theorem lkL_171 : mj_lkV RL 171 iX11_image 1 := ⟨w_1411, w_1412, w_1413, w_81, w_1414, ⟨by decide +kernel, by decide +kernel, by decide +kernel⟩⟩
theorem lkL_172 : mj_lkV RL 172 iX10_from 1 := ⟨w_949, w_950, w_951, w_72, w_952, ⟨by decide +kernel, by decide +kernel, by decide +kernel⟩⟩
theorem lkL_175 : mj_lkV RL 175 iX11_from 1 := ⟨w_1415, w_1416, w_1417, w_81, w_1418, ⟨by decide +kernel, by decide +kernel, by decide +kernel⟩⟩
theorem lkL_176 : mj_lkV RL 176 iX10_status 1 := ⟨w_953, w_954, w_955, w_72, w_956, ⟨by decide +kernel, by decide +kernel, by decide +kernel⟩⟩
theorem lkL_179 : mj_lkV RL 179 iX11_status 1 := ⟨w_1419, w_1420, w_1421, w_81, w_1422, ⟨by decide +kernel, by decide +kernel, by decide +kernel⟩⟩
theorem lkL_180 : mj_lkV RL 180 iX10_count 1 := ⟨w_957, w_958, w_959, w_72, w_960, ⟨by decide +kernel, by decide +kernel, by decide +kernel⟩⟩
theorem lkL_183 : mj_lkV RL 183 iX11_count 1 := ⟨w_1423, w_1424, w_1425, w_81, w_1426, ⟨by decide +kernel, by decide +kernel, by decide +kernel⟩⟩
theorem lkL_184 : mj_lkV RL 184 iX10_digest 0 := ⟨w_965, w_966, w_967, w_72, w_968, ⟨by decide +kernel, by decide +kernel, by decide +kernel⟩⟩
theorem lkL_188 : mj_lkV RL 188 iX11_digest 0 := ⟨w_1431, w_1432, w_1433, w_81, w_1434, ⟨by decide +kernel, by decide +kernel, by decide +kernel⟩⟩
theorem pfX1_12 {E : mj_E} {X : mj_XT} {cc : ByteArray} {k n pc : Nat} {L : List (Option Value)} {st : List Value} {h : mj_H} {a : Nat} {fs : List Value} {x : Nat} (hX : X.1 = RX1) (hini : ∀ t : mj_T, X.2.2.2.1 t → t.2.2.2.1.name = "<init>") (hd : decode cc pc = .ok (.putfield 12, 3)) (he : h a = some (.inr (0, fs))) (hl : 0 < fs.length) (hal : mj_vl h (.ref x)) (kk : gj E X cc k n (pc + 3) L st (mj_up h a (.inr (0, fs.set 0 (.ref x))))) : gj E X cc k n pc L ((.ref x) :: .ref a :: st) h :=
  gj_putF (T := TX1) (j := 0) (ty := (.object "IceVote$Sheet")) inTX1 tyX1_ok nmX1 (by rw [hX]; exact w_187) rfl (by decide) rfl hini (by rw [hX]; rfl) (by decide +kernel) (fun _ => rfl) (fun _ => rfl) hd he hl hal kk
theorem pfX1_21 {E : mj_E} {X : mj_XT} {cc : ByteArray} {k n pc : Nat} {L : List (Option Value)} {st : List Value} {h : mj_H} {a : Nat} {fs : List Value} {x : Nat} (hX : X.1 = RX1) (hini : ∀ t : mj_T, X.2.2.2.1 t → t.2.2.2.1.name = "<init>") (hd : decode cc pc = .ok (.putfield 21, 3)) (he : h a = some (.inr (0, fs))) (hl : 1 < fs.length) (hal : mj_vl h (.ref x)) (kk : gj E X cc k n (pc + 3) L st (mj_up h a (.inr (0, fs.set 1 (.ref x))))) : gj E X cc k n pc L ((.ref x) :: .ref a :: st) h :=
  gj_putF (T := TX1) (j := 1) (ty := (.object "IceVote$Week")) inTX1 tyX1_ok nmX1 (by rw [hX]; exact w_190) rfl (by decide) rfl hini (by rw [hX]; rfl) (by decide +kernel) (fun _ => rfl) (fun _ => rfl) hd he hl hal kk
theorem pfX1_28 {E : mj_E} {X : mj_XT} {cc : ByteArray} {k n pc : Nat} {L : List (Option Value)} {st : List Value} {h : mj_H} {a : Nat} {fs : List Value} {x : Nat} (hX : X.1 = RX1) (hini : ∀ t : mj_T, X.2.2.2.1 t → t.2.2.2.1.name = "<init>") (hd : decode cc pc = .ok (.putfield 28, 3)) (he : h a = some (.inr (0, fs))) (hl : 2 < fs.length) (hal : mj_vl h (.ref x)) (kk : gj E X cc k n (pc + 3) L st (mj_up h a (.inr (0, fs.set 2 (.ref x))))) : gj E X cc k n pc L ((.ref x) :: .ref a :: st) h :=
  gj_putF (T := TX1) (j := 2) (ty := (.object "IceVote$Voters")) inTX1 tyX1_ok nmX1 (by rw [hX]; exact w_193) rfl (by decide) rfl hini (by rw [hX]; rfl) (by decide +kernel) (fun _ => rfl) (fun _ => rfl) hd he hl hal kk
theorem pfX1_35 {E : mj_E} {X : mj_XT} {cc : ByteArray} {k n pc : Nat} {L : List (Option Value)} {st : List Value} {h : mj_H} {a : Nat} {fs : List Value} {x : Nat} (hX : X.1 = RX1) (hini : ∀ t : mj_T, X.2.2.2.1 t → t.2.2.2.1.name = "<init>") (hd : decode cc pc = .ok (.putfield 35, 3)) (he : h a = some (.inr (0, fs))) (hl : 3 < fs.length) (hal : mj_vl h (.ref x)) (kk : gj E X cc k n (pc + 3) L st (mj_up h a (.inr (0, fs.set 3 (.ref x))))) : gj E X cc k n pc L ((.ref x) :: .ref a :: st) h :=
  gj_putF (T := TX1) (j := 3) (ty := (.object "IceVote$Records")) inTX1 tyX1_ok nmX1 (by rw [hX]; exact w_196) rfl (by decide) rfl hini (by rw [hX]; rfl) (by decide +kernel) (fun _ => rfl) (fun _ => rfl) hd he hl hal kk
theorem pfX1_39 {E : mj_E} {X : mj_XT} {cc : ByteArray} {k n pc : Nat} {L : List (Option Value)} {st : List Value} {h : mj_H} {a : Nat} {fs : List Value} {x : Nat} (hX : X.1 = RX1) (hini : ∀ t : mj_T, X.2.2.2.1 t → t.2.2.2.1.name = "<init>") (hd : decode cc pc = .ok (.putfield 39, 3)) (he : h a = some (.inr (0, fs))) (hl : 4 < fs.length) (hal : mj_vl h (.ref x)) (kk : gj E X cc k n (pc + 3) L st (mj_up h a (.inr (0, fs.set 4 (.ref x))))) : gj E X cc k n pc L ((.ref x) :: .ref a :: st) h :=
  gj_putF (T := TX1) (j := 4) (ty := (.object "IceVote$Records")) inTX1 tyX1_ok nmX1 (by rw [hX]; exact w_198) rfl (by decide) rfl hini (by rw [hX]; rfl) (by decide +kernel) (fun _ => rfl) (fun _ => rfl) hd he hl hal kk
theorem pfX1_45 {E : mj_E} {X : mj_XT} {cc : ByteArray} {k n pc : Nat} {L : List (Option Value)} {st : List Value} {h : mj_H} {a : Nat} {fs : List Value} {x : Nat} (hX : X.1 = RX1) (hini : ∀ t : mj_T, X.2.2.2.1 t → t.2.2.2.1.name = "<init>") (hd : decode cc pc = .ok (.putfield 45, 3)) (he : h a = some (.inr (0, fs))) (hl : 5 < fs.length) (hal : mj_vl h (.ref x)) (kk : gj E X cc k n (pc + 3) L st (mj_up h a (.inr (0, fs.set 5 (.ref x))))) : gj E X cc k n pc L ((.ref x) :: .ref a :: st) h :=
  gj_putF (T := TX1) (j := 5) (ty := (.object "IceVote$Past")) inTX1 tyX1_ok nmX1 (by rw [hX]; exact w_200) rfl (by decide) rfl hini (by rw [hX]; rfl) (by decide +kernel) (fun _ => rfl) (fun _ => rfl) hd he hl hal kk
theorem pfX1_49 {E : mj_E} {X : mj_XT} {cc : ByteArray} {k n pc : Nat} {L : List (Option Value)} {st : List Value} {h : mj_H} {a : Nat} {fs : List Value} {x : Nat} (hX : X.1 = RX1) (hini : ∀ t : mj_T, X.2.2.2.1 t → t.2.2.2.1.name = "<init>") (hd : decode cc pc = .ok (.putfield 49, 3)) (he : h a = some (.inr (0, fs))) (hl : 6 < fs.length) (hal : mj_vl h (.ref x)) (kk : gj E X cc k n (pc + 3) L st (mj_up h a (.inr (0, fs.set 6 (.ref x))))) : gj E X cc k n pc L ((.ref x) :: .ref a :: st) h :=
  gj_putF (T := TX1) (j := 6) (ty := (.array .int)) inTX1 tyX1_ok nmX1 (by rw [hX]; exact w_202) rfl (by decide) rfl hini (by rw [hX]; rfl) (by decide +kernel) (fun _ => rfl) (fun _ => rfl) hd he hl hal kk
theorem pfX1_53 {E : mj_E} {X : mj_XT} {cc : ByteArray} {k n pc : Nat} {L : List (Option Value)} {st : List Value} {h : mj_H} {a : Nat} {fs : List Value} {x : Int32} (hX : X.1 = RX1) (hd : decode cc pc = .ok (.putfield 53, 3)) (he : h a = some (.inr (0, fs))) (hl : 7 < fs.length) (kk : gj E X cc k n (pc + 3) L st (mj_up h a (.inr (0, fs.set 7 (.int x))))) : gj E X cc k n pc L ((.int x) :: .ref a :: st) h :=
  gj_put (T := TX1) (j := 7) (ty := .int) inTX1 tyX1_ok nmX1 (by rw [hX]; exact w_204) rfl (by decide) rfl (by decide +kernel) (fun _ => rfl) (fun _ => rfl) hd he hl trivial kk
theorem gfX1_12 {E : mj_E} {X : mj_XT} {cc : ByteArray} {k n pc : Nat} {L : List (Option Value)} {st : List Value} {h : mj_H} {a : Nat} {fs : List Value} {v : Value} (hX : X.1 = RX1) (hd : decode cc pc = .ok (.getfield 12, 3)) (he : h a = some (.inr (0, fs))) (hv : fs[0]? = some v) (kk : gj E X cc k n (pc + 3) L (v :: st) h) : gj E X cc k n pc L (.ref a :: st) h :=
  gj_get (T := TX1) (j := 0) inTX1 (by rw [hX]; exact w_187) rfl (by decide) hd he hv kk
theorem gfX1_21 {E : mj_E} {X : mj_XT} {cc : ByteArray} {k n pc : Nat} {L : List (Option Value)} {st : List Value} {h : mj_H} {a : Nat} {fs : List Value} {v : Value} (hX : X.1 = RX1) (hd : decode cc pc = .ok (.getfield 21, 3)) (he : h a = some (.inr (0, fs))) (hv : fs[1]? = some v) (kk : gj E X cc k n (pc + 3) L (v :: st) h) : gj E X cc k n pc L (.ref a :: st) h :=
  gj_get (T := TX1) (j := 1) inTX1 (by rw [hX]; exact w_190) rfl (by decide) hd he hv kk
theorem gfX1_28 {E : mj_E} {X : mj_XT} {cc : ByteArray} {k n pc : Nat} {L : List (Option Value)} {st : List Value} {h : mj_H} {a : Nat} {fs : List Value} {v : Value} (hX : X.1 = RX1) (hd : decode cc pc = .ok (.getfield 28, 3)) (he : h a = some (.inr (0, fs))) (hv : fs[2]? = some v) (kk : gj E X cc k n (pc + 3) L (v :: st) h) : gj E X cc k n pc L (.ref a :: st) h :=
  gj_get (T := TX1) (j := 2) inTX1 (by rw [hX]; exact w_193) rfl (by decide) hd he hv kk
theorem gfX1_35 {E : mj_E} {X : mj_XT} {cc : ByteArray} {k n pc : Nat} {L : List (Option Value)} {st : List Value} {h : mj_H} {a : Nat} {fs : List Value} {v : Value} (hX : X.1 = RX1) (hd : decode cc pc = .ok (.getfield 35, 3)) (he : h a = some (.inr (0, fs))) (hv : fs[3]? = some v) (kk : gj E X cc k n (pc + 3) L (v :: st) h) : gj E X cc k n pc L (.ref a :: st) h :=
  gj_get (T := TX1) (j := 3) inTX1 (by rw [hX]; exact w_196) rfl (by decide) hd he hv kk
theorem gfX1_39 {E : mj_E} {X : mj_XT} {cc : ByteArray} {k n pc : Nat} {L : List (Option Value)} {st : List Value} {h : mj_H} {a : Nat} {fs : List Value} {v : Value} (hX : X.1 = RX1) (hd : decode cc pc = .ok (.getfield 39, 3)) (he : h a = some (.inr (0, fs))) (hv : fs[4]? = some v) (kk : gj E X cc k n (pc + 3) L (v :: st) h) : gj E X cc k n pc L (.ref a :: st) h :=
  gj_get (T := TX1) (j := 4) inTX1 (by rw [hX]; exact w_198) rfl (by decide) hd he hv kk
theorem gfX1_45 {E : mj_E} {X : mj_XT} {cc : ByteArray} {k n pc : Nat} {L : List (Option Value)} {st : List Value} {h : mj_H} {a : Nat} {fs : List Value} {v : Value} (hX : X.1 = RX1) (hd : decode cc pc = .ok (.getfield 45, 3)) (he : h a = some (.inr (0, fs))) (hv : fs[5]? = some v) (kk : gj E X cc k n (pc + 3) L (v :: st) h) : gj E X cc k n pc L (.ref a :: st) h :=
  gj_get (T := TX1) (j := 5) inTX1 (by rw [hX]; exact w_200) rfl (by decide) hd he hv kk
theorem gfX1_49 {E : mj_E} {X : mj_XT} {cc : ByteArray} {k n pc : Nat} {L : List (Option Value)} {st : List Value} {h : mj_H} {a : Nat} {fs : List Value} {v : Value} (hX : X.1 = RX1) (hd : decode cc pc = .ok (.getfield 49, 3)) (he : h a = some (.inr (0, fs))) (hv : fs[6]? = some v) (kk : gj E X cc k n (pc + 3) L (v :: st) h) : gj E X cc k n pc L (.ref a :: st) h :=
  gj_get (T := TX1) (j := 6) inTX1 (by rw [hX]; exact w_202) rfl (by decide) hd he hv kk
theorem gfX1_53 {E : mj_E} {X : mj_XT} {cc : ByteArray} {k n pc : Nat} {L : List (Option Value)} {st : List Value} {h : mj_H} {a : Nat} {fs : List Value} {v : Value} (hX : X.1 = RX1) (hd : decode cc pc = .ok (.getfield 53, 3)) (he : h a = some (.inr (0, fs))) (hv : fs[7]? = some v) (kk : gj E X cc k n (pc + 3) L (v :: st) h) : gj E X cc k n pc L (.ref a :: st) h :=
  gj_get (T := TX1) (j := 7) inTX1 (by rw [hX]; exact w_204) rfl (by decide) hd he hv kk
theorem pfX1_85 {E : mj_E} {X : mj_XT} {cc : ByteArray} {k n pc : Nat} {L : List (Option Value)} {st : List Value} {h : mj_H} {a : Nat} {fs : List Value} {x : Int32} (hX : X.1 = RX1) (hd : decode cc pc = .ok (.putfield 85, 3)) (he : h a = some (.inr (5, fs))) (hl : 3 < fs.length) (kk : gj E X cc k n (pc + 3) L st (mj_up h a (.inr (5, fs.set 3 (.int x))))) : gj E X cc k n pc L ((.int x) :: .ref a :: st) h :=
  gj_put (T := TX7) (j := 3) (ty := .int) inTX7 tyX7_ok nmX7 (by rw [hX]; exact w_145) rfl (by decide) rfl (by decide +kernel) (fun _ => rfl) (fun _ => rfl) hd he hl trivial kk
theorem pfX2_9 {E : mj_E} {X : mj_XT} {cc : ByteArray} {k n pc : Nat} {L : List (Option Value)} {st : List Value} {h : mj_H} {a : Nat} {fs : List Value} {x : Nat} (hX : X.1 = RX2) (hini : ∀ t : mj_T, X.2.2.2.1 t → t.2.2.2.1.name = "<init>") (hd : decode cc pc = .ok (.putfield 9, 3)) (he : h a = some (.inr (1, fs))) (hl : 0 < fs.length) (hal : mj_vl h (.ref x)) (kk : gj E X cc k n (pc + 3) L st (mj_up h a (.inr (1, fs.set 0 (.ref x))))) : gj E X cc k n pc L ((.ref x) :: .ref a :: st) h :=
  gj_putF (T := TX2) (j := 0) (ty := (.array .int)) inTX2 tyX2_ok nmX2 (by rw [hX]; exact w_176) rfl (by decide) rfl hini (by rw [hX]; rfl) (by decide +kernel) (fun _ => rfl) (fun _ => rfl) hd he hl hal kk
theorem pfX2_15 {E : mj_E} {X : mj_XT} {cc : ByteArray} {k n pc : Nat} {L : List (Option Value)} {st : List Value} {h : mj_H} {a : Nat} {fs : List Value} {x : Nat} (hX : X.1 = RX2) (hini : ∀ t : mj_T, X.2.2.2.1 t → t.2.2.2.1.name = "<init>") (hd : decode cc pc = .ok (.putfield 15, 3)) (he : h a = some (.inr (1, fs))) (hl : 1 < fs.length) (hal : mj_vl h (.ref x)) (kk : gj E X cc k n (pc + 3) L st (mj_up h a (.inr (1, fs.set 1 (.ref x))))) : gj E X cc k n pc L ((.ref x) :: .ref a :: st) h :=
  gj_putF (T := TX2) (j := 1) (ty := (.array .int)) inTX2 tyX2_ok nmX2 (by rw [hX]; exact w_177) rfl (by decide) rfl hini (by rw [hX]; rfl) (by decide +kernel) (fun _ => rfl) (fun _ => rfl) hd he hl hal kk
theorem pfX2_18 {E : mj_E} {X : mj_XT} {cc : ByteArray} {k n pc : Nat} {L : List (Option Value)} {st : List Value} {h : mj_H} {a : Nat} {fs : List Value} {x : Int32} (hX : X.1 = RX2) (hd : decode cc pc = .ok (.putfield 18, 3)) (he : h a = some (.inr (1, fs))) (hl : 2 < fs.length) (kk : gj E X cc k n (pc + 3) L st (mj_up h a (.inr (1, fs.set 2 (.int x))))) : gj E X cc k n pc L ((.int x) :: .ref a :: st) h :=
  gj_put (T := TX2) (j := 2) (ty := .int) inTX2 tyX2_ok nmX2 (by rw [hX]; exact w_178) rfl (by decide) rfl (by decide +kernel) (fun _ => rfl) (fun _ => rfl) hd he hl trivial kk
theorem gfX2_9 {E : mj_E} {X : mj_XT} {cc : ByteArray} {k n pc : Nat} {L : List (Option Value)} {st : List Value} {h : mj_H} {a : Nat} {fs : List Value} {v : Value} (hX : X.1 = RX2) (hd : decode cc pc = .ok (.getfield 9, 3)) (he : h a = some (.inr (1, fs))) (hv : fs[0]? = some v) (kk : gj E X cc k n (pc + 3) L (v :: st) h) : gj E X cc k n pc L (.ref a :: st) h :=
  gj_get (T := TX2) (j := 0) inTX2 (by rw [hX]; exact w_176) rfl (by decide) hd he hv kk
theorem gfX2_15 {E : mj_E} {X : mj_XT} {cc : ByteArray} {k n pc : Nat} {L : List (Option Value)} {st : List Value} {h : mj_H} {a : Nat} {fs : List Value} {v : Value} (hX : X.1 = RX2) (hd : decode cc pc = .ok (.getfield 15, 3)) (he : h a = some (.inr (1, fs))) (hv : fs[1]? = some v) (kk : gj E X cc k n (pc + 3) L (v :: st) h) : gj E X cc k n pc L (.ref a :: st) h :=
  gj_get (T := TX2) (j := 1) inTX2 (by rw [hX]; exact w_177) rfl (by decide) hd he hv kk
theorem gfX2_18 {E : mj_E} {X : mj_XT} {cc : ByteArray} {k n pc : Nat} {L : List (Option Value)} {st : List Value} {h : mj_H} {a : Nat} {fs : List Value} {v : Value} (hX : X.1 = RX2) (hd : decode cc pc = .ok (.getfield 18, 3)) (he : h a = some (.inr (1, fs))) (hv : fs[2]? = some v) (kk : gj E X cc k n (pc + 3) L (v :: st) h) : gj E X cc k n pc L (.ref a :: st) h :=
  gj_get (T := TX2) (j := 2) inTX2 (by rw [hX]; exact w_178) rfl (by decide) hd he hv kk
theorem gfX2_35 {E : mj_E} {X : mj_XT} {cc : ByteArray} {k n pc : Nat} {L : List (Option Value)} {st : List Value} {h : mj_H} {a : Nat} {fs : List Value} {v : Value} (hX : X.1 = RX2) (hd : decode cc pc = .ok (.getfield 35, 3)) (he : h a = some (.inr (3, fs))) (hv : fs[1]? = some v) (kk : gj E X cc k n (pc + 3) L (v :: st) h) : gj E X cc k n pc L (.ref a :: st) h :=
  gj_get (T := TX4) (j := 1) inTX4 (by rw [hX]; exact w_114) rfl (by decide) hd he hv kk
theorem pfX3_9 {E : mj_E} {X : mj_XT} {cc : ByteArray} {k n pc : Nat} {L : List (Option Value)} {st : List Value} {h : mj_H} {a : Nat} {fs : List Value} {x : Nat} (hX : X.1 = RX3) (hini : ∀ t : mj_T, X.2.2.2.1 t → t.2.2.2.1.name = "<init>") (hd : decode cc pc = .ok (.putfield 9, 3)) (he : h a = some (.inr (2, fs))) (hl : 0 < fs.length) (hal : mj_vl h (.ref x)) (kk : gj E X cc k n (pc + 3) L st (mj_up h a (.inr (2, fs.set 0 (.ref x))))) : gj E X cc k n pc L ((.ref x) :: .ref a :: st) h :=
  gj_putF (T := TX3) (j := 0) (ty := (.array .int)) inTX3 tyX3_ok nmX3 (by rw [hX]; exact w_162) rfl (by decide) rfl hini (by rw [hX]; rfl) (by decide +kernel) (fun _ => rfl) (fun _ => rfl) hd he hl hal kk
theorem pfX3_15 {E : mj_E} {X : mj_XT} {cc : ByteArray} {k n pc : Nat} {L : List (Option Value)} {st : List Value} {h : mj_H} {a : Nat} {fs : List Value} {x : Int32} (hX : X.1 = RX3) (hd : decode cc pc = .ok (.putfield 15, 3)) (he : h a = some (.inr (2, fs))) (hl : 1 < fs.length) (kk : gj E X cc k n (pc + 3) L st (mj_up h a (.inr (2, fs.set 1 (.int x))))) : gj E X cc k n pc L ((.int x) :: .ref a :: st) h :=
  gj_put (T := TX3) (j := 1) (ty := .int) inTX3 tyX3_ok nmX3 (by rw [hX]; exact w_163) rfl (by decide) rfl (by decide +kernel) (fun _ => rfl) (fun _ => rfl) hd he hl trivial kk
theorem gfX3_9 {E : mj_E} {X : mj_XT} {cc : ByteArray} {k n pc : Nat} {L : List (Option Value)} {st : List Value} {h : mj_H} {a : Nat} {fs : List Value} {v : Value} (hX : X.1 = RX3) (hd : decode cc pc = .ok (.getfield 9, 3)) (he : h a = some (.inr (2, fs))) (hv : fs[0]? = some v) (kk : gj E X cc k n (pc + 3) L (v :: st) h) : gj E X cc k n pc L (.ref a :: st) h :=
  gj_get (T := TX3) (j := 0) inTX3 (by rw [hX]; exact w_162) rfl (by decide) hd he hv kk
theorem gfX3_15 {E : mj_E} {X : mj_XT} {cc : ByteArray} {k n pc : Nat} {L : List (Option Value)} {st : List Value} {h : mj_H} {a : Nat} {fs : List Value} {v : Value} (hX : X.1 = RX3) (hd : decode cc pc = .ok (.getfield 15, 3)) (he : h a = some (.inr (2, fs))) (hv : fs[1]? = some v) (kk : gj E X cc k n (pc + 3) L (v :: st) h) : gj E X cc k n pc L (.ref a :: st) h :=
  gj_get (T := TX3) (j := 1) inTX3 (by rw [hX]; exact w_163) rfl (by decide) hd he hv kk
theorem pfX4_9 {E : mj_E} {X : mj_XT} {cc : ByteArray} {k n pc : Nat} {L : List (Option Value)} {st : List Value} {h : mj_H} {a : Nat} {fs : List Value} {x : Nat} (hX : X.1 = RX4) (hini : ∀ t : mj_T, X.2.2.2.1 t → t.2.2.2.1.name = "<init>") (hd : decode cc pc = .ok (.putfield 9, 3)) (he : h a = some (.inr (3, fs))) (hl : 0 < fs.length) (hal : mj_vl h (.ref x)) (kk : gj E X cc k n (pc + 3) L st (mj_up h a (.inr (3, fs.set 0 (.ref x))))) : gj E X cc k n pc L ((.ref x) :: .ref a :: st) h :=
  gj_putF (T := TX4) (j := 0) (ty := (.array .int)) inTX4 tyX4_ok nmX4 (by rw [hX]; exact w_112) rfl (by decide) rfl hini (by rw [hX]; rfl) (by decide +kernel) (fun _ => rfl) (fun _ => rfl) hd he hl hal kk
theorem pfX4_15 {E : mj_E} {X : mj_XT} {cc : ByteArray} {k n pc : Nat} {L : List (Option Value)} {st : List Value} {h : mj_H} {a : Nat} {fs : List Value} {x : Nat} (hX : X.1 = RX4) (hini : ∀ t : mj_T, X.2.2.2.1 t → t.2.2.2.1.name = "<init>") (hd : decode cc pc = .ok (.putfield 15, 3)) (he : h a = some (.inr (3, fs))) (hl : 1 < fs.length) (hal : mj_vl h (.ref x)) (kk : gj E X cc k n (pc + 3) L st (mj_up h a (.inr (3, fs.set 1 (.ref x))))) : gj E X cc k n pc L ((.ref x) :: .ref a :: st) h :=
  gj_putF (T := TX4) (j := 1) (ty := (.array .int)) inTX4 tyX4_ok nmX4 (by rw [hX]; exact w_113) rfl (by decide) rfl hini (by rw [hX]; rfl) (by decide +kernel) (fun _ => rfl) (fun _ => rfl) hd he hl hal kk
theorem gfX4_9 {E : mj_E} {X : mj_XT} {cc : ByteArray} {k n pc : Nat} {L : List (Option Value)} {st : List Value} {h : mj_H} {a : Nat} {fs : List Value} {v : Value} (hX : X.1 = RX4) (hd : decode cc pc = .ok (.getfield 9, 3)) (he : h a = some (.inr (3, fs))) (hv : fs[0]? = some v) (kk : gj E X cc k n (pc + 3) L (v :: st) h) : gj E X cc k n pc L (.ref a :: st) h :=
  gj_get (T := TX4) (j := 0) inTX4 (by rw [hX]; exact w_112) rfl (by decide) hd he hv kk
theorem gfX4_15 {E : mj_E} {X : mj_XT} {cc : ByteArray} {k n pc : Nat} {L : List (Option Value)} {st : List Value} {h : mj_H} {a : Nat} {fs : List Value} {v : Value} (hX : X.1 = RX4) (hd : decode cc pc = .ok (.getfield 15, 3)) (he : h a = some (.inr (3, fs))) (hv : fs[1]? = some v) (kk : gj E X cc k n (pc + 3) L (v :: st) h) : gj E X cc k n pc L (.ref a :: st) h :=
  gj_get (T := TX4) (j := 1) inTX4 (by rw [hX]; exact w_113) rfl (by decide) hd he hv kk
theorem pfX5_9 {E : mj_E} {X : mj_XT} {cc : ByteArray} {k n pc : Nat} {L : List (Option Value)} {st : List Value} {h : mj_H} {a : Nat} {fs : List Value} {x : Nat} (hX : X.1 = RX5) (hini : ∀ t : mj_T, X.2.2.2.1 t → t.2.2.2.1.name = "<init>") (hd : decode cc pc = .ok (.putfield 9, 3)) (he : h a = some (.inr (4, fs))) (hl : 0 < fs.length) (hal : mj_vl h (.ref x)) (kk : gj E X cc k n (pc + 3) L st (mj_up h a (.inr (4, fs.set 0 (.ref x))))) : gj E X cc k n pc L ((.ref x) :: .ref a :: st) h :=
  gj_putF (T := TX5) (j := 0) (ty := (.array .int)) inTX5 tyX5_ok nmX5 (by rw [hX]; exact w_245) rfl (by decide) rfl hini (by rw [hX]; rfl) (by decide +kernel) (fun _ => rfl) (fun _ => rfl) hd he hl hal kk
theorem pfX5_15 {E : mj_E} {X : mj_XT} {cc : ByteArray} {k n pc : Nat} {L : List (Option Value)} {st : List Value} {h : mj_H} {a : Nat} {fs : List Value} {x : Int32} (hX : X.1 = RX5) (hd : decode cc pc = .ok (.putfield 15, 3)) (he : h a = some (.inr (4, fs))) (hl : 1 < fs.length) (kk : gj E X cc k n (pc + 3) L st (mj_up h a (.inr (4, fs.set 1 (.int x))))) : gj E X cc k n pc L ((.int x) :: .ref a :: st) h :=
  gj_put (T := TX5) (j := 1) (ty := .int) inTX5 tyX5_ok nmX5 (by rw [hX]; exact w_246) rfl (by decide) rfl (by decide +kernel) (fun _ => rfl) (fun _ => rfl) hd he hl trivial kk
theorem pfX5_19 {E : mj_E} {X : mj_XT} {cc : ByteArray} {k n pc : Nat} {L : List (Option Value)} {st : List Value} {h : mj_H} {a : Nat} {fs : List Value} {x : Nat} (hX : X.1 = RX5) (hini : ∀ t : mj_T, X.2.2.2.1 t → t.2.2.2.1.name = "<init>") (hd : decode cc pc = .ok (.putfield 19, 3)) (he : h a = some (.inr (4, fs))) (hl : 2 < fs.length) (hal : mj_vl h (.ref x)) (kk : gj E X cc k n (pc + 3) L st (mj_up h a (.inr (4, fs.set 2 (.ref x))))) : gj E X cc k n pc L ((.ref x) :: .ref a :: st) h :=
  gj_putF (T := TX5) (j := 2) (ty := (.array .int)) inTX5 tyX5_ok nmX5 (by rw [hX]; exact w_248) rfl (by decide) rfl hini (by rw [hX]; rfl) (by decide +kernel) (fun _ => rfl) (fun _ => rfl) hd he hl hal kk
theorem pfX5_22 {E : mj_E} {X : mj_XT} {cc : ByteArray} {k n pc : Nat} {L : List (Option Value)} {st : List Value} {h : mj_H} {a : Nat} {fs : List Value} {x : Nat} (hX : X.1 = RX5) (hini : ∀ t : mj_T, X.2.2.2.1 t → t.2.2.2.1.name = "<init>") (hd : decode cc pc = .ok (.putfield 22, 3)) (he : h a = some (.inr (4, fs))) (hl : 3 < fs.length) (hal : mj_vl h (.ref x)) (kk : gj E X cc k n (pc + 3) L st (mj_up h a (.inr (4, fs.set 3 (.ref x))))) : gj E X cc k n pc L ((.ref x) :: .ref a :: st) h :=
  gj_putF (T := TX5) (j := 3) (ty := (.array .int)) inTX5 tyX5_ok nmX5 (by rw [hX]; exact w_249) rfl (by decide) rfl hini (by rw [hX]; rfl) (by decide +kernel) (fun _ => rfl) (fun _ => rfl) hd he hl hal kk
theorem pfX5_25 {E : mj_E} {X : mj_XT} {cc : ByteArray} {k n pc : Nat} {L : List (Option Value)} {st : List Value} {h : mj_H} {a : Nat} {fs : List Value} {x : Int32} (hX : X.1 = RX5) (hd : decode cc pc = .ok (.putfield 25, 3)) (he : h a = some (.inr (4, fs))) (hl : 4 < fs.length) (kk : gj E X cc k n (pc + 3) L st (mj_up h a (.inr (4, fs.set 4 (.int x))))) : gj E X cc k n pc L ((.int x) :: .ref a :: st) h :=
  gj_put (T := TX5) (j := 4) (ty := .int) inTX5 tyX5_ok nmX5 (by rw [hX]; exact w_250) rfl (by decide) rfl (by decide +kernel) (fun _ => rfl) (fun _ => rfl) hd he hl trivial kk
theorem pfX5_28 {E : mj_E} {X : mj_XT} {cc : ByteArray} {k n pc : Nat} {L : List (Option Value)} {st : List Value} {h : mj_H} {a : Nat} {fs : List Value} {x : Int32} (hX : X.1 = RX5) (hd : decode cc pc = .ok (.putfield 28, 3)) (he : h a = some (.inr (4, fs))) (hl : 5 < fs.length) (kk : gj E X cc k n (pc + 3) L st (mj_up h a (.inr (4, fs.set 5 (.int x))))) : gj E X cc k n pc L ((.int x) :: .ref a :: st) h :=
  gj_put (T := TX5) (j := 5) (ty := .int) inTX5 tyX5_ok nmX5 (by rw [hX]; exact w_251) rfl (by decide) rfl (by decide +kernel) (fun _ => rfl) (fun _ => rfl) hd he hl trivial kk
theorem gfX5_15 {E : mj_E} {X : mj_XT} {cc : ByteArray} {k n pc : Nat} {L : List (Option Value)} {st : List Value} {h : mj_H} {a : Nat} {fs : List Value} {v : Value} (hX : X.1 = RX5) (hd : decode cc pc = .ok (.getfield 15, 3)) (he : h a = some (.inr (4, fs))) (hv : fs[1]? = some v) (kk : gj E X cc k n (pc + 3) L (v :: st) h) : gj E X cc k n pc L (.ref a :: st) h :=
  gj_get (T := TX5) (j := 1) inTX5 (by rw [hX]; exact w_246) rfl (by decide) hd he hv kk
theorem gfX5_9 {E : mj_E} {X : mj_XT} {cc : ByteArray} {k n pc : Nat} {L : List (Option Value)} {st : List Value} {h : mj_H} {a : Nat} {fs : List Value} {v : Value} (hX : X.1 = RX5) (hd : decode cc pc = .ok (.getfield 9, 3)) (he : h a = some (.inr (4, fs))) (hv : fs[0]? = some v) (kk : gj E X cc k n (pc + 3) L (v :: st) h) : gj E X cc k n pc L (.ref a :: st) h :=
  gj_get (T := TX5) (j := 0) inTX5 (by rw [hX]; exact w_245) rfl (by decide) hd he hv kk
theorem gfX5_19 {E : mj_E} {X : mj_XT} {cc : ByteArray} {k n pc : Nat} {L : List (Option Value)} {st : List Value} {h : mj_H} {a : Nat} {fs : List Value} {v : Value} (hX : X.1 = RX5) (hd : decode cc pc = .ok (.getfield 19, 3)) (he : h a = some (.inr (4, fs))) (hv : fs[2]? = some v) (kk : gj E X cc k n (pc + 3) L (v :: st) h) : gj E X cc k n pc L (.ref a :: st) h :=
  gj_get (T := TX5) (j := 2) inTX5 (by rw [hX]; exact w_248) rfl (by decide) hd he hv kk
theorem gfX5_28 {E : mj_E} {X : mj_XT} {cc : ByteArray} {k n pc : Nat} {L : List (Option Value)} {st : List Value} {h : mj_H} {a : Nat} {fs : List Value} {v : Value} (hX : X.1 = RX5) (hd : decode cc pc = .ok (.getfield 28, 3)) (he : h a = some (.inr (4, fs))) (hv : fs[5]? = some v) (kk : gj E X cc k n (pc + 3) L (v :: st) h) : gj E X cc k n pc L (.ref a :: st) h :=
  gj_get (T := TX5) (j := 5) inTX5 (by rw [hX]; exact w_251) rfl (by decide) hd he hv kk
theorem gfX5_25 {E : mj_E} {X : mj_XT} {cc : ByteArray} {k n pc : Nat} {L : List (Option Value)} {st : List Value} {h : mj_H} {a : Nat} {fs : List Value} {v : Value} (hX : X.1 = RX5) (hd : decode cc pc = .ok (.getfield 25, 3)) (he : h a = some (.inr (4, fs))) (hv : fs[4]? = some v) (kk : gj E X cc k n (pc + 3) L (v :: st) h) : gj E X cc k n pc L (.ref a :: st) h :=
  gj_get (T := TX5) (j := 4) inTX5 (by rw [hX]; exact w_250) rfl (by decide) hd he hv kk
theorem gfX5_22 {E : mj_E} {X : mj_XT} {cc : ByteArray} {k n pc : Nat} {L : List (Option Value)} {st : List Value} {h : mj_H} {a : Nat} {fs : List Value} {v : Value} (hX : X.1 = RX5) (hd : decode cc pc = .ok (.getfield 22, 3)) (he : h a = some (.inr (4, fs))) (hv : fs[3]? = some v) (kk : gj E X cc k n (pc + 3) L (v :: st) h) : gj E X cc k n pc L (.ref a :: st) h :=
  gj_get (T := TX5) (j := 3) inTX5 (by rw [hX]; exact w_249) rfl (by decide) hd he hv kk
theorem gfX5_63 {E : mj_E} {X : mj_XT} {cc : ByteArray} {k n pc : Nat} {L : List (Option Value)} {st : List Value} {h : mj_H} {a : Nat} {fs : List Value} {v : Value} (hX : X.1 = RX5) (hd : decode cc pc = .ok (.getfield 63, 3)) (he : h a = some (.inr (0, fs))) (hv : fs[0]? = some v) (kk : gj E X cc k n (pc + 3) L (v :: st) h) : gj E X cc k n pc L (.ref a :: st) h :=
  gj_get (T := TX1) (j := 0) inTX1 (by rw [hX]; exact w_189) rfl (by decide) hd he hv kk
theorem gfX5_71 {E : mj_E} {X : mj_XT} {cc : ByteArray} {k n pc : Nat} {L : List (Option Value)} {st : List Value} {h : mj_H} {a : Nat} {fs : List Value} {v : Value} (hX : X.1 = RX5) (hd : decode cc pc = .ok (.getfield 71, 3)) (he : h a = some (.inr (0, fs))) (hv : fs[1]? = some v) (kk : gj E X cc k n (pc + 3) L (v :: st) h) : gj E X cc k n pc L (.ref a :: st) h :=
  gj_get (T := TX1) (j := 1) inTX1 (by rw [hX]; exact w_192) rfl (by decide) hd he hv kk
theorem gfX5_79 {E : mj_E} {X : mj_XT} {cc : ByteArray} {k n pc : Nat} {L : List (Option Value)} {st : List Value} {h : mj_H} {a : Nat} {fs : List Value} {v : Value} (hX : X.1 = RX5) (hd : decode cc pc = .ok (.getfield 79, 3)) (he : h a = some (.inr (0, fs))) (hv : fs[2]? = some v) (kk : gj E X cc k n (pc + 3) L (v :: st) h) : gj E X cc k n pc L (.ref a :: st) h :=
  gj_get (T := TX1) (j := 2) inTX1 (by rw [hX]; exact w_195) rfl (by decide) hd he hv kk
theorem gfX5_83 {E : mj_E} {X : mj_XT} {cc : ByteArray} {k n pc : Nat} {L : List (Option Value)} {st : List Value} {h : mj_H} {a : Nat} {fs : List Value} {v : Value} (hX : X.1 = RX5) (hd : decode cc pc = .ok (.getfield 83, 3)) (he : h a = some (.inr (5, fs))) (hv : fs[3]? = some v) (kk : gj E X cc k n (pc + 3) L (v :: st) h) : gj E X cc k n pc L (.ref a :: st) h :=
  gj_get (T := TX7) (j := 3) inTX7 (by rw [hX]; exact w_146) rfl (by decide) hd he hv kk
theorem pfX7_9 {E : mj_E} {X : mj_XT} {cc : ByteArray} {k n pc : Nat} {L : List (Option Value)} {st : List Value} {h : mj_H} {a : Nat} {fs : List Value} {x : Nat} (hX : X.1 = RX7) (hini : ∀ t : mj_T, X.2.2.2.1 t → t.2.2.2.1.name = "<init>") (hd : decode cc pc = .ok (.putfield 9, 3)) (he : h a = some (.inr (5, fs))) (hl : 0 < fs.length) (hal : mj_vl h (.ref x)) (kk : gj E X cc k n (pc + 3) L st (mj_up h a (.inr (5, fs.set 0 (.ref x))))) : gj E X cc k n pc L ((.ref x) :: .ref a :: st) h :=
  gj_putF (T := TX7) (j := 0) (ty := (.array .int)) inTX7 tyX7_ok nmX7 (by rw [hX]; exact w_140) rfl (by decide) rfl hini (by rw [hX]; rfl) (by decide +kernel) (fun _ => rfl) (fun _ => rfl) hd he hl hal kk
theorem pfX7_15 {E : mj_E} {X : mj_XT} {cc : ByteArray} {k n pc : Nat} {L : List (Option Value)} {st : List Value} {h : mj_H} {a : Nat} {fs : List Value} {x : Nat} (hX : X.1 = RX7) (hini : ∀ t : mj_T, X.2.2.2.1 t → t.2.2.2.1.name = "<init>") (hd : decode cc pc = .ok (.putfield 15, 3)) (he : h a = some (.inr (5, fs))) (hl : 1 < fs.length) (hal : mj_vl h (.ref x)) (kk : gj E X cc k n (pc + 3) L st (mj_up h a (.inr (5, fs.set 1 (.ref x))))) : gj E X cc k n pc L ((.ref x) :: .ref a :: st) h :=
  gj_putF (T := TX7) (j := 1) (ty := (.array .int)) inTX7 tyX7_ok nmX7 (by rw [hX]; exact w_141) rfl (by decide) rfl hini (by rw [hX]; rfl) (by decide +kernel) (fun _ => rfl) (fun _ => rfl) hd he hl hal kk
theorem pfX7_18 {E : mj_E} {X : mj_XT} {cc : ByteArray} {k n pc : Nat} {L : List (Option Value)} {st : List Value} {h : mj_H} {a : Nat} {fs : List Value} {x : Nat} (hX : X.1 = RX7) (hini : ∀ t : mj_T, X.2.2.2.1 t → t.2.2.2.1.name = "<init>") (hd : decode cc pc = .ok (.putfield 18, 3)) (he : h a = some (.inr (5, fs))) (hl : 2 < fs.length) (hal : mj_vl h (.ref x)) (kk : gj E X cc k n (pc + 3) L st (mj_up h a (.inr (5, fs.set 2 (.ref x))))) : gj E X cc k n pc L ((.ref x) :: .ref a :: st) h :=
  gj_putF (T := TX7) (j := 2) (ty := (.array .int)) inTX7 tyX7_ok nmX7 (by rw [hX]; exact w_142) rfl (by decide) rfl hini (by rw [hX]; rfl) (by decide +kernel) (fun _ => rfl) (fun _ => rfl) hd he hl hal kk
theorem pfX7_21 {E : mj_E} {X : mj_XT} {cc : ByteArray} {k n pc : Nat} {L : List (Option Value)} {st : List Value} {h : mj_H} {a : Nat} {fs : List Value} {x : Int32} (hX : X.1 = RX7) (hd : decode cc pc = .ok (.putfield 21, 3)) (he : h a = some (.inr (5, fs))) (hl : 3 < fs.length) (kk : gj E X cc k n (pc + 3) L st (mj_up h a (.inr (5, fs.set 3 (.int x))))) : gj E X cc k n pc L ((.int x) :: .ref a :: st) h :=
  gj_put (T := TX7) (j := 3) (ty := .int) inTX7 tyX7_ok nmX7 (by rw [hX]; exact w_143) rfl (by decide) rfl (by decide +kernel) (fun _ => rfl) (fun _ => rfl) hd he hl trivial kk
theorem gfX7_9 {E : mj_E} {X : mj_XT} {cc : ByteArray} {k n pc : Nat} {L : List (Option Value)} {st : List Value} {h : mj_H} {a : Nat} {fs : List Value} {v : Value} (hX : X.1 = RX7) (hd : decode cc pc = .ok (.getfield 9, 3)) (he : h a = some (.inr (5, fs))) (hv : fs[0]? = some v) (kk : gj E X cc k n (pc + 3) L (v :: st) h) : gj E X cc k n pc L (.ref a :: st) h :=
  gj_get (T := TX7) (j := 0) inTX7 (by rw [hX]; exact w_140) rfl (by decide) hd he hv kk
theorem gfX7_15 {E : mj_E} {X : mj_XT} {cc : ByteArray} {k n pc : Nat} {L : List (Option Value)} {st : List Value} {h : mj_H} {a : Nat} {fs : List Value} {v : Value} (hX : X.1 = RX7) (hd : decode cc pc = .ok (.getfield 15, 3)) (he : h a = some (.inr (5, fs))) (hv : fs[1]? = some v) (kk : gj E X cc k n (pc + 3) L (v :: st) h) : gj E X cc k n pc L (.ref a :: st) h :=
  gj_get (T := TX7) (j := 1) inTX7 (by rw [hX]; exact w_141) rfl (by decide) hd he hv kk
theorem gfX7_18 {E : mj_E} {X : mj_XT} {cc : ByteArray} {k n pc : Nat} {L : List (Option Value)} {st : List Value} {h : mj_H} {a : Nat} {fs : List Value} {v : Value} (hX : X.1 = RX7) (hd : decode cc pc = .ok (.getfield 18, 3)) (he : h a = some (.inr (5, fs))) (hv : fs[2]? = some v) (kk : gj E X cc k n (pc + 3) L (v :: st) h) : gj E X cc k n pc L (.ref a :: st) h :=
  gj_get (T := TX7) (j := 2) inTX7 (by rw [hX]; exact w_142) rfl (by decide) hd he hv kk
theorem gfX7_21 {E : mj_E} {X : mj_XT} {cc : ByteArray} {k n pc : Nat} {L : List (Option Value)} {st : List Value} {h : mj_H} {a : Nat} {fs : List Value} {v : Value} (hX : X.1 = RX7) (hd : decode cc pc = .ok (.getfield 21, 3)) (he : h a = some (.inr (5, fs))) (hv : fs[3]? = some v) (kk : gj E X cc k n (pc + 3) L (v :: st) h) : gj E X cc k n pc L (.ref a :: st) h :=
  gj_get (T := TX7) (j := 3) inTX7 (by rw [hX]; exact w_143) rfl (by decide) hd he hv kk
theorem pfX8_11 {E : mj_E} {X : mj_XT} {cc : ByteArray} {k n pc : Nat} {L : List (Option Value)} {st : List Value} {h : mj_H} {a : Nat} {fs : List Value} {x : Nat} (hX : X.1 = RX8) (hini : ∀ t : mj_T, X.2.2.2.1 t → t.2.2.2.1.name = "<init>") (hd : decode cc pc = .ok (.putfield 11, 3)) (he : h a = some (.inr (6, fs))) (hl : 0 < fs.length) (hal : mj_vl h (.ref x)) (kk : gj E X cc k n (pc + 3) L st (mj_up h a (.inr (6, fs.set 0 (.ref x))))) : gj E X cc k n pc L ((.ref x) :: .ref a :: st) h :=
  gj_putF (T := TX8) (j := 0) (ty := (.array .int)) inTX8 tyX8_ok nmX8 (by rw [hX]; exact w_232) rfl (by decide) rfl hini (by rw [hX]; rfl) (by decide +kernel) (fun _ => rfl) (fun _ => rfl) hd he hl hal kk
theorem pfX8_15 {E : mj_E} {X : mj_XT} {cc : ByteArray} {k n pc : Nat} {L : List (Option Value)} {st : List Value} {h : mj_H} {a : Nat} {fs : List Value} {x : Nat} (hX : X.1 = RX8) (hini : ∀ t : mj_T, X.2.2.2.1 t → t.2.2.2.1.name = "<init>") (hd : decode cc pc = .ok (.putfield 15, 3)) (he : h a = some (.inr (6, fs))) (hl : 1 < fs.length) (hal : mj_vl h (.ref x)) (kk : gj E X cc k n (pc + 3) L st (mj_up h a (.inr (6, fs.set 1 (.ref x))))) : gj E X cc k n pc L ((.ref x) :: .ref a :: st) h :=
  gj_putF (T := TX8) (j := 1) (ty := (.array .int)) inTX8 tyX8_ok nmX8 (by rw [hX]; exact w_233) rfl (by decide) rfl hini (by rw [hX]; rfl) (by decide +kernel) (fun _ => rfl) (fun _ => rfl) hd he hl hal kk
theorem gfX8_15 {E : mj_E} {X : mj_XT} {cc : ByteArray} {k n pc : Nat} {L : List (Option Value)} {st : List Value} {h : mj_H} {a : Nat} {fs : List Value} {v : Value} (hX : X.1 = RX8) (hd : decode cc pc = .ok (.getfield 15, 3)) (he : h a = some (.inr (6, fs))) (hv : fs[1]? = some v) (kk : gj E X cc k n (pc + 3) L (v :: st) h) : gj E X cc k n pc L (.ref a :: st) h :=
  gj_get (T := TX8) (j := 1) inTX8 (by rw [hX]; exact w_233) rfl (by decide) hd he hv kk
theorem gfX8_11 {E : mj_E} {X : mj_XT} {cc : ByteArray} {k n pc : Nat} {L : List (Option Value)} {st : List Value} {h : mj_H} {a : Nat} {fs : List Value} {v : Value} (hX : X.1 = RX8) (hd : decode cc pc = .ok (.getfield 11, 3)) (he : h a = some (.inr (6, fs))) (hv : fs[0]? = some v) (kk : gj E X cc k n (pc + 3) L (v :: st) h) : gj E X cc k n pc L (.ref a :: st) h :=
  gj_get (T := TX8) (j := 0) inTX8 (by rw [hX]; exact w_232) rfl (by decide) hd he hv kk
theorem pfX9_9 {E : mj_E} {X : mj_XT} {cc : ByteArray} {k n pc : Nat} {L : List (Option Value)} {st : List Value} {h : mj_H} {a : Nat} {fs : List Value} {x : Nat} (hX : X.1 = RX9) (hini : ∀ t : mj_T, X.2.2.2.1 t → t.2.2.2.1.name = "<init>") (hd : decode cc pc = .ok (.putfield 9, 3)) (he : h a = some (.inr (7, fs))) (hl : 0 < fs.length) (hal : mj_vl h (.ref x)) (kk : gj E X cc k n (pc + 3) L st (mj_up h a (.inr (7, fs.set 0 (.ref x))))) : gj E X cc k n pc L ((.ref x) :: .ref a :: st) h :=
  gj_putF (T := TX9) (j := 0) (ty := (.array .int)) inTX9 tyX9_ok nmX9 (by rw [hX]; exact w_127) rfl (by decide) rfl hini (by rw [hX]; rfl) (by decide +kernel) (fun _ => rfl) (fun _ => rfl) hd he hl hal kk
theorem pfX9_15 {E : mj_E} {X : mj_XT} {cc : ByteArray} {k n pc : Nat} {L : List (Option Value)} {st : List Value} {h : mj_H} {a : Nat} {fs : List Value} {x : Nat} (hX : X.1 = RX9) (hini : ∀ t : mj_T, X.2.2.2.1 t → t.2.2.2.1.name = "<init>") (hd : decode cc pc = .ok (.putfield 15, 3)) (he : h a = some (.inr (7, fs))) (hl : 1 < fs.length) (hal : mj_vl h (.ref x)) (kk : gj E X cc k n (pc + 3) L st (mj_up h a (.inr (7, fs.set 1 (.ref x))))) : gj E X cc k n pc L ((.ref x) :: .ref a :: st) h :=
  gj_putF (T := TX9) (j := 1) (ty := (.array .int)) inTX9 tyX9_ok nmX9 (by rw [hX]; exact w_128) rfl (by decide) rfl hini (by rw [hX]; rfl) (by decide +kernel) (fun _ => rfl) (fun _ => rfl) hd he hl hal kk
theorem gfX9_9 {E : mj_E} {X : mj_XT} {cc : ByteArray} {k n pc : Nat} {L : List (Option Value)} {st : List Value} {h : mj_H} {a : Nat} {fs : List Value} {v : Value} (hX : X.1 = RX9) (hd : decode cc pc = .ok (.getfield 9, 3)) (he : h a = some (.inr (7, fs))) (hv : fs[0]? = some v) (kk : gj E X cc k n (pc + 3) L (v :: st) h) : gj E X cc k n pc L (.ref a :: st) h :=
  gj_get (T := TX9) (j := 0) inTX9 (by rw [hX]; exact w_127) rfl (by decide) hd he hv kk
theorem gfX9_15 {E : mj_E} {X : mj_XT} {cc : ByteArray} {k n pc : Nat} {L : List (Option Value)} {st : List Value} {h : mj_H} {a : Nat} {fs : List Value} {v : Value} (hX : X.1 = RX9) (hd : decode cc pc = .ok (.getfield 15, 3)) (he : h a = some (.inr (7, fs))) (hv : fs[1]? = some v) (kk : gj E X cc k n (pc + 3) L (v :: st) h) : gj E X cc k n pc L (.ref a :: st) h :=
  gj_get (T := TX9) (j := 1) inTX9 (by rw [hX]; exact w_128) rfl (by decide) hd he hv kk
theorem pfX10_10 {E : mj_E} {X : mj_XT} {cc : ByteArray} {k n pc : Nat} {L : List (Option Value)} {st : List Value} {h : mj_H} {a : Nat} {fs : List Value} {x : Nat} (hX : X.1 = RX10) (hini : ∀ t : mj_T, X.2.2.2.1 t → t.2.2.2.1.name = "<init>") (hd : decode cc pc = .ok (.putfield 10, 3)) (he : h a = some (.inr (8, fs))) (hl : 0 < fs.length) (hal : mj_vl h (.ref x)) (kk : gj E X cc k n (pc + 3) L st (mj_up h a (.inr (8, fs.set 0 (.ref x))))) : gj E X cc k n pc L ((.ref x) :: .ref a :: st) h :=
  gj_putF (T := TX10) (j := 0) (ty := (.object "IceVote$Lake")) inTX10 tyX10_ok nmX10 (by rw [hX]; exact w_265) rfl (by decide) rfl hini (by rw [hX]; rfl) (by decide +kernel) (fun _ => rfl) (fun _ => rfl) hd he hl hal kk
theorem pfX10_16 {E : mj_E} {X : mj_XT} {cc : ByteArray} {k n pc : Nat} {L : List (Option Value)} {st : List Value} {h : mj_H} {a : Nat} {fs : List Value} {x : Nat} (hX : X.1 = RX10) (hini : ∀ t : mj_T, X.2.2.2.1 t → t.2.2.2.1.name = "<init>") (hd : decode cc pc = .ok (.putfield 16, 3)) (he : h a = some (.inr (8, fs))) (hl : 1 < fs.length) (hal : mj_vl h (.ref x)) (kk : gj E X cc k n (pc + 3) L st (mj_up h a (.inr (8, fs.set 1 (.ref x))))) : gj E X cc k n pc L ((.ref x) :: .ref a :: st) h :=
  gj_putF (T := TX10) (j := 1) (ty := (.object "IceVote$Lake")) inTX10 tyX10_ok nmX10 (by rw [hX]; exact w_266) rfl (by decide) rfl hini (by rw [hX]; rfl) (by decide +kernel) (fun _ => rfl) (fun _ => rfl) hd he hl hal kk
theorem pfX10_19 {E : mj_E} {X : mj_XT} {cc : ByteArray} {k n pc : Nat} {L : List (Option Value)} {st : List Value} {h : mj_H} {a : Nat} {fs : List Value} {x : Nat} (hX : X.1 = RX10) (hini : ∀ t : mj_T, X.2.2.2.1 t → t.2.2.2.1.name = "<init>") (hd : decode cc pc = .ok (.putfield 19, 3)) (he : h a = some (.inr (8, fs))) (hl : 2 < fs.length) (hal : mj_vl h (.ref x)) (kk : gj E X cc k n (pc + 3) L st (mj_up h a (.inr (8, fs.set 2 (.ref x))))) : gj E X cc k n pc L ((.ref x) :: .ref a :: st) h :=
  gj_putF (T := TX10) (j := 2) (ty := (.array (.object "IceVote$Lake"))) inTX10 tyX10_ok nmX10 (by rw [hX]; exact w_267) rfl (by decide) rfl hini (by rw [hX]; rfl) (by decide +kernel) (fun _ => rfl) (fun _ => rfl) hd he hl hal kk
theorem pfX10_26 {E : mj_E} {X : mj_XT} {cc : ByteArray} {k n pc : Nat} {L : List (Option Value)} {st : List Value} {h : mj_H} {a : Nat} {fs : List Value} {x : Nat} (hX : X.1 = RX10) (hini : ∀ t : mj_T, X.2.2.2.1 t → t.2.2.2.1.name = "<init>") (hd : decode cc pc = .ok (.putfield 26, 3)) (he : h a = some (.inr (8, fs))) (hl : 3 < fs.length) (hal : mj_vl h (.ref x)) (kk : gj E X cc k n (pc + 3) L st (mj_up h a (.inr (8, fs.set 3 (.ref x))))) : gj E X cc k n pc L ((.ref x) :: .ref a :: st) h :=
  gj_putF (T := TX10) (j := 3) (ty := (.object "IceVote$Sheet")) inTX10 tyX10_ok nmX10 (by rw [hX]; exact w_268) rfl (by decide) rfl hini (by rw [hX]; rfl) (by decide +kernel) (fun _ => rfl) (fun _ => rfl) hd he hl hal kk
theorem pfX10_33 {E : mj_E} {X : mj_XT} {cc : ByteArray} {k n pc : Nat} {L : List (Option Value)} {st : List Value} {h : mj_H} {a : Nat} {fs : List Value} {x : Nat} (hX : X.1 = RX10) (hini : ∀ t : mj_T, X.2.2.2.1 t → t.2.2.2.1.name = "<init>") (hd : decode cc pc = .ok (.putfield 33, 3)) (he : h a = some (.inr (8, fs))) (hl : 4 < fs.length) (hal : mj_vl h (.ref x)) (kk : gj E X cc k n (pc + 3) L st (mj_up h a (.inr (8, fs.set 4 (.ref x))))) : gj E X cc k n pc L ((.ref x) :: .ref a :: st) h :=
  gj_putF (T := TX10) (j := 4) (ty := (.object "IceVote$Ways")) inTX10 tyX10_ok nmX10 (by rw [hX]; exact w_269) rfl (by decide) rfl hini (by rw [hX]; rfl) (by decide +kernel) (fun _ => rfl) (fun _ => rfl) hd he hl hal kk
theorem pfX10_40 {E : mj_E} {X : mj_XT} {cc : ByteArray} {k n pc : Nat} {L : List (Option Value)} {st : List Value} {h : mj_H} {a : Nat} {fs : List Value} {x : Nat} (hX : X.1 = RX10) (hini : ∀ t : mj_T, X.2.2.2.1 t → t.2.2.2.1.name = "<init>") (hd : decode cc pc = .ok (.putfield 40, 3)) (he : h a = some (.inr (8, fs))) (hl : 5 < fs.length) (hal : mj_vl h (.ref x)) (kk : gj E X cc k n (pc + 3) L st (mj_up h a (.inr (8, fs.set 5 (.ref x))))) : gj E X cc k n pc L ((.ref x) :: .ref a :: st) h :=
  gj_putF (T := TX10) (j := 5) (ty := (.object "IceVote$Text")) inTX10 tyX10_ok nmX10 (by rw [hX]; exact w_270) rfl (by decide) rfl hini (by rw [hX]; rfl) (by decide +kernel) (fun _ => rfl) (fun _ => rfl) hd he hl hal kk
theorem pfX10_44 {E : mj_E} {X : mj_XT} {cc : ByteArray} {k n pc : Nat} {L : List (Option Value)} {st : List Value} {h : mj_H} {a : Nat} {fs : List Value} {x : Nat} (hX : X.1 = RX10) (hini : ∀ t : mj_T, X.2.2.2.1 t → t.2.2.2.1.name = "<init>") (hd : decode cc pc = .ok (.putfield 44, 3)) (he : h a = some (.inr (8, fs))) (hl : 6 < fs.length) (hal : mj_vl h (.ref x)) (kk : gj E X cc k n (pc + 3) L st (mj_up h a (.inr (8, fs.set 6 (.ref x))))) : gj E X cc k n pc L ((.ref x) :: .ref a :: st) h :=
  gj_putF (T := TX10) (j := 6) (ty := (.array .int)) inTX10 tyX10_ok nmX10 (by rw [hX]; exact w_271) rfl (by decide) rfl hini (by rw [hX]; rfl) (by decide +kernel) (fun _ => rfl) (fun _ => rfl) hd he hl hal kk
theorem pfX10_48 {E : mj_E} {X : mj_XT} {cc : ByteArray} {k n pc : Nat} {L : List (Option Value)} {st : List Value} {h : mj_H} {a : Nat} {fs : List Value} {x : Nat} (hX : X.1 = RX10) (hini : ∀ t : mj_T, X.2.2.2.1 t → t.2.2.2.1.name = "<init>") (hd : decode cc pc = .ok (.putfield 48, 3)) (he : h a = some (.inr (8, fs))) (hl : 7 < fs.length) (hal : mj_vl h (.ref x)) (kk : gj E X cc k n (pc + 3) L st (mj_up h a (.inr (8, fs.set 7 (.ref x))))) : gj E X cc k n pc L ((.ref x) :: .ref a :: st) h :=
  gj_putF (T := TX10) (j := 7) (ty := (.array .int)) inTX10 tyX10_ok nmX10 (by rw [hX]; exact w_272) rfl (by decide) rfl hini (by rw [hX]; rfl) (by decide +kernel) (fun _ => rfl) (fun _ => rfl) hd he hl hal kk
theorem pfX10_51 {E : mj_E} {X : mj_XT} {cc : ByteArray} {k n pc : Nat} {L : List (Option Value)} {st : List Value} {h : mj_H} {a : Nat} {fs : List Value} {x : Nat} (hX : X.1 = RX10) (hini : ∀ t : mj_T, X.2.2.2.1 t → t.2.2.2.1.name = "<init>") (hd : decode cc pc = .ok (.putfield 51, 3)) (he : h a = some (.inr (8, fs))) (hl : 8 < fs.length) (hal : mj_vl h (.ref x)) (kk : gj E X cc k n (pc + 3) L st (mj_up h a (.inr (8, fs.set 8 (.ref x))))) : gj E X cc k n pc L ((.ref x) :: .ref a :: st) h :=
  gj_putF (T := TX10) (j := 8) (ty := (.array .long)) inTX10 tyX10_ok nmX10 (by rw [hX]; exact w_273) rfl (by decide) rfl hini (by rw [hX]; rfl) (by decide +kernel) (fun _ => rfl) (fun _ => rfl) hd he hl hal kk
theorem pfX10_55 {E : mj_E} {X : mj_XT} {cc : ByteArray} {k n pc : Nat} {L : List (Option Value)} {st : List Value} {h : mj_H} {a : Nat} {fs : List Value} {x : Nat} (hX : X.1 = RX10) (hini : ∀ t : mj_T, X.2.2.2.1 t → t.2.2.2.1.name = "<init>") (hd : decode cc pc = .ok (.putfield 55, 3)) (he : h a = some (.inr (8, fs))) (hl : 9 < fs.length) (hal : mj_vl h (.ref x)) (kk : gj E X cc k n (pc + 3) L st (mj_up h a (.inr (8, fs.set 9 (.ref x))))) : gj E X cc k n pc L ((.ref x) :: .ref a :: st) h :=
  gj_putF (T := TX10) (j := 9) (ty := (.array .long)) inTX10 tyX10_ok nmX10 (by rw [hX]; exact w_274) rfl (by decide) rfl hini (by rw [hX]; rfl) (by decide +kernel) (fun _ => rfl) (fun _ => rfl) hd he hl hal kk
theorem pfX10_58 {E : mj_E} {X : mj_XT} {cc : ByteArray} {k n pc : Nat} {L : List (Option Value)} {st : List Value} {h : mj_H} {a : Nat} {fs : List Value} {x : Int64} (hX : X.1 = RX10) (hd : decode cc pc = .ok (.putfield 58, 3)) (he : h a = some (.inr (8, fs))) (hl : 10 < fs.length) (kk : gj E X cc k n (pc + 3) L st (mj_up h a (.inr (8, fs.set 10 (.long x))))) : gj E X cc k n pc L ((.long x) :: .ref a :: st) h :=
  gj_put (T := TX10) (j := 10) (ty := .long) inTX10 tyX10_ok nmX10 (by rw [hX]; exact w_275) rfl (by decide) rfl (by decide +kernel) (fun _ => rfl) (fun _ => rfl) hd he hl trivial kk
theorem pfX10_62 {E : mj_E} {X : mj_XT} {cc : ByteArray} {k n pc : Nat} {L : List (Option Value)} {st : List Value} {h : mj_H} {a : Nat} {fs : List Value} {x : Int64} (hX : X.1 = RX10) (hd : decode cc pc = .ok (.putfield 62, 3)) (he : h a = some (.inr (8, fs))) (hl : 11 < fs.length) (kk : gj E X cc k n (pc + 3) L st (mj_up h a (.inr (8, fs.set 11 (.long x))))) : gj E X cc k n pc L ((.long x) :: .ref a :: st) h :=
  gj_put (T := TX10) (j := 11) (ty := .long) inTX10 tyX10_ok nmX10 (by rw [hX]; exact w_276) rfl (by decide) rfl (by decide +kernel) (fun _ => rfl) (fun _ => rfl) hd he hl trivial kk
theorem gfX10_10 {E : mj_E} {X : mj_XT} {cc : ByteArray} {k n pc : Nat} {L : List (Option Value)} {st : List Value} {h : mj_H} {a : Nat} {fs : List Value} {v : Value} (hX : X.1 = RX10) (hd : decode cc pc = .ok (.getfield 10, 3)) (he : h a = some (.inr (8, fs))) (hv : fs[0]? = some v) (kk : gj E X cc k n (pc + 3) L (v :: st) h) : gj E X cc k n pc L (.ref a :: st) h :=
  gj_get (T := TX10) (j := 0) inTX10 (by rw [hX]; exact w_265) rfl (by decide) hd he hv kk
theorem gfX10_73 {E : mj_E} {X : mj_XT} {cc : ByteArray} {k n pc : Nat} {L : List (Option Value)} {st : List Value} {h : mj_H} {a : Nat} {fs : List Value} {v : Value} (hX : X.1 = RX10) (hd : decode cc pc = .ok (.getfield 73, 3)) (he : h a = some (.inr (0, fs))) (hv : fs[2]? = some v) (kk : gj E X cc k n (pc + 3) L (v :: st) h) : gj E X cc k n pc L (.ref a :: st) h :=
  gj_get (T := TX1) (j := 2) inTX1 (by rw [hX]; exact w_194) rfl (by decide) hd he hv kk
theorem gfX10_77 {E : mj_E} {X : mj_XT} {cc : ByteArray} {k n pc : Nat} {L : List (Option Value)} {st : List Value} {h : mj_H} {a : Nat} {fs : List Value} {v : Value} (hX : X.1 = RX10) (hd : decode cc pc = .ok (.getfield 77, 3)) (he : h a = some (.inr (5, fs))) (hv : fs[3]? = some v) (kk : gj E X cc k n (pc + 3) L (v :: st) h) : gj E X cc k n pc L (.ref a :: st) h :=
  gj_get (T := TX7) (j := 3) inTX7 (by rw [hX]; exact w_144) rfl (by decide) hd he hv kk
theorem gfX10_91 {E : mj_E} {X : mj_XT} {cc : ByteArray} {k n pc : Nat} {L : List (Option Value)} {st : List Value} {h : mj_H} {a : Nat} {fs : List Value} {v : Value} (hX : X.1 = RX10) (hd : decode cc pc = .ok (.getfield 91, 3)) (he : h a = some (.inr (0, fs))) (hv : fs[0]? = some v) (kk : gj E X cc k n (pc + 3) L (v :: st) h) : gj E X cc k n pc L (.ref a :: st) h :=
  gj_get (T := TX1) (j := 0) inTX1 (by rw [hX]; exact w_188) rfl (by decide) hd he hv kk
theorem gfX10_102 {E : mj_E} {X : mj_XT} {cc : ByteArray} {k n pc : Nat} {L : List (Option Value)} {st : List Value} {h : mj_H} {a : Nat} {fs : List Value} {v : Value} (hX : X.1 = RX10) (hd : decode cc pc = .ok (.getfield 102, 3)) (he : h a = some (.inr (0, fs))) (hv : fs[5]? = some v) (kk : gj E X cc k n (pc + 3) L (v :: st) h) : gj E X cc k n pc L (.ref a :: st) h :=
  gj_get (T := TX1) (j := 5) inTX1 (by rw [hX]; exact w_201) rfl (by decide) hd he hv kk
theorem gfX10_114 {E : mj_E} {X : mj_XT} {cc : ByteArray} {k n pc : Nat} {L : List (Option Value)} {st : List Value} {h : mj_H} {a : Nat} {fs : List Value} {v : Value} (hX : X.1 = RX10) (hd : decode cc pc = .ok (.getfield 114, 3)) (he : h a = some (.inr (0, fs))) (hv : fs[1]? = some v) (kk : gj E X cc k n (pc + 3) L (v :: st) h) : gj E X cc k n pc L (.ref a :: st) h :=
  gj_get (T := TX1) (j := 1) inTX1 (by rw [hX]; exact w_191) rfl (by decide) hd he hv kk
theorem gfX10_130 {E : mj_E} {X : mj_XT} {cc : ByteArray} {k n pc : Nat} {L : List (Option Value)} {st : List Value} {h : mj_H} {a : Nat} {fs : List Value} {v : Value} (hX : X.1 = RX10) (hd : decode cc pc = .ok (.getfield 130, 3)) (he : h a = some (.inr (0, fs))) (hv : fs[6]? = some v) (kk : gj E X cc k n (pc + 3) L (v :: st) h) : gj E X cc k n pc L (.ref a :: st) h :=
  gj_get (T := TX1) (j := 6) inTX1 (by rw [hX]; exact w_203) rfl (by decide) hd he hv kk
theorem gfX10_40 {E : mj_E} {X : mj_XT} {cc : ByteArray} {k n pc : Nat} {L : List (Option Value)} {st : List Value} {h : mj_H} {a : Nat} {fs : List Value} {v : Value} (hX : X.1 = RX10) (hd : decode cc pc = .ok (.getfield 40, 3)) (he : h a = some (.inr (8, fs))) (hv : fs[5]? = some v) (kk : gj E X cc k n (pc + 3) L (v :: st) h) : gj E X cc k n pc L (.ref a :: st) h :=
  gj_get (T := TX10) (j := 5) inTX10 (by rw [hX]; exact w_270) rfl (by decide) hd he hv kk
theorem gfX10_139 {E : mj_E} {X : mj_XT} {cc : ByteArray} {k n pc : Nat} {L : List (Option Value)} {st : List Value} {h : mj_H} {a : Nat} {fs : List Value} {v : Value} (hX : X.1 = RX10) (hd : decode cc pc = .ok (.getfield 139, 3)) (he : h a = some (.inr (4, fs))) (hv : fs[1]? = some v) (kk : gj E X cc k n (pc + 3) L (v :: st) h) : gj E X cc k n pc L (.ref a :: st) h :=
  gj_get (T := TX5) (j := 1) inTX5 (by rw [hX]; exact w_247) rfl (by decide) hd he hv kk
theorem pfX10_139 {E : mj_E} {X : mj_XT} {cc : ByteArray} {k n pc : Nat} {L : List (Option Value)} {st : List Value} {h : mj_H} {a : Nat} {fs : List Value} {x : Int32} (hX : X.1 = RX10) (hd : decode cc pc = .ok (.putfield 139, 3)) (he : h a = some (.inr (4, fs))) (hl : 1 < fs.length) (kk : gj E X cc k n (pc + 3) L st (mj_up h a (.inr (4, fs.set 1 (.int x))))) : gj E X cc k n pc L ((.int x) :: .ref a :: st) h :=
  gj_put (T := TX5) (j := 1) (ty := .int) inTX5 tyX5_ok nmX5 (by rw [hX]; exact w_247) rfl (by decide) rfl (by decide +kernel) (fun _ => rfl) (fun _ => rfl) hd he hl trivial kk
theorem gfX10_16 {E : mj_E} {X : mj_XT} {cc : ByteArray} {k n pc : Nat} {L : List (Option Value)} {st : List Value} {h : mj_H} {a : Nat} {fs : List Value} {v : Value} (hX : X.1 = RX10) (hd : decode cc pc = .ok (.getfield 16, 3)) (he : h a = some (.inr (8, fs))) (hv : fs[1]? = some v) (kk : gj E X cc k n (pc + 3) L (v :: st) h) : gj E X cc k n pc L (.ref a :: st) h :=
  gj_get (T := TX10) (j := 1) inTX10 (by rw [hX]; exact w_266) rfl (by decide) hd he hv kk
theorem gfX10_176 {E : mj_E} {X : mj_XT} {cc : ByteArray} {k n pc : Nat} {L : List (Option Value)} {st : List Value} {h : mj_H} {a : Nat} {fs : List Value} {v : Value} (hX : X.1 = RX10) (hd : decode cc pc = .ok (.getfield 176, 3)) (he : h a = some (.inr (1, fs))) (hv : fs[2]? = some v) (kk : gj E X cc k n (pc + 3) L (v :: st) h) : gj E X cc k n pc L (.ref a :: st) h :=
  gj_get (T := TX2) (j := 2) inTX2 (by rw [hX]; exact w_179) rfl (by decide) hd he hv kk
theorem pfX10_184 {E : mj_E} {X : mj_XT} {cc : ByteArray} {k n pc : Nat} {L : List (Option Value)} {st : List Value} {h : mj_H} {a : Nat} {fs : List Value} {x : Int32} (hX : X.1 = RX10) (hd : decode cc pc = .ok (.putfield 184, 3)) (he : h a = some (.inr (0, fs))) (hl : 7 < fs.length) (kk : gj E X cc k n (pc + 3) L st (mj_up h a (.inr (0, fs.set 7 (.int x))))) : gj E X cc k n pc L ((.int x) :: .ref a :: st) h :=
  gj_put (T := TX1) (j := 7) (ty := .int) inTX1 tyX1_ok nmX1 (by rw [hX]; exact w_205) rfl (by decide) rfl (by decide +kernel) (fun _ => rfl) (fun _ => rfl) hd he hl trivial kk
theorem gfX10_184 {E : mj_E} {X : mj_XT} {cc : ByteArray} {k n pc : Nat} {L : List (Option Value)} {st : List Value} {h : mj_H} {a : Nat} {fs : List Value} {v : Value} (hX : X.1 = RX10) (hd : decode cc pc = .ok (.getfield 184, 3)) (he : h a = some (.inr (0, fs))) (hv : fs[7]? = some v) (kk : gj E X cc k n (pc + 3) L (v :: st) h) : gj E X cc k n pc L (.ref a :: st) h :=
  gj_get (T := TX1) (j := 7) inTX1 (by rw [hX]; exact w_205) rfl (by decide) hd he hv kk
theorem gfX10_26 {E : mj_E} {X : mj_XT} {cc : ByteArray} {k n pc : Nat} {L : List (Option Value)} {st : List Value} {h : mj_H} {a : Nat} {fs : List Value} {v : Value} (hX : X.1 = RX10) (hd : decode cc pc = .ok (.getfield 26, 3)) (he : h a = some (.inr (8, fs))) (hv : fs[3]? = some v) (kk : gj E X cc k n (pc + 3) L (v :: st) h) : gj E X cc k n pc L (.ref a :: st) h :=
  gj_get (T := TX10) (j := 3) inTX10 (by rw [hX]; exact w_268) rfl (by decide) hd he hv kk
theorem gfX10_33 {E : mj_E} {X : mj_XT} {cc : ByteArray} {k n pc : Nat} {L : List (Option Value)} {st : List Value} {h : mj_H} {a : Nat} {fs : List Value} {v : Value} (hX : X.1 = RX10) (hd : decode cc pc = .ok (.getfield 33, 3)) (he : h a = some (.inr (8, fs))) (hv : fs[4]? = some v) (kk : gj E X cc k n (pc + 3) L (v :: st) h) : gj E X cc k n pc L (.ref a :: st) h :=
  gj_get (T := TX10) (j := 4) inTX10 (by rw [hX]; exact w_269) rfl (by decide) hd he hv kk
theorem gfX10_266 {E : mj_E} {X : mj_XT} {cc : ByteArray} {k n pc : Nat} {L : List (Option Value)} {st : List Value} {h : mj_H} {a : Nat} {fs : List Value} {v : Value} (hX : X.1 = RX10) (hd : decode cc pc = .ok (.getfield 266, 3)) (he : h a = some (.inr (0, fs))) (hv : fs[3]? = some v) (kk : gj E X cc k n (pc + 3) L (v :: st) h) : gj E X cc k n pc L (.ref a :: st) h :=
  gj_get (T := TX1) (j := 3) inTX1 (by rw [hX]; exact w_197) rfl (by decide) hd he hv kk
theorem gfX10_270 {E : mj_E} {X : mj_XT} {cc : ByteArray} {k n pc : Nat} {L : List (Option Value)} {st : List Value} {h : mj_H} {a : Nat} {fs : List Value} {v : Value} (hX : X.1 = RX10) (hd : decode cc pc = .ok (.getfield 270, 3)) (he : h a = some (.inr (2, fs))) (hv : fs[1]? = some v) (kk : gj E X cc k n (pc + 3) L (v :: st) h) : gj E X cc k n pc L (.ref a :: st) h :=
  gj_get (T := TX3) (j := 1) inTX3 (by rw [hX]; exact w_164) rfl (by decide) hd he hv kk
theorem gfX10_276 {E : mj_E} {X : mj_XT} {cc : ByteArray} {k n pc : Nat} {L : List (Option Value)} {st : List Value} {h : mj_H} {a : Nat} {fs : List Value} {v : Value} (hX : X.1 = RX10) (hd : decode cc pc = .ok (.getfield 276, 3)) (he : h a = some (.inr (0, fs))) (hv : fs[4]? = some v) (kk : gj E X cc k n (pc + 3) L (v :: st) h) : gj E X cc k n pc L (.ref a :: st) h :=
  gj_get (T := TX1) (j := 4) inTX1 (by rw [hX]; exact w_199) rfl (by decide) hd he hv kk
theorem gfX10_51 {E : mj_E} {X : mj_XT} {cc : ByteArray} {k n pc : Nat} {L : List (Option Value)} {st : List Value} {h : mj_H} {a : Nat} {fs : List Value} {v : Value} (hX : X.1 = RX10) (hd : decode cc pc = .ok (.getfield 51, 3)) (he : h a = some (.inr (8, fs))) (hv : fs[8]? = some v) (kk : gj E X cc k n (pc + 3) L (v :: st) h) : gj E X cc k n pc L (.ref a :: st) h :=
  gj_get (T := TX10) (j := 8) inTX10 (by rw [hX]; exact w_273) rfl (by decide) hd he hv kk
theorem gfX10_58 {E : mj_E} {X : mj_XT} {cc : ByteArray} {k n pc : Nat} {L : List (Option Value)} {st : List Value} {h : mj_H} {a : Nat} {fs : List Value} {v : Value} (hX : X.1 = RX10) (hd : decode cc pc = .ok (.getfield 58, 3)) (he : h a = some (.inr (8, fs))) (hv : fs[10]? = some v) (kk : gj E X cc k n (pc + 3) L (v :: st) h) : gj E X cc k n pc L (.ref a :: st) h :=
  gj_get (T := TX10) (j := 10) inTX10 (by rw [hX]; exact w_275) rfl (by decide) hd he hv kk
theorem gfX10_62 {E : mj_E} {X : mj_XT} {cc : ByteArray} {k n pc : Nat} {L : List (Option Value)} {st : List Value} {h : mj_H} {a : Nat} {fs : List Value} {v : Value} (hX : X.1 = RX10) (hd : decode cc pc = .ok (.getfield 62, 3)) (he : h a = some (.inr (8, fs))) (hv : fs[11]? = some v) (kk : gj E X cc k n (pc + 3) L (v :: st) h) : gj E X cc k n pc L (.ref a :: st) h :=
  gj_get (T := TX10) (j := 11) inTX10 (by rw [hX]; exact w_276) rfl (by decide) hd he hv kk
theorem gfX10_19 {E : mj_E} {X : mj_XT} {cc : ByteArray} {k n pc : Nat} {L : List (Option Value)} {st : List Value} {h : mj_H} {a : Nat} {fs : List Value} {v : Value} (hX : X.1 = RX10) (hd : decode cc pc = .ok (.getfield 19, 3)) (he : h a = some (.inr (8, fs))) (hv : fs[2]? = some v) (kk : gj E X cc k n (pc + 3) L (v :: st) h) : gj E X cc k n pc L (.ref a :: st) h :=
  gj_get (T := TX10) (j := 2) inTX10 (by rw [hX]; exact w_267) rfl (by decide) hd he hv kk
theorem gfX10_44 {E : mj_E} {X : mj_XT} {cc : ByteArray} {k n pc : Nat} {L : List (Option Value)} {st : List Value} {h : mj_H} {a : Nat} {fs : List Value} {v : Value} (hX : X.1 = RX10) (hd : decode cc pc = .ok (.getfield 44, 3)) (he : h a = some (.inr (8, fs))) (hv : fs[6]? = some v) (kk : gj E X cc k n (pc + 3) L (v :: st) h) : gj E X cc k n pc L (.ref a :: st) h :=
  gj_get (T := TX10) (j := 6) inTX10 (by rw [hX]; exact w_271) rfl (by decide) hd he hv kk
theorem gfX10_48 {E : mj_E} {X : mj_XT} {cc : ByteArray} {k n pc : Nat} {L : List (Option Value)} {st : List Value} {h : mj_H} {a : Nat} {fs : List Value} {v : Value} (hX : X.1 = RX10) (hd : decode cc pc = .ok (.getfield 48, 3)) (he : h a = some (.inr (8, fs))) (hv : fs[7]? = some v) (kk : gj E X cc k n (pc + 3) L (v :: st) h) : gj E X cc k n pc L (.ref a :: st) h :=
  gj_get (T := TX10) (j := 7) inTX10 (by rw [hX]; exact w_272) rfl (by decide) hd he hv kk
theorem gfX10_55 {E : mj_E} {X : mj_XT} {cc : ByteArray} {k n pc : Nat} {L : List (Option Value)} {st : List Value} {h : mj_H} {a : Nat} {fs : List Value} {v : Value} (hX : X.1 = RX10) (hd : decode cc pc = .ok (.getfield 55, 3)) (he : h a = some (.inr (8, fs))) (hv : fs[9]? = some v) (kk : gj E X cc k n (pc + 3) L (v :: st) h) : gj E X cc k n pc L (.ref a :: st) h :=
  gj_get (T := TX10) (j := 9) inTX10 (by rw [hX]; exact w_274) rfl (by decide) hd he hv kk
theorem pfX11_7 {E : mj_E} {X : mj_XT} {cc : ByteArray} {k n pc : Nat} {L : List (Option Value)} {st : List Value} {h : mj_H} {a : Nat} {fs : List Value} {x : Nat} (hX : X.1 = RX11) (hini : ∀ t : mj_T, X.2.2.2.1 t → t.2.2.2.1.name = "<init>") (hd : decode cc pc = .ok (.putfield 7, 3)) (he : h a = some (.inr (9, fs))) (hl : 0 < fs.length) (hal : mj_vl h (.ref x)) (kk : gj E X cc k n (pc + 3) L st (mj_up h a (.inr (9, fs.set 0 (.ref x))))) : gj E X cc k n pc L ((.ref x) :: .ref a :: st) h :=
  gj_putF (T := TX11) (j := 0) (ty := (.array .int)) inTX11 tyX11_ok nmX11 (by rw [hX]; exact w_990) rfl (by decide) rfl hini (by rw [hX]; rfl) (by decide +kernel) (fun _ => rfl) (fun _ => rfl) hd he hl hal kk
theorem pfX11_13 {E : mj_E} {X : mj_XT} {cc : ByteArray} {k n pc : Nat} {L : List (Option Value)} {st : List Value} {h : mj_H} {a : Nat} {fs : List Value} {x : Nat} (hX : X.1 = RX11) (hini : ∀ t : mj_T, X.2.2.2.1 t → t.2.2.2.1.name = "<init>") (hd : decode cc pc = .ok (.putfield 13, 3)) (he : h a = some (.inr (9, fs))) (hl : 1 < fs.length) (hal : mj_vl h (.ref x)) (kk : gj E X cc k n (pc + 3) L st (mj_up h a (.inr (9, fs.set 1 (.ref x))))) : gj E X cc k n pc L ((.ref x) :: .ref a :: st) h :=
  gj_putF (T := TX11) (j := 1) (ty := (.array .int)) inTX11 tyX11_ok nmX11 (by rw [hX]; exact w_991) rfl (by decide) rfl hini (by rw [hX]; rfl) (by decide +kernel) (fun _ => rfl) (fun _ => rfl) hd he hl hal kk
theorem pfX11_16 {E : mj_E} {X : mj_XT} {cc : ByteArray} {k n pc : Nat} {L : List (Option Value)} {st : List Value} {h : mj_H} {a : Nat} {fs : List Value} {x : Nat} (hX : X.1 = RX11) (hini : ∀ t : mj_T, X.2.2.2.1 t → t.2.2.2.1.name = "<init>") (hd : decode cc pc = .ok (.putfield 16, 3)) (he : h a = some (.inr (9, fs))) (hl : 2 < fs.length) (hal : mj_vl h (.ref x)) (kk : gj E X cc k n (pc + 3) L st (mj_up h a (.inr (9, fs.set 2 (.ref x))))) : gj E X cc k n pc L ((.ref x) :: .ref a :: st) h :=
  gj_putF (T := TX11) (j := 2) (ty := (.array .boolean)) inTX11 tyX11_ok nmX11 (by rw [hX]; exact w_992) rfl (by decide) rfl hini (by rw [hX]; rfl) (by decide +kernel) (fun _ => rfl) (fun _ => rfl) hd he hl hal kk
theorem pfX11_20 {E : mj_E} {X : mj_XT} {cc : ByteArray} {k n pc : Nat} {L : List (Option Value)} {st : List Value} {h : mj_H} {a : Nat} {fs : List Value} {x : Nat} (hX : X.1 = RX11) (hini : ∀ t : mj_T, X.2.2.2.1 t → t.2.2.2.1.name = "<init>") (hd : decode cc pc = .ok (.putfield 20, 3)) (he : h a = some (.inr (9, fs))) (hl : 3 < fs.length) (hal : mj_vl h (.ref x)) (kk : gj E X cc k n (pc + 3) L st (mj_up h a (.inr (9, fs.set 3 (.ref x))))) : gj E X cc k n pc L ((.ref x) :: .ref a :: st) h :=
  gj_putF (T := TX11) (j := 3) (ty := (.array .int)) inTX11 tyX11_ok nmX11 (by rw [hX]; exact w_993) rfl (by decide) rfl hini (by rw [hX]; rfl) (by decide +kernel) (fun _ => rfl) (fun _ => rfl) hd he hl hal kk
theorem pfX11_23 {E : mj_E} {X : mj_XT} {cc : ByteArray} {k n pc : Nat} {L : List (Option Value)} {st : List Value} {h : mj_H} {a : Nat} {fs : List Value} {x : Int64} (hX : X.1 = RX11) (hd : decode cc pc = .ok (.putfield 23, 3)) (he : h a = some (.inr (9, fs))) (hl : 5 < fs.length) (kk : gj E X cc k n (pc + 3) L st (mj_up h a (.inr (9, fs.set 5 (.long x))))) : gj E X cc k n pc L ((.long x) :: .ref a :: st) h :=
  gj_put (T := TX11) (j := 5) (ty := .long) inTX11 tyX11_ok nmX11 (by rw [hX]; exact w_995) rfl (by decide) rfl (by decide +kernel) (fun _ => rfl) (fun _ => rfl) hd he hl trivial kk
theorem pfX11_27 {E : mj_E} {X : mj_XT} {cc : ByteArray} {k n pc : Nat} {L : List (Option Value)} {st : List Value} {h : mj_H} {a : Nat} {fs : List Value} {x : Nat} (hX : X.1 = RX11) (hini : ∀ t : mj_T, X.2.2.2.1 t → t.2.2.2.1.name = "<init>") (hd : decode cc pc = .ok (.putfield 27, 3)) (he : h a = some (.inr (9, fs))) (hl : 6 < fs.length) (hal : mj_vl h (.ref x)) (kk : gj E X cc k n (pc + 3) L st (mj_up h a (.inr (9, fs.set 6 (.ref x))))) : gj E X cc k n pc L ((.ref x) :: .ref a :: st) h :=
  gj_putF (T := TX11) (j := 6) (ty := (.array .int)) inTX11 tyX11_ok nmX11 (by rw [hX]; exact w_996) rfl (by decide) rfl hini (by rw [hX]; rfl) (by decide +kernel) (fun _ => rfl) (fun _ => rfl) hd he hl hal kk
theorem pfX11_30 {E : mj_E} {X : mj_XT} {cc : ByteArray} {k n pc : Nat} {L : List (Option Value)} {st : List Value} {h : mj_H} {a : Nat} {fs : List Value} {x : Nat} (hX : X.1 = RX11) (hini : ∀ t : mj_T, X.2.2.2.1 t → t.2.2.2.1.name = "<init>") (hd : decode cc pc = .ok (.putfield 30, 3)) (he : h a = some (.inr (9, fs))) (hl : 7 < fs.length) (hal : mj_vl h (.ref x)) (kk : gj E X cc k n (pc + 3) L st (mj_up h a (.inr (9, fs.set 7 (.ref x))))) : gj E X cc k n pc L ((.ref x) :: .ref a :: st) h :=
  gj_putF (T := TX11) (j := 7) (ty := (.array .int)) inTX11 tyX11_ok nmX11 (by rw [hX]; exact w_997) rfl (by decide) rfl hini (by rw [hX]; rfl) (by decide +kernel) (fun _ => rfl) (fun _ => rfl) hd he hl hal kk
theorem pfX11_33 {E : mj_E} {X : mj_XT} {cc : ByteArray} {k n pc : Nat} {L : List (Option Value)} {st : List Value} {h : mj_H} {a : Nat} {fs : List Value} {x : Nat} (hX : X.1 = RX11) (hini : ∀ t : mj_T, X.2.2.2.1 t → t.2.2.2.1.name = "<init>") (hd : decode cc pc = .ok (.putfield 33, 3)) (he : h a = some (.inr (9, fs))) (hl : 8 < fs.length) (hal : mj_vl h (.ref x)) (kk : gj E X cc k n (pc + 3) L st (mj_up h a (.inr (9, fs.set 8 (.ref x))))) : gj E X cc k n pc L ((.ref x) :: .ref a :: st) h :=
  gj_putF (T := TX11) (j := 8) (ty := (.array .int)) inTX11 tyX11_ok nmX11 (by rw [hX]; exact w_998) rfl (by decide) rfl hini (by rw [hX]; rfl) (by decide +kernel) (fun _ => rfl) (fun _ => rfl) hd he hl hal kk
theorem pfX11_36 {E : mj_E} {X : mj_XT} {cc : ByteArray} {k n pc : Nat} {L : List (Option Value)} {st : List Value} {h : mj_H} {a : Nat} {fs : List Value} {x : Nat} (hX : X.1 = RX11) (hini : ∀ t : mj_T, X.2.2.2.1 t → t.2.2.2.1.name = "<init>") (hd : decode cc pc = .ok (.putfield 36, 3)) (he : h a = some (.inr (9, fs))) (hl : 14 < fs.length) (hal : mj_vl h (.ref x)) (kk : gj E X cc k n (pc + 3) L st (mj_up h a (.inr (9, fs.set 14 (.ref x))))) : gj E X cc k n pc L ((.ref x) :: .ref a :: st) h :=
  gj_putF (T := TX11) (j := 14) (ty := (.array .int)) inTX11 tyX11_ok nmX11 (by rw [hX]; exact w_1004) rfl (by decide) rfl hini (by rw [hX]; rfl) (by decide +kernel) (fun _ => rfl) (fun _ => rfl) hd he hl hal kk
theorem pfX11_39 {E : mj_E} {X : mj_XT} {cc : ByteArray} {k n pc : Nat} {L : List (Option Value)} {st : List Value} {h : mj_H} {a : Nat} {fs : List Value} {x : Nat} (hX : X.1 = RX11) (hini : ∀ t : mj_T, X.2.2.2.1 t → t.2.2.2.1.name = "<init>") (hd : decode cc pc = .ok (.putfield 39, 3)) (he : h a = some (.inr (9, fs))) (hl : 15 < fs.length) (hal : mj_vl h (.ref x)) (kk : gj E X cc k n (pc + 3) L st (mj_up h a (.inr (9, fs.set 15 (.ref x))))) : gj E X cc k n pc L ((.ref x) :: .ref a :: st) h :=
  gj_putF (T := TX11) (j := 15) (ty := (.array .int)) inTX11 tyX11_ok nmX11 (by rw [hX]; exact w_1005) rfl (by decide) rfl hini (by rw [hX]; rfl) (by decide +kernel) (fun _ => rfl) (fun _ => rfl) hd he hl hal kk
theorem gfX11_7 {E : mj_E} {X : mj_XT} {cc : ByteArray} {k n pc : Nat} {L : List (Option Value)} {st : List Value} {h : mj_H} {a : Nat} {fs : List Value} {v : Value} (hX : X.1 = RX11) (hd : decode cc pc = .ok (.getfield 7, 3)) (he : h a = some (.inr (9, fs))) (hv : fs[0]? = some v) (kk : gj E X cc k n (pc + 3) L (v :: st) h) : gj E X cc k n pc L (.ref a :: st) h :=
  gj_get (T := TX11) (j := 0) inTX11 (by rw [hX]; exact w_990) rfl (by decide) hd he hv kk
theorem gfX11_20 {E : mj_E} {X : mj_XT} {cc : ByteArray} {k n pc : Nat} {L : List (Option Value)} {st : List Value} {h : mj_H} {a : Nat} {fs : List Value} {v : Value} (hX : X.1 = RX11) (hd : decode cc pc = .ok (.getfield 20, 3)) (he : h a = some (.inr (9, fs))) (hv : fs[3]? = some v) (kk : gj E X cc k n (pc + 3) L (v :: st) h) : gj E X cc k n pc L (.ref a :: st) h :=
  gj_get (T := TX11) (j := 3) inTX11 (by rw [hX]; exact w_993) rfl (by decide) hd he hv kk
theorem gfX11_27 {E : mj_E} {X : mj_XT} {cc : ByteArray} {k n pc : Nat} {L : List (Option Value)} {st : List Value} {h : mj_H} {a : Nat} {fs : List Value} {v : Value} (hX : X.1 = RX11) (hd : decode cc pc = .ok (.getfield 27, 3)) (he : h a = some (.inr (9, fs))) (hv : fs[6]? = some v) (kk : gj E X cc k n (pc + 3) L (v :: st) h) : gj E X cc k n pc L (.ref a :: st) h :=
  gj_get (T := TX11) (j := 6) inTX11 (by rw [hX]; exact w_996) rfl (by decide) hd he hv kk
theorem gfX11_30 {E : mj_E} {X : mj_XT} {cc : ByteArray} {k n pc : Nat} {L : List (Option Value)} {st : List Value} {h : mj_H} {a : Nat} {fs : List Value} {v : Value} (hX : X.1 = RX11) (hd : decode cc pc = .ok (.getfield 30, 3)) (he : h a = some (.inr (9, fs))) (hv : fs[7]? = some v) (kk : gj E X cc k n (pc + 3) L (v :: st) h) : gj E X cc k n pc L (.ref a :: st) h :=
  gj_get (T := TX11) (j := 7) inTX11 (by rw [hX]; exact w_997) rfl (by decide) hd he hv kk
theorem pfX11_205 {E : mj_E} {X : mj_XT} {cc : ByteArray} {k n pc : Nat} {L : List (Option Value)} {st : List Value} {h : mj_H} {a : Nat} {fs : List Value} {x : Int64} (hX : X.1 = RX11) (hd : decode cc pc = .ok (.putfield 205, 3)) (he : h a = some (.inr (9, fs))) (hl : 4 < fs.length) (kk : gj E X cc k n (pc + 3) L st (mj_up h a (.inr (9, fs.set 4 (.long x))))) : gj E X cc k n pc L ((.long x) :: .ref a :: st) h :=
  gj_put (T := TX11) (j := 4) (ty := .long) inTX11 tyX11_ok nmX11 (by rw [hX]; exact w_994) rfl (by decide) rfl (by decide +kernel) (fun _ => rfl) (fun _ => rfl) hd he hl trivial kk
theorem gfX11_230 {E : mj_E} {X : mj_XT} {cc : ByteArray} {k n pc : Nat} {L : List (Option Value)} {st : List Value} {h : mj_H} {a : Nat} {fs : List Value} {v : Value} (hX : X.1 = RX11) (hd : decode cc pc = .ok (.getfield 230, 3)) (he : h a = some (.inr (9, fs))) (hv : fs[9]? = some v) (kk : gj E X cc k n (pc + 3) L (v :: st) h) : gj E X cc k n pc L (.ref a :: st) h :=
  gj_get (T := TX11) (j := 9) inTX11 (by rw [hX]; exact w_999) rfl (by decide) hd he hv kk
theorem gfX11_33 {E : mj_E} {X : mj_XT} {cc : ByteArray} {k n pc : Nat} {L : List (Option Value)} {st : List Value} {h : mj_H} {a : Nat} {fs : List Value} {v : Value} (hX : X.1 = RX11) (hd : decode cc pc = .ok (.getfield 33, 3)) (he : h a = some (.inr (9, fs))) (hv : fs[8]? = some v) (kk : gj E X cc k n (pc + 3) L (v :: st) h) : gj E X cc k n pc L (.ref a :: st) h :=
  gj_get (T := TX11) (j := 8) inTX11 (by rw [hX]; exact w_998) rfl (by decide) hd he hv kk
theorem pfX11_230 {E : mj_E} {X : mj_XT} {cc : ByteArray} {k n pc : Nat} {L : List (Option Value)} {st : List Value} {h : mj_H} {a : Nat} {fs : List Value} {x : Int32} (hX : X.1 = RX11) (hd : decode cc pc = .ok (.putfield 230, 3)) (he : h a = some (.inr (9, fs))) (hl : 9 < fs.length) (kk : gj E X cc k n (pc + 3) L st (mj_up h a (.inr (9, fs.set 9 (.int x))))) : gj E X cc k n pc L ((.int x) :: .ref a :: st) h :=
  gj_put (T := TX11) (j := 9) (ty := .int) inTX11 tyX11_ok nmX11 (by rw [hX]; exact w_999) rfl (by decide) rfl (by decide +kernel) (fun _ => rfl) (fun _ => rfl) hd he hl trivial kk
theorem pfX11_242 {E : mj_E} {X : mj_XT} {cc : ByteArray} {k n pc : Nat} {L : List (Option Value)} {st : List Value} {h : mj_H} {a : Nat} {fs : List Value} {x : Int32} (hX : X.1 = RX11) (hd : decode cc pc = .ok (.putfield 242, 3)) (he : h a = some (.inr (9, fs))) (hl : 10 < fs.length) (kk : gj E X cc k n (pc + 3) L st (mj_up h a (.inr (9, fs.set 10 (.int x))))) : gj E X cc k n pc L ((.int x) :: .ref a :: st) h :=
  gj_put (T := TX11) (j := 10) (ty := .int) inTX11 tyX11_ok nmX11 (by rw [hX]; exact w_1000) rfl (by decide) rfl (by decide +kernel) (fun _ => rfl) (fun _ => rfl) hd he hl trivial kk
theorem gfX11_242 {E : mj_E} {X : mj_XT} {cc : ByteArray} {k n pc : Nat} {L : List (Option Value)} {st : List Value} {h : mj_H} {a : Nat} {fs : List Value} {v : Value} (hX : X.1 = RX11) (hd : decode cc pc = .ok (.getfield 242, 3)) (he : h a = some (.inr (9, fs))) (hv : fs[10]? = some v) (kk : gj E X cc k n (pc + 3) L (v :: st) h) : gj E X cc k n pc L (.ref a :: st) h :=
  gj_get (T := TX11) (j := 10) inTX11 (by rw [hX]; exact w_1000) rfl (by decide) hd he hv kk
theorem pfX11_245 {E : mj_E} {X : mj_XT} {cc : ByteArray} {k n pc : Nat} {L : List (Option Value)} {st : List Value} {h : mj_H} {a : Nat} {fs : List Value} {x : Int32} (hX : X.1 = RX11) (hd : decode cc pc = .ok (.putfield 245, 3)) (he : h a = some (.inr (9, fs))) (hl : 11 < fs.length) (kk : gj E X cc k n (pc + 3) L st (mj_up h a (.inr (9, fs.set 11 (.int x))))) : gj E X cc k n pc L ((.int x) :: .ref a :: st) h :=
  gj_put (T := TX11) (j := 11) (ty := .int) inTX11 tyX11_ok nmX11 (by rw [hX]; exact w_1001) rfl (by decide) rfl (by decide +kernel) (fun _ => rfl) (fun _ => rfl) hd he hl trivial kk
theorem pfX11_248 {E : mj_E} {X : mj_XT} {cc : ByteArray} {k n pc : Nat} {L : List (Option Value)} {st : List Value} {h : mj_H} {a : Nat} {fs : List Value} {x : Int32} (hX : X.1 = RX11) (hd : decode cc pc = .ok (.putfield 248, 3)) (he : h a = some (.inr (9, fs))) (hl : 12 < fs.length) (kk : gj E X cc k n (pc + 3) L st (mj_up h a (.inr (9, fs.set 12 (.int x))))) : gj E X cc k n pc L ((.int x) :: .ref a :: st) h :=
  gj_put (T := TX11) (j := 12) (ty := .int) inTX11 tyX11_ok nmX11 (by rw [hX]; exact w_1002) rfl (by decide) rfl (by decide +kernel) (fun _ => rfl) (fun _ => rfl) hd he hl trivial kk
theorem pfX11_251 {E : mj_E} {X : mj_XT} {cc : ByteArray} {k n pc : Nat} {L : List (Option Value)} {st : List Value} {h : mj_H} {a : Nat} {fs : List Value} {x : Int32} (hX : X.1 = RX11) (hd : decode cc pc = .ok (.putfield 251, 3)) (he : h a = some (.inr (9, fs))) (hl : 13 < fs.length) (kk : gj E X cc k n (pc + 3) L st (mj_up h a (.inr (9, fs.set 13 (.int x))))) : gj E X cc k n pc L ((.int x) :: .ref a :: st) h :=
  gj_put (T := TX11) (j := 13) (ty := .int) inTX11 tyX11_ok nmX11 (by rw [hX]; exact w_1003) rfl (by decide) rfl (by decide +kernel) (fun _ => rfl) (fun _ => rfl) hd he hl trivial kk
theorem gfX11_248 {E : mj_E} {X : mj_XT} {cc : ByteArray} {k n pc : Nat} {L : List (Option Value)} {st : List Value} {h : mj_H} {a : Nat} {fs : List Value} {v : Value} (hX : X.1 = RX11) (hd : decode cc pc = .ok (.getfield 248, 3)) (he : h a = some (.inr (9, fs))) (hv : fs[12]? = some v) (kk : gj E X cc k n (pc + 3) L (v :: st) h) : gj E X cc k n pc L (.ref a :: st) h :=
  gj_get (T := TX11) (j := 12) inTX11 (by rw [hX]; exact w_1002) rfl (by decide) hd he hv kk
theorem gfX11_245 {E : mj_E} {X : mj_XT} {cc : ByteArray} {k n pc : Nat} {L : List (Option Value)} {st : List Value} {h : mj_H} {a : Nat} {fs : List Value} {v : Value} (hX : X.1 = RX11) (hd : decode cc pc = .ok (.getfield 245, 3)) (he : h a = some (.inr (9, fs))) (hv : fs[11]? = some v) (kk : gj E X cc k n (pc + 3) L (v :: st) h) : gj E X cc k n pc L (.ref a :: st) h :=
  gj_get (T := TX11) (j := 11) inTX11 (by rw [hX]; exact w_1001) rfl (by decide) hd he hv kk
theorem gfX11_251 {E : mj_E} {X : mj_XT} {cc : ByteArray} {k n pc : Nat} {L : List (Option Value)} {st : List Value} {h : mj_H} {a : Nat} {fs : List Value} {v : Value} (hX : X.1 = RX11) (hd : decode cc pc = .ok (.getfield 251, 3)) (he : h a = some (.inr (9, fs))) (hv : fs[13]? = some v) (kk : gj E X cc k n (pc + 3) L (v :: st) h) : gj E X cc k n pc L (.ref a :: st) h :=
  gj_get (T := TX11) (j := 13) inTX11 (by rw [hX]; exact w_1003) rfl (by decide) hd he hv kk
theorem gfX11_39 {E : mj_E} {X : mj_XT} {cc : ByteArray} {k n pc : Nat} {L : List (Option Value)} {st : List Value} {h : mj_H} {a : Nat} {fs : List Value} {v : Value} (hX : X.1 = RX11) (hd : decode cc pc = .ok (.getfield 39, 3)) (he : h a = some (.inr (9, fs))) (hv : fs[15]? = some v) (kk : gj E X cc k n (pc + 3) L (v :: st) h) : gj E X cc k n pc L (.ref a :: st) h :=
  gj_get (T := TX11) (j := 15) inTX11 (by rw [hX]; exact w_1005) rfl (by decide) hd he hv kk
theorem gfX11_36 {E : mj_E} {X : mj_XT} {cc : ByteArray} {k n pc : Nat} {L : List (Option Value)} {st : List Value} {h : mj_H} {a : Nat} {fs : List Value} {v : Value} (hX : X.1 = RX11) (hd : decode cc pc = .ok (.getfield 36, 3)) (he : h a = some (.inr (9, fs))) (hv : fs[14]? = some v) (kk : gj E X cc k n (pc + 3) L (v :: st) h) : gj E X cc k n pc L (.ref a :: st) h :=
  gj_get (T := TX11) (j := 14) inTX11 (by rw [hX]; exact w_1004) rfl (by decide) hd he hv kk
theorem gfX11_205 {E : mj_E} {X : mj_XT} {cc : ByteArray} {k n pc : Nat} {L : List (Option Value)} {st : List Value} {h : mj_H} {a : Nat} {fs : List Value} {v : Value} (hX : X.1 = RX11) (hd : decode cc pc = .ok (.getfield 205, 3)) (he : h a = some (.inr (9, fs))) (hv : fs[4]? = some v) (kk : gj E X cc k n (pc + 3) L (v :: st) h) : gj E X cc k n pc L (.ref a :: st) h :=
  gj_get (T := TX11) (j := 4) inTX11 (by rw [hX]; exact w_994) rfl (by decide) hd he hv kk
theorem gfX11_23 {E : mj_E} {X : mj_XT} {cc : ByteArray} {k n pc : Nat} {L : List (Option Value)} {st : List Value} {h : mj_H} {a : Nat} {fs : List Value} {v : Value} (hX : X.1 = RX11) (hd : decode cc pc = .ok (.getfield 23, 3)) (he : h a = some (.inr (9, fs))) (hv : fs[5]? = some v) (kk : gj E X cc k n (pc + 3) L (v :: st) h) : gj E X cc k n pc L (.ref a :: st) h :=
  gj_get (T := TX11) (j := 5) inTX11 (by rw [hX]; exact w_995) rfl (by decide) hd he hv kk
theorem gfX11_13 {E : mj_E} {X : mj_XT} {cc : ByteArray} {k n pc : Nat} {L : List (Option Value)} {st : List Value} {h : mj_H} {a : Nat} {fs : List Value} {v : Value} (hX : X.1 = RX11) (hd : decode cc pc = .ok (.getfield 13, 3)) (he : h a = some (.inr (9, fs))) (hv : fs[1]? = some v) (kk : gj E X cc k n (pc + 3) L (v :: st) h) : gj E X cc k n pc L (.ref a :: st) h :=
  gj_get (T := TX11) (j := 1) inTX11 (by rw [hX]; exact w_991) rfl (by decide) hd he hv kk
theorem gfX11_16 {E : mj_E} {X : mj_XT} {cc : ByteArray} {k n pc : Nat} {L : List (Option Value)} {st : List Value} {h : mj_H} {a : Nat} {fs : List Value} {v : Value} (hX : X.1 = RX11) (hd : decode cc pc = .ok (.getfield 16, 3)) (he : h a = some (.inr (9, fs))) (hv : fs[2]? = some v) (kk : gj E X cc k n (pc + 3) L (v :: st) h) : gj E X cc k n pc L (.ref a :: st) h :=
  gj_get (T := TX11) (j := 2) inTX11 (by rw [hX]; exact w_992) rfl (by decide) hd he hv kk
