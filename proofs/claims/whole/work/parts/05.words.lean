def mj_TB : List Cond := lw_tbl.filter goodWord
theorem mj_tb {w : Cond} (i : Nat) (h : lw_tbl[i]? = some w) (g : goodWord w = true) : w ∈ mj_TB := List.mem_filter.mpr ⟨List.mem_of_getElem? h, g⟩
theorem mj_good {w : Cond} (h : w ∈ mj_TB) : (w.onTables && w.keeps) = true ∨ ∃ ty, w = .arrayClass ty := good_of_word (List.mem_filter.mp h).2
/-- name, code, locals, answer, depth, cells and slots made -/
abbrev mj_I : Type := MethodName × ByteArray × Nat × Option FieldType × Nat × Nat × Nat
theorem mj_wl {l : List (Nat × Cond)} (h : l.all (fun q => goodWord q.2 && lw_tbl[q.1]? == some q.2) = true) {k n : Nat} {w : Cond} (hk : l[k]? = some (n, w)) : w ∈ mj_TB := by
  have h1 := List.all_eq_true.mp h _ (List.mem_of_getElem? hk)
  rw [Bool.and_eq_true] at h1
  exact mj_tb n (eq_of_beq h1.2) h1.1
theorem mj_inTB {ws : List Cond} (ps : List Nat) (hp : ws = ps.filterMap (fun i => lw_tbl[i]?)) (h : ws.all goodWord = true) : ∀ w ∈ ws, w ∈ mj_TB := by
  intro w hw
  have h1 := List.all_eq_true.mp h w hw
  rw [hp] at hw
  obtain ⟨i, -, hi⟩ := List.mem_filterMap.mp hw
  exact List.mem_filter.mpr ⟨List.mem_of_getElem? hi, h1⟩
def wl_0 : List (Nat × Cond) := [(0, Cond.selects RX10 yX10_bad yX10_bad), (1, Cond.selects RX10 yX10_full yX10_full), (2, Cond.selects RX5 yX5_findTokens yX5_findTokens), (3, Cond.selects RX5 yX5_endOfRun yX5_endOfRun), (4, Cond.selects RX5 yX5_byteAt yX5_byteAt), (5, Cond.selects RX5 yX5_endOfToken yX5_endOfToken), (6, Cond.selects RX5 yX5_tokenIn yX5_tokenIn), (7, Cond.selects RX5 yX5_wordIn yX5_wordIn), (8, Cond.selects RX5 yX5_isWord yX5_isWord), (9, Cond.selects RX5 yX5_numberIn yX5_numberIn), (10, Cond.selects RX5 yX5_numberComes yX5_numberComes), (11, Cond.selects RX5 yX5_advance yX5_advance), (12, Cond.selects RX5 yX5_fault yX5_fault), (13, Cond.selects RX5 yX5_stopComes yX5_stopComes), (14, Cond.selects RX5 yX5_itemComes yX5_itemComes), (15, Cond.selects RX5 yX5_cellsCome yX5_cellsCome), (16, Cond.selects RX5 yX5_pairsCome yX5_pairsCome), (17, Cond.selects RX5 yX5_voterComes yX5_voterComes), (18, Cond.selects RX2 yX2_dropOldest yX2_dropOldest), (19, Cond.selects RX10 yX10_no yX10_no), (20, Cond.selects RX10 yX10_isVoter yX10_isVoter), (21, Cond.selects RX10 yX10_yesNow yX10_yesNow), (22, Cond.selects RX8 yX8_measure yX8_measure), (23, Cond.selects RX7 yX7_heaviest yX7_heaviest), (24, Cond.selects RX10 yX10_kindsNoted yX10_kindsNoted), (25, Cond.selects RX10 yX10_fitsNotes yX10_fitsNotes), (26, Cond.selects RX10 yX10_mostAlike yX10_mostAlike), (27, Cond.selects RX10 yX10_fitsPolls yX10_fitsPolls), (28, Cond.selects RX10 yX10_passNight yX10_passNight), (29, Cond.selects RX10 yX10_keepFraction yX10_keepFraction), (30, Cond.selects RX10 yX10_amount yX10_amount), (31, Cond.selects RX11 yX11_bad yX11_bad), (32, Cond.selects RX11 yX11_many yX11_many), (33, Cond.selects RX11 yX11_full yX11_full), (34, Cond.selects RX11 yX11_keep yX11_keep), (35, Cond.selects RX11 yX11_layIce yX11_layIce), (36, Cond.selects RX11 yX11_goDays yX11_goDays), (37, Cond.selects RX11 yX11_goDay yX11_goDay), (38, Cond.selects RX11 yX11_kindOf yX11_kindOf), (39, Cond.selects RX11 yX11_allIce yX11_allIce), (40, Cond.selects RX11 yX11_no yX11_no), (41, Cond.selects RX11 yX11_isVoter yX11_isVoter), (42, Cond.selects RX11 yX11_frostNow yX11_frostNow), (43, Cond.selects RX11 yX11_votesYes yX11_votesYes), (44, Cond.selects RX11 yX11_bears yX11_bears), (45, Cond.selects RX11 yX11_leastBeside yX11_leastBeside), (46, Cond.selects RX11 yX11_goOne yX11_goOne), (47, Cond.selects RX11 yX11_layFar yX11_layFar), (48, Cond.selects RX11 yX11_layNearer yX11_layNearer), (49, Cond.selects RX11 yX11_nextOf yX11_nextOf), (50, Cond.selects RX11 yX11_partsOf yX11_partsOf), (51, Cond.selects RX11 yX11_isParted yX11_isParted), (52, Cond.selects RX11 yX11_yesOf yX11_yesOf), (53, Cond.selects RX11 yX11_wetOf yX11_wetOf), (54, Cond.selects RX11 yX11_isCarried yX11_isCarried), (55, Cond.selects RX11 yX11_heaviest yX11_heaviest), (56, Cond.selects RX11 yX11_bearsIt yX11_bearsIt), (57, Cond.selects RX11 yX11_kindsOf yX11_kindsOf), (58, Cond.selects RX11 yX11_hasBy yX11_hasBy), (59, Cond.selects RX11 yX11_fraction yX11_fraction)]
theorem wt_0 : wl_0.all (fun q => goodWord q.2 && lw_tbl[q.1]? == some q.2) = true := by decide +kernel
theorem w_0 : Cond.selects RX10 yX10_bad yX10_bad ∈ mj_TB := mj_wl (n := 0) wt_0 (k := 0) rfl
theorem w_1 : Cond.selects RX10 yX10_full yX10_full ∈ mj_TB := mj_wl (n := 1) wt_0 (k := 1) rfl
theorem w_2 : Cond.selects RX5 yX5_findTokens yX5_findTokens ∈ mj_TB := mj_wl (n := 2) wt_0 (k := 2) rfl
theorem w_3 : Cond.selects RX5 yX5_endOfRun yX5_endOfRun ∈ mj_TB := mj_wl (n := 3) wt_0 (k := 3) rfl
theorem w_4 : Cond.selects RX5 yX5_byteAt yX5_byteAt ∈ mj_TB := mj_wl (n := 4) wt_0 (k := 4) rfl
theorem w_5 : Cond.selects RX5 yX5_endOfToken yX5_endOfToken ∈ mj_TB := mj_wl (n := 5) wt_0 (k := 5) rfl
theorem w_6 : Cond.selects RX5 yX5_tokenIn yX5_tokenIn ∈ mj_TB := mj_wl (n := 6) wt_0 (k := 6) rfl
theorem w_7 : Cond.selects RX5 yX5_wordIn yX5_wordIn ∈ mj_TB := mj_wl (n := 7) wt_0 (k := 7) rfl
theorem w_8 : Cond.selects RX5 yX5_isWord yX5_isWord ∈ mj_TB := mj_wl (n := 8) wt_0 (k := 8) rfl
theorem w_9 : Cond.selects RX5 yX5_numberIn yX5_numberIn ∈ mj_TB := mj_wl (n := 9) wt_0 (k := 9) rfl
theorem w_10 : Cond.selects RX5 yX5_numberComes yX5_numberComes ∈ mj_TB := mj_wl (n := 10) wt_0 (k := 10) rfl
theorem w_11 : Cond.selects RX5 yX5_advance yX5_advance ∈ mj_TB := mj_wl (n := 11) wt_0 (k := 11) rfl
theorem w_12 : Cond.selects RX5 yX5_fault yX5_fault ∈ mj_TB := mj_wl (n := 12) wt_0 (k := 12) rfl
theorem w_13 : Cond.selects RX5 yX5_stopComes yX5_stopComes ∈ mj_TB := mj_wl (n := 13) wt_0 (k := 13) rfl
theorem w_14 : Cond.selects RX5 yX5_itemComes yX5_itemComes ∈ mj_TB := mj_wl (n := 14) wt_0 (k := 14) rfl
theorem w_15 : Cond.selects RX5 yX5_cellsCome yX5_cellsCome ∈ mj_TB := mj_wl (n := 15) wt_0 (k := 15) rfl
theorem w_16 : Cond.selects RX5 yX5_pairsCome yX5_pairsCome ∈ mj_TB := mj_wl (n := 16) wt_0 (k := 16) rfl
theorem w_17 : Cond.selects RX5 yX5_voterComes yX5_voterComes ∈ mj_TB := mj_wl (n := 17) wt_0 (k := 17) rfl
theorem w_18 : Cond.selects RX2 yX2_dropOldest yX2_dropOldest ∈ mj_TB := mj_wl (n := 18) wt_0 (k := 18) rfl
theorem w_19 : Cond.selects RX10 yX10_no yX10_no ∈ mj_TB := mj_wl (n := 19) wt_0 (k := 19) rfl
theorem w_20 : Cond.selects RX10 yX10_isVoter yX10_isVoter ∈ mj_TB := mj_wl (n := 20) wt_0 (k := 20) rfl
theorem w_21 : Cond.selects RX10 yX10_yesNow yX10_yesNow ∈ mj_TB := mj_wl (n := 21) wt_0 (k := 21) rfl
theorem w_22 : Cond.selects RX8 yX8_measure yX8_measure ∈ mj_TB := mj_wl (n := 22) wt_0 (k := 22) rfl
theorem w_23 : Cond.selects RX7 yX7_heaviest yX7_heaviest ∈ mj_TB := mj_wl (n := 23) wt_0 (k := 23) rfl
theorem w_24 : Cond.selects RX10 yX10_kindsNoted yX10_kindsNoted ∈ mj_TB := mj_wl (n := 24) wt_0 (k := 24) rfl
theorem w_25 : Cond.selects RX10 yX10_fitsNotes yX10_fitsNotes ∈ mj_TB := mj_wl (n := 25) wt_0 (k := 25) rfl
theorem w_26 : Cond.selects RX10 yX10_mostAlike yX10_mostAlike ∈ mj_TB := mj_wl (n := 26) wt_0 (k := 26) rfl
theorem w_27 : Cond.selects RX10 yX10_fitsPolls yX10_fitsPolls ∈ mj_TB := mj_wl (n := 27) wt_0 (k := 27) rfl
theorem w_28 : Cond.selects RX10 yX10_passNight yX10_passNight ∈ mj_TB := mj_wl (n := 28) wt_0 (k := 28) rfl
theorem w_29 : Cond.selects RX10 yX10_keepFraction yX10_keepFraction ∈ mj_TB := mj_wl (n := 29) wt_0 (k := 29) rfl
theorem w_30 : Cond.selects RX10 yX10_amount yX10_amount ∈ mj_TB := mj_wl (n := 30) wt_0 (k := 30) rfl
theorem w_31 : Cond.selects RX11 yX11_bad yX11_bad ∈ mj_TB := mj_wl (n := 31) wt_0 (k := 31) rfl
theorem w_32 : Cond.selects RX11 yX11_many yX11_many ∈ mj_TB := mj_wl (n := 32) wt_0 (k := 32) rfl
theorem w_33 : Cond.selects RX11 yX11_full yX11_full ∈ mj_TB := mj_wl (n := 33) wt_0 (k := 33) rfl
theorem w_34 : Cond.selects RX11 yX11_keep yX11_keep ∈ mj_TB := mj_wl (n := 34) wt_0 (k := 34) rfl
theorem w_35 : Cond.selects RX11 yX11_layIce yX11_layIce ∈ mj_TB := mj_wl (n := 35) wt_0 (k := 35) rfl
theorem w_36 : Cond.selects RX11 yX11_goDays yX11_goDays ∈ mj_TB := mj_wl (n := 36) wt_0 (k := 36) rfl
theorem w_37 : Cond.selects RX11 yX11_goDay yX11_goDay ∈ mj_TB := mj_wl (n := 37) wt_0 (k := 37) rfl
theorem w_38 : Cond.selects RX11 yX11_kindOf yX11_kindOf ∈ mj_TB := mj_wl (n := 38) wt_0 (k := 38) rfl
theorem w_39 : Cond.selects RX11 yX11_allIce yX11_allIce ∈ mj_TB := mj_wl (n := 39) wt_0 (k := 39) rfl
theorem w_40 : Cond.selects RX11 yX11_no yX11_no ∈ mj_TB := mj_wl (n := 40) wt_0 (k := 40) rfl
theorem w_41 : Cond.selects RX11 yX11_isVoter yX11_isVoter ∈ mj_TB := mj_wl (n := 41) wt_0 (k := 41) rfl
theorem w_42 : Cond.selects RX11 yX11_frostNow yX11_frostNow ∈ mj_TB := mj_wl (n := 42) wt_0 (k := 42) rfl
theorem w_43 : Cond.selects RX11 yX11_votesYes yX11_votesYes ∈ mj_TB := mj_wl (n := 43) wt_0 (k := 43) rfl
theorem w_44 : Cond.selects RX11 yX11_bears yX11_bears ∈ mj_TB := mj_wl (n := 44) wt_0 (k := 44) rfl
theorem w_45 : Cond.selects RX11 yX11_leastBeside yX11_leastBeside ∈ mj_TB := mj_wl (n := 45) wt_0 (k := 45) rfl
theorem w_46 : Cond.selects RX11 yX11_goOne yX11_goOne ∈ mj_TB := mj_wl (n := 46) wt_0 (k := 46) rfl
theorem w_47 : Cond.selects RX11 yX11_layFar yX11_layFar ∈ mj_TB := mj_wl (n := 47) wt_0 (k := 47) rfl
theorem w_48 : Cond.selects RX11 yX11_layNearer yX11_layNearer ∈ mj_TB := mj_wl (n := 48) wt_0 (k := 48) rfl
theorem w_49 : Cond.selects RX11 yX11_nextOf yX11_nextOf ∈ mj_TB := mj_wl (n := 49) wt_0 (k := 49) rfl
theorem w_50 : Cond.selects RX11 yX11_partsOf yX11_partsOf ∈ mj_TB := mj_wl (n := 50) wt_0 (k := 50) rfl
theorem w_51 : Cond.selects RX11 yX11_isParted yX11_isParted ∈ mj_TB := mj_wl (n := 51) wt_0 (k := 51) rfl
theorem w_52 : Cond.selects RX11 yX11_yesOf yX11_yesOf ∈ mj_TB := mj_wl (n := 52) wt_0 (k := 52) rfl
theorem w_53 : Cond.selects RX11 yX11_wetOf yX11_wetOf ∈ mj_TB := mj_wl (n := 53) wt_0 (k := 53) rfl
theorem w_54 : Cond.selects RX11 yX11_isCarried yX11_isCarried ∈ mj_TB := mj_wl (n := 54) wt_0 (k := 54) rfl
theorem w_55 : Cond.selects RX11 yX11_heaviest yX11_heaviest ∈ mj_TB := mj_wl (n := 55) wt_0 (k := 55) rfl
theorem w_56 : Cond.selects RX11 yX11_bearsIt yX11_bearsIt ∈ mj_TB := mj_wl (n := 56) wt_0 (k := 56) rfl
theorem w_57 : Cond.selects RX11 yX11_kindsOf yX11_kindsOf ∈ mj_TB := mj_wl (n := 57) wt_0 (k := 57) rfl
theorem w_58 : Cond.selects RX11 yX11_hasBy yX11_hasBy ∈ mj_TB := mj_wl (n := 58) wt_0 (k := 58) rfl
theorem w_59 : Cond.selects RX11 yX11_fraction yX11_fraction ∈ mj_TB := mj_wl (n := 59) wt_0 (k := 59) rfl
def wl_1 : List (Nat × Cond) := [(60, Cond.selects RX11 yX11_lookAt yX11_lookAt), (61, Cond.selects RX11 yX11_takesLake yX11_takesLake), (62, Cond.selects RX11 yX11_spells yX11_spells), (63, Cond.selects RX11 yX11_goBehind yX11_goBehind), (64, Cond.selects RX11 yX11_takes yX11_takes), (65, Cond.selects RX11 yX11_takesItem yX11_takesItem), (66, Cond.selects RX11 yX11_takesCell yX11_takesCell), (67, Cond.selects RX11 yX11_takesWeek yX11_takesWeek), (68, Cond.selects RX11 yX11_takesVoter yX11_takesVoter), (69, Cond.selects RX11 yX11_counted yX11_counted), (70, Cond.selects RX11 yX11_sums yX11_sums), (72, Cond.initialized RX10), (73, Cond.initialized RX1), (74, Cond.initialized RX4), (75, Cond.initialized RX9), (76, Cond.initialized RX7), (77, Cond.initialized RX3), (78, Cond.initialized RX2), (79, Cond.initialized RX8), (80, Cond.initialized RX5), (81, Cond.initialized RX11), (82, Cond.initialized RJ7), (83, Cond.initialized "java/lang/Math"), (84, Cond.initialized RJ0), (85, Cond.initialized RJ1), (86, Cond.initialized RJ3), (87, Cond.initialized RJ2), (88, Cond.initialized "java/lang/System"), (89, Cond.initialized RX0), (90, Cond.initialized RX6), (91, Cond.initialized RJ6), (92, Cond.classLink RL 7 "IceVote"), (93, Cond.instantiable "IceVote" 12), (94, Cond.methodLink RL 9 yX10_init), (95, Cond.instanceMethod yX10_init), (97, Cond.methodLink RX10 1 objectInit), (98, Cond.instanceMethod objectInit), (100, Cond.classLink RX10 7 "IceVote$Lake"), (101, Cond.instantiable "IceVote$Lake" 8), (103, Cond.instanceMethod yX1_init), (105, Cond.methodLink RX1 3 objectInit), (106, Cond.classLink RX1 9 "IceVote$Sheet"), (107, Cond.instantiable "IceVote$Sheet" 2), (109, Cond.instanceMethod yX4_init), (111, Cond.methodLink RX4 3 objectInit), (112, Cond.fieldLink RX4 9 "IceVote$Sheet" "kind" "[I"), (113, Cond.fieldLink RX4 15 "IceVote$Sheet" "ice" "[I"), (114, Cond.fieldLink RX2 35 "IceVote$Sheet" "ice" "[I"), (120, Cond.arrayClass .int), (121, Cond.classLink RX1 18 "IceVote$Week"), (122, Cond.instantiable "IceVote$Week" 2), (124, Cond.instanceMethod yX9_init), (126, Cond.methodLink RX9 3 objectInit), (127, Cond.fieldLink RX9 9 "IceVote$Week" "frost" "[I"), (128, Cond.fieldLink RX9 15 "IceVote$Week" "sun" "[I"), (134, Cond.classLink RX1 25 "IceVote$Voters"), (135, Cond.instantiable "IceVote$Voters" 4), (137, Cond.instanceMethod yX7_init), (139, Cond.methodLink RX7 3 objectInit), (140, Cond.fieldLink RX7 9 "IceVote$Voters" "kind" "[I")]
theorem wt_1 : wl_1.all (fun q => goodWord q.2 && lw_tbl[q.1]? == some q.2) = true := by decide +kernel
theorem w_60 : Cond.selects RX11 yX11_lookAt yX11_lookAt ∈ mj_TB := mj_wl (n := 60) wt_1 (k := 0) rfl
theorem w_61 : Cond.selects RX11 yX11_takesLake yX11_takesLake ∈ mj_TB := mj_wl (n := 61) wt_1 (k := 1) rfl
theorem w_62 : Cond.selects RX11 yX11_spells yX11_spells ∈ mj_TB := mj_wl (n := 62) wt_1 (k := 2) rfl
theorem w_63 : Cond.selects RX11 yX11_goBehind yX11_goBehind ∈ mj_TB := mj_wl (n := 63) wt_1 (k := 3) rfl
theorem w_64 : Cond.selects RX11 yX11_takes yX11_takes ∈ mj_TB := mj_wl (n := 64) wt_1 (k := 4) rfl
theorem w_65 : Cond.selects RX11 yX11_takesItem yX11_takesItem ∈ mj_TB := mj_wl (n := 65) wt_1 (k := 5) rfl
theorem w_66 : Cond.selects RX11 yX11_takesCell yX11_takesCell ∈ mj_TB := mj_wl (n := 66) wt_1 (k := 6) rfl
theorem w_67 : Cond.selects RX11 yX11_takesWeek yX11_takesWeek ∈ mj_TB := mj_wl (n := 67) wt_1 (k := 7) rfl
theorem w_68 : Cond.selects RX11 yX11_takesVoter yX11_takesVoter ∈ mj_TB := mj_wl (n := 68) wt_1 (k := 8) rfl
theorem w_69 : Cond.selects RX11 yX11_counted yX11_counted ∈ mj_TB := mj_wl (n := 69) wt_1 (k := 9) rfl
theorem w_70 : Cond.selects RX11 yX11_sums yX11_sums ∈ mj_TB := mj_wl (n := 70) wt_1 (k := 10) rfl
theorem w_72 : Cond.initialized RX10 ∈ mj_TB := mj_wl (n := 72) wt_1 (k := 11) rfl
theorem w_73 : Cond.initialized RX1 ∈ mj_TB := mj_wl (n := 73) wt_1 (k := 12) rfl
theorem w_74 : Cond.initialized RX4 ∈ mj_TB := mj_wl (n := 74) wt_1 (k := 13) rfl
theorem w_75 : Cond.initialized RX9 ∈ mj_TB := mj_wl (n := 75) wt_1 (k := 14) rfl
theorem w_76 : Cond.initialized RX7 ∈ mj_TB := mj_wl (n := 76) wt_1 (k := 15) rfl
theorem w_77 : Cond.initialized RX3 ∈ mj_TB := mj_wl (n := 77) wt_1 (k := 16) rfl
theorem w_78 : Cond.initialized RX2 ∈ mj_TB := mj_wl (n := 78) wt_1 (k := 17) rfl
theorem w_79 : Cond.initialized RX8 ∈ mj_TB := mj_wl (n := 79) wt_1 (k := 18) rfl
theorem w_80 : Cond.initialized RX5 ∈ mj_TB := mj_wl (n := 80) wt_1 (k := 19) rfl
theorem w_81 : Cond.initialized RX11 ∈ mj_TB := mj_wl (n := 81) wt_1 (k := 20) rfl
theorem w_82 : Cond.initialized RJ7 ∈ mj_TB := mj_wl (n := 82) wt_1 (k := 21) rfl
theorem w_83 : Cond.initialized "java/lang/Math" ∈ mj_TB := mj_wl (n := 83) wt_1 (k := 22) rfl
theorem w_84 : Cond.initialized RJ0 ∈ mj_TB := mj_wl (n := 84) wt_1 (k := 23) rfl
theorem w_85 : Cond.initialized RJ1 ∈ mj_TB := mj_wl (n := 85) wt_1 (k := 24) rfl
theorem w_86 : Cond.initialized RJ3 ∈ mj_TB := mj_wl (n := 86) wt_1 (k := 25) rfl
theorem w_87 : Cond.initialized RJ2 ∈ mj_TB := mj_wl (n := 87) wt_1 (k := 26) rfl
theorem w_88 : Cond.initialized "java/lang/System" ∈ mj_TB := mj_wl (n := 88) wt_1 (k := 27) rfl
theorem w_89 : Cond.initialized RX0 ∈ mj_TB := mj_wl (n := 89) wt_1 (k := 28) rfl
theorem w_90 : Cond.initialized RX6 ∈ mj_TB := mj_wl (n := 90) wt_1 (k := 29) rfl
theorem w_91 : Cond.initialized RJ6 ∈ mj_TB := mj_wl (n := 91) wt_1 (k := 30) rfl
theorem w_92 : Cond.classLink RL 7 "IceVote" ∈ mj_TB := mj_wl (n := 92) wt_1 (k := 31) rfl
theorem w_93 : Cond.instantiable "IceVote" 12 ∈ mj_TB := mj_wl (n := 93) wt_1 (k := 32) rfl
theorem w_94 : Cond.methodLink RL 9 yX10_init ∈ mj_TB := mj_wl (n := 94) wt_1 (k := 33) rfl
theorem w_95 : Cond.instanceMethod yX10_init ∈ mj_TB := mj_wl (n := 95) wt_1 (k := 34) rfl
theorem w_97 : Cond.methodLink RX10 1 objectInit ∈ mj_TB := mj_wl (n := 97) wt_1 (k := 35) rfl
theorem w_98 : Cond.instanceMethod objectInit ∈ mj_TB := mj_wl (n := 98) wt_1 (k := 36) rfl
theorem w_100 : Cond.classLink RX10 7 "IceVote$Lake" ∈ mj_TB := mj_wl (n := 100) wt_1 (k := 37) rfl
theorem w_101 : Cond.instantiable "IceVote$Lake" 8 ∈ mj_TB := mj_wl (n := 101) wt_1 (k := 38) rfl
theorem w_103 : Cond.instanceMethod yX1_init ∈ mj_TB := mj_wl (n := 103) wt_1 (k := 39) rfl
theorem w_105 : Cond.methodLink RX1 3 objectInit ∈ mj_TB := mj_wl (n := 105) wt_1 (k := 40) rfl
theorem w_106 : Cond.classLink RX1 9 "IceVote$Sheet" ∈ mj_TB := mj_wl (n := 106) wt_1 (k := 41) rfl
theorem w_107 : Cond.instantiable "IceVote$Sheet" 2 ∈ mj_TB := mj_wl (n := 107) wt_1 (k := 42) rfl
theorem w_109 : Cond.instanceMethod yX4_init ∈ mj_TB := mj_wl (n := 109) wt_1 (k := 43) rfl
theorem w_111 : Cond.methodLink RX4 3 objectInit ∈ mj_TB := mj_wl (n := 111) wt_1 (k := 44) rfl
theorem w_112 : Cond.fieldLink RX4 9 "IceVote$Sheet" "kind" "[I" ∈ mj_TB := mj_wl (n := 112) wt_1 (k := 45) rfl
theorem w_113 : Cond.fieldLink RX4 15 "IceVote$Sheet" "ice" "[I" ∈ mj_TB := mj_wl (n := 113) wt_1 (k := 46) rfl
theorem w_114 : Cond.fieldLink RX2 35 "IceVote$Sheet" "ice" "[I" ∈ mj_TB := mj_wl (n := 114) wt_1 (k := 47) rfl
theorem w_120 : Cond.arrayClass .int ∈ mj_TB := mj_wl (n := 120) wt_1 (k := 48) rfl
theorem w_121 : Cond.classLink RX1 18 "IceVote$Week" ∈ mj_TB := mj_wl (n := 121) wt_1 (k := 49) rfl
theorem w_122 : Cond.instantiable "IceVote$Week" 2 ∈ mj_TB := mj_wl (n := 122) wt_1 (k := 50) rfl
theorem w_124 : Cond.instanceMethod yX9_init ∈ mj_TB := mj_wl (n := 124) wt_1 (k := 51) rfl
theorem w_126 : Cond.methodLink RX9 3 objectInit ∈ mj_TB := mj_wl (n := 126) wt_1 (k := 52) rfl
theorem w_127 : Cond.fieldLink RX9 9 "IceVote$Week" "frost" "[I" ∈ mj_TB := mj_wl (n := 127) wt_1 (k := 53) rfl
theorem w_128 : Cond.fieldLink RX9 15 "IceVote$Week" "sun" "[I" ∈ mj_TB := mj_wl (n := 128) wt_1 (k := 54) rfl
theorem w_134 : Cond.classLink RX1 25 "IceVote$Voters" ∈ mj_TB := mj_wl (n := 134) wt_1 (k := 55) rfl
theorem w_135 : Cond.instantiable "IceVote$Voters" 4 ∈ mj_TB := mj_wl (n := 135) wt_1 (k := 56) rfl
theorem w_137 : Cond.instanceMethod yX7_init ∈ mj_TB := mj_wl (n := 137) wt_1 (k := 57) rfl
theorem w_139 : Cond.methodLink RX7 3 objectInit ∈ mj_TB := mj_wl (n := 139) wt_1 (k := 58) rfl
theorem w_140 : Cond.fieldLink RX7 9 "IceVote$Voters" "kind" "[I" ∈ mj_TB := mj_wl (n := 140) wt_1 (k := 59) rfl
def wl_2 : List (Nat × Cond) := [(141, Cond.fieldLink RX7 15 "IceVote$Voters" "weight" "[I"), (142, Cond.fieldLink RX7 18 "IceVote$Voters" "cell" "[I"), (143, Cond.fieldLink RX7 21 "IceVote$Voters" "size" "I"), (144, Cond.fieldLink RX10 77 "IceVote$Voters" "size" "I"), (145, Cond.fieldLink RX1 85 "IceVote$Voters" "size" "I"), (146, Cond.fieldLink RX5 83 "IceVote$Voters" "size" "I"), (156, Cond.classLink RX1 32 "IceVote$Records"), (157, Cond.instantiable "IceVote$Records" 2), (159, Cond.instanceMethod yX3_init), (161, Cond.methodLink RX3 3 objectInit), (162, Cond.fieldLink RX3 9 "IceVote$Records" "row" "[I"), (163, Cond.fieldLink RX3 15 "IceVote$Records" "size" "I"), (164, Cond.fieldLink RX10 270 "IceVote$Records" "size" "I"), (170, Cond.classLink RX1 42 "IceVote$Past"), (171, Cond.instantiable "IceVote$Past" 3), (173, Cond.instanceMethod yX2_init), (175, Cond.methodLink RX2 3 objectInit), (176, Cond.fieldLink RX2 9 "IceVote$Past" "ice" "[I"), (177, Cond.fieldLink RX2 15 "IceVote$Past" "day" "[I"), (178, Cond.fieldLink RX2 18 "IceVote$Past" "size" "I"), (179, Cond.fieldLink RX10 176 "IceVote$Past" "size" "I"), (187, Cond.fieldLink RX1 12 "IceVote$Lake" "sheet" "LIceVote$Sheet;"), (188, Cond.fieldLink RX10 91 "IceVote$Lake" "sheet" "LIceVote$Sheet;"), (189, Cond.fieldLink RX5 63 "IceVote$Lake" "sheet" "LIceVote$Sheet;"), (190, Cond.fieldLink RX1 21 "IceVote$Lake" "week" "LIceVote$Week;"), (191, Cond.fieldLink RX10 114 "IceVote$Lake" "week" "LIceVote$Week;"), (192, Cond.fieldLink RX5 71 "IceVote$Lake" "week" "LIceVote$Week;"), (193, Cond.fieldLink RX1 28 "IceVote$Lake" "voters" "LIceVote$Voters;"), (194, Cond.fieldLink RX10 73 "IceVote$Lake" "voters" "LIceVote$Voters;"), (195, Cond.fieldLink RX5 79 "IceVote$Lake" "voters" "LIceVote$Voters;"), (196, Cond.fieldLink RX1 35 "IceVote$Lake" "notes" "LIceVote$Records;"), (197, Cond.fieldLink RX10 266 "IceVote$Lake" "notes" "LIceVote$Records;"), (198, Cond.fieldLink RX1 39 "IceVote$Lake" "polls" "LIceVote$Records;"), (199, Cond.fieldLink RX10 276 "IceVote$Lake" "polls" "LIceVote$Records;"), (200, Cond.fieldLink RX1 45 "IceVote$Lake" "past" "LIceVote$Past;"), (201, Cond.fieldLink RX10 102 "IceVote$Lake" "past" "LIceVote$Past;"), (202, Cond.fieldLink RX1 49 "IceVote$Lake" "word" "[I"), (203, Cond.fieldLink RX10 130 "IceVote$Lake" "word" "[I"), (204, Cond.fieldLink RX1 53 "IceVote$Lake" "day" "I"), (205, Cond.fieldLink RX10 184 "IceVote$Lake" "day" "I"), (224, Cond.classLink RX10 23 "IceVote$Sheet"), (226, Cond.classLink RX10 30 "IceVote$Ways"), (227, Cond.instantiable "IceVote$Ways" 2), (229, Cond.instanceMethod yX8_init), (231, Cond.methodLink RX8 5 objectInit), (232, Cond.fieldLink RX8 11 "IceVote$Ways" "ring" "[I"), (233, Cond.fieldLink RX8 15 "IceVote$Ways" "steps" "[I"), (239, Cond.classLink RX10 37 "IceVote$Text"), (240, Cond.instantiable "IceVote$Text" 6), (242, Cond.instanceMethod yX5_init), (244, Cond.methodLink RX5 3 objectInit), (245, Cond.fieldLink RX5 9 "IceVote$Text" "bytes" "[I"), (246, Cond.fieldLink RX5 15 "IceVote$Text" "length" "I"), (247, Cond.fieldLink RX10 139 "IceVote$Text" "length" "I"), (248, Cond.fieldLink RX5 19 "IceVote$Text" "tokens" "[I"), (249, Cond.fieldLink RX5 22 "IceVote$Text" "starts" "[I"), (250, Cond.fieldLink RX5 25 "IceVote$Text" "here" "I"), (251, Cond.fieldLink RX5 28 "IceVote$Text" "token" "I"), (265, Cond.fieldLink RX10 10 "IceVote" "now" "LIceVote$Lake;"), (266, Cond.fieldLink RX10 16 "IceVote" "told" "LIceVote$Lake;")]
theorem wt_2 : wl_2.all (fun q => goodWord q.2 && lw_tbl[q.1]? == some q.2) = true := by decide +kernel
theorem w_141 : Cond.fieldLink RX7 15 "IceVote$Voters" "weight" "[I" ∈ mj_TB := mj_wl (n := 141) wt_2 (k := 0) rfl
theorem w_142 : Cond.fieldLink RX7 18 "IceVote$Voters" "cell" "[I" ∈ mj_TB := mj_wl (n := 142) wt_2 (k := 1) rfl
theorem w_143 : Cond.fieldLink RX7 21 "IceVote$Voters" "size" "I" ∈ mj_TB := mj_wl (n := 143) wt_2 (k := 2) rfl
theorem w_144 : Cond.fieldLink RX10 77 "IceVote$Voters" "size" "I" ∈ mj_TB := mj_wl (n := 144) wt_2 (k := 3) rfl
theorem w_145 : Cond.fieldLink RX1 85 "IceVote$Voters" "size" "I" ∈ mj_TB := mj_wl (n := 145) wt_2 (k := 4) rfl
theorem w_146 : Cond.fieldLink RX5 83 "IceVote$Voters" "size" "I" ∈ mj_TB := mj_wl (n := 146) wt_2 (k := 5) rfl
theorem w_156 : Cond.classLink RX1 32 "IceVote$Records" ∈ mj_TB := mj_wl (n := 156) wt_2 (k := 6) rfl
theorem w_157 : Cond.instantiable "IceVote$Records" 2 ∈ mj_TB := mj_wl (n := 157) wt_2 (k := 7) rfl
theorem w_159 : Cond.instanceMethod yX3_init ∈ mj_TB := mj_wl (n := 159) wt_2 (k := 8) rfl
theorem w_161 : Cond.methodLink RX3 3 objectInit ∈ mj_TB := mj_wl (n := 161) wt_2 (k := 9) rfl
theorem w_162 : Cond.fieldLink RX3 9 "IceVote$Records" "row" "[I" ∈ mj_TB := mj_wl (n := 162) wt_2 (k := 10) rfl
theorem w_163 : Cond.fieldLink RX3 15 "IceVote$Records" "size" "I" ∈ mj_TB := mj_wl (n := 163) wt_2 (k := 11) rfl
theorem w_164 : Cond.fieldLink RX10 270 "IceVote$Records" "size" "I" ∈ mj_TB := mj_wl (n := 164) wt_2 (k := 12) rfl
theorem w_170 : Cond.classLink RX1 42 "IceVote$Past" ∈ mj_TB := mj_wl (n := 170) wt_2 (k := 13) rfl
theorem w_171 : Cond.instantiable "IceVote$Past" 3 ∈ mj_TB := mj_wl (n := 171) wt_2 (k := 14) rfl
theorem w_173 : Cond.instanceMethod yX2_init ∈ mj_TB := mj_wl (n := 173) wt_2 (k := 15) rfl
theorem w_175 : Cond.methodLink RX2 3 objectInit ∈ mj_TB := mj_wl (n := 175) wt_2 (k := 16) rfl
theorem w_176 : Cond.fieldLink RX2 9 "IceVote$Past" "ice" "[I" ∈ mj_TB := mj_wl (n := 176) wt_2 (k := 17) rfl
theorem w_177 : Cond.fieldLink RX2 15 "IceVote$Past" "day" "[I" ∈ mj_TB := mj_wl (n := 177) wt_2 (k := 18) rfl
theorem w_178 : Cond.fieldLink RX2 18 "IceVote$Past" "size" "I" ∈ mj_TB := mj_wl (n := 178) wt_2 (k := 19) rfl
theorem w_179 : Cond.fieldLink RX10 176 "IceVote$Past" "size" "I" ∈ mj_TB := mj_wl (n := 179) wt_2 (k := 20) rfl
theorem w_187 : Cond.fieldLink RX1 12 "IceVote$Lake" "sheet" "LIceVote$Sheet;" ∈ mj_TB := mj_wl (n := 187) wt_2 (k := 21) rfl
theorem w_188 : Cond.fieldLink RX10 91 "IceVote$Lake" "sheet" "LIceVote$Sheet;" ∈ mj_TB := mj_wl (n := 188) wt_2 (k := 22) rfl
theorem w_189 : Cond.fieldLink RX5 63 "IceVote$Lake" "sheet" "LIceVote$Sheet;" ∈ mj_TB := mj_wl (n := 189) wt_2 (k := 23) rfl
theorem w_190 : Cond.fieldLink RX1 21 "IceVote$Lake" "week" "LIceVote$Week;" ∈ mj_TB := mj_wl (n := 190) wt_2 (k := 24) rfl
theorem w_191 : Cond.fieldLink RX10 114 "IceVote$Lake" "week" "LIceVote$Week;" ∈ mj_TB := mj_wl (n := 191) wt_2 (k := 25) rfl
theorem w_192 : Cond.fieldLink RX5 71 "IceVote$Lake" "week" "LIceVote$Week;" ∈ mj_TB := mj_wl (n := 192) wt_2 (k := 26) rfl
theorem w_193 : Cond.fieldLink RX1 28 "IceVote$Lake" "voters" "LIceVote$Voters;" ∈ mj_TB := mj_wl (n := 193) wt_2 (k := 27) rfl
theorem w_194 : Cond.fieldLink RX10 73 "IceVote$Lake" "voters" "LIceVote$Voters;" ∈ mj_TB := mj_wl (n := 194) wt_2 (k := 28) rfl
theorem w_195 : Cond.fieldLink RX5 79 "IceVote$Lake" "voters" "LIceVote$Voters;" ∈ mj_TB := mj_wl (n := 195) wt_2 (k := 29) rfl
theorem w_196 : Cond.fieldLink RX1 35 "IceVote$Lake" "notes" "LIceVote$Records;" ∈ mj_TB := mj_wl (n := 196) wt_2 (k := 30) rfl
theorem w_197 : Cond.fieldLink RX10 266 "IceVote$Lake" "notes" "LIceVote$Records;" ∈ mj_TB := mj_wl (n := 197) wt_2 (k := 31) rfl
theorem w_198 : Cond.fieldLink RX1 39 "IceVote$Lake" "polls" "LIceVote$Records;" ∈ mj_TB := mj_wl (n := 198) wt_2 (k := 32) rfl
theorem w_199 : Cond.fieldLink RX10 276 "IceVote$Lake" "polls" "LIceVote$Records;" ∈ mj_TB := mj_wl (n := 199) wt_2 (k := 33) rfl
theorem w_200 : Cond.fieldLink RX1 45 "IceVote$Lake" "past" "LIceVote$Past;" ∈ mj_TB := mj_wl (n := 200) wt_2 (k := 34) rfl
theorem w_201 : Cond.fieldLink RX10 102 "IceVote$Lake" "past" "LIceVote$Past;" ∈ mj_TB := mj_wl (n := 201) wt_2 (k := 35) rfl
theorem w_202 : Cond.fieldLink RX1 49 "IceVote$Lake" "word" "[I" ∈ mj_TB := mj_wl (n := 202) wt_2 (k := 36) rfl
theorem w_203 : Cond.fieldLink RX10 130 "IceVote$Lake" "word" "[I" ∈ mj_TB := mj_wl (n := 203) wt_2 (k := 37) rfl
theorem w_204 : Cond.fieldLink RX1 53 "IceVote$Lake" "day" "I" ∈ mj_TB := mj_wl (n := 204) wt_2 (k := 38) rfl
theorem w_205 : Cond.fieldLink RX10 184 "IceVote$Lake" "day" "I" ∈ mj_TB := mj_wl (n := 205) wt_2 (k := 39) rfl
theorem w_224 : Cond.classLink RX10 23 "IceVote$Sheet" ∈ mj_TB := mj_wl (n := 224) wt_2 (k := 40) rfl
theorem w_226 : Cond.classLink RX10 30 "IceVote$Ways" ∈ mj_TB := mj_wl (n := 226) wt_2 (k := 41) rfl
theorem w_227 : Cond.instantiable "IceVote$Ways" 2 ∈ mj_TB := mj_wl (n := 227) wt_2 (k := 42) rfl
theorem w_229 : Cond.instanceMethod yX8_init ∈ mj_TB := mj_wl (n := 229) wt_2 (k := 43) rfl
theorem w_231 : Cond.methodLink RX8 5 objectInit ∈ mj_TB := mj_wl (n := 231) wt_2 (k := 44) rfl
theorem w_232 : Cond.fieldLink RX8 11 "IceVote$Ways" "ring" "[I" ∈ mj_TB := mj_wl (n := 232) wt_2 (k := 45) rfl
theorem w_233 : Cond.fieldLink RX8 15 "IceVote$Ways" "steps" "[I" ∈ mj_TB := mj_wl (n := 233) wt_2 (k := 46) rfl
theorem w_239 : Cond.classLink RX10 37 "IceVote$Text" ∈ mj_TB := mj_wl (n := 239) wt_2 (k := 47) rfl
theorem w_240 : Cond.instantiable "IceVote$Text" 6 ∈ mj_TB := mj_wl (n := 240) wt_2 (k := 48) rfl
theorem w_242 : Cond.instanceMethod yX5_init ∈ mj_TB := mj_wl (n := 242) wt_2 (k := 49) rfl
theorem w_244 : Cond.methodLink RX5 3 objectInit ∈ mj_TB := mj_wl (n := 244) wt_2 (k := 50) rfl
theorem w_245 : Cond.fieldLink RX5 9 "IceVote$Text" "bytes" "[I" ∈ mj_TB := mj_wl (n := 245) wt_2 (k := 51) rfl
theorem w_246 : Cond.fieldLink RX5 15 "IceVote$Text" "length" "I" ∈ mj_TB := mj_wl (n := 246) wt_2 (k := 52) rfl
theorem w_247 : Cond.fieldLink RX10 139 "IceVote$Text" "length" "I" ∈ mj_TB := mj_wl (n := 247) wt_2 (k := 53) rfl
theorem w_248 : Cond.fieldLink RX5 19 "IceVote$Text" "tokens" "[I" ∈ mj_TB := mj_wl (n := 248) wt_2 (k := 54) rfl
theorem w_249 : Cond.fieldLink RX5 22 "IceVote$Text" "starts" "[I" ∈ mj_TB := mj_wl (n := 249) wt_2 (k := 55) rfl
theorem w_250 : Cond.fieldLink RX5 25 "IceVote$Text" "here" "I" ∈ mj_TB := mj_wl (n := 250) wt_2 (k := 56) rfl
theorem w_251 : Cond.fieldLink RX5 28 "IceVote$Text" "token" "I" ∈ mj_TB := mj_wl (n := 251) wt_2 (k := 57) rfl
theorem w_265 : Cond.fieldLink RX10 10 "IceVote" "now" "LIceVote$Lake;" ∈ mj_TB := mj_wl (n := 265) wt_2 (k := 58) rfl
theorem w_266 : Cond.fieldLink RX10 16 "IceVote" "told" "LIceVote$Lake;" ∈ mj_TB := mj_wl (n := 266) wt_2 (k := 59) rfl
def wl_3 : List (Nat × Cond) := [(267, Cond.fieldLink RX10 19 "IceVote" "images" "[LIceVote$Lake;"), (268, Cond.fieldLink RX10 26 "IceVote" "trial" "LIceVote$Sheet;"), (269, Cond.fieldLink RX10 33 "IceVote" "ways" "LIceVote$Ways;"), (270, Cond.fieldLink RX10 40 "IceVote" "text" "LIceVote$Text;"), (271, Cond.fieldLink RX10 44 "IceVote" "refused" "[I"), (272, Cond.fieldLink RX10 48 "IceVote" "looks" "[I"), (273, Cond.fieldLink RX10 51 "IceVote" "chance" "[J"), (274, Cond.fieldLink RX10 55 "IceVote" "chanceAfter" "[J"), (275, Cond.fieldLink RX10 58 "IceVote" "above" "J"), (276, Cond.fieldLink RX10 62 "IceVote" "below" "J"), (302, Cond.arrayClass .long), (303, Cond.methodLink RL 13 yX10_lake), (304, Cond.instanceMethod yX10_lake), (305, Cond.selects RX10 yX10_lake yX10_lake), (307, Cond.methodLink RX10 65 yX10_within), (308, Cond.static yX10_within), (310, Cond.methodLink RX10 69 yX10_bad), (312, Cond.instanceMethod yX10_bad), (314, Cond.methodLink RX10 83 yX1_restart), (315, Cond.instanceMethod yX1_restart), (316, Cond.selects RX1 yX1_restart yX1_restart), (318, Cond.methodLink RX1 79 yX4_restart), (319, Cond.instanceMethod yX4_restart), (320, Cond.selects RX4 yX4_restart yX4_restart), (322, Cond.methodLink RX4 24 yJ7_fill_53178), (323, Cond.static yJ7_fill_53178), (325, Cond.methodLink RX1 83 yX9_restart), (326, Cond.instanceMethod yX9_restart), (327, Cond.selects RX9 yX9_restart yX9_restart), (329, Cond.methodLink RX9 24 yJ7_fill_53178), (330, Cond.methodLink RX1 88 yX3_empty), (331, Cond.instanceMethod yX3_empty), (332, Cond.selects RX3 yX3_empty yX3_empty), (334, Cond.methodLink RX1 92 yX2_empty), (335, Cond.instanceMethod yX2_empty), (336, Cond.selects RX2 yX2_empty yX2_empty), (338, Cond.methodLink RX1 94 yJ7_fill_53178), (339, Cond.methodLink RL 18 yX10_cell), (340, Cond.instanceMethod yX10_cell), (341, Cond.selects RX10 yX10_cell yX10_cell), (343, Cond.methodLink RX10 87 yX10_isCell), (344, Cond.static yX10_isCell), (346, Cond.methodLink RX10 94 yX4_kindOf), (347, Cond.instanceMethod yX4_kindOf), (348, Cond.selects RX4 yX4_kindOf yX4_kindOf), (351, Cond.methodLink RX10 98 yX4_setKind), (352, Cond.instanceMethod yX4_setKind), (353, Cond.selects RX4 yX4_setKind yX4_setKind), (355, Cond.methodLink RX10 106 yX2_empty), (356, Cond.methodLink RL 23 yX10_weather), (357, Cond.instanceMethod yX10_weather), (358, Cond.selects RX10 yX10_weather yX10_weather), (360, Cond.methodLink RX10 111 yX10_isSky), (361, Cond.static yX10_isSky), (363, Cond.methodLink RX10 118 yX9_frostOn), (364, Cond.instanceMethod yX9_frostOn), (365, Cond.selects RX9 yX9_frostOn yX9_frostOn), (367, Cond.methodLink RX9 30 yJ9_floorMod_7cf53), (368, Cond.static yJ9_floorMod_7cf53), (370, Cond.methodLink RX10 123 yX9_sunOn)]
theorem wt_3 : wl_3.all (fun q => goodWord q.2 && lw_tbl[q.1]? == some q.2) = true := by decide +kernel
theorem w_267 : Cond.fieldLink RX10 19 "IceVote" "images" "[LIceVote$Lake;" ∈ mj_TB := mj_wl (n := 267) wt_3 (k := 0) rfl
theorem w_268 : Cond.fieldLink RX10 26 "IceVote" "trial" "LIceVote$Sheet;" ∈ mj_TB := mj_wl (n := 268) wt_3 (k := 1) rfl
theorem w_269 : Cond.fieldLink RX10 33 "IceVote" "ways" "LIceVote$Ways;" ∈ mj_TB := mj_wl (n := 269) wt_3 (k := 2) rfl
theorem w_270 : Cond.fieldLink RX10 40 "IceVote" "text" "LIceVote$Text;" ∈ mj_TB := mj_wl (n := 270) wt_3 (k := 3) rfl
theorem w_271 : Cond.fieldLink RX10 44 "IceVote" "refused" "[I" ∈ mj_TB := mj_wl (n := 271) wt_3 (k := 4) rfl
theorem w_272 : Cond.fieldLink RX10 48 "IceVote" "looks" "[I" ∈ mj_TB := mj_wl (n := 272) wt_3 (k := 5) rfl
theorem w_273 : Cond.fieldLink RX10 51 "IceVote" "chance" "[J" ∈ mj_TB := mj_wl (n := 273) wt_3 (k := 6) rfl
theorem w_274 : Cond.fieldLink RX10 55 "IceVote" "chanceAfter" "[J" ∈ mj_TB := mj_wl (n := 274) wt_3 (k := 7) rfl
theorem w_275 : Cond.fieldLink RX10 58 "IceVote" "above" "J" ∈ mj_TB := mj_wl (n := 275) wt_3 (k := 8) rfl
theorem w_276 : Cond.fieldLink RX10 62 "IceVote" "below" "J" ∈ mj_TB := mj_wl (n := 276) wt_3 (k := 9) rfl
theorem w_302 : Cond.arrayClass .long ∈ mj_TB := mj_wl (n := 302) wt_3 (k := 10) rfl
theorem w_303 : Cond.methodLink RL 13 yX10_lake ∈ mj_TB := mj_wl (n := 303) wt_3 (k := 11) rfl
theorem w_304 : Cond.instanceMethod yX10_lake ∈ mj_TB := mj_wl (n := 304) wt_3 (k := 12) rfl
theorem w_305 : Cond.selects RX10 yX10_lake yX10_lake ∈ mj_TB := mj_wl (n := 305) wt_3 (k := 13) rfl
theorem w_307 : Cond.methodLink RX10 65 yX10_within ∈ mj_TB := mj_wl (n := 307) wt_3 (k := 14) rfl
theorem w_308 : Cond.static yX10_within ∈ mj_TB := mj_wl (n := 308) wt_3 (k := 15) rfl
theorem w_310 : Cond.methodLink RX10 69 yX10_bad ∈ mj_TB := mj_wl (n := 310) wt_3 (k := 16) rfl
theorem w_312 : Cond.instanceMethod yX10_bad ∈ mj_TB := mj_wl (n := 312) wt_3 (k := 17) rfl
theorem w_314 : Cond.methodLink RX10 83 yX1_restart ∈ mj_TB := mj_wl (n := 314) wt_3 (k := 18) rfl
theorem w_315 : Cond.instanceMethod yX1_restart ∈ mj_TB := mj_wl (n := 315) wt_3 (k := 19) rfl
theorem w_316 : Cond.selects RX1 yX1_restart yX1_restart ∈ mj_TB := mj_wl (n := 316) wt_3 (k := 20) rfl
theorem w_318 : Cond.methodLink RX1 79 yX4_restart ∈ mj_TB := mj_wl (n := 318) wt_3 (k := 21) rfl
theorem w_319 : Cond.instanceMethod yX4_restart ∈ mj_TB := mj_wl (n := 319) wt_3 (k := 22) rfl
theorem w_320 : Cond.selects RX4 yX4_restart yX4_restart ∈ mj_TB := mj_wl (n := 320) wt_3 (k := 23) rfl
theorem w_322 : Cond.methodLink RX4 24 yJ7_fill_53178 ∈ mj_TB := mj_wl (n := 322) wt_3 (k := 24) rfl
theorem w_323 : Cond.static yJ7_fill_53178 ∈ mj_TB := mj_wl (n := 323) wt_3 (k := 25) rfl
theorem w_325 : Cond.methodLink RX1 83 yX9_restart ∈ mj_TB := mj_wl (n := 325) wt_3 (k := 26) rfl
theorem w_326 : Cond.instanceMethod yX9_restart ∈ mj_TB := mj_wl (n := 326) wt_3 (k := 27) rfl
theorem w_327 : Cond.selects RX9 yX9_restart yX9_restart ∈ mj_TB := mj_wl (n := 327) wt_3 (k := 28) rfl
theorem w_329 : Cond.methodLink RX9 24 yJ7_fill_53178 ∈ mj_TB := mj_wl (n := 329) wt_3 (k := 29) rfl
theorem w_330 : Cond.methodLink RX1 88 yX3_empty ∈ mj_TB := mj_wl (n := 330) wt_3 (k := 30) rfl
theorem w_331 : Cond.instanceMethod yX3_empty ∈ mj_TB := mj_wl (n := 331) wt_3 (k := 31) rfl
theorem w_332 : Cond.selects RX3 yX3_empty yX3_empty ∈ mj_TB := mj_wl (n := 332) wt_3 (k := 32) rfl
theorem w_334 : Cond.methodLink RX1 92 yX2_empty ∈ mj_TB := mj_wl (n := 334) wt_3 (k := 33) rfl
theorem w_335 : Cond.instanceMethod yX2_empty ∈ mj_TB := mj_wl (n := 335) wt_3 (k := 34) rfl
theorem w_336 : Cond.selects RX2 yX2_empty yX2_empty ∈ mj_TB := mj_wl (n := 336) wt_3 (k := 35) rfl
theorem w_338 : Cond.methodLink RX1 94 yJ7_fill_53178 ∈ mj_TB := mj_wl (n := 338) wt_3 (k := 36) rfl
theorem w_339 : Cond.methodLink RL 18 yX10_cell ∈ mj_TB := mj_wl (n := 339) wt_3 (k := 37) rfl
theorem w_340 : Cond.instanceMethod yX10_cell ∈ mj_TB := mj_wl (n := 340) wt_3 (k := 38) rfl
theorem w_341 : Cond.selects RX10 yX10_cell yX10_cell ∈ mj_TB := mj_wl (n := 341) wt_3 (k := 39) rfl
theorem w_343 : Cond.methodLink RX10 87 yX10_isCell ∈ mj_TB := mj_wl (n := 343) wt_3 (k := 40) rfl
theorem w_344 : Cond.static yX10_isCell ∈ mj_TB := mj_wl (n := 344) wt_3 (k := 41) rfl
theorem w_346 : Cond.methodLink RX10 94 yX4_kindOf ∈ mj_TB := mj_wl (n := 346) wt_3 (k := 42) rfl
theorem w_347 : Cond.instanceMethod yX4_kindOf ∈ mj_TB := mj_wl (n := 347) wt_3 (k := 43) rfl
theorem w_348 : Cond.selects RX4 yX4_kindOf yX4_kindOf ∈ mj_TB := mj_wl (n := 348) wt_3 (k := 44) rfl
theorem w_351 : Cond.methodLink RX10 98 yX4_setKind ∈ mj_TB := mj_wl (n := 351) wt_3 (k := 45) rfl
theorem w_352 : Cond.instanceMethod yX4_setKind ∈ mj_TB := mj_wl (n := 352) wt_3 (k := 46) rfl
theorem w_353 : Cond.selects RX4 yX4_setKind yX4_setKind ∈ mj_TB := mj_wl (n := 353) wt_3 (k := 47) rfl
theorem w_355 : Cond.methodLink RX10 106 yX2_empty ∈ mj_TB := mj_wl (n := 355) wt_3 (k := 48) rfl
theorem w_356 : Cond.methodLink RL 23 yX10_weather ∈ mj_TB := mj_wl (n := 356) wt_3 (k := 49) rfl
theorem w_357 : Cond.instanceMethod yX10_weather ∈ mj_TB := mj_wl (n := 357) wt_3 (k := 50) rfl
theorem w_358 : Cond.selects RX10 yX10_weather yX10_weather ∈ mj_TB := mj_wl (n := 358) wt_3 (k := 51) rfl
theorem w_360 : Cond.methodLink RX10 111 yX10_isSky ∈ mj_TB := mj_wl (n := 360) wt_3 (k := 52) rfl
theorem w_361 : Cond.static yX10_isSky ∈ mj_TB := mj_wl (n := 361) wt_3 (k := 53) rfl
theorem w_363 : Cond.methodLink RX10 118 yX9_frostOn ∈ mj_TB := mj_wl (n := 363) wt_3 (k := 54) rfl
theorem w_364 : Cond.instanceMethod yX9_frostOn ∈ mj_TB := mj_wl (n := 364) wt_3 (k := 55) rfl
theorem w_365 : Cond.selects RX9 yX9_frostOn yX9_frostOn ∈ mj_TB := mj_wl (n := 365) wt_3 (k := 56) rfl
theorem w_367 : Cond.methodLink RX9 30 yJ9_floorMod_7cf53 ∈ mj_TB := mj_wl (n := 367) wt_3 (k := 57) rfl
theorem w_368 : Cond.static yJ9_floorMod_7cf53 ∈ mj_TB := mj_wl (n := 368) wt_3 (k := 58) rfl
theorem w_370 : Cond.methodLink RX10 123 yX9_sunOn ∈ mj_TB := mj_wl (n := 370) wt_3 (k := 59) rfl
def wl_4 : List (Nat × Cond) := [(371, Cond.instanceMethod yX9_sunOn), (372, Cond.selects RX9 yX9_sunOn yX9_sunOn), (374, Cond.methodLink RX10 126 yX9_set), (375, Cond.instanceMethod yX9_set), (376, Cond.selects RX9 yX9_set yX9_set), (378, Cond.methodLink RL 28 yX10_ward), (379, Cond.instanceMethod yX10_ward), (380, Cond.selects RX10 yX10_ward yX10_ward), (382, Cond.methodLink RL 32 yX10_voter), (383, Cond.instanceMethod yX10_voter), (384, Cond.selects RX10 yX10_voter yX10_voter), (386, Cond.methodLink RX10 133 yX10_full), (388, Cond.instanceMethod yX10_full), (390, Cond.methodLink RX10 136 yX7_add), (391, Cond.instanceMethod yX7_add), (392, Cond.selects RX7 yX7_add yX7_add), (395, Cond.methodLink RL 36 yX10_type), (396, Cond.instanceMethod yX10_type), (397, Cond.selects RX10 yX10_type yX10_type), (399, Cond.methodLink RX10 142 yX5_add), (400, Cond.instanceMethod yX5_add), (401, Cond.selects RX5 yX5_add yX5_add), (404, Cond.methodLink RL 40 yX10_clear), (405, Cond.instanceMethod yX10_clear), (406, Cond.selects RX10 yX10_clear yX10_clear), (408, Cond.methodLink RL 45 yX10_read), (409, Cond.instanceMethod yX10_read), (410, Cond.selects RX10 yX10_read yX10_read), (412, Cond.methodLink RX10 144 yX5_tell), (413, Cond.instanceMethod yX5_tell), (414, Cond.selects RX5 yX5_tell yX5_tell), (416, Cond.methodLink RX5 35 yX5_findTokens), (418, Cond.instanceMethod yX5_findTokens), (420, Cond.methodLink RX5 107 yX5_endOfRun), (422, Cond.instanceMethod yX5_endOfRun), (424, Cond.methodLink RX5 119 yX5_byteAt), (426, Cond.instanceMethod yX5_byteAt), (428, Cond.methodLink RX5 111 yX5_endOfToken), (430, Cond.instanceMethod yX5_endOfToken), (432, Cond.methodLink RX5 122 Lib.Math.min.name), (433, Cond.static Lib.Math.min.name), (435, Cond.methodLink RX5 115 yX5_tokenIn), (437, Cond.instanceMethod yX5_tokenIn), (439, Cond.methodLink RX5 127 yX5_wordIn), (441, Cond.instanceMethod yX5_wordIn), (444, Cond.methodLink RX5 135 yX5_isWord), (446, Cond.instanceMethod yX5_isWord), (448, Cond.methodLink RX5 144 yJ0_length_8abf5), (449, Cond.instanceMethod yJ0_length_8abf5), (450, Cond.selects RJ0 yJ0_length_8abf5 yJ0_length_8abf5), (452, Cond.methodLink RJ0 335 yJ0_coder_7d493), (453, Cond.instanceMethod yJ0_coder_7d493), (454, Cond.selects RJ0 yJ0_coder_7d493 yJ0_coder_7d493), (458, Cond.methodLink RX5 148 yJ0_charAt_5068e), (459, Cond.instanceMethod yJ0_charAt_5068e), (460, Cond.selects RJ0 yJ0_charAt_5068e yJ0_charAt_5068e), (462, Cond.methodLink RJ0 492 yJ0_isLatin1_aae02), (463, Cond.instanceMethod yJ0_isLatin1_aae02), (464, Cond.selects RJ0 yJ0_isLatin1_aae02 yJ0_isLatin1_aae02), (466, Cond.methodLink RJ0 495 yJ1_charAt_3b067)]
theorem wt_4 : wl_4.all (fun q => goodWord q.2 && lw_tbl[q.1]? == some q.2) = true := by decide +kernel
theorem w_371 : Cond.instanceMethod yX9_sunOn ∈ mj_TB := mj_wl (n := 371) wt_4 (k := 0) rfl
theorem w_372 : Cond.selects RX9 yX9_sunOn yX9_sunOn ∈ mj_TB := mj_wl (n := 372) wt_4 (k := 1) rfl
theorem w_374 : Cond.methodLink RX10 126 yX9_set ∈ mj_TB := mj_wl (n := 374) wt_4 (k := 2) rfl
theorem w_375 : Cond.instanceMethod yX9_set ∈ mj_TB := mj_wl (n := 375) wt_4 (k := 3) rfl
theorem w_376 : Cond.selects RX9 yX9_set yX9_set ∈ mj_TB := mj_wl (n := 376) wt_4 (k := 4) rfl
theorem w_378 : Cond.methodLink RL 28 yX10_ward ∈ mj_TB := mj_wl (n := 378) wt_4 (k := 5) rfl
theorem w_379 : Cond.instanceMethod yX10_ward ∈ mj_TB := mj_wl (n := 379) wt_4 (k := 6) rfl
theorem w_380 : Cond.selects RX10 yX10_ward yX10_ward ∈ mj_TB := mj_wl (n := 380) wt_4 (k := 7) rfl
theorem w_382 : Cond.methodLink RL 32 yX10_voter ∈ mj_TB := mj_wl (n := 382) wt_4 (k := 8) rfl
theorem w_383 : Cond.instanceMethod yX10_voter ∈ mj_TB := mj_wl (n := 383) wt_4 (k := 9) rfl
theorem w_384 : Cond.selects RX10 yX10_voter yX10_voter ∈ mj_TB := mj_wl (n := 384) wt_4 (k := 10) rfl
theorem w_386 : Cond.methodLink RX10 133 yX10_full ∈ mj_TB := mj_wl (n := 386) wt_4 (k := 11) rfl
theorem w_388 : Cond.instanceMethod yX10_full ∈ mj_TB := mj_wl (n := 388) wt_4 (k := 12) rfl
theorem w_390 : Cond.methodLink RX10 136 yX7_add ∈ mj_TB := mj_wl (n := 390) wt_4 (k := 13) rfl
theorem w_391 : Cond.instanceMethod yX7_add ∈ mj_TB := mj_wl (n := 391) wt_4 (k := 14) rfl
theorem w_392 : Cond.selects RX7 yX7_add yX7_add ∈ mj_TB := mj_wl (n := 392) wt_4 (k := 15) rfl
theorem w_395 : Cond.methodLink RL 36 yX10_type ∈ mj_TB := mj_wl (n := 395) wt_4 (k := 16) rfl
theorem w_396 : Cond.instanceMethod yX10_type ∈ mj_TB := mj_wl (n := 396) wt_4 (k := 17) rfl
theorem w_397 : Cond.selects RX10 yX10_type yX10_type ∈ mj_TB := mj_wl (n := 397) wt_4 (k := 18) rfl
theorem w_399 : Cond.methodLink RX10 142 yX5_add ∈ mj_TB := mj_wl (n := 399) wt_4 (k := 19) rfl
theorem w_400 : Cond.instanceMethod yX5_add ∈ mj_TB := mj_wl (n := 400) wt_4 (k := 20) rfl
theorem w_401 : Cond.selects RX5 yX5_add yX5_add ∈ mj_TB := mj_wl (n := 401) wt_4 (k := 21) rfl
theorem w_404 : Cond.methodLink RL 40 yX10_clear ∈ mj_TB := mj_wl (n := 404) wt_4 (k := 22) rfl
theorem w_405 : Cond.instanceMethod yX10_clear ∈ mj_TB := mj_wl (n := 405) wt_4 (k := 23) rfl
theorem w_406 : Cond.selects RX10 yX10_clear yX10_clear ∈ mj_TB := mj_wl (n := 406) wt_4 (k := 24) rfl
theorem w_408 : Cond.methodLink RL 45 yX10_read ∈ mj_TB := mj_wl (n := 408) wt_4 (k := 25) rfl
theorem w_409 : Cond.instanceMethod yX10_read ∈ mj_TB := mj_wl (n := 409) wt_4 (k := 26) rfl
theorem w_410 : Cond.selects RX10 yX10_read yX10_read ∈ mj_TB := mj_wl (n := 410) wt_4 (k := 27) rfl
theorem w_412 : Cond.methodLink RX10 144 yX5_tell ∈ mj_TB := mj_wl (n := 412) wt_4 (k := 28) rfl
theorem w_413 : Cond.instanceMethod yX5_tell ∈ mj_TB := mj_wl (n := 413) wt_4 (k := 29) rfl
theorem w_414 : Cond.selects RX5 yX5_tell yX5_tell ∈ mj_TB := mj_wl (n := 414) wt_4 (k := 30) rfl
theorem w_416 : Cond.methodLink RX5 35 yX5_findTokens ∈ mj_TB := mj_wl (n := 416) wt_4 (k := 31) rfl
theorem w_418 : Cond.instanceMethod yX5_findTokens ∈ mj_TB := mj_wl (n := 418) wt_4 (k := 32) rfl
theorem w_420 : Cond.methodLink RX5 107 yX5_endOfRun ∈ mj_TB := mj_wl (n := 420) wt_4 (k := 33) rfl
theorem w_422 : Cond.instanceMethod yX5_endOfRun ∈ mj_TB := mj_wl (n := 422) wt_4 (k := 34) rfl
theorem w_424 : Cond.methodLink RX5 119 yX5_byteAt ∈ mj_TB := mj_wl (n := 424) wt_4 (k := 35) rfl
theorem w_426 : Cond.instanceMethod yX5_byteAt ∈ mj_TB := mj_wl (n := 426) wt_4 (k := 36) rfl
theorem w_428 : Cond.methodLink RX5 111 yX5_endOfToken ∈ mj_TB := mj_wl (n := 428) wt_4 (k := 37) rfl
theorem w_430 : Cond.instanceMethod yX5_endOfToken ∈ mj_TB := mj_wl (n := 430) wt_4 (k := 38) rfl
theorem w_432 : Cond.methodLink RX5 122 Lib.Math.min.name ∈ mj_TB := mj_wl (n := 432) wt_4 (k := 39) rfl
theorem w_433 : Cond.static Lib.Math.min.name ∈ mj_TB := mj_wl (n := 433) wt_4 (k := 40) rfl
theorem w_435 : Cond.methodLink RX5 115 yX5_tokenIn ∈ mj_TB := mj_wl (n := 435) wt_4 (k := 41) rfl
theorem w_437 : Cond.instanceMethod yX5_tokenIn ∈ mj_TB := mj_wl (n := 437) wt_4 (k := 42) rfl
theorem w_439 : Cond.methodLink RX5 127 yX5_wordIn ∈ mj_TB := mj_wl (n := 439) wt_4 (k := 43) rfl
theorem w_441 : Cond.instanceMethod yX5_wordIn ∈ mj_TB := mj_wl (n := 441) wt_4 (k := 44) rfl
theorem w_444 : Cond.methodLink RX5 135 yX5_isWord ∈ mj_TB := mj_wl (n := 444) wt_4 (k := 45) rfl
theorem w_446 : Cond.instanceMethod yX5_isWord ∈ mj_TB := mj_wl (n := 446) wt_4 (k := 46) rfl
theorem w_448 : Cond.methodLink RX5 144 yJ0_length_8abf5 ∈ mj_TB := mj_wl (n := 448) wt_4 (k := 47) rfl
theorem w_449 : Cond.instanceMethod yJ0_length_8abf5 ∈ mj_TB := mj_wl (n := 449) wt_4 (k := 48) rfl
theorem w_450 : Cond.selects RJ0 yJ0_length_8abf5 yJ0_length_8abf5 ∈ mj_TB := mj_wl (n := 450) wt_4 (k := 49) rfl
theorem w_452 : Cond.methodLink RJ0 335 yJ0_coder_7d493 ∈ mj_TB := mj_wl (n := 452) wt_4 (k := 50) rfl
theorem w_453 : Cond.instanceMethod yJ0_coder_7d493 ∈ mj_TB := mj_wl (n := 453) wt_4 (k := 51) rfl
theorem w_454 : Cond.selects RJ0 yJ0_coder_7d493 yJ0_coder_7d493 ∈ mj_TB := mj_wl (n := 454) wt_4 (k := 52) rfl
theorem w_458 : Cond.methodLink RX5 148 yJ0_charAt_5068e ∈ mj_TB := mj_wl (n := 458) wt_4 (k := 53) rfl
theorem w_459 : Cond.instanceMethod yJ0_charAt_5068e ∈ mj_TB := mj_wl (n := 459) wt_4 (k := 54) rfl
theorem w_460 : Cond.selects RJ0 yJ0_charAt_5068e yJ0_charAt_5068e ∈ mj_TB := mj_wl (n := 460) wt_4 (k := 55) rfl
theorem w_462 : Cond.methodLink RJ0 492 yJ0_isLatin1_aae02 ∈ mj_TB := mj_wl (n := 462) wt_4 (k := 56) rfl
theorem w_463 : Cond.instanceMethod yJ0_isLatin1_aae02 ∈ mj_TB := mj_wl (n := 463) wt_4 (k := 57) rfl
theorem w_464 : Cond.selects RJ0 yJ0_isLatin1_aae02 yJ0_isLatin1_aae02 ∈ mj_TB := mj_wl (n := 464) wt_4 (k := 58) rfl
theorem w_466 : Cond.methodLink RJ0 495 yJ1_charAt_3b067 ∈ mj_TB := mj_wl (n := 466) wt_4 (k := 59) rfl
def wl_5 : List (Nat × Cond) := [(467, Cond.static yJ1_charAt_3b067), (469, Cond.methodLink RJ1 9 yJ0_checkIndex_df160), (470, Cond.static yJ0_checkIndex_df160), (474, Cond.methodLink RJ0 1059 yJ3_checkIndex_8e157), (475, Cond.static yJ3_checkIndex_8e157), (477, Cond.methodLink RJ0 498 yJ2_charAt_3b067), (478, Cond.static yJ2_charAt_3b067), (480, Cond.methodLink RJ2 67 yJ2_checkIndex_2214a), (481, Cond.static yJ2_checkIndex_2214a), (483, Cond.methodLink RJ2 48 yJ2_length_9d52b), (484, Cond.static yJ2_length_9d52b), (486, Cond.methodLink RJ2 414 yJ0_checkIndex_df160), (487, Cond.methodLink RJ2 71 yJ2_getChar_3b067), (488, Cond.static yJ2_getChar_3b067), (499, Cond.methodLink RX5 130 yX5_numberIn), (501, Cond.instanceMethod yX5_numberIn), (503, Cond.methodLink RX5 38 yX5_numberComes), (505, Cond.instanceMethod yX5_numberComes), (507, Cond.methodLink RX5 56 yX5_advance), (509, Cond.instanceMethod yX5_advance), (511, Cond.methodLink RX5 42 yX5_fault), (513, Cond.instanceMethod yX5_fault), (515, Cond.methodLink RX5 46 yX1_restart), (516, Cond.methodLink RX5 52 yX5_stopComes), (518, Cond.instanceMethod yX5_stopComes), (520, Cond.methodLink RX5 59 yX5_itemComes), (522, Cond.instanceMethod yX5_itemComes), (524, Cond.methodLink RX5 67 yX5_cellsCome), (526, Cond.instanceMethod yX5_cellsCome), (528, Cond.methodLink RX5 92 yX4_setKind), (529, Cond.methodLink RX5 75 yX5_pairsCome), (531, Cond.instanceMethod yX5_pairsCome), (533, Cond.methodLink RX5 98 yX9_set), (534, Cond.methodLink RX5 88 yX5_voterComes), (536, Cond.instanceMethod yX5_voterComes), (538, Cond.methodLink RX5 104 yX7_add), (539, Cond.methodLink RX10 148 yX1_copy), (540, Cond.instanceMethod yX1_copy), (541, Cond.selects RX1 yX1_copy yX1_copy), (543, Cond.methodLink RX1 57 yX4_copy), (544, Cond.instanceMethod yX4_copy), (545, Cond.selects RX4 yX4_copy yX4_copy), (547, Cond.methodLink RX4 18 arraycopyName), (548, Cond.static arraycopyName), (549, Cond.native arraycopyName), (550, Cond.methodLink RX1 61 yX9_copy), (551, Cond.instanceMethod yX9_copy), (552, Cond.selects RX9 yX9_copy yX9_copy), (554, Cond.methodLink RX9 18 arraycopyName), (555, Cond.methodLink RX1 64 yX7_copy), (556, Cond.instanceMethod yX7_copy), (557, Cond.selects RX7 yX7_copy yX7_copy), (559, Cond.methodLink RX7 25 arraycopyName), (560, Cond.methodLink RX1 67 yX3_copy), (561, Cond.instanceMethod yX3_copy), (562, Cond.selects RX3 yX3_copy yX3_copy), (564, Cond.methodLink RX3 19 arraycopyName), (565, Cond.methodLink RX1 70 yX2_copy), (566, Cond.instanceMethod yX2_copy), (567, Cond.selects RX2 yX2_copy yX2_copy)]
theorem wt_5 : wl_5.all (fun q => goodWord q.2 && lw_tbl[q.1]? == some q.2) = true := by decide +kernel
theorem w_467 : Cond.static yJ1_charAt_3b067 ∈ mj_TB := mj_wl (n := 467) wt_5 (k := 0) rfl
theorem w_469 : Cond.methodLink RJ1 9 yJ0_checkIndex_df160 ∈ mj_TB := mj_wl (n := 469) wt_5 (k := 1) rfl
theorem w_470 : Cond.static yJ0_checkIndex_df160 ∈ mj_TB := mj_wl (n := 470) wt_5 (k := 2) rfl
theorem w_474 : Cond.methodLink RJ0 1059 yJ3_checkIndex_8e157 ∈ mj_TB := mj_wl (n := 474) wt_5 (k := 3) rfl
theorem w_475 : Cond.static yJ3_checkIndex_8e157 ∈ mj_TB := mj_wl (n := 475) wt_5 (k := 4) rfl
theorem w_477 : Cond.methodLink RJ0 498 yJ2_charAt_3b067 ∈ mj_TB := mj_wl (n := 477) wt_5 (k := 5) rfl
theorem w_478 : Cond.static yJ2_charAt_3b067 ∈ mj_TB := mj_wl (n := 478) wt_5 (k := 6) rfl
theorem w_480 : Cond.methodLink RJ2 67 yJ2_checkIndex_2214a ∈ mj_TB := mj_wl (n := 480) wt_5 (k := 7) rfl
theorem w_481 : Cond.static yJ2_checkIndex_2214a ∈ mj_TB := mj_wl (n := 481) wt_5 (k := 8) rfl
theorem w_483 : Cond.methodLink RJ2 48 yJ2_length_9d52b ∈ mj_TB := mj_wl (n := 483) wt_5 (k := 9) rfl
theorem w_484 : Cond.static yJ2_length_9d52b ∈ mj_TB := mj_wl (n := 484) wt_5 (k := 10) rfl
theorem w_486 : Cond.methodLink RJ2 414 yJ0_checkIndex_df160 ∈ mj_TB := mj_wl (n := 486) wt_5 (k := 11) rfl
theorem w_487 : Cond.methodLink RJ2 71 yJ2_getChar_3b067 ∈ mj_TB := mj_wl (n := 487) wt_5 (k := 12) rfl
theorem w_488 : Cond.static yJ2_getChar_3b067 ∈ mj_TB := mj_wl (n := 488) wt_5 (k := 13) rfl
theorem w_499 : Cond.methodLink RX5 130 yX5_numberIn ∈ mj_TB := mj_wl (n := 499) wt_5 (k := 14) rfl
theorem w_501 : Cond.instanceMethod yX5_numberIn ∈ mj_TB := mj_wl (n := 501) wt_5 (k := 15) rfl
theorem w_503 : Cond.methodLink RX5 38 yX5_numberComes ∈ mj_TB := mj_wl (n := 503) wt_5 (k := 16) rfl
theorem w_505 : Cond.instanceMethod yX5_numberComes ∈ mj_TB := mj_wl (n := 505) wt_5 (k := 17) rfl
theorem w_507 : Cond.methodLink RX5 56 yX5_advance ∈ mj_TB := mj_wl (n := 507) wt_5 (k := 18) rfl
theorem w_509 : Cond.instanceMethod yX5_advance ∈ mj_TB := mj_wl (n := 509) wt_5 (k := 19) rfl
theorem w_511 : Cond.methodLink RX5 42 yX5_fault ∈ mj_TB := mj_wl (n := 511) wt_5 (k := 20) rfl
theorem w_513 : Cond.instanceMethod yX5_fault ∈ mj_TB := mj_wl (n := 513) wt_5 (k := 21) rfl
theorem w_515 : Cond.methodLink RX5 46 yX1_restart ∈ mj_TB := mj_wl (n := 515) wt_5 (k := 22) rfl
theorem w_516 : Cond.methodLink RX5 52 yX5_stopComes ∈ mj_TB := mj_wl (n := 516) wt_5 (k := 23) rfl
theorem w_518 : Cond.instanceMethod yX5_stopComes ∈ mj_TB := mj_wl (n := 518) wt_5 (k := 24) rfl
theorem w_520 : Cond.methodLink RX5 59 yX5_itemComes ∈ mj_TB := mj_wl (n := 520) wt_5 (k := 25) rfl
theorem w_522 : Cond.instanceMethod yX5_itemComes ∈ mj_TB := mj_wl (n := 522) wt_5 (k := 26) rfl
theorem w_524 : Cond.methodLink RX5 67 yX5_cellsCome ∈ mj_TB := mj_wl (n := 524) wt_5 (k := 27) rfl
theorem w_526 : Cond.instanceMethod yX5_cellsCome ∈ mj_TB := mj_wl (n := 526) wt_5 (k := 28) rfl
theorem w_528 : Cond.methodLink RX5 92 yX4_setKind ∈ mj_TB := mj_wl (n := 528) wt_5 (k := 29) rfl
theorem w_529 : Cond.methodLink RX5 75 yX5_pairsCome ∈ mj_TB := mj_wl (n := 529) wt_5 (k := 30) rfl
theorem w_531 : Cond.instanceMethod yX5_pairsCome ∈ mj_TB := mj_wl (n := 531) wt_5 (k := 31) rfl
theorem w_533 : Cond.methodLink RX5 98 yX9_set ∈ mj_TB := mj_wl (n := 533) wt_5 (k := 32) rfl
theorem w_534 : Cond.methodLink RX5 88 yX5_voterComes ∈ mj_TB := mj_wl (n := 534) wt_5 (k := 33) rfl
theorem w_536 : Cond.instanceMethod yX5_voterComes ∈ mj_TB := mj_wl (n := 536) wt_5 (k := 34) rfl
theorem w_538 : Cond.methodLink RX5 104 yX7_add ∈ mj_TB := mj_wl (n := 538) wt_5 (k := 35) rfl
theorem w_539 : Cond.methodLink RX10 148 yX1_copy ∈ mj_TB := mj_wl (n := 539) wt_5 (k := 36) rfl
theorem w_540 : Cond.instanceMethod yX1_copy ∈ mj_TB := mj_wl (n := 540) wt_5 (k := 37) rfl
theorem w_541 : Cond.selects RX1 yX1_copy yX1_copy ∈ mj_TB := mj_wl (n := 541) wt_5 (k := 38) rfl
theorem w_543 : Cond.methodLink RX1 57 yX4_copy ∈ mj_TB := mj_wl (n := 543) wt_5 (k := 39) rfl
theorem w_544 : Cond.instanceMethod yX4_copy ∈ mj_TB := mj_wl (n := 544) wt_5 (k := 40) rfl
theorem w_545 : Cond.selects RX4 yX4_copy yX4_copy ∈ mj_TB := mj_wl (n := 545) wt_5 (k := 41) rfl
theorem w_547 : Cond.methodLink RX4 18 arraycopyName ∈ mj_TB := mj_wl (n := 547) wt_5 (k := 42) rfl
theorem w_548 : Cond.static arraycopyName ∈ mj_TB := mj_wl (n := 548) wt_5 (k := 43) rfl
theorem w_549 : Cond.native arraycopyName ∈ mj_TB := mj_wl (n := 549) wt_5 (k := 44) rfl
theorem w_550 : Cond.methodLink RX1 61 yX9_copy ∈ mj_TB := mj_wl (n := 550) wt_5 (k := 45) rfl
theorem w_551 : Cond.instanceMethod yX9_copy ∈ mj_TB := mj_wl (n := 551) wt_5 (k := 46) rfl
theorem w_552 : Cond.selects RX9 yX9_copy yX9_copy ∈ mj_TB := mj_wl (n := 552) wt_5 (k := 47) rfl
theorem w_554 : Cond.methodLink RX9 18 arraycopyName ∈ mj_TB := mj_wl (n := 554) wt_5 (k := 48) rfl
theorem w_555 : Cond.methodLink RX1 64 yX7_copy ∈ mj_TB := mj_wl (n := 555) wt_5 (k := 49) rfl
theorem w_556 : Cond.instanceMethod yX7_copy ∈ mj_TB := mj_wl (n := 556) wt_5 (k := 50) rfl
theorem w_557 : Cond.selects RX7 yX7_copy yX7_copy ∈ mj_TB := mj_wl (n := 557) wt_5 (k := 51) rfl
theorem w_559 : Cond.methodLink RX7 25 arraycopyName ∈ mj_TB := mj_wl (n := 559) wt_5 (k := 52) rfl
theorem w_560 : Cond.methodLink RX1 67 yX3_copy ∈ mj_TB := mj_wl (n := 560) wt_5 (k := 53) rfl
theorem w_561 : Cond.instanceMethod yX3_copy ∈ mj_TB := mj_wl (n := 561) wt_5 (k := 54) rfl
theorem w_562 : Cond.selects RX3 yX3_copy yX3_copy ∈ mj_TB := mj_wl (n := 562) wt_5 (k := 55) rfl
theorem w_564 : Cond.methodLink RX3 19 arraycopyName ∈ mj_TB := mj_wl (n := 564) wt_5 (k := 56) rfl
theorem w_565 : Cond.methodLink RX1 70 yX2_copy ∈ mj_TB := mj_wl (n := 565) wt_5 (k := 57) rfl
theorem w_566 : Cond.instanceMethod yX2_copy ∈ mj_TB := mj_wl (n := 566) wt_5 (k := 58) rfl
theorem w_567 : Cond.selects RX2 yX2_copy yX2_copy ∈ mj_TB := mj_wl (n := 567) wt_5 (k := 59) rfl
def wl_6 : List (Nat × Cond) := [(569, Cond.methodLink RX2 22 arraycopyName), (570, Cond.methodLink RX1 73 arraycopyName), (572, Cond.methodLink RL 49 yX10_day), (573, Cond.instanceMethod yX10_day), (574, Cond.selects RX10 yX10_day yX10_day), (576, Cond.methodLink RX10 152 yX1_keepPast), (577, Cond.instanceMethod yX1_keepPast), (578, Cond.selects RX1 yX1_keepPast yX1_keepPast), (580, Cond.methodLink RX1 104 yX2_keep), (581, Cond.instanceMethod yX2_keep), (582, Cond.selects RX2 yX2_keep yX2_keep), (584, Cond.methodLink RX2 28 yX2_dropOldest), (586, Cond.instanceMethod yX2_dropOldest), (589, Cond.methodLink RX10 155 yX1_passDays), (590, Cond.instanceMethod yX1_passDays), (591, Cond.selects RX1 yX1_passDays yX1_passDays), (593, Cond.methodLink RX1 100 yX9_frostOn), (594, Cond.methodLink RX1 108 yX9_sunOn), (595, Cond.methodLink RX1 111 yX4_passDay), (596, Cond.instanceMethod yX4_passDay), (597, Cond.selects RX4 yX4_passDay yX4_passDay), (599, Cond.methodLink RX4 40 yX0_after), (600, Cond.static yX0_after), (602, Cond.methodLink RX0 9 yX0_grows), (603, Cond.static yX0_grows), (605, Cond.methodLink RX0 27 yX0_streamGrows), (606, Cond.static yX0_streamGrows), (608, Cond.methodLink RX0 24 Lib.Math.max.name), (609, Cond.static Lib.Math.max.name), (611, Cond.methodLink RX0 15 Lib.Math.min.name), (612, Cond.methodLink RX0 21 yX0_melts), (613, Cond.static yX0_melts), (615, Cond.methodLink RX10 158 yX4_together), (616, Cond.instanceMethod yX4_together), (617, Cond.selects RX4 yX4_together yX4_together), (619, Cond.methodLink RL 53 yX10_tread), (620, Cond.instanceMethod yX10_tread), (621, Cond.selects RX10 yX10_tread yX10_tread), (623, Cond.methodLink RX10 161 yX4_bears), (624, Cond.instanceMethod yX4_bears), (625, Cond.selects RX4 yX4_bears yX4_bears), (627, Cond.methodLink RX4 34 yX0_bears), (628, Cond.static yX0_bears), (630, Cond.methodLink RX10 164 yX4_iceOf), (631, Cond.instanceMethod yX4_iceOf), (632, Cond.selects RX4 yX4_iceOf yX4_iceOf), (634, Cond.methodLink RX10 167 Lib.Math.max.name), (635, Cond.methodLink RX10 173 yX4_setIce), (636, Cond.instanceMethod yX4_setIce), (637, Cond.selects RX4 yX4_setIce yX4_setIce), (639, Cond.methodLink RL 57 yX10_stone), (640, Cond.instanceMethod yX10_stone), (641, Cond.selects RX10 yX10_stone yX10_stone), (643, Cond.methodLink RL 61 yX10_undo), (644, Cond.instanceMethod yX10_undo), (645, Cond.selects RX10 yX10_undo yX10_undo), (647, Cond.methodLink RX10 177 yX10_no), (649, Cond.instanceMethod yX10_no), (651, Cond.methodLink RX10 180 yX2_goBack), (652, Cond.instanceMethod yX2_goBack)]
theorem wt_6 : wl_6.all (fun q => goodWord q.2 && lw_tbl[q.1]? == some q.2) = true := by decide +kernel
theorem w_569 : Cond.methodLink RX2 22 arraycopyName ∈ mj_TB := mj_wl (n := 569) wt_6 (k := 0) rfl
theorem w_570 : Cond.methodLink RX1 73 arraycopyName ∈ mj_TB := mj_wl (n := 570) wt_6 (k := 1) rfl
theorem w_572 : Cond.methodLink RL 49 yX10_day ∈ mj_TB := mj_wl (n := 572) wt_6 (k := 2) rfl
theorem w_573 : Cond.instanceMethod yX10_day ∈ mj_TB := mj_wl (n := 573) wt_6 (k := 3) rfl
theorem w_574 : Cond.selects RX10 yX10_day yX10_day ∈ mj_TB := mj_wl (n := 574) wt_6 (k := 4) rfl
theorem w_576 : Cond.methodLink RX10 152 yX1_keepPast ∈ mj_TB := mj_wl (n := 576) wt_6 (k := 5) rfl
theorem w_577 : Cond.instanceMethod yX1_keepPast ∈ mj_TB := mj_wl (n := 577) wt_6 (k := 6) rfl
theorem w_578 : Cond.selects RX1 yX1_keepPast yX1_keepPast ∈ mj_TB := mj_wl (n := 578) wt_6 (k := 7) rfl
theorem w_580 : Cond.methodLink RX1 104 yX2_keep ∈ mj_TB := mj_wl (n := 580) wt_6 (k := 8) rfl
theorem w_581 : Cond.instanceMethod yX2_keep ∈ mj_TB := mj_wl (n := 581) wt_6 (k := 9) rfl
theorem w_582 : Cond.selects RX2 yX2_keep yX2_keep ∈ mj_TB := mj_wl (n := 582) wt_6 (k := 10) rfl
theorem w_584 : Cond.methodLink RX2 28 yX2_dropOldest ∈ mj_TB := mj_wl (n := 584) wt_6 (k := 11) rfl
theorem w_586 : Cond.instanceMethod yX2_dropOldest ∈ mj_TB := mj_wl (n := 586) wt_6 (k := 12) rfl
theorem w_589 : Cond.methodLink RX10 155 yX1_passDays ∈ mj_TB := mj_wl (n := 589) wt_6 (k := 13) rfl
theorem w_590 : Cond.instanceMethod yX1_passDays ∈ mj_TB := mj_wl (n := 590) wt_6 (k := 14) rfl
theorem w_591 : Cond.selects RX1 yX1_passDays yX1_passDays ∈ mj_TB := mj_wl (n := 591) wt_6 (k := 15) rfl
theorem w_593 : Cond.methodLink RX1 100 yX9_frostOn ∈ mj_TB := mj_wl (n := 593) wt_6 (k := 16) rfl
theorem w_594 : Cond.methodLink RX1 108 yX9_sunOn ∈ mj_TB := mj_wl (n := 594) wt_6 (k := 17) rfl
theorem w_595 : Cond.methodLink RX1 111 yX4_passDay ∈ mj_TB := mj_wl (n := 595) wt_6 (k := 18) rfl
theorem w_596 : Cond.instanceMethod yX4_passDay ∈ mj_TB := mj_wl (n := 596) wt_6 (k := 19) rfl
theorem w_597 : Cond.selects RX4 yX4_passDay yX4_passDay ∈ mj_TB := mj_wl (n := 597) wt_6 (k := 20) rfl
theorem w_599 : Cond.methodLink RX4 40 yX0_after ∈ mj_TB := mj_wl (n := 599) wt_6 (k := 21) rfl
theorem w_600 : Cond.static yX0_after ∈ mj_TB := mj_wl (n := 600) wt_6 (k := 22) rfl
theorem w_602 : Cond.methodLink RX0 9 yX0_grows ∈ mj_TB := mj_wl (n := 602) wt_6 (k := 23) rfl
theorem w_603 : Cond.static yX0_grows ∈ mj_TB := mj_wl (n := 603) wt_6 (k := 24) rfl
theorem w_605 : Cond.methodLink RX0 27 yX0_streamGrows ∈ mj_TB := mj_wl (n := 605) wt_6 (k := 25) rfl
theorem w_606 : Cond.static yX0_streamGrows ∈ mj_TB := mj_wl (n := 606) wt_6 (k := 26) rfl
theorem w_608 : Cond.methodLink RX0 24 Lib.Math.max.name ∈ mj_TB := mj_wl (n := 608) wt_6 (k := 27) rfl
theorem w_609 : Cond.static Lib.Math.max.name ∈ mj_TB := mj_wl (n := 609) wt_6 (k := 28) rfl
theorem w_611 : Cond.methodLink RX0 15 Lib.Math.min.name ∈ mj_TB := mj_wl (n := 611) wt_6 (k := 29) rfl
theorem w_612 : Cond.methodLink RX0 21 yX0_melts ∈ mj_TB := mj_wl (n := 612) wt_6 (k := 30) rfl
theorem w_613 : Cond.static yX0_melts ∈ mj_TB := mj_wl (n := 613) wt_6 (k := 31) rfl
theorem w_615 : Cond.methodLink RX10 158 yX4_together ∈ mj_TB := mj_wl (n := 615) wt_6 (k := 32) rfl
theorem w_616 : Cond.instanceMethod yX4_together ∈ mj_TB := mj_wl (n := 616) wt_6 (k := 33) rfl
theorem w_617 : Cond.selects RX4 yX4_together yX4_together ∈ mj_TB := mj_wl (n := 617) wt_6 (k := 34) rfl
theorem w_619 : Cond.methodLink RL 53 yX10_tread ∈ mj_TB := mj_wl (n := 619) wt_6 (k := 35) rfl
theorem w_620 : Cond.instanceMethod yX10_tread ∈ mj_TB := mj_wl (n := 620) wt_6 (k := 36) rfl
theorem w_621 : Cond.selects RX10 yX10_tread yX10_tread ∈ mj_TB := mj_wl (n := 621) wt_6 (k := 37) rfl
theorem w_623 : Cond.methodLink RX10 161 yX4_bears ∈ mj_TB := mj_wl (n := 623) wt_6 (k := 38) rfl
theorem w_624 : Cond.instanceMethod yX4_bears ∈ mj_TB := mj_wl (n := 624) wt_6 (k := 39) rfl
theorem w_625 : Cond.selects RX4 yX4_bears yX4_bears ∈ mj_TB := mj_wl (n := 625) wt_6 (k := 40) rfl
theorem w_627 : Cond.methodLink RX4 34 yX0_bears ∈ mj_TB := mj_wl (n := 627) wt_6 (k := 41) rfl
theorem w_628 : Cond.static yX0_bears ∈ mj_TB := mj_wl (n := 628) wt_6 (k := 42) rfl
theorem w_630 : Cond.methodLink RX10 164 yX4_iceOf ∈ mj_TB := mj_wl (n := 630) wt_6 (k := 43) rfl
theorem w_631 : Cond.instanceMethod yX4_iceOf ∈ mj_TB := mj_wl (n := 631) wt_6 (k := 44) rfl
theorem w_632 : Cond.selects RX4 yX4_iceOf yX4_iceOf ∈ mj_TB := mj_wl (n := 632) wt_6 (k := 45) rfl
theorem w_634 : Cond.methodLink RX10 167 Lib.Math.max.name ∈ mj_TB := mj_wl (n := 634) wt_6 (k := 46) rfl
theorem w_635 : Cond.methodLink RX10 173 yX4_setIce ∈ mj_TB := mj_wl (n := 635) wt_6 (k := 47) rfl
theorem w_636 : Cond.instanceMethod yX4_setIce ∈ mj_TB := mj_wl (n := 636) wt_6 (k := 48) rfl
theorem w_637 : Cond.selects RX4 yX4_setIce yX4_setIce ∈ mj_TB := mj_wl (n := 637) wt_6 (k := 49) rfl
theorem w_639 : Cond.methodLink RL 57 yX10_stone ∈ mj_TB := mj_wl (n := 639) wt_6 (k := 50) rfl
theorem w_640 : Cond.instanceMethod yX10_stone ∈ mj_TB := mj_wl (n := 640) wt_6 (k := 51) rfl
theorem w_641 : Cond.selects RX10 yX10_stone yX10_stone ∈ mj_TB := mj_wl (n := 641) wt_6 (k := 52) rfl
theorem w_643 : Cond.methodLink RL 61 yX10_undo ∈ mj_TB := mj_wl (n := 643) wt_6 (k := 53) rfl
theorem w_644 : Cond.instanceMethod yX10_undo ∈ mj_TB := mj_wl (n := 644) wt_6 (k := 54) rfl
theorem w_645 : Cond.selects RX10 yX10_undo yX10_undo ∈ mj_TB := mj_wl (n := 645) wt_6 (k := 55) rfl
theorem w_647 : Cond.methodLink RX10 177 yX10_no ∈ mj_TB := mj_wl (n := 647) wt_6 (k := 56) rfl
theorem w_649 : Cond.instanceMethod yX10_no ∈ mj_TB := mj_wl (n := 649) wt_6 (k := 57) rfl
theorem w_651 : Cond.methodLink RX10 180 yX2_goBack ∈ mj_TB := mj_wl (n := 651) wt_6 (k := 58) rfl
theorem w_652 : Cond.instanceMethod yX2_goBack ∈ mj_TB := mj_wl (n := 652) wt_6 (k := 59) rfl
def wl_7 : List (Nat × Cond) := [(653, Cond.selects RX2 yX2_goBack yX2_goBack), (655, Cond.methodLink RL 65 yX10_of), (656, Cond.instanceMethod yX10_of), (657, Cond.selects RX10 yX10_of yX10_of), (659, Cond.methodLink RL 69 yX10_about), (660, Cond.instanceMethod yX10_about), (661, Cond.selects RX10 yX10_about yX10_about), (663, Cond.methodLink RX10 187 yX10_isVoter), (665, Cond.instanceMethod yX10_isVoter), (667, Cond.methodLink RX10 190 yX7_kindOf), (668, Cond.instanceMethod yX7_kindOf), (669, Cond.selects RX7 yX7_kindOf yX7_kindOf), (671, Cond.methodLink RX10 191 yX7_weightOf), (672, Cond.instanceMethod yX7_weightOf), (673, Cond.selects RX7 yX7_weightOf yX7_weightOf), (675, Cond.methodLink RX10 194 yX7_cellOf), (676, Cond.instanceMethod yX7_cellOf), (677, Cond.selects RX7 yX7_cellOf yX7_cellOf), (679, Cond.methodLink RX10 197 yX10_yesNow), (681, Cond.instanceMethod yX10_yesNow), (683, Cond.methodLink RX10 245 yX1_frost), (684, Cond.instanceMethod yX1_frost), (685, Cond.selects RX1 yX1_frost yX1_frost), (687, Cond.methodLink RX10 336 yX7_yes), (688, Cond.instanceMethod yX7_yes), (689, Cond.selects RX7 yX7_yes yX7_yes), (691, Cond.methodLink RX7 35 yX4_leastBeside), (692, Cond.instanceMethod yX4_leastBeside), (693, Cond.selects RX4 yX4_leastBeside yX4_leastBeside), (695, Cond.methodLink RX4 44 yX4_bears), (696, Cond.methodLink RX4 47 Lib.Math.min.name), (697, Cond.methodLink RX7 41 yX4_bears), (698, Cond.methodLink RX7 44 yX6_yes), (699, Cond.static yX6_yes), (701, Cond.methodLink RX10 200 yX10_has), (702, Cond.static yX10_has), (704, Cond.methodLink RL 73 yX10_then), (705, Cond.instanceMethod yX10_then), (706, Cond.selects RX10 yX10_then yX10_then), (708, Cond.methodLink RX10 204 yX1_iceBehind), (709, Cond.instanceMethod yX1_iceBehind), (710, Cond.selects RX1 yX1_iceBehind yX1_iceBehind), (712, Cond.methodLink RX1 115 yX4_kindOf), (713, Cond.methodLink RX1 118 yX4_iceOf), (714, Cond.methodLink RX1 121 yX9_iceAfter), (715, Cond.instanceMethod yX9_iceAfter), (716, Cond.selects RX9 yX9_iceAfter yX9_iceAfter), (718, Cond.methodLink RX9 36 yX9_frostOn), (719, Cond.methodLink RX9 40 yX9_sunOn), (720, Cond.methodLink RX9 43 yX0_after), (721, Cond.methodLink RX10 207 yX0_bears), (722, Cond.methodLink RL 77 yX10_when), (723, Cond.instanceMethod yX10_when), (724, Cond.selects RX10 yX10_when yX10_when), (726, Cond.methodLink RX10 211 yX10_isBorne), (727, Cond.static yX10_isBorne), (729, Cond.methodLink RX10 214 yX9_iceAfter), (730, Cond.methodLink RL 81 yX10_where), (731, Cond.instanceMethod yX10_where), (732, Cond.selects RX10 yX10_where yX10_where)]
theorem wt_7 : wl_7.all (fun q => goodWord q.2 && lw_tbl[q.1]? == some q.2) = true := by decide +kernel
theorem w_653 : Cond.selects RX2 yX2_goBack yX2_goBack ∈ mj_TB := mj_wl (n := 653) wt_7 (k := 0) rfl
theorem w_655 : Cond.methodLink RL 65 yX10_of ∈ mj_TB := mj_wl (n := 655) wt_7 (k := 1) rfl
theorem w_656 : Cond.instanceMethod yX10_of ∈ mj_TB := mj_wl (n := 656) wt_7 (k := 2) rfl
theorem w_657 : Cond.selects RX10 yX10_of yX10_of ∈ mj_TB := mj_wl (n := 657) wt_7 (k := 3) rfl
theorem w_659 : Cond.methodLink RL 69 yX10_about ∈ mj_TB := mj_wl (n := 659) wt_7 (k := 4) rfl
theorem w_660 : Cond.instanceMethod yX10_about ∈ mj_TB := mj_wl (n := 660) wt_7 (k := 5) rfl
theorem w_661 : Cond.selects RX10 yX10_about yX10_about ∈ mj_TB := mj_wl (n := 661) wt_7 (k := 6) rfl
theorem w_663 : Cond.methodLink RX10 187 yX10_isVoter ∈ mj_TB := mj_wl (n := 663) wt_7 (k := 7) rfl
theorem w_665 : Cond.instanceMethod yX10_isVoter ∈ mj_TB := mj_wl (n := 665) wt_7 (k := 8) rfl
theorem w_667 : Cond.methodLink RX10 190 yX7_kindOf ∈ mj_TB := mj_wl (n := 667) wt_7 (k := 9) rfl
theorem w_668 : Cond.instanceMethod yX7_kindOf ∈ mj_TB := mj_wl (n := 668) wt_7 (k := 10) rfl
theorem w_669 : Cond.selects RX7 yX7_kindOf yX7_kindOf ∈ mj_TB := mj_wl (n := 669) wt_7 (k := 11) rfl
theorem w_671 : Cond.methodLink RX10 191 yX7_weightOf ∈ mj_TB := mj_wl (n := 671) wt_7 (k := 12) rfl
theorem w_672 : Cond.instanceMethod yX7_weightOf ∈ mj_TB := mj_wl (n := 672) wt_7 (k := 13) rfl
theorem w_673 : Cond.selects RX7 yX7_weightOf yX7_weightOf ∈ mj_TB := mj_wl (n := 673) wt_7 (k := 14) rfl
theorem w_675 : Cond.methodLink RX10 194 yX7_cellOf ∈ mj_TB := mj_wl (n := 675) wt_7 (k := 15) rfl
theorem w_676 : Cond.instanceMethod yX7_cellOf ∈ mj_TB := mj_wl (n := 676) wt_7 (k := 16) rfl
theorem w_677 : Cond.selects RX7 yX7_cellOf yX7_cellOf ∈ mj_TB := mj_wl (n := 677) wt_7 (k := 17) rfl
theorem w_679 : Cond.methodLink RX10 197 yX10_yesNow ∈ mj_TB := mj_wl (n := 679) wt_7 (k := 18) rfl
theorem w_681 : Cond.instanceMethod yX10_yesNow ∈ mj_TB := mj_wl (n := 681) wt_7 (k := 19) rfl
theorem w_683 : Cond.methodLink RX10 245 yX1_frost ∈ mj_TB := mj_wl (n := 683) wt_7 (k := 20) rfl
theorem w_684 : Cond.instanceMethod yX1_frost ∈ mj_TB := mj_wl (n := 684) wt_7 (k := 21) rfl
theorem w_685 : Cond.selects RX1 yX1_frost yX1_frost ∈ mj_TB := mj_wl (n := 685) wt_7 (k := 22) rfl
theorem w_687 : Cond.methodLink RX10 336 yX7_yes ∈ mj_TB := mj_wl (n := 687) wt_7 (k := 23) rfl
theorem w_688 : Cond.instanceMethod yX7_yes ∈ mj_TB := mj_wl (n := 688) wt_7 (k := 24) rfl
theorem w_689 : Cond.selects RX7 yX7_yes yX7_yes ∈ mj_TB := mj_wl (n := 689) wt_7 (k := 25) rfl
theorem w_691 : Cond.methodLink RX7 35 yX4_leastBeside ∈ mj_TB := mj_wl (n := 691) wt_7 (k := 26) rfl
theorem w_692 : Cond.instanceMethod yX4_leastBeside ∈ mj_TB := mj_wl (n := 692) wt_7 (k := 27) rfl
theorem w_693 : Cond.selects RX4 yX4_leastBeside yX4_leastBeside ∈ mj_TB := mj_wl (n := 693) wt_7 (k := 28) rfl
theorem w_695 : Cond.methodLink RX4 44 yX4_bears ∈ mj_TB := mj_wl (n := 695) wt_7 (k := 29) rfl
theorem w_696 : Cond.methodLink RX4 47 Lib.Math.min.name ∈ mj_TB := mj_wl (n := 696) wt_7 (k := 30) rfl
theorem w_697 : Cond.methodLink RX7 41 yX4_bears ∈ mj_TB := mj_wl (n := 697) wt_7 (k := 31) rfl
theorem w_698 : Cond.methodLink RX7 44 yX6_yes ∈ mj_TB := mj_wl (n := 698) wt_7 (k := 32) rfl
theorem w_699 : Cond.static yX6_yes ∈ mj_TB := mj_wl (n := 699) wt_7 (k := 33) rfl
theorem w_701 : Cond.methodLink RX10 200 yX10_has ∈ mj_TB := mj_wl (n := 701) wt_7 (k := 34) rfl
theorem w_702 : Cond.static yX10_has ∈ mj_TB := mj_wl (n := 702) wt_7 (k := 35) rfl
theorem w_704 : Cond.methodLink RL 73 yX10_then ∈ mj_TB := mj_wl (n := 704) wt_7 (k := 36) rfl
theorem w_705 : Cond.instanceMethod yX10_then ∈ mj_TB := mj_wl (n := 705) wt_7 (k := 37) rfl
theorem w_706 : Cond.selects RX10 yX10_then yX10_then ∈ mj_TB := mj_wl (n := 706) wt_7 (k := 38) rfl
theorem w_708 : Cond.methodLink RX10 204 yX1_iceBehind ∈ mj_TB := mj_wl (n := 708) wt_7 (k := 39) rfl
theorem w_709 : Cond.instanceMethod yX1_iceBehind ∈ mj_TB := mj_wl (n := 709) wt_7 (k := 40) rfl
theorem w_710 : Cond.selects RX1 yX1_iceBehind yX1_iceBehind ∈ mj_TB := mj_wl (n := 710) wt_7 (k := 41) rfl
theorem w_712 : Cond.methodLink RX1 115 yX4_kindOf ∈ mj_TB := mj_wl (n := 712) wt_7 (k := 42) rfl
theorem w_713 : Cond.methodLink RX1 118 yX4_iceOf ∈ mj_TB := mj_wl (n := 713) wt_7 (k := 43) rfl
theorem w_714 : Cond.methodLink RX1 121 yX9_iceAfter ∈ mj_TB := mj_wl (n := 714) wt_7 (k := 44) rfl
theorem w_715 : Cond.instanceMethod yX9_iceAfter ∈ mj_TB := mj_wl (n := 715) wt_7 (k := 45) rfl
theorem w_716 : Cond.selects RX9 yX9_iceAfter yX9_iceAfter ∈ mj_TB := mj_wl (n := 716) wt_7 (k := 46) rfl
theorem w_718 : Cond.methodLink RX9 36 yX9_frostOn ∈ mj_TB := mj_wl (n := 718) wt_7 (k := 47) rfl
theorem w_719 : Cond.methodLink RX9 40 yX9_sunOn ∈ mj_TB := mj_wl (n := 719) wt_7 (k := 48) rfl
theorem w_720 : Cond.methodLink RX9 43 yX0_after ∈ mj_TB := mj_wl (n := 720) wt_7 (k := 49) rfl
theorem w_721 : Cond.methodLink RX10 207 yX0_bears ∈ mj_TB := mj_wl (n := 721) wt_7 (k := 50) rfl
theorem w_722 : Cond.methodLink RL 77 yX10_when ∈ mj_TB := mj_wl (n := 722) wt_7 (k := 51) rfl
theorem w_723 : Cond.instanceMethod yX10_when ∈ mj_TB := mj_wl (n := 723) wt_7 (k := 52) rfl
theorem w_724 : Cond.selects RX10 yX10_when yX10_when ∈ mj_TB := mj_wl (n := 724) wt_7 (k := 53) rfl
theorem w_726 : Cond.methodLink RX10 211 yX10_isBorne ∈ mj_TB := mj_wl (n := 726) wt_7 (k := 54) rfl
theorem w_727 : Cond.static yX10_isBorne ∈ mj_TB := mj_wl (n := 727) wt_7 (k := 55) rfl
theorem w_729 : Cond.methodLink RX10 214 yX9_iceAfter ∈ mj_TB := mj_wl (n := 729) wt_7 (k := 56) rfl
theorem w_730 : Cond.methodLink RL 81 yX10_where ∈ mj_TB := mj_wl (n := 730) wt_7 (k := 57) rfl
theorem w_731 : Cond.instanceMethod yX10_where ∈ mj_TB := mj_wl (n := 731) wt_7 (k := 58) rfl
theorem w_732 : Cond.selects RX10 yX10_where yX10_where ∈ mj_TB := mj_wl (n := 732) wt_7 (k := 59) rfl
def wl_8 : List (Nat × Cond) := [(734, Cond.methodLink RX10 218 yX4_copy), (735, Cond.methodLink RX10 221 yX4_passDay), (736, Cond.methodLink RX10 224 yX4_bearing), (737, Cond.instanceMethod yX4_bearing), (738, Cond.selects RX4 yX4_bearing yX4_bearing), (740, Cond.methodLink RL 85 yX10_horses), (741, Cond.instanceMethod yX10_horses), (742, Cond.selects RX10 yX10_horses yX10_horses), (744, Cond.methodLink RX10 227 yX4_bearsTogether), (745, Cond.instanceMethod yX4_bearsTogether), (746, Cond.selects RX4 yX4_bearsTogether yX4_bearsTogether), (748, Cond.methodLink RL 89 yX10_path), (749, Cond.instanceMethod yX10_path), (750, Cond.selects RX10 yX10_path yX10_path), (752, Cond.methodLink RX10 230 yX8_find), (753, Cond.instanceMethod yX8_find), (754, Cond.selects RX8 yX8_find yX8_find), (756, Cond.methodLink RX8 25 yX8_measure), (758, Cond.instanceMethod yX8_measure), (761, Cond.methodLink RX8 21 yX8_beside), (762, Cond.static yX8_beside), (764, Cond.constant RX8 18 (-17318417)), (765, Cond.constant RX8 19 (-1082402)), (766, Cond.constant RX8 20 (33554431)), (767, Cond.methodLink RX8 29 yX8_first), (768, Cond.static yX8_first), (770, Cond.methodLink RX10 233 yX8_step), (771, Cond.instanceMethod yX8_step), (772, Cond.selects RX8 yX8_step yX8_step), (775, Cond.methodLink RL 94 yX10_safe), (776, Cond.instanceMethod yX10_safe), (777, Cond.selects RX10 yX10_safe yX10_safe), (779, Cond.methodLink RX10 236 yX8_joined), (780, Cond.static yX8_joined), (782, Cond.methodLink RL 98 yX10_cross), (783, Cond.instanceMethod yX10_cross), (784, Cond.selects RX10 yX10_cross yX10_cross), (786, Cond.methodLink RL 102 yX10_apart), (787, Cond.instanceMethod yX10_apart), (788, Cond.selects RX10 yX10_apart yX10_apart), (790, Cond.methodLink RX10 239 yX8_cut), (791, Cond.static yX8_cut), (793, Cond.methodLink RX8 40 yX8_joined), (794, Cond.methodLink RL 106 yX10_votes), (795, Cond.instanceMethod yX10_votes), (796, Cond.selects RX10 yX10_votes yX10_votes), (798, Cond.methodLink RX10 242 yX7_carried), (799, Cond.instanceMethod yX7_carried), (800, Cond.selects RX7 yX7_carried yX7_carried), (802, Cond.methodLink RX7 50 yJ6_bitCount_0f7a4), (803, Cond.static yJ6_bitCount_0f7a4), (805, Cond.constant RJ6 265 (1431655765)), (806, Cond.constant RJ6 266 (858993459)), (807, Cond.constant RJ6 267 (252645135)), (808, Cond.methodLink RX7 55 yX7_heaviest), (810, Cond.instanceMethod yX7_heaviest), (812, Cond.methodLink RX7 63 yX7_weightOf), (814, Cond.methodLink RX10 248 yX7_wet), (815, Cond.instanceMethod yX7_wet), (816, Cond.selects RX7 yX7_wet yX7_wet)]
theorem wt_8 : wl_8.all (fun q => goodWord q.2 && lw_tbl[q.1]? == some q.2) = true := by decide +kernel
theorem w_734 : Cond.methodLink RX10 218 yX4_copy ∈ mj_TB := mj_wl (n := 734) wt_8 (k := 0) rfl
theorem w_735 : Cond.methodLink RX10 221 yX4_passDay ∈ mj_TB := mj_wl (n := 735) wt_8 (k := 1) rfl
theorem w_736 : Cond.methodLink RX10 224 yX4_bearing ∈ mj_TB := mj_wl (n := 736) wt_8 (k := 2) rfl
theorem w_737 : Cond.instanceMethod yX4_bearing ∈ mj_TB := mj_wl (n := 737) wt_8 (k := 3) rfl
theorem w_738 : Cond.selects RX4 yX4_bearing yX4_bearing ∈ mj_TB := mj_wl (n := 738) wt_8 (k := 4) rfl
theorem w_740 : Cond.methodLink RL 85 yX10_horses ∈ mj_TB := mj_wl (n := 740) wt_8 (k := 5) rfl
theorem w_741 : Cond.instanceMethod yX10_horses ∈ mj_TB := mj_wl (n := 741) wt_8 (k := 6) rfl
theorem w_742 : Cond.selects RX10 yX10_horses yX10_horses ∈ mj_TB := mj_wl (n := 742) wt_8 (k := 7) rfl
theorem w_744 : Cond.methodLink RX10 227 yX4_bearsTogether ∈ mj_TB := mj_wl (n := 744) wt_8 (k := 8) rfl
theorem w_745 : Cond.instanceMethod yX4_bearsTogether ∈ mj_TB := mj_wl (n := 745) wt_8 (k := 9) rfl
theorem w_746 : Cond.selects RX4 yX4_bearsTogether yX4_bearsTogether ∈ mj_TB := mj_wl (n := 746) wt_8 (k := 10) rfl
theorem w_748 : Cond.methodLink RL 89 yX10_path ∈ mj_TB := mj_wl (n := 748) wt_8 (k := 11) rfl
theorem w_749 : Cond.instanceMethod yX10_path ∈ mj_TB := mj_wl (n := 749) wt_8 (k := 12) rfl
theorem w_750 : Cond.selects RX10 yX10_path yX10_path ∈ mj_TB := mj_wl (n := 750) wt_8 (k := 13) rfl
theorem w_752 : Cond.methodLink RX10 230 yX8_find ∈ mj_TB := mj_wl (n := 752) wt_8 (k := 14) rfl
theorem w_753 : Cond.instanceMethod yX8_find ∈ mj_TB := mj_wl (n := 753) wt_8 (k := 15) rfl
theorem w_754 : Cond.selects RX8 yX8_find yX8_find ∈ mj_TB := mj_wl (n := 754) wt_8 (k := 16) rfl
theorem w_756 : Cond.methodLink RX8 25 yX8_measure ∈ mj_TB := mj_wl (n := 756) wt_8 (k := 17) rfl
theorem w_758 : Cond.instanceMethod yX8_measure ∈ mj_TB := mj_wl (n := 758) wt_8 (k := 18) rfl
theorem w_761 : Cond.methodLink RX8 21 yX8_beside ∈ mj_TB := mj_wl (n := 761) wt_8 (k := 19) rfl
theorem w_762 : Cond.static yX8_beside ∈ mj_TB := mj_wl (n := 762) wt_8 (k := 20) rfl
theorem w_764 : Cond.constant RX8 18 (-17318417) ∈ mj_TB := mj_wl (n := 764) wt_8 (k := 21) rfl
theorem w_765 : Cond.constant RX8 19 (-1082402) ∈ mj_TB := mj_wl (n := 765) wt_8 (k := 22) rfl
theorem w_766 : Cond.constant RX8 20 (33554431) ∈ mj_TB := mj_wl (n := 766) wt_8 (k := 23) rfl
theorem w_767 : Cond.methodLink RX8 29 yX8_first ∈ mj_TB := mj_wl (n := 767) wt_8 (k := 24) rfl
theorem w_768 : Cond.static yX8_first ∈ mj_TB := mj_wl (n := 768) wt_8 (k := 25) rfl
theorem w_770 : Cond.methodLink RX10 233 yX8_step ∈ mj_TB := mj_wl (n := 770) wt_8 (k := 26) rfl
theorem w_771 : Cond.instanceMethod yX8_step ∈ mj_TB := mj_wl (n := 771) wt_8 (k := 27) rfl
theorem w_772 : Cond.selects RX8 yX8_step yX8_step ∈ mj_TB := mj_wl (n := 772) wt_8 (k := 28) rfl
theorem w_775 : Cond.methodLink RL 94 yX10_safe ∈ mj_TB := mj_wl (n := 775) wt_8 (k := 29) rfl
theorem w_776 : Cond.instanceMethod yX10_safe ∈ mj_TB := mj_wl (n := 776) wt_8 (k := 30) rfl
theorem w_777 : Cond.selects RX10 yX10_safe yX10_safe ∈ mj_TB := mj_wl (n := 777) wt_8 (k := 31) rfl
theorem w_779 : Cond.methodLink RX10 236 yX8_joined ∈ mj_TB := mj_wl (n := 779) wt_8 (k := 32) rfl
theorem w_780 : Cond.static yX8_joined ∈ mj_TB := mj_wl (n := 780) wt_8 (k := 33) rfl
theorem w_782 : Cond.methodLink RL 98 yX10_cross ∈ mj_TB := mj_wl (n := 782) wt_8 (k := 34) rfl
theorem w_783 : Cond.instanceMethod yX10_cross ∈ mj_TB := mj_wl (n := 783) wt_8 (k := 35) rfl
theorem w_784 : Cond.selects RX10 yX10_cross yX10_cross ∈ mj_TB := mj_wl (n := 784) wt_8 (k := 36) rfl
theorem w_786 : Cond.methodLink RL 102 yX10_apart ∈ mj_TB := mj_wl (n := 786) wt_8 (k := 37) rfl
theorem w_787 : Cond.instanceMethod yX10_apart ∈ mj_TB := mj_wl (n := 787) wt_8 (k := 38) rfl
theorem w_788 : Cond.selects RX10 yX10_apart yX10_apart ∈ mj_TB := mj_wl (n := 788) wt_8 (k := 39) rfl
theorem w_790 : Cond.methodLink RX10 239 yX8_cut ∈ mj_TB := mj_wl (n := 790) wt_8 (k := 40) rfl
theorem w_791 : Cond.static yX8_cut ∈ mj_TB := mj_wl (n := 791) wt_8 (k := 41) rfl
theorem w_793 : Cond.methodLink RX8 40 yX8_joined ∈ mj_TB := mj_wl (n := 793) wt_8 (k := 42) rfl
theorem w_794 : Cond.methodLink RL 106 yX10_votes ∈ mj_TB := mj_wl (n := 794) wt_8 (k := 43) rfl
theorem w_795 : Cond.instanceMethod yX10_votes ∈ mj_TB := mj_wl (n := 795) wt_8 (k := 44) rfl
theorem w_796 : Cond.selects RX10 yX10_votes yX10_votes ∈ mj_TB := mj_wl (n := 796) wt_8 (k := 45) rfl
theorem w_798 : Cond.methodLink RX10 242 yX7_carried ∈ mj_TB := mj_wl (n := 798) wt_8 (k := 46) rfl
theorem w_799 : Cond.instanceMethod yX7_carried ∈ mj_TB := mj_wl (n := 799) wt_8 (k := 47) rfl
theorem w_800 : Cond.selects RX7 yX7_carried yX7_carried ∈ mj_TB := mj_wl (n := 800) wt_8 (k := 48) rfl
theorem w_802 : Cond.methodLink RX7 50 yJ6_bitCount_0f7a4 ∈ mj_TB := mj_wl (n := 802) wt_8 (k := 49) rfl
theorem w_803 : Cond.static yJ6_bitCount_0f7a4 ∈ mj_TB := mj_wl (n := 803) wt_8 (k := 50) rfl
theorem w_805 : Cond.constant RJ6 265 (1431655765) ∈ mj_TB := mj_wl (n := 805) wt_8 (k := 51) rfl
theorem w_806 : Cond.constant RJ6 266 (858993459) ∈ mj_TB := mj_wl (n := 806) wt_8 (k := 52) rfl
theorem w_807 : Cond.constant RJ6 267 (252645135) ∈ mj_TB := mj_wl (n := 807) wt_8 (k := 53) rfl
theorem w_808 : Cond.methodLink RX7 55 yX7_heaviest ∈ mj_TB := mj_wl (n := 808) wt_8 (k := 54) rfl
theorem w_810 : Cond.instanceMethod yX7_heaviest ∈ mj_TB := mj_wl (n := 810) wt_8 (k := 55) rfl
theorem w_812 : Cond.methodLink RX7 63 yX7_weightOf ∈ mj_TB := mj_wl (n := 812) wt_8 (k := 56) rfl
theorem w_814 : Cond.methodLink RX10 248 yX7_wet ∈ mj_TB := mj_wl (n := 814) wt_8 (k := 57) rfl
theorem w_815 : Cond.instanceMethod yX7_wet ∈ mj_TB := mj_wl (n := 815) wt_8 (k := 58) rfl
theorem w_816 : Cond.selects RX7 yX7_wet yX7_wet ∈ mj_TB := mj_wl (n := 816) wt_8 (k := 59) rfl
def wl_9 : List (Nat × Cond) := [(818, Cond.methodLink RX7 66 yX7_yes), (819, Cond.methodLink RX7 69 yX7_carried), (820, Cond.methodLink RX7 73 yX7_heavy), (821, Cond.instanceMethod yX7_heavy), (822, Cond.selects RX7 yX7_heavy yX7_heavy), (824, Cond.methodLink RL 110 yX10_turn), (825, Cond.instanceMethod yX10_turn), (826, Cond.selects RX10 yX10_turn yX10_turn), (828, Cond.methodLink RX10 252 yX7_sets), (829, Cond.instanceMethod yX7_sets), (830, Cond.selects RX7 yX7_sets yX7_sets), (832, Cond.methodLink RX10 255 yJ6_bitCount_0f7a4), (833, Cond.methodLink RL 114 yX10_seen), (834, Cond.instanceMethod yX10_seen), (835, Cond.selects RX10 yX10_seen yX10_seen), (837, Cond.methodLink RX10 260 yX7_heavy), (838, Cond.methodLink RL 118 yX10_lies), (839, Cond.instanceMethod yX10_lies), (840, Cond.selects RX10 yX10_lies yX10_lies), (842, Cond.methodLink RX10 263 yX4_iceOfWard), (843, Cond.instanceMethod yX4_iceOfWard), (844, Cond.selects RX4 yX4_iceOfWard yX4_iceOfWard), (846, Cond.methodLink RX4 52 yX4_iceOf), (847, Cond.methodLink RL 122 yX10_stones), (848, Cond.instanceMethod yX10_stones), (849, Cond.selects RX10 yX10_stones yX10_stones), (851, Cond.methodLink RL 126 yX10_note), (852, Cond.instanceMethod yX10_note), (853, Cond.selects RX10 yX10_note yX10_note), (855, Cond.methodLink RX10 273 yX3_add), (856, Cond.instanceMethod yX3_add), (857, Cond.selects RX3 yX3_add yX3_add), (860, Cond.methodLink RL 131 yX10_voted), (861, Cond.instanceMethod yX10_voted), (862, Cond.selects RX10 yX10_voted yX10_voted), (864, Cond.methodLink RL 135 yX10_forget), (865, Cond.instanceMethod yX10_forget), (866, Cond.selects RX10 yX10_forget yX10_forget), (868, Cond.methodLink RX10 279 yX3_empty), (869, Cond.methodLink RL 139 yX10_is), (870, Cond.instanceMethod yX10_is), (871, Cond.selects RX10 yX10_is yX10_is), (873, Cond.methodLink RX10 281 yX10_kindsNoted), (875, Cond.instanceMethod yX10_kindsNoted), (877, Cond.methodLink RX10 339 yX10_fitsNotes), (879, Cond.instanceMethod yX10_fitsNotes), (881, Cond.methodLink RX10 342 yX3_at), (882, Cond.instanceMethod yX3_at), (883, Cond.selects RX3 yX3_at yX3_at), (885, Cond.methodLink RX10 345 yX0_after), (886, Cond.methodLink RL 143 yX10_next), (887, Cond.instanceMethod yX10_next), (888, Cond.selects RX10 yX10_next yX10_next), (890, Cond.methodLink RX10 284 yX10_mostAlike), (892, Cond.instanceMethod yX10_mostAlike), (894, Cond.methodLink RL 147 yX10_who), (895, Cond.instanceMethod yX10_who), (896, Cond.selects RX10 yX10_who yX10_who), (898, Cond.methodLink RX10 288 yX10_fitsPolls), (900, Cond.instanceMethod yX10_fitsPolls)]
theorem wt_9 : wl_9.all (fun q => goodWord q.2 && lw_tbl[q.1]? == some q.2) = true := by decide +kernel
theorem w_818 : Cond.methodLink RX7 66 yX7_yes ∈ mj_TB := mj_wl (n := 818) wt_9 (k := 0) rfl
theorem w_819 : Cond.methodLink RX7 69 yX7_carried ∈ mj_TB := mj_wl (n := 819) wt_9 (k := 1) rfl
theorem w_820 : Cond.methodLink RX7 73 yX7_heavy ∈ mj_TB := mj_wl (n := 820) wt_9 (k := 2) rfl
theorem w_821 : Cond.instanceMethod yX7_heavy ∈ mj_TB := mj_wl (n := 821) wt_9 (k := 3) rfl
theorem w_822 : Cond.selects RX7 yX7_heavy yX7_heavy ∈ mj_TB := mj_wl (n := 822) wt_9 (k := 4) rfl
theorem w_824 : Cond.methodLink RL 110 yX10_turn ∈ mj_TB := mj_wl (n := 824) wt_9 (k := 5) rfl
theorem w_825 : Cond.instanceMethod yX10_turn ∈ mj_TB := mj_wl (n := 825) wt_9 (k := 6) rfl
theorem w_826 : Cond.selects RX10 yX10_turn yX10_turn ∈ mj_TB := mj_wl (n := 826) wt_9 (k := 7) rfl
theorem w_828 : Cond.methodLink RX10 252 yX7_sets ∈ mj_TB := mj_wl (n := 828) wt_9 (k := 8) rfl
theorem w_829 : Cond.instanceMethod yX7_sets ∈ mj_TB := mj_wl (n := 829) wt_9 (k := 9) rfl
theorem w_830 : Cond.selects RX7 yX7_sets yX7_sets ∈ mj_TB := mj_wl (n := 830) wt_9 (k := 10) rfl
theorem w_832 : Cond.methodLink RX10 255 yJ6_bitCount_0f7a4 ∈ mj_TB := mj_wl (n := 832) wt_9 (k := 11) rfl
theorem w_833 : Cond.methodLink RL 114 yX10_seen ∈ mj_TB := mj_wl (n := 833) wt_9 (k := 12) rfl
theorem w_834 : Cond.instanceMethod yX10_seen ∈ mj_TB := mj_wl (n := 834) wt_9 (k := 13) rfl
theorem w_835 : Cond.selects RX10 yX10_seen yX10_seen ∈ mj_TB := mj_wl (n := 835) wt_9 (k := 14) rfl
theorem w_837 : Cond.methodLink RX10 260 yX7_heavy ∈ mj_TB := mj_wl (n := 837) wt_9 (k := 15) rfl
theorem w_838 : Cond.methodLink RL 118 yX10_lies ∈ mj_TB := mj_wl (n := 838) wt_9 (k := 16) rfl
theorem w_839 : Cond.instanceMethod yX10_lies ∈ mj_TB := mj_wl (n := 839) wt_9 (k := 17) rfl
theorem w_840 : Cond.selects RX10 yX10_lies yX10_lies ∈ mj_TB := mj_wl (n := 840) wt_9 (k := 18) rfl
theorem w_842 : Cond.methodLink RX10 263 yX4_iceOfWard ∈ mj_TB := mj_wl (n := 842) wt_9 (k := 19) rfl
theorem w_843 : Cond.instanceMethod yX4_iceOfWard ∈ mj_TB := mj_wl (n := 843) wt_9 (k := 20) rfl
theorem w_844 : Cond.selects RX4 yX4_iceOfWard yX4_iceOfWard ∈ mj_TB := mj_wl (n := 844) wt_9 (k := 21) rfl
theorem w_846 : Cond.methodLink RX4 52 yX4_iceOf ∈ mj_TB := mj_wl (n := 846) wt_9 (k := 22) rfl
theorem w_847 : Cond.methodLink RL 122 yX10_stones ∈ mj_TB := mj_wl (n := 847) wt_9 (k := 23) rfl
theorem w_848 : Cond.instanceMethod yX10_stones ∈ mj_TB := mj_wl (n := 848) wt_9 (k := 24) rfl
theorem w_849 : Cond.selects RX10 yX10_stones yX10_stones ∈ mj_TB := mj_wl (n := 849) wt_9 (k := 25) rfl
theorem w_851 : Cond.methodLink RL 126 yX10_note ∈ mj_TB := mj_wl (n := 851) wt_9 (k := 26) rfl
theorem w_852 : Cond.instanceMethod yX10_note ∈ mj_TB := mj_wl (n := 852) wt_9 (k := 27) rfl
theorem w_853 : Cond.selects RX10 yX10_note yX10_note ∈ mj_TB := mj_wl (n := 853) wt_9 (k := 28) rfl
theorem w_855 : Cond.methodLink RX10 273 yX3_add ∈ mj_TB := mj_wl (n := 855) wt_9 (k := 29) rfl
theorem w_856 : Cond.instanceMethod yX3_add ∈ mj_TB := mj_wl (n := 856) wt_9 (k := 30) rfl
theorem w_857 : Cond.selects RX3 yX3_add yX3_add ∈ mj_TB := mj_wl (n := 857) wt_9 (k := 31) rfl
theorem w_860 : Cond.methodLink RL 131 yX10_voted ∈ mj_TB := mj_wl (n := 860) wt_9 (k := 32) rfl
theorem w_861 : Cond.instanceMethod yX10_voted ∈ mj_TB := mj_wl (n := 861) wt_9 (k := 33) rfl
theorem w_862 : Cond.selects RX10 yX10_voted yX10_voted ∈ mj_TB := mj_wl (n := 862) wt_9 (k := 34) rfl
theorem w_864 : Cond.methodLink RL 135 yX10_forget ∈ mj_TB := mj_wl (n := 864) wt_9 (k := 35) rfl
theorem w_865 : Cond.instanceMethod yX10_forget ∈ mj_TB := mj_wl (n := 865) wt_9 (k := 36) rfl
theorem w_866 : Cond.selects RX10 yX10_forget yX10_forget ∈ mj_TB := mj_wl (n := 866) wt_9 (k := 37) rfl
theorem w_868 : Cond.methodLink RX10 279 yX3_empty ∈ mj_TB := mj_wl (n := 868) wt_9 (k := 38) rfl
theorem w_869 : Cond.methodLink RL 139 yX10_is ∈ mj_TB := mj_wl (n := 869) wt_9 (k := 39) rfl
theorem w_870 : Cond.instanceMethod yX10_is ∈ mj_TB := mj_wl (n := 870) wt_9 (k := 40) rfl
theorem w_871 : Cond.selects RX10 yX10_is yX10_is ∈ mj_TB := mj_wl (n := 871) wt_9 (k := 41) rfl
theorem w_873 : Cond.methodLink RX10 281 yX10_kindsNoted ∈ mj_TB := mj_wl (n := 873) wt_9 (k := 42) rfl
theorem w_875 : Cond.instanceMethod yX10_kindsNoted ∈ mj_TB := mj_wl (n := 875) wt_9 (k := 43) rfl
theorem w_877 : Cond.methodLink RX10 339 yX10_fitsNotes ∈ mj_TB := mj_wl (n := 877) wt_9 (k := 44) rfl
theorem w_879 : Cond.instanceMethod yX10_fitsNotes ∈ mj_TB := mj_wl (n := 879) wt_9 (k := 45) rfl
theorem w_881 : Cond.methodLink RX10 342 yX3_at ∈ mj_TB := mj_wl (n := 881) wt_9 (k := 46) rfl
theorem w_882 : Cond.instanceMethod yX3_at ∈ mj_TB := mj_wl (n := 882) wt_9 (k := 47) rfl
theorem w_883 : Cond.selects RX3 yX3_at yX3_at ∈ mj_TB := mj_wl (n := 883) wt_9 (k := 48) rfl
theorem w_885 : Cond.methodLink RX10 345 yX0_after ∈ mj_TB := mj_wl (n := 885) wt_9 (k := 49) rfl
theorem w_886 : Cond.methodLink RL 143 yX10_next ∈ mj_TB := mj_wl (n := 886) wt_9 (k := 50) rfl
theorem w_887 : Cond.instanceMethod yX10_next ∈ mj_TB := mj_wl (n := 887) wt_9 (k := 51) rfl
theorem w_888 : Cond.selects RX10 yX10_next yX10_next ∈ mj_TB := mj_wl (n := 888) wt_9 (k := 52) rfl
theorem w_890 : Cond.methodLink RX10 284 yX10_mostAlike ∈ mj_TB := mj_wl (n := 890) wt_9 (k := 53) rfl
theorem w_892 : Cond.instanceMethod yX10_mostAlike ∈ mj_TB := mj_wl (n := 892) wt_9 (k := 54) rfl
theorem w_894 : Cond.methodLink RL 147 yX10_who ∈ mj_TB := mj_wl (n := 894) wt_9 (k := 55) rfl
theorem w_895 : Cond.instanceMethod yX10_who ∈ mj_TB := mj_wl (n := 895) wt_9 (k := 56) rfl
theorem w_896 : Cond.selects RX10 yX10_who yX10_who ∈ mj_TB := mj_wl (n := 896) wt_9 (k := 57) rfl
theorem w_898 : Cond.methodLink RX10 288 yX10_fitsPolls ∈ mj_TB := mj_wl (n := 898) wt_9 (k := 58) rfl
theorem w_900 : Cond.instanceMethod yX10_fitsPolls ∈ mj_TB := mj_wl (n := 900) wt_9 (k := 59) rfl
def wl_10 : List (Nat × Cond) := [(902, Cond.methodLink RX10 348 yX6_yes), (903, Cond.methodLink RL 151 yX10_two), (904, Cond.instanceMethod yX10_two), (905, Cond.selects RX10 yX10_two yX10_two), (907, Cond.methodLink RX10 291 yX7_gain), (908, Cond.instanceMethod yX7_gain), (909, Cond.selects RX7 yX7_gain yX7_gain), (911, Cond.methodLink RL 155 yX10_thaw), (912, Cond.instanceMethod yX10_thaw), (913, Cond.selects RX10 yX10_thaw yX10_thaw), (915, Cond.methodLink RX10 294 yJ7_fill_d0a16), (916, Cond.static yJ7_fill_d0a16), (918, Cond.methodLink RX10 300 yX10_addAt), (919, Cond.static yX10_addAt), (921, Cond.methodLink RX10 304 yX10_passNight), (923, Cond.instanceMethod yX10_passNight), (925, Cond.methodLink RX10 353 arraycopyName), (926, Cond.constantLong RX10 307 (10)), (927, Cond.methodLink RX10 309 yX10_keepFraction), (929, Cond.instanceMethod yX10_keepFraction), (931, Cond.methodLink RL 159 yX10_winters), (932, Cond.instanceMethod yX10_winters), (933, Cond.selects RX10 yX10_winters yX10_winters), (935, Cond.constant RX10 313 (999999)), (936, Cond.constantLong RX10 314 (1103515245)), (937, Cond.constantLong RX10 316 (12345)), (938, Cond.constantLong RX10 318 (2147483648)), (939, Cond.constantLong RX10 320 (65536)), (940, Cond.constantLong RX10 322 (1048576)), (941, Cond.methodLink RL 163 yX10_part), (942, Cond.instanceMethod yX10_part), (943, Cond.selects RX10 yX10_part yX10_part), (945, Cond.methodLink RL 168 yX10_image), (946, Cond.instanceMethod yX10_image), (947, Cond.selects RX10 yX10_image yX10_image), (949, Cond.methodLink RL 172 yX10_from), (950, Cond.instanceMethod yX10_from), (951, Cond.selects RX10 yX10_from yX10_from), (953, Cond.methodLink RL 176 yX10_status), (954, Cond.instanceMethod yX10_status), (955, Cond.selects RX10 yX10_status yX10_status), (957, Cond.methodLink RL 180 yX10_count), (958, Cond.instanceMethod yX10_count), (959, Cond.selects RX10 yX10_count yX10_count), (961, Cond.methodLink RX10 324 yX10_amount), (963, Cond.instanceMethod yX10_amount), (965, Cond.methodLink RL 184 yX10_digest), (966, Cond.instanceMethod yX10_digest), (967, Cond.selects RX10 yX10_digest yX10_digest), (969, Cond.constantLong RX10 327 (1453)), (970, Cond.constantLong RX10 329 (31)), (971, Cond.methodLink RX10 331 yX7_fold), (972, Cond.instanceMethod yX7_fold), (973, Cond.selects RX7 yX7_fold yX7_fold), (975, Cond.constantLong RX7 77 (31)), (976, Cond.methodLink RX10 335 yX3_fold), (977, Cond.instanceMethod yX3_fold), (978, Cond.selects RX3 yX3_fold yX3_fold), (980, Cond.constantLong RX3 29 (31)), (981, Cond.classLink RL 10 "IceVoteModel")]
theorem wt_10 : wl_10.all (fun q => goodWord q.2 && lw_tbl[q.1]? == some q.2) = true := by decide +kernel
theorem w_902 : Cond.methodLink RX10 348 yX6_yes ∈ mj_TB := mj_wl (n := 902) wt_10 (k := 0) rfl
theorem w_903 : Cond.methodLink RL 151 yX10_two ∈ mj_TB := mj_wl (n := 903) wt_10 (k := 1) rfl
theorem w_904 : Cond.instanceMethod yX10_two ∈ mj_TB := mj_wl (n := 904) wt_10 (k := 2) rfl
theorem w_905 : Cond.selects RX10 yX10_two yX10_two ∈ mj_TB := mj_wl (n := 905) wt_10 (k := 3) rfl
theorem w_907 : Cond.methodLink RX10 291 yX7_gain ∈ mj_TB := mj_wl (n := 907) wt_10 (k := 4) rfl
theorem w_908 : Cond.instanceMethod yX7_gain ∈ mj_TB := mj_wl (n := 908) wt_10 (k := 5) rfl
theorem w_909 : Cond.selects RX7 yX7_gain yX7_gain ∈ mj_TB := mj_wl (n := 909) wt_10 (k := 6) rfl
theorem w_911 : Cond.methodLink RL 155 yX10_thaw ∈ mj_TB := mj_wl (n := 911) wt_10 (k := 7) rfl
theorem w_912 : Cond.instanceMethod yX10_thaw ∈ mj_TB := mj_wl (n := 912) wt_10 (k := 8) rfl
theorem w_913 : Cond.selects RX10 yX10_thaw yX10_thaw ∈ mj_TB := mj_wl (n := 913) wt_10 (k := 9) rfl
theorem w_915 : Cond.methodLink RX10 294 yJ7_fill_d0a16 ∈ mj_TB := mj_wl (n := 915) wt_10 (k := 10) rfl
theorem w_916 : Cond.static yJ7_fill_d0a16 ∈ mj_TB := mj_wl (n := 916) wt_10 (k := 11) rfl
theorem w_918 : Cond.methodLink RX10 300 yX10_addAt ∈ mj_TB := mj_wl (n := 918) wt_10 (k := 12) rfl
theorem w_919 : Cond.static yX10_addAt ∈ mj_TB := mj_wl (n := 919) wt_10 (k := 13) rfl
theorem w_921 : Cond.methodLink RX10 304 yX10_passNight ∈ mj_TB := mj_wl (n := 921) wt_10 (k := 14) rfl
theorem w_923 : Cond.instanceMethod yX10_passNight ∈ mj_TB := mj_wl (n := 923) wt_10 (k := 15) rfl
theorem w_925 : Cond.methodLink RX10 353 arraycopyName ∈ mj_TB := mj_wl (n := 925) wt_10 (k := 16) rfl
theorem w_926 : Cond.constantLong RX10 307 (10) ∈ mj_TB := mj_wl (n := 926) wt_10 (k := 17) rfl
theorem w_927 : Cond.methodLink RX10 309 yX10_keepFraction ∈ mj_TB := mj_wl (n := 927) wt_10 (k := 18) rfl
theorem w_929 : Cond.instanceMethod yX10_keepFraction ∈ mj_TB := mj_wl (n := 929) wt_10 (k := 19) rfl
theorem w_931 : Cond.methodLink RL 159 yX10_winters ∈ mj_TB := mj_wl (n := 931) wt_10 (k := 20) rfl
theorem w_932 : Cond.instanceMethod yX10_winters ∈ mj_TB := mj_wl (n := 932) wt_10 (k := 21) rfl
theorem w_933 : Cond.selects RX10 yX10_winters yX10_winters ∈ mj_TB := mj_wl (n := 933) wt_10 (k := 22) rfl
theorem w_935 : Cond.constant RX10 313 (999999) ∈ mj_TB := mj_wl (n := 935) wt_10 (k := 23) rfl
theorem w_936 : Cond.constantLong RX10 314 (1103515245) ∈ mj_TB := mj_wl (n := 936) wt_10 (k := 24) rfl
theorem w_937 : Cond.constantLong RX10 316 (12345) ∈ mj_TB := mj_wl (n := 937) wt_10 (k := 25) rfl
theorem w_938 : Cond.constantLong RX10 318 (2147483648) ∈ mj_TB := mj_wl (n := 938) wt_10 (k := 26) rfl
theorem w_939 : Cond.constantLong RX10 320 (65536) ∈ mj_TB := mj_wl (n := 939) wt_10 (k := 27) rfl
theorem w_940 : Cond.constantLong RX10 322 (1048576) ∈ mj_TB := mj_wl (n := 940) wt_10 (k := 28) rfl
theorem w_941 : Cond.methodLink RL 163 yX10_part ∈ mj_TB := mj_wl (n := 941) wt_10 (k := 29) rfl
theorem w_942 : Cond.instanceMethod yX10_part ∈ mj_TB := mj_wl (n := 942) wt_10 (k := 30) rfl
theorem w_943 : Cond.selects RX10 yX10_part yX10_part ∈ mj_TB := mj_wl (n := 943) wt_10 (k := 31) rfl
theorem w_945 : Cond.methodLink RL 168 yX10_image ∈ mj_TB := mj_wl (n := 945) wt_10 (k := 32) rfl
theorem w_946 : Cond.instanceMethod yX10_image ∈ mj_TB := mj_wl (n := 946) wt_10 (k := 33) rfl
theorem w_947 : Cond.selects RX10 yX10_image yX10_image ∈ mj_TB := mj_wl (n := 947) wt_10 (k := 34) rfl
theorem w_949 : Cond.methodLink RL 172 yX10_from ∈ mj_TB := mj_wl (n := 949) wt_10 (k := 35) rfl
theorem w_950 : Cond.instanceMethod yX10_from ∈ mj_TB := mj_wl (n := 950) wt_10 (k := 36) rfl
theorem w_951 : Cond.selects RX10 yX10_from yX10_from ∈ mj_TB := mj_wl (n := 951) wt_10 (k := 37) rfl
theorem w_953 : Cond.methodLink RL 176 yX10_status ∈ mj_TB := mj_wl (n := 953) wt_10 (k := 38) rfl
theorem w_954 : Cond.instanceMethod yX10_status ∈ mj_TB := mj_wl (n := 954) wt_10 (k := 39) rfl
theorem w_955 : Cond.selects RX10 yX10_status yX10_status ∈ mj_TB := mj_wl (n := 955) wt_10 (k := 40) rfl
theorem w_957 : Cond.methodLink RL 180 yX10_count ∈ mj_TB := mj_wl (n := 957) wt_10 (k := 41) rfl
theorem w_958 : Cond.instanceMethod yX10_count ∈ mj_TB := mj_wl (n := 958) wt_10 (k := 42) rfl
theorem w_959 : Cond.selects RX10 yX10_count yX10_count ∈ mj_TB := mj_wl (n := 959) wt_10 (k := 43) rfl
theorem w_961 : Cond.methodLink RX10 324 yX10_amount ∈ mj_TB := mj_wl (n := 961) wt_10 (k := 44) rfl
theorem w_963 : Cond.instanceMethod yX10_amount ∈ mj_TB := mj_wl (n := 963) wt_10 (k := 45) rfl
theorem w_965 : Cond.methodLink RL 184 yX10_digest ∈ mj_TB := mj_wl (n := 965) wt_10 (k := 46) rfl
theorem w_966 : Cond.instanceMethod yX10_digest ∈ mj_TB := mj_wl (n := 966) wt_10 (k := 47) rfl
theorem w_967 : Cond.selects RX10 yX10_digest yX10_digest ∈ mj_TB := mj_wl (n := 967) wt_10 (k := 48) rfl
theorem w_969 : Cond.constantLong RX10 327 (1453) ∈ mj_TB := mj_wl (n := 969) wt_10 (k := 49) rfl
theorem w_970 : Cond.constantLong RX10 329 (31) ∈ mj_TB := mj_wl (n := 970) wt_10 (k := 50) rfl
theorem w_971 : Cond.methodLink RX10 331 yX7_fold ∈ mj_TB := mj_wl (n := 971) wt_10 (k := 51) rfl
theorem w_972 : Cond.instanceMethod yX7_fold ∈ mj_TB := mj_wl (n := 972) wt_10 (k := 52) rfl
theorem w_973 : Cond.selects RX7 yX7_fold yX7_fold ∈ mj_TB := mj_wl (n := 973) wt_10 (k := 53) rfl
theorem w_975 : Cond.constantLong RX7 77 (31) ∈ mj_TB := mj_wl (n := 975) wt_10 (k := 54) rfl
theorem w_976 : Cond.methodLink RX10 335 yX3_fold ∈ mj_TB := mj_wl (n := 976) wt_10 (k := 55) rfl
theorem w_977 : Cond.instanceMethod yX3_fold ∈ mj_TB := mj_wl (n := 977) wt_10 (k := 56) rfl
theorem w_978 : Cond.selects RX3 yX3_fold yX3_fold ∈ mj_TB := mj_wl (n := 978) wt_10 (k := 57) rfl
theorem w_980 : Cond.constantLong RX3 29 (31) ∈ mj_TB := mj_wl (n := 980) wt_10 (k := 58) rfl
theorem w_981 : Cond.classLink RL 10 "IceVoteModel" ∈ mj_TB := mj_wl (n := 981) wt_10 (k := 59) rfl
def wl_11 : List (Nat × Cond) := [(982, Cond.instantiable "IceVoteModel" 16), (983, Cond.methodLink RL 12 yX11_init), (984, Cond.instanceMethod yX11_init), (986, Cond.methodLink RX11 1 objectInit), (987, Cond.methodLink RX11 42 yX11_begin), (988, Cond.static yX11_begin), (990, Cond.fieldLink RX11 7 "IceVoteModel" "told" "[I"), (991, Cond.fieldLink RX11 13 "IceVoteModel" "kept" "[I"), (992, Cond.fieldLink RX11 16 "IceVoteModel" "isKept" "[Z"), (993, Cond.fieldLink RX11 20 "IceVoteModel" "refused" "[I"), (994, Cond.fieldLink RX11 205 "IceVoteModel" "above" "J"), (995, Cond.fieldLink RX11 23 "IceVoteModel" "below" "J"), (996, Cond.fieldLink RX11 27 "IceVoteModel" "ices" "[I"), (997, Cond.fieldLink RX11 30 "IceVoteModel" "far" "[I"), (998, Cond.fieldLink RX11 33 "IceVoteModel" "bytes" "[I"), (999, Cond.fieldLink RX11 230 "IceVoteModel" "bytesLong" "I"), (1000, Cond.fieldLink RX11 242 "IceVoteModel" "tokenAt" "I"), (1001, Cond.fieldLink RX11 245 "IceVoteModel" "tokenLong" "I"), (1002, Cond.fieldLink RX11 248 "IceVoteModel" "token" "I"), (1003, Cond.fieldLink RX11 251 "IceVoteModel" "value" "I"), (1004, Cond.fieldLink RX11 36 "IceVoteModel" "anew" "[I"), (1005, Cond.fieldLink RX11 39 "IceVoteModel" "values" "[I"), (1039, Cond.arrayClass .boolean), (1040, Cond.methodLink RL 17 yX11_lake), (1041, Cond.instanceMethod yX11_lake), (1042, Cond.selects RX11 yX11_lake yX11_lake), (1044, Cond.methodLink RX11 62 yX11_isIce), (1045, Cond.static yX11_isIce), (1047, Cond.constantLong RX11 56 (99)), (1048, Cond.methodLink RX11 50 yX11_in), (1049, Cond.static yX11_in), (1051, Cond.methodLink RX11 66 yX11_bad), (1053, Cond.instanceMethod yX11_bad), (1055, Cond.methodLink RX11 46 yX11_many), (1057, Cond.instanceMethod yX11_many), (1059, Cond.methodLink RL 22 yX11_cell), (1060, Cond.instanceMethod yX11_cell), (1061, Cond.selects RX11 yX11_cell yX11_cell), (1063, Cond.methodLink RX11 70 yX11_isCell), (1064, Cond.static yX11_isCell), (1066, Cond.constantLong RX11 54 (24)), (1067, Cond.constantLong RX11 73 (5)), (1068, Cond.methodLink RL 27 yX11_weather), (1069, Cond.instanceMethod yX11_weather), (1070, Cond.selects RX11 yX11_weather yX11_weather), (1072, Cond.constantLong RX11 75 (6)), (1073, Cond.methodLink RX11 77 yX11_isWeather), (1074, Cond.static yX11_isWeather), (1076, Cond.constantLong RX11 58 (9)), (1077, Cond.methodLink RL 31 yX11_ward), (1078, Cond.instanceMethod yX11_ward), (1079, Cond.selects RX11 yX11_ward yX11_ward), (1081, Cond.constantLong RX11 80 (3)), (1082, Cond.methodLink RL 35 yX11_voter), (1083, Cond.instanceMethod yX11_voter), (1084, Cond.selects RX11 yX11_voter yX11_voter), (1086, Cond.methodLink RX11 82 yX11_full), (1088, Cond.instanceMethod yX11_full), (1090, Cond.methodLink RX11 85 yX11_layVoter), (1091, Cond.static yX11_layVoter)]
theorem wt_11 : wl_11.all (fun q => goodWord q.2 && lw_tbl[q.1]? == some q.2) = true := by decide +kernel
theorem w_982 : Cond.instantiable "IceVoteModel" 16 ∈ mj_TB := mj_wl (n := 982) wt_11 (k := 0) rfl
theorem w_983 : Cond.methodLink RL 12 yX11_init ∈ mj_TB := mj_wl (n := 983) wt_11 (k := 1) rfl
theorem w_984 : Cond.instanceMethod yX11_init ∈ mj_TB := mj_wl (n := 984) wt_11 (k := 2) rfl
theorem w_986 : Cond.methodLink RX11 1 objectInit ∈ mj_TB := mj_wl (n := 986) wt_11 (k := 3) rfl
theorem w_987 : Cond.methodLink RX11 42 yX11_begin ∈ mj_TB := mj_wl (n := 987) wt_11 (k := 4) rfl
theorem w_988 : Cond.static yX11_begin ∈ mj_TB := mj_wl (n := 988) wt_11 (k := 5) rfl
theorem w_990 : Cond.fieldLink RX11 7 "IceVoteModel" "told" "[I" ∈ mj_TB := mj_wl (n := 990) wt_11 (k := 6) rfl
theorem w_991 : Cond.fieldLink RX11 13 "IceVoteModel" "kept" "[I" ∈ mj_TB := mj_wl (n := 991) wt_11 (k := 7) rfl
theorem w_992 : Cond.fieldLink RX11 16 "IceVoteModel" "isKept" "[Z" ∈ mj_TB := mj_wl (n := 992) wt_11 (k := 8) rfl
theorem w_993 : Cond.fieldLink RX11 20 "IceVoteModel" "refused" "[I" ∈ mj_TB := mj_wl (n := 993) wt_11 (k := 9) rfl
theorem w_994 : Cond.fieldLink RX11 205 "IceVoteModel" "above" "J" ∈ mj_TB := mj_wl (n := 994) wt_11 (k := 10) rfl
theorem w_995 : Cond.fieldLink RX11 23 "IceVoteModel" "below" "J" ∈ mj_TB := mj_wl (n := 995) wt_11 (k := 11) rfl
theorem w_996 : Cond.fieldLink RX11 27 "IceVoteModel" "ices" "[I" ∈ mj_TB := mj_wl (n := 996) wt_11 (k := 12) rfl
theorem w_997 : Cond.fieldLink RX11 30 "IceVoteModel" "far" "[I" ∈ mj_TB := mj_wl (n := 997) wt_11 (k := 13) rfl
theorem w_998 : Cond.fieldLink RX11 33 "IceVoteModel" "bytes" "[I" ∈ mj_TB := mj_wl (n := 998) wt_11 (k := 14) rfl
theorem w_999 : Cond.fieldLink RX11 230 "IceVoteModel" "bytesLong" "I" ∈ mj_TB := mj_wl (n := 999) wt_11 (k := 15) rfl
theorem w_1000 : Cond.fieldLink RX11 242 "IceVoteModel" "tokenAt" "I" ∈ mj_TB := mj_wl (n := 1000) wt_11 (k := 16) rfl
theorem w_1001 : Cond.fieldLink RX11 245 "IceVoteModel" "tokenLong" "I" ∈ mj_TB := mj_wl (n := 1001) wt_11 (k := 17) rfl
theorem w_1002 : Cond.fieldLink RX11 248 "IceVoteModel" "token" "I" ∈ mj_TB := mj_wl (n := 1002) wt_11 (k := 18) rfl
theorem w_1003 : Cond.fieldLink RX11 251 "IceVoteModel" "value" "I" ∈ mj_TB := mj_wl (n := 1003) wt_11 (k := 19) rfl
theorem w_1004 : Cond.fieldLink RX11 36 "IceVoteModel" "anew" "[I" ∈ mj_TB := mj_wl (n := 1004) wt_11 (k := 20) rfl
theorem w_1005 : Cond.fieldLink RX11 39 "IceVoteModel" "values" "[I" ∈ mj_TB := mj_wl (n := 1005) wt_11 (k := 21) rfl
theorem w_1039 : Cond.arrayClass .boolean ∈ mj_TB := mj_wl (n := 1039) wt_11 (k := 22) rfl
theorem w_1040 : Cond.methodLink RL 17 yX11_lake ∈ mj_TB := mj_wl (n := 1040) wt_11 (k := 23) rfl
theorem w_1041 : Cond.instanceMethod yX11_lake ∈ mj_TB := mj_wl (n := 1041) wt_11 (k := 24) rfl
theorem w_1042 : Cond.selects RX11 yX11_lake yX11_lake ∈ mj_TB := mj_wl (n := 1042) wt_11 (k := 25) rfl
theorem w_1044 : Cond.methodLink RX11 62 yX11_isIce ∈ mj_TB := mj_wl (n := 1044) wt_11 (k := 26) rfl
theorem w_1045 : Cond.static yX11_isIce ∈ mj_TB := mj_wl (n := 1045) wt_11 (k := 27) rfl
theorem w_1047 : Cond.constantLong RX11 56 (99) ∈ mj_TB := mj_wl (n := 1047) wt_11 (k := 28) rfl
theorem w_1048 : Cond.methodLink RX11 50 yX11_in ∈ mj_TB := mj_wl (n := 1048) wt_11 (k := 29) rfl
theorem w_1049 : Cond.static yX11_in ∈ mj_TB := mj_wl (n := 1049) wt_11 (k := 30) rfl
theorem w_1051 : Cond.methodLink RX11 66 yX11_bad ∈ mj_TB := mj_wl (n := 1051) wt_11 (k := 31) rfl
theorem w_1053 : Cond.instanceMethod yX11_bad ∈ mj_TB := mj_wl (n := 1053) wt_11 (k := 32) rfl
theorem w_1055 : Cond.methodLink RX11 46 yX11_many ∈ mj_TB := mj_wl (n := 1055) wt_11 (k := 33) rfl
theorem w_1057 : Cond.instanceMethod yX11_many ∈ mj_TB := mj_wl (n := 1057) wt_11 (k := 34) rfl
theorem w_1059 : Cond.methodLink RL 22 yX11_cell ∈ mj_TB := mj_wl (n := 1059) wt_11 (k := 35) rfl
theorem w_1060 : Cond.instanceMethod yX11_cell ∈ mj_TB := mj_wl (n := 1060) wt_11 (k := 36) rfl
theorem w_1061 : Cond.selects RX11 yX11_cell yX11_cell ∈ mj_TB := mj_wl (n := 1061) wt_11 (k := 37) rfl
theorem w_1063 : Cond.methodLink RX11 70 yX11_isCell ∈ mj_TB := mj_wl (n := 1063) wt_11 (k := 38) rfl
theorem w_1064 : Cond.static yX11_isCell ∈ mj_TB := mj_wl (n := 1064) wt_11 (k := 39) rfl
theorem w_1066 : Cond.constantLong RX11 54 (24) ∈ mj_TB := mj_wl (n := 1066) wt_11 (k := 40) rfl
theorem w_1067 : Cond.constantLong RX11 73 (5) ∈ mj_TB := mj_wl (n := 1067) wt_11 (k := 41) rfl
theorem w_1068 : Cond.methodLink RL 27 yX11_weather ∈ mj_TB := mj_wl (n := 1068) wt_11 (k := 42) rfl
theorem w_1069 : Cond.instanceMethod yX11_weather ∈ mj_TB := mj_wl (n := 1069) wt_11 (k := 43) rfl
theorem w_1070 : Cond.selects RX11 yX11_weather yX11_weather ∈ mj_TB := mj_wl (n := 1070) wt_11 (k := 44) rfl
theorem w_1072 : Cond.constantLong RX11 75 (6) ∈ mj_TB := mj_wl (n := 1072) wt_11 (k := 45) rfl
theorem w_1073 : Cond.methodLink RX11 77 yX11_isWeather ∈ mj_TB := mj_wl (n := 1073) wt_11 (k := 46) rfl
theorem w_1074 : Cond.static yX11_isWeather ∈ mj_TB := mj_wl (n := 1074) wt_11 (k := 47) rfl
theorem w_1076 : Cond.constantLong RX11 58 (9) ∈ mj_TB := mj_wl (n := 1076) wt_11 (k := 48) rfl
theorem w_1077 : Cond.methodLink RL 31 yX11_ward ∈ mj_TB := mj_wl (n := 1077) wt_11 (k := 49) rfl
theorem w_1078 : Cond.instanceMethod yX11_ward ∈ mj_TB := mj_wl (n := 1078) wt_11 (k := 50) rfl
theorem w_1079 : Cond.selects RX11 yX11_ward yX11_ward ∈ mj_TB := mj_wl (n := 1079) wt_11 (k := 51) rfl
theorem w_1081 : Cond.constantLong RX11 80 (3) ∈ mj_TB := mj_wl (n := 1081) wt_11 (k := 52) rfl
theorem w_1082 : Cond.methodLink RL 35 yX11_voter ∈ mj_TB := mj_wl (n := 1082) wt_11 (k := 53) rfl
theorem w_1083 : Cond.instanceMethod yX11_voter ∈ mj_TB := mj_wl (n := 1083) wt_11 (k := 54) rfl
theorem w_1084 : Cond.selects RX11 yX11_voter yX11_voter ∈ mj_TB := mj_wl (n := 1084) wt_11 (k := 55) rfl
theorem w_1086 : Cond.methodLink RX11 82 yX11_full ∈ mj_TB := mj_wl (n := 1086) wt_11 (k := 56) rfl
theorem w_1088 : Cond.instanceMethod yX11_full ∈ mj_TB := mj_wl (n := 1088) wt_11 (k := 57) rfl
theorem w_1090 : Cond.methodLink RX11 85 yX11_layVoter ∈ mj_TB := mj_wl (n := 1090) wt_11 (k := 58) rfl
theorem w_1091 : Cond.static yX11_layVoter ∈ mj_TB := mj_wl (n := 1091) wt_11 (k := 59) rfl
def wl_12 : List (Nat × Cond) := [(1093, Cond.methodLink RL 52 yX11_day), (1094, Cond.instanceMethod yX11_day), (1095, Cond.selects RX11 yX11_day yX11_day), (1097, Cond.constantLong RX11 119 (60)), (1098, Cond.methodLink RX11 121 yX11_keep), (1100, Cond.instanceMethod yX11_keep), (1102, Cond.methodLink RX11 124 yX11_layIce), (1104, Cond.instanceMethod yX11_layIce), (1106, Cond.methodLink RX11 127 yX11_goDays), (1108, Cond.instanceMethod yX11_goDays), (1110, Cond.methodLink RX11 107 yX11_goDay), (1112, Cond.instanceMethod yX11_goDay), (1114, Cond.methodLink RX11 97 yX11_kindOf), (1116, Cond.instanceMethod yX11_kindOf), (1118, Cond.methodLink RX11 103 yX11_behindDay), (1119, Cond.static yX11_behindDay), (1121, Cond.methodLink RX11 89 yX11_growsAs), (1122, Cond.static yX11_growsAs), (1124, Cond.methodLink RX11 93 yX11_meltsAs), (1125, Cond.static yX11_meltsAs), (1127, Cond.methodLink RX11 131 yX11_allIce), (1129, Cond.instanceMethod yX11_allIce), (1131, Cond.methodLink RL 56 yX11_tread), (1132, Cond.instanceMethod yX11_tread), (1133, Cond.selects RX11 yX11_tread yX11_tread), (1135, Cond.methodLink RX11 100 yX11_bearsAs), (1136, Cond.static yX11_bearsAs), (1138, Cond.methodLink RL 60 yX11_stone), (1139, Cond.instanceMethod yX11_stone), (1140, Cond.selects RX11 yX11_stone yX11_stone), (1142, Cond.methodLink RL 64 yX11_undo), (1143, Cond.instanceMethod yX11_undo), (1144, Cond.selects RX11 yX11_undo yX11_undo), (1146, Cond.methodLink RX11 134 yX11_no), (1148, Cond.instanceMethod yX11_no), (1150, Cond.methodLink RL 68 yX11_of), (1151, Cond.instanceMethod yX11_of), (1152, Cond.selects RX11 yX11_of yX11_of), (1154, Cond.constantLong RX11 137 (2)), (1155, Cond.methodLink RL 72 yX11_about), (1156, Cond.instanceMethod yX11_about), (1157, Cond.selects RX11 yX11_about yX11_about), (1159, Cond.methodLink RX11 146 yX11_isVoter), (1161, Cond.instanceMethod yX11_isVoter), (1163, Cond.methodLink RX11 149 yX11_frostNow), (1165, Cond.instanceMethod yX11_frostNow), (1167, Cond.methodLink RX11 152 yX11_votesYes), (1169, Cond.instanceMethod yX11_votesYes), (1171, Cond.methodLink RX11 116 yX11_bears), (1173, Cond.instanceMethod yX11_bears), (1175, Cond.methodLink RX11 139 yX11_leastBeside), (1177, Cond.instanceMethod yX11_leastBeside), (1179, Cond.constant RX11 111 (1000000)), (1180, Cond.methodLink RX11 112 yX11_areBeside), (1181, Cond.static yX11_areBeside), (1183, Cond.methodLink RX11 142 yX11_votesAs), (1184, Cond.static yX11_votesAs), (1186, Cond.methodLink RL 76 yX11_then), (1187, Cond.instanceMethod yX11_then), (1188, Cond.selects RX11 yX11_then yX11_then)]
theorem wt_12 : wl_12.all (fun q => goodWord q.2 && lw_tbl[q.1]? == some q.2) = true := by decide +kernel
theorem w_1093 : Cond.methodLink RL 52 yX11_day ∈ mj_TB := mj_wl (n := 1093) wt_12 (k := 0) rfl
theorem w_1094 : Cond.instanceMethod yX11_day ∈ mj_TB := mj_wl (n := 1094) wt_12 (k := 1) rfl
theorem w_1095 : Cond.selects RX11 yX11_day yX11_day ∈ mj_TB := mj_wl (n := 1095) wt_12 (k := 2) rfl
theorem w_1097 : Cond.constantLong RX11 119 (60) ∈ mj_TB := mj_wl (n := 1097) wt_12 (k := 3) rfl
theorem w_1098 : Cond.methodLink RX11 121 yX11_keep ∈ mj_TB := mj_wl (n := 1098) wt_12 (k := 4) rfl
theorem w_1100 : Cond.instanceMethod yX11_keep ∈ mj_TB := mj_wl (n := 1100) wt_12 (k := 5) rfl
theorem w_1102 : Cond.methodLink RX11 124 yX11_layIce ∈ mj_TB := mj_wl (n := 1102) wt_12 (k := 6) rfl
theorem w_1104 : Cond.instanceMethod yX11_layIce ∈ mj_TB := mj_wl (n := 1104) wt_12 (k := 7) rfl
theorem w_1106 : Cond.methodLink RX11 127 yX11_goDays ∈ mj_TB := mj_wl (n := 1106) wt_12 (k := 8) rfl
theorem w_1108 : Cond.instanceMethod yX11_goDays ∈ mj_TB := mj_wl (n := 1108) wt_12 (k := 9) rfl
theorem w_1110 : Cond.methodLink RX11 107 yX11_goDay ∈ mj_TB := mj_wl (n := 1110) wt_12 (k := 10) rfl
theorem w_1112 : Cond.instanceMethod yX11_goDay ∈ mj_TB := mj_wl (n := 1112) wt_12 (k := 11) rfl
theorem w_1114 : Cond.methodLink RX11 97 yX11_kindOf ∈ mj_TB := mj_wl (n := 1114) wt_12 (k := 12) rfl
theorem w_1116 : Cond.instanceMethod yX11_kindOf ∈ mj_TB := mj_wl (n := 1116) wt_12 (k := 13) rfl
theorem w_1118 : Cond.methodLink RX11 103 yX11_behindDay ∈ mj_TB := mj_wl (n := 1118) wt_12 (k := 14) rfl
theorem w_1119 : Cond.static yX11_behindDay ∈ mj_TB := mj_wl (n := 1119) wt_12 (k := 15) rfl
theorem w_1121 : Cond.methodLink RX11 89 yX11_growsAs ∈ mj_TB := mj_wl (n := 1121) wt_12 (k := 16) rfl
theorem w_1122 : Cond.static yX11_growsAs ∈ mj_TB := mj_wl (n := 1122) wt_12 (k := 17) rfl
theorem w_1124 : Cond.methodLink RX11 93 yX11_meltsAs ∈ mj_TB := mj_wl (n := 1124) wt_12 (k := 18) rfl
theorem w_1125 : Cond.static yX11_meltsAs ∈ mj_TB := mj_wl (n := 1125) wt_12 (k := 19) rfl
theorem w_1127 : Cond.methodLink RX11 131 yX11_allIce ∈ mj_TB := mj_wl (n := 1127) wt_12 (k := 20) rfl
theorem w_1129 : Cond.instanceMethod yX11_allIce ∈ mj_TB := mj_wl (n := 1129) wt_12 (k := 21) rfl
theorem w_1131 : Cond.methodLink RL 56 yX11_tread ∈ mj_TB := mj_wl (n := 1131) wt_12 (k := 22) rfl
theorem w_1132 : Cond.instanceMethod yX11_tread ∈ mj_TB := mj_wl (n := 1132) wt_12 (k := 23) rfl
theorem w_1133 : Cond.selects RX11 yX11_tread yX11_tread ∈ mj_TB := mj_wl (n := 1133) wt_12 (k := 24) rfl
theorem w_1135 : Cond.methodLink RX11 100 yX11_bearsAs ∈ mj_TB := mj_wl (n := 1135) wt_12 (k := 25) rfl
theorem w_1136 : Cond.static yX11_bearsAs ∈ mj_TB := mj_wl (n := 1136) wt_12 (k := 26) rfl
theorem w_1138 : Cond.methodLink RL 60 yX11_stone ∈ mj_TB := mj_wl (n := 1138) wt_12 (k := 27) rfl
theorem w_1139 : Cond.instanceMethod yX11_stone ∈ mj_TB := mj_wl (n := 1139) wt_12 (k := 28) rfl
theorem w_1140 : Cond.selects RX11 yX11_stone yX11_stone ∈ mj_TB := mj_wl (n := 1140) wt_12 (k := 29) rfl
theorem w_1142 : Cond.methodLink RL 64 yX11_undo ∈ mj_TB := mj_wl (n := 1142) wt_12 (k := 30) rfl
theorem w_1143 : Cond.instanceMethod yX11_undo ∈ mj_TB := mj_wl (n := 1143) wt_12 (k := 31) rfl
theorem w_1144 : Cond.selects RX11 yX11_undo yX11_undo ∈ mj_TB := mj_wl (n := 1144) wt_12 (k := 32) rfl
theorem w_1146 : Cond.methodLink RX11 134 yX11_no ∈ mj_TB := mj_wl (n := 1146) wt_12 (k := 33) rfl
theorem w_1148 : Cond.instanceMethod yX11_no ∈ mj_TB := mj_wl (n := 1148) wt_12 (k := 34) rfl
theorem w_1150 : Cond.methodLink RL 68 yX11_of ∈ mj_TB := mj_wl (n := 1150) wt_12 (k := 35) rfl
theorem w_1151 : Cond.instanceMethod yX11_of ∈ mj_TB := mj_wl (n := 1151) wt_12 (k := 36) rfl
theorem w_1152 : Cond.selects RX11 yX11_of yX11_of ∈ mj_TB := mj_wl (n := 1152) wt_12 (k := 37) rfl
theorem w_1154 : Cond.constantLong RX11 137 (2) ∈ mj_TB := mj_wl (n := 1154) wt_12 (k := 38) rfl
theorem w_1155 : Cond.methodLink RL 72 yX11_about ∈ mj_TB := mj_wl (n := 1155) wt_12 (k := 39) rfl
theorem w_1156 : Cond.instanceMethod yX11_about ∈ mj_TB := mj_wl (n := 1156) wt_12 (k := 40) rfl
theorem w_1157 : Cond.selects RX11 yX11_about yX11_about ∈ mj_TB := mj_wl (n := 1157) wt_12 (k := 41) rfl
theorem w_1159 : Cond.methodLink RX11 146 yX11_isVoter ∈ mj_TB := mj_wl (n := 1159) wt_12 (k := 42) rfl
theorem w_1161 : Cond.instanceMethod yX11_isVoter ∈ mj_TB := mj_wl (n := 1161) wt_12 (k := 43) rfl
theorem w_1163 : Cond.methodLink RX11 149 yX11_frostNow ∈ mj_TB := mj_wl (n := 1163) wt_12 (k := 44) rfl
theorem w_1165 : Cond.instanceMethod yX11_frostNow ∈ mj_TB := mj_wl (n := 1165) wt_12 (k := 45) rfl
theorem w_1167 : Cond.methodLink RX11 152 yX11_votesYes ∈ mj_TB := mj_wl (n := 1167) wt_12 (k := 46) rfl
theorem w_1169 : Cond.instanceMethod yX11_votesYes ∈ mj_TB := mj_wl (n := 1169) wt_12 (k := 47) rfl
theorem w_1171 : Cond.methodLink RX11 116 yX11_bears ∈ mj_TB := mj_wl (n := 1171) wt_12 (k := 48) rfl
theorem w_1173 : Cond.instanceMethod yX11_bears ∈ mj_TB := mj_wl (n := 1173) wt_12 (k := 49) rfl
theorem w_1175 : Cond.methodLink RX11 139 yX11_leastBeside ∈ mj_TB := mj_wl (n := 1175) wt_12 (k := 50) rfl
theorem w_1177 : Cond.instanceMethod yX11_leastBeside ∈ mj_TB := mj_wl (n := 1177) wt_12 (k := 51) rfl
theorem w_1179 : Cond.constant RX11 111 (1000000) ∈ mj_TB := mj_wl (n := 1179) wt_12 (k := 52) rfl
theorem w_1180 : Cond.methodLink RX11 112 yX11_areBeside ∈ mj_TB := mj_wl (n := 1180) wt_12 (k := 53) rfl
theorem w_1181 : Cond.static yX11_areBeside ∈ mj_TB := mj_wl (n := 1181) wt_12 (k := 54) rfl
theorem w_1183 : Cond.methodLink RX11 142 yX11_votesAs ∈ mj_TB := mj_wl (n := 1183) wt_12 (k := 55) rfl
theorem w_1184 : Cond.static yX11_votesAs ∈ mj_TB := mj_wl (n := 1184) wt_12 (k := 56) rfl
theorem w_1186 : Cond.methodLink RL 76 yX11_then ∈ mj_TB := mj_wl (n := 1186) wt_12 (k := 57) rfl
theorem w_1187 : Cond.instanceMethod yX11_then ∈ mj_TB := mj_wl (n := 1187) wt_12 (k := 58) rfl
theorem w_1188 : Cond.selects RX11 yX11_then yX11_then ∈ mj_TB := mj_wl (n := 1188) wt_12 (k := 59) rfl
def wl_13 : List (Nat × Cond) := [(1190, Cond.methodLink RL 80 yX11_when), (1191, Cond.instanceMethod yX11_when), (1192, Cond.selects RX11 yX11_when yX11_when), (1194, Cond.methodLink RX11 155 yX11_isBurden), (1195, Cond.static yX11_isBurden), (1197, Cond.constantLong RX11 60 (198)), (1198, Cond.methodLink RX11 158 yX11_goOne), (1200, Cond.instanceMethod yX11_goOne), (1202, Cond.methodLink RL 84 yX11_where), (1203, Cond.instanceMethod yX11_where), (1204, Cond.selects RX11 yX11_where yX11_where), (1206, Cond.methodLink RL 88 yX11_horses), (1207, Cond.instanceMethod yX11_horses), (1208, Cond.selects RX11 yX11_horses yX11_horses), (1210, Cond.methodLink RL 93 yX11_path), (1211, Cond.instanceMethod yX11_path), (1212, Cond.selects RX11 yX11_path yX11_path), (1214, Cond.methodLink RX11 167 yX11_layFar), (1216, Cond.instanceMethod yX11_layFar), (1218, Cond.methodLink RX11 161 yX11_has), (1219, Cond.static yX11_has), (1221, Cond.methodLink RX11 164 yX11_layNearer), (1223, Cond.instanceMethod yX11_layNearer), (1225, Cond.methodLink RX11 171 yX11_nextOf), (1227, Cond.instanceMethod yX11_nextOf), (1229, Cond.methodLink RL 97 yX11_safe), (1230, Cond.instanceMethod yX11_safe), (1231, Cond.selects RX11 yX11_safe yX11_safe), (1233, Cond.methodLink RL 101 yX11_cross), (1234, Cond.instanceMethod yX11_cross), (1235, Cond.selects RX11 yX11_cross yX11_cross), (1237, Cond.methodLink RL 105 yX11_apart), (1238, Cond.instanceMethod yX11_apart), (1239, Cond.selects RX11 yX11_apart yX11_apart), (1241, Cond.methodLink RX11 178 yX11_partsOf), (1243, Cond.instanceMethod yX11_partsOf), (1245, Cond.methodLink RX11 174 yX11_isParted), (1247, Cond.instanceMethod yX11_isParted), (1249, Cond.methodLink RL 109 yX11_votes), (1250, Cond.instanceMethod yX11_votes), (1251, Cond.selects RX11 yX11_votes yX11_votes), (1253, Cond.methodLink RX11 193 yX11_yesOf), (1255, Cond.instanceMethod yX11_yesOf), (1257, Cond.methodLink RX11 196 yX11_wetOf), (1259, Cond.instanceMethod yX11_wetOf), (1261, Cond.methodLink RX11 187 yX11_isCarried), (1263, Cond.instanceMethod yX11_isCarried), (1265, Cond.methodLink RX11 181 yX11_bits), (1266, Cond.static yX11_bits), (1268, Cond.methodLink RX11 184 yX11_heaviest), (1270, Cond.instanceMethod yX11_heaviest), (1272, Cond.methodLink RX11 190 yX11_bearsIt), (1274, Cond.instanceMethod yX11_bearsIt), (1276, Cond.methodLink RL 113 yX11_turn), (1277, Cond.instanceMethod yX11_turn), (1278, Cond.selects RX11 yX11_turn yX11_turn), (1280, Cond.methodLink RL 117 yX11_seen), (1281, Cond.instanceMethod yX11_seen), (1282, Cond.selects RX11 yX11_seen yX11_seen), (1284, Cond.methodLink RL 121 yX11_lies)]
theorem wt_13 : wl_13.all (fun q => goodWord q.2 && lw_tbl[q.1]? == some q.2) = true := by decide +kernel
theorem w_1190 : Cond.methodLink RL 80 yX11_when ∈ mj_TB := mj_wl (n := 1190) wt_13 (k := 0) rfl
theorem w_1191 : Cond.instanceMethod yX11_when ∈ mj_TB := mj_wl (n := 1191) wt_13 (k := 1) rfl
theorem w_1192 : Cond.selects RX11 yX11_when yX11_when ∈ mj_TB := mj_wl (n := 1192) wt_13 (k := 2) rfl
theorem w_1194 : Cond.methodLink RX11 155 yX11_isBurden ∈ mj_TB := mj_wl (n := 1194) wt_13 (k := 3) rfl
theorem w_1195 : Cond.static yX11_isBurden ∈ mj_TB := mj_wl (n := 1195) wt_13 (k := 4) rfl
theorem w_1197 : Cond.constantLong RX11 60 (198) ∈ mj_TB := mj_wl (n := 1197) wt_13 (k := 5) rfl
theorem w_1198 : Cond.methodLink RX11 158 yX11_goOne ∈ mj_TB := mj_wl (n := 1198) wt_13 (k := 6) rfl
theorem w_1200 : Cond.instanceMethod yX11_goOne ∈ mj_TB := mj_wl (n := 1200) wt_13 (k := 7) rfl
theorem w_1202 : Cond.methodLink RL 84 yX11_where ∈ mj_TB := mj_wl (n := 1202) wt_13 (k := 8) rfl
theorem w_1203 : Cond.instanceMethod yX11_where ∈ mj_TB := mj_wl (n := 1203) wt_13 (k := 9) rfl
theorem w_1204 : Cond.selects RX11 yX11_where yX11_where ∈ mj_TB := mj_wl (n := 1204) wt_13 (k := 10) rfl
theorem w_1206 : Cond.methodLink RL 88 yX11_horses ∈ mj_TB := mj_wl (n := 1206) wt_13 (k := 11) rfl
theorem w_1207 : Cond.instanceMethod yX11_horses ∈ mj_TB := mj_wl (n := 1207) wt_13 (k := 12) rfl
theorem w_1208 : Cond.selects RX11 yX11_horses yX11_horses ∈ mj_TB := mj_wl (n := 1208) wt_13 (k := 13) rfl
theorem w_1210 : Cond.methodLink RL 93 yX11_path ∈ mj_TB := mj_wl (n := 1210) wt_13 (k := 14) rfl
theorem w_1211 : Cond.instanceMethod yX11_path ∈ mj_TB := mj_wl (n := 1211) wt_13 (k := 15) rfl
theorem w_1212 : Cond.selects RX11 yX11_path yX11_path ∈ mj_TB := mj_wl (n := 1212) wt_13 (k := 16) rfl
theorem w_1214 : Cond.methodLink RX11 167 yX11_layFar ∈ mj_TB := mj_wl (n := 1214) wt_13 (k := 17) rfl
theorem w_1216 : Cond.instanceMethod yX11_layFar ∈ mj_TB := mj_wl (n := 1216) wt_13 (k := 18) rfl
theorem w_1218 : Cond.methodLink RX11 161 yX11_has ∈ mj_TB := mj_wl (n := 1218) wt_13 (k := 19) rfl
theorem w_1219 : Cond.static yX11_has ∈ mj_TB := mj_wl (n := 1219) wt_13 (k := 20) rfl
theorem w_1221 : Cond.methodLink RX11 164 yX11_layNearer ∈ mj_TB := mj_wl (n := 1221) wt_13 (k := 21) rfl
theorem w_1223 : Cond.instanceMethod yX11_layNearer ∈ mj_TB := mj_wl (n := 1223) wt_13 (k := 22) rfl
theorem w_1225 : Cond.methodLink RX11 171 yX11_nextOf ∈ mj_TB := mj_wl (n := 1225) wt_13 (k := 23) rfl
theorem w_1227 : Cond.instanceMethod yX11_nextOf ∈ mj_TB := mj_wl (n := 1227) wt_13 (k := 24) rfl
theorem w_1229 : Cond.methodLink RL 97 yX11_safe ∈ mj_TB := mj_wl (n := 1229) wt_13 (k := 25) rfl
theorem w_1230 : Cond.instanceMethod yX11_safe ∈ mj_TB := mj_wl (n := 1230) wt_13 (k := 26) rfl
theorem w_1231 : Cond.selects RX11 yX11_safe yX11_safe ∈ mj_TB := mj_wl (n := 1231) wt_13 (k := 27) rfl
theorem w_1233 : Cond.methodLink RL 101 yX11_cross ∈ mj_TB := mj_wl (n := 1233) wt_13 (k := 28) rfl
theorem w_1234 : Cond.instanceMethod yX11_cross ∈ mj_TB := mj_wl (n := 1234) wt_13 (k := 29) rfl
theorem w_1235 : Cond.selects RX11 yX11_cross yX11_cross ∈ mj_TB := mj_wl (n := 1235) wt_13 (k := 30) rfl
theorem w_1237 : Cond.methodLink RL 105 yX11_apart ∈ mj_TB := mj_wl (n := 1237) wt_13 (k := 31) rfl
theorem w_1238 : Cond.instanceMethod yX11_apart ∈ mj_TB := mj_wl (n := 1238) wt_13 (k := 32) rfl
theorem w_1239 : Cond.selects RX11 yX11_apart yX11_apart ∈ mj_TB := mj_wl (n := 1239) wt_13 (k := 33) rfl
theorem w_1241 : Cond.methodLink RX11 178 yX11_partsOf ∈ mj_TB := mj_wl (n := 1241) wt_13 (k := 34) rfl
theorem w_1243 : Cond.instanceMethod yX11_partsOf ∈ mj_TB := mj_wl (n := 1243) wt_13 (k := 35) rfl
theorem w_1245 : Cond.methodLink RX11 174 yX11_isParted ∈ mj_TB := mj_wl (n := 1245) wt_13 (k := 36) rfl
theorem w_1247 : Cond.instanceMethod yX11_isParted ∈ mj_TB := mj_wl (n := 1247) wt_13 (k := 37) rfl
theorem w_1249 : Cond.methodLink RL 109 yX11_votes ∈ mj_TB := mj_wl (n := 1249) wt_13 (k := 38) rfl
theorem w_1250 : Cond.instanceMethod yX11_votes ∈ mj_TB := mj_wl (n := 1250) wt_13 (k := 39) rfl
theorem w_1251 : Cond.selects RX11 yX11_votes yX11_votes ∈ mj_TB := mj_wl (n := 1251) wt_13 (k := 40) rfl
theorem w_1253 : Cond.methodLink RX11 193 yX11_yesOf ∈ mj_TB := mj_wl (n := 1253) wt_13 (k := 41) rfl
theorem w_1255 : Cond.instanceMethod yX11_yesOf ∈ mj_TB := mj_wl (n := 1255) wt_13 (k := 42) rfl
theorem w_1257 : Cond.methodLink RX11 196 yX11_wetOf ∈ mj_TB := mj_wl (n := 1257) wt_13 (k := 43) rfl
theorem w_1259 : Cond.instanceMethod yX11_wetOf ∈ mj_TB := mj_wl (n := 1259) wt_13 (k := 44) rfl
theorem w_1261 : Cond.methodLink RX11 187 yX11_isCarried ∈ mj_TB := mj_wl (n := 1261) wt_13 (k := 45) rfl
theorem w_1263 : Cond.instanceMethod yX11_isCarried ∈ mj_TB := mj_wl (n := 1263) wt_13 (k := 46) rfl
theorem w_1265 : Cond.methodLink RX11 181 yX11_bits ∈ mj_TB := mj_wl (n := 1265) wt_13 (k := 47) rfl
theorem w_1266 : Cond.static yX11_bits ∈ mj_TB := mj_wl (n := 1266) wt_13 (k := 48) rfl
theorem w_1268 : Cond.methodLink RX11 184 yX11_heaviest ∈ mj_TB := mj_wl (n := 1268) wt_13 (k := 49) rfl
theorem w_1270 : Cond.instanceMethod yX11_heaviest ∈ mj_TB := mj_wl (n := 1270) wt_13 (k := 50) rfl
theorem w_1272 : Cond.methodLink RX11 190 yX11_bearsIt ∈ mj_TB := mj_wl (n := 1272) wt_13 (k := 51) rfl
theorem w_1274 : Cond.instanceMethod yX11_bearsIt ∈ mj_TB := mj_wl (n := 1274) wt_13 (k := 52) rfl
theorem w_1276 : Cond.methodLink RL 113 yX11_turn ∈ mj_TB := mj_wl (n := 1276) wt_13 (k := 53) rfl
theorem w_1277 : Cond.instanceMethod yX11_turn ∈ mj_TB := mj_wl (n := 1277) wt_13 (k := 54) rfl
theorem w_1278 : Cond.selects RX11 yX11_turn yX11_turn ∈ mj_TB := mj_wl (n := 1278) wt_13 (k := 55) rfl
theorem w_1280 : Cond.methodLink RL 117 yX11_seen ∈ mj_TB := mj_wl (n := 1280) wt_13 (k := 56) rfl
theorem w_1281 : Cond.instanceMethod yX11_seen ∈ mj_TB := mj_wl (n := 1281) wt_13 (k := 57) rfl
theorem w_1282 : Cond.selects RX11 yX11_seen yX11_seen ∈ mj_TB := mj_wl (n := 1282) wt_13 (k := 58) rfl
theorem w_1284 : Cond.methodLink RL 121 yX11_lies ∈ mj_TB := mj_wl (n := 1284) wt_13 (k := 59) rfl
def wl_14 : List (Nat × Cond) := [(1285, Cond.instanceMethod yX11_lies), (1286, Cond.selects RX11 yX11_lies yX11_lies), (1288, Cond.methodLink RL 125 yX11_stones), (1289, Cond.instanceMethod yX11_stones), (1290, Cond.selects RX11 yX11_stones yX11_stones), (1292, Cond.methodLink RL 130 yX11_note), (1293, Cond.instanceMethod yX11_note), (1294, Cond.selects RX11 yX11_note yX11_note), (1296, Cond.methodLink RL 134 yX11_voted), (1297, Cond.instanceMethod yX11_voted), (1298, Cond.selects RX11 yX11_voted yX11_voted), (1300, Cond.methodLink RL 138 yX11_forget), (1301, Cond.instanceMethod yX11_forget), (1302, Cond.selects RX11 yX11_forget yX11_forget), (1304, Cond.methodLink RL 142 yX11_is), (1305, Cond.instanceMethod yX11_is), (1306, Cond.selects RX11 yX11_is yX11_is), (1308, Cond.methodLink RX11 199 yX11_kindsOf), (1310, Cond.instanceMethod yX11_kindsOf), (1312, Cond.methodLink RL 146 yX11_next), (1313, Cond.instanceMethod yX11_next), (1314, Cond.selects RX11 yX11_next yX11_next), (1316, Cond.methodLink RL 150 yX11_who), (1317, Cond.instanceMethod yX11_who), (1318, Cond.selects RX11 yX11_who yX11_who), (1320, Cond.methodLink RL 154 yX11_two), (1321, Cond.instanceMethod yX11_two), (1322, Cond.selects RX11 yX11_two yX11_two), (1324, Cond.methodLink RX11 202 yX11_hasBy), (1326, Cond.instanceMethod yX11_hasBy), (1328, Cond.methodLink RL 158 yX11_thaw), (1329, Cond.instanceMethod yX11_thaw), (1330, Cond.selects RX11 yX11_thaw yX11_thaw), (1332, Cond.constantLong RX11 208 (8)), (1333, Cond.constantLong RX11 210 (10)), (1334, Cond.methodLink RX11 212 yX11_fraction), (1336, Cond.instanceMethod yX11_fraction), (1338, Cond.methodLink RL 162 yX11_winters), (1339, Cond.instanceMethod yX11_winters), (1340, Cond.selects RX11 yX11_winters yX11_winters), (1342, Cond.constantLong RX11 216 (999999)), (1343, Cond.constantLong RX11 218 (1103515245)), (1344, Cond.constantLong RX11 220 (12345)), (1345, Cond.constantLong RX11 222 (2147483648)), (1346, Cond.constantLong RX11 224 (65536)), (1347, Cond.constantLong RX11 226 (1048576)), (1348, Cond.methodLink RL 39 yX11_type), (1349, Cond.instanceMethod yX11_type), (1350, Cond.selects RX11 yX11_type yX11_type), (1352, Cond.constantLong RX11 228 (127)), (1353, Cond.methodLink RL 44 yX11_clear), (1354, Cond.instanceMethod yX11_clear), (1355, Cond.selects RX11 yX11_clear yX11_clear), (1357, Cond.methodLink RL 48 yX11_read), (1358, Cond.instanceMethod yX11_read), (1359, Cond.selects RX11 yX11_read yX11_read), (1361, Cond.methodLink RX11 260 yX11_lookAt), (1363, Cond.instanceMethod yX11_lookAt), (1365, Cond.methodLink RX11 254 yX11_isSmall), (1366, Cond.static yX11_isSmall)]
theorem wt_14 : wl_14.all (fun q => goodWord q.2 && lw_tbl[q.1]? == some q.2) = true := by decide +kernel
theorem w_1285 : Cond.instanceMethod yX11_lies ∈ mj_TB := mj_wl (n := 1285) wt_14 (k := 0) rfl
theorem w_1286 : Cond.selects RX11 yX11_lies yX11_lies ∈ mj_TB := mj_wl (n := 1286) wt_14 (k := 1) rfl
theorem w_1288 : Cond.methodLink RL 125 yX11_stones ∈ mj_TB := mj_wl (n := 1288) wt_14 (k := 2) rfl
theorem w_1289 : Cond.instanceMethod yX11_stones ∈ mj_TB := mj_wl (n := 1289) wt_14 (k := 3) rfl
theorem w_1290 : Cond.selects RX11 yX11_stones yX11_stones ∈ mj_TB := mj_wl (n := 1290) wt_14 (k := 4) rfl
theorem w_1292 : Cond.methodLink RL 130 yX11_note ∈ mj_TB := mj_wl (n := 1292) wt_14 (k := 5) rfl
theorem w_1293 : Cond.instanceMethod yX11_note ∈ mj_TB := mj_wl (n := 1293) wt_14 (k := 6) rfl
theorem w_1294 : Cond.selects RX11 yX11_note yX11_note ∈ mj_TB := mj_wl (n := 1294) wt_14 (k := 7) rfl
theorem w_1296 : Cond.methodLink RL 134 yX11_voted ∈ mj_TB := mj_wl (n := 1296) wt_14 (k := 8) rfl
theorem w_1297 : Cond.instanceMethod yX11_voted ∈ mj_TB := mj_wl (n := 1297) wt_14 (k := 9) rfl
theorem w_1298 : Cond.selects RX11 yX11_voted yX11_voted ∈ mj_TB := mj_wl (n := 1298) wt_14 (k := 10) rfl
theorem w_1300 : Cond.methodLink RL 138 yX11_forget ∈ mj_TB := mj_wl (n := 1300) wt_14 (k := 11) rfl
theorem w_1301 : Cond.instanceMethod yX11_forget ∈ mj_TB := mj_wl (n := 1301) wt_14 (k := 12) rfl
theorem w_1302 : Cond.selects RX11 yX11_forget yX11_forget ∈ mj_TB := mj_wl (n := 1302) wt_14 (k := 13) rfl
theorem w_1304 : Cond.methodLink RL 142 yX11_is ∈ mj_TB := mj_wl (n := 1304) wt_14 (k := 14) rfl
theorem w_1305 : Cond.instanceMethod yX11_is ∈ mj_TB := mj_wl (n := 1305) wt_14 (k := 15) rfl
theorem w_1306 : Cond.selects RX11 yX11_is yX11_is ∈ mj_TB := mj_wl (n := 1306) wt_14 (k := 16) rfl
theorem w_1308 : Cond.methodLink RX11 199 yX11_kindsOf ∈ mj_TB := mj_wl (n := 1308) wt_14 (k := 17) rfl
theorem w_1310 : Cond.instanceMethod yX11_kindsOf ∈ mj_TB := mj_wl (n := 1310) wt_14 (k := 18) rfl
theorem w_1312 : Cond.methodLink RL 146 yX11_next ∈ mj_TB := mj_wl (n := 1312) wt_14 (k := 19) rfl
theorem w_1313 : Cond.instanceMethod yX11_next ∈ mj_TB := mj_wl (n := 1313) wt_14 (k := 20) rfl
theorem w_1314 : Cond.selects RX11 yX11_next yX11_next ∈ mj_TB := mj_wl (n := 1314) wt_14 (k := 21) rfl
theorem w_1316 : Cond.methodLink RL 150 yX11_who ∈ mj_TB := mj_wl (n := 1316) wt_14 (k := 22) rfl
theorem w_1317 : Cond.instanceMethod yX11_who ∈ mj_TB := mj_wl (n := 1317) wt_14 (k := 23) rfl
theorem w_1318 : Cond.selects RX11 yX11_who yX11_who ∈ mj_TB := mj_wl (n := 1318) wt_14 (k := 24) rfl
theorem w_1320 : Cond.methodLink RL 154 yX11_two ∈ mj_TB := mj_wl (n := 1320) wt_14 (k := 25) rfl
theorem w_1321 : Cond.instanceMethod yX11_two ∈ mj_TB := mj_wl (n := 1321) wt_14 (k := 26) rfl
theorem w_1322 : Cond.selects RX11 yX11_two yX11_two ∈ mj_TB := mj_wl (n := 1322) wt_14 (k := 27) rfl
theorem w_1324 : Cond.methodLink RX11 202 yX11_hasBy ∈ mj_TB := mj_wl (n := 1324) wt_14 (k := 28) rfl
theorem w_1326 : Cond.instanceMethod yX11_hasBy ∈ mj_TB := mj_wl (n := 1326) wt_14 (k := 29) rfl
theorem w_1328 : Cond.methodLink RL 158 yX11_thaw ∈ mj_TB := mj_wl (n := 1328) wt_14 (k := 30) rfl
theorem w_1329 : Cond.instanceMethod yX11_thaw ∈ mj_TB := mj_wl (n := 1329) wt_14 (k := 31) rfl
theorem w_1330 : Cond.selects RX11 yX11_thaw yX11_thaw ∈ mj_TB := mj_wl (n := 1330) wt_14 (k := 32) rfl
theorem w_1332 : Cond.constantLong RX11 208 (8) ∈ mj_TB := mj_wl (n := 1332) wt_14 (k := 33) rfl
theorem w_1333 : Cond.constantLong RX11 210 (10) ∈ mj_TB := mj_wl (n := 1333) wt_14 (k := 34) rfl
theorem w_1334 : Cond.methodLink RX11 212 yX11_fraction ∈ mj_TB := mj_wl (n := 1334) wt_14 (k := 35) rfl
theorem w_1336 : Cond.instanceMethod yX11_fraction ∈ mj_TB := mj_wl (n := 1336) wt_14 (k := 36) rfl
theorem w_1338 : Cond.methodLink RL 162 yX11_winters ∈ mj_TB := mj_wl (n := 1338) wt_14 (k := 37) rfl
theorem w_1339 : Cond.instanceMethod yX11_winters ∈ mj_TB := mj_wl (n := 1339) wt_14 (k := 38) rfl
theorem w_1340 : Cond.selects RX11 yX11_winters yX11_winters ∈ mj_TB := mj_wl (n := 1340) wt_14 (k := 39) rfl
theorem w_1342 : Cond.constantLong RX11 216 (999999) ∈ mj_TB := mj_wl (n := 1342) wt_14 (k := 40) rfl
theorem w_1343 : Cond.constantLong RX11 218 (1103515245) ∈ mj_TB := mj_wl (n := 1343) wt_14 (k := 41) rfl
theorem w_1344 : Cond.constantLong RX11 220 (12345) ∈ mj_TB := mj_wl (n := 1344) wt_14 (k := 42) rfl
theorem w_1345 : Cond.constantLong RX11 222 (2147483648) ∈ mj_TB := mj_wl (n := 1345) wt_14 (k := 43) rfl
theorem w_1346 : Cond.constantLong RX11 224 (65536) ∈ mj_TB := mj_wl (n := 1346) wt_14 (k := 44) rfl
theorem w_1347 : Cond.constantLong RX11 226 (1048576) ∈ mj_TB := mj_wl (n := 1347) wt_14 (k := 45) rfl
theorem w_1348 : Cond.methodLink RL 39 yX11_type ∈ mj_TB := mj_wl (n := 1348) wt_14 (k := 46) rfl
theorem w_1349 : Cond.instanceMethod yX11_type ∈ mj_TB := mj_wl (n := 1349) wt_14 (k := 47) rfl
theorem w_1350 : Cond.selects RX11 yX11_type yX11_type ∈ mj_TB := mj_wl (n := 1350) wt_14 (k := 48) rfl
theorem w_1352 : Cond.constantLong RX11 228 (127) ∈ mj_TB := mj_wl (n := 1352) wt_14 (k := 49) rfl
theorem w_1353 : Cond.methodLink RL 44 yX11_clear ∈ mj_TB := mj_wl (n := 1353) wt_14 (k := 50) rfl
theorem w_1354 : Cond.instanceMethod yX11_clear ∈ mj_TB := mj_wl (n := 1354) wt_14 (k := 51) rfl
theorem w_1355 : Cond.selects RX11 yX11_clear yX11_clear ∈ mj_TB := mj_wl (n := 1355) wt_14 (k := 52) rfl
theorem w_1357 : Cond.methodLink RL 48 yX11_read ∈ mj_TB := mj_wl (n := 1357) wt_14 (k := 53) rfl
theorem w_1358 : Cond.instanceMethod yX11_read ∈ mj_TB := mj_wl (n := 1358) wt_14 (k := 54) rfl
theorem w_1359 : Cond.selects RX11 yX11_read yX11_read ∈ mj_TB := mj_wl (n := 1359) wt_14 (k := 55) rfl
theorem w_1361 : Cond.methodLink RX11 260 yX11_lookAt ∈ mj_TB := mj_wl (n := 1361) wt_14 (k := 56) rfl
theorem w_1363 : Cond.instanceMethod yX11_lookAt ∈ mj_TB := mj_wl (n := 1363) wt_14 (k := 57) rfl
theorem w_1365 : Cond.methodLink RX11 254 yX11_isSmall ∈ mj_TB := mj_wl (n := 1365) wt_14 (k := 58) rfl
theorem w_1366 : Cond.static yX11_isSmall ∈ mj_TB := mj_wl (n := 1366) wt_14 (k := 59) rfl
def wl_15 : List (Nat × Cond) := [(1368, Cond.constantLong RX11 234 (97)), (1369, Cond.constantLong RX11 236 (122)), (1370, Cond.methodLink RX11 257 yX11_isFigure), (1371, Cond.static yX11_isFigure), (1373, Cond.constantLong RX11 238 (48)), (1374, Cond.constantLong RX11 240 (57)), (1375, Cond.methodLink RX11 284 yX11_takesLake), (1377, Cond.instanceMethod yX11_takesLake), (1379, Cond.methodLink RX11 266 yX11_spells), (1381, Cond.instanceMethod yX11_spells), (1383, Cond.methodLink RX11 263 yX11_goBehind), (1385, Cond.instanceMethod yX11_goBehind), (1387, Cond.methodLink RX11 270 yX11_takes), (1389, Cond.instanceMethod yX11_takes), (1391, Cond.methodLink RX11 287 yX11_takesItem), (1393, Cond.instanceMethod yX11_takesItem), (1395, Cond.methodLink RX11 274 yX11_takesCell), (1397, Cond.instanceMethod yX11_takesCell), (1399, Cond.methodLink RX11 278 yX11_takesWeek), (1401, Cond.instanceMethod yX11_takesWeek), (1403, Cond.methodLink RX11 281 yX11_takesVoter), (1405, Cond.instanceMethod yX11_takesVoter), (1407, Cond.methodLink RL 167 yX11_part), (1408, Cond.instanceMethod yX11_part), (1409, Cond.selects RX11 yX11_part yX11_part), (1411, Cond.methodLink RL 171 yX11_image), (1412, Cond.instanceMethod yX11_image), (1413, Cond.selects RX11 yX11_image yX11_image), (1415, Cond.methodLink RL 175 yX11_from), (1416, Cond.instanceMethod yX11_from), (1417, Cond.selects RX11 yX11_from yX11_from), (1419, Cond.methodLink RL 179 yX11_status), (1420, Cond.instanceMethod yX11_status), (1421, Cond.selects RX11 yX11_status yX11_status), (1423, Cond.methodLink RL 183 yX11_count), (1424, Cond.instanceMethod yX11_count), (1425, Cond.selects RX11 yX11_count yX11_count), (1427, Cond.methodLink RX11 290 yX11_counted), (1429, Cond.instanceMethod yX11_counted), (1431, Cond.methodLink RL 188 yX11_digest), (1432, Cond.instanceMethod yX11_digest), (1433, Cond.selects RX11 yX11_digest yX11_digest), (1435, Cond.constantLong RX11 295 (1453)), (1436, Cond.constantLong RX11 293 (31)), (1437, Cond.methodLink RX11 297 yX11_sums), (1439, Cond.instanceMethod yX11_sums)]
theorem wt_15 : wl_15.all (fun q => goodWord q.2 && lw_tbl[q.1]? == some q.2) = true := by decide +kernel
theorem w_1368 : Cond.constantLong RX11 234 (97) ∈ mj_TB := mj_wl (n := 1368) wt_15 (k := 0) rfl
theorem w_1369 : Cond.constantLong RX11 236 (122) ∈ mj_TB := mj_wl (n := 1369) wt_15 (k := 1) rfl
theorem w_1370 : Cond.methodLink RX11 257 yX11_isFigure ∈ mj_TB := mj_wl (n := 1370) wt_15 (k := 2) rfl
theorem w_1371 : Cond.static yX11_isFigure ∈ mj_TB := mj_wl (n := 1371) wt_15 (k := 3) rfl
theorem w_1373 : Cond.constantLong RX11 238 (48) ∈ mj_TB := mj_wl (n := 1373) wt_15 (k := 4) rfl
theorem w_1374 : Cond.constantLong RX11 240 (57) ∈ mj_TB := mj_wl (n := 1374) wt_15 (k := 5) rfl
theorem w_1375 : Cond.methodLink RX11 284 yX11_takesLake ∈ mj_TB := mj_wl (n := 1375) wt_15 (k := 6) rfl
theorem w_1377 : Cond.instanceMethod yX11_takesLake ∈ mj_TB := mj_wl (n := 1377) wt_15 (k := 7) rfl
theorem w_1379 : Cond.methodLink RX11 266 yX11_spells ∈ mj_TB := mj_wl (n := 1379) wt_15 (k := 8) rfl
theorem w_1381 : Cond.instanceMethod yX11_spells ∈ mj_TB := mj_wl (n := 1381) wt_15 (k := 9) rfl
theorem w_1383 : Cond.methodLink RX11 263 yX11_goBehind ∈ mj_TB := mj_wl (n := 1383) wt_15 (k := 10) rfl
theorem w_1385 : Cond.instanceMethod yX11_goBehind ∈ mj_TB := mj_wl (n := 1385) wt_15 (k := 11) rfl
theorem w_1387 : Cond.methodLink RX11 270 yX11_takes ∈ mj_TB := mj_wl (n := 1387) wt_15 (k := 12) rfl
theorem w_1389 : Cond.instanceMethod yX11_takes ∈ mj_TB := mj_wl (n := 1389) wt_15 (k := 13) rfl
theorem w_1391 : Cond.methodLink RX11 287 yX11_takesItem ∈ mj_TB := mj_wl (n := 1391) wt_15 (k := 14) rfl
theorem w_1393 : Cond.instanceMethod yX11_takesItem ∈ mj_TB := mj_wl (n := 1393) wt_15 (k := 15) rfl
theorem w_1395 : Cond.methodLink RX11 274 yX11_takesCell ∈ mj_TB := mj_wl (n := 1395) wt_15 (k := 16) rfl
theorem w_1397 : Cond.instanceMethod yX11_takesCell ∈ mj_TB := mj_wl (n := 1397) wt_15 (k := 17) rfl
theorem w_1399 : Cond.methodLink RX11 278 yX11_takesWeek ∈ mj_TB := mj_wl (n := 1399) wt_15 (k := 18) rfl
theorem w_1401 : Cond.instanceMethod yX11_takesWeek ∈ mj_TB := mj_wl (n := 1401) wt_15 (k := 19) rfl
theorem w_1403 : Cond.methodLink RX11 281 yX11_takesVoter ∈ mj_TB := mj_wl (n := 1403) wt_15 (k := 20) rfl
theorem w_1405 : Cond.instanceMethod yX11_takesVoter ∈ mj_TB := mj_wl (n := 1405) wt_15 (k := 21) rfl
theorem w_1407 : Cond.methodLink RL 167 yX11_part ∈ mj_TB := mj_wl (n := 1407) wt_15 (k := 22) rfl
theorem w_1408 : Cond.instanceMethod yX11_part ∈ mj_TB := mj_wl (n := 1408) wt_15 (k := 23) rfl
theorem w_1409 : Cond.selects RX11 yX11_part yX11_part ∈ mj_TB := mj_wl (n := 1409) wt_15 (k := 24) rfl
theorem w_1411 : Cond.methodLink RL 171 yX11_image ∈ mj_TB := mj_wl (n := 1411) wt_15 (k := 25) rfl
theorem w_1412 : Cond.instanceMethod yX11_image ∈ mj_TB := mj_wl (n := 1412) wt_15 (k := 26) rfl
theorem w_1413 : Cond.selects RX11 yX11_image yX11_image ∈ mj_TB := mj_wl (n := 1413) wt_15 (k := 27) rfl
theorem w_1415 : Cond.methodLink RL 175 yX11_from ∈ mj_TB := mj_wl (n := 1415) wt_15 (k := 28) rfl
theorem w_1416 : Cond.instanceMethod yX11_from ∈ mj_TB := mj_wl (n := 1416) wt_15 (k := 29) rfl
theorem w_1417 : Cond.selects RX11 yX11_from yX11_from ∈ mj_TB := mj_wl (n := 1417) wt_15 (k := 30) rfl
theorem w_1419 : Cond.methodLink RL 179 yX11_status ∈ mj_TB := mj_wl (n := 1419) wt_15 (k := 31) rfl
theorem w_1420 : Cond.instanceMethod yX11_status ∈ mj_TB := mj_wl (n := 1420) wt_15 (k := 32) rfl
theorem w_1421 : Cond.selects RX11 yX11_status yX11_status ∈ mj_TB := mj_wl (n := 1421) wt_15 (k := 33) rfl
theorem w_1423 : Cond.methodLink RL 183 yX11_count ∈ mj_TB := mj_wl (n := 1423) wt_15 (k := 34) rfl
theorem w_1424 : Cond.instanceMethod yX11_count ∈ mj_TB := mj_wl (n := 1424) wt_15 (k := 35) rfl
theorem w_1425 : Cond.selects RX11 yX11_count yX11_count ∈ mj_TB := mj_wl (n := 1425) wt_15 (k := 36) rfl
theorem w_1427 : Cond.methodLink RX11 290 yX11_counted ∈ mj_TB := mj_wl (n := 1427) wt_15 (k := 37) rfl
theorem w_1429 : Cond.instanceMethod yX11_counted ∈ mj_TB := mj_wl (n := 1429) wt_15 (k := 38) rfl
theorem w_1431 : Cond.methodLink RL 188 yX11_digest ∈ mj_TB := mj_wl (n := 1431) wt_15 (k := 39) rfl
theorem w_1432 : Cond.instanceMethod yX11_digest ∈ mj_TB := mj_wl (n := 1432) wt_15 (k := 40) rfl
theorem w_1433 : Cond.selects RX11 yX11_digest yX11_digest ∈ mj_TB := mj_wl (n := 1433) wt_15 (k := 41) rfl
theorem w_1435 : Cond.constantLong RX11 295 (1453) ∈ mj_TB := mj_wl (n := 1435) wt_15 (k := 42) rfl
theorem w_1436 : Cond.constantLong RX11 293 (31) ∈ mj_TB := mj_wl (n := 1436) wt_15 (k := 43) rfl
theorem w_1437 : Cond.methodLink RX11 297 yX11_sums ∈ mj_TB := mj_wl (n := 1437) wt_15 (k := 44) rfl
theorem w_1439 : Cond.instanceMethod yX11_sums ∈ mj_TB := mj_wl (n := 1439) wt_15 (k := 45) rfl
def wl_16 : List (Nat × Cond) := [(96, Cond.code yX10_init cX10_init 1 none), (99, Cond.code objectInit ⟨#[0xb1]⟩ 1 none), (104, Cond.code yX1_init cX1_init 1 none), (110, Cond.code yX4_init cX4_init 1 none), (125, Cond.code yX9_init cX9_init 1 none), (138, Cond.code yX7_init cX7_init 1 none), (160, Cond.code yX3_init cX3_init 1 none), (174, Cond.code yX2_init cX2_init 1 none), (230, Cond.code yX8_init cX8_init 1 none), (243, Cond.code yX5_init cX5_init 1 none), (306, Cond.code yX10_lake cX10_lake 3 (some .int)), (309, Cond.code yX10_within cX10_within 3 (some .boolean)), (313, Cond.code yX10_bad cX10_bad 1 (some .int)), (317, Cond.code yX1_restart cX1_restart 2 none), (321, Cond.code yX4_restart cX4_restart 2 none), (324, Cond.code yJ7_fill_53178 cJ7_fill_53178 4 none), (328, Cond.code yX9_restart cX9_restart 1 none), (333, Cond.code yX3_empty cX3_empty 2 (some .int)), (337, Cond.code yX2_empty cX2_empty 1 none), (342, Cond.code yX10_cell cX10_cell 4 (some .int))]
theorem wt_16 : wl_16.all (fun q => goodWord q.2 && lw_tbl[q.1]? == some q.2) = true := by decide +kernel
theorem w_96 : Cond.code yX10_init cX10_init 1 none ∈ mj_TB := mj_wl (n := 96) wt_16 (k := 0) rfl
theorem w_99 : Cond.code objectInit ⟨#[0xb1]⟩ 1 none ∈ mj_TB := mj_wl (n := 99) wt_16 (k := 1) rfl
theorem w_104 : Cond.code yX1_init cX1_init 1 none ∈ mj_TB := mj_wl (n := 104) wt_16 (k := 2) rfl
theorem w_110 : Cond.code yX4_init cX4_init 1 none ∈ mj_TB := mj_wl (n := 110) wt_16 (k := 3) rfl
theorem w_125 : Cond.code yX9_init cX9_init 1 none ∈ mj_TB := mj_wl (n := 125) wt_16 (k := 4) rfl
theorem w_138 : Cond.code yX7_init cX7_init 1 none ∈ mj_TB := mj_wl (n := 138) wt_16 (k := 5) rfl
theorem w_160 : Cond.code yX3_init cX3_init 1 none ∈ mj_TB := mj_wl (n := 160) wt_16 (k := 6) rfl
theorem w_174 : Cond.code yX2_init cX2_init 1 none ∈ mj_TB := mj_wl (n := 174) wt_16 (k := 7) rfl
theorem w_230 : Cond.code yX8_init cX8_init 1 none ∈ mj_TB := mj_wl (n := 230) wt_16 (k := 8) rfl
theorem w_243 : Cond.code yX5_init cX5_init 1 none ∈ mj_TB := mj_wl (n := 243) wt_16 (k := 9) rfl
theorem w_306 : Cond.code yX10_lake cX10_lake 3 (some .int) ∈ mj_TB := mj_wl (n := 306) wt_16 (k := 10) rfl
theorem w_309 : Cond.code yX10_within cX10_within 3 (some .boolean) ∈ mj_TB := mj_wl (n := 309) wt_16 (k := 11) rfl
theorem w_313 : Cond.code yX10_bad cX10_bad 1 (some .int) ∈ mj_TB := mj_wl (n := 313) wt_16 (k := 12) rfl
theorem w_317 : Cond.code yX1_restart cX1_restart 2 none ∈ mj_TB := mj_wl (n := 317) wt_16 (k := 13) rfl
theorem w_321 : Cond.code yX4_restart cX4_restart 2 none ∈ mj_TB := mj_wl (n := 321) wt_16 (k := 14) rfl
theorem w_324 : Cond.code yJ7_fill_53178 cJ7_fill_53178 4 none ∈ mj_TB := mj_wl (n := 324) wt_16 (k := 15) rfl
theorem w_328 : Cond.code yX9_restart cX9_restart 1 none ∈ mj_TB := mj_wl (n := 328) wt_16 (k := 16) rfl
theorem w_333 : Cond.code yX3_empty cX3_empty 2 (some .int) ∈ mj_TB := mj_wl (n := 333) wt_16 (k := 17) rfl
theorem w_337 : Cond.code yX2_empty cX2_empty 1 none ∈ mj_TB := mj_wl (n := 337) wt_16 (k := 18) rfl
theorem w_342 : Cond.code yX10_cell cX10_cell 4 (some .int) ∈ mj_TB := mj_wl (n := 342) wt_16 (k := 19) rfl
def wl_17 : List (Nat × Cond) := [(345, Cond.code yX10_isCell cX10_isCell 1 (some .boolean)), (349, Cond.code yX4_kindOf cX4_kindOf 2 (some .int)), (354, Cond.code yX4_setKind cX4_setKind 3 none), (359, Cond.code yX10_weather cX10_weather 5 (some .int)), (362, Cond.code yX10_isSky cX10_isSky 1 (some .boolean)), (366, Cond.code yX9_frostOn cX9_frostOn 2 (some .int)), (369, Cond.code yJ9_floorMod_7cf53 cJ9_floorMod_7cf53 3 (some .int)), (373, Cond.code yX9_sunOn cX9_sunOn 2 (some .int)), (377, Cond.code yX9_set cX9_set 4 none), (381, Cond.code yX10_ward cX10_ward 4 (some .int)), (385, Cond.code yX10_voter cX10_voter 4 (some .int)), (389, Cond.code yX10_full cX10_full 1 (some .int)), (393, Cond.code yX7_add cX7_add 4 none), (398, Cond.code yX10_type cX10_type 2 (some .int)), (402, Cond.code yX5_add cX5_add 2 none), (407, Cond.code yX10_clear cX10_clear 2 (some .int)), (411, Cond.code yX10_read cX10_read 2 (some .int)), (415, Cond.code yX5_tell cX5_tell 3 (some .int)), (419, Cond.code yX5_findTokens cX5_findTokens 4 none), (423, Cond.code yX5_endOfRun cX5_endOfRun 5 (some .int))]
theorem wt_17 : wl_17.all (fun q => goodWord q.2 && lw_tbl[q.1]? == some q.2) = true := by decide +kernel
theorem w_345 : Cond.code yX10_isCell cX10_isCell 1 (some .boolean) ∈ mj_TB := mj_wl (n := 345) wt_17 (k := 0) rfl
theorem w_349 : Cond.code yX4_kindOf cX4_kindOf 2 (some .int) ∈ mj_TB := mj_wl (n := 349) wt_17 (k := 1) rfl
theorem w_354 : Cond.code yX4_setKind cX4_setKind 3 none ∈ mj_TB := mj_wl (n := 354) wt_17 (k := 2) rfl
theorem w_359 : Cond.code yX10_weather cX10_weather 5 (some .int) ∈ mj_TB := mj_wl (n := 359) wt_17 (k := 3) rfl
theorem w_362 : Cond.code yX10_isSky cX10_isSky 1 (some .boolean) ∈ mj_TB := mj_wl (n := 362) wt_17 (k := 4) rfl
theorem w_366 : Cond.code yX9_frostOn cX9_frostOn 2 (some .int) ∈ mj_TB := mj_wl (n := 366) wt_17 (k := 5) rfl
theorem w_369 : Cond.code yJ9_floorMod_7cf53 cJ9_floorMod_7cf53 3 (some .int) ∈ mj_TB := mj_wl (n := 369) wt_17 (k := 6) rfl
theorem w_373 : Cond.code yX9_sunOn cX9_sunOn 2 (some .int) ∈ mj_TB := mj_wl (n := 373) wt_17 (k := 7) rfl
theorem w_377 : Cond.code yX9_set cX9_set 4 none ∈ mj_TB := mj_wl (n := 377) wt_17 (k := 8) rfl
theorem w_381 : Cond.code yX10_ward cX10_ward 4 (some .int) ∈ mj_TB := mj_wl (n := 381) wt_17 (k := 9) rfl
theorem w_385 : Cond.code yX10_voter cX10_voter 4 (some .int) ∈ mj_TB := mj_wl (n := 385) wt_17 (k := 10) rfl
theorem w_389 : Cond.code yX10_full cX10_full 1 (some .int) ∈ mj_TB := mj_wl (n := 389) wt_17 (k := 11) rfl
theorem w_393 : Cond.code yX7_add cX7_add 4 none ∈ mj_TB := mj_wl (n := 393) wt_17 (k := 12) rfl
theorem w_398 : Cond.code yX10_type cX10_type 2 (some .int) ∈ mj_TB := mj_wl (n := 398) wt_17 (k := 13) rfl
theorem w_402 : Cond.code yX5_add cX5_add 2 none ∈ mj_TB := mj_wl (n := 402) wt_17 (k := 14) rfl
theorem w_407 : Cond.code yX10_clear cX10_clear 2 (some .int) ∈ mj_TB := mj_wl (n := 407) wt_17 (k := 15) rfl
theorem w_411 : Cond.code yX10_read cX10_read 2 (some .int) ∈ mj_TB := mj_wl (n := 411) wt_17 (k := 16) rfl
theorem w_415 : Cond.code yX5_tell cX5_tell 3 (some .int) ∈ mj_TB := mj_wl (n := 415) wt_17 (k := 17) rfl
theorem w_419 : Cond.code yX5_findTokens cX5_findTokens 4 none ∈ mj_TB := mj_wl (n := 419) wt_17 (k := 18) rfl
theorem w_423 : Cond.code yX5_endOfRun cX5_endOfRun 5 (some .int) ∈ mj_TB := mj_wl (n := 423) wt_17 (k := 19) rfl
def wl_18 : List (Nat × Cond) := [(427, Cond.code yX5_byteAt cX5_byteAt 2 (some .int)), (431, Cond.code yX5_endOfToken cX5_endOfToken 3 (some .int)), (434, Cond.code Lib.Math.min.name Lib.Math.min.code 2 (some .int)), (438, Cond.code yX5_tokenIn cX5_tokenIn 4 (some .int)), (442, Cond.code yX5_wordIn cX5_wordIn 3 (some .int)), (447, Cond.code yX5_isWord cX5_isWord 5 (some .boolean)), (451, Cond.code yJ0_length_8abf5 cJ0_length_8abf5 1 (some .int)), (455, Cond.code yJ0_coder_7d493 cJ0_coder_7d493 1 (some .byte)), (461, Cond.code yJ0_charAt_5068e cJ0_charAt_5068e 2 (some .char)), (465, Cond.code yJ0_isLatin1_aae02 cJ0_isLatin1_aae02 1 (some .boolean)), (468, Cond.code yJ1_charAt_3b067 cJ1_charAt_3b067 2 (some .char)), (471, Cond.code yJ0_checkIndex_df160 cJ0_checkIndex_df160 2 none), (476, Cond.code yJ3_checkIndex_8e157 cJ3_checkIndex_8e157 3 (some .int)), (479, Cond.code yJ2_charAt_3b067 cJ2_charAt_3b067 2 (some .char)), (482, Cond.code yJ2_checkIndex_2214a cJ2_checkIndex_2214a 2 none), (485, Cond.code yJ2_length_9d52b cJ2_length_9d52b 1 (some .int)), (489, Cond.code yJ2_getChar_3b067 cJ2_getChar_3b067 2 (some .char)), (502, Cond.code yX5_numberIn cX5_numberIn 4 (some .int)), (506, Cond.code yX5_numberComes cX5_numberComes 3 (some .boolean)), (510, Cond.code yX5_advance cX5_advance 1 none)]
theorem wt_18 : wl_18.all (fun q => goodWord q.2 && lw_tbl[q.1]? == some q.2) = true := by decide +kernel
theorem w_427 : Cond.code yX5_byteAt cX5_byteAt 2 (some .int) ∈ mj_TB := mj_wl (n := 427) wt_18 (k := 0) rfl
theorem w_431 : Cond.code yX5_endOfToken cX5_endOfToken 3 (some .int) ∈ mj_TB := mj_wl (n := 431) wt_18 (k := 1) rfl
theorem w_434 : Cond.code Lib.Math.min.name Lib.Math.min.code 2 (some .int) ∈ mj_TB := mj_wl (n := 434) wt_18 (k := 2) rfl
theorem w_438 : Cond.code yX5_tokenIn cX5_tokenIn 4 (some .int) ∈ mj_TB := mj_wl (n := 438) wt_18 (k := 3) rfl
theorem w_442 : Cond.code yX5_wordIn cX5_wordIn 3 (some .int) ∈ mj_TB := mj_wl (n := 442) wt_18 (k := 4) rfl
theorem w_447 : Cond.code yX5_isWord cX5_isWord 5 (some .boolean) ∈ mj_TB := mj_wl (n := 447) wt_18 (k := 5) rfl
theorem w_451 : Cond.code yJ0_length_8abf5 cJ0_length_8abf5 1 (some .int) ∈ mj_TB := mj_wl (n := 451) wt_18 (k := 6) rfl
theorem w_455 : Cond.code yJ0_coder_7d493 cJ0_coder_7d493 1 (some .byte) ∈ mj_TB := mj_wl (n := 455) wt_18 (k := 7) rfl
theorem w_461 : Cond.code yJ0_charAt_5068e cJ0_charAt_5068e 2 (some .char) ∈ mj_TB := mj_wl (n := 461) wt_18 (k := 8) rfl
theorem w_465 : Cond.code yJ0_isLatin1_aae02 cJ0_isLatin1_aae02 1 (some .boolean) ∈ mj_TB := mj_wl (n := 465) wt_18 (k := 9) rfl
theorem w_468 : Cond.code yJ1_charAt_3b067 cJ1_charAt_3b067 2 (some .char) ∈ mj_TB := mj_wl (n := 468) wt_18 (k := 10) rfl
theorem w_471 : Cond.code yJ0_checkIndex_df160 cJ0_checkIndex_df160 2 none ∈ mj_TB := mj_wl (n := 471) wt_18 (k := 11) rfl
theorem w_476 : Cond.code yJ3_checkIndex_8e157 cJ3_checkIndex_8e157 3 (some .int) ∈ mj_TB := mj_wl (n := 476) wt_18 (k := 12) rfl
theorem w_479 : Cond.code yJ2_charAt_3b067 cJ2_charAt_3b067 2 (some .char) ∈ mj_TB := mj_wl (n := 479) wt_18 (k := 13) rfl
theorem w_482 : Cond.code yJ2_checkIndex_2214a cJ2_checkIndex_2214a 2 none ∈ mj_TB := mj_wl (n := 482) wt_18 (k := 14) rfl
theorem w_485 : Cond.code yJ2_length_9d52b cJ2_length_9d52b 1 (some .int) ∈ mj_TB := mj_wl (n := 485) wt_18 (k := 15) rfl
theorem w_489 : Cond.code yJ2_getChar_3b067 cJ2_getChar_3b067 2 (some .char) ∈ mj_TB := mj_wl (n := 489) wt_18 (k := 16) rfl
theorem w_502 : Cond.code yX5_numberIn cX5_numberIn 4 (some .int) ∈ mj_TB := mj_wl (n := 502) wt_18 (k := 17) rfl
theorem w_506 : Cond.code yX5_numberComes cX5_numberComes 3 (some .boolean) ∈ mj_TB := mj_wl (n := 506) wt_18 (k := 18) rfl
theorem w_510 : Cond.code yX5_advance cX5_advance 1 none ∈ mj_TB := mj_wl (n := 510) wt_18 (k := 19) rfl
def wl_19 : List (Nat × Cond) := [(514, Cond.code yX5_fault cX5_fault 1 (some .int)), (519, Cond.code yX5_stopComes cX5_stopComes 1 (some .boolean)), (523, Cond.code yX5_itemComes cX5_itemComes 2 (some .boolean)), (527, Cond.code yX5_cellsCome cX5_cellsCome 4 (some .boolean)), (532, Cond.code yX5_pairsCome cX5_pairsCome 4 (some .boolean)), (537, Cond.code yX5_voterComes cX5_voterComes 4 (some .boolean)), (542, Cond.code yX1_copy cX1_copy 2 none), (546, Cond.code yX4_copy cX4_copy 2 none), (553, Cond.code yX9_copy cX9_copy 2 none), (558, Cond.code yX7_copy cX7_copy 2 none), (563, Cond.code yX3_copy cX3_copy 2 none), (568, Cond.code yX2_copy cX2_copy 2 none), (575, Cond.code yX10_day cX10_day 2 (some .int)), (579, Cond.code yX1_keepPast cX1_keepPast 1 none), (583, Cond.code yX2_keep cX2_keep 3 none), (587, Cond.code yX2_dropOldest cX2_dropOldest 1 none), (592, Cond.code yX1_passDays cX1_passDays 3 none), (598, Cond.code yX4_passDay cX4_passDay 4 none), (601, Cond.code yX0_after cX0_after 5 (some .int)), (604, Cond.code yX0_grows cX0_grows 3 (some .int))]
theorem wt_19 : wl_19.all (fun q => goodWord q.2 && lw_tbl[q.1]? == some q.2) = true := by decide +kernel
theorem w_514 : Cond.code yX5_fault cX5_fault 1 (some .int) ∈ mj_TB := mj_wl (n := 514) wt_19 (k := 0) rfl
theorem w_519 : Cond.code yX5_stopComes cX5_stopComes 1 (some .boolean) ∈ mj_TB := mj_wl (n := 519) wt_19 (k := 1) rfl
theorem w_523 : Cond.code yX5_itemComes cX5_itemComes 2 (some .boolean) ∈ mj_TB := mj_wl (n := 523) wt_19 (k := 2) rfl
theorem w_527 : Cond.code yX5_cellsCome cX5_cellsCome 4 (some .boolean) ∈ mj_TB := mj_wl (n := 527) wt_19 (k := 3) rfl
theorem w_532 : Cond.code yX5_pairsCome cX5_pairsCome 4 (some .boolean) ∈ mj_TB := mj_wl (n := 532) wt_19 (k := 4) rfl
theorem w_537 : Cond.code yX5_voterComes cX5_voterComes 4 (some .boolean) ∈ mj_TB := mj_wl (n := 537) wt_19 (k := 5) rfl
theorem w_542 : Cond.code yX1_copy cX1_copy 2 none ∈ mj_TB := mj_wl (n := 542) wt_19 (k := 6) rfl
theorem w_546 : Cond.code yX4_copy cX4_copy 2 none ∈ mj_TB := mj_wl (n := 546) wt_19 (k := 7) rfl
theorem w_553 : Cond.code yX9_copy cX9_copy 2 none ∈ mj_TB := mj_wl (n := 553) wt_19 (k := 8) rfl
theorem w_558 : Cond.code yX7_copy cX7_copy 2 none ∈ mj_TB := mj_wl (n := 558) wt_19 (k := 9) rfl
theorem w_563 : Cond.code yX3_copy cX3_copy 2 none ∈ mj_TB := mj_wl (n := 563) wt_19 (k := 10) rfl
theorem w_568 : Cond.code yX2_copy cX2_copy 2 none ∈ mj_TB := mj_wl (n := 568) wt_19 (k := 11) rfl
theorem w_575 : Cond.code yX10_day cX10_day 2 (some .int) ∈ mj_TB := mj_wl (n := 575) wt_19 (k := 12) rfl
theorem w_579 : Cond.code yX1_keepPast cX1_keepPast 1 none ∈ mj_TB := mj_wl (n := 579) wt_19 (k := 13) rfl
theorem w_583 : Cond.code yX2_keep cX2_keep 3 none ∈ mj_TB := mj_wl (n := 583) wt_19 (k := 14) rfl
theorem w_587 : Cond.code yX2_dropOldest cX2_dropOldest 1 none ∈ mj_TB := mj_wl (n := 587) wt_19 (k := 15) rfl
theorem w_592 : Cond.code yX1_passDays cX1_passDays 3 none ∈ mj_TB := mj_wl (n := 592) wt_19 (k := 16) rfl
theorem w_598 : Cond.code yX4_passDay cX4_passDay 4 none ∈ mj_TB := mj_wl (n := 598) wt_19 (k := 17) rfl
theorem w_601 : Cond.code yX0_after cX0_after 5 (some .int) ∈ mj_TB := mj_wl (n := 601) wt_19 (k := 18) rfl
theorem w_604 : Cond.code yX0_grows cX0_grows 3 (some .int) ∈ mj_TB := mj_wl (n := 604) wt_19 (k := 19) rfl
def wl_20 : List (Nat × Cond) := [(607, Cond.code yX0_streamGrows cX0_streamGrows 1 (some .int)), (610, Cond.code Lib.Math.max.name Lib.Math.max.code 2 (some .int)), (614, Cond.code yX0_melts cX0_melts 2 (some .int)), (618, Cond.code yX4_together cX4_together 3 (some .int)), (622, Cond.code yX10_tread cX10_tread 4 (some .int)), (626, Cond.code yX4_bears cX4_bears 2 (some .int)), (629, Cond.code yX0_bears cX0_bears 3 (some .int)), (633, Cond.code yX4_iceOf cX4_iceOf 2 (some .int)), (638, Cond.code yX4_setIce cX4_setIce 3 none), (642, Cond.code yX10_stone cX10_stone 2 (some .int)), (646, Cond.code yX10_undo cX10_undo 1 (some .int)), (650, Cond.code yX10_no cX10_no 1 (some .int)), (654, Cond.code yX2_goBack cX2_goBack 2 (some .int)), (658, Cond.code yX10_of cX10_of 3 (some .int)), (662, Cond.code yX10_about cX10_about 3 (some .int)), (666, Cond.code yX10_isVoter cX10_isVoter 2 (some .boolean)), (670, Cond.code yX7_kindOf cX7_kindOf 2 (some .int)), (674, Cond.code yX7_weightOf cX7_weightOf 2 (some .int)), (678, Cond.code yX7_cellOf cX7_cellOf 2 (some .int)), (682, Cond.code yX10_yesNow cX10_yesNow 1 (some .int))]
theorem wt_20 : wl_20.all (fun q => goodWord q.2 && lw_tbl[q.1]? == some q.2) = true := by decide +kernel
theorem w_607 : Cond.code yX0_streamGrows cX0_streamGrows 1 (some .int) ∈ mj_TB := mj_wl (n := 607) wt_20 (k := 0) rfl
theorem w_610 : Cond.code Lib.Math.max.name Lib.Math.max.code 2 (some .int) ∈ mj_TB := mj_wl (n := 610) wt_20 (k := 1) rfl
theorem w_614 : Cond.code yX0_melts cX0_melts 2 (some .int) ∈ mj_TB := mj_wl (n := 614) wt_20 (k := 2) rfl
theorem w_618 : Cond.code yX4_together cX4_together 3 (some .int) ∈ mj_TB := mj_wl (n := 618) wt_20 (k := 3) rfl
theorem w_622 : Cond.code yX10_tread cX10_tread 4 (some .int) ∈ mj_TB := mj_wl (n := 622) wt_20 (k := 4) rfl
theorem w_626 : Cond.code yX4_bears cX4_bears 2 (some .int) ∈ mj_TB := mj_wl (n := 626) wt_20 (k := 5) rfl
theorem w_629 : Cond.code yX0_bears cX0_bears 3 (some .int) ∈ mj_TB := mj_wl (n := 629) wt_20 (k := 6) rfl
theorem w_633 : Cond.code yX4_iceOf cX4_iceOf 2 (some .int) ∈ mj_TB := mj_wl (n := 633) wt_20 (k := 7) rfl
theorem w_638 : Cond.code yX4_setIce cX4_setIce 3 none ∈ mj_TB := mj_wl (n := 638) wt_20 (k := 8) rfl
theorem w_642 : Cond.code yX10_stone cX10_stone 2 (some .int) ∈ mj_TB := mj_wl (n := 642) wt_20 (k := 9) rfl
theorem w_646 : Cond.code yX10_undo cX10_undo 1 (some .int) ∈ mj_TB := mj_wl (n := 646) wt_20 (k := 10) rfl
theorem w_650 : Cond.code yX10_no cX10_no 1 (some .int) ∈ mj_TB := mj_wl (n := 650) wt_20 (k := 11) rfl
theorem w_654 : Cond.code yX2_goBack cX2_goBack 2 (some .int) ∈ mj_TB := mj_wl (n := 654) wt_20 (k := 12) rfl
theorem w_658 : Cond.code yX10_of cX10_of 3 (some .int) ∈ mj_TB := mj_wl (n := 658) wt_20 (k := 13) rfl
theorem w_662 : Cond.code yX10_about cX10_about 3 (some .int) ∈ mj_TB := mj_wl (n := 662) wt_20 (k := 14) rfl
theorem w_666 : Cond.code yX10_isVoter cX10_isVoter 2 (some .boolean) ∈ mj_TB := mj_wl (n := 666) wt_20 (k := 15) rfl
theorem w_670 : Cond.code yX7_kindOf cX7_kindOf 2 (some .int) ∈ mj_TB := mj_wl (n := 670) wt_20 (k := 16) rfl
theorem w_674 : Cond.code yX7_weightOf cX7_weightOf 2 (some .int) ∈ mj_TB := mj_wl (n := 674) wt_20 (k := 17) rfl
theorem w_678 : Cond.code yX7_cellOf cX7_cellOf 2 (some .int) ∈ mj_TB := mj_wl (n := 678) wt_20 (k := 18) rfl
theorem w_682 : Cond.code yX10_yesNow cX10_yesNow 1 (some .int) ∈ mj_TB := mj_wl (n := 682) wt_20 (k := 19) rfl
def wl_21 : List (Nat × Cond) := [(686, Cond.code yX1_frost cX1_frost 1 (some .int)), (690, Cond.code yX7_yes cX7_yes 6 (some .int)), (694, Cond.code yX4_leastBeside cX4_leastBeside 3 (some .int)), (700, Cond.code yX6_yes cX6_yes 8 (some .boolean)), (703, Cond.code yX10_has cX10_has 2 (some .boolean)), (707, Cond.code yX10_then cX10_then 5 (some .int)), (711, Cond.code yX1_iceBehind cX1_iceBehind 6 (some .int)), (717, Cond.code yX9_iceAfter cX9_iceAfter 4 (some .int)), (725, Cond.code yX10_when cX10_when 6 (some .int)), (728, Cond.code yX10_isBorne cX10_isBorne 1 (some .boolean)), (733, Cond.code yX10_where cX10_where 4 (some .int)), (739, Cond.code yX4_bearing cX4_bearing 4 (some .int)), (743, Cond.code yX10_horses cX10_horses 3 (some .int)), (747, Cond.code yX4_bearsTogether cX4_bearsTogether 3 (some .int)), (751, Cond.code yX10_path cX10_path 6 (some .int)), (755, Cond.code yX8_find cX8_find 7 (some .int)), (759, Cond.code yX8_measure cX8_measure 5 (some .int)), (763, Cond.code yX8_beside cX8_beside 3 (some .int)), (769, Cond.code yX8_first cX8_first 2 (some .int)), (773, Cond.code yX8_step cX8_step 2 (some .int))]
theorem wt_21 : wl_21.all (fun q => goodWord q.2 && lw_tbl[q.1]? == some q.2) = true := by decide +kernel
theorem w_686 : Cond.code yX1_frost cX1_frost 1 (some .int) ∈ mj_TB := mj_wl (n := 686) wt_21 (k := 0) rfl
theorem w_690 : Cond.code yX7_yes cX7_yes 6 (some .int) ∈ mj_TB := mj_wl (n := 690) wt_21 (k := 1) rfl
theorem w_694 : Cond.code yX4_leastBeside cX4_leastBeside 3 (some .int) ∈ mj_TB := mj_wl (n := 694) wt_21 (k := 2) rfl
theorem w_700 : Cond.code yX6_yes cX6_yes 8 (some .boolean) ∈ mj_TB := mj_wl (n := 700) wt_21 (k := 3) rfl
theorem w_703 : Cond.code yX10_has cX10_has 2 (some .boolean) ∈ mj_TB := mj_wl (n := 703) wt_21 (k := 4) rfl
theorem w_707 : Cond.code yX10_then cX10_then 5 (some .int) ∈ mj_TB := mj_wl (n := 707) wt_21 (k := 5) rfl
theorem w_711 : Cond.code yX1_iceBehind cX1_iceBehind 6 (some .int) ∈ mj_TB := mj_wl (n := 711) wt_21 (k := 6) rfl
theorem w_717 : Cond.code yX9_iceAfter cX9_iceAfter 4 (some .int) ∈ mj_TB := mj_wl (n := 717) wt_21 (k := 7) rfl
theorem w_725 : Cond.code yX10_when cX10_when 6 (some .int) ∈ mj_TB := mj_wl (n := 725) wt_21 (k := 8) rfl
theorem w_728 : Cond.code yX10_isBorne cX10_isBorne 1 (some .boolean) ∈ mj_TB := mj_wl (n := 728) wt_21 (k := 9) rfl
theorem w_733 : Cond.code yX10_where cX10_where 4 (some .int) ∈ mj_TB := mj_wl (n := 733) wt_21 (k := 10) rfl
theorem w_739 : Cond.code yX4_bearing cX4_bearing 4 (some .int) ∈ mj_TB := mj_wl (n := 739) wt_21 (k := 11) rfl
theorem w_743 : Cond.code yX10_horses cX10_horses 3 (some .int) ∈ mj_TB := mj_wl (n := 743) wt_21 (k := 12) rfl
theorem w_747 : Cond.code yX4_bearsTogether cX4_bearsTogether 3 (some .int) ∈ mj_TB := mj_wl (n := 747) wt_21 (k := 13) rfl
theorem w_751 : Cond.code yX10_path cX10_path 6 (some .int) ∈ mj_TB := mj_wl (n := 751) wt_21 (k := 14) rfl
theorem w_755 : Cond.code yX8_find cX8_find 7 (some .int) ∈ mj_TB := mj_wl (n := 755) wt_21 (k := 15) rfl
theorem w_759 : Cond.code yX8_measure cX8_measure 5 (some .int) ∈ mj_TB := mj_wl (n := 759) wt_21 (k := 16) rfl
theorem w_763 : Cond.code yX8_beside cX8_beside 3 (some .int) ∈ mj_TB := mj_wl (n := 763) wt_21 (k := 17) rfl
theorem w_769 : Cond.code yX8_first cX8_first 2 (some .int) ∈ mj_TB := mj_wl (n := 769) wt_21 (k := 18) rfl
theorem w_773 : Cond.code yX8_step cX8_step 2 (some .int) ∈ mj_TB := mj_wl (n := 773) wt_21 (k := 19) rfl
def wl_22 : List (Nat × Cond) := [(778, Cond.code yX10_safe cX10_safe 6 (some .int)), (781, Cond.code yX8_joined cX8_joined 7 (some .boolean)), (785, Cond.code yX10_cross cX10_cross 8 (some .int)), (789, Cond.code yX10_apart cX10_apart 6 (some .int)), (792, Cond.code yX8_cut cX8_cut 7 (some .int)), (797, Cond.code yX10_votes cX10_votes 2 (some .int)), (801, Cond.code yX7_carried cX7_carried 3 (some .boolean)), (804, Cond.code yJ6_bitCount_0f7a4 cJ6_bitCount_0f7a4 1 (some .int)), (811, Cond.code yX7_heaviest cX7_heaviest 3 (some .int)), (817, Cond.code yX7_wet cX7_wet 4 (some .int)), (823, Cond.code yX7_heavy cX7_heavy 4 (some .int)), (827, Cond.code yX10_turn cX10_turn 6 (some .int)), (831, Cond.code yX7_sets cX7_sets 1 (some .int)), (836, Cond.code yX10_seen cX10_seen 8 (some .int)), (841, Cond.code yX10_lies cX10_lies 3 (some .int)), (845, Cond.code yX4_iceOfWard cX4_iceOfWard 3 (some .int)), (850, Cond.code yX10_stones cX10_stones 6 (some .int)), (854, Cond.code yX10_note cX10_note 6 (some .int)), (858, Cond.code yX3_add cX3_add 7 (some .int)), (863, Cond.code yX10_voted cX10_voted 6 (some .int))]
theorem wt_22 : wl_22.all (fun q => goodWord q.2 && lw_tbl[q.1]? == some q.2) = true := by decide +kernel
theorem w_778 : Cond.code yX10_safe cX10_safe 6 (some .int) ∈ mj_TB := mj_wl (n := 778) wt_22 (k := 0) rfl
theorem w_781 : Cond.code yX8_joined cX8_joined 7 (some .boolean) ∈ mj_TB := mj_wl (n := 781) wt_22 (k := 1) rfl
theorem w_785 : Cond.code yX10_cross cX10_cross 8 (some .int) ∈ mj_TB := mj_wl (n := 785) wt_22 (k := 2) rfl
theorem w_789 : Cond.code yX10_apart cX10_apart 6 (some .int) ∈ mj_TB := mj_wl (n := 789) wt_22 (k := 3) rfl
theorem w_792 : Cond.code yX8_cut cX8_cut 7 (some .int) ∈ mj_TB := mj_wl (n := 792) wt_22 (k := 4) rfl
theorem w_797 : Cond.code yX10_votes cX10_votes 2 (some .int) ∈ mj_TB := mj_wl (n := 797) wt_22 (k := 5) rfl
theorem w_801 : Cond.code yX7_carried cX7_carried 3 (some .boolean) ∈ mj_TB := mj_wl (n := 801) wt_22 (k := 6) rfl
theorem w_804 : Cond.code yJ6_bitCount_0f7a4 cJ6_bitCount_0f7a4 1 (some .int) ∈ mj_TB := mj_wl (n := 804) wt_22 (k := 7) rfl
theorem w_811 : Cond.code yX7_heaviest cX7_heaviest 3 (some .int) ∈ mj_TB := mj_wl (n := 811) wt_22 (k := 8) rfl
theorem w_817 : Cond.code yX7_wet cX7_wet 4 (some .int) ∈ mj_TB := mj_wl (n := 817) wt_22 (k := 9) rfl
theorem w_823 : Cond.code yX7_heavy cX7_heavy 4 (some .int) ∈ mj_TB := mj_wl (n := 823) wt_22 (k := 10) rfl
theorem w_827 : Cond.code yX10_turn cX10_turn 6 (some .int) ∈ mj_TB := mj_wl (n := 827) wt_22 (k := 11) rfl
theorem w_831 : Cond.code yX7_sets cX7_sets 1 (some .int) ∈ mj_TB := mj_wl (n := 831) wt_22 (k := 12) rfl
theorem w_836 : Cond.code yX10_seen cX10_seen 8 (some .int) ∈ mj_TB := mj_wl (n := 836) wt_22 (k := 13) rfl
theorem w_841 : Cond.code yX10_lies cX10_lies 3 (some .int) ∈ mj_TB := mj_wl (n := 841) wt_22 (k := 14) rfl
theorem w_845 : Cond.code yX4_iceOfWard cX4_iceOfWard 3 (some .int) ∈ mj_TB := mj_wl (n := 845) wt_22 (k := 15) rfl
theorem w_850 : Cond.code yX10_stones cX10_stones 6 (some .int) ∈ mj_TB := mj_wl (n := 850) wt_22 (k := 16) rfl
theorem w_854 : Cond.code yX10_note cX10_note 6 (some .int) ∈ mj_TB := mj_wl (n := 854) wt_22 (k := 17) rfl
theorem w_858 : Cond.code yX3_add cX3_add 7 (some .int) ∈ mj_TB := mj_wl (n := 858) wt_22 (k := 18) rfl
theorem w_863 : Cond.code yX10_voted cX10_voted 6 (some .int) ∈ mj_TB := mj_wl (n := 863) wt_22 (k := 19) rfl
def wl_23 : List (Nat × Cond) := [(867, Cond.code yX10_forget cX10_forget 2 (some .int)), (872, Cond.code yX10_is cX10_is 2 (some .int)), (876, Cond.code yX10_kindsNoted cX10_kindsNoted 4 (some .int)), (880, Cond.code yX10_fitsNotes cX10_fitsNotes 6 (some .boolean)), (884, Cond.code yX3_at cX3_at 4 (some .int)), (889, Cond.code yX10_next cX10_next 7 (some .int)), (893, Cond.code yX10_mostAlike cX10_mostAlike 9 (some .int)), (897, Cond.code yX10_who cX10_who 4 (some .int)), (901, Cond.code yX10_fitsPolls cX10_fitsPolls 7 (some .boolean)), (906, Cond.code yX10_two cX10_two 10 (some .int)), (910, Cond.code yX7_gain cX7_gain 4 (some .int)), (914, Cond.code yX10_thaw cX10_thaw 11 (some .int)), (917, Cond.code yJ7_fill_d0a16 cJ7_fill_d0a16 5 none), (920, Cond.code yX10_addAt cX10_addAt 4 none), (924, Cond.code yX10_passNight cX10_passNight 7 none), (930, Cond.code yX10_keepFraction cX10_keepFraction 12 none), (934, Cond.code yX10_winters cX10_winters 9 (some .int)), (944, Cond.code yX10_part cX10_part 2 (some .long)), (948, Cond.code yX10_image cX10_image 3 (some .int)), (952, Cond.code yX10_from cX10_from 3 (some .int))]
theorem wt_23 : wl_23.all (fun q => goodWord q.2 && lw_tbl[q.1]? == some q.2) = true := by decide +kernel
theorem w_867 : Cond.code yX10_forget cX10_forget 2 (some .int) ∈ mj_TB := mj_wl (n := 867) wt_23 (k := 0) rfl
theorem w_872 : Cond.code yX10_is cX10_is 2 (some .int) ∈ mj_TB := mj_wl (n := 872) wt_23 (k := 1) rfl
theorem w_876 : Cond.code yX10_kindsNoted cX10_kindsNoted 4 (some .int) ∈ mj_TB := mj_wl (n := 876) wt_23 (k := 2) rfl
theorem w_880 : Cond.code yX10_fitsNotes cX10_fitsNotes 6 (some .boolean) ∈ mj_TB := mj_wl (n := 880) wt_23 (k := 3) rfl
theorem w_884 : Cond.code yX3_at cX3_at 4 (some .int) ∈ mj_TB := mj_wl (n := 884) wt_23 (k := 4) rfl
theorem w_889 : Cond.code yX10_next cX10_next 7 (some .int) ∈ mj_TB := mj_wl (n := 889) wt_23 (k := 5) rfl
theorem w_893 : Cond.code yX10_mostAlike cX10_mostAlike 9 (some .int) ∈ mj_TB := mj_wl (n := 893) wt_23 (k := 6) rfl
theorem w_897 : Cond.code yX10_who cX10_who 4 (some .int) ∈ mj_TB := mj_wl (n := 897) wt_23 (k := 7) rfl
theorem w_901 : Cond.code yX10_fitsPolls cX10_fitsPolls 7 (some .boolean) ∈ mj_TB := mj_wl (n := 901) wt_23 (k := 8) rfl
theorem w_906 : Cond.code yX10_two cX10_two 10 (some .int) ∈ mj_TB := mj_wl (n := 906) wt_23 (k := 9) rfl
theorem w_910 : Cond.code yX7_gain cX7_gain 4 (some .int) ∈ mj_TB := mj_wl (n := 910) wt_23 (k := 10) rfl
theorem w_914 : Cond.code yX10_thaw cX10_thaw 11 (some .int) ∈ mj_TB := mj_wl (n := 914) wt_23 (k := 11) rfl
theorem w_917 : Cond.code yJ7_fill_d0a16 cJ7_fill_d0a16 5 none ∈ mj_TB := mj_wl (n := 917) wt_23 (k := 12) rfl
theorem w_920 : Cond.code yX10_addAt cX10_addAt 4 none ∈ mj_TB := mj_wl (n := 920) wt_23 (k := 13) rfl
theorem w_924 : Cond.code yX10_passNight cX10_passNight 7 none ∈ mj_TB := mj_wl (n := 924) wt_23 (k := 14) rfl
theorem w_930 : Cond.code yX10_keepFraction cX10_keepFraction 12 none ∈ mj_TB := mj_wl (n := 930) wt_23 (k := 15) rfl
theorem w_934 : Cond.code yX10_winters cX10_winters 9 (some .int) ∈ mj_TB := mj_wl (n := 934) wt_23 (k := 16) rfl
theorem w_944 : Cond.code yX10_part cX10_part 2 (some .long) ∈ mj_TB := mj_wl (n := 944) wt_23 (k := 17) rfl
theorem w_948 : Cond.code yX10_image cX10_image 3 (some .int) ∈ mj_TB := mj_wl (n := 948) wt_23 (k := 18) rfl
theorem w_952 : Cond.code yX10_from cX10_from 3 (some .int) ∈ mj_TB := mj_wl (n := 952) wt_23 (k := 19) rfl
def wl_24 : List (Nat × Cond) := [(956, Cond.code yX10_status cX10_status 2 (some .int)), (960, Cond.code yX10_count cX10_count 2 (some .int)), (964, Cond.code yX10_amount cX10_amount 2 (some .int)), (968, Cond.code yX10_digest cX10_digest 4 (some .long)), (974, Cond.code yX7_fold cX7_fold 6 (some .long)), (979, Cond.code yX3_fold cX3_fold 6 (some .long)), (985, Cond.code yX11_init cX11_init 1 none), (989, Cond.code yX11_begin cX11_begin 3 none), (1043, Cond.code yX11_lake cX11_lake 3 (some .int)), (1046, Cond.code yX11_isIce cX11_isIce 1 (some .boolean)), (1050, Cond.code yX11_in cX11_in 6 (some .boolean)), (1054, Cond.code yX11_bad cX11_bad 2 (some .int)), (1058, Cond.code yX11_many cX11_many 1 (some .int)), (1062, Cond.code yX11_cell cX11_cell 4 (some .int)), (1065, Cond.code yX11_isCell cX11_isCell 1 (some .boolean)), (1071, Cond.code yX11_weather cX11_weather 5 (some .int)), (1075, Cond.code yX11_isWeather cX11_isWeather 1 (some .boolean)), (1080, Cond.code yX11_ward cX11_ward 4 (some .int)), (1085, Cond.code yX11_voter cX11_voter 4 (some .int)), (1089, Cond.code yX11_full cX11_full 1 (some .int))]
theorem wt_24 : wl_24.all (fun q => goodWord q.2 && lw_tbl[q.1]? == some q.2) = true := by decide +kernel
theorem w_956 : Cond.code yX10_status cX10_status 2 (some .int) ∈ mj_TB := mj_wl (n := 956) wt_24 (k := 0) rfl
theorem w_960 : Cond.code yX10_count cX10_count 2 (some .int) ∈ mj_TB := mj_wl (n := 960) wt_24 (k := 1) rfl
theorem w_964 : Cond.code yX10_amount cX10_amount 2 (some .int) ∈ mj_TB := mj_wl (n := 964) wt_24 (k := 2) rfl
theorem w_968 : Cond.code yX10_digest cX10_digest 4 (some .long) ∈ mj_TB := mj_wl (n := 968) wt_24 (k := 3) rfl
theorem w_974 : Cond.code yX7_fold cX7_fold 6 (some .long) ∈ mj_TB := mj_wl (n := 974) wt_24 (k := 4) rfl
theorem w_979 : Cond.code yX3_fold cX3_fold 6 (some .long) ∈ mj_TB := mj_wl (n := 979) wt_24 (k := 5) rfl
theorem w_985 : Cond.code yX11_init cX11_init 1 none ∈ mj_TB := mj_wl (n := 985) wt_24 (k := 6) rfl
theorem w_989 : Cond.code yX11_begin cX11_begin 3 none ∈ mj_TB := mj_wl (n := 989) wt_24 (k := 7) rfl
theorem w_1043 : Cond.code yX11_lake cX11_lake 3 (some .int) ∈ mj_TB := mj_wl (n := 1043) wt_24 (k := 8) rfl
theorem w_1046 : Cond.code yX11_isIce cX11_isIce 1 (some .boolean) ∈ mj_TB := mj_wl (n := 1046) wt_24 (k := 9) rfl
theorem w_1050 : Cond.code yX11_in cX11_in 6 (some .boolean) ∈ mj_TB := mj_wl (n := 1050) wt_24 (k := 10) rfl
theorem w_1054 : Cond.code yX11_bad cX11_bad 2 (some .int) ∈ mj_TB := mj_wl (n := 1054) wt_24 (k := 11) rfl
theorem w_1058 : Cond.code yX11_many cX11_many 1 (some .int) ∈ mj_TB := mj_wl (n := 1058) wt_24 (k := 12) rfl
theorem w_1062 : Cond.code yX11_cell cX11_cell 4 (some .int) ∈ mj_TB := mj_wl (n := 1062) wt_24 (k := 13) rfl
theorem w_1065 : Cond.code yX11_isCell cX11_isCell 1 (some .boolean) ∈ mj_TB := mj_wl (n := 1065) wt_24 (k := 14) rfl
theorem w_1071 : Cond.code yX11_weather cX11_weather 5 (some .int) ∈ mj_TB := mj_wl (n := 1071) wt_24 (k := 15) rfl
theorem w_1075 : Cond.code yX11_isWeather cX11_isWeather 1 (some .boolean) ∈ mj_TB := mj_wl (n := 1075) wt_24 (k := 16) rfl
theorem w_1080 : Cond.code yX11_ward cX11_ward 4 (some .int) ∈ mj_TB := mj_wl (n := 1080) wt_24 (k := 17) rfl
theorem w_1085 : Cond.code yX11_voter cX11_voter 4 (some .int) ∈ mj_TB := mj_wl (n := 1085) wt_24 (k := 18) rfl
theorem w_1089 : Cond.code yX11_full cX11_full 1 (some .int) ∈ mj_TB := mj_wl (n := 1089) wt_24 (k := 19) rfl
def wl_25 : List (Nat × Cond) := [(1092, Cond.code yX11_layVoter cX11_layVoter 5 none), (1096, Cond.code yX11_day cX11_day 4 (some .int)), (1101, Cond.code yX11_keep cX11_keep 2 none), (1105, Cond.code yX11_layIce cX11_layIce 2 none), (1109, Cond.code yX11_goDays cX11_goDays 4 none), (1113, Cond.code yX11_goDay cX11_goDay 4 none), (1117, Cond.code yX11_kindOf cX11_kindOf 2 (some .int)), (1120, Cond.code yX11_behindDay cX11_behindDay 6 (some .int)), (1123, Cond.code yX11_growsAs cX11_growsAs 3 (some .int)), (1126, Cond.code yX11_meltsAs cX11_meltsAs 2 (some .int)), (1130, Cond.code yX11_allIce cX11_allIce 3 (some .int)), (1134, Cond.code yX11_tread cX11_tread 5 (some .int)), (1137, Cond.code yX11_bearsAs cX11_bearsAs 3 (some .int)), (1141, Cond.code yX11_stone cX11_stone 2 (some .int)), (1145, Cond.code yX11_undo cX11_undo 2 (some .int)), (1149, Cond.code yX11_no cX11_no 1 (some .int)), (1153, Cond.code yX11_of cX11_of 3 (some .int)), (1158, Cond.code yX11_about cX11_about 4 (some .int)), (1162, Cond.code yX11_isVoter cX11_isVoter 2 (some .boolean)), (1166, Cond.code yX11_frostNow cX11_frostNow 1 (some .int))]
theorem wt_25 : wl_25.all (fun q => goodWord q.2 && lw_tbl[q.1]? == some q.2) = true := by decide +kernel
theorem w_1092 : Cond.code yX11_layVoter cX11_layVoter 5 none ∈ mj_TB := mj_wl (n := 1092) wt_25 (k := 0) rfl
theorem w_1096 : Cond.code yX11_day cX11_day 4 (some .int) ∈ mj_TB := mj_wl (n := 1096) wt_25 (k := 1) rfl
theorem w_1101 : Cond.code yX11_keep cX11_keep 2 none ∈ mj_TB := mj_wl (n := 1101) wt_25 (k := 2) rfl
theorem w_1105 : Cond.code yX11_layIce cX11_layIce 2 none ∈ mj_TB := mj_wl (n := 1105) wt_25 (k := 3) rfl
theorem w_1109 : Cond.code yX11_goDays cX11_goDays 4 none ∈ mj_TB := mj_wl (n := 1109) wt_25 (k := 4) rfl
theorem w_1113 : Cond.code yX11_goDay cX11_goDay 4 none ∈ mj_TB := mj_wl (n := 1113) wt_25 (k := 5) rfl
theorem w_1117 : Cond.code yX11_kindOf cX11_kindOf 2 (some .int) ∈ mj_TB := mj_wl (n := 1117) wt_25 (k := 6) rfl
theorem w_1120 : Cond.code yX11_behindDay cX11_behindDay 6 (some .int) ∈ mj_TB := mj_wl (n := 1120) wt_25 (k := 7) rfl
theorem w_1123 : Cond.code yX11_growsAs cX11_growsAs 3 (some .int) ∈ mj_TB := mj_wl (n := 1123) wt_25 (k := 8) rfl
theorem w_1126 : Cond.code yX11_meltsAs cX11_meltsAs 2 (some .int) ∈ mj_TB := mj_wl (n := 1126) wt_25 (k := 9) rfl
theorem w_1130 : Cond.code yX11_allIce cX11_allIce 3 (some .int) ∈ mj_TB := mj_wl (n := 1130) wt_25 (k := 10) rfl
theorem w_1134 : Cond.code yX11_tread cX11_tread 5 (some .int) ∈ mj_TB := mj_wl (n := 1134) wt_25 (k := 11) rfl
theorem w_1137 : Cond.code yX11_bearsAs cX11_bearsAs 3 (some .int) ∈ mj_TB := mj_wl (n := 1137) wt_25 (k := 12) rfl
theorem w_1141 : Cond.code yX11_stone cX11_stone 2 (some .int) ∈ mj_TB := mj_wl (n := 1141) wt_25 (k := 13) rfl
theorem w_1145 : Cond.code yX11_undo cX11_undo 2 (some .int) ∈ mj_TB := mj_wl (n := 1145) wt_25 (k := 14) rfl
theorem w_1149 : Cond.code yX11_no cX11_no 1 (some .int) ∈ mj_TB := mj_wl (n := 1149) wt_25 (k := 15) rfl
theorem w_1153 : Cond.code yX11_of cX11_of 3 (some .int) ∈ mj_TB := mj_wl (n := 1153) wt_25 (k := 16) rfl
theorem w_1158 : Cond.code yX11_about cX11_about 4 (some .int) ∈ mj_TB := mj_wl (n := 1158) wt_25 (k := 17) rfl
theorem w_1162 : Cond.code yX11_isVoter cX11_isVoter 2 (some .boolean) ∈ mj_TB := mj_wl (n := 1162) wt_25 (k := 18) rfl
theorem w_1166 : Cond.code yX11_frostNow cX11_frostNow 1 (some .int) ∈ mj_TB := mj_wl (n := 1166) wt_25 (k := 19) rfl
def wl_26 : List (Nat × Cond) := [(1170, Cond.code yX11_votesYes cX11_votesYes 4 (some .boolean)), (1174, Cond.code yX11_bears cX11_bears 2 (some .int)), (1178, Cond.code yX11_leastBeside cX11_leastBeside 4 (some .int)), (1182, Cond.code yX11_areBeside cX11_areBeside 4 (some .boolean)), (1185, Cond.code yX11_votesAs cX11_votesAs 8 (some .boolean)), (1189, Cond.code yX11_then cX11_then 4 (some .int)), (1193, Cond.code yX11_when cX11_when 4 (some .int)), (1196, Cond.code yX11_isBurden cX11_isBurden 1 (some .boolean)), (1201, Cond.code yX11_goOne cX11_goOne 3 none), (1205, Cond.code yX11_where cX11_where 5 (some .int)), (1209, Cond.code yX11_horses cX11_horses 5 (some .int)), (1213, Cond.code yX11_path cX11_path 7 (some .int)), (1217, Cond.code yX11_layFar cX11_layFar 6 none), (1220, Cond.code yX11_has cX11_has 2 (some .boolean)), (1224, Cond.code yX11_layNearer cX11_layNearer 5 (some .boolean)), (1228, Cond.code yX11_nextOf cX11_nextOf 3 (some .int)), (1232, Cond.code yX11_safe cX11_safe 4 (some .int)), (1236, Cond.code yX11_cross cX11_cross 7 (some .int)), (1240, Cond.code yX11_apart cX11_apart 6 (some .int)), (1244, Cond.code yX11_partsOf cX11_partsOf 7 (some .int))]
theorem wt_26 : wl_26.all (fun q => goodWord q.2 && lw_tbl[q.1]? == some q.2) = true := by decide +kernel
theorem w_1170 : Cond.code yX11_votesYes cX11_votesYes 4 (some .boolean) ∈ mj_TB := mj_wl (n := 1170) wt_26 (k := 0) rfl
theorem w_1174 : Cond.code yX11_bears cX11_bears 2 (some .int) ∈ mj_TB := mj_wl (n := 1174) wt_26 (k := 1) rfl
theorem w_1178 : Cond.code yX11_leastBeside cX11_leastBeside 4 (some .int) ∈ mj_TB := mj_wl (n := 1178) wt_26 (k := 2) rfl
theorem w_1182 : Cond.code yX11_areBeside cX11_areBeside 4 (some .boolean) ∈ mj_TB := mj_wl (n := 1182) wt_26 (k := 3) rfl
theorem w_1185 : Cond.code yX11_votesAs cX11_votesAs 8 (some .boolean) ∈ mj_TB := mj_wl (n := 1185) wt_26 (k := 4) rfl
theorem w_1189 : Cond.code yX11_then cX11_then 4 (some .int) ∈ mj_TB := mj_wl (n := 1189) wt_26 (k := 5) rfl
theorem w_1193 : Cond.code yX11_when cX11_when 4 (some .int) ∈ mj_TB := mj_wl (n := 1193) wt_26 (k := 6) rfl
theorem w_1196 : Cond.code yX11_isBurden cX11_isBurden 1 (some .boolean) ∈ mj_TB := mj_wl (n := 1196) wt_26 (k := 7) rfl
theorem w_1201 : Cond.code yX11_goOne cX11_goOne 3 none ∈ mj_TB := mj_wl (n := 1201) wt_26 (k := 8) rfl
theorem w_1205 : Cond.code yX11_where cX11_where 5 (some .int) ∈ mj_TB := mj_wl (n := 1205) wt_26 (k := 9) rfl
theorem w_1209 : Cond.code yX11_horses cX11_horses 5 (some .int) ∈ mj_TB := mj_wl (n := 1209) wt_26 (k := 10) rfl
theorem w_1213 : Cond.code yX11_path cX11_path 7 (some .int) ∈ mj_TB := mj_wl (n := 1213) wt_26 (k := 11) rfl
theorem w_1217 : Cond.code yX11_layFar cX11_layFar 6 none ∈ mj_TB := mj_wl (n := 1217) wt_26 (k := 12) rfl
theorem w_1220 : Cond.code yX11_has cX11_has 2 (some .boolean) ∈ mj_TB := mj_wl (n := 1220) wt_26 (k := 13) rfl
theorem w_1224 : Cond.code yX11_layNearer cX11_layNearer 5 (some .boolean) ∈ mj_TB := mj_wl (n := 1224) wt_26 (k := 14) rfl
theorem w_1228 : Cond.code yX11_nextOf cX11_nextOf 3 (some .int) ∈ mj_TB := mj_wl (n := 1228) wt_26 (k := 15) rfl
theorem w_1232 : Cond.code yX11_safe cX11_safe 4 (some .int) ∈ mj_TB := mj_wl (n := 1232) wt_26 (k := 16) rfl
theorem w_1236 : Cond.code yX11_cross cX11_cross 7 (some .int) ∈ mj_TB := mj_wl (n := 1236) wt_26 (k := 17) rfl
theorem w_1240 : Cond.code yX11_apart cX11_apart 6 (some .int) ∈ mj_TB := mj_wl (n := 1240) wt_26 (k := 18) rfl
theorem w_1244 : Cond.code yX11_partsOf cX11_partsOf 7 (some .int) ∈ mj_TB := mj_wl (n := 1244) wt_26 (k := 19) rfl
def wl_27 : List (Nat × Cond) := [(1248, Cond.code yX11_isParted cX11_isParted 5 (some .boolean)), (1252, Cond.code yX11_votes cX11_votes 3 (some .int)), (1256, Cond.code yX11_yesOf cX11_yesOf 4 (some .int)), (1260, Cond.code yX11_wetOf cX11_wetOf 4 (some .int)), (1264, Cond.code yX11_isCarried cX11_isCarried 3 (some .boolean)), (1267, Cond.code yX11_bits cX11_bits 3 (some .int)), (1271, Cond.code yX11_heaviest cX11_heaviest 3 (some .int)), (1275, Cond.code yX11_bearsIt cX11_bearsIt 2 (some .boolean)), (1279, Cond.code yX11_turn cX11_turn 5 (some .int)), (1283, Cond.code yX11_seen cX11_seen 7 (some .int)), (1287, Cond.code yX11_lies cX11_lies 5 (some .int)), (1291, Cond.code yX11_stones cX11_stones 6 (some .int)), (1295, Cond.code yX11_note cX11_note 7 (some .int)), (1299, Cond.code yX11_voted cX11_voted 7 (some .int)), (1303, Cond.code yX11_forget cX11_forget 3 (some .int)), (1307, Cond.code yX11_is cX11_is 2 (some .int)), (1311, Cond.code yX11_kindsOf cX11_kindsOf 7 (some .int)), (1315, Cond.code yX11_next cX11_next 11 (some .int)), (1319, Cond.code yX11_who cX11_who 8 (some .int)), (1323, Cond.code yX11_two cX11_two 8 (some .int))]
theorem wt_27 : wl_27.all (fun q => goodWord q.2 && lw_tbl[q.1]? == some q.2) = true := by decide +kernel
theorem w_1248 : Cond.code yX11_isParted cX11_isParted 5 (some .boolean) ∈ mj_TB := mj_wl (n := 1248) wt_27 (k := 0) rfl
theorem w_1252 : Cond.code yX11_votes cX11_votes 3 (some .int) ∈ mj_TB := mj_wl (n := 1252) wt_27 (k := 1) rfl
theorem w_1256 : Cond.code yX11_yesOf cX11_yesOf 4 (some .int) ∈ mj_TB := mj_wl (n := 1256) wt_27 (k := 2) rfl
theorem w_1260 : Cond.code yX11_wetOf cX11_wetOf 4 (some .int) ∈ mj_TB := mj_wl (n := 1260) wt_27 (k := 3) rfl
theorem w_1264 : Cond.code yX11_isCarried cX11_isCarried 3 (some .boolean) ∈ mj_TB := mj_wl (n := 1264) wt_27 (k := 4) rfl
theorem w_1267 : Cond.code yX11_bits cX11_bits 3 (some .int) ∈ mj_TB := mj_wl (n := 1267) wt_27 (k := 5) rfl
theorem w_1271 : Cond.code yX11_heaviest cX11_heaviest 3 (some .int) ∈ mj_TB := mj_wl (n := 1271) wt_27 (k := 6) rfl
theorem w_1275 : Cond.code yX11_bearsIt cX11_bearsIt 2 (some .boolean) ∈ mj_TB := mj_wl (n := 1275) wt_27 (k := 7) rfl
theorem w_1279 : Cond.code yX11_turn cX11_turn 5 (some .int) ∈ mj_TB := mj_wl (n := 1279) wt_27 (k := 8) rfl
theorem w_1283 : Cond.code yX11_seen cX11_seen 7 (some .int) ∈ mj_TB := mj_wl (n := 1283) wt_27 (k := 9) rfl
theorem w_1287 : Cond.code yX11_lies cX11_lies 5 (some .int) ∈ mj_TB := mj_wl (n := 1287) wt_27 (k := 10) rfl
theorem w_1291 : Cond.code yX11_stones cX11_stones 6 (some .int) ∈ mj_TB := mj_wl (n := 1291) wt_27 (k := 11) rfl
theorem w_1295 : Cond.code yX11_note cX11_note 7 (some .int) ∈ mj_TB := mj_wl (n := 1295) wt_27 (k := 12) rfl
theorem w_1299 : Cond.code yX11_voted cX11_voted 7 (some .int) ∈ mj_TB := mj_wl (n := 1299) wt_27 (k := 13) rfl
theorem w_1303 : Cond.code yX11_forget cX11_forget 3 (some .int) ∈ mj_TB := mj_wl (n := 1303) wt_27 (k := 14) rfl
theorem w_1307 : Cond.code yX11_is cX11_is 2 (some .int) ∈ mj_TB := mj_wl (n := 1307) wt_27 (k := 15) rfl
theorem w_1311 : Cond.code yX11_kindsOf cX11_kindsOf 7 (some .int) ∈ mj_TB := mj_wl (n := 1311) wt_27 (k := 16) rfl
theorem w_1315 : Cond.code yX11_next cX11_next 11 (some .int) ∈ mj_TB := mj_wl (n := 1315) wt_27 (k := 17) rfl
theorem w_1319 : Cond.code yX11_who cX11_who 8 (some .int) ∈ mj_TB := mj_wl (n := 1319) wt_27 (k := 18) rfl
theorem w_1323 : Cond.code yX11_two cX11_two 8 (some .int) ∈ mj_TB := mj_wl (n := 1323) wt_27 (k := 19) rfl
def wl_28 : List (Nat × Cond) := [(1327, Cond.code yX11_hasBy cX11_hasBy 3 (some .int)), (1331, Cond.code yX11_thaw cX11_thaw 15 (some .int)), (1337, Cond.code yX11_fraction cX11_fraction 11 none), (1341, Cond.code yX11_winters cX11_winters 8 (some .int)), (1351, Cond.code yX11_type cX11_type 2 (some .int)), (1356, Cond.code yX11_clear cX11_clear 2 (some .int)), (1360, Cond.code yX11_read cX11_read 3 (some .int)), (1364, Cond.code yX11_lookAt cX11_lookAt 5 none), (1367, Cond.code yX11_isSmall cX11_isSmall 1 (some .boolean)), (1372, Cond.code yX11_isFigure cX11_isFigure 1 (some .boolean)), (1378, Cond.code yX11_takesLake cX11_takesLake 1 (some .boolean)), (1382, Cond.code yX11_spells cX11_spells 10 (some .boolean)), (1386, Cond.code yX11_goBehind cX11_goBehind 1 none), (1390, Cond.code yX11_takes cX11_takes 4 (some .boolean)), (1394, Cond.code yX11_takesItem cX11_takesItem 1 (some .boolean)), (1398, Cond.code yX11_takesCell cX11_takesCell 1 (some .boolean)), (1402, Cond.code yX11_takesWeek cX11_takesWeek 2 (some .boolean)), (1406, Cond.code yX11_takesVoter cX11_takesVoter 1 (some .boolean)), (1410, Cond.code yX11_part cX11_part 2 (some .long)), (1414, Cond.code yX11_image cX11_image 3 (some .int))]
theorem wt_28 : wl_28.all (fun q => goodWord q.2 && lw_tbl[q.1]? == some q.2) = true := by decide +kernel
theorem w_1327 : Cond.code yX11_hasBy cX11_hasBy 3 (some .int) ∈ mj_TB := mj_wl (n := 1327) wt_28 (k := 0) rfl
theorem w_1331 : Cond.code yX11_thaw cX11_thaw 15 (some .int) ∈ mj_TB := mj_wl (n := 1331) wt_28 (k := 1) rfl
theorem w_1337 : Cond.code yX11_fraction cX11_fraction 11 none ∈ mj_TB := mj_wl (n := 1337) wt_28 (k := 2) rfl
theorem w_1341 : Cond.code yX11_winters cX11_winters 8 (some .int) ∈ mj_TB := mj_wl (n := 1341) wt_28 (k := 3) rfl
theorem w_1351 : Cond.code yX11_type cX11_type 2 (some .int) ∈ mj_TB := mj_wl (n := 1351) wt_28 (k := 4) rfl
theorem w_1356 : Cond.code yX11_clear cX11_clear 2 (some .int) ∈ mj_TB := mj_wl (n := 1356) wt_28 (k := 5) rfl
theorem w_1360 : Cond.code yX11_read cX11_read 3 (some .int) ∈ mj_TB := mj_wl (n := 1360) wt_28 (k := 6) rfl
theorem w_1364 : Cond.code yX11_lookAt cX11_lookAt 5 none ∈ mj_TB := mj_wl (n := 1364) wt_28 (k := 7) rfl
theorem w_1367 : Cond.code yX11_isSmall cX11_isSmall 1 (some .boolean) ∈ mj_TB := mj_wl (n := 1367) wt_28 (k := 8) rfl
theorem w_1372 : Cond.code yX11_isFigure cX11_isFigure 1 (some .boolean) ∈ mj_TB := mj_wl (n := 1372) wt_28 (k := 9) rfl
theorem w_1378 : Cond.code yX11_takesLake cX11_takesLake 1 (some .boolean) ∈ mj_TB := mj_wl (n := 1378) wt_28 (k := 10) rfl
theorem w_1382 : Cond.code yX11_spells cX11_spells 10 (some .boolean) ∈ mj_TB := mj_wl (n := 1382) wt_28 (k := 11) rfl
theorem w_1386 : Cond.code yX11_goBehind cX11_goBehind 1 none ∈ mj_TB := mj_wl (n := 1386) wt_28 (k := 12) rfl
theorem w_1390 : Cond.code yX11_takes cX11_takes 4 (some .boolean) ∈ mj_TB := mj_wl (n := 1390) wt_28 (k := 13) rfl
theorem w_1394 : Cond.code yX11_takesItem cX11_takesItem 1 (some .boolean) ∈ mj_TB := mj_wl (n := 1394) wt_28 (k := 14) rfl
theorem w_1398 : Cond.code yX11_takesCell cX11_takesCell 1 (some .boolean) ∈ mj_TB := mj_wl (n := 1398) wt_28 (k := 15) rfl
theorem w_1402 : Cond.code yX11_takesWeek cX11_takesWeek 2 (some .boolean) ∈ mj_TB := mj_wl (n := 1402) wt_28 (k := 16) rfl
theorem w_1406 : Cond.code yX11_takesVoter cX11_takesVoter 1 (some .boolean) ∈ mj_TB := mj_wl (n := 1406) wt_28 (k := 17) rfl
theorem w_1410 : Cond.code yX11_part cX11_part 2 (some .long) ∈ mj_TB := mj_wl (n := 1410) wt_28 (k := 18) rfl
theorem w_1414 : Cond.code yX11_image cX11_image 3 (some .int) ∈ mj_TB := mj_wl (n := 1414) wt_28 (k := 19) rfl
def wl_29 : List (Nat × Cond) := [(1418, Cond.code yX11_from cX11_from 3 (some .int)), (1422, Cond.code yX11_status cX11_status 2 (some .int)), (1426, Cond.code yX11_count cX11_count 2 (some .int)), (1430, Cond.code yX11_counted cX11_counted 2 (some .int)), (1434, Cond.code yX11_digest cX11_digest 4 (some .long)), (1440, Cond.code yX11_sums cX11_sums 8 (some .long))]
theorem wt_29 : wl_29.all (fun q => goodWord q.2 && lw_tbl[q.1]? == some q.2) = true := by decide +kernel
theorem w_1418 : Cond.code yX11_from cX11_from 3 (some .int) ∈ mj_TB := mj_wl (n := 1418) wt_29 (k := 0) rfl
theorem w_1422 : Cond.code yX11_status cX11_status 2 (some .int) ∈ mj_TB := mj_wl (n := 1422) wt_29 (k := 1) rfl
theorem w_1426 : Cond.code yX11_count cX11_count 2 (some .int) ∈ mj_TB := mj_wl (n := 1426) wt_29 (k := 2) rfl
theorem w_1430 : Cond.code yX11_counted cX11_counted 2 (some .int) ∈ mj_TB := mj_wl (n := 1430) wt_29 (k := 3) rfl
theorem w_1434 : Cond.code yX11_digest cX11_digest 4 (some .long) ∈ mj_TB := mj_wl (n := 1434) wt_29 (k := 4) rfl
theorem w_1440 : Cond.code yX11_sums cX11_sums 8 (some .long) ∈ mj_TB := mj_wl (n := 1440) wt_29 (k := 5) rfl
theorem inTX1 : ∀ w ∈ u_ws RX1 TX1 8, w ∈ mj_TB := mj_inTB [206, 208, 210, 212, 214, 216, 218, 220] (by decide +kernel) (by decide +kernel)
theorem inTX2 : ∀ w ∈ u_ws RX2 TX2 3, w ∈ mj_TB := mj_inTB [180, 182, 184] (by decide +kernel) (by decide +kernel)
theorem inTX3 : ∀ w ∈ u_ws RX3 TX3 2, w ∈ mj_TB := mj_inTB [165, 167] (by decide +kernel) (by decide +kernel)
theorem inTX4 : ∀ w ∈ u_ws RX4 TX4 2, w ∈ mj_TB := mj_inTB [115, 117] (by decide +kernel) (by decide +kernel)
theorem inTX5 : ∀ w ∈ u_ws RX5 TX5 6, w ∈ mj_TB := mj_inTB [252, 254, 256, 258, 260, 262] (by decide +kernel) (by decide +kernel)
theorem inTX7 : ∀ w ∈ u_ws RX7 TX7 4, w ∈ mj_TB := mj_inTB [147, 149, 151, 153] (by decide +kernel) (by decide +kernel)
theorem inTX8 : ∀ w ∈ u_ws RX8 TX8 2, w ∈ mj_TB := mj_inTB [234, 236] (by decide +kernel) (by decide +kernel)
theorem inTX9 : ∀ w ∈ u_ws RX9 TX9 2, w ∈ mj_TB := mj_inTB [129, 131] (by decide +kernel) (by decide +kernel)
theorem inTX10 : ∀ w ∈ u_ws RX10 TX10 12, w ∈ mj_TB := mj_inTB [277, 279, 281, 283, 285, 287, 289, 291, 293, 295, 297, 299] (by decide +kernel) (by decide +kernel)
theorem inTX11 : ∀ w ∈ u_ws RX11 TX11 16, w ∈ mj_TB := mj_inTB [1006, 1008, 1010, 1012, 1014, 1016, 1018, 1020, 1022, 1024, 1026, 1028, 1030, 1032, 1034, 1036] (by decide +kernel) (by decide +kernel)
abbrev iX0_after : mj_I := (yX0_after, cX0_after, 5, (some .int), 2, 0, 0)
abbrev iX0_grows : mj_I := (yX0_grows, cX0_grows, 3, (some .int), 1, 0, 0)
abbrev iX0_streamGrows : mj_I := (yX0_streamGrows, cX0_streamGrows, 1, (some .int), 0, 0, 0)
abbrev iX0_melts : mj_I := (yX0_melts, cX0_melts, 2, (some .int), 0, 0, 0)
abbrev iX0_bears : mj_I := (yX0_bears, cX0_bears, 3, (some .int), 1, 0, 0)
abbrev iX1_init : mj_I := (yX1_init, cX1_init, 1, none, 2, 18, 372)
abbrev iX1_copy : mj_I := (yX1_copy, cX1_copy, 2, none, 2, 0, 0)
abbrev iX1_restart : mj_I := (yX1_restart, cX1_restart, 2, none, 2, 0, 0)
abbrev iX1_frost : mj_I := (yX1_frost, cX1_frost, 1, (some .int), 2, 0, 0)
abbrev iX1_keepPast : mj_I := (yX1_keepPast, cX1_keepPast, 1, none, 3, 0, 0)
abbrev iX1_passDays : mj_I := (yX1_passDays, cX1_passDays, 3, none, 4, 0, 0)
abbrev iX1_iceBehind : mj_I := (yX1_iceBehind, cX1_iceBehind, 6, (some .int), 4, 0, 0)
abbrev iX2_init : mj_I := (yX2_init, cX2_init, 1, none, 1, 2, 208)
abbrev iX2_copy : mj_I := (yX2_copy, cX2_copy, 2, none, 1, 0, 0)
abbrev iX2_empty : mj_I := (yX2_empty, cX2_empty, 1, none, 0, 0, 0)
abbrev iX2_keep : mj_I := (yX2_keep, cX2_keep, 3, none, 2, 0, 0)
abbrev iX2_dropOldest : mj_I := (yX2_dropOldest, cX2_dropOldest, 1, none, 1, 0, 0)
abbrev iX2_goBack : mj_I := (yX2_goBack, cX2_goBack, 2, (some .int), 1, 0, 0)
abbrev iX3_init : mj_I := (yX3_init, cX3_init, 1, none, 1, 1, 30)
abbrev iX3_copy : mj_I := (yX3_copy, cX3_copy, 2, none, 1, 0, 0)
abbrev iX3_add : mj_I := (yX3_add, cX3_add, 7, (some .int), 1, 0, 0)
abbrev iX3_at : mj_I := (yX3_at, cX3_at, 4, (some .int), 0, 0, 0)
abbrev iX3_empty : mj_I := (yX3_empty, cX3_empty, 2, (some .int), 0, 0, 0)
abbrev iX3_fold : mj_I := (yX3_fold, cX3_fold, 6, (some .long), 0, 0, 0)
abbrev iX4_init : mj_I := (yX4_init, cX4_init, 1, none, 1, 2, 50)
abbrev iX4_copy : mj_I := (yX4_copy, cX4_copy, 2, none, 1, 0, 0)
abbrev iX4_restart : mj_I := (yX4_restart, cX4_restart, 2, none, 1, 0, 0)
abbrev iX4_kindOf : mj_I := (yX4_kindOf, cX4_kindOf, 2, (some .int), 2, 0, 0)
abbrev iX4_iceOf : mj_I := (yX4_iceOf, cX4_iceOf, 2, (some .int), 2, 0, 0)
abbrev iX4_bears : mj_I := (yX4_bears, cX4_bears, 2, (some .int), 2, 0, 0)
abbrev iX4_setKind : mj_I := (yX4_setKind, cX4_setKind, 3, none, 2, 0, 0)
abbrev iX4_setIce : mj_I := (yX4_setIce, cX4_setIce, 3, none, 2, 0, 0)
abbrev iX4_passDay : mj_I := (yX4_passDay, cX4_passDay, 4, none, 3, 0, 0)
abbrev iX4_together : mj_I := (yX4_together, cX4_together, 3, (some .int), 0, 0, 0)
abbrev iX4_bearsTogether : mj_I := (yX4_bearsTogether, cX4_bearsTogether, 3, (some .int), 3, 0, 0)
abbrev iX4_bearing : mj_I := (yX4_bearing, cX4_bearing, 4, (some .int), 3, 0, 0)
abbrev iX4_leastBeside : mj_I := (yX4_leastBeside, cX4_leastBeside, 3, (some .int), 3, 0, 0)
abbrev iX4_iceOfWard : mj_I := (yX4_iceOfWard, cX4_iceOfWard, 3, (some .int), 3, 0, 0)
abbrev iX5_init : mj_I := (yX5_init, cX5_init, 1, none, 1, 3, 452)
abbrev iX5_add : mj_I := (yX5_add, cX5_add, 2, none, 1, 0, 0)
abbrev iX5_tell : mj_I := (yX5_tell, cX5_tell, 3, (some .int), 9, 0, 0)
abbrev iX5_fault : mj_I := (yX5_fault, cX5_fault, 1, (some .int), 1, 0, 0)
abbrev iX5_itemComes : mj_I := (yX5_itemComes, cX5_itemComes, 2, (some .boolean), 4, 0, 0)
abbrev iX5_cellsCome : mj_I := (yX5_cellsCome, cX5_cellsCome, 4, (some .boolean), 3, 0, 0)
abbrev iX5_pairsCome : mj_I := (yX5_pairsCome, cX5_pairsCome, 4, (some .boolean), 3, 0, 0)
abbrev iX5_voterComes : mj_I := (yX5_voterComes, cX5_voterComes, 4, (some .boolean), 3, 0, 0)
abbrev iX5_numberComes : mj_I := (yX5_numberComes, cX5_numberComes, 3, (some .boolean), 2, 0, 0)
abbrev iX5_stopComes : mj_I := (yX5_stopComes, cX5_stopComes, 1, (some .boolean), 2, 0, 0)
abbrev iX5_advance : mj_I := (yX5_advance, cX5_advance, 1, none, 1, 0, 0)
abbrev iX5_findTokens : mj_I := (yX5_findTokens, cX5_findTokens, 4, none, 8, 0, 0)
abbrev iX5_endOfToken : mj_I := (yX5_endOfToken, cX5_endOfToken, 3, (some .int), 2, 0, 0)
abbrev iX5_endOfRun : mj_I := (yX5_endOfRun, cX5_endOfRun, 5, (some .int), 1, 0, 0)
abbrev iX5_byteAt : mj_I := (yX5_byteAt, cX5_byteAt, 2, (some .int), 0, 0, 0)
abbrev iX5_tokenIn : mj_I := (yX5_tokenIn, cX5_tokenIn, 4, (some .int), 7, 0, 0)
abbrev iX5_numberIn : mj_I := (yX5_numberIn, cX5_numberIn, 4, (some .int), 1, 0, 0)
abbrev iX5_wordIn : mj_I := (yX5_wordIn, cX5_wordIn, 3, (some .int), 6, 0, 0)
abbrev iX5_isWord : mj_I := (yX5_isWord, cX5_isWord, 5, (some .boolean), 5, 0, 0)
abbrev iX6_yes : mj_I := (yX6_yes, cX6_yes, 8, (some .boolean), 0, 0, 0)
abbrev iX7_init : mj_I := (yX7_init, cX7_init, 1, none, 1, 3, 21)
abbrev iX7_copy : mj_I := (yX7_copy, cX7_copy, 2, none, 1, 0, 0)
abbrev iX7_add : mj_I := (yX7_add, cX7_add, 4, none, 1, 0, 0)
abbrev iX7_kindOf : mj_I := (yX7_kindOf, cX7_kindOf, 2, (some .int), 1, 0, 0)
abbrev iX7_weightOf : mj_I := (yX7_weightOf, cX7_weightOf, 2, (some .int), 1, 0, 0)
abbrev iX7_cellOf : mj_I := (yX7_cellOf, cX7_cellOf, 2, (some .int), 1, 0, 0)
abbrev iX7_sets : mj_I := (yX7_sets, cX7_sets, 1, (some .int), 0, 0, 0)
abbrev iX7_yes : mj_I := (yX7_yes, cX7_yes, 6, (some .int), 4, 0, 0)
abbrev iX7_carried : mj_I := (yX7_carried, cX7_carried, 3, (some .boolean), 3, 0, 0)
abbrev iX7_heaviest : mj_I := (yX7_heaviest, cX7_heaviest, 3, (some .int), 2, 0, 0)
abbrev iX7_heavy : mj_I := (yX7_heavy, cX7_heavy, 4, (some .int), 3, 0, 0)
abbrev iX7_wet : mj_I := (yX7_wet, cX7_wet, 4, (some .int), 5, 0, 0)
abbrev iX7_gain : mj_I := (yX7_gain, cX7_gain, 4, (some .int), 4, 0, 0)
abbrev iX7_fold : mj_I := (yX7_fold, cX7_fold, 6, (some .long), 0, 0, 0)
abbrev iX8_init : mj_I := (yX8_init, cX8_init, 1, none, 1, 2, 50)
abbrev iX8_beside : mj_I := (yX8_beside, cX8_beside, 3, (some .int), 0, 0, 0)
abbrev iX8_joined : mj_I := (yX8_joined, cX8_joined, 7, (some .boolean), 1, 0, 0)
abbrev iX8_find : mj_I := (yX8_find, cX8_find, 7, (some .int), 2, 0, 0)
abbrev iX8_measure : mj_I := (yX8_measure, cX8_measure, 5, (some .int), 1, 0, 0)
abbrev iX8_first : mj_I := (yX8_first, cX8_first, 2, (some .int), 1, 0, 0)
abbrev iX8_step : mj_I := (yX8_step, cX8_step, 2, (some .int), 2, 0, 0)
abbrev iX8_cut : mj_I := (yX8_cut, cX8_cut, 7, (some .int), 2, 0, 0)
abbrev iX9_init : mj_I := (yX9_init, cX9_init, 1, none, 1, 2, 14)
abbrev iX9_copy : mj_I := (yX9_copy, cX9_copy, 2, none, 1, 0, 0)
abbrev iX9_restart : mj_I := (yX9_restart, cX9_restart, 1, none, 1, 0, 0)
abbrev iX9_set : mj_I := (yX9_set, cX9_set, 4, none, 1, 0, 0)
abbrev iX9_frostOn : mj_I := (yX9_frostOn, cX9_frostOn, 2, (some .int), 1, 0, 0)
abbrev iX9_sunOn : mj_I := (yX9_sunOn, cX9_sunOn, 2, (some .int), 1, 0, 0)
abbrev iX9_iceAfter : mj_I := (yX9_iceAfter, cX9_iceAfter, 4, (some .int), 3, 0, 0)
abbrev iX10_init : mj_I := (yX10_init, cX10_init, 1, none, 3, 53, 1533)
abbrev iX10_lake : mj_I := (yX10_lake, cX10_lake, 3, (some .int), 3, 0, 0)
abbrev iX10_cell : mj_I := (yX10_cell, cX10_cell, 4, (some .int), 3, 0, 0)
abbrev iX10_weather : mj_I := (yX10_weather, cX10_weather, 5, (some .int), 2, 0, 0)
abbrev iX10_ward : mj_I := (yX10_ward, cX10_ward, 4, (some .int), 1, 0, 0)
abbrev iX10_voter : mj_I := (yX10_voter, cX10_voter, 4, (some .int), 2, 0, 0)
abbrev iX10_type : mj_I := (yX10_type, cX10_type, 2, (some .int), 2, 0, 0)
abbrev iX10_clear : mj_I := (yX10_clear, cX10_clear, 2, (some .int), 0, 0, 0)
abbrev iX10_read : mj_I := (yX10_read, cX10_read, 2, (some .int), 10, 0, 0)
abbrev iX10_day : mj_I := (yX10_day, cX10_day, 2, (some .int), 5, 0, 0)
abbrev iX10_tread : mj_I := (yX10_tread, cX10_tread, 4, (some .int), 4, 0, 0)
abbrev iX10_stone : mj_I := (yX10_stone, cX10_stone, 2, (some .int), 4, 0, 0)
abbrev iX10_undo : mj_I := (yX10_undo, cX10_undo, 1, (some .int), 2, 0, 0)
abbrev iX10_of : mj_I := (yX10_of, cX10_of, 3, (some .int), 3, 0, 0)
abbrev iX10_about : mj_I := (yX10_about, cX10_about, 3, (some .int), 6, 0, 0)
abbrev iX10_then : mj_I := (yX10_then, cX10_then, 5, (some .int), 5, 0, 0)
abbrev iX10_when : mj_I := (yX10_when, cX10_when, 6, (some .int), 4, 0, 0)
abbrev iX10_where : mj_I := (yX10_where, cX10_where, 4, (some .int), 4, 0, 0)
abbrev iX10_horses : mj_I := (yX10_horses, cX10_horses, 3, (some .int), 4, 0, 0)
abbrev iX10_path : mj_I := (yX10_path, cX10_path, 6, (some .int), 4, 0, 0)
abbrev iX10_safe : mj_I := (yX10_safe, cX10_safe, 6, (some .int), 4, 0, 0)
abbrev iX10_cross : mj_I := (yX10_cross, cX10_cross, 8, (some .int), 4, 0, 0)
abbrev iX10_apart : mj_I := (yX10_apart, cX10_apart, 6, (some .int), 4, 0, 0)
abbrev iX10_votes : mj_I := (yX10_votes, cX10_votes, 2, (some .int), 6, 0, 0)
abbrev iX10_turn : mj_I := (yX10_turn, cX10_turn, 6, (some .int), 6, 0, 0)
abbrev iX10_seen : mj_I := (yX10_seen, cX10_seen, 8, (some .int), 4, 0, 0)
abbrev iX10_lies : mj_I := (yX10_lies, cX10_lies, 3, (some .int), 4, 0, 0)
abbrev iX10_stones : mj_I := (yX10_stones, cX10_stones, 6, (some .int), 3, 0, 0)
abbrev iX10_note : mj_I := (yX10_note, cX10_note, 6, (some .int), 2, 0, 0)
abbrev iX10_voted : mj_I := (yX10_voted, cX10_voted, 6, (some .int), 2, 0, 0)
abbrev iX10_forget : mj_I := (yX10_forget, cX10_forget, 2, (some .int), 1, 0, 0)
abbrev iX10_is : mj_I := (yX10_is, cX10_is, 2, (some .int), 5, 0, 0)
abbrev iX10_next : mj_I := (yX10_next, cX10_next, 7, (some .int), 5, 0, 0)
abbrev iX10_who : mj_I := (yX10_who, cX10_who, 4, (some .int), 3, 0, 0)
abbrev iX10_two : mj_I := (yX10_two, cX10_two, 10, (some .int), 6, 0, 0)
abbrev iX10_thaw : mj_I := (yX10_thaw, cX10_thaw, 11, (some .int), 4, 0, 0)
abbrev iX10_winters : mj_I := (yX10_winters, cX10_winters, 9, (some .int), 6, 0, 0)
abbrev iX10_part : mj_I := (yX10_part, cX10_part, 2, (some .long), 1, 0, 0)
abbrev iX10_image : mj_I := (yX10_image, cX10_image, 3, (some .int), 3, 19, 380)
abbrev iX10_from : mj_I := (yX10_from, cX10_from, 3, (some .int), 3, 0, 0)
abbrev iX10_status : mj_I := (yX10_status, cX10_status, 2, (some .int), 1, 0, 0)
abbrev iX10_count : mj_I := (yX10_count, cX10_count, 2, (some .int), 2, 0, 0)
abbrev iX10_digest : mj_I := (yX10_digest, cX10_digest, 4, (some .long), 3, 0, 0)
abbrev iX10_bad : mj_I := (yX10_bad, cX10_bad, 1, (some .int), 0, 0, 0)
abbrev iX10_no : mj_I := (yX10_no, cX10_no, 1, (some .int), 0, 0, 0)
abbrev iX10_full : mj_I := (yX10_full, cX10_full, 1, (some .int), 0, 0, 0)
abbrev iX10_isVoter : mj_I := (yX10_isVoter, cX10_isVoter, 2, (some .boolean), 1, 0, 0)
abbrev iX10_isCell : mj_I := (yX10_isCell, cX10_isCell, 1, (some .boolean), 1, 0, 0)
abbrev iX10_isSky : mj_I := (yX10_isSky, cX10_isSky, 1, (some .boolean), 1, 0, 0)
abbrev iX10_isBorne : mj_I := (yX10_isBorne, cX10_isBorne, 1, (some .boolean), 1, 0, 0)
abbrev iX10_within : mj_I := (yX10_within, cX10_within, 3, (some .boolean), 0, 0, 0)
abbrev iX10_has : mj_I := (yX10_has, cX10_has, 2, (some .boolean), 0, 0, 0)
abbrev iX10_amount : mj_I := (yX10_amount, cX10_amount, 2, (some .int), 1, 0, 0)
abbrev iX10_yesNow : mj_I := (yX10_yesNow, cX10_yesNow, 1, (some .int), 5, 0, 0)
abbrev iX10_kindsNoted : mj_I := (yX10_kindsNoted, cX10_kindsNoted, 4, (some .int), 4, 0, 0)
abbrev iX10_fitsNotes : mj_I := (yX10_fitsNotes, cX10_fitsNotes, 6, (some .boolean), 3, 0, 0)
abbrev iX10_mostAlike : mj_I := (yX10_mostAlike, cX10_mostAlike, 9, (some .int), 3, 0, 0)
abbrev iX10_fitsPolls : mj_I := (yX10_fitsPolls, cX10_fitsPolls, 7, (some .boolean), 2, 0, 0)
abbrev iX10_passNight : mj_I := (yX10_passNight, cX10_passNight, 7, none, 3, 0, 0)
abbrev iX10_addAt : mj_I := (yX10_addAt, cX10_addAt, 4, none, 0, 0, 0)
abbrev iX10_keepFraction : mj_I := (yX10_keepFraction, cX10_keepFraction, 12, none, 0, 0, 0)
abbrev iX11_init : mj_I := (yX11_init, cX11_init, 1, none, 1, 9, 1448)
abbrev iX11_in : mj_I := (yX11_in, cX11_in, 6, (some .boolean), 0, 0, 0)
abbrev iX11_bad : mj_I := (yX11_bad, cX11_bad, 2, (some .int), 0, 0, 0)
abbrev iX11_no : mj_I := (yX11_no, cX11_no, 1, (some .int), 0, 0, 0)
abbrev iX11_full : mj_I := (yX11_full, cX11_full, 1, (some .int), 0, 0, 0)
abbrev iX11_bits : mj_I := (yX11_bits, cX11_bits, 3, (some .int), 0, 0, 0)
abbrev iX11_has : mj_I := (yX11_has, cX11_has, 2, (some .boolean), 0, 0, 0)
abbrev iX11_begin : mj_I := (yX11_begin, cX11_begin, 3, none, 0, 0, 0)
abbrev iX11_many : mj_I := (yX11_many, cX11_many, 1, (some .int), 0, 0, 0)
abbrev iX11_isVoter : mj_I := (yX11_isVoter, cX11_isVoter, 2, (some .boolean), 1, 0, 0)
abbrev iX11_isCell : mj_I := (yX11_isCell, cX11_isCell, 1, (some .boolean), 1, 0, 0)
abbrev iX11_isIce : mj_I := (yX11_isIce, cX11_isIce, 1, (some .boolean), 1, 0, 0)
abbrev iX11_isWeather : mj_I := (yX11_isWeather, cX11_isWeather, 1, (some .boolean), 1, 0, 0)
abbrev iX11_isBurden : mj_I := (yX11_isBurden, cX11_isBurden, 1, (some .boolean), 1, 0, 0)
abbrev iX11_lake : mj_I := (yX11_lake, cX11_lake, 3, (some .int), 2, 0, 0)
abbrev iX11_cell : mj_I := (yX11_cell, cX11_cell, 4, (some .int), 2, 0, 0)
abbrev iX11_weather : mj_I := (yX11_weather, cX11_weather, 5, (some .int), 2, 0, 0)
abbrev iX11_ward : mj_I := (yX11_ward, cX11_ward, 4, (some .int), 2, 0, 0)
abbrev iX11_layVoter : mj_I := (yX11_layVoter, cX11_layVoter, 5, none, 0, 0, 0)
abbrev iX11_voter : mj_I := (yX11_voter, cX11_voter, 4, (some .int), 2, 0, 0)
abbrev iX11_growsAs : mj_I := (yX11_growsAs, cX11_growsAs, 3, (some .int), 0, 0, 0)
abbrev iX11_meltsAs : mj_I := (yX11_meltsAs, cX11_meltsAs, 2, (some .int), 0, 0, 0)
abbrev iX11_bearsAs : mj_I := (yX11_bearsAs, cX11_bearsAs, 3, (some .int), 0, 0, 0)
abbrev iX11_behindDay : mj_I := (yX11_behindDay, cX11_behindDay, 6, (some .int), 1, 0, 0)
abbrev iX11_votesAs : mj_I := (yX11_votesAs, cX11_votesAs, 8, (some .boolean), 0, 0, 0)
abbrev iX11_layIce : mj_I := (yX11_layIce, cX11_layIce, 2, none, 0, 0, 0)
abbrev iX11_kindOf : mj_I := (yX11_kindOf, cX11_kindOf, 2, (some .int), 0, 0, 0)
abbrev iX11_bears : mj_I := (yX11_bears, cX11_bears, 2, (some .int), 1, 0, 0)
abbrev iX11_goDay : mj_I := (yX11_goDay, cX11_goDay, 4, none, 2, 0, 0)
abbrev iX11_goDays : mj_I := (yX11_goDays, cX11_goDays, 4, none, 3, 0, 0)
abbrev iX11_areBeside : mj_I := (yX11_areBeside, cX11_areBeside, 4, (some .boolean), 0, 0, 0)
abbrev iX11_leastBeside : mj_I := (yX11_leastBeside, cX11_leastBeside, 4, (some .int), 2, 0, 0)
abbrev iX11_keep : mj_I := (yX11_keep, cX11_keep, 2, none, 0, 0, 0)
abbrev iX11_allIce : mj_I := (yX11_allIce, cX11_allIce, 3, (some .int), 0, 0, 0)
abbrev iX11_day : mj_I := (yX11_day, cX11_day, 4, (some .int), 4, 0, 0)
abbrev iX11_tread : mj_I := (yX11_tread, cX11_tread, 5, (some .int), 2, 0, 0)
abbrev iX11_stone : mj_I := (yX11_stone, cX11_stone, 2, (some .int), 2, 0, 0)
abbrev iX11_undo : mj_I := (yX11_undo, cX11_undo, 2, (some .int), 1, 0, 0)
abbrev iX11_of : mj_I := (yX11_of, cX11_of, 3, (some .int), 2, 0, 0)
abbrev iX11_frostNow : mj_I := (yX11_frostNow, cX11_frostNow, 1, (some .int), 0, 0, 0)
abbrev iX11_votesYes : mj_I := (yX11_votesYes, cX11_votesYes, 4, (some .boolean), 3, 0, 0)
abbrev iX11_about : mj_I := (yX11_about, cX11_about, 4, (some .int), 4, 0, 0)
abbrev iX11_then : mj_I := (yX11_then, cX11_then, 4, (some .int), 4, 0, 0)
abbrev iX11_goOne : mj_I := (yX11_goOne, cX11_goOne, 3, none, 3, 0, 0)
abbrev iX11_when : mj_I := (yX11_when, cX11_when, 4, (some .int), 4, 0, 0)
abbrev iX11_where : mj_I := (yX11_where, cX11_where, 5, (some .int), 4, 0, 0)
abbrev iX11_horses : mj_I := (yX11_horses, cX11_horses, 5, (some .int), 4, 0, 0)
abbrev iX11_layFar : mj_I := (yX11_layFar, cX11_layFar, 6, none, 3, 0, 0)
abbrev iX11_layNearer : mj_I := (yX11_layNearer, cX11_layNearer, 5, (some .boolean), 2, 0, 0)
abbrev iX11_nextOf : mj_I := (yX11_nextOf, cX11_nextOf, 3, (some .int), 1, 0, 0)
abbrev iX11_path : mj_I := (yX11_path, cX11_path, 7, (some .int), 4, 0, 0)
abbrev iX11_safe : mj_I := (yX11_safe, cX11_safe, 4, (some .int), 4, 0, 0)
abbrev iX11_cross : mj_I := (yX11_cross, cX11_cross, 7, (some .int), 4, 0, 0)
abbrev iX11_isParted : mj_I := (yX11_isParted, cX11_isParted, 5, (some .boolean), 4, 0, 0)
abbrev iX11_partsOf : mj_I := (yX11_partsOf, cX11_partsOf, 7, (some .int), 5, 0, 0)
abbrev iX11_apart : mj_I := (yX11_apart, cX11_apart, 6, (some .int), 6, 0, 0)
abbrev iX11_yesOf : mj_I := (yX11_yesOf, cX11_yesOf, 4, (some .int), 4, 0, 0)
abbrev iX11_heaviest : mj_I := (yX11_heaviest, cX11_heaviest, 3, (some .int), 1, 0, 0)
abbrev iX11_isCarried : mj_I := (yX11_isCarried, cX11_isCarried, 3, (some .boolean), 2, 0, 0)
abbrev iX11_bearsIt : mj_I := (yX11_bearsIt, cX11_bearsIt, 2, (some .boolean), 2, 0, 0)
abbrev iX11_wetOf : mj_I := (yX11_wetOf, cX11_wetOf, 4, (some .int), 3, 0, 0)
abbrev iX11_votes : mj_I := (yX11_votes, cX11_votes, 3, (some .int), 5, 0, 0)
abbrev iX11_turn : mj_I := (yX11_turn, cX11_turn, 5, (some .int), 5, 0, 0)
abbrev iX11_seen : mj_I := (yX11_seen, cX11_seen, 7, (some .int), 4, 0, 0)
abbrev iX11_lies : mj_I := (yX11_lies, cX11_lies, 5, (some .int), 0, 0, 0)
abbrev iX11_stones : mj_I := (yX11_stones, cX11_stones, 6, (some .int), 2, 0, 0)
abbrev iX11_note : mj_I := (yX11_note, cX11_note, 7, (some .int), 2, 0, 0)
abbrev iX11_voted : mj_I := (yX11_voted, cX11_voted, 7, (some .int), 2, 0, 0)
abbrev iX11_forget : mj_I := (yX11_forget, cX11_forget, 3, (some .int), 1, 0, 0)
abbrev iX11_kindsOf : mj_I := (yX11_kindsOf, cX11_kindsOf, 7, (some .int), 2, 0, 0)
abbrev iX11_is : mj_I := (yX11_is, cX11_is, 2, (some .int), 3, 0, 0)
abbrev iX11_next : mj_I := (yX11_next, cX11_next, 11, (some .int), 3, 0, 0)
abbrev iX11_who : mj_I := (yX11_who, cX11_who, 8, (some .int), 2, 0, 0)
abbrev iX11_hasBy : mj_I := (yX11_hasBy, cX11_hasBy, 3, (some .int), 3, 0, 0)
abbrev iX11_two : mj_I := (yX11_two, cX11_two, 8, (some .int), 5, 0, 0)
abbrev iX11_fraction : mj_I := (yX11_fraction, cX11_fraction, 11, none, 0, 0, 0)
abbrev iX11_thaw : mj_I := (yX11_thaw, cX11_thaw, 15, (some .int), 2, 0, 0)
abbrev iX11_winters : mj_I := (yX11_winters, cX11_winters, 8, (some .int), 5, 0, 0)
abbrev iX11_type : mj_I := (yX11_type, cX11_type, 2, (some .int), 1, 0, 0)
abbrev iX11_clear : mj_I := (yX11_clear, cX11_clear, 2, (some .int), 0, 0, 0)
abbrev iX11_isSmall : mj_I := (yX11_isSmall, cX11_isSmall, 1, (some .boolean), 1, 0, 0)
abbrev iX11_isFigure : mj_I := (yX11_isFigure, cX11_isFigure, 1, (some .boolean), 1, 0, 0)
abbrev iX11_lookAt : mj_I := (yX11_lookAt, cX11_lookAt, 5, none, 2, 0, 0)
abbrev iX11_goBehind : mj_I := (yX11_goBehind, cX11_goBehind, 1, none, 3, 0, 0)
abbrev iX11_spells : mj_I := (yX11_spells, cX11_spells, 10, (some .boolean), 0, 0, 0)
abbrev iX11_takes : mj_I := (yX11_takes, cX11_takes, 4, (some .boolean), 4, 0, 0)
abbrev iX11_takesLake : mj_I := (yX11_takesLake, cX11_takesLake, 1, (some .boolean), 5, 0, 0)
abbrev iX11_takesCell : mj_I := (yX11_takesCell, cX11_takesCell, 1, (some .boolean), 5, 0, 0)
abbrev iX11_takesWeek : mj_I := (yX11_takesWeek, cX11_takesWeek, 2, (some .boolean), 5, 0, 0)
abbrev iX11_takesVoter : mj_I := (yX11_takesVoter, cX11_takesVoter, 1, (some .boolean), 5, 0, 0)
abbrev iX11_takesItem : mj_I := (yX11_takesItem, cX11_takesItem, 1, (some .boolean), 6, 0, 0)
abbrev iX11_read : mj_I := (yX11_read, cX11_read, 3, (some .int), 7, 0, 0)
abbrev iX11_part : mj_I := (yX11_part, cX11_part, 2, (some .long), 1, 0, 0)
abbrev iX11_image : mj_I := (yX11_image, cX11_image, 3, (some .int), 1, 0, 0)
abbrev iX11_from : mj_I := (yX11_from, cX11_from, 3, (some .int), 1, 0, 0)
abbrev iX11_status : mj_I := (yX11_status, cX11_status, 2, (some .int), 1, 0, 0)
abbrev iX11_counted : mj_I := (yX11_counted, cX11_counted, 2, (some .int), 1, 0, 0)
abbrev iX11_count : mj_I := (yX11_count, cX11_count, 2, (some .int), 2, 0, 0)
abbrev iX11_sums : mj_I := (yX11_sums, cX11_sums, 8, (some .long), 0, 0, 0)
abbrev iX11_digest : mj_I := (yX11_digest, cX11_digest, 4, (some .long), 2, 0, 0)
abbrev iJ6_bitCount_0f7a4 : mj_I := (yJ6_bitCount_0f7a4, cJ6_bitCount_0f7a4, 1, (some .int), 0, 0, 0)
abbrev iJ9_floorMod_7cf53 : mj_I := (yJ9_floorMod_7cf53, cJ9_floorMod_7cf53, 3, (some .int), 0, 0, 0)
abbrev iJ9_max_7cf53 : mj_I := (yJ9_max_7cf53, cJ9_max_7cf53, 2, (some .int), 0, 0, 0)
abbrev iJ9_min_7cf53 : mj_I := (yJ9_min_7cf53, cJ9_min_7cf53, 2, (some .int), 0, 0, 0)
abbrev iJ0_length_8abf5 : mj_I := (yJ0_length_8abf5, cJ0_length_8abf5, 1, (some .int), 1, 0, 0)
abbrev iJ0_charAt_5068e : mj_I := (yJ0_charAt_5068e, cJ0_charAt_5068e, 2, (some .char), 4, 0, 0)
abbrev iJ0_coder_7d493 : mj_I := (yJ0_coder_7d493, cJ0_coder_7d493, 1, (some .byte), 0, 0, 0)
abbrev iJ0_isLatin1_aae02 : mj_I := (yJ0_isLatin1_aae02, cJ0_isLatin1_aae02, 1, (some .boolean), 0, 0, 0)
abbrev iJ0_checkIndex_df160 : mj_I := (yJ0_checkIndex_df160, cJ0_checkIndex_df160, 2, none, 1, 0, 0)
abbrev iJ1_charAt_3b067 : mj_I := (yJ1_charAt_3b067, cJ1_charAt_3b067, 2, (some .char), 2, 0, 0)
abbrev iJ2_getChar_3b067 : mj_I := (yJ2_getChar_3b067, cJ2_getChar_3b067, 2, (some .char), 1, 0, 0)
abbrev iJ2_length_9d52b : mj_I := (yJ2_length_9d52b, cJ2_length_9d52b, 1, (some .int), 0, 0, 0)
abbrev iJ2_charAt_3b067 : mj_I := (yJ2_charAt_3b067, cJ2_charAt_3b067, 2, (some .char), 3, 0, 0)
abbrev iJ2_checkIndex_2214a : mj_I := (yJ2_checkIndex_2214a, cJ2_checkIndex_2214a, 2, none, 2, 0, 0)
abbrev iJ7_fill_d0a16 : mj_I := (yJ7_fill_d0a16, cJ7_fill_d0a16, 5, none, 0, 0, 0)
abbrev iJ7_fill_53178 : mj_I := (yJ7_fill_53178, cJ7_fill_53178, 4, none, 0, 0, 0)
abbrev iJ3_checkIndex_8e157 : mj_I := (yJ3_checkIndex_8e157, cJ3_checkIndex_8e157, 3, (some .int), 0, 0, 0)
