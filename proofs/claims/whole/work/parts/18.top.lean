set_option maxHeartbeats 1000000 in
set_option maxRecDepth 10000 in
theorem ev_X10_bad {E : mj_E} {κ : Nat → Bool} {C : Nat → Nat → Nat} (I : mj_CI κ C)  : mj_Ev E iX10_bad [.ref 0] (hh κ C) (mj_R (some (.int (-2))) (hh κ (mj_u C 11 (mj_un (C 11) 0 ((C 11 0) + 1))))) := by
  have hl0 : C 20 0 ≤ 999 := I.1 0 (by decide) 0
  have hl7 : C 27 0 ≤ 7 := I.1 7 (by decide) 0
  have hl11 : C 31 0 ≤ 6 := I.1 11 (by decide) 0
  have hl13 : C 33 0 ≤ 6 := I.1 13 (by decide) 0
  have hl15 : C 35 0 ≤ 8 := I.1 15 (by decide) 0
  have hl7x : C 7 0 ≤ 150 := I.2.2.2.2.2.2.1
  refine mj_Ev.of (L0 := [some (.ref 0)]) pnRX10 (Nat.le_of_ble_eq_true rfl) rfl ?_
  refine gj_aload_n dX10_bad_0 rfl ?_
  refine gfX10_44 rfl dX10_bad_1 (hc0 κ C) rfl ?_
  refine gj_ic (w := 0) dX10_bad_4 ?_
  refine gj_dup2 dX10_bad_5 rfl rfl ?_
  refine gj_ialdN dX10_bad_6 (hc11 κ C) (by omega) (by omega) ?_
  refine gj_ic (w := 1) dX10_bad_7 ?_
  refine gj_iaddN  dX10_bad_8 ?_
  refine gj_iastN dX10_bad_9 (hc11 κ C) (by omega) (by omega) ?_
  refine gj_bipush (v := (-2)) dX10_bad_10 (by decide) ?_
  exact gj_ir rfl dX10_bad_12 rfl rfl (hu11 rfl)
set_option maxHeartbeats 1000000 in
set_option maxRecDepth 10000 in
theorem ev_X10_no {E : mj_E} {κ : Nat → Bool} {C : Nat → Nat → Nat} (I : mj_CI κ C)  : mj_Ev E iX10_no [.ref 0] (hh κ C) (mj_R (some (.int (-3))) (hh κ (mj_u C 11 (mj_un (C 11) 1 ((C 11 1) + 1))))) := by
  have hl0 : C 20 0 ≤ 999 := I.1 0 (by decide) 0
  have hl7 : C 27 0 ≤ 7 := I.1 7 (by decide) 0
  have hl11 : C 31 0 ≤ 6 := I.1 11 (by decide) 0
  have hl13 : C 33 0 ≤ 6 := I.1 13 (by decide) 0
  have hl15 : C 35 0 ≤ 8 := I.1 15 (by decide) 0
  have hl7x : C 7 0 ≤ 150 := I.2.2.2.2.2.2.1
  refine mj_Ev.of (L0 := [some (.ref 0)]) pnRX10 (Nat.le_of_ble_eq_true rfl) rfl ?_
  refine gj_aload_n dX10_no_0 rfl ?_
  refine gfX10_44 rfl dX10_no_1 (hc0 κ C) rfl ?_
  refine gj_ic (w := 1) dX10_no_4 ?_
  refine gj_dup2 dX10_no_5 rfl rfl ?_
  refine gj_ialdN dX10_no_6 (hc11 κ C) (by omega) (by omega) ?_
  refine gj_ic (w := 1) dX10_no_7 ?_
  refine gj_iaddN  dX10_no_8 ?_
  refine gj_iastN dX10_no_9 (hc11 κ C) (by omega) (by omega) ?_
  refine gj_bipush (v := (-3)) dX10_no_10 (by decide) ?_
  exact gj_ir rfl dX10_no_12 rfl rfl (hu11 rfl)
set_option maxHeartbeats 1000000 in
set_option maxRecDepth 10000 in
theorem ev_X10_full {E : mj_E} {κ : Nat → Bool} {C : Nat → Nat → Nat} (I : mj_CI κ C)  : mj_Ev E iX10_full [.ref 0] (hh κ C) (mj_R (some (.int (-4))) (hh κ (mj_u C 11 (mj_un (C 11) 2 ((C 11 2) + 1))))) := by
  have hl0 : C 20 0 ≤ 999 := I.1 0 (by decide) 0
  have hl7 : C 27 0 ≤ 7 := I.1 7 (by decide) 0
  have hl11 : C 31 0 ≤ 6 := I.1 11 (by decide) 0
  have hl13 : C 33 0 ≤ 6 := I.1 13 (by decide) 0
  have hl15 : C 35 0 ≤ 8 := I.1 15 (by decide) 0
  have hl7x : C 7 0 ≤ 150 := I.2.2.2.2.2.2.1
  refine mj_Ev.of (L0 := [some (.ref 0)]) pnRX10 (Nat.le_of_ble_eq_true rfl) rfl ?_
  refine gj_aload_n dX10_full_0 rfl ?_
  refine gfX10_44 rfl dX10_full_1 (hc0 κ C) rfl ?_
  refine gj_ic (w := 2) dX10_full_4 ?_
  refine gj_dup2 dX10_full_5 rfl rfl ?_
  refine gj_ialdN dX10_full_6 (hc11 κ C) (by omega) (by omega) ?_
  refine gj_ic (w := 1) dX10_full_7 ?_
  refine gj_iaddN  dX10_full_8 ?_
  refine gj_iastN dX10_full_9 (hc11 κ C) (by omega) (by omega) ?_
  refine gj_bipush (v := (-4)) dX10_full_10 (by decide) ?_
  exact gj_ir rfl dX10_full_12 rfl rfl (hu11 rfl)
set_option maxHeartbeats 1000000 in
set_option maxRecDepth 10000 in
theorem ev_X10_lake {E : mj_E} {κ : Nat → Bool} {C : Nat → Nat → Nat} (I : mj_CI κ C) {i : Nat} (h0 : i ≤ 99) : mj_Ev E iX10_lake [.ref 0, .int (nI i)] (hh κ C) (mj_R (some (.int (nI (C 27 0)))) (hh κ (mj_blk C 20 (mj_rst C 20 i)))) := by
  have hl0 : C 20 0 ≤ 999 := I.1 0 (by decide) 0
  have hl7 : C 27 0 ≤ 7 := I.1 7 (by decide) 0
  have hl11 : C 31 0 ≤ 6 := I.1 11 (by decide) 0
  have hl13 : C 33 0 ≤ 6 := I.1 13 (by decide) 0
  have hl15 : C 35 0 ≤ 8 := I.1 15 (by decide) 0
  have hl7x : C 7 0 ≤ 150 := I.2.2.2.2.2.2.1
  refine mj_Ev.of (L0 := [some (.ref 0), some (.int (nI i)), none]) pnRX10 (Nat.le_of_ble_eq_true rfl) rfl ?_
  refine gj_iload_n dX10_lake_0 rfl ?_
  refine gj_ic (w := 0) dX10_lake_1 ?_
  refine gj_bp 99 dX10_lake_2 (by decide) ?_
  refine gj_S1 lkX10_65 (ev_X10_within_t (by omega) (by omega) (by omega)) dX10_lake_4 rfl rfl rfl rfl rfl ?_
  refine gj_if_neN (tgt := 15) (by omega) dX10_lake_7 rfl (fun zq0 => ?_) (fun zq0 => ?_)
  rotate_left
  · exfalso; revert zq0; decide
  refine gj_aload_n dX10_lake_15 rfl ?_
  refine gfX10_10 rfl dX10_lake_16 (hc0 κ C) rfl ?_
  refine gfX10_73 rfl dX10_lake_19 (hc20 κ C) rfl ?_
  refine gfX10_77 rfl dX10_lake_22 (hc27 κ C) rfl ?_
  refine gj_istore_n (L' := [some (.ref 0), some (.int (nI i)), some (.int (nI (C 27 0)))]) dX10_lake_25 (Nat.le_of_ble_eq_true rfl) rfl ?_
  refine gj_aload_n dX10_lake_26 rfl ?_
  refine gfX10_10 rfl dX10_lake_27 (hc0 κ C) rfl ?_
  refine gj_iload_n dX10_lake_30 rfl ?_
  refine gj_V0 lkX10_83 (hc20 κ C) rfl rfl (ev_X1_restart mj_lk20 I.1 (by omega)) dX10_lake_31 rfl rfl rfl rfl rfl ?_
  refine gj_iload_n dX10_lake_34 rfl ?_
  exact gj_ir rfl dX10_lake_35 rfl rfl (hh_lay rfl (fun _ => mj_lk20))
set_option maxHeartbeats 1000000 in
set_option maxRecDepth 10000 in
theorem ev_X10_cell {E : mj_E} {κ : Nat → Bool} {C : Nat → Nat → Nat} (I : mj_CI κ C) {c k : Nat} (h0 : c < 25) (h1 : k ≤ 5) : mj_Ev E iX10_cell [.ref 0, .int (nI c), .int (nI k)] (hh κ C) (mj_R (some (.int (nI (C 22 c)))) (hh κ (mj_u (mj_u C 22 (mj_un (C 22) c k)) 35 (mj_row [0])))) := by
  have hl0 : C 20 0 ≤ 999 := I.1 0 (by decide) 0
  have hl7 : C 27 0 ≤ 7 := I.1 7 (by decide) 0
  have hl11 : C 31 0 ≤ 6 := I.1 11 (by decide) 0
  have hl13 : C 33 0 ≤ 6 := I.1 13 (by decide) 0
  have hl15 : C 35 0 ≤ 8 := I.1 15 (by decide) 0
  have hl7x : C 7 0 ≤ 150 := I.2.2.2.2.2.2.1
  refine mj_Ev.of (L0 := [some (.ref 0), some (.int (nI c)), some (.int (nI k)), none]) pnRX10 (Nat.le_of_ble_eq_true rfl) rfl ?_
  refine gj_iload_n dX10_cell_0 rfl ?_
  refine gj_S1 lkX10_87 (ev_X10_isCell_t (by omega) (by omega)) dX10_cell_1 rfl rfl rfl rfl rfl ?_
  refine gj_if_eqN (tgt := 16) (by omega) dX10_cell_4 rfl (fun zq0 => ?_) (fun zq0 => ?_)
  · exfalso; revert zq0; decide
  refine gj_iload_n dX10_cell_7 rfl ?_
  refine gj_ic (w := 0) dX10_cell_8 ?_
  refine gj_ic (w := 5) dX10_cell_9 ?_
  refine gj_S1 lkX10_65 (ev_X10_within_t (by omega) (by omega) (by omega)) dX10_cell_10 rfl rfl rfl rfl rfl ?_
  refine gj_if_neN (tgt := 21) (by omega) dX10_cell_13 rfl (fun zq0 => ?_) (fun zq0 => ?_)
  rotate_left
  · exfalso; revert zq0; decide
  refine gj_aload_n dX10_cell_21 rfl ?_
  refine gfX10_10 rfl dX10_cell_22 (hc0 κ C) rfl ?_
  refine gfX10_91 rfl dX10_cell_25 (hc20 κ C) rfl ?_
  refine gj_iload_n dX10_cell_28 rfl ?_
  refine gj_V1 lkX10_94 (hc21 κ C) rfl rfl (ev_X4_kindOf ⟨(hc21 κ C), (hc22 κ C), (hc23 κ C), (by decide), (show ∀ c, C 22 c ≤ 5 from I.1 2 (by decide)), (show ∀ c, C 23 c ≤ 99 from I.1 3 (by decide))⟩ (by omega)) dX10_cell_29 rfl rfl rfl rfl rfl ?_
  have hb1 := (show ∀ c, C 22 c ≤ 5 from I.1 2 (by decide)) c
  refine gj_istore_n (L' := [some (.ref 0), some (.int (nI c)), some (.int (nI k)), some (.int (nI (C 22 c)))]) dX10_cell_32 (Nat.le_of_ble_eq_true rfl) rfl ?_
  refine gj_aload_n dX10_cell_33 rfl ?_
  refine gfX10_10 rfl dX10_cell_34 (hc0 κ C) rfl ?_
  refine gfX10_91 rfl dX10_cell_37 (hc20 κ C) rfl ?_
  refine gj_iload_n dX10_cell_40 rfl ?_
  refine gj_iload_n dX10_cell_41 rfl ?_
  refine gj_V0 lkX10_98 (hc21 κ C) rfl rfl (ev_X4_setKind ⟨(hc21 κ C), (hc22 κ C), (hc23 κ C), (by decide), (show ∀ c, C 22 c ≤ 5 from I.1 2 (by decide)), (show ∀ c, C 23 c ≤ 99 from I.1 3 (by decide))⟩ (by omega)) dX10_cell_42 rfl rfl rfl rfl rfl ?_
  refine gj_aload_n dX10_cell_45 rfl ?_
  refine gfX10_10 rfl dX10_cell_46 ((mj_up_ne (by decide)).trans (hc0 κ C)) rfl ?_
  refine gfX10_102 rfl dX10_cell_49 ((mj_up_ne (by decide)).trans (hc20 κ C)) rfl ?_
  refine gj_V0 lkX10_106 ((mj_up_ne (by decide)).trans (hc35 κ C)) rfl rfl (ev_X2_empty ((mj_up_ne (by decide)).trans (hc35 κ C)) ((mj_up_ne (by decide)).trans (hc36 κ C)) ((mj_up_ne (by decide)).trans (hc37 κ C)) (by decide)) dX10_cell_52 rfl rfl rfl rfl rfl ?_
  refine gj_iload_n dX10_cell_55 rfl ?_
  exact gj_ir rfl dX10_cell_56 rfl rfl (hu35 (hu22 rfl))
set_option maxHeartbeats 1000000 in
set_option maxRecDepth 10000 in
theorem ev_X10_weather {E : mj_E} {κ : Nat → Bool} {C : Nat → Nat → Nat} (I : mj_CI κ C) {d f s : Nat} (h0 : d < 7) (h1 : f ≤ 9) (h2 : s ≤ 9) : mj_Ev E iX10_weather [.ref 0, .int (nI d), .int (nI f), .int (nI s)] (hh κ C) (mj_R (some (.int (nI ((10 * (C 25 (d % 7))) + (C 26 (d % 7)))))) (hh κ (mj_u (mj_u (mj_u C 25 (mj_un (C 25) d f)) 26 (mj_un (C 26) d s)) 35 (mj_row [0])))) := by
  have hl0 : C 20 0 ≤ 999 := I.1 0 (by decide) 0
  have hl7 : C 27 0 ≤ 7 := I.1 7 (by decide) 0
  have hl11 : C 31 0 ≤ 6 := I.1 11 (by decide) 0
  have hl13 : C 33 0 ≤ 6 := I.1 13 (by decide) 0
  have hl15 : C 35 0 ≤ 8 := I.1 15 (by decide) 0
  have hl7x : C 7 0 ≤ 150 := I.2.2.2.2.2.2.1
  refine mj_Ev.of (L0 := [some (.ref 0), some (.int (nI d)), some (.int (nI f)), some (.int (nI s)), none]) pnRX10 (Nat.le_of_ble_eq_true rfl) rfl ?_
  refine gj_iload_n dX10_weather_0 rfl ?_
  refine gj_ic (w := 0) dX10_weather_1 ?_
  refine gj_bp 6 dX10_weather_2 (by decide) ?_
  refine gj_S1 lkX10_65 (ev_X10_within_t (by omega) (by omega) (by omega)) dX10_weather_4 rfl rfl rfl rfl rfl ?_
  refine gj_if_eqN (tgt := 24) (by omega) dX10_weather_7 rfl (fun zq0 => ?_) (fun zq0 => ?_)
  · exfalso; revert zq0; decide
  refine gj_iload_n dX10_weather_10 rfl ?_
  refine gj_S1 lkX10_111 (ev_X10_isSky_t (by omega) (by omega)) dX10_weather_11 rfl rfl rfl rfl rfl ?_
  refine gj_if_eqN (tgt := 24) (by omega) dX10_weather_14 rfl (fun zq0 => ?_) (fun zq0 => ?_)
  · exfalso; revert zq0; decide
  refine gj_iload_n dX10_weather_17 rfl ?_
  refine gj_S1 lkX10_111 (ev_X10_isSky_t (by omega) (by omega)) dX10_weather_18 rfl rfl rfl rfl rfl ?_
  refine gj_if_neN (tgt := 29) (by omega) dX10_weather_21 rfl (fun zq0 => ?_) (fun zq0 => ?_)
  rotate_left
  · exfalso; revert zq0; decide
  refine gj_bp 10 dX10_weather_29 (by decide) ?_
  refine gj_aload_n dX10_weather_31 rfl ?_
  refine gfX10_10 rfl dX10_weather_32 (hc0 κ C) rfl ?_
  refine gfX10_114 rfl dX10_weather_35 (hc20 κ C) rfl ?_
  refine gj_iload_n dX10_weather_38 rfl ?_
  refine gj_V1 lkX10_118 (hc24 κ C) rfl rfl (ev_X9_frostOn ⟨(hc24 κ C), (hc25 κ C), (hc26 κ C), (by decide), (show ∀ c, C 25 c ≤ 9 from I.1 5 (by decide)), (show ∀ c, C 26 c ≤ 9 from I.1 6 (by decide))⟩ (by omega)) dX10_weather_39 rfl rfl rfl rfl rfl ?_
  have hb1 := (show ∀ c, C 25 c ≤ 9 from I.1 5 (by decide)) (d % 7)
  refine gj_imulN  dX10_weather_42 ?_
  refine gj_aload_n dX10_weather_43 rfl ?_
  refine gfX10_10 rfl dX10_weather_44 (hc0 κ C) rfl ?_
  refine gfX10_114 rfl dX10_weather_47 (hc20 κ C) rfl ?_
  refine gj_iload_n dX10_weather_50 rfl ?_
  refine gj_V1 lkX10_123 (hc24 κ C) rfl rfl (ev_X9_sunOn ⟨(hc24 κ C), (hc25 κ C), (hc26 κ C), (by decide), (show ∀ c, C 25 c ≤ 9 from I.1 5 (by decide)), (show ∀ c, C 26 c ≤ 9 from I.1 6 (by decide))⟩ (by omega)) dX10_weather_51 rfl rfl rfl rfl rfl ?_
  have hb2 := (show ∀ c, C 26 c ≤ 9 from I.1 6 (by decide)) (d % 7)
  refine gj_iaddN  dX10_weather_54 ?_
  refine gj_istore (L' := [some (.ref 0), some (.int (nI d)), some (.int (nI f)), some (.int (nI s)), some (.int (nI ((10 * (C 25 (d % 7))) + (C 26 (d % 7)))))]) dX10_weather_55 (Nat.le_of_ble_eq_true rfl) rfl ?_
  refine gj_aload_n dX10_weather_57 rfl ?_
  refine gfX10_10 rfl dX10_weather_58 (hc0 κ C) rfl ?_
  refine gfX10_114 rfl dX10_weather_61 (hc20 κ C) rfl ?_
  refine gj_iload_n dX10_weather_64 rfl ?_
  refine gj_iload_n dX10_weather_65 rfl ?_
  refine gj_iload_n dX10_weather_66 rfl ?_
  refine gj_V0 lkX10_126 (hc24 κ C) rfl rfl (ev_X9_set ⟨(hc24 κ C), (hc25 κ C), (hc26 κ C), (by decide), (show ∀ c, C 25 c ≤ 9 from I.1 5 (by decide)), (show ∀ c, C 26 c ≤ 9 from I.1 6 (by decide))⟩ (by omega)) dX10_weather_67 rfl rfl rfl rfl rfl ?_
  refine gj_aload_n dX10_weather_70 rfl ?_
  refine gfX10_10 rfl dX10_weather_71 ((mj_up_ne (by decide)).trans ((mj_up_ne (by decide)).trans (hc0 κ C))) rfl ?_
  refine gfX10_102 rfl dX10_weather_74 ((mj_up_ne (by decide)).trans ((mj_up_ne (by decide)).trans (hc20 κ C))) rfl ?_
  refine gj_V0 lkX10_106 ((mj_up_ne (by decide)).trans ((mj_up_ne (by decide)).trans (hc35 κ C))) rfl rfl (ev_X2_empty ((mj_up_ne (by decide)).trans ((mj_up_ne (by decide)).trans (hc35 κ C))) ((mj_up_ne (by decide)).trans ((mj_up_ne (by decide)).trans (hc36 κ C))) ((mj_up_ne (by decide)).trans ((mj_up_ne (by decide)).trans (hc37 κ C))) (by decide)) dX10_weather_77 rfl rfl rfl rfl rfl ?_
  refine gj_iload dX10_weather_80 rfl ?_
  exact gj_ir rfl dX10_weather_82 rfl rfl (hu35 (hu26 (hu25 rfl)))
set_option maxHeartbeats 1000000 in
set_option maxRecDepth 10000 in
theorem ev_X10_ward {E : mj_E} {κ : Nat → Bool} {C : Nat → Nat → Nat} (I : mj_CI κ C) {w x : Nat} (h0 : w < 4) (h1 : x ≤ 99) : mj_Ev E iX10_ward [.ref 0, .int (nI w), .int (nI x)] (hh κ C) (mj_R (some (.int (nI (C 38 w)))) (hh κ (mj_u (mj_u C 38 (mj_un (C 38) w x)) 35 (mj_row [0])))) := by
  have hl0 : C 20 0 ≤ 999 := I.1 0 (by decide) 0
  have hl7 : C 27 0 ≤ 7 := I.1 7 (by decide) 0
  have hl11 : C 31 0 ≤ 6 := I.1 11 (by decide) 0
  have hl13 : C 33 0 ≤ 6 := I.1 13 (by decide) 0
  have hl15 : C 35 0 ≤ 8 := I.1 15 (by decide) 0
  have hl7x : C 7 0 ≤ 150 := I.2.2.2.2.2.2.1
  refine mj_Ev.of (L0 := [some (.ref 0), some (.int (nI w)), some (.int (nI x)), none]) pnRX10 (Nat.le_of_ble_eq_true rfl) rfl ?_
  refine gj_iload_n dX10_ward_0 rfl ?_
  refine gj_ic (w := 0) dX10_ward_1 ?_
  refine gj_ic (w := 3) dX10_ward_2 ?_
  refine gj_S1 lkX10_65 (ev_X10_within_t (by omega) (by omega) (by omega)) dX10_ward_3 rfl rfl rfl rfl rfl ?_
  refine gj_if_eqN (tgt := 19) (by omega) dX10_ward_6 rfl (fun zq0 => ?_) (fun zq0 => ?_)
  · exfalso; revert zq0; decide
  refine gj_iload_n dX10_ward_9 rfl ?_
  refine gj_ic (w := 0) dX10_ward_10 ?_
  refine gj_bp 99 dX10_ward_11 (by decide) ?_
  refine gj_S1 lkX10_65 (ev_X10_within_t (by omega) (by omega) (by omega)) dX10_ward_13 rfl rfl rfl rfl rfl ?_
  refine gj_if_neN (tgt := 24) (by omega) dX10_ward_16 rfl (fun zq0 => ?_) (fun zq0 => ?_)
  rotate_left
  · exfalso; revert zq0; decide
  refine gj_aload_n dX10_ward_24 rfl ?_
  refine gfX10_10 rfl dX10_ward_25 (hc0 κ C) rfl ?_
  refine gfX10_130 rfl dX10_ward_28 (hc20 κ C) rfl ?_
  refine gj_iload_n dX10_ward_31 rfl ?_
  refine gj_ialdN dX10_ward_32 (hc38 κ C) (by omega) (by omega) ?_
  have hb1 := (show ∀ c, C 38 c ≤ 99 from I.1 18 (by decide)) w
  refine gj_istore_n (L' := [some (.ref 0), some (.int (nI w)), some (.int (nI x)), some (.int (nI (C 38 w)))]) dX10_ward_33 (Nat.le_of_ble_eq_true rfl) rfl ?_
  refine gj_aload_n dX10_ward_34 rfl ?_
  refine gfX10_10 rfl dX10_ward_35 (hc0 κ C) rfl ?_
  refine gfX10_130 rfl dX10_ward_38 (hc20 κ C) rfl ?_
  refine gj_iload_n dX10_ward_41 rfl ?_
  refine gj_iload_n dX10_ward_42 rfl ?_
  refine gj_iastN dX10_ward_43 (hc38 κ C) (by omega) (by omega) ?_
  refine gj_aload_n dX10_ward_44 rfl ?_
  refine gfX10_10 rfl dX10_ward_45 ((mj_up_ne (by decide)).trans (hc0 κ C)) rfl ?_
  refine gfX10_102 rfl dX10_ward_48 ((mj_up_ne (by decide)).trans (hc20 κ C)) rfl ?_
  refine gj_V0 lkX10_106 ((mj_up_ne (by decide)).trans (hc35 κ C)) rfl rfl (ev_X2_empty ((mj_up_ne (by decide)).trans (hc35 κ C)) ((mj_up_ne (by decide)).trans (hc36 κ C)) ((mj_up_ne (by decide)).trans (hc37 κ C)) (by decide)) dX10_ward_51 rfl rfl rfl rfl rfl ?_
  refine gj_iload_n dX10_ward_54 rfl ?_
  exact gj_ir rfl dX10_ward_55 rfl rfl (hu35 (hu38 rfl))
set_option maxHeartbeats 1000000 in
set_option maxRecDepth 10000 in
theorem ev_X10_voter {E : mj_E} {κ : Nat → Bool} {C : Nat → Nat → Nat} (I : mj_CI κ C) {k w c : Nat} (h0 : k ≤ 5) (h1 : 1 ≤ w) (h2 : w ≤ 99) (h3 : c < 25) (h4 : C 27 0 < 7) : mj_Ev E iX10_voter [.ref 0, .int (nI k), .int (nI w), .int (nI c)] (hh κ C) (mj_R (some (.int (nI (((C 27 0) + 1) - 1)))) (hh κ (mj_u (mj_u (mj_u (mj_u (mj_u C 28 (mj_un (C 28) (C 27 0) k)) 29 (mj_un (C 29) (C 27 0) w)) 30 (mj_un (C 30) (C 27 0) c)) 27 (mj_row [(C 27 0) + 1])) 35 (mj_row [0])))) := by
  have hl0 : C 20 0 ≤ 999 := I.1 0 (by decide) 0
  have hl7 : C 27 0 ≤ 7 := I.1 7 (by decide) 0
  have hl11 : C 31 0 ≤ 6 := I.1 11 (by decide) 0
  have hl13 : C 33 0 ≤ 6 := I.1 13 (by decide) 0
  have hl15 : C 35 0 ≤ 8 := I.1 15 (by decide) 0
  have hl7x : C 7 0 ≤ 150 := I.2.2.2.2.2.2.1
  refine mj_Ev.of (L0 := [some (.ref 0), some (.int (nI k)), some (.int (nI w)), some (.int (nI c))]) pnRX10 (Nat.le_of_ble_eq_true rfl) rfl ?_
  refine gj_iload_n dX10_voter_0 rfl ?_
  refine gj_ic (w := 0) dX10_voter_1 ?_
  refine gj_ic (w := 5) dX10_voter_2 ?_
  refine gj_S1 lkX10_65 (ev_X10_within_t (by omega) (by omega) (by omega)) dX10_voter_3 rfl rfl rfl rfl rfl ?_
  refine gj_if_eqN (tgt := 26) (by omega) dX10_voter_6 rfl (fun zq0 => ?_) (fun zq0 => ?_)
  · exfalso; revert zq0; decide
  refine gj_iload_n dX10_voter_9 rfl ?_
  refine gj_ic (w := 1) dX10_voter_10 ?_
  refine gj_bp 99 dX10_voter_11 (by decide) ?_
  refine gj_S1 lkX10_65 (ev_X10_within_t (by omega) (by omega) (by omega)) dX10_voter_13 rfl rfl rfl rfl rfl ?_
  refine gj_if_eqN (tgt := 26) (by omega) dX10_voter_16 rfl (fun zq0 => ?_) (fun zq0 => ?_)
  · exfalso; revert zq0; decide
  refine gj_iload_n dX10_voter_19 rfl ?_
  refine gj_S1 lkX10_87 (ev_X10_isCell_t (by omega) (by omega)) dX10_voter_20 rfl rfl rfl rfl rfl ?_
  refine gj_if_neN (tgt := 31) (by omega) dX10_voter_23 rfl (fun zq0 => ?_) (fun zq0 => ?_)
  rotate_left
  · exfalso; revert zq0; decide
  refine gj_aload_n dX10_voter_31 rfl ?_
  refine gfX10_10 rfl dX10_voter_32 (hc0 κ C) rfl ?_
  refine gfX10_73 rfl dX10_voter_35 (hc20 κ C) rfl ?_
  refine gfX10_77 rfl dX10_voter_38 (hc27 κ C) rfl ?_
  refine gj_bp 7 dX10_voter_41 (by decide) ?_
  refine gj_icmp_ltN (tgt := 51) (by omega) (by omega) dX10_voter_43 rfl (fun zq1 => ?_) (fun zq1 => ?_)
  rotate_left
  · exfalso; omega
  refine gj_aload_n dX10_voter_51 rfl ?_
  refine gfX10_10 rfl dX10_voter_52 (hc0 κ C) rfl ?_
  refine gfX10_73 rfl dX10_voter_55 (hc20 κ C) rfl ?_
  refine gj_iload_n dX10_voter_58 rfl ?_
  refine gj_iload_n dX10_voter_59 rfl ?_
  refine gj_iload_n dX10_voter_60 rfl ?_
  refine gj_V0 lkX10_136 (hc27 κ C) rfl rfl (ev_X7_add ⟨(hc27 κ C), (hc28 κ C), (hc29 κ C), (hc30 κ C), (by omega), (show ∀ c, C 28 c ≤ 5 from I.1 8 (by decide)), (show ∀ c, C 29 c ≤ 99 from I.1 9 (by decide)), (show ∀ c, C 30 c ≤ 24 from I.1 10 (by decide))⟩ (by omega) ⟨(by decide), (by decide), (by decide)⟩) dX10_voter_61 rfl rfl rfl rfl rfl ?_
  refine gj_aload_n dX10_voter_64 rfl ?_
  refine gfX10_10 rfl dX10_voter_65 ((mj_up_ne (by decide)).trans ((mj_up_ne (by decide)).trans ((mj_up_ne (by decide)).trans ((mj_up_ne (by decide)).trans (hc0 κ C))))) rfl ?_
  refine gfX10_102 rfl dX10_voter_68 ((mj_up_ne (by decide)).trans ((mj_up_ne (by decide)).trans ((mj_up_ne (by decide)).trans ((mj_up_ne (by decide)).trans (hc20 κ C))))) rfl ?_
  refine gj_V0 lkX10_106 ((mj_up_ne (by decide)).trans ((mj_up_ne (by decide)).trans ((mj_up_ne (by decide)).trans ((mj_up_ne (by decide)).trans (hc35 κ C))))) rfl rfl (ev_X2_empty ((mj_up_ne (by decide)).trans ((mj_up_ne (by decide)).trans ((mj_up_ne (by decide)).trans ((mj_up_ne (by decide)).trans (hc35 κ C))))) ((mj_up_ne (by decide)).trans ((mj_up_ne (by decide)).trans ((mj_up_ne (by decide)).trans ((mj_up_ne (by decide)).trans (hc36 κ C))))) ((mj_up_ne (by decide)).trans ((mj_up_ne (by decide)).trans ((mj_up_ne (by decide)).trans ((mj_up_ne (by decide)).trans (hc37 κ C))))) (by decide)) dX10_voter_71 rfl rfl rfl rfl rfl ?_
  refine gj_aload_n dX10_voter_74 rfl ?_
  refine gfX10_10 rfl dX10_voter_75 ((mj_up_ne (by decide)).trans ((mj_up_ne (by decide)).trans ((mj_up_ne (by decide)).trans ((mj_up_ne (by decide)).trans ((mj_up_ne (by decide)).trans (hc0 κ C)))))) rfl ?_
  refine gfX10_73 rfl dX10_voter_78 ((mj_up_ne (by decide)).trans ((mj_up_ne (by decide)).trans ((mj_up_ne (by decide)).trans ((mj_up_ne (by decide)).trans ((mj_up_ne (by decide)).trans (hc20 κ C)))))) rfl ?_
  refine gfX10_77 rfl dX10_voter_81 ((mj_up_ne (by decide)).trans (mj_up_eq _ _ _)) rfl ?_
  refine gj_ic (w := 1) dX10_voter_84 ?_
  refine gj_isubN (by omega) dX10_voter_85 ?_
  exact gj_ir rfl dX10_voter_86 rfl rfl (hu35 (hu27 (hu30 (hu29 (hu28 rfl)))))
set_option maxHeartbeats 1000000 in
set_option maxRecDepth 10000 in
theorem ev_X10_voter_full {E : mj_E} {κ : Nat → Bool} {C : Nat → Nat → Nat} (I : mj_CI κ C) {k w c : Nat} (h0 : k ≤ 5) (h1 : 1 ≤ w) (h2 : w ≤ 99) (h3 : c < 25) (h4 : C 27 0 = 7) : mj_Ev E iX10_voter [.ref 0, .int (nI k), .int (nI w), .int (nI c)] (hh κ C) (mj_R (some (.int (-4))) (hh κ (mj_u C 11 (mj_un (C 11) 2 ((C 11 2) + 1))))) := by
  have hl0 : C 20 0 ≤ 999 := I.1 0 (by decide) 0
  have hl7 : C 27 0 ≤ 7 := I.1 7 (by decide) 0
  have hl11 : C 31 0 ≤ 6 := I.1 11 (by decide) 0
  have hl13 : C 33 0 ≤ 6 := I.1 13 (by decide) 0
  have hl15 : C 35 0 ≤ 8 := I.1 15 (by decide) 0
  have hl7x : C 7 0 ≤ 150 := I.2.2.2.2.2.2.1
  refine mj_Ev.of (L0 := [some (.ref 0), some (.int (nI k)), some (.int (nI w)), some (.int (nI c))]) pnRX10 (Nat.le_of_ble_eq_true rfl) rfl ?_
  refine gj_iload_n dX10_voter_0 rfl ?_
  refine gj_ic (w := 0) dX10_voter_1 ?_
  refine gj_ic (w := 5) dX10_voter_2 ?_
  refine gj_S1 lkX10_65 (ev_X10_within_t (by omega) (by omega) (by omega)) dX10_voter_3 rfl rfl rfl rfl rfl ?_
  refine gj_if_eqN (tgt := 26) (by omega) dX10_voter_6 rfl (fun zq0 => ?_) (fun zq0 => ?_)
  · exfalso; revert zq0; decide
  refine gj_iload_n dX10_voter_9 rfl ?_
  refine gj_ic (w := 1) dX10_voter_10 ?_
  refine gj_bp 99 dX10_voter_11 (by decide) ?_
  refine gj_S1 lkX10_65 (ev_X10_within_t (by omega) (by omega) (by omega)) dX10_voter_13 rfl rfl rfl rfl rfl ?_
  refine gj_if_eqN (tgt := 26) (by omega) dX10_voter_16 rfl (fun zq0 => ?_) (fun zq0 => ?_)
  · exfalso; revert zq0; decide
  refine gj_iload_n dX10_voter_19 rfl ?_
  refine gj_S1 lkX10_87 (ev_X10_isCell_t (by omega) (by omega)) dX10_voter_20 rfl rfl rfl rfl rfl ?_
  refine gj_if_neN (tgt := 31) (by omega) dX10_voter_23 rfl (fun zq0 => ?_) (fun zq0 => ?_)
  rotate_left
  · exfalso; revert zq0; decide
  refine gj_aload_n dX10_voter_31 rfl ?_
  refine gfX10_10 rfl dX10_voter_32 (hc0 κ C) rfl ?_
  refine gfX10_73 rfl dX10_voter_35 (hc20 κ C) rfl ?_
  refine gfX10_77 rfl dX10_voter_38 (hc27 κ C) rfl ?_
  refine gj_bp 7 dX10_voter_41 (by decide) ?_
  refine gj_icmp_ltN (tgt := 51) (by omega) (by omega) dX10_voter_43 rfl (fun zq1 => ?_) (fun zq1 => ?_)
  · exfalso; omega
  refine gj_aload_n dX10_voter_46 rfl ?_
  refine gj_V1 lkX10_133 (hc0 κ C) rfl rfl (ev_X10_full I) dX10_voter_47 rfl rfl rfl rfl rfl ?_
  exact gj_ir rfl dX10_voter_50 rfl rfl rfl
set_option maxHeartbeats 1000000 in
set_option maxRecDepth 10000 in
theorem ev_X5_add {E : mj_E} {h : mj_H} {a bA z tA sA y x p : Nat} {B : Nat → Nat} (Ha : h a = some (.inr (4, [.ref bA, .int (nI z), .ref tA, .ref sA, .int (nI y), .int (nI x)]))) (Hb : h bA = some (mj_ar 150 B)) (hz : z < 150) : mj_Ev E iX5_add [.ref a, .int (nI p)] h (mj_R none (mj_up (mj_up h bA (mj_ar 150 (mj_un B z p))) a (.inr (4, [.ref bA, .int (nI (z + 1)), .ref tA, .ref sA, .int (nI y), .int (nI x)])))) := by
  refine mj_Ev.of (L0 := [some (.ref a), some (.int (nI p))]) pnRX5 (Nat.le_of_ble_eq_true rfl) rfl ?_
  refine gj_aload_n dX5_add_0 rfl ?_
  refine gfX5_15 rfl dX5_add_1 Ha rfl ?_
  refine gj_ic (w := 0) dX5_add_4 ?_
  refine gj_sp 149 dX5_add_5 (by decide) ?_
  refine gj_N1 lkX5_31 (ev_X10_within_t (by omega) (by omega) (by omega)) dX5_add_8 rfl rfl rfl rfl rfl ?_
  refine gj_if_eqN (tgt := 34) (by omega) dX5_add_11 rfl (fun zq0 => ?_) (fun zq0 => ?_)
  · exfalso; revert zq0; decide
  refine gj_aload_n dX5_add_14 rfl ?_
  refine gfX5_9 rfl dX5_add_15 Ha rfl ?_
  refine gj_aload_n dX5_add_18 rfl ?_
  refine gfX5_15 rfl dX5_add_19 Ha rfl ?_
  refine gj_iload_n dX5_add_22 rfl ?_
  refine gj_iastN dX5_add_23 Hb (by omega) (by omega) ?_
  refine gj_aload_n dX5_add_24 rfl ?_
  refine gj_dup dX5_add_25 rfl ?_
  refine gfX5_15 rfl dX5_add_26 ((mj_up_ne (mj_neOA Ha Hb)).trans Ha) rfl ?_
  refine gj_ic (w := 1) dX5_add_29 ?_
  refine gj_iaddN  dX5_add_30 ?_
  refine pfX5_15 rfl dX5_add_31 ((mj_up_ne (mj_neOA Ha Hb)).trans Ha) (Nat.le_of_ble_eq_true rfl) ?_
  show gj _ _ _ _ _ _ _ _ (mj_up (mj_up h bA (mj_ar 150 (mj_un B z p))) a (.inr (4, [.ref bA, .int (nI (z + 1)), .ref tA, .ref sA, .int (nI y), .int (nI x)])))
  exact gj_vr rfl dX5_add_34 rfl
set_option maxHeartbeats 1000000 in
set_option maxRecDepth 10000 in
theorem ev_X10_type {E : mj_E} {κ : Nat → Bool} {C : Nat → Nat → Nat} (I : mj_CI κ C) {c : Nat} (h0 : c ≤ 127) (h1 : C 7 0 < 150) : mj_Ev E iX10_type [.ref 0, .int (nI c)] (hh κ C) (mj_R (some (.int (nI ((C 7 0) + 1)))) (hh κ (mj_u (mj_u C 8 (mj_un (C 8) (C 7 0) c)) 7 (mj_row [(C 7 0) + 1, C 7 1, C 7 2])))) := by
  have hl0 : C 20 0 ≤ 999 := I.1 0 (by decide) 0
  have hl7 : C 27 0 ≤ 7 := I.1 7 (by decide) 0
  have hl11 : C 31 0 ≤ 6 := I.1 11 (by decide) 0
  have hl13 : C 33 0 ≤ 6 := I.1 13 (by decide) 0
  have hl15 : C 35 0 ≤ 8 := I.1 15 (by decide) 0
  have hl7x : C 7 0 ≤ 150 := I.2.2.2.2.2.2.1
  refine mj_Ev.of (L0 := [some (.ref 0), some (.int (nI c))]) pnRX10 (Nat.le_of_ble_eq_true rfl) rfl ?_
  refine gj_iload_n dX10_type_0 rfl ?_
  refine gj_ic (w := 0) dX10_type_1 ?_
  refine gj_bp 127 dX10_type_2 (by decide) ?_
  refine gj_S1 lkX10_65 (ev_X10_within_t (by omega) (by omega) (by omega)) dX10_type_4 rfl rfl rfl rfl rfl ?_
  refine gj_if_neN (tgt := 15) (by omega) dX10_type_7 rfl (fun zq0 => ?_) (fun zq0 => ?_)
  rotate_left
  · exfalso; revert zq0; decide
  refine gj_aload_n dX10_type_15 rfl ?_
  refine gfX10_40 rfl dX10_type_16 (hc0 κ C) rfl ?_
  refine gfX10_139 rfl dX10_type_19 (hc7 κ C) rfl ?_
  refine gj_sp 150 dX10_type_22 (by decide) ?_
  refine gj_icmp_ltN (tgt := 33) (by omega) (by omega) dX10_type_25 rfl (fun zq1 => ?_) (fun zq1 => ?_)
  rotate_left
  · exfalso; omega
  refine gj_aload_n dX10_type_33 rfl ?_
  refine gfX10_40 rfl dX10_type_34 (hc0 κ C) rfl ?_
  refine gj_iload_n dX10_type_37 rfl ?_
  refine gj_V0 lkX10_142 (hc7 κ C) rfl rfl (ev_X5_add (hc7 κ C) (hc8 κ C) (by omega)) dX10_type_38 rfl rfl rfl rfl rfl ?_
  refine gj_aload_n dX10_type_41 rfl ?_
  refine gfX10_40 rfl dX10_type_42 ((mj_up_ne (by decide)).trans ((mj_up_ne (by decide)).trans (hc0 κ C))) rfl ?_
  refine gfX10_139 rfl dX10_type_45 (mj_up_eq _ _ _) rfl ?_
  exact gj_ir rfl dX10_type_48 rfl rfl (hu7 (hu8 rfl))
set_option maxHeartbeats 1000000 in
set_option maxRecDepth 10000 in
theorem ev_X10_type_full {E : mj_E} {κ : Nat → Bool} {C : Nat → Nat → Nat} (I : mj_CI κ C) {c : Nat} (h0 : c ≤ 127) (h1 : C 7 0 = 150) : mj_Ev E iX10_type [.ref 0, .int (nI c)] (hh κ C) (mj_R (some (.int (-4))) (hh κ (mj_u C 11 (mj_un (C 11) 2 ((C 11 2) + 1))))) := by
  have hl0 : C 20 0 ≤ 999 := I.1 0 (by decide) 0
  have hl7 : C 27 0 ≤ 7 := I.1 7 (by decide) 0
  have hl11 : C 31 0 ≤ 6 := I.1 11 (by decide) 0
  have hl13 : C 33 0 ≤ 6 := I.1 13 (by decide) 0
  have hl15 : C 35 0 ≤ 8 := I.1 15 (by decide) 0
  have hl7x : C 7 0 ≤ 150 := I.2.2.2.2.2.2.1
  refine mj_Ev.of (L0 := [some (.ref 0), some (.int (nI c))]) pnRX10 (Nat.le_of_ble_eq_true rfl) rfl ?_
  refine gj_iload_n dX10_type_0 rfl ?_
  refine gj_ic (w := 0) dX10_type_1 ?_
  refine gj_bp 127 dX10_type_2 (by decide) ?_
  refine gj_S1 lkX10_65 (ev_X10_within_t (by omega) (by omega) (by omega)) dX10_type_4 rfl rfl rfl rfl rfl ?_
  refine gj_if_neN (tgt := 15) (by omega) dX10_type_7 rfl (fun zq0 => ?_) (fun zq0 => ?_)
  rotate_left
  · exfalso; revert zq0; decide
  refine gj_aload_n dX10_type_15 rfl ?_
  refine gfX10_40 rfl dX10_type_16 (hc0 κ C) rfl ?_
  refine gfX10_139 rfl dX10_type_19 (hc7 κ C) rfl ?_
  refine gj_sp 150 dX10_type_22 (by decide) ?_
  refine gj_icmp_ltN (tgt := 33) (by omega) (by omega) dX10_type_25 rfl (fun zq1 => ?_) (fun zq1 => ?_)
  · exfalso; omega
  refine gj_aload_n dX10_type_28 rfl ?_
  refine gj_V1 lkX10_133 (hc0 κ C) rfl rfl (ev_X10_full I) dX10_type_29 rfl rfl rfl rfl rfl ?_
  exact gj_ir rfl dX10_type_32 rfl rfl rfl
set_option maxHeartbeats 1000000 in
set_option maxRecDepth 10000 in
theorem ev_X10_clear {E : mj_E} {κ : Nat → Bool} {C : Nat → Nat → Nat} (I : mj_CI κ C)  : mj_Ev E iX10_clear [.ref 0] (hh κ C) (mj_R (some (.int (nI (C 7 0)))) (hh κ (mj_u C 7 (mj_row [0, C 7 1, C 7 2])))) := by
  have hl0 : C 20 0 ≤ 999 := I.1 0 (by decide) 0
  have hl7 : C 27 0 ≤ 7 := I.1 7 (by decide) 0
  have hl11 : C 31 0 ≤ 6 := I.1 11 (by decide) 0
  have hl13 : C 33 0 ≤ 6 := I.1 13 (by decide) 0
  have hl15 : C 35 0 ≤ 8 := I.1 15 (by decide) 0
  have hl7x : C 7 0 ≤ 150 := I.2.2.2.2.2.2.1
  refine mj_Ev.of (L0 := [some (.ref 0), none]) pnRX10 (Nat.le_of_ble_eq_true rfl) rfl ?_
  refine gj_aload_n dX10_clear_0 rfl ?_
  refine gfX10_40 rfl dX10_clear_1 (hc0 κ C) rfl ?_
  refine gfX10_139 rfl dX10_clear_4 (hc7 κ C) rfl ?_
  refine gj_istore_n (L' := [some (.ref 0), some (.int (nI (C 7 0)))]) dX10_clear_7 (Nat.le_of_ble_eq_true rfl) rfl ?_
  refine gj_aload_n dX10_clear_8 rfl ?_
  refine gfX10_40 rfl dX10_clear_9 (hc0 κ C) rfl ?_
  refine gj_ic (w := 0) dX10_clear_12 ?_
  refine pfX10_139 rfl dX10_clear_13 (hc7 κ C) (Nat.le_of_ble_eq_true rfl) ?_
  show gj _ _ _ _ _ _ _ _ (mj_up (hh κ C) 7 (.inr (4, [.ref 8, .int (nI 0), .ref 9, .ref 10, .int (nI (C 7 1)), .int (nI (C 7 2))])))
  refine gj_iload_n dX10_clear_16 rfl ?_
  exact gj_ir rfl dX10_clear_17 rfl rfl (hu7 rfl)
set_option maxHeartbeats 1000000 in
set_option maxRecDepth 10000 in
theorem ev_X10_day {E : mj_E} {κ : Nat → Bool} {C : Nat → Nat → Nat} (I : mj_CI κ C) {m : Nat} (h0 : 1 ≤ m) (h1 : m ≤ 60) : mj_Ev E iX10_day [.ref 0, .int (nI m)] (hh κ C) (mj_R (some (.int (nI (sp_sum (sp_days (C 22) (C 25) (C 26) (C 20 0) (C 23) (min m (999 - (C 20 0)))) 25)))) (hh κ (mj_u (mj_u (mj_u (mj_u (mj_u C 36 (sp_ki (C 36) (C 23) (C 35 0))) 37 (sp_kd (C 37) (C 35 0) (C 20 0))) 35 (mj_row [sp_kz (C 35 0)])) 23 (sp_days (C 22) (C 25) (C 26) (C 20 0) (C 23) (min m (999 - (C 20 0))))) 20 (mj_row [(C 20 0) + (min m (999 - (C 20 0)))])))) := by
  have hl0 : C 20 0 ≤ 999 := I.1 0 (by decide) 0
  have hl7 : C 27 0 ≤ 7 := I.1 7 (by decide) 0
  have hl11 : C 31 0 ≤ 6 := I.1 11 (by decide) 0
  have hl13 : C 33 0 ≤ 6 := I.1 13 (by decide) 0
  have hl15 : C 35 0 ≤ 8 := I.1 15 (by decide) 0
  have hl7x : C 7 0 ≤ 150 := I.2.2.2.2.2.2.1
  refine mj_Ev.of (L0 := [some (.ref 0), some (.int (nI m))]) pnRX10 (Nat.le_of_ble_eq_true rfl) rfl ?_
  refine gj_iload_n dX10_day_0 rfl ?_
  refine gj_ic (w := 1) dX10_day_1 ?_
  refine gj_bp 60 dX10_day_2 (by decide) ?_
  refine gj_S1 lkX10_65 (ev_X10_within_t (by omega) (by omega) (by omega)) dX10_day_4 rfl rfl rfl rfl rfl ?_
  refine gj_if_neN (tgt := 15) (by omega) dX10_day_7 rfl (fun zq0 => ?_) (fun zq0 => ?_)
  rotate_left
  · exfalso; revert zq0; decide
  refine gj_aload_n dX10_day_15 rfl ?_
  refine gfX10_10 rfl dX10_day_16 (hc0 κ C) rfl ?_
  refine gj_V0 lkX10_152 (hc20 κ C) rfl rfl (ev_X1_keepPast (hc20 κ C) ⟨(hc21 κ C), (hc22 κ C), (hc23 κ C), (by decide), (show ∀ c, C 22 c ≤ 5 from I.1 2 (by decide)), (show ∀ c, C 23 c ≤ 99 from I.1 3 (by decide))⟩ ⟨(hc24 κ C), (hc25 κ C), (hc26 κ C), (by decide), (show ∀ c, C 25 c ≤ 9 from I.1 5 (by decide)), (show ∀ c, C 26 c ≤ 9 from I.1 6 (by decide))⟩ (by omega) (hc35 κ C) (hc36 κ C) (hc37 κ C) (by omega) (by decide) (by decide) (by decide) (by decide) (show ∀ c, C 36 c ≤ 99 from I.1 16 (by decide)) (show ∀ c, C 37 c ≤ 999 from I.1 17 (by decide)) (by omega)) dX10_day_19 rfl rfl rfl rfl rfl ?_
  refine gj_aload_n dX10_day_22 rfl ?_
  refine gfX10_10 rfl dX10_day_23 ((mj_up_ne (by decide)).trans ((mj_up_ne (by decide)).trans ((mj_up_ne (by decide)).trans (hc0 κ C)))) rfl ?_
  refine gj_iload_n dX10_day_26 rfl ?_
  refine gj_V0 lkX10_155 ((mj_up_ne (by decide)).trans ((mj_up_ne (by decide)).trans ((mj_up_ne (by decide)).trans (hc20 κ C)))) rfl rfl (ev_X1_passDays ((mj_up_ne (by decide)).trans ((mj_up_ne (by decide)).trans ((mj_up_ne (by decide)).trans (hc20 κ C)))) ⟨((mj_up_ne (by decide)).trans ((mj_up_ne (by decide)).trans ((mj_up_ne (by decide)).trans (hc21 κ C)))), ((mj_up_ne (by decide)).trans ((mj_up_ne (by decide)).trans ((mj_up_ne (by decide)).trans (hc22 κ C)))), ((mj_up_ne (by decide)).trans ((mj_up_ne (by decide)).trans ((mj_up_ne (by decide)).trans (hc23 κ C)))), (by decide), (show ∀ c, C 22 c ≤ 5 from I.1 2 (by decide)), (show ∀ c, C 23 c ≤ 99 from I.1 3 (by decide))⟩ ⟨((mj_up_ne (by decide)).trans ((mj_up_ne (by decide)).trans ((mj_up_ne (by decide)).trans (hc24 κ C)))), ((mj_up_ne (by decide)).trans ((mj_up_ne (by decide)).trans ((mj_up_ne (by decide)).trans (hc25 κ C)))), ((mj_up_ne (by decide)).trans ((mj_up_ne (by decide)).trans ((mj_up_ne (by decide)).trans (hc26 κ C)))), (by decide), (show ∀ c, C 25 c ≤ 9 from I.1 5 (by decide)), (show ∀ c, C 26 c ≤ 9 from I.1 6 (by decide))⟩ (by omega) (by omega)) dX10_day_27 rfl rfl rfl rfl rfl ?_
  refine gj_aload_n dX10_day_30 rfl ?_
  refine gfX10_10 rfl dX10_day_31 ((mj_up_ne (by decide)).trans ((mj_up_ne (by decide)).trans ((mj_up_ne (by decide)).trans ((mj_up_ne (by decide)).trans ((mj_up_ne (by decide)).trans (hc0 κ C)))))) rfl ?_
  refine gfX10_91 rfl dX10_day_34 (mj_up_eq _ _ _) rfl ?_
  refine gj_V1 lkX10_158 ((mj_up_ne (by decide)).trans ((mj_up_ne (by decide)).trans ((mj_up_ne (by decide)).trans ((mj_up_ne (by decide)).trans ((mj_up_ne (by decide)).trans (hc21 κ C)))))) rfl rfl (ev_X4_together ⟨((mj_up_ne (by decide)).trans ((mj_up_ne (by decide)).trans ((mj_up_ne (by decide)).trans ((mj_up_ne (by decide)).trans ((mj_up_ne (by decide)).trans (hc21 κ C)))))), ((mj_up_ne (by decide)).trans ((mj_up_ne (by decide)).trans ((mj_up_ne (by decide)).trans ((mj_up_ne (by decide)).trans ((mj_up_ne (by decide)).trans (hc22 κ C)))))), ((mj_up_ne (by decide)).trans (mj_up_eq _ _ _)), (by decide), (show ∀ c, C 22 c ≤ 5 from I.1 2 (by decide)), (fun c => sp_icem_le ((show ∀ c, C 23 c ≤ 99 from I.1 3 (by decide)) c))⟩) dX10_day_37 rfl rfl rfl rfl rfl ?_
  exact gj_ir rfl dX10_day_40 rfl rfl (hu20 (hu23 (hu35 (hu37 (hu36 rfl)))))
set_option maxHeartbeats 1000000 in
set_option maxRecDepth 10000 in
theorem ev_X10_tread_1 {E : mj_E} {κ : Nat → Bool} {C : Nat → Nat → Nat} (I : mj_CI κ C) {c w : Nat} (h0 : c < 25) (h1 : 1 ≤ w) (h2 : w ≤ 99) (h3 : w ≤ sp_bear (C 22 c) (C 23 c)) : mj_Ev E iX10_tread [.ref 0, .int (nI c), .int (nI w)] (hh κ C) (mj_R (some (.int (nI 1))) (hh κ (mj_u (mj_u (mj_u (mj_u C 36 (sp_ki (C 36) (C 23) (C 35 0))) 37 (sp_kd (C 37) (C 35 0) (C 20 0))) 35 (mj_row [sp_kz (C 35 0)])) 23 (mj_un (C 23) c ((C 23 c) - 1))))) := by
  have hl0 : C 20 0 ≤ 999 := I.1 0 (by decide) 0
  have hl7 : C 27 0 ≤ 7 := I.1 7 (by decide) 0
  have hl11 : C 31 0 ≤ 6 := I.1 11 (by decide) 0
  have hl13 : C 33 0 ≤ 6 := I.1 13 (by decide) 0
  have hl15 : C 35 0 ≤ 8 := I.1 15 (by decide) 0
  have hl7x : C 7 0 ≤ 150 := I.2.2.2.2.2.2.1
  refine mj_Ev.of (L0 := [some (.ref 0), some (.int (nI c)), some (.int (nI w)), none]) pnRX10 (Nat.le_of_ble_eq_true rfl) rfl ?_
  refine gj_iload_n dX10_tread_0 rfl ?_
  refine gj_S1 lkX10_87 (ev_X10_isCell_t (by omega) (by omega)) dX10_tread_1 rfl rfl rfl rfl rfl ?_
  refine gj_if_eqN (tgt := 17) (by omega) dX10_tread_4 rfl (fun zq0 => ?_) (fun zq0 => ?_)
  · exfalso; revert zq0; decide
  refine gj_iload_n dX10_tread_7 rfl ?_
  refine gj_ic (w := 1) dX10_tread_8 ?_
  refine gj_bp 99 dX10_tread_9 (by decide) ?_
  refine gj_S1 lkX10_65 (ev_X10_within_t (by omega) (by omega) (by omega)) dX10_tread_11 rfl rfl rfl rfl rfl ?_
  refine gj_if_neN (tgt := 22) (by omega) dX10_tread_14 rfl (fun zq0 => ?_) (fun zq0 => ?_)
  rotate_left
  · exfalso; revert zq0; decide
  refine gj_aload_n dX10_tread_22 rfl ?_
  refine gfX10_10 rfl dX10_tread_23 (hc0 κ C) rfl ?_
  refine gfX10_91 rfl dX10_tread_26 (hc20 κ C) rfl ?_
  refine gj_iload_n dX10_tread_29 rfl ?_
  refine gj_V1 lkX10_161 (hc21 κ C) rfl rfl (ev_X4_bears ⟨(hc21 κ C), (hc22 κ C), (hc23 κ C), (by decide), (show ∀ c, C 22 c ≤ 5 from I.1 2 (by decide)), (show ∀ c, C 23 c ≤ 99 from I.1 3 (by decide))⟩ (by omega)) dX10_tread_30 rfl rfl rfl rfl rfl ?_
  have hb1 := @sp_bear_le (C 22 c) (C 23 c)
  have hb2 := (show ∀ c, C 23 c ≤ 99 from I.1 3 (by decide)) c
  refine gj_iload_n dX10_tread_33 rfl ?_
  refine gj_icmp_ltN (tgt := 41) (by omega) (by omega) dX10_tread_34 rfl (fun zq3 => ?_) (fun zq3 => ?_)
  · exfalso; omega
  refine gj_ic (w := 1) dX10_tread_37 ?_
  refine gj_goto (tgt := 42) dX10_tread_38 rfl ?_
  refine gj_istore_n (L' := [some (.ref 0), some (.int (nI c)), some (.int (nI w)), some (.int (nI 1))]) dX10_tread_42 (Nat.le_of_ble_eq_true rfl) rfl ?_
  refine gj_aload_n dX10_tread_43 rfl ?_
  refine gfX10_10 rfl dX10_tread_44 (hc0 κ C) rfl ?_
  refine gj_V0 lkX10_152 (hc20 κ C) rfl rfl (ev_X1_keepPast (hc20 κ C) ⟨(hc21 κ C), (hc22 κ C), (hc23 κ C), (by decide), (show ∀ c, C 22 c ≤ 5 from I.1 2 (by decide)), (show ∀ c, C 23 c ≤ 99 from I.1 3 (by decide))⟩ ⟨(hc24 κ C), (hc25 κ C), (hc26 κ C), (by decide), (show ∀ c, C 25 c ≤ 9 from I.1 5 (by decide)), (show ∀ c, C 26 c ≤ 9 from I.1 6 (by decide))⟩ (by omega) (hc35 κ C) (hc36 κ C) (hc37 κ C) (by omega) (by decide) (by decide) (by decide) (by decide) (show ∀ c, C 36 c ≤ 99 from I.1 16 (by decide)) (show ∀ c, C 37 c ≤ 999 from I.1 17 (by decide)) (by omega)) dX10_tread_47 rfl rfl rfl rfl rfl ?_
  refine gj_aload_n dX10_tread_50 rfl ?_
  refine gfX10_10 rfl dX10_tread_51 ((mj_up_ne (by decide)).trans ((mj_up_ne (by decide)).trans ((mj_up_ne (by decide)).trans (hc0 κ C)))) rfl ?_
  refine gfX10_91 rfl dX10_tread_54 ((mj_up_ne (by decide)).trans ((mj_up_ne (by decide)).trans ((mj_up_ne (by decide)).trans (hc20 κ C)))) rfl ?_
  refine gj_iload_n dX10_tread_57 rfl ?_
  refine gj_iload_n dX10_tread_58 rfl ?_
  refine gj_if_eqN (tgt := 82) (by omega) dX10_tread_59 rfl (fun zq0 => ?_) (fun zq0 => ?_)
  · exfalso; revert zq0; decide
  refine gj_ic (w := 0) dX10_tread_62 ?_
  refine gj_aload_n dX10_tread_63 rfl ?_
  refine gfX10_10 rfl dX10_tread_64 ((mj_up_ne (by decide)).trans ((mj_up_ne (by decide)).trans ((mj_up_ne (by decide)).trans (hc0 κ C)))) rfl ?_
  refine gfX10_91 rfl dX10_tread_67 ((mj_up_ne (by decide)).trans ((mj_up_ne (by decide)).trans ((mj_up_ne (by decide)).trans (hc20 κ C)))) rfl ?_
  refine gj_iload_n dX10_tread_70 rfl ?_
  refine gj_V1 lkX10_164 ((mj_up_ne (by decide)).trans ((mj_up_ne (by decide)).trans ((mj_up_ne (by decide)).trans (hc21 κ C)))) rfl rfl (ev_X4_iceOf ⟨((mj_up_ne (by decide)).trans ((mj_up_ne (by decide)).trans ((mj_up_ne (by decide)).trans (hc21 κ C)))), ((mj_up_ne (by decide)).trans ((mj_up_ne (by decide)).trans ((mj_up_ne (by decide)).trans (hc22 κ C)))), ((mj_up_ne (by decide)).trans ((mj_up_ne (by decide)).trans ((mj_up_ne (by decide)).trans (hc23 κ C)))), (by decide), (show ∀ c, C 22 c ≤ 5 from I.1 2 (by decide)), (show ∀ c, C 23 c ≤ 99 from I.1 3 (by decide))⟩ (by omega)) dX10_tread_71 rfl rfl rfl rfl rfl ?_
  have hb4 := (show ∀ c, C 23 c ≤ 99 from I.1 3 (by decide)) c
  refine gj_ic (w := 1) dX10_tread_74 ?_
  refine gj_isub dX10_tread_75 ?_
  refine gj_max0 w_634 w_609 w_83 w_610 (by omega) (by omega) dX10_tread_76 rfl rfl ?_
  refine gj_goto (tgt := 83) dX10_tread_79 rfl ?_
  refine gj_V0 lkX10_173 ((mj_up_ne (by decide)).trans ((mj_up_ne (by decide)).trans ((mj_up_ne (by decide)).trans (hc21 κ C)))) rfl rfl (ev_X4_setIce ⟨((mj_up_ne (by decide)).trans ((mj_up_ne (by decide)).trans ((mj_up_ne (by decide)).trans (hc21 κ C)))), ((mj_up_ne (by decide)).trans ((mj_up_ne (by decide)).trans ((mj_up_ne (by decide)).trans (hc22 κ C)))), ((mj_up_ne (by decide)).trans ((mj_up_ne (by decide)).trans ((mj_up_ne (by decide)).trans (hc23 κ C)))), (by decide), (show ∀ c, C 22 c ≤ 5 from I.1 2 (by decide)), (show ∀ c, C 23 c ≤ 99 from I.1 3 (by decide))⟩ (by omega)) dX10_tread_83 rfl rfl rfl rfl rfl ?_
  refine gj_iload_n dX10_tread_86 rfl ?_
  refine gj_if_eqN (tgt := 94) (by omega) dX10_tread_87 rfl (fun zq0 => ?_) (fun zq0 => ?_)
  · exfalso; revert zq0; decide
  refine gj_ic (w := 1) dX10_tread_90 ?_
  refine gj_goto (tgt := 95) dX10_tread_91 rfl ?_
  exact gj_ir rfl dX10_tread_95 rfl rfl (hu23 (hu35 (hu37 (hu36 rfl))))
set_option maxHeartbeats 1000000 in
set_option maxRecDepth 10000 in
theorem ev_X10_tread_0 {E : mj_E} {κ : Nat → Bool} {C : Nat → Nat → Nat} (I : mj_CI κ C) {c w : Nat} (h0 : c < 25) (h1 : 1 ≤ w) (h2 : w ≤ 99) (h3 : sp_bear (C 22 c) (C 23 c) < w) : mj_Ev E iX10_tread [.ref 0, .int (nI c), .int (nI w)] (hh κ C) (mj_R (some (.int (nI 0))) (hh κ (mj_u (mj_u (mj_u (mj_u C 36 (sp_ki (C 36) (C 23) (C 35 0))) 37 (sp_kd (C 37) (C 35 0) (C 20 0))) 35 (mj_row [sp_kz (C 35 0)])) 23 (mj_un (C 23) c 0)))) := by
  have hl0 : C 20 0 ≤ 999 := I.1 0 (by decide) 0
  have hl7 : C 27 0 ≤ 7 := I.1 7 (by decide) 0
  have hl11 : C 31 0 ≤ 6 := I.1 11 (by decide) 0
  have hl13 : C 33 0 ≤ 6 := I.1 13 (by decide) 0
  have hl15 : C 35 0 ≤ 8 := I.1 15 (by decide) 0
  have hl7x : C 7 0 ≤ 150 := I.2.2.2.2.2.2.1
  refine mj_Ev.of (L0 := [some (.ref 0), some (.int (nI c)), some (.int (nI w)), none]) pnRX10 (Nat.le_of_ble_eq_true rfl) rfl ?_
  refine gj_iload_n dX10_tread_0 rfl ?_
  refine gj_S1 lkX10_87 (ev_X10_isCell_t (by omega) (by omega)) dX10_tread_1 rfl rfl rfl rfl rfl ?_
  refine gj_if_eqN (tgt := 17) (by omega) dX10_tread_4 rfl (fun zq0 => ?_) (fun zq0 => ?_)
  · exfalso; revert zq0; decide
  refine gj_iload_n dX10_tread_7 rfl ?_
  refine gj_ic (w := 1) dX10_tread_8 ?_
  refine gj_bp 99 dX10_tread_9 (by decide) ?_
  refine gj_S1 lkX10_65 (ev_X10_within_t (by omega) (by omega) (by omega)) dX10_tread_11 rfl rfl rfl rfl rfl ?_
  refine gj_if_neN (tgt := 22) (by omega) dX10_tread_14 rfl (fun zq0 => ?_) (fun zq0 => ?_)
  rotate_left
  · exfalso; revert zq0; decide
  refine gj_aload_n dX10_tread_22 rfl ?_
  refine gfX10_10 rfl dX10_tread_23 (hc0 κ C) rfl ?_
  refine gfX10_91 rfl dX10_tread_26 (hc20 κ C) rfl ?_
  refine gj_iload_n dX10_tread_29 rfl ?_
  refine gj_V1 lkX10_161 (hc21 κ C) rfl rfl (ev_X4_bears ⟨(hc21 κ C), (hc22 κ C), (hc23 κ C), (by decide), (show ∀ c, C 22 c ≤ 5 from I.1 2 (by decide)), (show ∀ c, C 23 c ≤ 99 from I.1 3 (by decide))⟩ (by omega)) dX10_tread_30 rfl rfl rfl rfl rfl ?_
  have hb1 := @sp_bear_le (C 22 c) (C 23 c)
  have hb2 := (show ∀ c, C 23 c ≤ 99 from I.1 3 (by decide)) c
  refine gj_iload_n dX10_tread_33 rfl ?_
  refine gj_icmp_ltN (tgt := 41) (by omega) (by omega) dX10_tread_34 rfl (fun zq3 => ?_) (fun zq3 => ?_)
  rotate_left
  · exfalso; omega
  refine gj_ic (w := 0) dX10_tread_41 ?_
  refine gj_istore_n (L' := [some (.ref 0), some (.int (nI c)), some (.int (nI w)), some (.int (nI 0))]) dX10_tread_42 (Nat.le_of_ble_eq_true rfl) rfl ?_
  refine gj_aload_n dX10_tread_43 rfl ?_
  refine gfX10_10 rfl dX10_tread_44 (hc0 κ C) rfl ?_
  refine gj_V0 lkX10_152 (hc20 κ C) rfl rfl (ev_X1_keepPast (hc20 κ C) ⟨(hc21 κ C), (hc22 κ C), (hc23 κ C), (by decide), (show ∀ c, C 22 c ≤ 5 from I.1 2 (by decide)), (show ∀ c, C 23 c ≤ 99 from I.1 3 (by decide))⟩ ⟨(hc24 κ C), (hc25 κ C), (hc26 κ C), (by decide), (show ∀ c, C 25 c ≤ 9 from I.1 5 (by decide)), (show ∀ c, C 26 c ≤ 9 from I.1 6 (by decide))⟩ (by omega) (hc35 κ C) (hc36 κ C) (hc37 κ C) (by omega) (by decide) (by decide) (by decide) (by decide) (show ∀ c, C 36 c ≤ 99 from I.1 16 (by decide)) (show ∀ c, C 37 c ≤ 999 from I.1 17 (by decide)) (by omega)) dX10_tread_47 rfl rfl rfl rfl rfl ?_
  refine gj_aload_n dX10_tread_50 rfl ?_
  refine gfX10_10 rfl dX10_tread_51 ((mj_up_ne (by decide)).trans ((mj_up_ne (by decide)).trans ((mj_up_ne (by decide)).trans (hc0 κ C)))) rfl ?_
  refine gfX10_91 rfl dX10_tread_54 ((mj_up_ne (by decide)).trans ((mj_up_ne (by decide)).trans ((mj_up_ne (by decide)).trans (hc20 κ C)))) rfl ?_
  refine gj_iload_n dX10_tread_57 rfl ?_
  refine gj_iload_n dX10_tread_58 rfl ?_
  refine gj_if_eqN (tgt := 82) (by omega) dX10_tread_59 rfl (fun zq0 => ?_) (fun zq0 => ?_)
  rotate_left
  · exfalso; revert zq0; decide
  refine gj_ic (w := 0) dX10_tread_82 ?_
  refine gj_V0 lkX10_173 ((mj_up_ne (by decide)).trans ((mj_up_ne (by decide)).trans ((mj_up_ne (by decide)).trans (hc21 κ C)))) rfl rfl (ev_X4_setIce ⟨((mj_up_ne (by decide)).trans ((mj_up_ne (by decide)).trans ((mj_up_ne (by decide)).trans (hc21 κ C)))), ((mj_up_ne (by decide)).trans ((mj_up_ne (by decide)).trans ((mj_up_ne (by decide)).trans (hc22 κ C)))), ((mj_up_ne (by decide)).trans ((mj_up_ne (by decide)).trans ((mj_up_ne (by decide)).trans (hc23 κ C)))), (by decide), (show ∀ c, C 22 c ≤ 5 from I.1 2 (by decide)), (show ∀ c, C 23 c ≤ 99 from I.1 3 (by decide))⟩ (by omega)) dX10_tread_83 rfl rfl rfl rfl rfl ?_
  refine gj_iload_n dX10_tread_86 rfl ?_
  refine gj_if_eqN (tgt := 94) (by omega) dX10_tread_87 rfl (fun zq0 => ?_) (fun zq0 => ?_)
  rotate_left
  · exfalso; revert zq0; decide
  refine gj_ic (w := 0) dX10_tread_94 ?_
  exact gj_ir rfl dX10_tread_95 rfl rfl (hu23 (hu35 (hu37 (hu36 rfl))))
set_option maxHeartbeats 1000000 in
set_option maxRecDepth 10000 in
theorem ev_X10_stone {E : mj_E} {κ : Nat → Bool} {C : Nat → Nat → Nat} (I : mj_CI κ C) {c : Nat} (h0 : c < 25) : mj_Ev E iX10_stone [.ref 0, .int (nI c)] (hh κ C) (mj_R (some (.int (nI ((mj_un (C 23) c ((C 23 c) / 2)) c)))) (hh κ (mj_u (mj_u (mj_u (mj_u C 36 (sp_ki (C 36) (C 23) (C 35 0))) 37 (sp_kd (C 37) (C 35 0) (C 20 0))) 35 (mj_row [sp_kz (C 35 0)])) 23 (mj_un (C 23) c ((C 23 c) / 2))))) := by
  have hl0 : C 20 0 ≤ 999 := I.1 0 (by decide) 0
  have hl7 : C 27 0 ≤ 7 := I.1 7 (by decide) 0
  have hl11 : C 31 0 ≤ 6 := I.1 11 (by decide) 0
  have hl13 : C 33 0 ≤ 6 := I.1 13 (by decide) 0
  have hl15 : C 35 0 ≤ 8 := I.1 15 (by decide) 0
  have hl7x : C 7 0 ≤ 150 := I.2.2.2.2.2.2.1
  refine mj_Ev.of (L0 := [some (.ref 0), some (.int (nI c))]) pnRX10 (Nat.le_of_ble_eq_true rfl) rfl ?_
  refine gj_iload_n dX10_stone_0 rfl ?_
  refine gj_S1 lkX10_87 (ev_X10_isCell_t (by omega) (by omega)) dX10_stone_1 rfl rfl rfl rfl rfl ?_
  refine gj_if_neN (tgt := 12) (by omega) dX10_stone_4 rfl (fun zq0 => ?_) (fun zq0 => ?_)
  rotate_left
  · exfalso; revert zq0; decide
  refine gj_aload_n dX10_stone_12 rfl ?_
  refine gfX10_10 rfl dX10_stone_13 (hc0 κ C) rfl ?_
  refine gj_V0 lkX10_152 (hc20 κ C) rfl rfl (ev_X1_keepPast (hc20 κ C) ⟨(hc21 κ C), (hc22 κ C), (hc23 κ C), (by decide), (show ∀ c, C 22 c ≤ 5 from I.1 2 (by decide)), (show ∀ c, C 23 c ≤ 99 from I.1 3 (by decide))⟩ ⟨(hc24 κ C), (hc25 κ C), (hc26 κ C), (by decide), (show ∀ c, C 25 c ≤ 9 from I.1 5 (by decide)), (show ∀ c, C 26 c ≤ 9 from I.1 6 (by decide))⟩ (by omega) (hc35 κ C) (hc36 κ C) (hc37 κ C) (by omega) (by decide) (by decide) (by decide) (by decide) (show ∀ c, C 36 c ≤ 99 from I.1 16 (by decide)) (show ∀ c, C 37 c ≤ 999 from I.1 17 (by decide)) (by omega)) dX10_stone_16 rfl rfl rfl rfl rfl ?_
  refine gj_aload_n dX10_stone_19 rfl ?_
  refine gfX10_10 rfl dX10_stone_20 ((mj_up_ne (by decide)).trans ((mj_up_ne (by decide)).trans ((mj_up_ne (by decide)).trans (hc0 κ C)))) rfl ?_
  refine gfX10_91 rfl dX10_stone_23 ((mj_up_ne (by decide)).trans ((mj_up_ne (by decide)).trans ((mj_up_ne (by decide)).trans (hc20 κ C)))) rfl ?_
  refine gj_iload_n dX10_stone_26 rfl ?_
  refine gj_aload_n dX10_stone_27 rfl ?_
  refine gfX10_10 rfl dX10_stone_28 ((mj_up_ne (by decide)).trans ((mj_up_ne (by decide)).trans ((mj_up_ne (by decide)).trans (hc0 κ C)))) rfl ?_
  refine gfX10_91 rfl dX10_stone_31 ((mj_up_ne (by decide)).trans ((mj_up_ne (by decide)).trans ((mj_up_ne (by decide)).trans (hc20 κ C)))) rfl ?_
  refine gj_iload_n dX10_stone_34 rfl ?_
  refine gj_V1 lkX10_164 ((mj_up_ne (by decide)).trans ((mj_up_ne (by decide)).trans ((mj_up_ne (by decide)).trans (hc21 κ C)))) rfl rfl (ev_X4_iceOf ⟨((mj_up_ne (by decide)).trans ((mj_up_ne (by decide)).trans ((mj_up_ne (by decide)).trans (hc21 κ C)))), ((mj_up_ne (by decide)).trans ((mj_up_ne (by decide)).trans ((mj_up_ne (by decide)).trans (hc22 κ C)))), ((mj_up_ne (by decide)).trans ((mj_up_ne (by decide)).trans ((mj_up_ne (by decide)).trans (hc23 κ C)))), (by decide), (show ∀ c, C 22 c ≤ 5 from I.1 2 (by decide)), (show ∀ c, C 23 c ≤ 99 from I.1 3 (by decide))⟩ (by omega)) dX10_stone_35 rfl rfl rfl rfl rfl ?_
  have hb1 := (show ∀ c, C 23 c ≤ 99 from I.1 3 (by decide)) c
  refine gj_ic (w := 2) dX10_stone_38 ?_
  refine gj_idivN (by omega) (by omega) (by omega) dX10_stone_39 ?_
  refine gj_V0 lkX10_173 ((mj_up_ne (by decide)).trans ((mj_up_ne (by decide)).trans ((mj_up_ne (by decide)).trans (hc21 κ C)))) rfl rfl (ev_X4_setIce ⟨((mj_up_ne (by decide)).trans ((mj_up_ne (by decide)).trans ((mj_up_ne (by decide)).trans (hc21 κ C)))), ((mj_up_ne (by decide)).trans ((mj_up_ne (by decide)).trans ((mj_up_ne (by decide)).trans (hc22 κ C)))), ((mj_up_ne (by decide)).trans ((mj_up_ne (by decide)).trans ((mj_up_ne (by decide)).trans (hc23 κ C)))), (by decide), (show ∀ c, C 22 c ≤ 5 from I.1 2 (by decide)), (show ∀ c, C 23 c ≤ 99 from I.1 3 (by decide))⟩ (by omega)) dX10_stone_40 rfl rfl rfl rfl rfl ?_
  refine gj_aload_n dX10_stone_43 rfl ?_
  refine gfX10_10 rfl dX10_stone_44 ((mj_up_ne (by decide)).trans ((mj_up_ne (by decide)).trans ((mj_up_ne (by decide)).trans ((mj_up_ne (by decide)).trans (hc0 κ C))))) rfl ?_
  refine gfX10_91 rfl dX10_stone_47 ((mj_up_ne (by decide)).trans ((mj_up_ne (by decide)).trans ((mj_up_ne (by decide)).trans ((mj_up_ne (by decide)).trans (hc20 κ C))))) rfl ?_
  refine gj_iload_n dX10_stone_50 rfl ?_
  refine gj_V1 lkX10_164 ((mj_up_ne (by decide)).trans ((mj_up_ne (by decide)).trans ((mj_up_ne (by decide)).trans ((mj_up_ne (by decide)).trans (hc21 κ C))))) rfl rfl (ev_X4_iceOf ⟨((mj_up_ne (by decide)).trans ((mj_up_ne (by decide)).trans ((mj_up_ne (by decide)).trans ((mj_up_ne (by decide)).trans (hc21 κ C))))), ((mj_up_ne (by decide)).trans ((mj_up_ne (by decide)).trans ((mj_up_ne (by decide)).trans ((mj_up_ne (by decide)).trans (hc22 κ C))))), (mj_up_eq _ _ _), (by decide), (show ∀ c, C 22 c ≤ 5 from I.1 2 (by decide)), (show ∀ z, (mj_un (C 23) c ((C 23 c) / 2)) z ≤ 99 from mj_un_le (show ∀ c, C 23 c ≤ 99 from I.1 3 (by decide)) (by omega))⟩ (by omega)) dX10_stone_51 rfl rfl rfl rfl rfl ?_
  have hb2 := (show ∀ z, (mj_un (C 23) c ((C 23 c) / 2)) z ≤ 99 from mj_un_le (show ∀ c, C 23 c ≤ 99 from I.1 3 (by decide)) (by omega)) c
  exact gj_ir rfl dX10_stone_54 rfl rfl (hu23 (hu35 (hu37 (hu36 rfl))))
set_option maxHeartbeats 1000000 in
set_option maxRecDepth 10000 in
theorem ev_X10_undo {E : mj_E} {κ : Nat → Bool} {C : Nat → Nat → Nat} (I : mj_CI κ C) (h0 : 0 < C 35 0) : mj_Ev E iX10_undo [.ref 0] (hh κ C) (mj_R (some (.int (nI ((C 37) ((C 35 0) - 1))))) (hh κ (mj_u (mj_u (mj_u C 35 (mj_row [(C 35 0) - 1])) 23 (mj_cp (C 36) (C 23) (((C 35 0) - 1) * 25) 0 25)) 20 (mj_row [(C 37) ((C 35 0) - 1)])))) := by
  have hl0 : C 20 0 ≤ 999 := I.1 0 (by decide) 0
  have hl7 : C 27 0 ≤ 7 := I.1 7 (by decide) 0
  have hl11 : C 31 0 ≤ 6 := I.1 11 (by decide) 0
  have hl13 : C 33 0 ≤ 6 := I.1 13 (by decide) 0
  have hl15 : C 35 0 ≤ 8 := I.1 15 (by decide) 0
  have hl7x : C 7 0 ≤ 150 := I.2.2.2.2.2.2.1
  refine mj_Ev.of (L0 := [some (.ref 0)]) pnRX10 (Nat.le_of_ble_eq_true rfl) rfl ?_
  refine gj_aload_n dX10_undo_0 rfl ?_
  refine gfX10_10 rfl dX10_undo_1 (hc0 κ C) rfl ?_
  refine gfX10_102 rfl dX10_undo_4 (hc20 κ C) rfl ?_
  refine gfX10_176 rfl dX10_undo_7 (hc35 κ C) rfl ?_
  refine gj_if_gtN (tgt := 18) (by omega) dX10_undo_10 rfl (fun zq1 => ?_) (fun zq1 => ?_)
  rotate_left
  · exfalso; omega
  refine gj_aload_n dX10_undo_18 rfl ?_
  refine gfX10_10 rfl dX10_undo_19 (hc0 κ C) rfl ?_
  refine gj_aload_n dX10_undo_22 rfl ?_
  refine gfX10_10 rfl dX10_undo_23 (hc0 κ C) rfl ?_
  refine gfX10_102 rfl dX10_undo_26 (hc20 κ C) rfl ?_
  refine gj_aload_n dX10_undo_29 rfl ?_
  refine gfX10_10 rfl dX10_undo_30 (hc0 κ C) rfl ?_
  refine gfX10_91 rfl dX10_undo_33 (hc20 κ C) rfl ?_
  refine gj_V1 lkX10_180 (hc35 κ C) rfl rfl (ev_X2_goBack (d := 0) (hc35 κ C) (hc36 κ C) (hc37 κ C) (by decide) ⟨(hc21 κ C), (hc22 κ C), (hc23 κ C), (by decide), (show ∀ c, C 22 c ≤ 5 from I.1 2 (by decide)), (show ∀ c, C 23 c ≤ 99 from I.1 3 (by decide))⟩ (by decide) (by decide) (by decide) (by omega) (by omega)) dX10_undo_36 rfl rfl rfl rfl rfl ?_
  have hb2 := (show ∀ c, C 37 c ≤ 999 from I.1 17 (by decide)) ((C 35 0) - 1)
  refine pfX10_184 rfl dX10_undo_39 ((mj_up_ne (by decide)).trans ((mj_up_ne (by decide)).trans (hc20 κ C))) (Nat.le_of_ble_eq_true rfl) ?_
  show gj _ _ _ _ _ _ _ _ (mj_up (mj_up (mj_up (hh κ C) 35 (.inr (1, [.ref 36, .ref 37, .int (nI ((C 35 0) - 1))]))) 23 (mj_ar 25 (mj_cp (C 36) (C 23) (((C 35 0) - 1) * 25) 0 25))) 20 (.inr (0, [.ref 21, .ref 24, .ref 27, .ref 31, .ref 33, .ref 35, .ref 38, .int (nI ((C 37) ((C 35 0) - 1)))])))
  refine gj_aload_n dX10_undo_42 rfl ?_
  refine gfX10_10 rfl dX10_undo_43 ((mj_up_ne (by decide)).trans ((mj_up_ne (by decide)).trans ((mj_up_ne (by decide)).trans (hc0 κ C)))) rfl ?_
  refine gfX10_184 rfl dX10_undo_46 (mj_up_eq _ _ _) rfl ?_
  exact gj_ir rfl dX10_undo_49 rfl rfl (hu20 (hu23 (hu35 rfl)))
set_option maxHeartbeats 1000000 in
set_option maxRecDepth 10000 in
theorem ev_X10_undo_no {E : mj_E} {κ : Nat → Bool} {C : Nat → Nat → Nat} (I : mj_CI κ C) (h0 : C 35 0 = 0) : mj_Ev E iX10_undo [.ref 0] (hh κ C) (mj_R (some (.int (-3))) (hh κ (mj_u C 11 (mj_un (C 11) 1 ((C 11 1) + 1))))) := by
  have hl0 : C 20 0 ≤ 999 := I.1 0 (by decide) 0
  have hl7 : C 27 0 ≤ 7 := I.1 7 (by decide) 0
  have hl11 : C 31 0 ≤ 6 := I.1 11 (by decide) 0
  have hl13 : C 33 0 ≤ 6 := I.1 13 (by decide) 0
  have hl15 : C 35 0 ≤ 8 := I.1 15 (by decide) 0
  have hl7x : C 7 0 ≤ 150 := I.2.2.2.2.2.2.1
  refine mj_Ev.of (L0 := [some (.ref 0)]) pnRX10 (Nat.le_of_ble_eq_true rfl) rfl ?_
  refine gj_aload_n dX10_undo_0 rfl ?_
  refine gfX10_10 rfl dX10_undo_1 (hc0 κ C) rfl ?_
  refine gfX10_102 rfl dX10_undo_4 (hc20 κ C) rfl ?_
  refine gfX10_176 rfl dX10_undo_7 (hc35 κ C) rfl ?_
  refine gj_if_gtN (tgt := 18) (by omega) dX10_undo_10 rfl (fun zq1 => ?_) (fun zq1 => ?_)
  · exfalso; omega
  refine gj_aload_n dX10_undo_13 rfl ?_
  refine gj_V1 lkX10_177 (hc0 κ C) rfl rfl (ev_X10_no I) dX10_undo_14 rfl rfl rfl rfl rfl ?_
  exact gj_ir rfl dX10_undo_17 rfl rfl rfl
set_option maxHeartbeats 1000000 in
set_option maxRecDepth 10000 in
theorem ev_X10_of_0 {E : mj_E} {κ : Nat → Bool} {C : Nat → Nat → Nat} (I : mj_CI κ C) {c : Nat} (h0 : c < 25) : mj_Ev E iX10_of [.ref 0, .int (nI c), .int (nI 0)] (hh κ C) (mj_R (some (.int (nI (C 22 c)))) (hh κ C)) := by
  have hl0 : C 20 0 ≤ 999 := I.1 0 (by decide) 0
  have hl7 : C 27 0 ≤ 7 := I.1 7 (by decide) 0
  have hl11 : C 31 0 ≤ 6 := I.1 11 (by decide) 0
  have hl13 : C 33 0 ≤ 6 := I.1 13 (by decide) 0
  have hl15 : C 35 0 ≤ 8 := I.1 15 (by decide) 0
  have hl7x : C 7 0 ≤ 150 := I.2.2.2.2.2.2.1
  refine mj_Ev.of (L0 := [some (.ref 0), some (.int (nI c)), some (.int (nI 0))]) pnRX10 (Nat.le_of_ble_eq_true rfl) rfl ?_
  refine gj_iload_n dX10_of_0 rfl ?_
  refine gj_S1 lkX10_87 (ev_X10_isCell_t (by omega) (by omega)) dX10_of_1 rfl rfl rfl rfl rfl ?_
  refine gj_if_eqN (tgt := 16) (by omega) dX10_of_4 rfl (fun zq0 => ?_) (fun zq0 => ?_)
  · exfalso; revert zq0; decide
  refine gj_iload_n dX10_of_7 rfl ?_
  refine gj_ic (w := 0) dX10_of_8 ?_
  refine gj_ic (w := 2) dX10_of_9 ?_
  refine gj_S1 lkX10_65 (ev_X10_within_t (by omega) (by omega) (by omega)) dX10_of_10 rfl rfl rfl rfl rfl ?_
  refine gj_if_neN (tgt := 21) (by omega) dX10_of_13 rfl (fun zq0 => ?_) (fun zq0 => ?_)
  rotate_left
  · exfalso; revert zq0; decide
  refine gj_iload_n dX10_of_21 rfl ?_
  refine gj_lkp (a := 0) (tgt := 48) (by decide) dX10_of_22 (by decide) rfl rfl ?_
  refine gj_aload_n dX10_of_48 rfl ?_
  refine gfX10_10 rfl dX10_of_49 (hc0 κ C) rfl ?_
  refine gfX10_91 rfl dX10_of_52 (hc20 κ C) rfl ?_
  refine gj_iload_n dX10_of_55 rfl ?_
  refine gj_V1 lkX10_94 (hc21 κ C) rfl rfl (ev_X4_kindOf ⟨(hc21 κ C), (hc22 κ C), (hc23 κ C), (by decide), (show ∀ c, C 22 c ≤ 5 from I.1 2 (by decide)), (show ∀ c, C 23 c ≤ 99 from I.1 3 (by decide))⟩ (by omega)) dX10_of_56 rfl rfl rfl rfl rfl ?_
  have hb1 := (show ∀ c, C 22 c ≤ 5 from I.1 2 (by decide)) c
  exact gj_ir rfl dX10_of_59 rfl rfl rfl
set_option maxHeartbeats 1000000 in
set_option maxRecDepth 10000 in
theorem ev_X10_of_1 {E : mj_E} {κ : Nat → Bool} {C : Nat → Nat → Nat} (I : mj_CI κ C) {c : Nat} (h0 : c < 25) : mj_Ev E iX10_of [.ref 0, .int (nI c), .int (nI 1)] (hh κ C) (mj_R (some (.int (nI (C 23 c)))) (hh κ C)) := by
  have hl0 : C 20 0 ≤ 999 := I.1 0 (by decide) 0
  have hl7 : C 27 0 ≤ 7 := I.1 7 (by decide) 0
  have hl11 : C 31 0 ≤ 6 := I.1 11 (by decide) 0
  have hl13 : C 33 0 ≤ 6 := I.1 13 (by decide) 0
  have hl15 : C 35 0 ≤ 8 := I.1 15 (by decide) 0
  have hl7x : C 7 0 ≤ 150 := I.2.2.2.2.2.2.1
  refine mj_Ev.of (L0 := [some (.ref 0), some (.int (nI c)), some (.int (nI 1))]) pnRX10 (Nat.le_of_ble_eq_true rfl) rfl ?_
  refine gj_iload_n dX10_of_0 rfl ?_
  refine gj_S1 lkX10_87 (ev_X10_isCell_t (by omega) (by omega)) dX10_of_1 rfl rfl rfl rfl rfl ?_
  refine gj_if_eqN (tgt := 16) (by omega) dX10_of_4 rfl (fun zq0 => ?_) (fun zq0 => ?_)
  · exfalso; revert zq0; decide
  refine gj_iload_n dX10_of_7 rfl ?_
  refine gj_ic (w := 0) dX10_of_8 ?_
  refine gj_ic (w := 2) dX10_of_9 ?_
  refine gj_S1 lkX10_65 (ev_X10_within_t (by omega) (by omega) (by omega)) dX10_of_10 rfl rfl rfl rfl rfl ?_
  refine gj_if_neN (tgt := 21) (by omega) dX10_of_13 rfl (fun zq0 => ?_) (fun zq0 => ?_)
  rotate_left
  · exfalso; revert zq0; decide
  refine gj_iload_n dX10_of_21 rfl ?_
  refine gj_lkp (a := 1) (tgt := 60) (by decide) dX10_of_22 (by decide) rfl rfl ?_
  refine gj_aload_n dX10_of_60 rfl ?_
  refine gfX10_10 rfl dX10_of_61 (hc0 κ C) rfl ?_
  refine gfX10_91 rfl dX10_of_64 (hc20 κ C) rfl ?_
  refine gj_iload_n dX10_of_67 rfl ?_
  refine gj_V1 lkX10_164 (hc21 κ C) rfl rfl (ev_X4_iceOf ⟨(hc21 κ C), (hc22 κ C), (hc23 κ C), (by decide), (show ∀ c, C 22 c ≤ 5 from I.1 2 (by decide)), (show ∀ c, C 23 c ≤ 99 from I.1 3 (by decide))⟩ (by omega)) dX10_of_68 rfl rfl rfl rfl rfl ?_
  have hb1 := (show ∀ c, C 23 c ≤ 99 from I.1 3 (by decide)) c
  exact gj_ir rfl dX10_of_71 rfl rfl rfl
set_option maxHeartbeats 1000000 in
set_option maxRecDepth 10000 in
theorem ev_X10_of_2 {E : mj_E} {κ : Nat → Bool} {C : Nat → Nat → Nat} (I : mj_CI κ C) {c : Nat} (h0 : c < 25) : mj_Ev E iX10_of [.ref 0, .int (nI c), .int (nI 2)] (hh κ C) (mj_R (some (.int (nI (sp_bear (C 22 c) (C 23 c))))) (hh κ C)) := by
  have hl0 : C 20 0 ≤ 999 := I.1 0 (by decide) 0
  have hl7 : C 27 0 ≤ 7 := I.1 7 (by decide) 0
  have hl11 : C 31 0 ≤ 6 := I.1 11 (by decide) 0
  have hl13 : C 33 0 ≤ 6 := I.1 13 (by decide) 0
  have hl15 : C 35 0 ≤ 8 := I.1 15 (by decide) 0
  have hl7x : C 7 0 ≤ 150 := I.2.2.2.2.2.2.1
  refine mj_Ev.of (L0 := [some (.ref 0), some (.int (nI c)), some (.int (nI 2))]) pnRX10 (Nat.le_of_ble_eq_true rfl) rfl ?_
  refine gj_iload_n dX10_of_0 rfl ?_
  refine gj_S1 lkX10_87 (ev_X10_isCell_t (by omega) (by omega)) dX10_of_1 rfl rfl rfl rfl rfl ?_
  refine gj_if_eqN (tgt := 16) (by omega) dX10_of_4 rfl (fun zq0 => ?_) (fun zq0 => ?_)
  · exfalso; revert zq0; decide
  refine gj_iload_n dX10_of_7 rfl ?_
  refine gj_ic (w := 0) dX10_of_8 ?_
  refine gj_ic (w := 2) dX10_of_9 ?_
  refine gj_S1 lkX10_65 (ev_X10_within_t (by omega) (by omega) (by omega)) dX10_of_10 rfl rfl rfl rfl rfl ?_
  refine gj_if_neN (tgt := 21) (by omega) dX10_of_13 rfl (fun zq0 => ?_) (fun zq0 => ?_)
  rotate_left
  · exfalso; revert zq0; decide
  refine gj_iload_n dX10_of_21 rfl ?_
  refine gj_lkp (a := 2) (tgt := 72) (by decide) dX10_of_22 (by decide) rfl rfl ?_
  refine gj_aload_n dX10_of_72 rfl ?_
  refine gfX10_10 rfl dX10_of_73 (hc0 κ C) rfl ?_
  refine gfX10_91 rfl dX10_of_76 (hc20 κ C) rfl ?_
  refine gj_iload_n dX10_of_79 rfl ?_
  refine gj_V1 lkX10_161 (hc21 κ C) rfl rfl (ev_X4_bears ⟨(hc21 κ C), (hc22 κ C), (hc23 κ C), (by decide), (show ∀ c, C 22 c ≤ 5 from I.1 2 (by decide)), (show ∀ c, C 23 c ≤ 99 from I.1 3 (by decide))⟩ (by omega)) dX10_of_80 rfl rfl rfl rfl rfl ?_
  have hb1 := @sp_bear_le (C 22 c) (C 23 c)
  have hb2 := (show ∀ c, C 23 c ≤ 99 from I.1 3 (by decide)) c
  exact gj_ir rfl dX10_of_83 rfl rfl rfl
set_option maxHeartbeats 1000000 in
set_option maxRecDepth 10000 in
theorem ev_X10_isVoter {E : mj_E} {κ : Nat → Bool} {C : Nat → Nat → Nat} (I : mj_CI κ C) {v : Nat} (h0 : v < C 27 0) : mj_Ev E iX10_isVoter [.ref 0, .int (nI v)] (hh κ C) (mj_R (some (.int (nI 1))) (hh κ C)) := by
  have hl0 : C 20 0 ≤ 999 := I.1 0 (by decide) 0
  have hl7 : C 27 0 ≤ 7 := I.1 7 (by decide) 0
  have hl11 : C 31 0 ≤ 6 := I.1 11 (by decide) 0
  have hl13 : C 33 0 ≤ 6 := I.1 13 (by decide) 0
  have hl15 : C 35 0 ≤ 8 := I.1 15 (by decide) 0
  have hl7x : C 7 0 ≤ 150 := I.2.2.2.2.2.2.1
  refine mj_Ev.of (L0 := [some (.ref 0), some (.int (nI v))]) pnRX10 (Nat.le_of_ble_eq_true rfl) rfl ?_
  refine gj_iload_n dX10_isVoter_0 rfl ?_
  refine gj_ic (w := 0) dX10_isVoter_1 ?_
  refine gj_aload_n dX10_isVoter_2 rfl ?_
  refine gfX10_10 rfl dX10_isVoter_3 (hc0 κ C) rfl ?_
  refine gfX10_73 rfl dX10_isVoter_6 (hc20 κ C) rfl ?_
  refine gfX10_77 rfl dX10_isVoter_9 (hc27 κ C) rfl ?_
  refine gj_ic (w := 1) dX10_isVoter_12 ?_
  refine gj_isubN (by omega) dX10_isVoter_13 ?_
  refine gj_S1 lkX10_65 (ev_X10_within_t (by omega) (by omega) (by omega)) dX10_isVoter_14 rfl rfl rfl rfl rfl ?_
  exact gj_zn rfl dX10_isVoter_17 rfl rfl (by decide) rfl
set_option maxHeartbeats 1000000 in
set_option maxRecDepth 10000 in
theorem ev_X10_yesNow {E : mj_E} {κ : Nat → Bool} {C : Nat → Nat → Nat} (I : mj_CI κ C)  : mj_Ev E iX10_yesNow [.ref 0] (hh κ C) (mj_R (some (.int (nI (sp_yess (C 28) (C 29) (C 30) (fun c => sp_bear (C 22 c) (C 23 c)) (C 25 ((C 20 0) % 7)) (C 27 0))))) (hh κ C)) := by
  have hl0 : C 20 0 ≤ 999 := I.1 0 (by decide) 0
  have hl7 : C 27 0 ≤ 7 := I.1 7 (by decide) 0
  have hl11 : C 31 0 ≤ 6 := I.1 11 (by decide) 0
  have hl13 : C 33 0 ≤ 6 := I.1 13 (by decide) 0
  have hl15 : C 35 0 ≤ 8 := I.1 15 (by decide) 0
  have hl7x : C 7 0 ≤ 150 := I.2.2.2.2.2.2.1
  refine mj_Ev.of (L0 := [some (.ref 0)]) pnRX10 (Nat.le_of_ble_eq_true rfl) rfl ?_
  refine gj_aload_n dX10_yesNow_0 rfl ?_
  refine gfX10_10 rfl dX10_yesNow_1 (hc0 κ C) rfl ?_
  refine gfX10_73 rfl dX10_yesNow_4 (hc20 κ C) rfl ?_
  refine gj_aload_n dX10_yesNow_7 rfl ?_
  refine gfX10_10 rfl dX10_yesNow_8 (hc0 κ C) rfl ?_
  refine gfX10_91 rfl dX10_yesNow_11 (hc20 κ C) rfl ?_
  refine gj_aload_n dX10_yesNow_14 rfl ?_
  refine gfX10_10 rfl dX10_yesNow_15 (hc0 κ C) rfl ?_
  refine gj_V1 lkX10_245 (hc20 κ C) rfl rfl (ev_X1_frost (hc20 κ C) ⟨(hc21 κ C), (hc22 κ C), (hc23 κ C), (by decide), (show ∀ c, C 22 c ≤ 5 from I.1 2 (by decide)), (show ∀ c, C 23 c ≤ 99 from I.1 3 (by decide))⟩ ⟨(hc24 κ C), (hc25 κ C), (hc26 κ C), (by decide), (show ∀ c, C 25 c ≤ 9 from I.1 5 (by decide)), (show ∀ c, C 26 c ≤ 9 from I.1 6 (by decide))⟩ (by omega)) dX10_yesNow_18 rfl rfl rfl rfl rfl ?_
  have hb1 := (show ∀ c, C 25 c ≤ 9 from I.1 5 (by decide)) ((C 20 0) % 7)
  refine gj_V1 lkX10_336 (hc27 κ C) rfl rfl (ev_X7_yes ⟨(hc27 κ C), (hc28 κ C), (hc29 κ C), (hc30 κ C), (by omega), (show ∀ c, C 28 c ≤ 5 from I.1 8 (by decide)), (show ∀ c, C 29 c ≤ 99 from I.1 9 (by decide)), (show ∀ c, C 30 c ≤ 24 from I.1 10 (by decide))⟩ ⟨(hc21 κ C), (hc22 κ C), (hc23 κ C), (by decide), (show ∀ c, C 22 c ≤ 5 from I.1 2 (by decide)), (show ∀ c, C 23 c ≤ 99 from I.1 3 (by decide))⟩ (by omega)) dX10_yesNow_21 rfl rfl rfl rfl rfl ?_
  have hb2 := @sp_yess_lt (C 28) (C 29) (C 30) (fun c => sp_bear (C 22 c) (C 23 c)) (C 25 ((C 20 0) % 7)) (C 27 0) (by omega)
  exact gj_ir rfl dX10_yesNow_24 rfl rfl rfl
set_option maxHeartbeats 1000000 in
set_option maxRecDepth 10000 in
theorem ev_X10_about_0 {E : mj_E} {κ : Nat → Bool} {C : Nat → Nat → Nat} (I : mj_CI κ C) {v : Nat} (h0 : v < C 27 0) : mj_Ev E iX10_about [.ref 0, .int (nI v), .int (nI 0)] (hh κ C) (mj_R (some (.int (nI (C 28 v)))) (hh κ C)) := by
  have hl0 : C 20 0 ≤ 999 := I.1 0 (by decide) 0
  have hl7 : C 27 0 ≤ 7 := I.1 7 (by decide) 0
  have hl11 : C 31 0 ≤ 6 := I.1 11 (by decide) 0
  have hl13 : C 33 0 ≤ 6 := I.1 13 (by decide) 0
  have hl15 : C 35 0 ≤ 8 := I.1 15 (by decide) 0
  have hl7x : C 7 0 ≤ 150 := I.2.2.2.2.2.2.1
  refine mj_Ev.of (L0 := [some (.ref 0), some (.int (nI v)), some (.int (nI 0))]) pnRX10 (Nat.le_of_ble_eq_true rfl) rfl ?_
  refine gj_aload_n dX10_about_0 rfl ?_
  refine gj_iload_n dX10_about_1 rfl ?_
  refine gj_V1 lkX10_187 (hc0 κ C) rfl rfl (ev_X10_isVoter I (by omega)) dX10_about_2 rfl rfl rfl rfl rfl ?_
  refine gj_if_eqN (tgt := 17) (by omega) dX10_about_5 rfl (fun zq0 => ?_) (fun zq0 => ?_)
  · exfalso; revert zq0; decide
  refine gj_iload_n dX10_about_8 rfl ?_
  refine gj_ic (w := 0) dX10_about_9 ?_
  refine gj_ic (w := 3) dX10_about_10 ?_
  refine gj_S1 lkX10_65 (ev_X10_within_t (by omega) (by omega) (by omega)) dX10_about_11 rfl rfl rfl rfl rfl ?_
  refine gj_if_neN (tgt := 22) (by omega) dX10_about_14 rfl (fun zq0 => ?_) (fun zq0 => ?_)
  rotate_left
  · exfalso; revert zq0; decide
  refine gj_iload_n dX10_about_22 rfl ?_
  refine gj_tabIn (a := 0) (tgt := 48) (by decide) dX10_about_23 (by decide) (by decide) rfl rfl ?_
  refine gj_aload_n dX10_about_48 rfl ?_
  refine gfX10_10 rfl dX10_about_49 (hc0 κ C) rfl ?_
  refine gfX10_73 rfl dX10_about_52 (hc20 κ C) rfl ?_
  refine gj_iload_n dX10_about_55 rfl ?_
  refine gj_V1 lkX10_190 (hc27 κ C) rfl rfl (ev_X7_kindOf ⟨(hc27 κ C), (hc28 κ C), (hc29 κ C), (hc30 κ C), (by omega), (show ∀ c, C 28 c ≤ 5 from I.1 8 (by decide)), (show ∀ c, C 29 c ≤ 99 from I.1 9 (by decide)), (show ∀ c, C 30 c ≤ 24 from I.1 10 (by decide))⟩ (by omega)) dX10_about_56 rfl rfl rfl rfl rfl ?_
  have hb1 := (show ∀ c, C 28 c ≤ 5 from I.1 8 (by decide)) v
  exact gj_ir rfl dX10_about_59 rfl rfl rfl
set_option maxHeartbeats 1000000 in
set_option maxRecDepth 10000 in
theorem ev_X10_about_1 {E : mj_E} {κ : Nat → Bool} {C : Nat → Nat → Nat} (I : mj_CI κ C) {v : Nat} (h0 : v < C 27 0) : mj_Ev E iX10_about [.ref 0, .int (nI v), .int (nI 1)] (hh κ C) (mj_R (some (.int (nI (C 29 v)))) (hh κ C)) := by
  have hl0 : C 20 0 ≤ 999 := I.1 0 (by decide) 0
  have hl7 : C 27 0 ≤ 7 := I.1 7 (by decide) 0
  have hl11 : C 31 0 ≤ 6 := I.1 11 (by decide) 0
  have hl13 : C 33 0 ≤ 6 := I.1 13 (by decide) 0
  have hl15 : C 35 0 ≤ 8 := I.1 15 (by decide) 0
  have hl7x : C 7 0 ≤ 150 := I.2.2.2.2.2.2.1
  refine mj_Ev.of (L0 := [some (.ref 0), some (.int (nI v)), some (.int (nI 1))]) pnRX10 (Nat.le_of_ble_eq_true rfl) rfl ?_
  refine gj_aload_n dX10_about_0 rfl ?_
  refine gj_iload_n dX10_about_1 rfl ?_
  refine gj_V1 lkX10_187 (hc0 κ C) rfl rfl (ev_X10_isVoter I (by omega)) dX10_about_2 rfl rfl rfl rfl rfl ?_
  refine gj_if_eqN (tgt := 17) (by omega) dX10_about_5 rfl (fun zq0 => ?_) (fun zq0 => ?_)
  · exfalso; revert zq0; decide
  refine gj_iload_n dX10_about_8 rfl ?_
  refine gj_ic (w := 0) dX10_about_9 ?_
  refine gj_ic (w := 3) dX10_about_10 ?_
  refine gj_S1 lkX10_65 (ev_X10_within_t (by omega) (by omega) (by omega)) dX10_about_11 rfl rfl rfl rfl rfl ?_
  refine gj_if_neN (tgt := 22) (by omega) dX10_about_14 rfl (fun zq0 => ?_) (fun zq0 => ?_)
  rotate_left
  · exfalso; revert zq0; decide
  refine gj_iload_n dX10_about_22 rfl ?_
  refine gj_tabIn (a := 1) (tgt := 60) (by decide) dX10_about_23 (by decide) (by decide) rfl rfl ?_
  refine gj_aload_n dX10_about_60 rfl ?_
  refine gfX10_10 rfl dX10_about_61 (hc0 κ C) rfl ?_
  refine gfX10_73 rfl dX10_about_64 (hc20 κ C) rfl ?_
  refine gj_iload_n dX10_about_67 rfl ?_
  refine gj_V1 lkX10_191 (hc27 κ C) rfl rfl (ev_X7_weightOf ⟨(hc27 κ C), (hc28 κ C), (hc29 κ C), (hc30 κ C), (by omega), (show ∀ c, C 28 c ≤ 5 from I.1 8 (by decide)), (show ∀ c, C 29 c ≤ 99 from I.1 9 (by decide)), (show ∀ c, C 30 c ≤ 24 from I.1 10 (by decide))⟩ (by omega)) dX10_about_68 rfl rfl rfl rfl rfl ?_
  have hb1 := (show ∀ c, C 29 c ≤ 99 from I.1 9 (by decide)) v
  exact gj_ir rfl dX10_about_71 rfl rfl rfl
set_option maxHeartbeats 1000000 in
set_option maxRecDepth 10000 in
theorem ev_X10_about_2 {E : mj_E} {κ : Nat → Bool} {C : Nat → Nat → Nat} (I : mj_CI κ C) {v : Nat} (h0 : v < C 27 0) : mj_Ev E iX10_about [.ref 0, .int (nI v), .int (nI 2)] (hh κ C) (mj_R (some (.int (nI (C 30 v)))) (hh κ C)) := by
  have hl0 : C 20 0 ≤ 999 := I.1 0 (by decide) 0
  have hl7 : C 27 0 ≤ 7 := I.1 7 (by decide) 0
  have hl11 : C 31 0 ≤ 6 := I.1 11 (by decide) 0
  have hl13 : C 33 0 ≤ 6 := I.1 13 (by decide) 0
  have hl15 : C 35 0 ≤ 8 := I.1 15 (by decide) 0
  have hl7x : C 7 0 ≤ 150 := I.2.2.2.2.2.2.1
  refine mj_Ev.of (L0 := [some (.ref 0), some (.int (nI v)), some (.int (nI 2))]) pnRX10 (Nat.le_of_ble_eq_true rfl) rfl ?_
  refine gj_aload_n dX10_about_0 rfl ?_
  refine gj_iload_n dX10_about_1 rfl ?_
  refine gj_V1 lkX10_187 (hc0 κ C) rfl rfl (ev_X10_isVoter I (by omega)) dX10_about_2 rfl rfl rfl rfl rfl ?_
  refine gj_if_eqN (tgt := 17) (by omega) dX10_about_5 rfl (fun zq0 => ?_) (fun zq0 => ?_)
  · exfalso; revert zq0; decide
  refine gj_iload_n dX10_about_8 rfl ?_
  refine gj_ic (w := 0) dX10_about_9 ?_
  refine gj_ic (w := 3) dX10_about_10 ?_
  refine gj_S1 lkX10_65 (ev_X10_within_t (by omega) (by omega) (by omega)) dX10_about_11 rfl rfl rfl rfl rfl ?_
  refine gj_if_neN (tgt := 22) (by omega) dX10_about_14 rfl (fun zq0 => ?_) (fun zq0 => ?_)
  rotate_left
  · exfalso; revert zq0; decide
  refine gj_iload_n dX10_about_22 rfl ?_
  refine gj_tabIn (a := 2) (tgt := 72) (by decide) dX10_about_23 (by decide) (by decide) rfl rfl ?_
  refine gj_aload_n dX10_about_72 rfl ?_
  refine gfX10_10 rfl dX10_about_73 (hc0 κ C) rfl ?_
  refine gfX10_73 rfl dX10_about_76 (hc20 κ C) rfl ?_
  refine gj_iload_n dX10_about_79 rfl ?_
  refine gj_V1 lkX10_194 (hc27 κ C) rfl rfl (ev_X7_cellOf ⟨(hc27 κ C), (hc28 κ C), (hc29 κ C), (hc30 κ C), (by omega), (show ∀ c, C 28 c ≤ 5 from I.1 8 (by decide)), (show ∀ c, C 29 c ≤ 99 from I.1 9 (by decide)), (show ∀ c, C 30 c ≤ 24 from I.1 10 (by decide))⟩ (by omega)) dX10_about_80 rfl rfl rfl rfl rfl ?_
  have hb1 := (show ∀ c, C 30 c ≤ 24 from I.1 10 (by decide)) v
  exact gj_ir rfl dX10_about_83 rfl rfl rfl
set_option maxHeartbeats 1000000 in
set_option maxRecDepth 10000 in
theorem ev_X10_about_3 {E : mj_E} {κ : Nat → Bool} {C : Nat → Nat → Nat} (I : mj_CI κ C) {v : Nat} (h0 : v < C 27 0) : mj_Ev E iX10_about [.ref 0, .int (nI v), .int (nI 3)] (hh κ C) (mj_R (some (.int (nI (if Nat.testBit (sp_yess (C 28) (C 29) (C 30) (fun c => sp_bear (C 22 c) (C 23 c)) (C 25 (C 20 0 % 7)) (C 27 0)) v then 1 else 0)))) (hh κ C)) := by
  have hl0 : C 20 0 ≤ 999 := I.1 0 (by decide) 0
  have hl7 : C 27 0 ≤ 7 := I.1 7 (by decide) 0
  have hl11 : C 31 0 ≤ 6 := I.1 11 (by decide) 0
  have hl13 : C 33 0 ≤ 6 := I.1 13 (by decide) 0
  have hl15 : C 35 0 ≤ 8 := I.1 15 (by decide) 0
  have hl7x : C 7 0 ≤ 150 := I.2.2.2.2.2.2.1
  refine mj_Ev.of (L0 := [some (.ref 0), some (.int (nI v)), some (.int (nI 3))]) pnRX10 (Nat.le_of_ble_eq_true rfl) rfl ?_
  refine gj_aload_n dX10_about_0 rfl ?_
  refine gj_iload_n dX10_about_1 rfl ?_
  refine gj_V1 lkX10_187 (hc0 κ C) rfl rfl (ev_X10_isVoter I (by omega)) dX10_about_2 rfl rfl rfl rfl rfl ?_
  refine gj_if_eqN (tgt := 17) (by omega) dX10_about_5 rfl (fun zq0 => ?_) (fun zq0 => ?_)
  · exfalso; revert zq0; decide
  refine gj_iload_n dX10_about_8 rfl ?_
  refine gj_ic (w := 0) dX10_about_9 ?_
  refine gj_ic (w := 3) dX10_about_10 ?_
  refine gj_S1 lkX10_65 (ev_X10_within_t (by omega) (by omega) (by omega)) dX10_about_11 rfl rfl rfl rfl rfl ?_
  refine gj_if_neN (tgt := 22) (by omega) dX10_about_14 rfl (fun zq0 => ?_) (fun zq0 => ?_)
  rotate_left
  · exfalso; revert zq0; decide
  refine gj_iload_n dX10_about_22 rfl ?_
  refine gj_tabOut (a := 3) (tgt := 84) (by decide) dX10_about_23 (by decide) rfl ?_
  refine gj_aload_n dX10_about_84 rfl ?_
  refine gj_V1 lkX10_197 (hc0 κ C) rfl rfl (ev_X10_yesNow I) dX10_about_85 rfl rfl rfl rfl rfl ?_
  have hb1 := @sp_yess_lt (C 28) (C 29) (C 30) (fun c => sp_bear (C 22 c) (C 23 c)) (C 25 (C 20 0 % 7)) (C 27 0) (by omega)
  refine gj_iload_n dX10_about_88 rfl ?_
  refine gj_S1 lkX10_200 (ev_X10_has (by omega) (by omega)) dX10_about_89 rfl rfl rfl rfl rfl ?_
  refine gj_if_eqb (tgt := 99) dX10_about_92 rfl (fun zq2 => ?_) (fun zq2 => ?_)
  · -- 92 taken
    have hw9 := zq2
    refine gj_ic (w := 0) dX10_about_99 ?_
    exact gj_ir rfl dX10_about_100 rfl (congrArg nI (by simp [hw9])) rfl
  have hw9 := zq2
  refine gj_ic (w := 1) dX10_about_95 ?_
  refine gj_goto (tgt := 100) dX10_about_96 rfl ?_
  exact gj_ir rfl dX10_about_100 rfl (congrArg nI (by simp [hw9])) rfl
set_option maxHeartbeats 1000000 in
set_option maxRecDepth 10000 in
theorem ev_X10_then_0 {E : mj_E} {κ : Nat → Bool} {C : Nat → Nat → Nat} (I : mj_CI κ C) {c m : Nat} (h0 : c < 25) (h1 : m ≤ 60) : mj_Ev E iX10_then [.ref 0, .int (nI c), .int (nI m), .int (nI 0)] (hh κ C) (mj_R (some (.int (nI (sp_icem (C 22 c) (C 25) (C 26) (C 20 0) (C 23 c) m)))) (hh κ C)) := by
  have hl0 : C 20 0 ≤ 999 := I.1 0 (by decide) 0
  have hl7 : C 27 0 ≤ 7 := I.1 7 (by decide) 0
  have hl11 : C 31 0 ≤ 6 := I.1 11 (by decide) 0
  have hl13 : C 33 0 ≤ 6 := I.1 13 (by decide) 0
  have hl15 : C 35 0 ≤ 8 := I.1 15 (by decide) 0
  have hl7x : C 7 0 ≤ 150 := I.2.2.2.2.2.2.1
  refine mj_Ev.of (L0 := [some (.ref 0), some (.int (nI c)), some (.int (nI m)), some (.int (nI 0)), none]) pnRX10 (Nat.le_of_ble_eq_true rfl) rfl ?_
  refine gj_iload_n dX10_then_0 rfl ?_
  refine gj_S1 lkX10_87 (ev_X10_isCell_t (by omega) (by omega)) dX10_then_1 rfl rfl rfl rfl rfl ?_
  refine gj_if_eqN (tgt := 26) (by omega) dX10_then_4 rfl (fun zq0 => ?_) (fun zq0 => ?_)
  · exfalso; revert zq0; decide
  refine gj_iload_n dX10_then_7 rfl ?_
  refine gj_ic (w := 0) dX10_then_8 ?_
  refine gj_bp 60 dX10_then_9 (by decide) ?_
  refine gj_S1 lkX10_65 (ev_X10_within_t (by omega) (by omega) (by omega)) dX10_then_11 rfl rfl rfl rfl rfl ?_
  refine gj_if_eqN (tgt := 26) (by omega) dX10_then_14 rfl (fun zq0 => ?_) (fun zq0 => ?_)
  · exfalso; revert zq0; decide
  refine gj_iload_n dX10_then_17 rfl ?_
  refine gj_ic (w := 0) dX10_then_18 ?_
  refine gj_ic (w := 1) dX10_then_19 ?_
  refine gj_S1 lkX10_65 (ev_X10_within_t (by omega) (by omega) (by omega)) dX10_then_20 rfl rfl rfl rfl rfl ?_
  refine gj_if_neN (tgt := 31) (by omega) dX10_then_23 rfl (fun zq0 => ?_) (fun zq0 => ?_)
  rotate_left
  · exfalso; revert zq0; decide
  refine gj_aload_n dX10_then_31 rfl ?_
  refine gfX10_10 rfl dX10_then_32 (hc0 κ C) rfl ?_
  refine gj_iload_n dX10_then_35 rfl ?_
  refine gj_iload_n dX10_then_36 rfl ?_
  refine gj_V1 lkX10_204 (hc20 κ C) rfl rfl (ev_X1_iceBehind (hc20 κ C) ⟨(hc21 κ C), (hc22 κ C), (hc23 κ C), (by decide), (show ∀ c, C 22 c ≤ 5 from I.1 2 (by decide)), (show ∀ c, C 23 c ≤ 99 from I.1 3 (by decide))⟩ ⟨(hc24 κ C), (hc25 κ C), (hc26 κ C), (by decide), (show ∀ c, C 25 c ≤ 9 from I.1 5 (by decide)), (show ∀ c, C 26 c ≤ 9 from I.1 6 (by decide))⟩ (by omega) (by omega) (by omega)) dX10_then_37 rfl rfl rfl rfl rfl ?_
  have hb1 := @sp_icem_le (C 22 c) (C 25) (C 26) (C 20 0) (C 23 c) m ((show ∀ c, C 23 c ≤ 99 from I.1 3 (by decide)) c)
  refine gj_istore (L' := [some (.ref 0), some (.int (nI c)), some (.int (nI m)), some (.int (nI 0)), some (.int (nI (sp_icem (C 22 c) (C 25) (C 26) (C 20 0) (C 23 c) m)))]) dX10_then_40 (Nat.le_of_ble_eq_true rfl) rfl ?_
  refine gj_iload_n dX10_then_42 rfl ?_
  refine gj_if_neN (tgt := 51) (by omega) dX10_then_43 rfl (fun zq0 => ?_) (fun zq0 => ?_)
  · exfalso; revert zq0; decide
  refine gj_iload dX10_then_46 rfl ?_
  refine gj_goto (tgt := 67) dX10_then_48 rfl ?_
  exact gj_ir rfl dX10_then_67 rfl rfl rfl
set_option maxHeartbeats 1000000 in
set_option maxRecDepth 10000 in
theorem ev_X10_then_1 {E : mj_E} {κ : Nat → Bool} {C : Nat → Nat → Nat} (I : mj_CI κ C) {c m : Nat} (h0 : c < 25) (h1 : m ≤ 60) : mj_Ev E iX10_then [.ref 0, .int (nI c), .int (nI m), .int (nI 1)] (hh κ C) (mj_R (some (.int (nI (sp_bear (C 22 c) (sp_icem (C 22 c) (C 25) (C 26) (C 20 0) (C 23 c) m))))) (hh κ C)) := by
  have hl0 : C 20 0 ≤ 999 := I.1 0 (by decide) 0
  have hl7 : C 27 0 ≤ 7 := I.1 7 (by decide) 0
  have hl11 : C 31 0 ≤ 6 := I.1 11 (by decide) 0
  have hl13 : C 33 0 ≤ 6 := I.1 13 (by decide) 0
  have hl15 : C 35 0 ≤ 8 := I.1 15 (by decide) 0
  have hl7x : C 7 0 ≤ 150 := I.2.2.2.2.2.2.1
  refine mj_Ev.of (L0 := [some (.ref 0), some (.int (nI c)), some (.int (nI m)), some (.int (nI 1)), none]) pnRX10 (Nat.le_of_ble_eq_true rfl) rfl ?_
  refine gj_iload_n dX10_then_0 rfl ?_
  refine gj_S1 lkX10_87 (ev_X10_isCell_t (by omega) (by omega)) dX10_then_1 rfl rfl rfl rfl rfl ?_
  refine gj_if_eqN (tgt := 26) (by omega) dX10_then_4 rfl (fun zq0 => ?_) (fun zq0 => ?_)
  · exfalso; revert zq0; decide
  refine gj_iload_n dX10_then_7 rfl ?_
  refine gj_ic (w := 0) dX10_then_8 ?_
  refine gj_bp 60 dX10_then_9 (by decide) ?_
  refine gj_S1 lkX10_65 (ev_X10_within_t (by omega) (by omega) (by omega)) dX10_then_11 rfl rfl rfl rfl rfl ?_
  refine gj_if_eqN (tgt := 26) (by omega) dX10_then_14 rfl (fun zq0 => ?_) (fun zq0 => ?_)
  · exfalso; revert zq0; decide
  refine gj_iload_n dX10_then_17 rfl ?_
  refine gj_ic (w := 0) dX10_then_18 ?_
  refine gj_ic (w := 1) dX10_then_19 ?_
  refine gj_S1 lkX10_65 (ev_X10_within_t (by omega) (by omega) (by omega)) dX10_then_20 rfl rfl rfl rfl rfl ?_
  refine gj_if_neN (tgt := 31) (by omega) dX10_then_23 rfl (fun zq0 => ?_) (fun zq0 => ?_)
  rotate_left
  · exfalso; revert zq0; decide
  refine gj_aload_n dX10_then_31 rfl ?_
  refine gfX10_10 rfl dX10_then_32 (hc0 κ C) rfl ?_
  refine gj_iload_n dX10_then_35 rfl ?_
  refine gj_iload_n dX10_then_36 rfl ?_
  refine gj_V1 lkX10_204 (hc20 κ C) rfl rfl (ev_X1_iceBehind (hc20 κ C) ⟨(hc21 κ C), (hc22 κ C), (hc23 κ C), (by decide), (show ∀ c, C 22 c ≤ 5 from I.1 2 (by decide)), (show ∀ c, C 23 c ≤ 99 from I.1 3 (by decide))⟩ ⟨(hc24 κ C), (hc25 κ C), (hc26 κ C), (by decide), (show ∀ c, C 25 c ≤ 9 from I.1 5 (by decide)), (show ∀ c, C 26 c ≤ 9 from I.1 6 (by decide))⟩ (by omega) (by omega) (by omega)) dX10_then_37 rfl rfl rfl rfl rfl ?_
  have hb1 := @sp_icem_le (C 22 c) (C 25) (C 26) (C 20 0) (C 23 c) m ((show ∀ c, C 23 c ≤ 99 from I.1 3 (by decide)) c)
  refine gj_istore (L' := [some (.ref 0), some (.int (nI c)), some (.int (nI m)), some (.int (nI 1)), some (.int (nI (sp_icem (C 22 c) (C 25) (C 26) (C 20 0) (C 23 c) m)))]) dX10_then_40 (Nat.le_of_ble_eq_true rfl) rfl ?_
  refine gj_iload_n dX10_then_42 rfl ?_
  refine gj_if_neN (tgt := 51) (by omega) dX10_then_43 rfl (fun zq0 => ?_) (fun zq0 => ?_)
  rotate_left
  · exfalso; revert zq0; decide
  refine gj_aload_n dX10_then_51 rfl ?_
  refine gfX10_10 rfl dX10_then_52 (hc0 κ C) rfl ?_
  refine gfX10_91 rfl dX10_then_55 (hc20 κ C) rfl ?_
  refine gj_iload_n dX10_then_58 rfl ?_
  refine gj_V1 lkX10_94 (hc21 κ C) rfl rfl (ev_X4_kindOf ⟨(hc21 κ C), (hc22 κ C), (hc23 κ C), (by decide), (show ∀ c, C 22 c ≤ 5 from I.1 2 (by decide)), (show ∀ c, C 23 c ≤ 99 from I.1 3 (by decide))⟩ (by omega)) dX10_then_59 rfl rfl rfl rfl rfl ?_
  have hb2 := (show ∀ c, C 22 c ≤ 5 from I.1 2 (by decide)) c
  refine gj_iload dX10_then_62 rfl ?_
  refine gj_S1 lkX10_207 (ev_X0_bears (by omega) (by omega)) dX10_then_64 rfl rfl rfl rfl rfl ?_
  have hb3 := @sp_bear_le (C 22 c) (sp_icem (C 22 c) (C 25) (C 26) (C 20 0) (C 23 c) m)
  exact gj_ir rfl dX10_then_67 rfl rfl rfl
set_option maxHeartbeats 1000000 in
set_option maxRecDepth 10000 in
theorem ev_X10_votes_0 {E : mj_E} {κ : Nat → Bool} {C : Nat → Nat → Nat} (I : mj_CI κ C)  : mj_Ev E iX10_votes [.ref 0, .int (nI 0)] (hh κ C) (mj_R (some (.int (nI (sp_yess (C 28) (C 29) (C 30) (fun c => sp_bear (C 22 c) (C 23 c)) (C 25 ((C 20 0) % 7)) (C 27 0))))) (hh κ C)) := by
  have hl0 : C 20 0 ≤ 999 := I.1 0 (by decide) 0
  have hl7 : C 27 0 ≤ 7 := I.1 7 (by decide) 0
  have hl11 : C 31 0 ≤ 6 := I.1 11 (by decide) 0
  have hl13 : C 33 0 ≤ 6 := I.1 13 (by decide) 0
  have hl15 : C 35 0 ≤ 8 := I.1 15 (by decide) 0
  have hl7x : C 7 0 ≤ 150 := I.2.2.2.2.2.2.1
  refine mj_Ev.of (L0 := [some (.ref 0), some (.int (nI 0))]) pnRX10 (Nat.le_of_ble_eq_true rfl) rfl ?_
  refine gj_iload_n dX10_votes_0 rfl ?_
  refine gj_ic (w := 0) dX10_votes_1 ?_
  refine gj_ic (w := 2) dX10_votes_2 ?_
  refine gj_S1 lkX10_65 (ev_X10_within_t (by omega) (by omega) (by omega)) dX10_votes_3 rfl rfl rfl rfl rfl ?_
  refine gj_if_neN (tgt := 14) (by omega) dX10_votes_6 rfl (fun zq0 => ?_) (fun zq0 => ?_)
  rotate_left
  · exfalso; revert zq0; decide
  refine gj_iload_n dX10_votes_14 rfl ?_
  refine gj_lkp (a := 0) (tgt := 40) (by decide) dX10_votes_15 (by decide) rfl rfl ?_
  refine gj_aload_n dX10_votes_40 rfl ?_
  refine gj_V1 lkX10_197 (hc0 κ C) rfl rfl (ev_X10_yesNow I) dX10_votes_41 rfl rfl rfl rfl rfl ?_
  have hb1 := @sp_yess_lt (C 28) (C 29) (C 30) (fun c => sp_bear (C 22 c) (C 23 c)) (C 25 (C 20 0 % 7)) (C 27 0) (by omega)
  exact gj_ir rfl dX10_votes_44 rfl rfl rfl
set_option maxHeartbeats 1000000 in
set_option maxRecDepth 10000 in
theorem ev_X10_votes_1 {E : mj_E} {κ : Nat → Bool} {C : Nat → Nat → Nat} (I : mj_CI κ C)  : mj_Ev E iX10_votes [.ref 0, .int (nI 1)] (hh κ C) (mj_R (some (.int (nI (if sp_car (C 29) (C 27 0) (sp_yess (C 28) (C 29) (C 30) (fun c => sp_bear (C 22 c) (C 23 c)) (C 25 (C 20 0 % 7)) (C 27 0)) then 1 else 0)))) (hh κ C)) := by
  have hl0 : C 20 0 ≤ 999 := I.1 0 (by decide) 0
  have hl7 : C 27 0 ≤ 7 := I.1 7 (by decide) 0
  have hl11 : C 31 0 ≤ 6 := I.1 11 (by decide) 0
  have hl13 : C 33 0 ≤ 6 := I.1 13 (by decide) 0
  have hl15 : C 35 0 ≤ 8 := I.1 15 (by decide) 0
  have hl7x : C 7 0 ≤ 150 := I.2.2.2.2.2.2.1
  refine mj_Ev.of (L0 := [some (.ref 0), some (.int (nI 1))]) pnRX10 (Nat.le_of_ble_eq_true rfl) rfl ?_
  refine gj_iload_n dX10_votes_0 rfl ?_
  refine gj_ic (w := 0) dX10_votes_1 ?_
  refine gj_ic (w := 2) dX10_votes_2 ?_
  refine gj_S1 lkX10_65 (ev_X10_within_t (by omega) (by omega) (by omega)) dX10_votes_3 rfl rfl rfl rfl rfl ?_
  refine gj_if_neN (tgt := 14) (by omega) dX10_votes_6 rfl (fun zq0 => ?_) (fun zq0 => ?_)
  rotate_left
  · exfalso; revert zq0; decide
  refine gj_iload_n dX10_votes_14 rfl ?_
  refine gj_lkp (a := 1) (tgt := 45) (by decide) dX10_votes_15 (by decide) rfl rfl ?_
  refine gj_aload_n dX10_votes_45 rfl ?_
  refine gfX10_10 rfl dX10_votes_46 (hc0 κ C) rfl ?_
  refine gfX10_73 rfl dX10_votes_49 (hc20 κ C) rfl ?_
  refine gj_aload_n dX10_votes_52 rfl ?_
  refine gj_V1 lkX10_197 (hc0 κ C) rfl rfl (ev_X10_yesNow I) dX10_votes_53 rfl rfl rfl rfl rfl ?_
  have hb1 := @sp_yess_lt (C 28) (C 29) (C 30) (fun c => sp_bear (C 22 c) (C 23 c)) (C 25 (C 20 0 % 7)) (C 27 0) (by omega)
  refine gj_V1 lkX10_242 (hc27 κ C) rfl rfl (ev_X7_carried ⟨(hc27 κ C), (hc28 κ C), (hc29 κ C), (hc30 κ C), (by omega), (show ∀ c, C 28 c ≤ 5 from I.1 8 (by decide)), (show ∀ c, C 29 c ≤ 99 from I.1 9 (by decide)), (show ∀ c, C 30 c ≤ 24 from I.1 10 (by decide))⟩ (by omega)) dX10_votes_56 rfl rfl rfl rfl rfl ?_
  refine gj_if_eqb (tgt := 66) dX10_votes_59 rfl (fun zq2 => ?_) (fun zq2 => ?_)
  · -- 59 taken
    have hw9 := zq2
    refine gj_ic (w := 0) dX10_votes_66 ?_
    exact gj_ir rfl dX10_votes_67 rfl (congrArg nI (by simp [hw9])) rfl
  have hw9 := zq2
  refine gj_ic (w := 1) dX10_votes_62 ?_
  refine gj_goto (tgt := 67) dX10_votes_63 rfl ?_
  exact gj_ir rfl dX10_votes_67 rfl (congrArg nI (by simp [hw9])) rfl
set_option maxHeartbeats 1000000 in
set_option maxRecDepth 10000 in
theorem ev_X10_votes_2 {E : mj_E} {κ : Nat → Bool} {C : Nat → Nat → Nat} (I : mj_CI κ C)  : mj_Ev E iX10_votes [.ref 0, .int (nI 2)] (hh κ C) (mj_R (some (.int (nI (sp_wet (C 28) (C 29) (C 30) (fun c => sp_bear (C 22 c) (C 23 c)) (C 25 ((C 20 0) % 7)) (C 27 0))))) (hh κ C)) := by
  have hl0 : C 20 0 ≤ 999 := I.1 0 (by decide) 0
  have hl7 : C 27 0 ≤ 7 := I.1 7 (by decide) 0
  have hl11 : C 31 0 ≤ 6 := I.1 11 (by decide) 0
  have hl13 : C 33 0 ≤ 6 := I.1 13 (by decide) 0
  have hl15 : C 35 0 ≤ 8 := I.1 15 (by decide) 0
  have hl7x : C 7 0 ≤ 150 := I.2.2.2.2.2.2.1
  refine mj_Ev.of (L0 := [some (.ref 0), some (.int (nI 2))]) pnRX10 (Nat.le_of_ble_eq_true rfl) rfl ?_
  refine gj_iload_n dX10_votes_0 rfl ?_
  refine gj_ic (w := 0) dX10_votes_1 ?_
  refine gj_ic (w := 2) dX10_votes_2 ?_
  refine gj_S1 lkX10_65 (ev_X10_within_t (by omega) (by omega) (by omega)) dX10_votes_3 rfl rfl rfl rfl rfl ?_
  refine gj_if_neN (tgt := 14) (by omega) dX10_votes_6 rfl (fun zq0 => ?_) (fun zq0 => ?_)
  rotate_left
  · exfalso; revert zq0; decide
  refine gj_iload_n dX10_votes_14 rfl ?_
  refine gj_lkp (a := 2) (tgt := 68) (by decide) dX10_votes_15 (by decide) rfl rfl ?_
  refine gj_aload_n dX10_votes_68 rfl ?_
  refine gfX10_10 rfl dX10_votes_69 (hc0 κ C) rfl ?_
  refine gfX10_73 rfl dX10_votes_72 (hc20 κ C) rfl ?_
  refine gj_aload_n dX10_votes_75 rfl ?_
  refine gfX10_10 rfl dX10_votes_76 (hc0 κ C) rfl ?_
  refine gfX10_91 rfl dX10_votes_79 (hc20 κ C) rfl ?_
  refine gj_aload_n dX10_votes_82 rfl ?_
  refine gfX10_10 rfl dX10_votes_83 (hc0 κ C) rfl ?_
  refine gj_V1 lkX10_245 (hc20 κ C) rfl rfl (ev_X1_frost (hc20 κ C) ⟨(hc21 κ C), (hc22 κ C), (hc23 κ C), (by decide), (show ∀ c, C 22 c ≤ 5 from I.1 2 (by decide)), (show ∀ c, C 23 c ≤ 99 from I.1 3 (by decide))⟩ ⟨(hc24 κ C), (hc25 κ C), (hc26 κ C), (by decide), (show ∀ c, C 25 c ≤ 9 from I.1 5 (by decide)), (show ∀ c, C 26 c ≤ 9 from I.1 6 (by decide))⟩ (by omega)) dX10_votes_86 rfl rfl rfl rfl rfl ?_
  have hb1 := (show ∀ c, C 25 c ≤ 9 from I.1 5 (by decide)) ((C 20 0) % 7)
  refine gj_V1 lkX10_248 (hc27 κ C) rfl rfl (ev_X7_wet ⟨(hc27 κ C), (hc28 κ C), (hc29 κ C), (hc30 κ C), (by omega), (show ∀ c, C 28 c ≤ 5 from I.1 8 (by decide)), (show ∀ c, C 29 c ≤ 99 from I.1 9 (by decide)), (show ∀ c, C 30 c ≤ 24 from I.1 10 (by decide))⟩ ⟨(hc21 κ C), (hc22 κ C), (hc23 κ C), (by decide), (show ∀ c, C 22 c ≤ 5 from I.1 2 (by decide)), (show ∀ c, C 23 c ≤ 99 from I.1 3 (by decide))⟩ (by omega)) dX10_votes_89 rfl rfl rfl rfl rfl ?_
  have hb2 := @sp_wet_lt (C 28) (C 29) (C 30) (fun c => sp_bear (C 22 c) (C 23 c)) (C 25 ((C 20 0) % 7)) (C 27 0) (by omega)
  exact gj_ir rfl dX10_votes_92 rfl rfl rfl
set_option maxHeartbeats 1000000 in
set_option maxRecDepth 10000 in
theorem ev_X10_forget_0 {E : mj_E} {κ : Nat → Bool} {C : Nat → Nat → Nat} (I : mj_CI κ C)  : mj_Ev E iX10_forget [.ref 0, .int (nI 0)] (hh κ C) (mj_R (some (.int (nI (C 31 0)))) (hh κ (mj_u C 31 (mj_row [0])))) := by
  have hl0 : C 20 0 ≤ 999 := I.1 0 (by decide) 0
  have hl7 : C 27 0 ≤ 7 := I.1 7 (by decide) 0
  have hl11 : C 31 0 ≤ 6 := I.1 11 (by decide) 0
  have hl13 : C 33 0 ≤ 6 := I.1 13 (by decide) 0
  have hl15 : C 35 0 ≤ 8 := I.1 15 (by decide) 0
  have hl7x : C 7 0 ≤ 150 := I.2.2.2.2.2.2.1
  refine mj_Ev.of (L0 := [some (.ref 0), some (.int (nI 0))]) pnRX10 (Nat.le_of_ble_eq_true rfl) rfl ?_
  refine gj_iload_n dX10_forget_0 rfl ?_
  refine gj_ic (w := 0) dX10_forget_1 ?_
  refine gj_ic (w := 1) dX10_forget_2 ?_
  refine gj_S1 lkX10_65 (ev_X10_within_t (by omega) (by omega) (by omega)) dX10_forget_3 rfl rfl rfl rfl rfl ?_
  refine gj_if_neN (tgt := 14) (by omega) dX10_forget_6 rfl (fun zq0 => ?_) (fun zq0 => ?_)
  rotate_left
  · exfalso; revert zq0; decide
  refine gj_iload_n dX10_forget_14 rfl ?_
  refine gj_if_neN (tgt := 31) (by omega) dX10_forget_15 rfl (fun zq0 => ?_) (fun zq0 => ?_)
  · exfalso; revert zq0; decide
  refine gj_aload_n dX10_forget_18 rfl ?_
  refine gfX10_10 rfl dX10_forget_19 (hc0 κ C) rfl ?_
  refine gfX10_266 rfl dX10_forget_22 (hc20 κ C) rfl ?_
  refine gj_V1 lkX10_279 (hc31 κ C) rfl rfl (ev_X3_empty (hc31 κ C) (hc32 κ C) (by omega)) dX10_forget_25 rfl rfl rfl rfl rfl ?_
  refine gj_goto (tgt := 41) dX10_forget_28 rfl ?_
  exact gj_ir rfl dX10_forget_41 rfl rfl (hu31 rfl)
set_option maxHeartbeats 1000000 in
set_option maxRecDepth 10000 in
theorem ev_X10_forget_1 {E : mj_E} {κ : Nat → Bool} {C : Nat → Nat → Nat} (I : mj_CI κ C)  : mj_Ev E iX10_forget [.ref 0, .int (nI 1)] (hh κ C) (mj_R (some (.int (nI (C 33 0)))) (hh κ (mj_u C 33 (mj_row [0])))) := by
  have hl0 : C 20 0 ≤ 999 := I.1 0 (by decide) 0
  have hl7 : C 27 0 ≤ 7 := I.1 7 (by decide) 0
  have hl11 : C 31 0 ≤ 6 := I.1 11 (by decide) 0
  have hl13 : C 33 0 ≤ 6 := I.1 13 (by decide) 0
  have hl15 : C 35 0 ≤ 8 := I.1 15 (by decide) 0
  have hl7x : C 7 0 ≤ 150 := I.2.2.2.2.2.2.1
  refine mj_Ev.of (L0 := [some (.ref 0), some (.int (nI 1))]) pnRX10 (Nat.le_of_ble_eq_true rfl) rfl ?_
  refine gj_iload_n dX10_forget_0 rfl ?_
  refine gj_ic (w := 0) dX10_forget_1 ?_
  refine gj_ic (w := 1) dX10_forget_2 ?_
  refine gj_S1 lkX10_65 (ev_X10_within_t (by omega) (by omega) (by omega)) dX10_forget_3 rfl rfl rfl rfl rfl ?_
  refine gj_if_neN (tgt := 14) (by omega) dX10_forget_6 rfl (fun zq0 => ?_) (fun zq0 => ?_)
  rotate_left
  · exfalso; revert zq0; decide
  refine gj_iload_n dX10_forget_14 rfl ?_
  refine gj_if_neN (tgt := 31) (by omega) dX10_forget_15 rfl (fun zq0 => ?_) (fun zq0 => ?_)
  rotate_left
  · exfalso; revert zq0; decide
  refine gj_aload_n dX10_forget_31 rfl ?_
  refine gfX10_10 rfl dX10_forget_32 (hc0 κ C) rfl ?_
  refine gfX10_276 rfl dX10_forget_35 (hc20 κ C) rfl ?_
  refine gj_V1 lkX10_279 (hc33 κ C) rfl rfl (ev_X3_empty (hc33 κ C) (hc34 κ C) (by omega)) dX10_forget_38 rfl rfl rfl rfl rfl ?_
  exact gj_ir rfl dX10_forget_41 rfl rfl (hu33 rfl)
set_option maxHeartbeats 1000000 in
set_option maxRecDepth 10000 in
theorem ev_X10_status_0 {E : mj_E} {κ : Nat → Bool} {C : Nat → Nat → Nat} (I : mj_CI κ C)  : mj_Ev E iX10_status [.ref 0, .int (nI 0)] (hh κ C) (mj_R (some (.int (nI (C 11 0)))) (hh κ C)) := by
  have hl0 : C 20 0 ≤ 999 := I.1 0 (by decide) 0
  have hl7 : C 27 0 ≤ 7 := I.1 7 (by decide) 0
  have hl11 : C 31 0 ≤ 6 := I.1 11 (by decide) 0
  have hl13 : C 33 0 ≤ 6 := I.1 13 (by decide) 0
  have hl15 : C 35 0 ≤ 8 := I.1 15 (by decide) 0
  have hl7x : C 7 0 ≤ 150 := I.2.2.2.2.2.2.1
  refine mj_Ev.of (L0 := [some (.ref 0), some (.int (nI 0))]) pnRX10 (Nat.le_of_ble_eq_true rfl) rfl ?_
  refine gj_iload_n dX10_status_0 rfl ?_
  refine gj_ic (w := 0) dX10_status_1 ?_
  refine gj_ic (w := 2) dX10_status_2 ?_
  refine gj_S1 lkX10_65 (ev_X10_within_t (by omega) (by omega) (by omega)) dX10_status_3 rfl rfl rfl rfl rfl ?_
  refine gj_if_neN (tgt := 16) (by omega) dX10_status_6 rfl (fun zq0 => ?_) (fun zq0 => ?_)
  rotate_left
  · exfalso; revert zq0; decide
  refine gj_aload_n dX10_status_16 rfl ?_
  refine gfX10_44 rfl dX10_status_17 (hc0 κ C) rfl ?_
  refine gj_iload_n dX10_status_20 rfl ?_
  refine gj_ialdN dX10_status_21 (hc11 κ C) (by omega) (by omega) ?_
  exact gj_ir rfl dX10_status_22 rfl rfl rfl
set_option maxHeartbeats 1000000 in
set_option maxRecDepth 10000 in
theorem ev_X10_status_1 {E : mj_E} {κ : Nat → Bool} {C : Nat → Nat → Nat} (I : mj_CI κ C)  : mj_Ev E iX10_status [.ref 0, .int (nI 1)] (hh κ C) (mj_R (some (.int (nI (C 11 1)))) (hh κ C)) := by
  have hl0 : C 20 0 ≤ 999 := I.1 0 (by decide) 0
  have hl7 : C 27 0 ≤ 7 := I.1 7 (by decide) 0
  have hl11 : C 31 0 ≤ 6 := I.1 11 (by decide) 0
  have hl13 : C 33 0 ≤ 6 := I.1 13 (by decide) 0
  have hl15 : C 35 0 ≤ 8 := I.1 15 (by decide) 0
  have hl7x : C 7 0 ≤ 150 := I.2.2.2.2.2.2.1
  refine mj_Ev.of (L0 := [some (.ref 0), some (.int (nI 1))]) pnRX10 (Nat.le_of_ble_eq_true rfl) rfl ?_
  refine gj_iload_n dX10_status_0 rfl ?_
  refine gj_ic (w := 0) dX10_status_1 ?_
  refine gj_ic (w := 2) dX10_status_2 ?_
  refine gj_S1 lkX10_65 (ev_X10_within_t (by omega) (by omega) (by omega)) dX10_status_3 rfl rfl rfl rfl rfl ?_
  refine gj_if_neN (tgt := 16) (by omega) dX10_status_6 rfl (fun zq0 => ?_) (fun zq0 => ?_)
  rotate_left
  · exfalso; revert zq0; decide
  refine gj_aload_n dX10_status_16 rfl ?_
  refine gfX10_44 rfl dX10_status_17 (hc0 κ C) rfl ?_
  refine gj_iload_n dX10_status_20 rfl ?_
  refine gj_ialdN dX10_status_21 (hc11 κ C) (by omega) (by omega) ?_
  exact gj_ir rfl dX10_status_22 rfl rfl rfl
set_option maxHeartbeats 1000000 in
set_option maxRecDepth 10000 in
theorem ev_X10_status_2 {E : mj_E} {κ : Nat → Bool} {C : Nat → Nat → Nat} (I : mj_CI κ C)  : mj_Ev E iX10_status [.ref 0, .int (nI 2)] (hh κ C) (mj_R (some (.int (nI (C 11 2)))) (hh κ C)) := by
  have hl0 : C 20 0 ≤ 999 := I.1 0 (by decide) 0
  have hl7 : C 27 0 ≤ 7 := I.1 7 (by decide) 0
  have hl11 : C 31 0 ≤ 6 := I.1 11 (by decide) 0
  have hl13 : C 33 0 ≤ 6 := I.1 13 (by decide) 0
  have hl15 : C 35 0 ≤ 8 := I.1 15 (by decide) 0
  have hl7x : C 7 0 ≤ 150 := I.2.2.2.2.2.2.1
  refine mj_Ev.of (L0 := [some (.ref 0), some (.int (nI 2))]) pnRX10 (Nat.le_of_ble_eq_true rfl) rfl ?_
  refine gj_iload_n dX10_status_0 rfl ?_
  refine gj_ic (w := 0) dX10_status_1 ?_
  refine gj_ic (w := 2) dX10_status_2 ?_
  refine gj_S1 lkX10_65 (ev_X10_within_t (by omega) (by omega) (by omega)) dX10_status_3 rfl rfl rfl rfl rfl ?_
  refine gj_if_neN (tgt := 16) (by omega) dX10_status_6 rfl (fun zq0 => ?_) (fun zq0 => ?_)
  rotate_left
  · exfalso; revert zq0; decide
  refine gj_aload_n dX10_status_16 rfl ?_
  refine gfX10_44 rfl dX10_status_17 (hc0 κ C) rfl ?_
  refine gj_iload_n dX10_status_20 rfl ?_
  refine gj_ialdN dX10_status_21 (hc11 κ C) (by omega) (by omega) ?_
  exact gj_ir rfl dX10_status_22 rfl rfl rfl
set_option maxHeartbeats 1000000 in
set_option maxRecDepth 10000 in
theorem ev_X10_amount_0 {E : mj_E} {κ : Nat → Bool} {C : Nat → Nat → Nat} (I : mj_CI κ C)  : mj_Ev E iX10_amount [.ref 0, .int (nI 0)] (hh κ C) (mj_R (some (.int (nI (C 27 0)))) (hh κ C)) := by
  have hl0 : C 20 0 ≤ 999 := I.1 0 (by decide) 0
  have hl7 : C 27 0 ≤ 7 := I.1 7 (by decide) 0
  have hl11 : C 31 0 ≤ 6 := I.1 11 (by decide) 0
  have hl13 : C 33 0 ≤ 6 := I.1 13 (by decide) 0
  have hl15 : C 35 0 ≤ 8 := I.1 15 (by decide) 0
  have hl7x : C 7 0 ≤ 150 := I.2.2.2.2.2.2.1
  refine mj_Ev.of (L0 := [some (.ref 0), some (.int (nI 0))]) pnRX10 (Nat.le_of_ble_eq_true rfl) rfl ?_
  refine gj_iload_n dX10_amount_0 rfl ?_
  refine gj_tabIn (a := 0) (tgt := 40) (by decide) dX10_amount_1 (by decide) (by decide) rfl rfl ?_
  refine gj_aload_n dX10_amount_40 rfl ?_
  refine gfX10_10 rfl dX10_amount_41 (hc0 κ C) rfl ?_
  refine gfX10_73 rfl dX10_amount_44 (hc20 κ C) rfl ?_
  refine gfX10_77 rfl dX10_amount_47 (hc27 κ C) rfl ?_
  exact gj_ir rfl dX10_amount_50 rfl rfl rfl
set_option maxHeartbeats 1000000 in
set_option maxRecDepth 10000 in
theorem ev_X10_amount_1 {E : mj_E} {κ : Nat → Bool} {C : Nat → Nat → Nat} (I : mj_CI κ C)  : mj_Ev E iX10_amount [.ref 0, .int (nI 1)] (hh κ C) (mj_R (some (.int (nI (C 20 0)))) (hh κ C)) := by
  have hl0 : C 20 0 ≤ 999 := I.1 0 (by decide) 0
  have hl7 : C 27 0 ≤ 7 := I.1 7 (by decide) 0
  have hl11 : C 31 0 ≤ 6 := I.1 11 (by decide) 0
  have hl13 : C 33 0 ≤ 6 := I.1 13 (by decide) 0
  have hl15 : C 35 0 ≤ 8 := I.1 15 (by decide) 0
  have hl7x : C 7 0 ≤ 150 := I.2.2.2.2.2.2.1
  refine mj_Ev.of (L0 := [some (.ref 0), some (.int (nI 1))]) pnRX10 (Nat.le_of_ble_eq_true rfl) rfl ?_
  refine gj_iload_n dX10_amount_0 rfl ?_
  refine gj_tabIn (a := 1) (tgt := 51) (by decide) dX10_amount_1 (by decide) (by decide) rfl rfl ?_
  refine gj_aload_n dX10_amount_51 rfl ?_
  refine gfX10_10 rfl dX10_amount_52 (hc0 κ C) rfl ?_
  refine gfX10_184 rfl dX10_amount_55 (hc20 κ C) rfl ?_
  exact gj_ir rfl dX10_amount_58 rfl rfl rfl
set_option maxHeartbeats 1000000 in
set_option maxRecDepth 10000 in
theorem ev_X10_amount_2 {E : mj_E} {κ : Nat → Bool} {C : Nat → Nat → Nat} (I : mj_CI κ C)  : mj_Ev E iX10_amount [.ref 0, .int (nI 2)] (hh κ C) (mj_R (some (.int (nI (sp_sum (C 23) 25)))) (hh κ C)) := by
  have hl0 : C 20 0 ≤ 999 := I.1 0 (by decide) 0
  have hl7 : C 27 0 ≤ 7 := I.1 7 (by decide) 0
  have hl11 : C 31 0 ≤ 6 := I.1 11 (by decide) 0
  have hl13 : C 33 0 ≤ 6 := I.1 13 (by decide) 0
  have hl15 : C 35 0 ≤ 8 := I.1 15 (by decide) 0
  have hl7x : C 7 0 ≤ 150 := I.2.2.2.2.2.2.1
  refine mj_Ev.of (L0 := [some (.ref 0), some (.int (nI 2))]) pnRX10 (Nat.le_of_ble_eq_true rfl) rfl ?_
  refine gj_iload_n dX10_amount_0 rfl ?_
  refine gj_tabIn (a := 2) (tgt := 59) (by decide) dX10_amount_1 (by decide) (by decide) rfl rfl ?_
  refine gj_aload_n dX10_amount_59 rfl ?_
  refine gfX10_10 rfl dX10_amount_60 (hc0 κ C) rfl ?_
  refine gfX10_91 rfl dX10_amount_63 (hc20 κ C) rfl ?_
  refine gj_V1 lkX10_158 (hc21 κ C) rfl rfl (ev_X4_together ⟨(hc21 κ C), (hc22 κ C), (hc23 κ C), (by decide), (show ∀ c, C 22 c ≤ 5 from I.1 2 (by decide)), (show ∀ c, C 23 c ≤ 99 from I.1 3 (by decide))⟩) dX10_amount_66 rfl rfl rfl rfl rfl ?_
  exact gj_ir rfl dX10_amount_69 rfl rfl rfl
set_option maxHeartbeats 1000000 in
set_option maxRecDepth 10000 in
theorem ev_X10_amount_3 {E : mj_E} {κ : Nat → Bool} {C : Nat → Nat → Nat} (I : mj_CI κ C)  : mj_Ev E iX10_amount [.ref 0, .int (nI 3)] (hh κ C) (mj_R (some (.int (nI (C 31 0)))) (hh κ C)) := by
  have hl0 : C 20 0 ≤ 999 := I.1 0 (by decide) 0
  have hl7 : C 27 0 ≤ 7 := I.1 7 (by decide) 0
  have hl11 : C 31 0 ≤ 6 := I.1 11 (by decide) 0
  have hl13 : C 33 0 ≤ 6 := I.1 13 (by decide) 0
  have hl15 : C 35 0 ≤ 8 := I.1 15 (by decide) 0
  have hl7x : C 7 0 ≤ 150 := I.2.2.2.2.2.2.1
  refine mj_Ev.of (L0 := [some (.ref 0), some (.int (nI 3))]) pnRX10 (Nat.le_of_ble_eq_true rfl) rfl ?_
  refine gj_iload_n dX10_amount_0 rfl ?_
  refine gj_tabIn (a := 3) (tgt := 70) (by decide) dX10_amount_1 (by decide) (by decide) rfl rfl ?_
  refine gj_aload_n dX10_amount_70 rfl ?_
  refine gfX10_10 rfl dX10_amount_71 (hc0 κ C) rfl ?_
  refine gfX10_266 rfl dX10_amount_74 (hc20 κ C) rfl ?_
  refine gfX10_270 rfl dX10_amount_77 (hc31 κ C) rfl ?_
  exact gj_ir rfl dX10_amount_80 rfl rfl rfl
set_option maxHeartbeats 1000000 in
set_option maxRecDepth 10000 in
theorem ev_X10_amount_4 {E : mj_E} {κ : Nat → Bool} {C : Nat → Nat → Nat} (I : mj_CI κ C)  : mj_Ev E iX10_amount [.ref 0, .int (nI 4)] (hh κ C) (mj_R (some (.int (nI (C 33 0)))) (hh κ C)) := by
  have hl0 : C 20 0 ≤ 999 := I.1 0 (by decide) 0
  have hl7 : C 27 0 ≤ 7 := I.1 7 (by decide) 0
  have hl11 : C 31 0 ≤ 6 := I.1 11 (by decide) 0
  have hl13 : C 33 0 ≤ 6 := I.1 13 (by decide) 0
  have hl15 : C 35 0 ≤ 8 := I.1 15 (by decide) 0
  have hl7x : C 7 0 ≤ 150 := I.2.2.2.2.2.2.1
  refine mj_Ev.of (L0 := [some (.ref 0), some (.int (nI 4))]) pnRX10 (Nat.le_of_ble_eq_true rfl) rfl ?_
  refine gj_iload_n dX10_amount_0 rfl ?_
  refine gj_tabIn (a := 4) (tgt := 81) (by decide) dX10_amount_1 (by decide) (by decide) rfl rfl ?_
  refine gj_aload_n dX10_amount_81 rfl ?_
  refine gfX10_10 rfl dX10_amount_82 (hc0 κ C) rfl ?_
  refine gfX10_276 rfl dX10_amount_85 (hc20 κ C) rfl ?_
  refine gfX10_270 rfl dX10_amount_88 (hc33 κ C) rfl ?_
  exact gj_ir rfl dX10_amount_91 rfl rfl rfl
set_option maxHeartbeats 1000000 in
set_option maxRecDepth 10000 in
theorem ev_X10_amount_5 {E : mj_E} {κ : Nat → Bool} {C : Nat → Nat → Nat} (I : mj_CI κ C)  : mj_Ev E iX10_amount [.ref 0, .int (nI 5)] (hh κ C) (mj_R (some (.int (nI (C 35 0)))) (hh κ C)) := by
  have hl0 : C 20 0 ≤ 999 := I.1 0 (by decide) 0
  have hl7 : C 27 0 ≤ 7 := I.1 7 (by decide) 0
  have hl11 : C 31 0 ≤ 6 := I.1 11 (by decide) 0
  have hl13 : C 33 0 ≤ 6 := I.1 13 (by decide) 0
  have hl15 : C 35 0 ≤ 8 := I.1 15 (by decide) 0
  have hl7x : C 7 0 ≤ 150 := I.2.2.2.2.2.2.1
  refine mj_Ev.of (L0 := [some (.ref 0), some (.int (nI 5))]) pnRX10 (Nat.le_of_ble_eq_true rfl) rfl ?_
  refine gj_iload_n dX10_amount_0 rfl ?_
  refine gj_tabIn (a := 5) (tgt := 92) (by decide) dX10_amount_1 (by decide) (by decide) rfl rfl ?_
  refine gj_aload_n dX10_amount_92 rfl ?_
  refine gfX10_10 rfl dX10_amount_93 (hc0 κ C) rfl ?_
  refine gfX10_102 rfl dX10_amount_96 (hc20 κ C) rfl ?_
  refine gfX10_176 rfl dX10_amount_99 (hc35 κ C) rfl ?_
  exact gj_ir rfl dX10_amount_102 rfl rfl rfl
set_option maxHeartbeats 1000000 in
set_option maxRecDepth 10000 in
theorem ev_X10_amount_6 {E : mj_E} {κ : Nat → Bool} {C : Nat → Nat → Nat} (I : mj_CI κ C)  : mj_Ev E iX10_amount [.ref 0, .int (nI 6)] (hh κ C) (mj_R (some (.int (nI (C 7 0)))) (hh κ C)) := by
  have hl0 : C 20 0 ≤ 999 := I.1 0 (by decide) 0
  have hl7 : C 27 0 ≤ 7 := I.1 7 (by decide) 0
  have hl11 : C 31 0 ≤ 6 := I.1 11 (by decide) 0
  have hl13 : C 33 0 ≤ 6 := I.1 13 (by decide) 0
  have hl15 : C 35 0 ≤ 8 := I.1 15 (by decide) 0
  have hl7x : C 7 0 ≤ 150 := I.2.2.2.2.2.2.1
  refine mj_Ev.of (L0 := [some (.ref 0), some (.int (nI 6))]) pnRX10 (Nat.le_of_ble_eq_true rfl) rfl ?_
  refine gj_iload_n dX10_amount_0 rfl ?_
  refine gj_tabOut (a := 6) (tgt := 103) (by decide) dX10_amount_1 (by decide) rfl ?_
  refine gj_aload_n dX10_amount_103 rfl ?_
  refine gfX10_40 rfl dX10_amount_104 (hc0 κ C) rfl ?_
  refine gfX10_139 rfl dX10_amount_107 (hc7 κ C) rfl ?_
  exact gj_ir rfl dX10_amount_110 rfl rfl rfl
set_option maxHeartbeats 1000000 in
set_option maxRecDepth 10000 in
theorem ev_X10_count_0 {E : mj_E} {κ : Nat → Bool} {C : Nat → Nat → Nat} (I : mj_CI κ C)  : mj_Ev E iX10_count [.ref 0, .int (nI 0)] (hh κ C) (mj_R (some (.int (nI (C 27 0)))) (hh κ C)) := by
  have hl0 : C 20 0 ≤ 999 := I.1 0 (by decide) 0
  have hl7 : C 27 0 ≤ 7 := I.1 7 (by decide) 0
  have hl11 : C 31 0 ≤ 6 := I.1 11 (by decide) 0
  have hl13 : C 33 0 ≤ 6 := I.1 13 (by decide) 0
  have hl15 : C 35 0 ≤ 8 := I.1 15 (by decide) 0
  have hl7x : C 7 0 ≤ 150 := I.2.2.2.2.2.2.1
  refine mj_Ev.of (L0 := [some (.ref 0), some (.int (nI 0))]) pnRX10 (Nat.le_of_ble_eq_true rfl) rfl ?_
  refine gj_iload_n dX10_count_0 rfl ?_
  refine gj_ic (w := 0) dX10_count_1 ?_
  refine gj_bp 6 dX10_count_2 (by decide) ?_
  refine gj_S1 lkX10_65 (ev_X10_within_t (by omega) (by omega) (by omega)) dX10_count_4 rfl rfl rfl rfl rfl ?_
  refine gj_if_eqN (tgt := 18) (by omega) dX10_count_7 rfl (fun zq0 => ?_) (fun zq0 => ?_)
  · exfalso; revert zq0; decide
  refine gj_aload_n dX10_count_10 rfl ?_
  refine gj_iload_n dX10_count_11 rfl ?_
  refine gj_V1 lkX10_324 (hc0 κ C) rfl rfl (ev_X10_amount_0 I) dX10_count_12 rfl rfl rfl rfl rfl ?_
  refine gj_goto (tgt := 22) dX10_count_15 rfl ?_
  exact gj_ir rfl dX10_count_22 rfl rfl rfl
set_option maxHeartbeats 1000000 in
set_option maxRecDepth 10000 in
theorem ev_X10_count_1 {E : mj_E} {κ : Nat → Bool} {C : Nat → Nat → Nat} (I : mj_CI κ C)  : mj_Ev E iX10_count [.ref 0, .int (nI 1)] (hh κ C) (mj_R (some (.int (nI (C 20 0)))) (hh κ C)) := by
  have hl0 : C 20 0 ≤ 999 := I.1 0 (by decide) 0
  have hl7 : C 27 0 ≤ 7 := I.1 7 (by decide) 0
  have hl11 : C 31 0 ≤ 6 := I.1 11 (by decide) 0
  have hl13 : C 33 0 ≤ 6 := I.1 13 (by decide) 0
  have hl15 : C 35 0 ≤ 8 := I.1 15 (by decide) 0
  have hl7x : C 7 0 ≤ 150 := I.2.2.2.2.2.2.1
  refine mj_Ev.of (L0 := [some (.ref 0), some (.int (nI 1))]) pnRX10 (Nat.le_of_ble_eq_true rfl) rfl ?_
  refine gj_iload_n dX10_count_0 rfl ?_
  refine gj_ic (w := 0) dX10_count_1 ?_
  refine gj_bp 6 dX10_count_2 (by decide) ?_
  refine gj_S1 lkX10_65 (ev_X10_within_t (by omega) (by omega) (by omega)) dX10_count_4 rfl rfl rfl rfl rfl ?_
  refine gj_if_eqN (tgt := 18) (by omega) dX10_count_7 rfl (fun zq0 => ?_) (fun zq0 => ?_)
  · exfalso; revert zq0; decide
  refine gj_aload_n dX10_count_10 rfl ?_
  refine gj_iload_n dX10_count_11 rfl ?_
  refine gj_V1 lkX10_324 (hc0 κ C) rfl rfl (ev_X10_amount_1 I) dX10_count_12 rfl rfl rfl rfl rfl ?_
  refine gj_goto (tgt := 22) dX10_count_15 rfl ?_
  exact gj_ir rfl dX10_count_22 rfl rfl rfl
set_option maxHeartbeats 1000000 in
set_option maxRecDepth 10000 in
theorem ev_X10_count_2 {E : mj_E} {κ : Nat → Bool} {C : Nat → Nat → Nat} (I : mj_CI κ C)  : mj_Ev E iX10_count [.ref 0, .int (nI 2)] (hh κ C) (mj_R (some (.int (nI (sp_sum (C 23) 25)))) (hh κ C)) := by
  have hl0 : C 20 0 ≤ 999 := I.1 0 (by decide) 0
  have hl7 : C 27 0 ≤ 7 := I.1 7 (by decide) 0
  have hl11 : C 31 0 ≤ 6 := I.1 11 (by decide) 0
  have hl13 : C 33 0 ≤ 6 := I.1 13 (by decide) 0
  have hl15 : C 35 0 ≤ 8 := I.1 15 (by decide) 0
  have hl7x : C 7 0 ≤ 150 := I.2.2.2.2.2.2.1
  refine mj_Ev.of (L0 := [some (.ref 0), some (.int (nI 2))]) pnRX10 (Nat.le_of_ble_eq_true rfl) rfl ?_
  refine gj_iload_n dX10_count_0 rfl ?_
  refine gj_ic (w := 0) dX10_count_1 ?_
  refine gj_bp 6 dX10_count_2 (by decide) ?_
  refine gj_S1 lkX10_65 (ev_X10_within_t (by omega) (by omega) (by omega)) dX10_count_4 rfl rfl rfl rfl rfl ?_
  refine gj_if_eqN (tgt := 18) (by omega) dX10_count_7 rfl (fun zq0 => ?_) (fun zq0 => ?_)
  · exfalso; revert zq0; decide
  refine gj_aload_n dX10_count_10 rfl ?_
  refine gj_iload_n dX10_count_11 rfl ?_
  refine gj_V1 lkX10_324 (hc0 κ C) rfl rfl (ev_X10_amount_2 I) dX10_count_12 rfl rfl rfl rfl rfl ?_
  refine gj_goto (tgt := 22) dX10_count_15 rfl ?_
  exact gj_ir rfl dX10_count_22 rfl rfl rfl
set_option maxHeartbeats 1000000 in
set_option maxRecDepth 10000 in
theorem ev_X10_count_3 {E : mj_E} {κ : Nat → Bool} {C : Nat → Nat → Nat} (I : mj_CI κ C)  : mj_Ev E iX10_count [.ref 0, .int (nI 3)] (hh κ C) (mj_R (some (.int (nI (C 31 0)))) (hh κ C)) := by
  have hl0 : C 20 0 ≤ 999 := I.1 0 (by decide) 0
  have hl7 : C 27 0 ≤ 7 := I.1 7 (by decide) 0
  have hl11 : C 31 0 ≤ 6 := I.1 11 (by decide) 0
  have hl13 : C 33 0 ≤ 6 := I.1 13 (by decide) 0
  have hl15 : C 35 0 ≤ 8 := I.1 15 (by decide) 0
  have hl7x : C 7 0 ≤ 150 := I.2.2.2.2.2.2.1
  refine mj_Ev.of (L0 := [some (.ref 0), some (.int (nI 3))]) pnRX10 (Nat.le_of_ble_eq_true rfl) rfl ?_
  refine gj_iload_n dX10_count_0 rfl ?_
  refine gj_ic (w := 0) dX10_count_1 ?_
  refine gj_bp 6 dX10_count_2 (by decide) ?_
  refine gj_S1 lkX10_65 (ev_X10_within_t (by omega) (by omega) (by omega)) dX10_count_4 rfl rfl rfl rfl rfl ?_
  refine gj_if_eqN (tgt := 18) (by omega) dX10_count_7 rfl (fun zq0 => ?_) (fun zq0 => ?_)
  · exfalso; revert zq0; decide
  refine gj_aload_n dX10_count_10 rfl ?_
  refine gj_iload_n dX10_count_11 rfl ?_
  refine gj_V1 lkX10_324 (hc0 κ C) rfl rfl (ev_X10_amount_3 I) dX10_count_12 rfl rfl rfl rfl rfl ?_
  refine gj_goto (tgt := 22) dX10_count_15 rfl ?_
  exact gj_ir rfl dX10_count_22 rfl rfl rfl
set_option maxHeartbeats 1000000 in
set_option maxRecDepth 10000 in
theorem ev_X10_count_4 {E : mj_E} {κ : Nat → Bool} {C : Nat → Nat → Nat} (I : mj_CI κ C)  : mj_Ev E iX10_count [.ref 0, .int (nI 4)] (hh κ C) (mj_R (some (.int (nI (C 33 0)))) (hh κ C)) := by
  have hl0 : C 20 0 ≤ 999 := I.1 0 (by decide) 0
  have hl7 : C 27 0 ≤ 7 := I.1 7 (by decide) 0
  have hl11 : C 31 0 ≤ 6 := I.1 11 (by decide) 0
  have hl13 : C 33 0 ≤ 6 := I.1 13 (by decide) 0
  have hl15 : C 35 0 ≤ 8 := I.1 15 (by decide) 0
  have hl7x : C 7 0 ≤ 150 := I.2.2.2.2.2.2.1
  refine mj_Ev.of (L0 := [some (.ref 0), some (.int (nI 4))]) pnRX10 (Nat.le_of_ble_eq_true rfl) rfl ?_
  refine gj_iload_n dX10_count_0 rfl ?_
  refine gj_ic (w := 0) dX10_count_1 ?_
  refine gj_bp 6 dX10_count_2 (by decide) ?_
  refine gj_S1 lkX10_65 (ev_X10_within_t (by omega) (by omega) (by omega)) dX10_count_4 rfl rfl rfl rfl rfl ?_
  refine gj_if_eqN (tgt := 18) (by omega) dX10_count_7 rfl (fun zq0 => ?_) (fun zq0 => ?_)
  · exfalso; revert zq0; decide
  refine gj_aload_n dX10_count_10 rfl ?_
  refine gj_iload_n dX10_count_11 rfl ?_
  refine gj_V1 lkX10_324 (hc0 κ C) rfl rfl (ev_X10_amount_4 I) dX10_count_12 rfl rfl rfl rfl rfl ?_
  refine gj_goto (tgt := 22) dX10_count_15 rfl ?_
  exact gj_ir rfl dX10_count_22 rfl rfl rfl
set_option maxHeartbeats 1000000 in
set_option maxRecDepth 10000 in
theorem ev_X10_count_5 {E : mj_E} {κ : Nat → Bool} {C : Nat → Nat → Nat} (I : mj_CI κ C)  : mj_Ev E iX10_count [.ref 0, .int (nI 5)] (hh κ C) (mj_R (some (.int (nI (C 35 0)))) (hh κ C)) := by
  have hl0 : C 20 0 ≤ 999 := I.1 0 (by decide) 0
  have hl7 : C 27 0 ≤ 7 := I.1 7 (by decide) 0
  have hl11 : C 31 0 ≤ 6 := I.1 11 (by decide) 0
  have hl13 : C 33 0 ≤ 6 := I.1 13 (by decide) 0
  have hl15 : C 35 0 ≤ 8 := I.1 15 (by decide) 0
  have hl7x : C 7 0 ≤ 150 := I.2.2.2.2.2.2.1
  refine mj_Ev.of (L0 := [some (.ref 0), some (.int (nI 5))]) pnRX10 (Nat.le_of_ble_eq_true rfl) rfl ?_
  refine gj_iload_n dX10_count_0 rfl ?_
  refine gj_ic (w := 0) dX10_count_1 ?_
  refine gj_bp 6 dX10_count_2 (by decide) ?_
  refine gj_S1 lkX10_65 (ev_X10_within_t (by omega) (by omega) (by omega)) dX10_count_4 rfl rfl rfl rfl rfl ?_
  refine gj_if_eqN (tgt := 18) (by omega) dX10_count_7 rfl (fun zq0 => ?_) (fun zq0 => ?_)
  · exfalso; revert zq0; decide
  refine gj_aload_n dX10_count_10 rfl ?_
  refine gj_iload_n dX10_count_11 rfl ?_
  refine gj_V1 lkX10_324 (hc0 κ C) rfl rfl (ev_X10_amount_5 I) dX10_count_12 rfl rfl rfl rfl rfl ?_
  refine gj_goto (tgt := 22) dX10_count_15 rfl ?_
  exact gj_ir rfl dX10_count_22 rfl rfl rfl
set_option maxHeartbeats 1000000 in
set_option maxRecDepth 10000 in
theorem ev_X10_count_6 {E : mj_E} {κ : Nat → Bool} {C : Nat → Nat → Nat} (I : mj_CI κ C)  : mj_Ev E iX10_count [.ref 0, .int (nI 6)] (hh κ C) (mj_R (some (.int (nI (C 7 0)))) (hh κ C)) := by
  have hl0 : C 20 0 ≤ 999 := I.1 0 (by decide) 0
  have hl7 : C 27 0 ≤ 7 := I.1 7 (by decide) 0
  have hl11 : C 31 0 ≤ 6 := I.1 11 (by decide) 0
  have hl13 : C 33 0 ≤ 6 := I.1 13 (by decide) 0
  have hl15 : C 35 0 ≤ 8 := I.1 15 (by decide) 0
  have hl7x : C 7 0 ≤ 150 := I.2.2.2.2.2.2.1
  refine mj_Ev.of (L0 := [some (.ref 0), some (.int (nI 6))]) pnRX10 (Nat.le_of_ble_eq_true rfl) rfl ?_
  refine gj_iload_n dX10_count_0 rfl ?_
  refine gj_ic (w := 0) dX10_count_1 ?_
  refine gj_bp 6 dX10_count_2 (by decide) ?_
  refine gj_S1 lkX10_65 (ev_X10_within_t (by omega) (by omega) (by omega)) dX10_count_4 rfl rfl rfl rfl rfl ?_
  refine gj_if_eqN (tgt := 18) (by omega) dX10_count_7 rfl (fun zq0 => ?_) (fun zq0 => ?_)
  · exfalso; revert zq0; decide
  refine gj_aload_n dX10_count_10 rfl ?_
  refine gj_iload_n dX10_count_11 rfl ?_
  refine gj_V1 lkX10_324 (hc0 κ C) rfl rfl (ev_X10_amount_6 I) dX10_count_12 rfl rfl rfl rfl rfl ?_
  refine gj_goto (tgt := 22) dX10_count_15 rfl ?_
  exact gj_ir rfl dX10_count_22 rfl rfl rfl
set_option maxHeartbeats 1000000 in
set_option maxRecDepth 10000 in
theorem ev_X10_part_0 {E : mj_E} {κ : Nat → Bool} {C : Nat → Nat → Nat} (I : mj_CI κ C)  : mj_Ev E iX10_part [.ref 0, .int (nI 0)] (hh κ C) (mj_R (some (.long (lN (C 0 0)))) (hh κ C)) := by
  have hl0 : C 20 0 ≤ 999 := I.1 0 (by decide) 0
  have hl7 : C 27 0 ≤ 7 := I.1 7 (by decide) 0
  have hl11 : C 31 0 ≤ 6 := I.1 11 (by decide) 0
  have hl13 : C 33 0 ≤ 6 := I.1 13 (by decide) 0
  have hl15 : C 35 0 ≤ 8 := I.1 15 (by decide) 0
  have hl7x : C 7 0 ≤ 150 := I.2.2.2.2.2.2.1
  refine mj_Ev.of (L0 := [some (.ref 0), some (.int (nI 0))]) pnRX10 (Nat.le_of_ble_eq_true rfl) rfl ?_
  refine gj_iload_n dX10_part_0 rfl ?_
  refine gj_ic (w := 0) dX10_part_1 ?_
  refine gj_ic (w := 1) dX10_part_2 ?_
  refine gj_S1 lkX10_65 (ev_X10_within_t (by omega) (by omega) (by omega)) dX10_part_3 rfl rfl rfl rfl rfl ?_
  refine gj_if_neN (tgt := 15) (by omega) dX10_part_6 rfl (fun zq0 => ?_) (fun zq0 => ?_)
  rotate_left
  · exfalso; revert zq0; decide
  refine gj_iload_n dX10_part_15 rfl ?_
  refine gj_if_neN (tgt := 26) (by omega) dX10_part_16 rfl (fun zq0 => ?_) (fun zq0 => ?_)
  · exfalso; revert zq0; decide
  refine gj_aload_n dX10_part_19 rfl ?_
  refine gfX10_58 rfl dX10_part_20 (hc0 κ C) rfl ?_
  refine gj_goto (tgt := 30) dX10_part_23 rfl ?_
  exact gj_lr rfl dX10_part_30 rfl rfl rfl
set_option maxHeartbeats 1000000 in
set_option maxRecDepth 10000 in
theorem ev_X10_part_1 {E : mj_E} {κ : Nat → Bool} {C : Nat → Nat → Nat} (I : mj_CI κ C)  : mj_Ev E iX10_part [.ref 0, .int (nI 1)] (hh κ C) (mj_R (some (.long (lN (C 0 1)))) (hh κ C)) := by
  have hl0 : C 20 0 ≤ 999 := I.1 0 (by decide) 0
  have hl7 : C 27 0 ≤ 7 := I.1 7 (by decide) 0
  have hl11 : C 31 0 ≤ 6 := I.1 11 (by decide) 0
  have hl13 : C 33 0 ≤ 6 := I.1 13 (by decide) 0
  have hl15 : C 35 0 ≤ 8 := I.1 15 (by decide) 0
  have hl7x : C 7 0 ≤ 150 := I.2.2.2.2.2.2.1
  refine mj_Ev.of (L0 := [some (.ref 0), some (.int (nI 1))]) pnRX10 (Nat.le_of_ble_eq_true rfl) rfl ?_
  refine gj_iload_n dX10_part_0 rfl ?_
  refine gj_ic (w := 0) dX10_part_1 ?_
  refine gj_ic (w := 1) dX10_part_2 ?_
  refine gj_S1 lkX10_65 (ev_X10_within_t (by omega) (by omega) (by omega)) dX10_part_3 rfl rfl rfl rfl rfl ?_
  refine gj_if_neN (tgt := 15) (by omega) dX10_part_6 rfl (fun zq0 => ?_) (fun zq0 => ?_)
  rotate_left
  · exfalso; revert zq0; decide
  refine gj_iload_n dX10_part_15 rfl ?_
  refine gj_if_neN (tgt := 26) (by omega) dX10_part_16 rfl (fun zq0 => ?_) (fun zq0 => ?_)
  rotate_left
  · exfalso; revert zq0; decide
  refine gj_aload_n dX10_part_26 rfl ?_
  refine gfX10_62 rfl dX10_part_27 (hc0 κ C) rfl ?_
  exact gj_lr rfl dX10_part_30 rfl rfl rfl
set_option maxHeartbeats 1000000 in
set_option maxRecDepth 10000 in
theorem ev_X10_note {E : mj_E} {κ : Nat → Bool} {C : Nat → Nat → Nat} (I : mj_CI κ C) {c i f s j : Nat} (h0 : c < 25) (h1 : i ≤ 99) (h2 : f ≤ 9) (h3 : s ≤ 9) (h4 : j ≤ 99) (h5 : C 31 0 < 6) : mj_Ev E iX10_note [.ref 0, .int (nI c), .int (nI i), .int (nI f), .int (nI s), .int (nI j)] (hh κ C) (mj_R (some (.int (nI ((C 31 0) + 1)))) (hh κ (mj_u (mj_u C 32 (mj_un (mj_un (mj_un (mj_un (mj_un (C 32) ((C 31 0) * 5) c) ((C 31 0) * 5 + 1) i) ((C 31 0) * 5 + 2) f) ((C 31 0) * 5 + 3) s) ((C 31 0) * 5 + 4) j)) 31 (mj_row [(C 31 0) + 1])))) := by
  have hl0 : C 20 0 ≤ 999 := I.1 0 (by decide) 0
  have hl7 : C 27 0 ≤ 7 := I.1 7 (by decide) 0
  have hl11 : C 31 0 ≤ 6 := I.1 11 (by decide) 0
  have hl13 : C 33 0 ≤ 6 := I.1 13 (by decide) 0
  have hl15 : C 35 0 ≤ 8 := I.1 15 (by decide) 0
  have hl7x : C 7 0 ≤ 150 := I.2.2.2.2.2.2.1
  refine mj_Ev.of (L0 := [some (.ref 0), some (.int (nI c)), some (.int (nI i)), some (.int (nI f)), some (.int (nI s)), some (.int (nI j))]) pnRX10 (Nat.le_of_ble_eq_true rfl) rfl ?_
  refine gj_iload_n dX10_note_0 rfl ?_
  refine gj_S1 lkX10_87 (ev_X10_isCell_t (by omega) (by omega)) dX10_note_1 rfl rfl rfl rfl rfl ?_
  refine gj_if_eqN (tgt := 43) (by omega) dX10_note_4 rfl (fun zq0 => ?_) (fun zq0 => ?_)
  · exfalso; revert zq0; decide
  refine gj_iload_n dX10_note_7 rfl ?_
  refine gj_ic (w := 0) dX10_note_8 ?_
  refine gj_bp 99 dX10_note_9 (by decide) ?_
  refine gj_S1 lkX10_65 (ev_X10_within_t (by omega) (by omega) (by omega)) dX10_note_11 rfl rfl rfl rfl rfl ?_
  refine gj_if_eqN (tgt := 43) (by omega) dX10_note_14 rfl (fun zq0 => ?_) (fun zq0 => ?_)
  · exfalso; revert zq0; decide
  refine gj_iload_n dX10_note_17 rfl ?_
  refine gj_S1 lkX10_111 (ev_X10_isSky_t (by omega) (by omega)) dX10_note_18 rfl rfl rfl rfl rfl ?_
  refine gj_if_eqN (tgt := 43) (by omega) dX10_note_21 rfl (fun zq0 => ?_) (fun zq0 => ?_)
  · exfalso; revert zq0; decide
  refine gj_iload dX10_note_24 rfl ?_
  refine gj_S1 lkX10_111 (ev_X10_isSky_t (by omega) (by omega)) dX10_note_26 rfl rfl rfl rfl rfl ?_
  refine gj_if_eqN (tgt := 43) (by omega) dX10_note_29 rfl (fun zq0 => ?_) (fun zq0 => ?_)
  · exfalso; revert zq0; decide
  refine gj_iload dX10_note_32 rfl ?_
  refine gj_ic (w := 0) dX10_note_34 ?_
  refine gj_bp 99 dX10_note_35 (by decide) ?_
  refine gj_S1 lkX10_65 (ev_X10_within_t (by omega) (by omega) (by omega)) dX10_note_37 rfl rfl rfl rfl rfl ?_
  refine gj_if_neN (tgt := 48) (by omega) dX10_note_40 rfl (fun zq0 => ?_) (fun zq0 => ?_)
  rotate_left
  · exfalso; revert zq0; decide
  refine gj_aload_n dX10_note_48 rfl ?_
  refine gfX10_10 rfl dX10_note_49 (hc0 κ C) rfl ?_
  refine gfX10_266 rfl dX10_note_52 (hc20 κ C) rfl ?_
  refine gfX10_270 rfl dX10_note_55 (hc31 κ C) rfl ?_
  refine gj_bp 6 dX10_note_58 (by decide) ?_
  refine gj_icmp_ltN (tgt := 70) (by omega) (by omega) dX10_note_60 rfl (fun zq1 => ?_) (fun zq1 => ?_)
  rotate_left
  · exfalso; omega
  refine gj_aload_n dX10_note_70 rfl ?_
  refine gfX10_10 rfl dX10_note_71 (hc0 κ C) rfl ?_
  refine gfX10_266 rfl dX10_note_74 (hc20 κ C) rfl ?_
  refine gj_iload_n dX10_note_77 rfl ?_
  refine gj_iload_n dX10_note_78 rfl ?_
  refine gj_iload_n dX10_note_79 rfl ?_
  refine gj_iload dX10_note_80 rfl ?_
  refine gj_iload dX10_note_82 rfl ?_
  refine gj_V1 lkX10_273 (hc31 κ C) rfl rfl (ev_X3_add (hc31 κ C) (hc32 κ C) (by omega)) dX10_note_84 rfl rfl rfl rfl rfl ?_
  exact gj_ir rfl dX10_note_87 rfl rfl (hu31 (hu32 rfl))
set_option maxHeartbeats 1000000 in
set_option maxRecDepth 10000 in
theorem ev_X10_note_full {E : mj_E} {κ : Nat → Bool} {C : Nat → Nat → Nat} (I : mj_CI κ C) {c i f s j : Nat} (h0 : c < 25) (h1 : i ≤ 99) (h2 : f ≤ 9) (h3 : s ≤ 9) (h4 : j ≤ 99) (h5 : C 31 0 = 6) : mj_Ev E iX10_note [.ref 0, .int (nI c), .int (nI i), .int (nI f), .int (nI s), .int (nI j)] (hh κ C) (mj_R (some (.int (-4))) (hh κ (mj_u C 11 (mj_un (C 11) 2 ((C 11 2) + 1))))) := by
  have hl0 : C 20 0 ≤ 999 := I.1 0 (by decide) 0
  have hl7 : C 27 0 ≤ 7 := I.1 7 (by decide) 0
  have hl11 : C 31 0 ≤ 6 := I.1 11 (by decide) 0
  have hl13 : C 33 0 ≤ 6 := I.1 13 (by decide) 0
  have hl15 : C 35 0 ≤ 8 := I.1 15 (by decide) 0
  have hl7x : C 7 0 ≤ 150 := I.2.2.2.2.2.2.1
  refine mj_Ev.of (L0 := [some (.ref 0), some (.int (nI c)), some (.int (nI i)), some (.int (nI f)), some (.int (nI s)), some (.int (nI j))]) pnRX10 (Nat.le_of_ble_eq_true rfl) rfl ?_
  refine gj_iload_n dX10_note_0 rfl ?_
  refine gj_S1 lkX10_87 (ev_X10_isCell_t (by omega) (by omega)) dX10_note_1 rfl rfl rfl rfl rfl ?_
  refine gj_if_eqN (tgt := 43) (by omega) dX10_note_4 rfl (fun zq0 => ?_) (fun zq0 => ?_)
  · exfalso; revert zq0; decide
  refine gj_iload_n dX10_note_7 rfl ?_
  refine gj_ic (w := 0) dX10_note_8 ?_
  refine gj_bp 99 dX10_note_9 (by decide) ?_
  refine gj_S1 lkX10_65 (ev_X10_within_t (by omega) (by omega) (by omega)) dX10_note_11 rfl rfl rfl rfl rfl ?_
  refine gj_if_eqN (tgt := 43) (by omega) dX10_note_14 rfl (fun zq0 => ?_) (fun zq0 => ?_)
  · exfalso; revert zq0; decide
  refine gj_iload_n dX10_note_17 rfl ?_
  refine gj_S1 lkX10_111 (ev_X10_isSky_t (by omega) (by omega)) dX10_note_18 rfl rfl rfl rfl rfl ?_
  refine gj_if_eqN (tgt := 43) (by omega) dX10_note_21 rfl (fun zq0 => ?_) (fun zq0 => ?_)
  · exfalso; revert zq0; decide
  refine gj_iload dX10_note_24 rfl ?_
  refine gj_S1 lkX10_111 (ev_X10_isSky_t (by omega) (by omega)) dX10_note_26 rfl rfl rfl rfl rfl ?_
  refine gj_if_eqN (tgt := 43) (by omega) dX10_note_29 rfl (fun zq0 => ?_) (fun zq0 => ?_)
  · exfalso; revert zq0; decide
  refine gj_iload dX10_note_32 rfl ?_
  refine gj_ic (w := 0) dX10_note_34 ?_
  refine gj_bp 99 dX10_note_35 (by decide) ?_
  refine gj_S1 lkX10_65 (ev_X10_within_t (by omega) (by omega) (by omega)) dX10_note_37 rfl rfl rfl rfl rfl ?_
  refine gj_if_neN (tgt := 48) (by omega) dX10_note_40 rfl (fun zq0 => ?_) (fun zq0 => ?_)
  rotate_left
  · exfalso; revert zq0; decide
  refine gj_aload_n dX10_note_48 rfl ?_
  refine gfX10_10 rfl dX10_note_49 (hc0 κ C) rfl ?_
  refine gfX10_266 rfl dX10_note_52 (hc20 κ C) rfl ?_
  refine gfX10_270 rfl dX10_note_55 (hc31 κ C) rfl ?_
  refine gj_bp 6 dX10_note_58 (by decide) ?_
  refine gj_icmp_ltN (tgt := 70) (by omega) (by omega) dX10_note_60 rfl (fun zq1 => ?_) (fun zq1 => ?_)
  · exfalso; omega
  refine gj_aload_n dX10_note_63 rfl ?_
  refine gj_V1 lkX10_133 (hc0 κ C) rfl rfl (ev_X10_full I) dX10_note_64 rfl rfl rfl rfl rfl ?_
  refine gj_goto (tgt := 87) dX10_note_67 rfl ?_
  exact gj_ir rfl dX10_note_87 rfl rfl rfl
set_option maxHeartbeats 1000000 in
set_option maxRecDepth 10000 in
theorem ev_X10_voted {E : mj_E} {κ : Nat → Bool} {C : Nat → Nat → Nat} (I : mj_CI κ C) {v y p m f : Nat} (h0 : v < C 27 0) (h1 : y ≤ 1) (h2 : p ≤ 198) (h3 : m ≤ 198) (h4 : f ≤ 9) (h5 : C 33 0 < 6) : mj_Ev E iX10_voted [.ref 0, .int (nI v), .int (nI y), .int (nI p), .int (nI m), .int (nI f)] (hh κ C) (mj_R (some (.int (nI ((C 33 0) + 1)))) (hh κ (mj_u (mj_u C 34 (mj_un (mj_un (mj_un (mj_un (mj_un (C 34) ((C 33 0) * 5) v) ((C 33 0) * 5 + 1) y) ((C 33 0) * 5 + 2) p) ((C 33 0) * 5 + 3) m) ((C 33 0) * 5 + 4) f)) 33 (mj_row [(C 33 0) + 1])))) := by
  have hl0 : C 20 0 ≤ 999 := I.1 0 (by decide) 0
  have hl7 : C 27 0 ≤ 7 := I.1 7 (by decide) 0
  have hl11 : C 31 0 ≤ 6 := I.1 11 (by decide) 0
  have hl13 : C 33 0 ≤ 6 := I.1 13 (by decide) 0
  have hl15 : C 35 0 ≤ 8 := I.1 15 (by decide) 0
  have hl7x : C 7 0 ≤ 150 := I.2.2.2.2.2.2.1
  refine mj_Ev.of (L0 := [some (.ref 0), some (.int (nI v)), some (.int (nI y)), some (.int (nI p)), some (.int (nI m)), some (.int (nI f))]) pnRX10 (Nat.le_of_ble_eq_true rfl) rfl ?_
  refine gj_aload_n dX10_voted_0 rfl ?_
  refine gj_iload_n dX10_voted_1 rfl ?_
  refine gj_V1 lkX10_187 (hc0 κ C) rfl rfl (ev_X10_isVoter I (by omega)) dX10_voted_2 rfl rfl rfl rfl rfl ?_
  refine gj_if_eqN (tgt := 48) (by omega) dX10_voted_5 rfl (fun zq0 => ?_) (fun zq0 => ?_)
  · exfalso; revert zq0; decide
  refine gj_iload_n dX10_voted_8 rfl ?_
  refine gj_ic (w := 0) dX10_voted_9 ?_
  refine gj_ic (w := 1) dX10_voted_10 ?_
  refine gj_S1 lkX10_65 (ev_X10_within_t (by omega) (by omega) (by omega)) dX10_voted_11 rfl rfl rfl rfl rfl ?_
  refine gj_if_eqN (tgt := 48) (by omega) dX10_voted_14 rfl (fun zq0 => ?_) (fun zq0 => ?_)
  · exfalso; revert zq0; decide
  refine gj_iload_n dX10_voted_17 rfl ?_
  refine gj_ic (w := 0) dX10_voted_18 ?_
  refine gj_sp 198 dX10_voted_19 (by decide) ?_
  refine gj_S1 lkX10_65 (ev_X10_within_t (by omega) (by omega) (by omega)) dX10_voted_22 rfl rfl rfl rfl rfl ?_
  refine gj_if_eqN (tgt := 48) (by omega) dX10_voted_25 rfl (fun zq0 => ?_) (fun zq0 => ?_)
  · exfalso; revert zq0; decide
  refine gj_iload dX10_voted_28 rfl ?_
  refine gj_ic (w := 0) dX10_voted_30 ?_
  refine gj_sp 198 dX10_voted_31 (by decide) ?_
  refine gj_S1 lkX10_65 (ev_X10_within_t (by omega) (by omega) (by omega)) dX10_voted_34 rfl rfl rfl rfl rfl ?_
  refine gj_if_eqN (tgt := 48) (by omega) dX10_voted_37 rfl (fun zq0 => ?_) (fun zq0 => ?_)
  · exfalso; revert zq0; decide
  refine gj_iload dX10_voted_40 rfl ?_
  refine gj_S1 lkX10_111 (ev_X10_isSky_t (by omega) (by omega)) dX10_voted_42 rfl rfl rfl rfl rfl ?_
  refine gj_if_neN (tgt := 53) (by omega) dX10_voted_45 rfl (fun zq0 => ?_) (fun zq0 => ?_)
  rotate_left
  · exfalso; revert zq0; decide
  refine gj_aload_n dX10_voted_53 rfl ?_
  refine gfX10_10 rfl dX10_voted_54 (hc0 κ C) rfl ?_
  refine gfX10_276 rfl dX10_voted_57 (hc20 κ C) rfl ?_
  refine gfX10_270 rfl dX10_voted_60 (hc33 κ C) rfl ?_
  refine gj_bp 6 dX10_voted_63 (by decide) ?_
  refine gj_icmp_ltN (tgt := 75) (by omega) (by omega) dX10_voted_65 rfl (fun zq1 => ?_) (fun zq1 => ?_)
  rotate_left
  · exfalso; omega
  refine gj_aload_n dX10_voted_75 rfl ?_
  refine gfX10_10 rfl dX10_voted_76 (hc0 κ C) rfl ?_
  refine gfX10_276 rfl dX10_voted_79 (hc20 κ C) rfl ?_
  refine gj_iload_n dX10_voted_82 rfl ?_
  refine gj_iload_n dX10_voted_83 rfl ?_
  refine gj_iload_n dX10_voted_84 rfl ?_
  refine gj_iload dX10_voted_85 rfl ?_
  refine gj_iload dX10_voted_87 rfl ?_
  refine gj_V1 lkX10_273 (hc33 κ C) rfl rfl (ev_X3_add (hc33 κ C) (hc34 κ C) (by omega)) dX10_voted_89 rfl rfl rfl rfl rfl ?_
  exact gj_ir rfl dX10_voted_92 rfl rfl (hu33 (hu34 rfl))
set_option maxHeartbeats 1000000 in
set_option maxRecDepth 10000 in
theorem ev_X10_voted_full {E : mj_E} {κ : Nat → Bool} {C : Nat → Nat → Nat} (I : mj_CI κ C) {v y p m f : Nat} (h0 : v < C 27 0) (h1 : y ≤ 1) (h2 : p ≤ 198) (h3 : m ≤ 198) (h4 : f ≤ 9) (h5 : C 33 0 = 6) : mj_Ev E iX10_voted [.ref 0, .int (nI v), .int (nI y), .int (nI p), .int (nI m), .int (nI f)] (hh κ C) (mj_R (some (.int (-4))) (hh κ (mj_u C 11 (mj_un (C 11) 2 ((C 11 2) + 1))))) := by
  have hl0 : C 20 0 ≤ 999 := I.1 0 (by decide) 0
  have hl7 : C 27 0 ≤ 7 := I.1 7 (by decide) 0
  have hl11 : C 31 0 ≤ 6 := I.1 11 (by decide) 0
  have hl13 : C 33 0 ≤ 6 := I.1 13 (by decide) 0
  have hl15 : C 35 0 ≤ 8 := I.1 15 (by decide) 0
  have hl7x : C 7 0 ≤ 150 := I.2.2.2.2.2.2.1
  refine mj_Ev.of (L0 := [some (.ref 0), some (.int (nI v)), some (.int (nI y)), some (.int (nI p)), some (.int (nI m)), some (.int (nI f))]) pnRX10 (Nat.le_of_ble_eq_true rfl) rfl ?_
  refine gj_aload_n dX10_voted_0 rfl ?_
  refine gj_iload_n dX10_voted_1 rfl ?_
  refine gj_V1 lkX10_187 (hc0 κ C) rfl rfl (ev_X10_isVoter I (by omega)) dX10_voted_2 rfl rfl rfl rfl rfl ?_
  refine gj_if_eqN (tgt := 48) (by omega) dX10_voted_5 rfl (fun zq0 => ?_) (fun zq0 => ?_)
  · exfalso; revert zq0; decide
  refine gj_iload_n dX10_voted_8 rfl ?_
  refine gj_ic (w := 0) dX10_voted_9 ?_
  refine gj_ic (w := 1) dX10_voted_10 ?_
  refine gj_S1 lkX10_65 (ev_X10_within_t (by omega) (by omega) (by omega)) dX10_voted_11 rfl rfl rfl rfl rfl ?_
  refine gj_if_eqN (tgt := 48) (by omega) dX10_voted_14 rfl (fun zq0 => ?_) (fun zq0 => ?_)
  · exfalso; revert zq0; decide
  refine gj_iload_n dX10_voted_17 rfl ?_
  refine gj_ic (w := 0) dX10_voted_18 ?_
  refine gj_sp 198 dX10_voted_19 (by decide) ?_
  refine gj_S1 lkX10_65 (ev_X10_within_t (by omega) (by omega) (by omega)) dX10_voted_22 rfl rfl rfl rfl rfl ?_
  refine gj_if_eqN (tgt := 48) (by omega) dX10_voted_25 rfl (fun zq0 => ?_) (fun zq0 => ?_)
  · exfalso; revert zq0; decide
  refine gj_iload dX10_voted_28 rfl ?_
  refine gj_ic (w := 0) dX10_voted_30 ?_
  refine gj_sp 198 dX10_voted_31 (by decide) ?_
  refine gj_S1 lkX10_65 (ev_X10_within_t (by omega) (by omega) (by omega)) dX10_voted_34 rfl rfl rfl rfl rfl ?_
  refine gj_if_eqN (tgt := 48) (by omega) dX10_voted_37 rfl (fun zq0 => ?_) (fun zq0 => ?_)
  · exfalso; revert zq0; decide
  refine gj_iload dX10_voted_40 rfl ?_
  refine gj_S1 lkX10_111 (ev_X10_isSky_t (by omega) (by omega)) dX10_voted_42 rfl rfl rfl rfl rfl ?_
  refine gj_if_neN (tgt := 53) (by omega) dX10_voted_45 rfl (fun zq0 => ?_) (fun zq0 => ?_)
  rotate_left
  · exfalso; revert zq0; decide
  refine gj_aload_n dX10_voted_53 rfl ?_
  refine gfX10_10 rfl dX10_voted_54 (hc0 κ C) rfl ?_
  refine gfX10_276 rfl dX10_voted_57 (hc20 κ C) rfl ?_
  refine gfX10_270 rfl dX10_voted_60 (hc33 κ C) rfl ?_
  refine gj_bp 6 dX10_voted_63 (by decide) ?_
  refine gj_icmp_ltN (tgt := 75) (by omega) (by omega) dX10_voted_65 rfl (fun zq1 => ?_) (fun zq1 => ?_)
  · exfalso; omega
  refine gj_aload_n dX10_voted_68 rfl ?_
  refine gj_V1 lkX10_133 (hc0 κ C) rfl rfl (ev_X10_full I) dX10_voted_69 rfl rfl rfl rfl rfl ?_
  refine gj_goto (tgt := 92) dX10_voted_72 rfl ?_
  exact gj_ir rfl dX10_voted_92 rfl rfl rfl
