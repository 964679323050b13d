set_option maxHeartbeats 1000000 in
set_option maxRecDepth 10000 in
theorem ev_X11_lake_bad {E : mj_E} {h : mj_H} {a0 a1 y2 y3 y4 y5 y6 : Nat} (H0 : h 100 = some (mj_mo a0 a1 y2 y3 y4 y5 y6)) {R : Nat → Nat} (HR : h 104 = some (mj_ar 3 R)) {i : Int32} (h0 : ¬ ((nI 0 ≤ i ∧ i ≤ nI 99))) : mj_Ev E iX11_lake [.ref 100, .int i] h (mj_R (some (.int (-2))) (mj_up h 104 (mj_ar 3 (mj_un R 0 ((R 0) + 1))))) := by
  refine mj_Ev.of (L0 := [some (.ref 100), some (.int i), none]) pnRX11 (Nat.le_of_ble_eq_true rfl) rfl ?_
  refine gj_iload_n dX11_lake_0 rfl ?_
  refine gj_S1 lkX11_62 ev_X11_isIce dX11_lake_1 rfl rfl rfl rfl rfl ?_
  refine gj_if_neb (tgt := 14) dX11_lake_4 rfl (fun zq1 => ?_) (fun zq1 => ?_)
  · -- 4 taken
    exact absurd (of_decide_eq_true zq1) h0
  refine gj_aload_n dX11_lake_7 rfl ?_
  refine gj_bipush (v := (-2)) dX11_lake_8 (by decide) ?_
  refine gj_V1 lkX11_66 H0 rfl rfl (ev_X11_bad H0 HR) dX11_lake_10 rfl rfl rfl rfl rfl ?_
  exact gj_ir rfl dX11_lake_13 rfl rfl rfl
set_option maxHeartbeats 1000000 in
set_option maxRecDepth 10000 in
theorem ev_X11_cell_bad {E : mj_E} {h : mj_H} {a0 a1 y2 y3 y4 y5 y6 : Nat} (H0 : h 100 = some (mj_mo a0 a1 y2 y3 y4 y5 y6)) {R : Nat → Nat} (HR : h 104 = some (mj_ar 3 R)) {c k : Int32} (h0 : ¬ ((nI 0 ≤ c ∧ c ≤ nI 24) ∧ (nI 0 ≤ k ∧ k ≤ nI 5))) : mj_Ev E iX11_cell [.ref 100, .int c, .int k] h (mj_R (some (.int (-2))) (mj_up h 104 (mj_ar 3 (mj_un R 0 ((R 0) + 1))))) := by
  refine mj_Ev.of (L0 := [some (.ref 100), some (.int c), some (.int k), none]) pnRX11 (Nat.le_of_ble_eq_true rfl) rfl ?_
  refine gj_iload_n dX11_cell_0 rfl ?_
  refine gj_S1 lkX11_70 ev_X11_isCell dX11_cell_1 rfl rfl rfl rfl rfl ?_
  refine gj_if_eqb (tgt := 19) dX11_cell_4 rfl (fun zq1 => ?_) (fun zq1 => ?_)
  · -- 4 taken
    refine gj_aload_n dX11_cell_19 rfl ?_
    refine gj_bipush (v := (-2)) dX11_cell_20 (by decide) ?_
    refine gj_V1 lkX11_66 H0 rfl rfl (ev_X11_bad H0 HR) dX11_cell_22 rfl rfl rfl rfl rfl ?_
    exact gj_ir rfl dX11_cell_25 rfl rfl rfl
  refine gj_iload_n dX11_cell_7 rfl ?_
  refine gj_i2l (v := k.toInt64) dX11_cell_8 rfl ?_
  refine gj_lconst (v := lN 0) dX11_cell_9 rfl ?_
  refine gj_ldc2 (v := lN 5) w_1067 dX11_cell_10 ?_
  refine gj_S1 lkX11_50 (ev_X11_in_x (by omega) (by omega)) dX11_cell_13 rfl rfl rfl rfl rfl ?_
  refine gj_if_neb (tgt := 26) dX11_cell_16 rfl (fun zq2 => ?_) (fun zq2 => ?_)
  · -- 16 taken
    exact absurd ⟨of_decide_eq_true zq1, of_decide_eq_true zq2⟩ h0
  refine gj_aload_n dX11_cell_19 rfl ?_
  refine gj_bipush (v := (-2)) dX11_cell_20 (by decide) ?_
  refine gj_V1 lkX11_66 H0 rfl rfl (ev_X11_bad H0 HR) dX11_cell_22 rfl rfl rfl rfl rfl ?_
  exact gj_ir rfl dX11_cell_25 rfl rfl rfl
set_option maxHeartbeats 1000000 in
set_option maxRecDepth 10000 in
theorem ev_X11_weather_bad {E : mj_E} {h : mj_H} {a0 a1 y2 y3 y4 y5 y6 : Nat} (H0 : h 100 = some (mj_mo a0 a1 y2 y3 y4 y5 y6)) {R : Nat → Nat} (HR : h 104 = some (mj_ar 3 R)) {d f s : Int32} (h0 : ¬ ((nI 0 ≤ d ∧ d ≤ nI 6) ∧ (nI 0 ≤ f ∧ f ≤ nI 9) ∧ (nI 0 ≤ s ∧ s ≤ nI 9))) : mj_Ev E iX11_weather [.ref 100, .int d, .int f, .int s] h (mj_R (some (.int (-2))) (mj_up h 104 (mj_ar 3 (mj_un R 0 ((R 0) + 1))))) := by
  refine mj_Ev.of (L0 := [some (.ref 100), some (.int d), some (.int f), some (.int s), none]) pnRX11 (Nat.le_of_ble_eq_true rfl) rfl ?_
  refine gj_iload_n dX11_weather_0 rfl ?_
  refine gj_i2l (v := d.toInt64) dX11_weather_1 rfl ?_
  refine gj_lconst (v := lN 0) dX11_weather_2 rfl ?_
  refine gj_ldc2 (v := lN 6) w_1072 dX11_weather_3 ?_
  refine gj_S1 lkX11_50 (ev_X11_in_x (by omega) (by omega)) dX11_weather_6 rfl rfl rfl rfl rfl ?_
  refine gj_if_eqb (tgt := 26) dX11_weather_9 rfl (fun zq1 => ?_) (fun zq1 => ?_)
  · -- 9 taken
    refine gj_aload_n dX11_weather_26 rfl ?_
    refine gj_bipush (v := (-2)) dX11_weather_27 (by decide) ?_
    refine gj_V1 lkX11_66 H0 rfl rfl (ev_X11_bad H0 HR) dX11_weather_29 rfl rfl rfl rfl rfl ?_
    exact gj_ir rfl dX11_weather_32 rfl rfl rfl
  refine gj_iload_n dX11_weather_12 rfl ?_
  refine gj_S1 lkX11_77 ev_X11_isWeather dX11_weather_13 rfl rfl rfl rfl rfl ?_
  refine gj_if_eqb (tgt := 26) dX11_weather_16 rfl (fun zq2 => ?_) (fun zq2 => ?_)
  · -- 16 taken
    refine gj_aload_n dX11_weather_26 rfl ?_
    refine gj_bipush (v := (-2)) dX11_weather_27 (by decide) ?_
    refine gj_V1 lkX11_66 H0 rfl rfl (ev_X11_bad H0 HR) dX11_weather_29 rfl rfl rfl rfl rfl ?_
    exact gj_ir rfl dX11_weather_32 rfl rfl rfl
  refine gj_iload_n dX11_weather_19 rfl ?_
  refine gj_S1 lkX11_77 ev_X11_isWeather dX11_weather_20 rfl rfl rfl rfl rfl ?_
  refine gj_if_neb (tgt := 33) dX11_weather_23 rfl (fun zq3 => ?_) (fun zq3 => ?_)
  · -- 23 taken
    exact absurd ⟨of_decide_eq_true zq1, of_decide_eq_true zq2, of_decide_eq_true zq3⟩ h0
  refine gj_aload_n dX11_weather_26 rfl ?_
  refine gj_bipush (v := (-2)) dX11_weather_27 (by decide) ?_
  refine gj_V1 lkX11_66 H0 rfl rfl (ev_X11_bad H0 HR) dX11_weather_29 rfl rfl rfl rfl rfl ?_
  exact gj_ir rfl dX11_weather_32 rfl rfl rfl
set_option maxHeartbeats 1000000 in
set_option maxRecDepth 10000 in
theorem ev_X11_ward_bad {E : mj_E} {h : mj_H} {a0 a1 y2 y3 y4 y5 y6 : Nat} (H0 : h 100 = some (mj_mo a0 a1 y2 y3 y4 y5 y6)) {R : Nat → Nat} (HR : h 104 = some (mj_ar 3 R)) {w x : Int32} (h0 : ¬ ((nI 0 ≤ w ∧ w ≤ nI 3) ∧ (nI 0 ≤ x ∧ x ≤ nI 99))) : mj_Ev E iX11_ward [.ref 100, .int w, .int x] h (mj_R (some (.int (-2))) (mj_up h 104 (mj_ar 3 (mj_un R 0 ((R 0) + 1))))) := by
  refine mj_Ev.of (L0 := [some (.ref 100), some (.int w), some (.int x), none]) pnRX11 (Nat.le_of_ble_eq_true rfl) rfl ?_
  refine gj_iload_n dX11_ward_0 rfl ?_
  refine gj_i2l (v := w.toInt64) dX11_ward_1 rfl ?_
  refine gj_lconst (v := lN 0) dX11_ward_2 rfl ?_
  refine gj_ldc2 (v := lN 3) w_1081 dX11_ward_3 ?_
  refine gj_S1 lkX11_50 (ev_X11_in_x (by omega) (by omega)) dX11_ward_6 rfl rfl rfl rfl rfl ?_
  refine gj_if_eqb (tgt := 19) dX11_ward_9 rfl (fun zq1 => ?_) (fun zq1 => ?_)
  · -- 9 taken
    refine gj_aload_n dX11_ward_19 rfl ?_
    refine gj_bipush (v := (-2)) dX11_ward_20 (by decide) ?_
    refine gj_V1 lkX11_66 H0 rfl rfl (ev_X11_bad H0 HR) dX11_ward_22 rfl rfl rfl rfl rfl ?_
    exact gj_ir rfl dX11_ward_25 rfl rfl rfl
  refine gj_iload_n dX11_ward_12 rfl ?_
  refine gj_S1 lkX11_62 ev_X11_isIce dX11_ward_13 rfl rfl rfl rfl rfl ?_
  refine gj_if_neb (tgt := 26) dX11_ward_16 rfl (fun zq2 => ?_) (fun zq2 => ?_)
  · -- 16 taken
    exact absurd ⟨of_decide_eq_true zq1, of_decide_eq_true zq2⟩ h0
  refine gj_aload_n dX11_ward_19 rfl ?_
  refine gj_bipush (v := (-2)) dX11_ward_20 (by decide) ?_
  refine gj_V1 lkX11_66 H0 rfl rfl (ev_X11_bad H0 HR) dX11_ward_22 rfl rfl rfl rfl rfl ?_
  exact gj_ir rfl dX11_ward_25 rfl rfl rfl
set_option maxHeartbeats 1000000 in
set_option maxRecDepth 10000 in
theorem ev_X11_voter_bad {E : mj_E} {h : mj_H} {a0 a1 y2 y3 y4 y5 y6 : Nat} (H0 : h 100 = some (mj_mo a0 a1 y2 y3 y4 y5 y6)) {R : Nat → Nat} (HR : h 104 = some (mj_ar 3 R)) {c k w : Int32} (h0 : ¬ ((nI 0 ≤ k ∧ k ≤ nI 5) ∧ (nI 1 ≤ w ∧ w ≤ nI 99) ∧ (nI 0 ≤ c ∧ c ≤ nI 24))) : mj_Ev E iX11_voter [.ref 100, .int k, .int w, .int c] h (mj_R (some (.int (-2))) (mj_up h 104 (mj_ar 3 (mj_un R 0 ((R 0) + 1))))) := by
  refine mj_Ev.of (L0 := [some (.ref 100), some (.int k), some (.int w), some (.int c)]) pnRX11 (Nat.le_of_ble_eq_true rfl) rfl ?_
  refine gj_iload_n dX11_voter_0 rfl ?_
  refine gj_i2l (v := k.toInt64) dX11_voter_1 rfl ?_
  refine gj_lconst (v := lN 0) dX11_voter_2 rfl ?_
  refine gj_ldc2 (v := lN 5) w_1067 dX11_voter_3 ?_
  refine gj_S1 lkX11_50 (ev_X11_in_x (by omega) (by omega)) dX11_voter_6 rfl rfl rfl rfl rfl ?_
  refine gj_if_eqb (tgt := 31) dX11_voter_9 rfl (fun zq1 => ?_) (fun zq1 => ?_)
  · -- 9 taken
    refine gj_aload_n dX11_voter_31 rfl ?_
    refine gj_bipush (v := (-2)) dX11_voter_32 (by decide) ?_
    refine gj_V1 lkX11_66 H0 rfl rfl (ev_X11_bad H0 HR) dX11_voter_34 rfl rfl rfl rfl rfl ?_
    exact gj_ir rfl dX11_voter_37 rfl rfl rfl
  refine gj_iload_n dX11_voter_12 rfl ?_
  refine gj_i2l (v := w.toInt64) dX11_voter_13 rfl ?_
  refine gj_lconst (v := lN 1) dX11_voter_14 rfl ?_
  refine gj_ldc2 (v := lN 99) w_1047 dX11_voter_15 ?_
  refine gj_S1 lkX11_50 (ev_X11_in_x (by omega) (by omega)) dX11_voter_18 rfl rfl rfl rfl rfl ?_
  refine gj_if_eqb (tgt := 31) dX11_voter_21 rfl (fun zq2 => ?_) (fun zq2 => ?_)
  · -- 21 taken
    refine gj_aload_n dX11_voter_31 rfl ?_
    refine gj_bipush (v := (-2)) dX11_voter_32 (by decide) ?_
    refine gj_V1 lkX11_66 H0 rfl rfl (ev_X11_bad H0 HR) dX11_voter_34 rfl rfl rfl rfl rfl ?_
    exact gj_ir rfl dX11_voter_37 rfl rfl rfl
  refine gj_iload_n dX11_voter_24 rfl ?_
  refine gj_S1 lkX11_70 ev_X11_isCell dX11_voter_25 rfl rfl rfl rfl rfl ?_
  refine gj_if_neb (tgt := 38) dX11_voter_28 rfl (fun zq3 => ?_) (fun zq3 => ?_)
  · -- 28 taken
    exact absurd ⟨of_decide_eq_true zq1, of_decide_eq_true zq2, of_decide_eq_true zq3⟩ h0
  refine gj_aload_n dX11_voter_31 rfl ?_
  refine gj_bipush (v := (-2)) dX11_voter_32 (by decide) ?_
  refine gj_V1 lkX11_66 H0 rfl rfl (ev_X11_bad H0 HR) dX11_voter_34 rfl rfl rfl rfl rfl ?_
  exact gj_ir rfl dX11_voter_37 rfl rfl rfl
set_option maxHeartbeats 1000000 in
set_option maxRecDepth 10000 in
theorem ev_X11_type_bad {E : mj_E} {h : mj_H} {a0 a1 y2 y3 y4 y5 y6 : Nat} (H0 : h 100 = some (mj_mo a0 a1 y2 y3 y4 y5 y6)) {R : Nat → Nat} (HR : h 104 = some (mj_ar 3 R)) {c : Int32} (h0 : ¬ ((nI 0 ≤ c ∧ c ≤ nI 127))) : mj_Ev E iX11_type [.ref 100, .int c] h (mj_R (some (.int (-2))) (mj_up h 104 (mj_ar 3 (mj_un R 0 ((R 0) + 1))))) := by
  refine mj_Ev.of (L0 := [some (.ref 100), some (.int c)]) pnRX11 (Nat.le_of_ble_eq_true rfl) rfl ?_
  refine gj_iload_n dX11_type_0 rfl ?_
  refine gj_i2l (v := c.toInt64) dX11_type_1 rfl ?_
  refine gj_lconst (v := lN 0) dX11_type_2 rfl ?_
  refine gj_ldc2 (v := lN 127) w_1352 dX11_type_3 ?_
  refine gj_S1 lkX11_50 (ev_X11_in_x (by omega) (by omega)) dX11_type_6 rfl rfl rfl rfl rfl ?_
  refine gj_if_neb (tgt := 19) dX11_type_9 rfl (fun zq1 => ?_) (fun zq1 => ?_)
  · -- 9 taken
    exact absurd (of_decide_eq_true zq1) h0
  refine gj_aload_n dX11_type_12 rfl ?_
  refine gj_bipush (v := (-2)) dX11_type_13 (by decide) ?_
  refine gj_V1 lkX11_66 H0 rfl rfl (ev_X11_bad H0 HR) dX11_type_15 rfl rfl rfl rfl rfl ?_
  exact gj_ir rfl dX11_type_18 rfl rfl rfl
set_option maxHeartbeats 1000000 in
set_option maxRecDepth 10000 in
theorem ev_X11_day_bad {E : mj_E} {h : mj_H} {a0 a1 y2 y3 y4 y5 y6 : Nat} (H0 : h 100 = some (mj_mo a0 a1 y2 y3 y4 y5 y6)) {R : Nat → Nat} (HR : h 104 = some (mj_ar 3 R)) {m : Int32} (h0 : ¬ ((nI 1 ≤ m ∧ m ≤ nI 60))) : mj_Ev E iX11_day [.ref 100, .int m] h (mj_R (some (.int (-2))) (mj_up h 104 (mj_ar 3 (mj_un R 0 ((R 0) + 1))))) := by
  refine mj_Ev.of (L0 := [some (.ref 100), some (.int m), none, none]) pnRX11 (Nat.le_of_ble_eq_true rfl) rfl ?_
  refine gj_iload_n dX11_day_0 rfl ?_
  refine gj_i2l (v := m.toInt64) dX11_day_1 rfl ?_
  refine gj_lconst (v := lN 1) dX11_day_2 rfl ?_
  refine gj_ldc2 (v := lN 60) w_1097 dX11_day_3 ?_
  refine gj_S1 lkX11_50 (ev_X11_in_x (by omega) (by omega)) dX11_day_6 rfl rfl rfl rfl rfl ?_
  refine gj_if_neb (tgt := 19) dX11_day_9 rfl (fun zq1 => ?_) (fun zq1 => ?_)
  · -- 9 taken
    exact absurd (of_decide_eq_true zq1) h0
  refine gj_aload_n dX11_day_12 rfl ?_
  refine gj_bipush (v := (-2)) dX11_day_13 (by decide) ?_
  refine gj_V1 lkX11_66 H0 rfl rfl (ev_X11_bad H0 HR) dX11_day_15 rfl rfl rfl rfl rfl ?_
  exact gj_ir rfl dX11_day_18 rfl rfl rfl
set_option maxHeartbeats 1000000 in
set_option maxRecDepth 10000 in
theorem ev_X11_tread_bad {E : mj_E} {h : mj_H} {a0 a1 y2 y3 y4 y5 y6 : Nat} (H0 : h 100 = some (mj_mo a0 a1 y2 y3 y4 y5 y6)) {R : Nat → Nat} (HR : h 104 = some (mj_ar 3 R)) {c w : Int32} (h0 : ¬ ((nI 0 ≤ c ∧ c ≤ nI 24) ∧ (nI 1 ≤ w ∧ w ≤ nI 99))) : mj_Ev E iX11_tread [.ref 100, .int c, .int w] h (mj_R (some (.int (-2))) (mj_up h 104 (mj_ar 3 (mj_un R 0 ((R 0) + 1))))) := by
  refine mj_Ev.of (L0 := [some (.ref 100), some (.int c), some (.int w), none, none]) pnRX11 (Nat.le_of_ble_eq_true rfl) rfl ?_
  refine gj_iload_n dX11_tread_0 rfl ?_
  refine gj_S1 lkX11_70 ev_X11_isCell dX11_tread_1 rfl rfl rfl rfl rfl ?_
  refine gj_if_eqb (tgt := 19) dX11_tread_4 rfl (fun zq1 => ?_) (fun zq1 => ?_)
  · -- 4 taken
    refine gj_aload_n dX11_tread_19 rfl ?_
    refine gj_bipush (v := (-2)) dX11_tread_20 (by decide) ?_
    refine gj_V1 lkX11_66 H0 rfl rfl (ev_X11_bad H0 HR) dX11_tread_22 rfl rfl rfl rfl rfl ?_
    exact gj_ir rfl dX11_tread_25 rfl rfl rfl
  refine gj_iload_n dX11_tread_7 rfl ?_
  refine gj_i2l (v := w.toInt64) dX11_tread_8 rfl ?_
  refine gj_lconst (v := lN 1) dX11_tread_9 rfl ?_
  refine gj_ldc2 (v := lN 99) w_1047 dX11_tread_10 ?_
  refine gj_S1 lkX11_50 (ev_X11_in_x (by omega) (by omega)) dX11_tread_13 rfl rfl rfl rfl rfl ?_
  refine gj_if_neb (tgt := 26) dX11_tread_16 rfl (fun zq2 => ?_) (fun zq2 => ?_)
  · -- 16 taken
    exact absurd ⟨of_decide_eq_true zq1, of_decide_eq_true zq2⟩ h0
  refine gj_aload_n dX11_tread_19 rfl ?_
  refine gj_bipush (v := (-2)) dX11_tread_20 (by decide) ?_
  refine gj_V1 lkX11_66 H0 rfl rfl (ev_X11_bad H0 HR) dX11_tread_22 rfl rfl rfl rfl rfl ?_
  exact gj_ir rfl dX11_tread_25 rfl rfl rfl
set_option maxHeartbeats 1000000 in
set_option maxRecDepth 10000 in
theorem ev_X11_stone_bad {E : mj_E} {h : mj_H} {a0 a1 y2 y3 y4 y5 y6 : Nat} (H0 : h 100 = some (mj_mo a0 a1 y2 y3 y4 y5 y6)) {R : Nat → Nat} (HR : h 104 = some (mj_ar 3 R)) {c : Int32} (h0 : ¬ ((nI 0 ≤ c ∧ c ≤ nI 24))) : mj_Ev E iX11_stone [.ref 100, .int c] h (mj_R (some (.int (-2))) (mj_up h 104 (mj_ar 3 (mj_un R 0 ((R 0) + 1))))) := by
  refine mj_Ev.of (L0 := [some (.ref 100), some (.int c)]) pnRX11 (Nat.le_of_ble_eq_true rfl) rfl ?_
  refine gj_iload_n dX11_stone_0 rfl ?_
  refine gj_S1 lkX11_70 ev_X11_isCell dX11_stone_1 rfl rfl rfl rfl rfl ?_
  refine gj_if_neb (tgt := 14) dX11_stone_4 rfl (fun zq1 => ?_) (fun zq1 => ?_)
  · -- 4 taken
    exact absurd (of_decide_eq_true zq1) h0
  refine gj_aload_n dX11_stone_7 rfl ?_
  refine gj_bipush (v := (-2)) dX11_stone_8 (by decide) ?_
  refine gj_V1 lkX11_66 H0 rfl rfl (ev_X11_bad H0 HR) dX11_stone_10 rfl rfl rfl rfl rfl ?_
  exact gj_ir rfl dX11_stone_13 rfl rfl rfl
set_option maxHeartbeats 1000000 in
set_option maxRecDepth 10000 in
theorem ev_X11_of_bad {E : mj_E} {h : mj_H} {a0 a1 y2 y3 y4 y5 y6 : Nat} (H0 : h 100 = some (mj_mo a0 a1 y2 y3 y4 y5 y6)) {R : Nat → Nat} (HR : h 104 = some (mj_ar 3 R)) {c q : Int32} (h0 : ¬ ((nI 0 ≤ c ∧ c ≤ nI 24) ∧ (nI 0 ≤ q ∧ q ≤ nI 2))) : mj_Ev E iX11_of [.ref 100, .int c, .int q] h (mj_R (some (.int (-2))) (mj_up h 104 (mj_ar 3 (mj_un R 0 ((R 0) + 1))))) := by
  refine mj_Ev.of (L0 := [some (.ref 100), some (.int c), some (.int q)]) pnRX11 (Nat.le_of_ble_eq_true rfl) rfl ?_
  refine gj_iload_n dX11_of_0 rfl ?_
  refine gj_S1 lkX11_70 ev_X11_isCell dX11_of_1 rfl rfl rfl rfl rfl ?_
  refine gj_if_eqb (tgt := 19) dX11_of_4 rfl (fun zq1 => ?_) (fun zq1 => ?_)
  · -- 4 taken
    refine gj_aload_n dX11_of_19 rfl ?_
    refine gj_bipush (v := (-2)) dX11_of_20 (by decide) ?_
    refine gj_V1 lkX11_66 H0 rfl rfl (ev_X11_bad H0 HR) dX11_of_22 rfl rfl rfl rfl rfl ?_
    exact gj_ir rfl dX11_of_25 rfl rfl rfl
  refine gj_iload_n dX11_of_7 rfl ?_
  refine gj_i2l (v := q.toInt64) dX11_of_8 rfl ?_
  refine gj_lconst (v := lN 0) dX11_of_9 rfl ?_
  refine gj_ldc2 (v := lN 2) w_1154 dX11_of_10 ?_
  refine gj_S1 lkX11_50 (ev_X11_in_x (by omega) (by omega)) dX11_of_13 rfl rfl rfl rfl rfl ?_
  refine gj_if_neb (tgt := 26) dX11_of_16 rfl (fun zq2 => ?_) (fun zq2 => ?_)
  · -- 16 taken
    exact absurd ⟨of_decide_eq_true zq1, of_decide_eq_true zq2⟩ h0
  refine gj_aload_n dX11_of_19 rfl ?_
  refine gj_bipush (v := (-2)) dX11_of_20 (by decide) ?_
  refine gj_V1 lkX11_66 H0 rfl rfl (ev_X11_bad H0 HR) dX11_of_22 rfl rfl rfl rfl rfl ?_
  exact gj_ir rfl dX11_of_25 rfl rfl rfl
set_option maxHeartbeats 1000000 in
set_option maxRecDepth 10000 in
theorem ev_X11_about_bad {E : mj_E} {h : mj_H} {a0 a1 y2 y3 y4 y5 y6 : Nat} (H0 : h 100 = some (mj_mo a0 a1 y2 y3 y4 y5 y6)) {T : Nat → Nat} (HT : h 101 = some (mj_ar 362 T)) {R : Nat → Nat} (HR : h 104 = some (mj_ar 3 R)) (bT : mj_Tb T) {q v : Int32} (h0 : ¬ ((nI 0 ≤ v ∧ v < nI (T 0)) ∧ (nI 0 ≤ q ∧ q ≤ nI 3))) : mj_Ev E iX11_about [.ref 100, .int v, .int q] h (mj_R (some (.int (-2))) (mj_up h 104 (mj_ar 3 (mj_un R 0 ((R 0) + 1))))) := by
  refine mj_Ev.of (L0 := [some (.ref 100), some (.int v), some (.int q), none]) pnRX11 (Nat.le_of_ble_eq_true rfl) rfl ?_
  refine gj_aload_n dX11_about_0 rfl ?_
  refine gj_iload_n dX11_about_1 rfl ?_
  refine gj_V1 lkX11_146 H0 rfl rfl (ev_X11_isVoter_x H0 HT bT) dX11_about_2 rfl rfl rfl rfl rfl ?_
  refine gj_if_eqb (tgt := 20) dX11_about_5 rfl (fun zq1 => ?_) (fun zq1 => ?_)
  · -- 5 taken
    refine gj_aload_n dX11_about_20 rfl ?_
    refine gj_bipush (v := (-2)) dX11_about_21 (by decide) ?_
    refine gj_V1 lkX11_66 H0 rfl rfl (ev_X11_bad H0 HR) dX11_about_23 rfl rfl rfl rfl rfl ?_
    exact gj_ir rfl dX11_about_26 rfl rfl rfl
  refine gj_iload_n dX11_about_8 rfl ?_
  refine gj_i2l (v := q.toInt64) dX11_about_9 rfl ?_
  refine gj_lconst (v := lN 0) dX11_about_10 rfl ?_
  refine gj_ldc2 (v := lN 3) w_1081 dX11_about_11 ?_
  refine gj_S1 lkX11_50 (ev_X11_in_x (by omega) (by omega)) dX11_about_14 rfl rfl rfl rfl rfl ?_
  refine gj_if_neb (tgt := 27) dX11_about_17 rfl (fun zq2 => ?_) (fun zq2 => ?_)
  · -- 17 taken
    exact absurd ⟨of_decide_eq_true zq1, of_decide_eq_true zq2⟩ h0
  refine gj_aload_n dX11_about_20 rfl ?_
  refine gj_bipush (v := (-2)) dX11_about_21 (by decide) ?_
  refine gj_V1 lkX11_66 H0 rfl rfl (ev_X11_bad H0 HR) dX11_about_23 rfl rfl rfl rfl rfl ?_
  exact gj_ir rfl dX11_about_26 rfl rfl rfl
set_option maxHeartbeats 1000000 in
set_option maxRecDepth 10000 in
theorem ev_X11_then_bad {E : mj_E} {h : mj_H} {a0 a1 y2 y3 y4 y5 y6 : Nat} (H0 : h 100 = some (mj_mo a0 a1 y2 y3 y4 y5 y6)) {R : Nat → Nat} (HR : h 104 = some (mj_ar 3 R)) {c m q : Int32} (h0 : ¬ ((nI 0 ≤ c ∧ c ≤ nI 24) ∧ (nI 0 ≤ m ∧ m ≤ nI 60) ∧ (nI 0 ≤ q ∧ q ≤ nI 1))) : mj_Ev E iX11_then [.ref 100, .int c, .int m, .int q] h (mj_R (some (.int (-2))) (mj_up h 104 (mj_ar 3 (mj_un R 0 ((R 0) + 1))))) := by
  refine mj_Ev.of (L0 := [some (.ref 100), some (.int c), some (.int m), some (.int q)]) pnRX11 (Nat.le_of_ble_eq_true rfl) rfl ?_
  refine gj_iload_n dX11_then_0 rfl ?_
  refine gj_S1 lkX11_70 ev_X11_isCell dX11_then_1 rfl rfl rfl rfl rfl ?_
  refine gj_if_eqb (tgt := 29) dX11_then_4 rfl (fun zq1 => ?_) (fun zq1 => ?_)
  · -- 4 taken
    refine gj_aload_n dX11_then_29 rfl ?_
    refine gj_bipush (v := (-2)) dX11_then_30 (by decide) ?_
    refine gj_V1 lkX11_66 H0 rfl rfl (ev_X11_bad H0 HR) dX11_then_32 rfl rfl rfl rfl rfl ?_
    exact gj_ir rfl dX11_then_35 rfl rfl rfl
  refine gj_iload_n dX11_then_7 rfl ?_
  refine gj_i2l (v := m.toInt64) dX11_then_8 rfl ?_
  refine gj_lconst (v := lN 0) dX11_then_9 rfl ?_
  refine gj_ldc2 (v := lN 60) w_1097 dX11_then_10 ?_
  refine gj_S1 lkX11_50 (ev_X11_in_x (by omega) (by omega)) dX11_then_13 rfl rfl rfl rfl rfl ?_
  refine gj_if_eqb (tgt := 29) dX11_then_16 rfl (fun zq2 => ?_) (fun zq2 => ?_)
  · -- 16 taken
    refine gj_aload_n dX11_then_29 rfl ?_
    refine gj_bipush (v := (-2)) dX11_then_30 (by decide) ?_
    refine gj_V1 lkX11_66 H0 rfl rfl (ev_X11_bad H0 HR) dX11_then_32 rfl rfl rfl rfl rfl ?_
    exact gj_ir rfl dX11_then_35 rfl rfl rfl
  refine gj_iload_n dX11_then_19 rfl ?_
  refine gj_i2l (v := q.toInt64) dX11_then_20 rfl ?_
  refine gj_lconst (v := lN 0) dX11_then_21 rfl ?_
  refine gj_lconst (v := lN 1) dX11_then_22 rfl ?_
  refine gj_S1 lkX11_50 (ev_X11_in_x (by omega) (by omega)) dX11_then_23 rfl rfl rfl rfl rfl ?_
  refine gj_if_neb (tgt := 36) dX11_then_26 rfl (fun zq3 => ?_) (fun zq3 => ?_)
  · -- 26 taken
    exact absurd ⟨of_decide_eq_true zq1, of_decide_eq_true zq2, of_decide_eq_true zq3⟩ h0
  refine gj_aload_n dX11_then_29 rfl ?_
  refine gj_bipush (v := (-2)) dX11_then_30 (by decide) ?_
  refine gj_V1 lkX11_66 H0 rfl rfl (ev_X11_bad H0 HR) dX11_then_32 rfl rfl rfl rfl rfl ?_
  exact gj_ir rfl dX11_then_35 rfl rfl rfl
set_option maxHeartbeats 1000000 in
set_option maxRecDepth 10000 in
theorem ev_X11_when_bad {E : mj_E} {h : mj_H} {a0 a1 y2 y3 y4 y5 y6 : Nat} (H0 : h 100 = some (mj_mo a0 a1 y2 y3 y4 y5 y6)) {R : Nat → Nat} (HR : h 104 = some (mj_ar 3 R)) {c w : Int32} (h0 : ¬ ((nI 0 ≤ c ∧ c ≤ nI 24) ∧ (nI 1 ≤ w ∧ w ≤ nI 198))) : mj_Ev E iX11_when [.ref 100, .int c, .int w] h (mj_R (some (.int (-2))) (mj_up h 104 (mj_ar 3 (mj_un R 0 ((R 0) + 1))))) := by
  refine mj_Ev.of (L0 := [some (.ref 100), some (.int c), some (.int w), none]) pnRX11 (Nat.le_of_ble_eq_true rfl) rfl ?_
  refine gj_iload_n dX11_when_0 rfl ?_
  refine gj_S1 lkX11_70 ev_X11_isCell dX11_when_1 rfl rfl rfl rfl rfl ?_
  refine gj_if_eqb (tgt := 14) dX11_when_4 rfl (fun zq1 => ?_) (fun zq1 => ?_)
  · -- 4 taken
    refine gj_aload_n dX11_when_14 rfl ?_
    refine gj_bipush (v := (-2)) dX11_when_15 (by decide) ?_
    refine gj_V1 lkX11_66 H0 rfl rfl (ev_X11_bad H0 HR) dX11_when_17 rfl rfl rfl rfl rfl ?_
    exact gj_ir rfl dX11_when_20 rfl rfl rfl
  refine gj_iload_n dX11_when_7 rfl ?_
  refine gj_S1 lkX11_155 ev_X11_isBurden dX11_when_8 rfl rfl rfl rfl rfl ?_
  refine gj_if_neb (tgt := 21) dX11_when_11 rfl (fun zq2 => ?_) (fun zq2 => ?_)
  · -- 11 taken
    exact absurd ⟨of_decide_eq_true zq1, of_decide_eq_true zq2⟩ h0
  refine gj_aload_n dX11_when_14 rfl ?_
  refine gj_bipush (v := (-2)) dX11_when_15 (by decide) ?_
  refine gj_V1 lkX11_66 H0 rfl rfl (ev_X11_bad H0 HR) dX11_when_17 rfl rfl rfl rfl rfl ?_
  exact gj_ir rfl dX11_when_20 rfl rfl rfl
set_option maxHeartbeats 1000000 in
set_option maxRecDepth 10000 in
theorem ev_X11_where_bad {E : mj_E} {h : mj_H} {a0 a1 y2 y3 y4 y5 y6 : Nat} (H0 : h 100 = some (mj_mo a0 a1 y2 y3 y4 y5 y6)) {R : Nat → Nat} (HR : h 104 = some (mj_ar 3 R)) {m w : Int32} (h0 : ¬ ((nI 1 ≤ w ∧ w ≤ nI 198) ∧ (nI 0 ≤ m ∧ m ≤ nI 60))) : mj_Ev E iX11_where [.ref 100, .int w, .int m] h (mj_R (some (.int (-2))) (mj_up h 104 (mj_ar 3 (mj_un R 0 ((R 0) + 1))))) := by
  refine mj_Ev.of (L0 := [some (.ref 100), some (.int w), some (.int m), none, none]) pnRX11 (Nat.le_of_ble_eq_true rfl) rfl ?_
  refine gj_iload_n dX11_where_0 rfl ?_
  refine gj_S1 lkX11_155 ev_X11_isBurden dX11_where_1 rfl rfl rfl rfl rfl ?_
  refine gj_if_eqb (tgt := 19) dX11_where_4 rfl (fun zq1 => ?_) (fun zq1 => ?_)
  · -- 4 taken
    refine gj_aload_n dX11_where_19 rfl ?_
    refine gj_bipush (v := (-2)) dX11_where_20 (by decide) ?_
    refine gj_V1 lkX11_66 H0 rfl rfl (ev_X11_bad H0 HR) dX11_where_22 rfl rfl rfl rfl rfl ?_
    exact gj_ir rfl dX11_where_25 rfl rfl rfl
  refine gj_iload_n dX11_where_7 rfl ?_
  refine gj_i2l (v := m.toInt64) dX11_where_8 rfl ?_
  refine gj_lconst (v := lN 0) dX11_where_9 rfl ?_
  refine gj_ldc2 (v := lN 60) w_1097 dX11_where_10 ?_
  refine gj_S1 lkX11_50 (ev_X11_in_x (by omega) (by omega)) dX11_where_13 rfl rfl rfl rfl rfl ?_
  refine gj_if_neb (tgt := 26) dX11_where_16 rfl (fun zq2 => ?_) (fun zq2 => ?_)
  · -- 16 taken
    exact absurd ⟨of_decide_eq_true zq1, of_decide_eq_true zq2⟩ h0
  refine gj_aload_n dX11_where_19 rfl ?_
  refine gj_bipush (v := (-2)) dX11_where_20 (by decide) ?_
  refine gj_V1 lkX11_66 H0 rfl rfl (ev_X11_bad H0 HR) dX11_where_22 rfl rfl rfl rfl rfl ?_
  exact gj_ir rfl dX11_where_25 rfl rfl rfl
set_option maxHeartbeats 1000000 in
set_option maxRecDepth 10000 in
theorem ev_X11_horses_bad {E : mj_E} {h : mj_H} {a0 a1 y2 y3 y4 y5 y6 : Nat} (H0 : h 100 = some (mj_mo a0 a1 y2 y3 y4 y5 y6)) {R : Nat → Nat} (HR : h 104 = some (mj_ar 3 R)) {w : Int32} (h0 : ¬ ((nI 1 ≤ w ∧ w ≤ nI 198))) : mj_Ev E iX11_horses [.ref 100, .int w] h (mj_R (some (.int (-2))) (mj_up h 104 (mj_ar 3 (mj_un R 0 ((R 0) + 1))))) := by
  refine mj_Ev.of (L0 := [some (.ref 100), some (.int w), none, none, none]) pnRX11 (Nat.le_of_ble_eq_true rfl) rfl ?_
  refine gj_iload_n dX11_horses_0 rfl ?_
  refine gj_S1 lkX11_155 ev_X11_isBurden dX11_horses_1 rfl rfl rfl rfl rfl ?_
  refine gj_if_neb (tgt := 14) dX11_horses_4 rfl (fun zq1 => ?_) (fun zq1 => ?_)
  · -- 4 taken
    exact absurd (of_decide_eq_true zq1) h0
  refine gj_aload_n dX11_horses_7 rfl ?_
  refine gj_bipush (v := (-2)) dX11_horses_8 (by decide) ?_
  refine gj_V1 lkX11_66 H0 rfl rfl (ev_X11_bad H0 HR) dX11_horses_10 rfl rfl rfl rfl rfl ?_
  exact gj_ir rfl dX11_horses_13 rfl rfl rfl
set_option maxHeartbeats 1000000 in
set_option maxRecDepth 10000 in
theorem ev_X11_path_bad {E : mj_E} {h : mj_H} {a0 a1 y2 y3 y4 y5 y6 : Nat} (H0 : h 100 = some (mj_mo a0 a1 y2 y3 y4 y5 y6)) {R : Nat → Nat} (HR : h 104 = some (mj_ar 3 R)) {a c i w : Int32} (h0 : ¬ ((nI 1 ≤ w ∧ w ≤ nI 198) ∧ (nI 0 ≤ a ∧ a ≤ nI 24) ∧ (nI 0 ≤ c ∧ c ≤ nI 24) ∧ ((-1) ≤ i))) : mj_Ev E iX11_path [.ref 100, .int w, .int a, .int c, .int i] h (mj_R (some (.int (-10))) (mj_up h 104 (mj_ar 3 (mj_un R 0 ((R 0) + 1))))) := by
  refine mj_Ev.of (L0 := [some (.ref 100), some (.int w), some (.int a), some (.int c), some (.int i), none, none]) pnRX11 (Nat.le_of_ble_eq_true rfl) rfl ?_
  refine gj_iload_n dX11_path_0 rfl ?_
  refine gj_S1 lkX11_155 ev_X11_isBurden dX11_path_1 rfl rfl rfl rfl rfl ?_
  refine gj_if_eqb (tgt := 27) dX11_path_4 rfl (fun zq1 => ?_) (fun zq1 => ?_)
  · -- 4 taken
    refine gj_aload_n dX11_path_27 rfl ?_
    refine gj_bipush (v := (-10)) dX11_path_28 (by decide) ?_
    refine gj_V1 lkX11_66 H0 rfl rfl (ev_X11_bad H0 HR) dX11_path_30 rfl rfl rfl rfl rfl ?_
    exact gj_ir rfl dX11_path_33 rfl rfl rfl
  refine gj_iload_n dX11_path_7 rfl ?_
  refine gj_S1 lkX11_70 ev_X11_isCell dX11_path_8 rfl rfl rfl rfl rfl ?_
  refine gj_if_eqb (tgt := 27) dX11_path_11 rfl (fun zq2 => ?_) (fun zq2 => ?_)
  · -- 11 taken
    refine gj_aload_n dX11_path_27 rfl ?_
    refine gj_bipush (v := (-10)) dX11_path_28 (by decide) ?_
    refine gj_V1 lkX11_66 H0 rfl rfl (ev_X11_bad H0 HR) dX11_path_30 rfl rfl rfl rfl rfl ?_
    exact gj_ir rfl dX11_path_33 rfl rfl rfl
  refine gj_iload_n dX11_path_14 rfl ?_
  refine gj_S1 lkX11_70 ev_X11_isCell dX11_path_15 rfl rfl rfl rfl rfl ?_
  refine gj_if_eqb (tgt := 27) dX11_path_18 rfl (fun zq3 => ?_) (fun zq3 => ?_)
  · -- 18 taken
    refine gj_aload_n dX11_path_27 rfl ?_
    refine gj_bipush (v := (-10)) dX11_path_28 (by decide) ?_
    refine gj_V1 lkX11_66 H0 rfl rfl (ev_X11_bad H0 HR) dX11_path_30 rfl rfl rfl rfl rfl ?_
    exact gj_ir rfl dX11_path_33 rfl rfl rfl
  refine gj_iload dX11_path_21 rfl ?_
  refine gj_iconst (v := (-1)) dX11_path_23 (by decide) ?_
  refine gj_icmp_ge (tgt := 34) dX11_path_24 rfl (fun zq4 => ?_) (fun zq4 => ?_)
  · -- 24 taken
    exact absurd ⟨of_decide_eq_true zq1, of_decide_eq_true zq2, of_decide_eq_true zq3, zq4⟩ h0
  refine gj_aload_n dX11_path_27 rfl ?_
  refine gj_bipush (v := (-10)) dX11_path_28 (by decide) ?_
  refine gj_V1 lkX11_66 H0 rfl rfl (ev_X11_bad H0 HR) dX11_path_30 rfl rfl rfl rfl rfl ?_
  exact gj_ir rfl dX11_path_33 rfl rfl rfl
set_option maxHeartbeats 1000000 in
set_option maxRecDepth 10000 in
theorem ev_X11_safe_bad {E : mj_E} {h : mj_H} {a0 a1 y2 y3 y4 y5 y6 : Nat} (H0 : h 100 = some (mj_mo a0 a1 y2 y3 y4 y5 y6)) {R : Nat → Nat} (HR : h 104 = some (mj_ar 3 R)) {a c : Int32} (h0 : ¬ ((nI 0 ≤ a ∧ a ≤ nI 24) ∧ (nI 0 ≤ c ∧ c ≤ nI 24))) : mj_Ev E iX11_safe [.ref 100, .int a, .int c] h (mj_R (some (.int (-2))) (mj_up h 104 (mj_ar 3 (mj_un R 0 ((R 0) + 1))))) := by
  refine mj_Ev.of (L0 := [some (.ref 100), some (.int a), some (.int c), none]) pnRX11 (Nat.le_of_ble_eq_true rfl) rfl ?_
  refine gj_iload_n dX11_safe_0 rfl ?_
  refine gj_S1 lkX11_70 ev_X11_isCell dX11_safe_1 rfl rfl rfl rfl rfl ?_
  refine gj_if_eqb (tgt := 14) dX11_safe_4 rfl (fun zq1 => ?_) (fun zq1 => ?_)
  · -- 4 taken
    refine gj_aload_n dX11_safe_14 rfl ?_
    refine gj_bipush (v := (-2)) dX11_safe_15 (by decide) ?_
    refine gj_V1 lkX11_66 H0 rfl rfl (ev_X11_bad H0 HR) dX11_safe_17 rfl rfl rfl rfl rfl ?_
    exact gj_ir rfl dX11_safe_20 rfl rfl rfl
  refine gj_iload_n dX11_safe_7 rfl ?_
  refine gj_S1 lkX11_70 ev_X11_isCell dX11_safe_8 rfl rfl rfl rfl rfl ?_
  refine gj_if_neb (tgt := 21) dX11_safe_11 rfl (fun zq2 => ?_) (fun zq2 => ?_)
  · -- 11 taken
    exact absurd ⟨of_decide_eq_true zq1, of_decide_eq_true zq2⟩ h0
  refine gj_aload_n dX11_safe_14 rfl ?_
  refine gj_bipush (v := (-2)) dX11_safe_15 (by decide) ?_
  refine gj_V1 lkX11_66 H0 rfl rfl (ev_X11_bad H0 HR) dX11_safe_17 rfl rfl rfl rfl rfl ?_
  exact gj_ir rfl dX11_safe_20 rfl rfl rfl
set_option maxHeartbeats 1000000 in
set_option maxRecDepth 10000 in
theorem ev_X11_cross_bad {E : mj_E} {h : mj_H} {a0 a1 y2 y3 y4 y5 y6 : Nat} (H0 : h 100 = some (mj_mo a0 a1 y2 y3 y4 y5 y6)) {R : Nat → Nat} (HR : h 104 = some (mj_ar 3 R)) {a c w : Int32} (h0 : ¬ ((nI 1 ≤ w ∧ w ≤ nI 99) ∧ (nI 0 ≤ a ∧ a ≤ nI 24) ∧ (nI 0 ≤ c ∧ c ≤ nI 24) ∧ (¬ a = c))) : mj_Ev E iX11_cross [.ref 100, .int w, .int a, .int c] h (mj_R (some (.int (-2))) (mj_up h 104 (mj_ar 3 (mj_un R 0 ((R 0) + 1))))) := by
  refine mj_Ev.of (L0 := [some (.ref 100), some (.int w), some (.int a), some (.int c), none, none, none]) pnRX11 (Nat.le_of_ble_eq_true rfl) rfl ?_
  refine gj_iload_n dX11_cross_0 rfl ?_
  refine gj_i2l (v := w.toInt64) dX11_cross_1 rfl ?_
  refine gj_lconst (v := lN 1) dX11_cross_2 rfl ?_
  refine gj_ldc2 (v := lN 99) w_1047 dX11_cross_3 ?_
  refine gj_S1 lkX11_50 (ev_X11_in_x (by omega) (by omega)) dX11_cross_6 rfl rfl rfl rfl rfl ?_
  refine gj_if_eqb (tgt := 31) dX11_cross_9 rfl (fun zq1 => ?_) (fun zq1 => ?_)
  · -- 9 taken
    refine gj_aload_n dX11_cross_31 rfl ?_
    refine gj_bipush (v := (-2)) dX11_cross_32 (by decide) ?_
    refine gj_V1 lkX11_66 H0 rfl rfl (ev_X11_bad H0 HR) dX11_cross_34 rfl rfl rfl rfl rfl ?_
    exact gj_ir rfl dX11_cross_37 rfl rfl rfl
  refine gj_iload_n dX11_cross_12 rfl ?_
  refine gj_S1 lkX11_70 ev_X11_isCell dX11_cross_13 rfl rfl rfl rfl rfl ?_
  refine gj_if_eqb (tgt := 31) dX11_cross_16 rfl (fun zq2 => ?_) (fun zq2 => ?_)
  · -- 16 taken
    refine gj_aload_n dX11_cross_31 rfl ?_
    refine gj_bipush (v := (-2)) dX11_cross_32 (by decide) ?_
    refine gj_V1 lkX11_66 H0 rfl rfl (ev_X11_bad H0 HR) dX11_cross_34 rfl rfl rfl rfl rfl ?_
    exact gj_ir rfl dX11_cross_37 rfl rfl rfl
  refine gj_iload_n dX11_cross_19 rfl ?_
  refine gj_S1 lkX11_70 ev_X11_isCell dX11_cross_20 rfl rfl rfl rfl rfl ?_
  refine gj_if_eqb (tgt := 31) dX11_cross_23 rfl (fun zq3 => ?_) (fun zq3 => ?_)
  · -- 23 taken
    refine gj_aload_n dX11_cross_31 rfl ?_
    refine gj_bipush (v := (-2)) dX11_cross_32 (by decide) ?_
    refine gj_V1 lkX11_66 H0 rfl rfl (ev_X11_bad H0 HR) dX11_cross_34 rfl rfl rfl rfl rfl ?_
    exact gj_ir rfl dX11_cross_37 rfl rfl rfl
  refine gj_iload_n dX11_cross_26 rfl ?_
  refine gj_iload_n dX11_cross_27 rfl ?_
  refine gj_icmp_ne (tgt := 38) dX11_cross_28 rfl (fun zq4 => ?_) (fun zq4 => ?_)
  · -- 28 taken
    exact absurd ⟨of_decide_eq_true zq1, of_decide_eq_true zq2, of_decide_eq_true zq3, zq4⟩ h0
  refine gj_aload_n dX11_cross_31 rfl ?_
  refine gj_bipush (v := (-2)) dX11_cross_32 (by decide) ?_
  refine gj_V1 lkX11_66 H0 rfl rfl (ev_X11_bad H0 HR) dX11_cross_34 rfl rfl rfl rfl rfl ?_
  exact gj_ir rfl dX11_cross_37 rfl rfl rfl
set_option maxHeartbeats 1000000 in
set_option maxRecDepth 10000 in
theorem ev_X11_apart_bad {E : mj_E} {h : mj_H} {a0 a1 y2 y3 y4 y5 y6 : Nat} (H0 : h 100 = some (mj_mo a0 a1 y2 y3 y4 y5 y6)) {R : Nat → Nat} (HR : h 104 = some (mj_ar 3 R)) {a c q w : Int32} (h0 : ¬ ((nI 1 ≤ w ∧ w ≤ nI 198) ∧ (nI 0 ≤ a ∧ a ≤ nI 24) ∧ (nI 0 ≤ c ∧ c ≤ nI 24) ∧ (¬ a = c) ∧ (nI 0 ≤ q ∧ q ≤ nI 1))) : mj_Ev E iX11_apart [.ref 100, .int w, .int a, .int c, .int q] h (mj_R (some (.int (-2))) (mj_up h 104 (mj_ar 3 (mj_un R 0 ((R 0) + 1))))) := by
  refine mj_Ev.of (L0 := [some (.ref 100), some (.int w), some (.int a), some (.int c), some (.int q), none]) pnRX11 (Nat.le_of_ble_eq_true rfl) rfl ?_
  refine gj_iload_n dX11_apart_0 rfl ?_
  refine gj_S1 lkX11_155 ev_X11_isBurden dX11_apart_1 rfl rfl rfl rfl rfl ?_
  refine gj_if_eqb (tgt := 37) dX11_apart_4 rfl (fun zq1 => ?_) (fun zq1 => ?_)
  · -- 4 taken
    refine gj_aload_n dX11_apart_37 rfl ?_
    refine gj_bipush (v := (-2)) dX11_apart_38 (by decide) ?_
    refine gj_V1 lkX11_66 H0 rfl rfl (ev_X11_bad H0 HR) dX11_apart_40 rfl rfl rfl rfl rfl ?_
    exact gj_ir rfl dX11_apart_43 rfl rfl rfl
  refine gj_iload_n dX11_apart_7 rfl ?_
  refine gj_S1 lkX11_70 ev_X11_isCell dX11_apart_8 rfl rfl rfl rfl rfl ?_
  refine gj_if_eqb (tgt := 37) dX11_apart_11 rfl (fun zq2 => ?_) (fun zq2 => ?_)
  · -- 11 taken
    refine gj_aload_n dX11_apart_37 rfl ?_
    refine gj_bipush (v := (-2)) dX11_apart_38 (by decide) ?_
    refine gj_V1 lkX11_66 H0 rfl rfl (ev_X11_bad H0 HR) dX11_apart_40 rfl rfl rfl rfl rfl ?_
    exact gj_ir rfl dX11_apart_43 rfl rfl rfl
  refine gj_iload_n dX11_apart_14 rfl ?_
  refine gj_S1 lkX11_70 ev_X11_isCell dX11_apart_15 rfl rfl rfl rfl rfl ?_
  refine gj_if_eqb (tgt := 37) dX11_apart_18 rfl (fun zq3 => ?_) (fun zq3 => ?_)
  · -- 18 taken
    refine gj_aload_n dX11_apart_37 rfl ?_
    refine gj_bipush (v := (-2)) dX11_apart_38 (by decide) ?_
    refine gj_V1 lkX11_66 H0 rfl rfl (ev_X11_bad H0 HR) dX11_apart_40 rfl rfl rfl rfl rfl ?_
    exact gj_ir rfl dX11_apart_43 rfl rfl rfl
  refine gj_iload_n dX11_apart_21 rfl ?_
  refine gj_iload_n dX11_apart_22 rfl ?_
  refine gj_icmp_eq (tgt := 37) dX11_apart_23 rfl (fun zq4 => ?_) (fun zq4 => ?_)
  · -- 23 taken
    refine gj_aload_n dX11_apart_37 rfl ?_
    refine gj_bipush (v := (-2)) dX11_apart_38 (by decide) ?_
    refine gj_V1 lkX11_66 H0 rfl rfl (ev_X11_bad H0 HR) dX11_apart_40 rfl rfl rfl rfl rfl ?_
    exact gj_ir rfl dX11_apart_43 rfl rfl rfl
  refine gj_iload dX11_apart_26 rfl ?_
  refine gj_i2l (v := q.toInt64) dX11_apart_28 rfl ?_
  refine gj_lconst (v := lN 0) dX11_apart_29 rfl ?_
  refine gj_lconst (v := lN 1) dX11_apart_30 rfl ?_
  refine gj_S1 lkX11_50 (ev_X11_in_x (by omega) (by omega)) dX11_apart_31 rfl rfl rfl rfl rfl ?_
  refine gj_if_neb (tgt := 44) dX11_apart_34 rfl (fun zq5 => ?_) (fun zq5 => ?_)
  · -- 34 taken
    exact absurd ⟨of_decide_eq_true zq1, of_decide_eq_true zq2, of_decide_eq_true zq3, zq4, of_decide_eq_true zq5⟩ h0
  refine gj_aload_n dX11_apart_37 rfl ?_
  refine gj_bipush (v := (-2)) dX11_apart_38 (by decide) ?_
  refine gj_V1 lkX11_66 H0 rfl rfl (ev_X11_bad H0 HR) dX11_apart_40 rfl rfl rfl rfl rfl ?_
  exact gj_ir rfl dX11_apart_43 rfl rfl rfl
set_option maxHeartbeats 1000000 in
set_option maxRecDepth 10000 in
theorem ev_X11_votes_bad {E : mj_E} {h : mj_H} {a0 a1 y2 y3 y4 y5 y6 : Nat} (H0 : h 100 = some (mj_mo a0 a1 y2 y3 y4 y5 y6)) {R : Nat → Nat} (HR : h 104 = some (mj_ar 3 R)) {q : Int32} (h0 : ¬ ((nI 0 ≤ q ∧ q ≤ nI 2))) : mj_Ev E iX11_votes [.ref 100, .int q] h (mj_R (some (.int (-2))) (mj_up h 104 (mj_ar 3 (mj_un R 0 ((R 0) + 1))))) := by
  refine mj_Ev.of (L0 := [some (.ref 100), some (.int q), none]) pnRX11 (Nat.le_of_ble_eq_true rfl) rfl ?_
  refine gj_iload_n dX11_votes_0 rfl ?_
  refine gj_i2l (v := q.toInt64) dX11_votes_1 rfl ?_
  refine gj_lconst (v := lN 0) dX11_votes_2 rfl ?_
  refine gj_ldc2 (v := lN 2) w_1154 dX11_votes_3 ?_
  refine gj_S1 lkX11_50 (ev_X11_in_x (by omega) (by omega)) dX11_votes_6 rfl rfl rfl rfl rfl ?_
  refine gj_if_neb (tgt := 19) dX11_votes_9 rfl (fun zq1 => ?_) (fun zq1 => ?_)
  · -- 9 taken
    exact absurd (of_decide_eq_true zq1) h0
  refine gj_aload_n dX11_votes_12 rfl ?_
  refine gj_bipush (v := (-2)) dX11_votes_13 (by decide) ?_
  refine gj_V1 lkX11_66 H0 rfl rfl (ev_X11_bad H0 HR) dX11_votes_15 rfl rfl rfl rfl rfl ?_
  exact gj_ir rfl dX11_votes_18 rfl rfl rfl
set_option maxHeartbeats 1000000 in
set_option maxRecDepth 10000 in
theorem ev_X11_seen_bad {E : mj_E} {h : mj_H} {a0 a1 y2 y3 y4 y5 y6 : Nat} (H0 : h 100 = some (mj_mo a0 a1 y2 y3 y4 y5 y6)) {T : Nat → Nat} (HT : h 101 = some (mj_ar 362 T)) {R : Nat → Nat} (HR : h 104 = some (mj_ar 3 R)) (bT : mj_Tb T) {q x : Int32} (h0 : ¬ ((nI 0 ≤ x ∧ x ≤ nI (1 <<< (T 0) - 1)) ∧ (nI 0 ≤ q ∧ q ≤ nI 2))) : mj_Ev E iX11_seen [.ref 100, .int x, .int q] h (mj_R (some (.int (-2))) (mj_up h 104 (mj_ar 3 (mj_un R 0 ((R 0) + 1))))) := by
  refine mj_Ev.of (L0 := [some (.ref 100), some (.int x), some (.int q), none, none, none, none]) pnRX11 (Nat.le_of_ble_eq_true rfl) rfl ?_
  have hb0 := bT.1
  have hZ := mj_sets_le hb0
  refine gj_iload_n dX11_seen_0 rfl ?_
  refine gj_i2l (v := x.toInt64) dX11_seen_1 rfl ?_
  refine gj_lconst (v := lN 0) dX11_seen_2 rfl ?_
  refine gj_ic (w := 1) dX11_seen_3 ?_
  refine gj_aload_n dX11_seen_4 rfl ?_
  refine gj_V1 lkX11_46 H0 rfl rfl (ev_X11_many H0 HT) dX11_seen_5 rfl rfl rfl rfl rfl ?_
  refine gj_ishlN (by omega) dX11_seen_8 ?_
  refine gj_ic (w := 1) dX11_seen_9 ?_
  refine gj_isubN (by omega) dX11_seen_10 ?_
  refine gj_i2lN (by omega) dX11_seen_11 ?_
  refine gj_S1 lkX11_50 (ev_X11_in_x (by omega) (by omega)) dX11_seen_12 rfl rfl rfl rfl rfl ?_
  refine gj_if_eqb (tgt := 30) dX11_seen_15 rfl (fun zq1 => ?_) (fun zq1 => ?_)
  · -- 15 taken
    refine gj_aload_n dX11_seen_30 rfl ?_
    refine gj_bipush (v := (-2)) dX11_seen_31 (by decide) ?_
    refine gj_V1 lkX11_66 H0 rfl rfl (ev_X11_bad H0 HR) dX11_seen_33 rfl rfl rfl rfl rfl ?_
    exact gj_ir rfl dX11_seen_36 rfl rfl rfl
  refine gj_iload_n dX11_seen_18 rfl ?_
  refine gj_i2l (v := q.toInt64) dX11_seen_19 rfl ?_
  refine gj_lconst (v := lN 0) dX11_seen_20 rfl ?_
  refine gj_ldc2 (v := lN 2) w_1154 dX11_seen_21 ?_
  refine gj_S1 lkX11_50 (ev_X11_in_x (by omega) (by omega)) dX11_seen_24 rfl rfl rfl rfl rfl ?_
  refine gj_if_neb (tgt := 37) dX11_seen_27 rfl (fun zq2 => ?_) (fun zq2 => ?_)
  · -- 27 taken
    exact absurd ⟨of_decide_eq_true zq1, of_decide_eq_true zq2⟩ h0
  refine gj_aload_n dX11_seen_30 rfl ?_
  refine gj_bipush (v := (-2)) dX11_seen_31 (by decide) ?_
  refine gj_V1 lkX11_66 H0 rfl rfl (ev_X11_bad H0 HR) dX11_seen_33 rfl rfl rfl rfl rfl ?_
  exact gj_ir rfl dX11_seen_36 rfl rfl rfl
set_option maxHeartbeats 1000000 in
set_option maxRecDepth 10000 in
theorem ev_X11_stones_bad {E : mj_E} {h : mj_H} {a0 a1 y2 y3 y4 y5 y6 : Nat} (H0 : h 100 = some (mj_mo a0 a1 y2 y3 y4 y5 y6)) {R : Nat → Nat} (HR : h 104 = some (mj_ar 3 R)) {a c w : Int32} (h0 : ¬ ((nI 1 ≤ w ∧ w ≤ nI 198) ∧ (nI 0 ≤ a ∧ a ≤ nI 24) ∧ (nI 0 ≤ c ∧ c ≤ nI 24) ∧ (¬ a = c))) : mj_Ev E iX11_stones [.ref 100, .int w, .int a, .int c] h (mj_R (some (.int (-2))) (mj_up h 104 (mj_ar 3 (mj_un R 0 ((R 0) + 1))))) := by
  refine mj_Ev.of (L0 := [some (.ref 100), some (.int w), some (.int a), some (.int c), none, none]) pnRX11 (Nat.le_of_ble_eq_true rfl) rfl ?_
  refine gj_iload_n dX11_stones_0 rfl ?_
  refine gj_S1 lkX11_155 ev_X11_isBurden dX11_stones_1 rfl rfl rfl rfl rfl ?_
  refine gj_if_eqb (tgt := 26) dX11_stones_4 rfl (fun zq1 => ?_) (fun zq1 => ?_)
  · -- 4 taken
    refine gj_aload_n dX11_stones_26 rfl ?_
    refine gj_bipush (v := (-2)) dX11_stones_27 (by decide) ?_
    refine gj_V1 lkX11_66 H0 rfl rfl (ev_X11_bad H0 HR) dX11_stones_29 rfl rfl rfl rfl rfl ?_
    exact gj_ir rfl dX11_stones_32 rfl rfl rfl
  refine gj_iload_n dX11_stones_7 rfl ?_
  refine gj_S1 lkX11_70 ev_X11_isCell dX11_stones_8 rfl rfl rfl rfl rfl ?_
  refine gj_if_eqb (tgt := 26) dX11_stones_11 rfl (fun zq2 => ?_) (fun zq2 => ?_)
  · -- 11 taken
    refine gj_aload_n dX11_stones_26 rfl ?_
    refine gj_bipush (v := (-2)) dX11_stones_27 (by decide) ?_
    refine gj_V1 lkX11_66 H0 rfl rfl (ev_X11_bad H0 HR) dX11_stones_29 rfl rfl rfl rfl rfl ?_
    exact gj_ir rfl dX11_stones_32 rfl rfl rfl
  refine gj_iload_n dX11_stones_14 rfl ?_
  refine gj_S1 lkX11_70 ev_X11_isCell dX11_stones_15 rfl rfl rfl rfl rfl ?_
  refine gj_if_eqb (tgt := 26) dX11_stones_18 rfl (fun zq3 => ?_) (fun zq3 => ?_)
  · -- 18 taken
    refine gj_aload_n dX11_stones_26 rfl ?_
    refine gj_bipush (v := (-2)) dX11_stones_27 (by decide) ?_
    refine gj_V1 lkX11_66 H0 rfl rfl (ev_X11_bad H0 HR) dX11_stones_29 rfl rfl rfl rfl rfl ?_
    exact gj_ir rfl dX11_stones_32 rfl rfl rfl
  refine gj_iload_n dX11_stones_21 rfl ?_
  refine gj_iload_n dX11_stones_22 rfl ?_
  refine gj_icmp_ne (tgt := 33) dX11_stones_23 rfl (fun zq4 => ?_) (fun zq4 => ?_)
  · -- 23 taken
    exact absurd ⟨of_decide_eq_true zq1, of_decide_eq_true zq2, of_decide_eq_true zq3, zq4⟩ h0
  refine gj_aload_n dX11_stones_26 rfl ?_
  refine gj_bipush (v := (-2)) dX11_stones_27 (by decide) ?_
  refine gj_V1 lkX11_66 H0 rfl rfl (ev_X11_bad H0 HR) dX11_stones_29 rfl rfl rfl rfl rfl ?_
  exact gj_ir rfl dX11_stones_32 rfl rfl rfl
set_option maxHeartbeats 1000000 in
set_option maxRecDepth 10000 in
theorem ev_X11_note_bad {E : mj_E} {h : mj_H} {a0 a1 y2 y3 y4 y5 y6 : Nat} (H0 : h 100 = some (mj_mo a0 a1 y2 y3 y4 y5 y6)) {R : Nat → Nat} (HR : h 104 = some (mj_ar 3 R)) {c f i j s : Int32} (h0 : ¬ ((nI 0 ≤ c ∧ c ≤ nI 24) ∧ (nI 0 ≤ i ∧ i ≤ nI 99) ∧ (nI 0 ≤ f ∧ f ≤ nI 9) ∧ (nI 0 ≤ s ∧ s ≤ nI 9) ∧ (nI 0 ≤ j ∧ j ≤ nI 99))) : mj_Ev E iX11_note [.ref 100, .int c, .int i, .int f, .int s, .int j] h (mj_R (some (.int (-2))) (mj_up h 104 (mj_ar 3 (mj_un R 0 ((R 0) + 1))))) := by
  refine mj_Ev.of (L0 := [some (.ref 100), some (.int c), some (.int i), some (.int f), some (.int s), some (.int j), none]) pnRX11 (Nat.le_of_ble_eq_true rfl) rfl ?_
  refine gj_iload_n dX11_note_0 rfl ?_
  refine gj_S1 lkX11_70 ev_X11_isCell dX11_note_1 rfl rfl rfl rfl rfl ?_
  refine gj_if_eqb (tgt := 37) dX11_note_4 rfl (fun zq1 => ?_) (fun zq1 => ?_)
  · -- 4 taken
    refine gj_aload_n dX11_note_37 rfl ?_
    refine gj_bipush (v := (-2)) dX11_note_38 (by decide) ?_
    refine gj_V1 lkX11_66 H0 rfl rfl (ev_X11_bad H0 HR) dX11_note_40 rfl rfl rfl rfl rfl ?_
    exact gj_ir rfl dX11_note_43 rfl rfl rfl
  refine gj_iload_n dX11_note_7 rfl ?_
  refine gj_S1 lkX11_62 ev_X11_isIce dX11_note_8 rfl rfl rfl rfl rfl ?_
  refine gj_if_eqb (tgt := 37) dX11_note_11 rfl (fun zq2 => ?_) (fun zq2 => ?_)
  · -- 11 taken
    refine gj_aload_n dX11_note_37 rfl ?_
    refine gj_bipush (v := (-2)) dX11_note_38 (by decide) ?_
    refine gj_V1 lkX11_66 H0 rfl rfl (ev_X11_bad H0 HR) dX11_note_40 rfl rfl rfl rfl rfl ?_
    exact gj_ir rfl dX11_note_43 rfl rfl rfl
  refine gj_iload_n dX11_note_14 rfl ?_
  refine gj_S1 lkX11_77 ev_X11_isWeather dX11_note_15 rfl rfl rfl rfl rfl ?_
  refine gj_if_eqb (tgt := 37) dX11_note_18 rfl (fun zq3 => ?_) (fun zq3 => ?_)
  · -- 18 taken
    refine gj_aload_n dX11_note_37 rfl ?_
    refine gj_bipush (v := (-2)) dX11_note_38 (by decide) ?_
    refine gj_V1 lkX11_66 H0 rfl rfl (ev_X11_bad H0 HR) dX11_note_40 rfl rfl rfl rfl rfl ?_
    exact gj_ir rfl dX11_note_43 rfl rfl rfl
  refine gj_iload dX11_note_21 rfl ?_
  refine gj_S1 lkX11_77 ev_X11_isWeather dX11_note_23 rfl rfl rfl rfl rfl ?_
  refine gj_if_eqb (tgt := 37) dX11_note_26 rfl (fun zq4 => ?_) (fun zq4 => ?_)
  · -- 26 taken
    refine gj_aload_n dX11_note_37 rfl ?_
    refine gj_bipush (v := (-2)) dX11_note_38 (by decide) ?_
    refine gj_V1 lkX11_66 H0 rfl rfl (ev_X11_bad H0 HR) dX11_note_40 rfl rfl rfl rfl rfl ?_
    exact gj_ir rfl dX11_note_43 rfl rfl rfl
  refine gj_iload dX11_note_29 rfl ?_
  refine gj_S1 lkX11_62 ev_X11_isIce dX11_note_31 rfl rfl rfl rfl rfl ?_
  refine gj_if_neb (tgt := 44) dX11_note_34 rfl (fun zq5 => ?_) (fun zq5 => ?_)
  · -- 34 taken
    exact absurd ⟨of_decide_eq_true zq1, of_decide_eq_true zq2, of_decide_eq_true zq3, of_decide_eq_true zq4, of_decide_eq_true zq5⟩ h0
  refine gj_aload_n dX11_note_37 rfl ?_
  refine gj_bipush (v := (-2)) dX11_note_38 (by decide) ?_
  refine gj_V1 lkX11_66 H0 rfl rfl (ev_X11_bad H0 HR) dX11_note_40 rfl rfl rfl rfl rfl ?_
  exact gj_ir rfl dX11_note_43 rfl rfl rfl
set_option maxHeartbeats 1000000 in
set_option maxRecDepth 10000 in
theorem ev_X11_voted_bad {E : mj_E} {h : mj_H} {a0 a1 y2 y3 y4 y5 y6 : Nat} (H0 : h 100 = some (mj_mo a0 a1 y2 y3 y4 y5 y6)) {T : Nat → Nat} (HT : h 101 = some (mj_ar 362 T)) {R : Nat → Nat} (HR : h 104 = some (mj_ar 3 R)) (bT : mj_Tb T) {f m p v y : Int32} (h0 : ¬ ((nI 0 ≤ v ∧ v < nI (T 0)) ∧ (nI 0 ≤ y ∧ y ≤ nI 1) ∧ (nI 0 ≤ p ∧ p ≤ nI 198) ∧ (nI 0 ≤ m ∧ m ≤ nI 198) ∧ (nI 0 ≤ f ∧ f ≤ nI 9))) : mj_Ev E iX11_voted [.ref 100, .int v, .int y, .int p, .int m, .int f] h (mj_R (some (.int (-2))) (mj_up h 104 (mj_ar 3 (mj_un R 0 ((R 0) + 1))))) := by
  refine mj_Ev.of (L0 := [some (.ref 100), some (.int v), some (.int y), some (.int p), some (.int m), some (.int f), none]) pnRX11 (Nat.le_of_ble_eq_true rfl) rfl ?_
  refine gj_aload_n dX11_voted_0 rfl ?_
  refine gj_iload_n dX11_voted_1 rfl ?_
  refine gj_V1 lkX11_146 H0 rfl rfl (ev_X11_isVoter_x H0 HT bT) dX11_voted_2 rfl rfl rfl rfl rfl ?_
  refine gj_if_eqb (tgt := 51) dX11_voted_5 rfl (fun zq1 => ?_) (fun zq1 => ?_)
  · -- 5 taken
    refine gj_aload_n dX11_voted_51 rfl ?_
    refine gj_bipush (v := (-2)) dX11_voted_52 (by decide) ?_
    refine gj_V1 lkX11_66 H0 rfl rfl (ev_X11_bad H0 HR) dX11_voted_54 rfl rfl rfl rfl rfl ?_
    exact gj_ir rfl dX11_voted_57 rfl rfl rfl
  refine gj_iload_n dX11_voted_8 rfl ?_
  refine gj_i2l (v := y.toInt64) dX11_voted_9 rfl ?_
  refine gj_lconst (v := lN 0) dX11_voted_10 rfl ?_
  refine gj_lconst (v := lN 1) dX11_voted_11 rfl ?_
  refine gj_S1 lkX11_50 (ev_X11_in_x (by omega) (by omega)) dX11_voted_12 rfl rfl rfl rfl rfl ?_
  refine gj_if_eqb (tgt := 51) dX11_voted_15 rfl (fun zq2 => ?_) (fun zq2 => ?_)
  · -- 15 taken
    refine gj_aload_n dX11_voted_51 rfl ?_
    refine gj_bipush (v := (-2)) dX11_voted_52 (by decide) ?_
    refine gj_V1 lkX11_66 H0 rfl rfl (ev_X11_bad H0 HR) dX11_voted_54 rfl rfl rfl rfl rfl ?_
    exact gj_ir rfl dX11_voted_57 rfl rfl rfl
  refine gj_iload_n dX11_voted_18 rfl ?_
  refine gj_i2l (v := p.toInt64) dX11_voted_19 rfl ?_
  refine gj_lconst (v := lN 0) dX11_voted_20 rfl ?_
  refine gj_ldc2 (v := lN 198) w_1197 dX11_voted_21 ?_
  refine gj_S1 lkX11_50 (ev_X11_in_x (by omega) (by omega)) dX11_voted_24 rfl rfl rfl rfl rfl ?_
  refine gj_if_eqb (tgt := 51) dX11_voted_27 rfl (fun zq3 => ?_) (fun zq3 => ?_)
  · -- 27 taken
    refine gj_aload_n dX11_voted_51 rfl ?_
    refine gj_bipush (v := (-2)) dX11_voted_52 (by decide) ?_
    refine gj_V1 lkX11_66 H0 rfl rfl (ev_X11_bad H0 HR) dX11_voted_54 rfl rfl rfl rfl rfl ?_
    exact gj_ir rfl dX11_voted_57 rfl rfl rfl
  refine gj_iload dX11_voted_30 rfl ?_
  refine gj_i2l (v := m.toInt64) dX11_voted_32 rfl ?_
  refine gj_lconst (v := lN 0) dX11_voted_33 rfl ?_
  refine gj_ldc2 (v := lN 198) w_1197 dX11_voted_34 ?_
  refine gj_S1 lkX11_50 (ev_X11_in_x (by omega) (by omega)) dX11_voted_37 rfl rfl rfl rfl rfl ?_
  refine gj_if_eqb (tgt := 51) dX11_voted_40 rfl (fun zq4 => ?_) (fun zq4 => ?_)
  · -- 40 taken
    refine gj_aload_n dX11_voted_51 rfl ?_
    refine gj_bipush (v := (-2)) dX11_voted_52 (by decide) ?_
    refine gj_V1 lkX11_66 H0 rfl rfl (ev_X11_bad H0 HR) dX11_voted_54 rfl rfl rfl rfl rfl ?_
    exact gj_ir rfl dX11_voted_57 rfl rfl rfl
  refine gj_iload dX11_voted_43 rfl ?_
  refine gj_S1 lkX11_77 ev_X11_isWeather dX11_voted_45 rfl rfl rfl rfl rfl ?_
  refine gj_if_neb (tgt := 58) dX11_voted_48 rfl (fun zq5 => ?_) (fun zq5 => ?_)
  · -- 48 taken
    exact absurd ⟨of_decide_eq_true zq1, of_decide_eq_true zq2, of_decide_eq_true zq3, of_decide_eq_true zq4, of_decide_eq_true zq5⟩ h0
  refine gj_aload_n dX11_voted_51 rfl ?_
  refine gj_bipush (v := (-2)) dX11_voted_52 (by decide) ?_
  refine gj_V1 lkX11_66 H0 rfl rfl (ev_X11_bad H0 HR) dX11_voted_54 rfl rfl rfl rfl rfl ?_
  exact gj_ir rfl dX11_voted_57 rfl rfl rfl
set_option maxHeartbeats 1000000 in
set_option maxRecDepth 10000 in
theorem ev_X11_forget_bad {E : mj_E} {h : mj_H} {a0 a1 y2 y3 y4 y5 y6 : Nat} (H0 : h 100 = some (mj_mo a0 a1 y2 y3 y4 y5 y6)) {R : Nat → Nat} (HR : h 104 = some (mj_ar 3 R)) {q : Int32} (h0 : ¬ ((nI 0 ≤ q ∧ q ≤ nI 1))) : mj_Ev E iX11_forget [.ref 100, .int q] h (mj_R (some (.int (-2))) (mj_up h 104 (mj_ar 3 (mj_un R 0 ((R 0) + 1))))) := by
  refine mj_Ev.of (L0 := [some (.ref 100), some (.int q), none]) pnRX11 (Nat.le_of_ble_eq_true rfl) rfl ?_
  refine gj_iload_n dX11_forget_0 rfl ?_
  refine gj_i2l (v := q.toInt64) dX11_forget_1 rfl ?_
  refine gj_lconst (v := lN 0) dX11_forget_2 rfl ?_
  refine gj_lconst (v := lN 1) dX11_forget_3 rfl ?_
  refine gj_S1 lkX11_50 (ev_X11_in_x (by omega) (by omega)) dX11_forget_4 rfl rfl rfl rfl rfl ?_
  refine gj_if_neb (tgt := 17) dX11_forget_7 rfl (fun zq1 => ?_) (fun zq1 => ?_)
  · -- 7 taken
    exact absurd (of_decide_eq_true zq1) h0
  refine gj_aload_n dX11_forget_10 rfl ?_
  refine gj_bipush (v := (-2)) dX11_forget_11 (by decide) ?_
  refine gj_V1 lkX11_66 H0 rfl rfl (ev_X11_bad H0 HR) dX11_forget_13 rfl rfl rfl rfl rfl ?_
  exact gj_ir rfl dX11_forget_16 rfl rfl rfl
set_option maxHeartbeats 1000000 in
set_option maxRecDepth 10000 in
theorem ev_X11_is_bad {E : mj_E} {h : mj_H} {a0 a1 y2 y3 y4 y5 y6 : Nat} (H0 : h 100 = some (mj_mo a0 a1 y2 y3 y4 y5 y6)) {R : Nat → Nat} (HR : h 104 = some (mj_ar 3 R)) {c : Int32} (h0 : ¬ ((nI 0 ≤ c ∧ c ≤ nI 24))) : mj_Ev E iX11_is [.ref 100, .int c] h (mj_R (some (.int (-2))) (mj_up h 104 (mj_ar 3 (mj_un R 0 ((R 0) + 1))))) := by
  refine mj_Ev.of (L0 := [some (.ref 100), some (.int c)]) pnRX11 (Nat.le_of_ble_eq_true rfl) rfl ?_
  refine gj_iload_n dX11_is_0 rfl ?_
  refine gj_S1 lkX11_70 ev_X11_isCell dX11_is_1 rfl rfl rfl rfl rfl ?_
  refine gj_if_eqb (tgt := 15) dX11_is_4 rfl (fun zq1 => ?_) (fun zq1 => ?_)
  · -- 4 taken
    refine gj_aload_n dX11_is_15 rfl ?_
    refine gj_bipush (v := (-2)) dX11_is_16 (by decide) ?_
    refine gj_V1 lkX11_66 H0 rfl rfl (ev_X11_bad H0 HR) dX11_is_18 rfl rfl rfl rfl rfl ?_
    exact gj_ir rfl dX11_is_21 rfl rfl rfl
  exact absurd (of_decide_eq_true zq1) h0
set_option maxHeartbeats 1000000 in
set_option maxRecDepth 10000 in
theorem ev_X11_next_bad {E : mj_E} {h : mj_H} {a0 a1 y2 y3 y4 y5 y6 : Nat} (H0 : h 100 = some (mj_mo a0 a1 y2 y3 y4 y5 y6)) {R : Nat → Nat} (HR : h 104 = some (mj_ar 3 R)) {c : Int32} (h0 : ¬ ((nI 0 ≤ c ∧ c ≤ nI 24))) : mj_Ev E iX11_next [.ref 100, .int c] h (mj_R (some (.int (-2))) (mj_up h 104 (mj_ar 3 (mj_un R 0 ((R 0) + 1))))) := by
  refine mj_Ev.of (L0 := [some (.ref 100), some (.int c), none, none, none, none, none, none, none, none, none]) pnRX11 (Nat.le_of_ble_eq_true rfl) rfl ?_
  refine gj_iload_n dX11_next_0 rfl ?_
  refine gj_S1 lkX11_70 ev_X11_isCell dX11_next_1 rfl rfl rfl rfl rfl ?_
  refine gj_if_neb (tgt := 14) dX11_next_4 rfl (fun zq1 => ?_) (fun zq1 => ?_)
  · -- 4 taken
    exact absurd (of_decide_eq_true zq1) h0
  refine gj_aload_n dX11_next_7 rfl ?_
  refine gj_bipush (v := (-2)) dX11_next_8 (by decide) ?_
  refine gj_V1 lkX11_66 H0 rfl rfl (ev_X11_bad H0 HR) dX11_next_10 rfl rfl rfl rfl rfl ?_
  exact gj_ir rfl dX11_next_13 rfl rfl rfl
set_option maxHeartbeats 1000000 in
set_option maxRecDepth 10000 in
theorem ev_X11_who_bad {E : mj_E} {h : mj_H} {a0 a1 y2 y3 y4 y5 y6 : Nat} (H0 : h 100 = some (mj_mo a0 a1 y2 y3 y4 y5 y6)) {T : Nat → Nat} (HT : h 101 = some (mj_ar 362 T)) {R : Nat → Nat} (HR : h 104 = some (mj_ar 3 R)) (bT : mj_Tb T) {v : Int32} (h0 : ¬ ((nI 0 ≤ v ∧ v < nI (T 0)))) : mj_Ev E iX11_who [.ref 100, .int v] h (mj_R (some (.int (-2))) (mj_up h 104 (mj_ar 3 (mj_un R 0 ((R 0) + 1))))) := by
  refine mj_Ev.of (L0 := [some (.ref 100), some (.int v), none, none, none, none, none, none]) pnRX11 (Nat.le_of_ble_eq_true rfl) rfl ?_
  refine gj_aload_n dX11_who_0 rfl ?_
  refine gj_iload_n dX11_who_1 rfl ?_
  refine gj_V1 lkX11_146 H0 rfl rfl (ev_X11_isVoter_x H0 HT bT) dX11_who_2 rfl rfl rfl rfl rfl ?_
  refine gj_if_neb (tgt := 15) dX11_who_5 rfl (fun zq1 => ?_) (fun zq1 => ?_)
  · -- 5 taken
    exact absurd (of_decide_eq_true zq1) h0
  refine gj_aload_n dX11_who_8 rfl ?_
  refine gj_bipush (v := (-2)) dX11_who_9 (by decide) ?_
  refine gj_V1 lkX11_66 H0 rfl rfl (ev_X11_bad H0 HR) dX11_who_11 rfl rfl rfl rfl rfl ?_
  exact gj_ir rfl dX11_who_14 rfl rfl rfl
set_option maxHeartbeats 1000000 in
set_option maxRecDepth 10000 in
theorem ev_X11_two_bad {E : mj_E} {h : mj_H} {a0 a1 y2 y3 y4 y5 y6 : Nat} (H0 : h 100 = some (mj_mo a0 a1 y2 y3 y4 y5 y6)) {T : Nat → Nat} (HT : h 101 = some (mj_ar 362 T)) {R : Nat → Nat} (HR : h 104 = some (mj_ar 3 R)) (bT : mj_Tb T) {a c : Int32} (h0 : ¬ ((nI 0 ≤ a ∧ a < nI (T 0)) ∧ (nI 0 ≤ c ∧ c < nI (T 0)) ∧ (¬ a = c))) : mj_Ev E iX11_two [.ref 100, .int a, .int c] h (mj_R (some (.int (-2))) (mj_up h 104 (mj_ar 3 (mj_un R 0 ((R 0) + 1))))) := by
  refine mj_Ev.of (L0 := [some (.ref 100), some (.int a), some (.int c), none, none, none, none, none]) pnRX11 (Nat.le_of_ble_eq_true rfl) rfl ?_
  refine gj_aload_n dX11_two_0 rfl ?_
  refine gj_iload_n dX11_two_1 rfl ?_
  refine gj_V1 lkX11_146 H0 rfl rfl (ev_X11_isVoter_x H0 HT bT) dX11_two_2 rfl rfl rfl rfl rfl ?_
  refine gj_if_eqb (tgt := 21) dX11_two_5 rfl (fun zq1 => ?_) (fun zq1 => ?_)
  · -- 5 taken
    refine gj_aload_n dX11_two_21 rfl ?_
    refine gj_bipush (v := (-2)) dX11_two_22 (by decide) ?_
    refine gj_V1 lkX11_66 H0 rfl rfl (ev_X11_bad H0 HR) dX11_two_24 rfl rfl rfl rfl rfl ?_
    exact gj_ir rfl dX11_two_27 rfl rfl rfl
  refine gj_aload_n dX11_two_8 rfl ?_
  refine gj_iload_n dX11_two_9 rfl ?_
  refine gj_V1 lkX11_146 H0 rfl rfl (ev_X11_isVoter_x H0 HT bT) dX11_two_10 rfl rfl rfl rfl rfl ?_
  refine gj_if_eqb (tgt := 21) dX11_two_13 rfl (fun zq2 => ?_) (fun zq2 => ?_)
  · -- 13 taken
    refine gj_aload_n dX11_two_21 rfl ?_
    refine gj_bipush (v := (-2)) dX11_two_22 (by decide) ?_
    refine gj_V1 lkX11_66 H0 rfl rfl (ev_X11_bad H0 HR) dX11_two_24 rfl rfl rfl rfl rfl ?_
    exact gj_ir rfl dX11_two_27 rfl rfl rfl
  refine gj_iload_n dX11_two_16 rfl ?_
  refine gj_iload_n dX11_two_17 rfl ?_
  refine gj_icmp_ne (tgt := 28) dX11_two_18 rfl (fun zq3 => ?_) (fun zq3 => ?_)
  · -- 18 taken
    exact absurd ⟨of_decide_eq_true zq1, of_decide_eq_true zq2, zq3⟩ h0
  refine gj_aload_n dX11_two_21 rfl ?_
  refine gj_bipush (v := (-2)) dX11_two_22 (by decide) ?_
  refine gj_V1 lkX11_66 H0 rfl rfl (ev_X11_bad H0 HR) dX11_two_24 rfl rfl rfl rfl rfl ?_
  exact gj_ir rfl dX11_two_27 rfl rfl rfl
set_option maxHeartbeats 1000000 in
set_option maxRecDepth 10000 in
theorem ev_X11_thaw_bad {E : mj_E} {h : mj_H} {a0 a1 y2 y3 y4 y5 y6 : Nat} (H0 : h 100 = some (mj_mo a0 a1 y2 y3 y4 y5 y6)) {R : Nat → Nat} (HR : h 104 = some (mj_ar 3 R)) {c m o w : Int32} (h0 : ¬ ((nI 0 ≤ c ∧ c ≤ nI 24) ∧ (nI 1 ≤ w ∧ w ≤ nI 198) ∧ (nI 0 ≤ m ∧ m ≤ nI 8) ∧ (nI 0 ≤ o ∧ o ≤ nI 10))) : mj_Ev E iX11_thaw [.ref 100, .int c, .int w, .int m, .int o] h (mj_R (some (.int (-2))) (mj_up h 104 (mj_ar 3 (mj_un R 0 ((R 0) + 1))))) := by
  refine mj_Ev.of (L0 := [some (.ref 100), some (.int c), some (.int w), some (.int m), some (.int o), none, none, none, none, none, none, none, none, none, none]) pnRX11 (Nat.le_of_ble_eq_true rfl) rfl ?_
  refine gj_iload_n dX11_thaw_0 rfl ?_
  refine gj_S1 lkX11_70 ev_X11_isCell dX11_thaw_1 rfl rfl rfl rfl rfl ?_
  refine gj_if_eqb (tgt := 39) dX11_thaw_4 rfl (fun zq1 => ?_) (fun zq1 => ?_)
  · -- 4 taken
    refine gj_aload_n dX11_thaw_39 rfl ?_
    refine gj_bipush (v := (-2)) dX11_thaw_40 (by decide) ?_
    refine gj_V1 lkX11_66 H0 rfl rfl (ev_X11_bad H0 HR) dX11_thaw_42 rfl rfl rfl rfl rfl ?_
    exact gj_ir rfl dX11_thaw_45 rfl rfl rfl
  refine gj_iload_n dX11_thaw_7 rfl ?_
  refine gj_S1 lkX11_155 ev_X11_isBurden dX11_thaw_8 rfl rfl rfl rfl rfl ?_
  refine gj_if_eqb (tgt := 39) dX11_thaw_11 rfl (fun zq2 => ?_) (fun zq2 => ?_)
  · -- 11 taken
    refine gj_aload_n dX11_thaw_39 rfl ?_
    refine gj_bipush (v := (-2)) dX11_thaw_40 (by decide) ?_
    refine gj_V1 lkX11_66 H0 rfl rfl (ev_X11_bad H0 HR) dX11_thaw_42 rfl rfl rfl rfl rfl ?_
    exact gj_ir rfl dX11_thaw_45 rfl rfl rfl
  refine gj_iload_n dX11_thaw_14 rfl ?_
  refine gj_i2l (v := m.toInt64) dX11_thaw_15 rfl ?_
  refine gj_lconst (v := lN 0) dX11_thaw_16 rfl ?_
  refine gj_ldc2 (v := lN 8) w_1332 dX11_thaw_17 ?_
  refine gj_S1 lkX11_50 (ev_X11_in_x (by omega) (by omega)) dX11_thaw_20 rfl rfl rfl rfl rfl ?_
  refine gj_if_eqb (tgt := 39) dX11_thaw_23 rfl (fun zq3 => ?_) (fun zq3 => ?_)
  · -- 23 taken
    refine gj_aload_n dX11_thaw_39 rfl ?_
    refine gj_bipush (v := (-2)) dX11_thaw_40 (by decide) ?_
    refine gj_V1 lkX11_66 H0 rfl rfl (ev_X11_bad H0 HR) dX11_thaw_42 rfl rfl rfl rfl rfl ?_
    exact gj_ir rfl dX11_thaw_45 rfl rfl rfl
  refine gj_iload dX11_thaw_26 rfl ?_
  refine gj_i2l (v := o.toInt64) dX11_thaw_28 rfl ?_
  refine gj_lconst (v := lN 0) dX11_thaw_29 rfl ?_
  refine gj_ldc2 (v := lN 10) w_1333 dX11_thaw_30 ?_
  refine gj_S1 lkX11_50 (ev_X11_in_x (by omega) (by omega)) dX11_thaw_33 rfl rfl rfl rfl rfl ?_
  refine gj_if_neb (tgt := 46) dX11_thaw_36 rfl (fun zq4 => ?_) (fun zq4 => ?_)
  · -- 36 taken
    exact absurd ⟨of_decide_eq_true zq1, of_decide_eq_true zq2, of_decide_eq_true zq3, of_decide_eq_true zq4⟩ h0
  refine gj_aload_n dX11_thaw_39 rfl ?_
  refine gj_bipush (v := (-2)) dX11_thaw_40 (by decide) ?_
  refine gj_V1 lkX11_66 H0 rfl rfl (ev_X11_bad H0 HR) dX11_thaw_42 rfl rfl rfl rfl rfl ?_
  exact gj_ir rfl dX11_thaw_45 rfl rfl rfl
set_option maxHeartbeats 1000000 in
set_option maxRecDepth 10000 in
theorem ev_X11_winters_bad {E : mj_E} {h : mj_H} {a0 a1 y2 y3 y4 y5 y6 : Nat} (H0 : h 100 = some (mj_mo a0 a1 y2 y3 y4 y5 y6)) {R : Nat → Nat} (HR : h 104 = some (mj_ar 3 R)) {m s : Int32} (h0 : ¬ ((nI 0 ≤ s ∧ s ≤ nI 999999) ∧ (nI 0 ≤ m ∧ m ≤ nI 60))) : mj_Ev E iX11_winters [.ref 100, .int s, .int m] h (mj_R (some (.int (-2))) (mj_up h 104 (mj_ar 3 (mj_un R 0 ((R 0) + 1))))) := by
  refine mj_Ev.of (L0 := [some (.ref 100), some (.int s), some (.int m), none, none, none, none, none]) pnRX11 (Nat.le_of_ble_eq_true rfl) rfl ?_
  refine gj_iload_n dX11_winters_0 rfl ?_
  refine gj_i2l (v := s.toInt64) dX11_winters_1 rfl ?_
  refine gj_lconst (v := lN 0) dX11_winters_2 rfl ?_
  refine gj_ldc2 (v := lN 999999) w_1342 dX11_winters_3 ?_
  refine gj_S1 lkX11_50 (ev_X11_in_x (by omega) (by omega)) dX11_winters_6 rfl rfl rfl rfl rfl ?_
  refine gj_if_eqb (tgt := 24) dX11_winters_9 rfl (fun zq1 => ?_) (fun zq1 => ?_)
  · -- 9 taken
    refine gj_aload_n dX11_winters_24 rfl ?_
    refine gj_bipush (v := (-2)) dX11_winters_25 (by decide) ?_
    refine gj_V1 lkX11_66 H0 rfl rfl (ev_X11_bad H0 HR) dX11_winters_27 rfl rfl rfl rfl rfl ?_
    exact gj_ir rfl dX11_winters_30 rfl rfl rfl
  refine gj_iload_n dX11_winters_12 rfl ?_
  refine gj_i2l (v := m.toInt64) dX11_winters_13 rfl ?_
  refine gj_lconst (v := lN 0) dX11_winters_14 rfl ?_
  refine gj_ldc2 (v := lN 60) w_1097 dX11_winters_15 ?_
  refine gj_S1 lkX11_50 (ev_X11_in_x (by omega) (by omega)) dX11_winters_18 rfl rfl rfl rfl rfl ?_
  refine gj_if_neb (tgt := 31) dX11_winters_21 rfl (fun zq2 => ?_) (fun zq2 => ?_)
  · -- 21 taken
    exact absurd ⟨of_decide_eq_true zq1, of_decide_eq_true zq2⟩ h0
  refine gj_aload_n dX11_winters_24 rfl ?_
  refine gj_bipush (v := (-2)) dX11_winters_25 (by decide) ?_
  refine gj_V1 lkX11_66 H0 rfl rfl (ev_X11_bad H0 HR) dX11_winters_27 rfl rfl rfl rfl rfl ?_
  exact gj_ir rfl dX11_winters_30 rfl rfl rfl
set_option maxHeartbeats 1000000 in
set_option maxRecDepth 10000 in
theorem ev_X11_image_bad {E : mj_E} {h : mj_H} {a0 a1 y2 y3 y4 y5 y6 : Nat} (H0 : h 100 = some (mj_mo a0 a1 y2 y3 y4 y5 y6)) {R : Nat → Nat} (HR : h 104 = some (mj_ar 3 R)) {i : Int32} (h0 : ¬ ((nI 0 ≤ i ∧ i ≤ nI 1))) : mj_Ev E iX11_image [.ref 100, .int i] h (mj_R (some (.int (-2))) (mj_up h 104 (mj_ar 3 (mj_un R 0 ((R 0) + 1))))) := by
  refine mj_Ev.of (L0 := [some (.ref 100), some (.int i), none]) pnRX11 (Nat.le_of_ble_eq_true rfl) rfl ?_
  refine gj_iload_n dX11_image_0 rfl ?_
  refine gj_i2l (v := i.toInt64) dX11_image_1 rfl ?_
  refine gj_lconst (v := lN 0) dX11_image_2 rfl ?_
  refine gj_lconst (v := lN 1) dX11_image_3 rfl ?_
  refine gj_S1 lkX11_50 (ev_X11_in_x (by omega) (by omega)) dX11_image_4 rfl rfl rfl rfl rfl ?_
  refine gj_if_neb (tgt := 17) dX11_image_7 rfl (fun zq1 => ?_) (fun zq1 => ?_)
  · -- 7 taken
    exact absurd (of_decide_eq_true zq1) h0
  refine gj_aload_n dX11_image_10 rfl ?_
  refine gj_bipush (v := (-2)) dX11_image_11 (by decide) ?_
  refine gj_V1 lkX11_66 H0 rfl rfl (ev_X11_bad H0 HR) dX11_image_13 rfl rfl rfl rfl rfl ?_
  exact gj_ir rfl dX11_image_16 rfl rfl rfl
set_option maxHeartbeats 1000000 in
set_option maxRecDepth 10000 in
theorem ev_X11_from_bad {E : mj_E} {h : mj_H} {a0 a1 y2 y3 y4 y5 y6 : Nat} (H0 : h 100 = some (mj_mo a0 a1 y2 y3 y4 y5 y6)) {R : Nat → Nat} (HR : h 104 = some (mj_ar 3 R)) {i : Int32} (h0 : ¬ ((nI 0 ≤ i ∧ i ≤ nI 1))) : mj_Ev E iX11_from [.ref 100, .int i] h (mj_R (some (.int (-2))) (mj_up h 104 (mj_ar 3 (mj_un R 0 ((R 0) + 1))))) := by
  refine mj_Ev.of (L0 := [some (.ref 100), some (.int i), none]) pnRX11 (Nat.le_of_ble_eq_true rfl) rfl ?_
  refine gj_iload_n dX11_from_0 rfl ?_
  refine gj_i2l (v := i.toInt64) dX11_from_1 rfl ?_
  refine gj_lconst (v := lN 0) dX11_from_2 rfl ?_
  refine gj_lconst (v := lN 1) dX11_from_3 rfl ?_
  refine gj_S1 lkX11_50 (ev_X11_in_x (by omega) (by omega)) dX11_from_4 rfl rfl rfl rfl rfl ?_
  refine gj_if_neb (tgt := 17) dX11_from_7 rfl (fun zq1 => ?_) (fun zq1 => ?_)
  · -- 7 taken
    exact absurd (of_decide_eq_true zq1) h0
  refine gj_aload_n dX11_from_10 rfl ?_
  refine gj_bipush (v := (-2)) dX11_from_11 (by decide) ?_
  refine gj_V1 lkX11_66 H0 rfl rfl (ev_X11_bad H0 HR) dX11_from_13 rfl rfl rfl rfl rfl ?_
  exact gj_ir rfl dX11_from_16 rfl rfl rfl
set_option maxHeartbeats 1000000 in
set_option maxRecDepth 10000 in
theorem ev_X11_status_bad {E : mj_E} {h : mj_H} {a0 a1 y2 y3 y4 y5 y6 : Nat} (H0 : h 100 = some (mj_mo a0 a1 y2 y3 y4 y5 y6)) {R : Nat → Nat} (HR : h 104 = some (mj_ar 3 R)) {q : Int32} (h0 : ¬ ((nI 0 ≤ q ∧ q ≤ nI 2))) : mj_Ev E iX11_status [.ref 100, .int q] h (mj_R (some (.int (-1))) (mj_up h 104 (mj_ar 3 (mj_un R 0 ((R 0) + 1))))) := by
  refine mj_Ev.of (L0 := [some (.ref 100), some (.int q)]) pnRX11 (Nat.le_of_ble_eq_true rfl) rfl ?_
  refine gj_iload_n dX11_status_0 rfl ?_
  refine gj_i2l (v := q.toInt64) dX11_status_1 rfl ?_
  refine gj_lconst (v := lN 0) dX11_status_2 rfl ?_
  refine gj_ldc2 (v := lN 2) w_1154 dX11_status_3 ?_
  refine gj_S1 lkX11_50 (ev_X11_in_x (by omega) (by omega)) dX11_status_6 rfl rfl rfl rfl rfl ?_
  refine gj_if_eqb (tgt := 21) dX11_status_9 rfl (fun zq1 => ?_) (fun zq1 => ?_)
  · -- 9 taken
    refine gj_aload_n dX11_status_21 rfl ?_
    refine gj_iconst (v := (-1)) dX11_status_22 (by decide) ?_
    refine gj_V1 lkX11_66 H0 rfl rfl (ev_X11_bad H0 HR) dX11_status_23 rfl rfl rfl rfl rfl ?_
    exact gj_ir rfl dX11_status_26 rfl rfl rfl
  exact absurd (of_decide_eq_true zq1) h0
set_option maxHeartbeats 1000000 in
set_option maxRecDepth 10000 in
theorem ev_X11_count_bad {E : mj_E} {h : mj_H} {a0 a1 y2 y3 y4 y5 y6 : Nat} (H0 : h 100 = some (mj_mo a0 a1 y2 y3 y4 y5 y6)) {R : Nat → Nat} (HR : h 104 = some (mj_ar 3 R)) {q : Int32} (h0 : ¬ ((nI 0 ≤ q ∧ q ≤ nI 6))) : mj_Ev E iX11_count [.ref 100, .int q] h (mj_R (some (.int (-2))) (mj_up h 104 (mj_ar 3 (mj_un R 0 ((R 0) + 1))))) := by
  refine mj_Ev.of (L0 := [some (.ref 100), some (.int q)]) pnRX11 (Nat.le_of_ble_eq_true rfl) rfl ?_
  refine gj_iload_n dX11_count_0 rfl ?_
  refine gj_i2l (v := q.toInt64) dX11_count_1 rfl ?_
  refine gj_lconst (v := lN 0) dX11_count_2 rfl ?_
  refine gj_ldc2 (v := lN 6) w_1072 dX11_count_3 ?_
  refine gj_S1 lkX11_50 (ev_X11_in_x (by omega) (by omega)) dX11_count_6 rfl rfl rfl rfl rfl ?_
  refine gj_if_eqb (tgt := 20) dX11_count_9 rfl (fun zq1 => ?_) (fun zq1 => ?_)
  · -- 9 taken
    refine gj_aload_n dX11_count_20 rfl ?_
    refine gj_bipush (v := (-2)) dX11_count_21 (by decide) ?_
    refine gj_V1 lkX11_66 H0 rfl rfl (ev_X11_bad H0 HR) dX11_count_23 rfl rfl rfl rfl rfl ?_
    exact gj_ir rfl dX11_count_26 rfl rfl rfl
  exact absurd (of_decide_eq_true zq1) h0
set_option maxHeartbeats 1000000 in
set_option maxRecDepth 10000 in
theorem ev_X11_part_bad {E : mj_E} {h : mj_H} {a0 a1 y2 y3 y4 y5 y6 : Nat} (H0 : h 100 = some (mj_mo a0 a1 y2 y3 y4 y5 y6)) {R : Nat → Nat} (HR : h 104 = some (mj_ar 3 R)) {q : Int32} (h0 : ¬ (nI 0 ≤ q ∧ q ≤ nI 1)) : mj_Ev E iX11_part [.ref 100, .int q] h (mj_R (some (.long ((-2).toInt64))) (mj_up h 104 (mj_ar 3 (mj_un R 0 ((R 0) + 1))))) := by
  refine mj_Ev.of (L0 := [some (.ref 100), some (.int q)]) pnRX11 (Nat.le_of_ble_eq_true rfl) rfl ?_
  refine gj_iload_n dX11_part_0 rfl ?_
  refine gj_if_ne (tgt := 11) dX11_part_1 rfl (fun zq1 => ?_) (fun zq1 => ?_)
  rotate_left
  · exfalso; exact h0 (by rw [show q = nI 0 from zq1]; exact ⟨by decide, by decide⟩)
  refine gj_iload_n dX11_part_11 rfl ?_
  refine gj_ic (w := 1) dX11_part_12 ?_
  refine gj_icmp_ne (tgt := 23) dX11_part_13 rfl (fun zq2 => ?_) (fun zq2 => ?_)
  rotate_left
  · exfalso; exact h0 (by rw [show q = nI 1 from zq2]; exact ⟨by decide, by decide⟩)
  refine gj_aload_n dX11_part_23 rfl ?_
  refine gj_bipush (v := (-2)) dX11_part_24 (by decide) ?_
  refine gj_V1 lkX11_66 H0 rfl rfl (ev_X11_bad H0 HR) dX11_part_26 rfl rfl rfl rfl rfl ?_
  refine gj_i2l (v := (-2).toInt64) dX11_part_29 rfl ?_
  exact gj_lr rfl dX11_part_30 rfl rfl rfl
