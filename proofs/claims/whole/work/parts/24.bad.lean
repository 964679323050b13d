theorem mj_vlt {v : Int32} {z : Nat} (hz : z ≤ 7) : decide (nI 0 ≤ v ∧ v ≤ nI z - nI 1) = decide (nI 0 ≤ v ∧ v < nI z) := by
  refine decide_eq_decide.mpr (and_congr_right fun _ => ?_)
  have e : (nI z - nI 1).toInt = (z : Int) - 1 := by
    rw [Int32.toInt_sub, nI_toInt (by omega), nI_toInt (by decide)]
    exact Int.bmod_eq_of_le (by omega) (by omega)
  rw [Int32.le_iff_toInt_le, Int32.lt_iff_toInt_lt, e, nI_toInt (by omega)]
  omega
set_option maxHeartbeats 1000000 in
set_option maxRecDepth 10000 in
theorem ev_X10_isVoter_x {E : mj_E} {κ : Nat → Bool} {C : Nat → Nat → Nat} (I : mj_CI κ C) {v : Int32}  : mj_Ev E iX10_isVoter [.ref 0, .int v] (hh κ C) (mj_R (some (.int (mj_b (decide (nI 0 ≤ v ∧ v < nI (C 27 0)))))) (hh κ C)) := by
  have hl0 : C 20 0 ≤ 999 := I.1 0 (by decide) 0
  have hl7 : C 27 0 ≤ 7 := I.1 7 (by decide) 0
  have hl11 : C 31 0 ≤ 6 := I.1 11 (by decide) 0
  have hl13 : C 33 0 ≤ 6 := I.1 13 (by decide) 0
  have hl15 : C 35 0 ≤ 8 := I.1 15 (by decide) 0
  have hl7x : C 7 0 ≤ 150 := I.2.2.2.2.2.2.1
  refine mj_Ev.of (L0 := [some (.ref 0), some (.int v)]) pnRX10 (Nat.le_of_ble_eq_true rfl) rfl ?_
  refine gj_iload_n dX10_isVoter_0 rfl ?_
  refine gj_ic (w := 0) dX10_isVoter_1 ?_
  refine gj_aload_n dX10_isVoter_2 rfl ?_
  refine gfX10_10 rfl dX10_isVoter_3 (hc0 κ C) rfl ?_
  refine gfX10_73 rfl dX10_isVoter_6 (hc20 κ C) rfl ?_
  refine gfX10_77 rfl dX10_isVoter_9 (hc27 κ C) rfl ?_
  refine gj_ic (w := 1) dX10_isVoter_12 ?_
  refine gj_isub dX10_isVoter_13 ?_
  refine gj_S1 lkX10_65 ev_X10_within dX10_isVoter_14 rfl rfl rfl rfl rfl ?_
  exact gj_zr rfl dX10_isVoter_17 rfl (congrArg mj_b (by exact mj_vlt hl7)) rfl
set_option maxHeartbeats 1000000 in
set_option maxRecDepth 10000 in
theorem ev_X10_lake_bad {E : mj_E} {κ : Nat → Bool} {C : Nat → Nat → Nat} (I : mj_CI κ C) {i : Int32} (h0 : ¬ ((nI 0 ≤ i ∧ i ≤ nI 99))) : mj_Ev E iX10_lake [.ref 0, .int i] (hh κ C) (mj_R (some (.int (-2))) (hh κ (mj_u C 11 (mj_un (C 11) 0 ((C 11 0) + 1))))) := by
  have hl0 : C 20 0 ≤ 999 := I.1 0 (by decide) 0
  have hl7 : C 27 0 ≤ 7 := I.1 7 (by decide) 0
  have hl11 : C 31 0 ≤ 6 := I.1 11 (by decide) 0
  have hl13 : C 33 0 ≤ 6 := I.1 13 (by decide) 0
  have hl15 : C 35 0 ≤ 8 := I.1 15 (by decide) 0
  have hl7x : C 7 0 ≤ 150 := I.2.2.2.2.2.2.1
  refine mj_Ev.of (L0 := [some (.ref 0), some (.int i), none]) pnRX10 (Nat.le_of_ble_eq_true rfl) rfl ?_
  refine gj_iload_n dX10_lake_0 rfl ?_
  refine gj_ic (w := 0) dX10_lake_1 ?_
  refine gj_bp 99 dX10_lake_2 (by decide) ?_
  refine gj_S1 lkX10_65 ev_X10_within dX10_lake_4 rfl rfl rfl rfl rfl ?_
  refine gj_if_neb (tgt := 15) dX10_lake_7 rfl (fun zq1 => ?_) (fun zq1 => ?_)
  · -- 7 taken
    exact absurd (of_decide_eq_true zq1) h0
  refine gj_aload_n dX10_lake_10 rfl ?_
  refine gj_V1 lkX10_69 (hc0 κ C) rfl rfl (ev_X10_bad I) dX10_lake_11 rfl rfl rfl rfl rfl ?_
  exact gj_ir rfl dX10_lake_14 rfl rfl rfl
set_option maxHeartbeats 1000000 in
set_option maxRecDepth 10000 in
theorem ev_X10_cell_bad {E : mj_E} {κ : Nat → Bool} {C : Nat → Nat → Nat} (I : mj_CI κ C) {c k : Int32} (h0 : ¬ ((nI 0 ≤ c ∧ c ≤ nI 24) ∧ (nI 0 ≤ k ∧ k ≤ nI 5))) : mj_Ev E iX10_cell [.ref 0, .int c, .int k] (hh κ C) (mj_R (some (.int (-2))) (hh κ (mj_u C 11 (mj_un (C 11) 0 ((C 11 0) + 1))))) := by
  have hl0 : C 20 0 ≤ 999 := I.1 0 (by decide) 0
  have hl7 : C 27 0 ≤ 7 := I.1 7 (by decide) 0
  have hl11 : C 31 0 ≤ 6 := I.1 11 (by decide) 0
  have hl13 : C 33 0 ≤ 6 := I.1 13 (by decide) 0
  have hl15 : C 35 0 ≤ 8 := I.1 15 (by decide) 0
  have hl7x : C 7 0 ≤ 150 := I.2.2.2.2.2.2.1
  refine mj_Ev.of (L0 := [some (.ref 0), some (.int c), some (.int k), none]) pnRX10 (Nat.le_of_ble_eq_true rfl) rfl ?_
  refine gj_iload_n dX10_cell_0 rfl ?_
  refine gj_S1 lkX10_87 ev_X10_isCell dX10_cell_1 rfl rfl rfl rfl rfl ?_
  refine gj_if_eqb (tgt := 16) dX10_cell_4 rfl (fun zq1 => ?_) (fun zq1 => ?_)
  · -- 4 taken
    refine gj_aload_n dX10_cell_16 rfl ?_
    refine gj_V1 lkX10_69 (hc0 κ C) rfl rfl (ev_X10_bad I) dX10_cell_17 rfl rfl rfl rfl rfl ?_
    exact gj_ir rfl dX10_cell_20 rfl rfl rfl
  refine gj_iload_n dX10_cell_7 rfl ?_
  refine gj_ic (w := 0) dX10_cell_8 ?_
  refine gj_ic (w := 5) dX10_cell_9 ?_
  refine gj_S1 lkX10_65 ev_X10_within dX10_cell_10 rfl rfl rfl rfl rfl ?_
  refine gj_if_neb (tgt := 21) dX10_cell_13 rfl (fun zq2 => ?_) (fun zq2 => ?_)
  · -- 13 taken
    exact absurd ⟨of_decide_eq_true zq1, of_decide_eq_true zq2⟩ h0
  refine gj_aload_n dX10_cell_16 rfl ?_
  refine gj_V1 lkX10_69 (hc0 κ C) rfl rfl (ev_X10_bad I) dX10_cell_17 rfl rfl rfl rfl rfl ?_
  exact gj_ir rfl dX10_cell_20 rfl rfl rfl
set_option maxHeartbeats 1000000 in
set_option maxRecDepth 10000 in
theorem ev_X10_weather_bad {E : mj_E} {κ : Nat → Bool} {C : Nat → Nat → Nat} (I : mj_CI κ C) {d f s : Int32} (h0 : ¬ ((nI 0 ≤ d ∧ d ≤ nI 6) ∧ (nI 0 ≤ f ∧ f ≤ nI 9) ∧ (nI 0 ≤ s ∧ s ≤ nI 9))) : mj_Ev E iX10_weather [.ref 0, .int d, .int f, .int s] (hh κ C) (mj_R (some (.int (-2))) (hh κ (mj_u C 11 (mj_un (C 11) 0 ((C 11 0) + 1))))) := by
  have hl0 : C 20 0 ≤ 999 := I.1 0 (by decide) 0
  have hl7 : C 27 0 ≤ 7 := I.1 7 (by decide) 0
  have hl11 : C 31 0 ≤ 6 := I.1 11 (by decide) 0
  have hl13 : C 33 0 ≤ 6 := I.1 13 (by decide) 0
  have hl15 : C 35 0 ≤ 8 := I.1 15 (by decide) 0
  have hl7x : C 7 0 ≤ 150 := I.2.2.2.2.2.2.1
  refine mj_Ev.of (L0 := [some (.ref 0), some (.int d), some (.int f), some (.int s), none]) pnRX10 (Nat.le_of_ble_eq_true rfl) rfl ?_
  refine gj_iload_n dX10_weather_0 rfl ?_
  refine gj_ic (w := 0) dX10_weather_1 ?_
  refine gj_bp 6 dX10_weather_2 (by decide) ?_
  refine gj_S1 lkX10_65 ev_X10_within dX10_weather_4 rfl rfl rfl rfl rfl ?_
  refine gj_if_eqb (tgt := 24) dX10_weather_7 rfl (fun zq1 => ?_) (fun zq1 => ?_)
  · -- 7 taken
    refine gj_aload_n dX10_weather_24 rfl ?_
    refine gj_V1 lkX10_69 (hc0 κ C) rfl rfl (ev_X10_bad I) dX10_weather_25 rfl rfl rfl rfl rfl ?_
    exact gj_ir rfl dX10_weather_28 rfl rfl rfl
  refine gj_iload_n dX10_weather_10 rfl ?_
  refine gj_S1 lkX10_111 ev_X10_isSky dX10_weather_11 rfl rfl rfl rfl rfl ?_
  refine gj_if_eqb (tgt := 24) dX10_weather_14 rfl (fun zq2 => ?_) (fun zq2 => ?_)
  · -- 14 taken
    refine gj_aload_n dX10_weather_24 rfl ?_
    refine gj_V1 lkX10_69 (hc0 κ C) rfl rfl (ev_X10_bad I) dX10_weather_25 rfl rfl rfl rfl rfl ?_
    exact gj_ir rfl dX10_weather_28 rfl rfl rfl
  refine gj_iload_n dX10_weather_17 rfl ?_
  refine gj_S1 lkX10_111 ev_X10_isSky dX10_weather_18 rfl rfl rfl rfl rfl ?_
  refine gj_if_neb (tgt := 29) dX10_weather_21 rfl (fun zq3 => ?_) (fun zq3 => ?_)
  · -- 21 taken
    exact absurd ⟨of_decide_eq_true zq1, of_decide_eq_true zq2, of_decide_eq_true zq3⟩ h0
  refine gj_aload_n dX10_weather_24 rfl ?_
  refine gj_V1 lkX10_69 (hc0 κ C) rfl rfl (ev_X10_bad I) dX10_weather_25 rfl rfl rfl rfl rfl ?_
  exact gj_ir rfl dX10_weather_28 rfl rfl rfl
set_option maxHeartbeats 1000000 in
set_option maxRecDepth 10000 in
theorem ev_X10_ward_bad {E : mj_E} {κ : Nat → Bool} {C : Nat → Nat → Nat} (I : mj_CI κ C) {w x : Int32} (h0 : ¬ ((nI 0 ≤ w ∧ w ≤ nI 3) ∧ (nI 0 ≤ x ∧ x ≤ nI 99))) : mj_Ev E iX10_ward [.ref 0, .int w, .int x] (hh κ C) (mj_R (some (.int (-2))) (hh κ (mj_u C 11 (mj_un (C 11) 0 ((C 11 0) + 1))))) := by
  have hl0 : C 20 0 ≤ 999 := I.1 0 (by decide) 0
  have hl7 : C 27 0 ≤ 7 := I.1 7 (by decide) 0
  have hl11 : C 31 0 ≤ 6 := I.1 11 (by decide) 0
  have hl13 : C 33 0 ≤ 6 := I.1 13 (by decide) 0
  have hl15 : C 35 0 ≤ 8 := I.1 15 (by decide) 0
  have hl7x : C 7 0 ≤ 150 := I.2.2.2.2.2.2.1
  refine mj_Ev.of (L0 := [some (.ref 0), some (.int w), some (.int x), none]) pnRX10 (Nat.le_of_ble_eq_true rfl) rfl ?_
  refine gj_iload_n dX10_ward_0 rfl ?_
  refine gj_ic (w := 0) dX10_ward_1 ?_
  refine gj_ic (w := 3) dX10_ward_2 ?_
  refine gj_S1 lkX10_65 ev_X10_within dX10_ward_3 rfl rfl rfl rfl rfl ?_
  refine gj_if_eqb (tgt := 19) dX10_ward_6 rfl (fun zq1 => ?_) (fun zq1 => ?_)
  · -- 6 taken
    refine gj_aload_n dX10_ward_19 rfl ?_
    refine gj_V1 lkX10_69 (hc0 κ C) rfl rfl (ev_X10_bad I) dX10_ward_20 rfl rfl rfl rfl rfl ?_
    exact gj_ir rfl dX10_ward_23 rfl rfl rfl
  refine gj_iload_n dX10_ward_9 rfl ?_
  refine gj_ic (w := 0) dX10_ward_10 ?_
  refine gj_bp 99 dX10_ward_11 (by decide) ?_
  refine gj_S1 lkX10_65 ev_X10_within dX10_ward_13 rfl rfl rfl rfl rfl ?_
  refine gj_if_neb (tgt := 24) dX10_ward_16 rfl (fun zq2 => ?_) (fun zq2 => ?_)
  · -- 16 taken
    exact absurd ⟨of_decide_eq_true zq1, of_decide_eq_true zq2⟩ h0
  refine gj_aload_n dX10_ward_19 rfl ?_
  refine gj_V1 lkX10_69 (hc0 κ C) rfl rfl (ev_X10_bad I) dX10_ward_20 rfl rfl rfl rfl rfl ?_
  exact gj_ir rfl dX10_ward_23 rfl rfl rfl
set_option maxHeartbeats 1000000 in
set_option maxRecDepth 10000 in
theorem ev_X10_voter_bad {E : mj_E} {κ : Nat → Bool} {C : Nat → Nat → Nat} (I : mj_CI κ C) {c k w : Int32} (h0 : ¬ ((nI 0 ≤ k ∧ k ≤ nI 5) ∧ (nI 1 ≤ w ∧ w ≤ nI 99) ∧ (nI 0 ≤ c ∧ c ≤ nI 24))) : mj_Ev E iX10_voter [.ref 0, .int k, .int w, .int c] (hh κ C) (mj_R (some (.int (-2))) (hh κ (mj_u C 11 (mj_un (C 11) 0 ((C 11 0) + 1))))) := by
  have hl0 : C 20 0 ≤ 999 := I.1 0 (by decide) 0
  have hl7 : C 27 0 ≤ 7 := I.1 7 (by decide) 0
  have hl11 : C 31 0 ≤ 6 := I.1 11 (by decide) 0
  have hl13 : C 33 0 ≤ 6 := I.1 13 (by decide) 0
  have hl15 : C 35 0 ≤ 8 := I.1 15 (by decide) 0
  have hl7x : C 7 0 ≤ 150 := I.2.2.2.2.2.2.1
  refine mj_Ev.of (L0 := [some (.ref 0), some (.int k), some (.int w), some (.int c)]) pnRX10 (Nat.le_of_ble_eq_true rfl) rfl ?_
  refine gj_iload_n dX10_voter_0 rfl ?_
  refine gj_ic (w := 0) dX10_voter_1 ?_
  refine gj_ic (w := 5) dX10_voter_2 ?_
  refine gj_S1 lkX10_65 ev_X10_within dX10_voter_3 rfl rfl rfl rfl rfl ?_
  refine gj_if_eqb (tgt := 26) dX10_voter_6 rfl (fun zq1 => ?_) (fun zq1 => ?_)
  · -- 6 taken
    refine gj_aload_n dX10_voter_26 rfl ?_
    refine gj_V1 lkX10_69 (hc0 κ C) rfl rfl (ev_X10_bad I) dX10_voter_27 rfl rfl rfl rfl rfl ?_
    exact gj_ir rfl dX10_voter_30 rfl rfl rfl
  refine gj_iload_n dX10_voter_9 rfl ?_
  refine gj_ic (w := 1) dX10_voter_10 ?_
  refine gj_bp 99 dX10_voter_11 (by decide) ?_
  refine gj_S1 lkX10_65 ev_X10_within dX10_voter_13 rfl rfl rfl rfl rfl ?_
  refine gj_if_eqb (tgt := 26) dX10_voter_16 rfl (fun zq2 => ?_) (fun zq2 => ?_)
  · -- 16 taken
    refine gj_aload_n dX10_voter_26 rfl ?_
    refine gj_V1 lkX10_69 (hc0 κ C) rfl rfl (ev_X10_bad I) dX10_voter_27 rfl rfl rfl rfl rfl ?_
    exact gj_ir rfl dX10_voter_30 rfl rfl rfl
  refine gj_iload_n dX10_voter_19 rfl ?_
  refine gj_S1 lkX10_87 ev_X10_isCell dX10_voter_20 rfl rfl rfl rfl rfl ?_
  refine gj_if_neb (tgt := 31) dX10_voter_23 rfl (fun zq3 => ?_) (fun zq3 => ?_)
  · -- 23 taken
    exact absurd ⟨of_decide_eq_true zq1, of_decide_eq_true zq2, of_decide_eq_true zq3⟩ h0
  refine gj_aload_n dX10_voter_26 rfl ?_
  refine gj_V1 lkX10_69 (hc0 κ C) rfl rfl (ev_X10_bad I) dX10_voter_27 rfl rfl rfl rfl rfl ?_
  exact gj_ir rfl dX10_voter_30 rfl rfl rfl
set_option maxHeartbeats 1000000 in
set_option maxRecDepth 10000 in
theorem ev_X10_type_bad {E : mj_E} {κ : Nat → Bool} {C : Nat → Nat → Nat} (I : mj_CI κ C) {c : Int32} (h0 : ¬ ((nI 0 ≤ c ∧ c ≤ nI 127))) : mj_Ev E iX10_type [.ref 0, .int c] (hh κ C) (mj_R (some (.int (-2))) (hh κ (mj_u C 11 (mj_un (C 11) 0 ((C 11 0) + 1))))) := by
  have hl0 : C 20 0 ≤ 999 := I.1 0 (by decide) 0
  have hl7 : C 27 0 ≤ 7 := I.1 7 (by decide) 0
  have hl11 : C 31 0 ≤ 6 := I.1 11 (by decide) 0
  have hl13 : C 33 0 ≤ 6 := I.1 13 (by decide) 0
  have hl15 : C 35 0 ≤ 8 := I.1 15 (by decide) 0
  have hl7x : C 7 0 ≤ 150 := I.2.2.2.2.2.2.1
  refine mj_Ev.of (L0 := [some (.ref 0), some (.int c)]) pnRX10 (Nat.le_of_ble_eq_true rfl) rfl ?_
  refine gj_iload_n dX10_type_0 rfl ?_
  refine gj_ic (w := 0) dX10_type_1 ?_
  refine gj_bp 127 dX10_type_2 (by decide) ?_
  refine gj_S1 lkX10_65 ev_X10_within dX10_type_4 rfl rfl rfl rfl rfl ?_
  refine gj_if_neb (tgt := 15) dX10_type_7 rfl (fun zq1 => ?_) (fun zq1 => ?_)
  · -- 7 taken
    exact absurd (of_decide_eq_true zq1) h0
  refine gj_aload_n dX10_type_10 rfl ?_
  refine gj_V1 lkX10_69 (hc0 κ C) rfl rfl (ev_X10_bad I) dX10_type_11 rfl rfl rfl rfl rfl ?_
  exact gj_ir rfl dX10_type_14 rfl rfl rfl
set_option maxHeartbeats 1000000 in
set_option maxRecDepth 10000 in
theorem ev_X10_day_bad {E : mj_E} {κ : Nat → Bool} {C : Nat → Nat → Nat} (I : mj_CI κ C) {m : Int32} (h0 : ¬ ((nI 1 ≤ m ∧ m ≤ nI 60))) : mj_Ev E iX10_day [.ref 0, .int m] (hh κ C) (mj_R (some (.int (-2))) (hh κ (mj_u C 11 (mj_un (C 11) 0 ((C 11 0) + 1))))) := by
  have hl0 : C 20 0 ≤ 999 := I.1 0 (by decide) 0
  have hl7 : C 27 0 ≤ 7 := I.1 7 (by decide) 0
  have hl11 : C 31 0 ≤ 6 := I.1 11 (by decide) 0
  have hl13 : C 33 0 ≤ 6 := I.1 13 (by decide) 0
  have hl15 : C 35 0 ≤ 8 := I.1 15 (by decide) 0
  have hl7x : C 7 0 ≤ 150 := I.2.2.2.2.2.2.1
  refine mj_Ev.of (L0 := [some (.ref 0), some (.int m)]) pnRX10 (Nat.le_of_ble_eq_true rfl) rfl ?_
  refine gj_iload_n dX10_day_0 rfl ?_
  refine gj_ic (w := 1) dX10_day_1 ?_
  refine gj_bp 60 dX10_day_2 (by decide) ?_
  refine gj_S1 lkX10_65 ev_X10_within dX10_day_4 rfl rfl rfl rfl rfl ?_
  refine gj_if_neb (tgt := 15) dX10_day_7 rfl (fun zq1 => ?_) (fun zq1 => ?_)
  · -- 7 taken
    exact absurd (of_decide_eq_true zq1) h0
  refine gj_aload_n dX10_day_10 rfl ?_
  refine gj_V1 lkX10_69 (hc0 κ C) rfl rfl (ev_X10_bad I) dX10_day_11 rfl rfl rfl rfl rfl ?_
  exact gj_ir rfl dX10_day_14 rfl rfl rfl
set_option maxHeartbeats 1000000 in
set_option maxRecDepth 10000 in
theorem ev_X10_tread_bad {E : mj_E} {κ : Nat → Bool} {C : Nat → Nat → Nat} (I : mj_CI κ C) {c w : Int32} (h0 : ¬ ((nI 0 ≤ c ∧ c ≤ nI 24) ∧ (nI 1 ≤ w ∧ w ≤ nI 99))) : mj_Ev E iX10_tread [.ref 0, .int c, .int w] (hh κ C) (mj_R (some (.int (-2))) (hh κ (mj_u C 11 (mj_un (C 11) 0 ((C 11 0) + 1))))) := by
  have hl0 : C 20 0 ≤ 999 := I.1 0 (by decide) 0
  have hl7 : C 27 0 ≤ 7 := I.1 7 (by decide) 0
  have hl11 : C 31 0 ≤ 6 := I.1 11 (by decide) 0
  have hl13 : C 33 0 ≤ 6 := I.1 13 (by decide) 0
  have hl15 : C 35 0 ≤ 8 := I.1 15 (by decide) 0
  have hl7x : C 7 0 ≤ 150 := I.2.2.2.2.2.2.1
  refine mj_Ev.of (L0 := [some (.ref 0), some (.int c), some (.int w), none]) pnRX10 (Nat.le_of_ble_eq_true rfl) rfl ?_
  refine gj_iload_n dX10_tread_0 rfl ?_
  refine gj_S1 lkX10_87 ev_X10_isCell dX10_tread_1 rfl rfl rfl rfl rfl ?_
  refine gj_if_eqb (tgt := 17) dX10_tread_4 rfl (fun zq1 => ?_) (fun zq1 => ?_)
  · -- 4 taken
    refine gj_aload_n dX10_tread_17 rfl ?_
    refine gj_V1 lkX10_69 (hc0 κ C) rfl rfl (ev_X10_bad I) dX10_tread_18 rfl rfl rfl rfl rfl ?_
    exact gj_ir rfl dX10_tread_21 rfl rfl rfl
  refine gj_iload_n dX10_tread_7 rfl ?_
  refine gj_ic (w := 1) dX10_tread_8 ?_
  refine gj_bp 99 dX10_tread_9 (by decide) ?_
  refine gj_S1 lkX10_65 ev_X10_within dX10_tread_11 rfl rfl rfl rfl rfl ?_
  refine gj_if_neb (tgt := 22) dX10_tread_14 rfl (fun zq2 => ?_) (fun zq2 => ?_)
  · -- 14 taken
    exact absurd ⟨of_decide_eq_true zq1, of_decide_eq_true zq2⟩ h0
  refine gj_aload_n dX10_tread_17 rfl ?_
  refine gj_V1 lkX10_69 (hc0 κ C) rfl rfl (ev_X10_bad I) dX10_tread_18 rfl rfl rfl rfl rfl ?_
  exact gj_ir rfl dX10_tread_21 rfl rfl rfl
set_option maxHeartbeats 1000000 in
set_option maxRecDepth 10000 in
theorem ev_X10_stone_bad {E : mj_E} {κ : Nat → Bool} {C : Nat → Nat → Nat} (I : mj_CI κ C) {c : Int32} (h0 : ¬ ((nI 0 ≤ c ∧ c ≤ nI 24))) : mj_Ev E iX10_stone [.ref 0, .int c] (hh κ C) (mj_R (some (.int (-2))) (hh κ (mj_u C 11 (mj_un (C 11) 0 ((C 11 0) + 1))))) := by
  have hl0 : C 20 0 ≤ 999 := I.1 0 (by decide) 0
  have hl7 : C 27 0 ≤ 7 := I.1 7 (by decide) 0
  have hl11 : C 31 0 ≤ 6 := I.1 11 (by decide) 0
  have hl13 : C 33 0 ≤ 6 := I.1 13 (by decide) 0
  have hl15 : C 35 0 ≤ 8 := I.1 15 (by decide) 0
  have hl7x : C 7 0 ≤ 150 := I.2.2.2.2.2.2.1
  refine mj_Ev.of (L0 := [some (.ref 0), some (.int c)]) pnRX10 (Nat.le_of_ble_eq_true rfl) rfl ?_
  refine gj_iload_n dX10_stone_0 rfl ?_
  refine gj_S1 lkX10_87 ev_X10_isCell dX10_stone_1 rfl rfl rfl rfl rfl ?_
  refine gj_if_neb (tgt := 12) dX10_stone_4 rfl (fun zq1 => ?_) (fun zq1 => ?_)
  · -- 4 taken
    exact absurd (of_decide_eq_true zq1) h0
  refine gj_aload_n dX10_stone_7 rfl ?_
  refine gj_V1 lkX10_69 (hc0 κ C) rfl rfl (ev_X10_bad I) dX10_stone_8 rfl rfl rfl rfl rfl ?_
  exact gj_ir rfl dX10_stone_11 rfl rfl rfl
set_option maxHeartbeats 1000000 in
set_option maxRecDepth 10000 in
theorem ev_X10_of_bad {E : mj_E} {κ : Nat → Bool} {C : Nat → Nat → Nat} (I : mj_CI κ C) {c q : Int32} (h0 : ¬ ((nI 0 ≤ c ∧ c ≤ nI 24) ∧ (nI 0 ≤ q ∧ q ≤ nI 2))) : mj_Ev E iX10_of [.ref 0, .int c, .int q] (hh κ C) (mj_R (some (.int (-2))) (hh κ (mj_u C 11 (mj_un (C 11) 0 ((C 11 0) + 1))))) := by
  have hl0 : C 20 0 ≤ 999 := I.1 0 (by decide) 0
  have hl7 : C 27 0 ≤ 7 := I.1 7 (by decide) 0
  have hl11 : C 31 0 ≤ 6 := I.1 11 (by decide) 0
  have hl13 : C 33 0 ≤ 6 := I.1 13 (by decide) 0
  have hl15 : C 35 0 ≤ 8 := I.1 15 (by decide) 0
  have hl7x : C 7 0 ≤ 150 := I.2.2.2.2.2.2.1
  refine mj_Ev.of (L0 := [some (.ref 0), some (.int c), some (.int q)]) pnRX10 (Nat.le_of_ble_eq_true rfl) rfl ?_
  refine gj_iload_n dX10_of_0 rfl ?_
  refine gj_S1 lkX10_87 ev_X10_isCell dX10_of_1 rfl rfl rfl rfl rfl ?_
  refine gj_if_eqb (tgt := 16) dX10_of_4 rfl (fun zq1 => ?_) (fun zq1 => ?_)
  · -- 4 taken
    refine gj_aload_n dX10_of_16 rfl ?_
    refine gj_V1 lkX10_69 (hc0 κ C) rfl rfl (ev_X10_bad I) dX10_of_17 rfl rfl rfl rfl rfl ?_
    exact gj_ir rfl dX10_of_20 rfl rfl rfl
  refine gj_iload_n dX10_of_7 rfl ?_
  refine gj_ic (w := 0) dX10_of_8 ?_
  refine gj_ic (w := 2) dX10_of_9 ?_
  refine gj_S1 lkX10_65 ev_X10_within dX10_of_10 rfl rfl rfl rfl rfl ?_
  refine gj_if_neb (tgt := 21) dX10_of_13 rfl (fun zq2 => ?_) (fun zq2 => ?_)
  · -- 13 taken
    exact absurd ⟨of_decide_eq_true zq1, of_decide_eq_true zq2⟩ h0
  refine gj_aload_n dX10_of_16 rfl ?_
  refine gj_V1 lkX10_69 (hc0 κ C) rfl rfl (ev_X10_bad I) dX10_of_17 rfl rfl rfl rfl rfl ?_
  exact gj_ir rfl dX10_of_20 rfl rfl rfl
set_option maxHeartbeats 1000000 in
set_option maxRecDepth 10000 in
theorem ev_X10_about_bad {E : mj_E} {κ : Nat → Bool} {C : Nat → Nat → Nat} (I : mj_CI κ C) {q v : Int32} (h0 : ¬ ((nI 0 ≤ v ∧ v < nI (C 27 0)) ∧ (nI 0 ≤ q ∧ q ≤ nI 3))) : mj_Ev E iX10_about [.ref 0, .int v, .int q] (hh κ C) (mj_R (some (.int (-2))) (hh κ (mj_u C 11 (mj_un (C 11) 0 ((C 11 0) + 1))))) := by
  have hl0 : C 20 0 ≤ 999 := I.1 0 (by decide) 0
  have hl7 : C 27 0 ≤ 7 := I.1 7 (by decide) 0
  have hl11 : C 31 0 ≤ 6 := I.1 11 (by decide) 0
  have hl13 : C 33 0 ≤ 6 := I.1 13 (by decide) 0
  have hl15 : C 35 0 ≤ 8 := I.1 15 (by decide) 0
  have hl7x : C 7 0 ≤ 150 := I.2.2.2.2.2.2.1
  refine mj_Ev.of (L0 := [some (.ref 0), some (.int v), some (.int q)]) pnRX10 (Nat.le_of_ble_eq_true rfl) rfl ?_
  refine gj_aload_n dX10_about_0 rfl ?_
  refine gj_iload_n dX10_about_1 rfl ?_
  refine gj_V1 lkX10_187 (hc0 κ C) rfl rfl (ev_X10_isVoter_x I) dX10_about_2 rfl rfl rfl rfl rfl ?_
  refine gj_if_eqb (tgt := 17) dX10_about_5 rfl (fun zq1 => ?_) (fun zq1 => ?_)
  · -- 5 taken
    refine gj_aload_n dX10_about_17 rfl ?_
    refine gj_V1 lkX10_69 (hc0 κ C) rfl rfl (ev_X10_bad I) dX10_about_18 rfl rfl rfl rfl rfl ?_
    exact gj_ir rfl dX10_about_21 rfl rfl rfl
  refine gj_iload_n dX10_about_8 rfl ?_
  refine gj_ic (w := 0) dX10_about_9 ?_
  refine gj_ic (w := 3) dX10_about_10 ?_
  refine gj_S1 lkX10_65 ev_X10_within dX10_about_11 rfl rfl rfl rfl rfl ?_
  refine gj_if_neb (tgt := 22) dX10_about_14 rfl (fun zq2 => ?_) (fun zq2 => ?_)
  · -- 14 taken
    exact absurd ⟨of_decide_eq_true zq1, of_decide_eq_true zq2⟩ h0
  refine gj_aload_n dX10_about_17 rfl ?_
  refine gj_V1 lkX10_69 (hc0 κ C) rfl rfl (ev_X10_bad I) dX10_about_18 rfl rfl rfl rfl rfl ?_
  exact gj_ir rfl dX10_about_21 rfl rfl rfl
set_option maxHeartbeats 1000000 in
set_option maxRecDepth 10000 in
theorem ev_X10_then_bad {E : mj_E} {κ : Nat → Bool} {C : Nat → Nat → Nat} (I : mj_CI κ C) {c m q : Int32} (h0 : ¬ ((nI 0 ≤ c ∧ c ≤ nI 24) ∧ (nI 0 ≤ m ∧ m ≤ nI 60) ∧ (nI 0 ≤ q ∧ q ≤ nI 1))) : mj_Ev E iX10_then [.ref 0, .int c, .int m, .int q] (hh κ C) (mj_R (some (.int (-2))) (hh κ (mj_u C 11 (mj_un (C 11) 0 ((C 11 0) + 1))))) := by
  have hl0 : C 20 0 ≤ 999 := I.1 0 (by decide) 0
  have hl7 : C 27 0 ≤ 7 := I.1 7 (by decide) 0
  have hl11 : C 31 0 ≤ 6 := I.1 11 (by decide) 0
  have hl13 : C 33 0 ≤ 6 := I.1 13 (by decide) 0
  have hl15 : C 35 0 ≤ 8 := I.1 15 (by decide) 0
  have hl7x : C 7 0 ≤ 150 := I.2.2.2.2.2.2.1
  refine mj_Ev.of (L0 := [some (.ref 0), some (.int c), some (.int m), some (.int q), none]) pnRX10 (Nat.le_of_ble_eq_true rfl) rfl ?_
  refine gj_iload_n dX10_then_0 rfl ?_
  refine gj_S1 lkX10_87 ev_X10_isCell dX10_then_1 rfl rfl rfl rfl rfl ?_
  refine gj_if_eqb (tgt := 26) dX10_then_4 rfl (fun zq1 => ?_) (fun zq1 => ?_)
  · -- 4 taken
    refine gj_aload_n dX10_then_26 rfl ?_
    refine gj_V1 lkX10_69 (hc0 κ C) rfl rfl (ev_X10_bad I) dX10_then_27 rfl rfl rfl rfl rfl ?_
    exact gj_ir rfl dX10_then_30 rfl rfl rfl
  refine gj_iload_n dX10_then_7 rfl ?_
  refine gj_ic (w := 0) dX10_then_8 ?_
  refine gj_bp 60 dX10_then_9 (by decide) ?_
  refine gj_S1 lkX10_65 ev_X10_within dX10_then_11 rfl rfl rfl rfl rfl ?_
  refine gj_if_eqb (tgt := 26) dX10_then_14 rfl (fun zq2 => ?_) (fun zq2 => ?_)
  · -- 14 taken
    refine gj_aload_n dX10_then_26 rfl ?_
    refine gj_V1 lkX10_69 (hc0 κ C) rfl rfl (ev_X10_bad I) dX10_then_27 rfl rfl rfl rfl rfl ?_
    exact gj_ir rfl dX10_then_30 rfl rfl rfl
  refine gj_iload_n dX10_then_17 rfl ?_
  refine gj_ic (w := 0) dX10_then_18 ?_
  refine gj_ic (w := 1) dX10_then_19 ?_
  refine gj_S1 lkX10_65 ev_X10_within dX10_then_20 rfl rfl rfl rfl rfl ?_
  refine gj_if_neb (tgt := 31) dX10_then_23 rfl (fun zq3 => ?_) (fun zq3 => ?_)
  · -- 23 taken
    exact absurd ⟨of_decide_eq_true zq1, of_decide_eq_true zq2, of_decide_eq_true zq3⟩ h0
  refine gj_aload_n dX10_then_26 rfl ?_
  refine gj_V1 lkX10_69 (hc0 κ C) rfl rfl (ev_X10_bad I) dX10_then_27 rfl rfl rfl rfl rfl ?_
  exact gj_ir rfl dX10_then_30 rfl rfl rfl
set_option maxHeartbeats 1000000 in
set_option maxRecDepth 10000 in
theorem ev_X10_when_bad {E : mj_E} {κ : Nat → Bool} {C : Nat → Nat → Nat} (I : mj_CI κ C) {c w : Int32} (h0 : ¬ ((nI 0 ≤ c ∧ c ≤ nI 24) ∧ (nI 1 ≤ w ∧ w ≤ nI 198))) : mj_Ev E iX10_when [.ref 0, .int c, .int w] (hh κ C) (mj_R (some (.int (-2))) (hh κ (mj_u C 11 (mj_un (C 11) 0 ((C 11 0) + 1))))) := by
  have hl0 : C 20 0 ≤ 999 := I.1 0 (by decide) 0
  have hl7 : C 27 0 ≤ 7 := I.1 7 (by decide) 0
  have hl11 : C 31 0 ≤ 6 := I.1 11 (by decide) 0
  have hl13 : C 33 0 ≤ 6 := I.1 13 (by decide) 0
  have hl15 : C 35 0 ≤ 8 := I.1 15 (by decide) 0
  have hl7x : C 7 0 ≤ 150 := I.2.2.2.2.2.2.1
  refine mj_Ev.of (L0 := [some (.ref 0), some (.int c), some (.int w), none, none, none]) pnRX10 (Nat.le_of_ble_eq_true rfl) rfl ?_
  refine gj_iload_n dX10_when_0 rfl ?_
  refine gj_S1 lkX10_87 ev_X10_isCell dX10_when_1 rfl rfl rfl rfl rfl ?_
  refine gj_if_eqb (tgt := 14) dX10_when_4 rfl (fun zq1 => ?_) (fun zq1 => ?_)
  · -- 4 taken
    refine gj_aload_n dX10_when_14 rfl ?_
    refine gj_V1 lkX10_69 (hc0 κ C) rfl rfl (ev_X10_bad I) dX10_when_15 rfl rfl rfl rfl rfl ?_
    exact gj_ir rfl dX10_when_18 rfl rfl rfl
  refine gj_iload_n dX10_when_7 rfl ?_
  refine gj_S1 lkX10_211 ev_X10_isBorne dX10_when_8 rfl rfl rfl rfl rfl ?_
  refine gj_if_neb (tgt := 19) dX10_when_11 rfl (fun zq2 => ?_) (fun zq2 => ?_)
  · -- 11 taken
    exact absurd ⟨of_decide_eq_true zq1, of_decide_eq_true zq2⟩ h0
  refine gj_aload_n dX10_when_14 rfl ?_
  refine gj_V1 lkX10_69 (hc0 κ C) rfl rfl (ev_X10_bad I) dX10_when_15 rfl rfl rfl rfl rfl ?_
  exact gj_ir rfl dX10_when_18 rfl rfl rfl
set_option maxHeartbeats 1000000 in
set_option maxRecDepth 10000 in
theorem ev_X10_where_bad {E : mj_E} {κ : Nat → Bool} {C : Nat → Nat → Nat} (I : mj_CI κ C) {m w : Int32} (h0 : ¬ ((nI 1 ≤ w ∧ w ≤ nI 198) ∧ (nI 0 ≤ m ∧ m ≤ nI 60))) : mj_Ev E iX10_where [.ref 0, .int w, .int m] (hh κ C) (mj_R (some (.int (-2))) (hh κ (mj_u C 11 (mj_un (C 11) 0 ((C 11 0) + 1))))) := by
  have hl0 : C 20 0 ≤ 999 := I.1 0 (by decide) 0
  have hl7 : C 27 0 ≤ 7 := I.1 7 (by decide) 0
  have hl11 : C 31 0 ≤ 6 := I.1 11 (by decide) 0
  have hl13 : C 33 0 ≤ 6 := I.1 13 (by decide) 0
  have hl15 : C 35 0 ≤ 8 := I.1 15 (by decide) 0
  have hl7x : C 7 0 ≤ 150 := I.2.2.2.2.2.2.1
  refine mj_Ev.of (L0 := [some (.ref 0), some (.int w), some (.int m), none]) pnRX10 (Nat.le_of_ble_eq_true rfl) rfl ?_
  refine gj_iload_n dX10_where_0 rfl ?_
  refine gj_S1 lkX10_211 ev_X10_isBorne dX10_where_1 rfl rfl rfl rfl rfl ?_
  refine gj_if_eqb (tgt := 17) dX10_where_4 rfl (fun zq1 => ?_) (fun zq1 => ?_)
  · -- 4 taken
    refine gj_aload_n dX10_where_17 rfl ?_
    refine gj_V1 lkX10_69 (hc0 κ C) rfl rfl (ev_X10_bad I) dX10_where_18 rfl rfl rfl rfl rfl ?_
    exact gj_ir rfl dX10_where_21 rfl rfl rfl
  refine gj_iload_n dX10_where_7 rfl ?_
  refine gj_ic (w := 0) dX10_where_8 ?_
  refine gj_bp 60 dX10_where_9 (by decide) ?_
  refine gj_S1 lkX10_65 ev_X10_within dX10_where_11 rfl rfl rfl rfl rfl ?_
  refine gj_if_neb (tgt := 22) dX10_where_14 rfl (fun zq2 => ?_) (fun zq2 => ?_)
  · -- 14 taken
    exact absurd ⟨of_decide_eq_true zq1, of_decide_eq_true zq2⟩ h0
  refine gj_aload_n dX10_where_17 rfl ?_
  refine gj_V1 lkX10_69 (hc0 κ C) rfl rfl (ev_X10_bad I) dX10_where_18 rfl rfl rfl rfl rfl ?_
  exact gj_ir rfl dX10_where_21 rfl rfl rfl
set_option maxHeartbeats 1000000 in
set_option maxRecDepth 10000 in
theorem ev_X10_horses_bad {E : mj_E} {κ : Nat → Bool} {C : Nat → Nat → Nat} (I : mj_CI κ C) {w : Int32} (h0 : ¬ ((nI 1 ≤ w ∧ w ≤ nI 198))) : mj_Ev E iX10_horses [.ref 0, .int w] (hh κ C) (mj_R (some (.int (-2))) (hh κ (mj_u C 11 (mj_un (C 11) 0 ((C 11 0) + 1))))) := by
  have hl0 : C 20 0 ≤ 999 := I.1 0 (by decide) 0
  have hl7 : C 27 0 ≤ 7 := I.1 7 (by decide) 0
  have hl11 : C 31 0 ≤ 6 := I.1 11 (by decide) 0
  have hl13 : C 33 0 ≤ 6 := I.1 13 (by decide) 0
  have hl15 : C 35 0 ≤ 8 := I.1 15 (by decide) 0
  have hl7x : C 7 0 ≤ 150 := I.2.2.2.2.2.2.1
  refine mj_Ev.of (L0 := [some (.ref 0), some (.int w), none]) pnRX10 (Nat.le_of_ble_eq_true rfl) rfl ?_
  refine gj_iload_n dX10_horses_0 rfl ?_
  refine gj_S1 lkX10_211 ev_X10_isBorne dX10_horses_1 rfl rfl rfl rfl rfl ?_
  refine gj_if_neb (tgt := 12) dX10_horses_4 rfl (fun zq1 => ?_) (fun zq1 => ?_)
  · -- 4 taken
    exact absurd (of_decide_eq_true zq1) h0
  refine gj_aload_n dX10_horses_7 rfl ?_
  refine gj_V1 lkX10_69 (hc0 κ C) rfl rfl (ev_X10_bad I) dX10_horses_8 rfl rfl rfl rfl rfl ?_
  exact gj_ir rfl dX10_horses_11 rfl rfl rfl
set_option maxHeartbeats 1000000 in
set_option maxRecDepth 10000 in
theorem ev_X10_path_bad {E : mj_E} {κ : Nat → Bool} {C : Nat → Nat → Nat} (I : mj_CI κ C) {a c i w : Int32} (h0 : ¬ ((nI 1 ≤ w ∧ w ≤ nI 198) ∧ (nI 0 ≤ a ∧ a ≤ nI 24) ∧ (nI 0 ≤ c ∧ c ≤ nI 24) ∧ ((-1) ≤ i))) : mj_Ev E iX10_path [.ref 0, .int w, .int a, .int c, .int i] (hh κ C) (mj_R (some (.int (-10))) (hh κ (mj_u C 11 (mj_un (C 11) 0 ((C 11 0) + 1))))) := by
  have hl0 : C 20 0 ≤ 999 := I.1 0 (by decide) 0
  have hl7 : C 27 0 ≤ 7 := I.1 7 (by decide) 0
  have hl11 : C 31 0 ≤ 6 := I.1 11 (by decide) 0
  have hl13 : C 33 0 ≤ 6 := I.1 13 (by decide) 0
  have hl15 : C 35 0 ≤ 8 := I.1 15 (by decide) 0
  have hl7x : C 7 0 ≤ 150 := I.2.2.2.2.2.2.1
  refine mj_Ev.of (L0 := [some (.ref 0), some (.int w), some (.int a), some (.int c), some (.int i), none]) pnRX10 (Nat.le_of_ble_eq_true rfl) rfl ?_
  refine gj_iload_n dX10_path_0 rfl ?_
  refine gj_S1 lkX10_211 ev_X10_isBorne dX10_path_1 rfl rfl rfl rfl rfl ?_
  refine gj_if_eqb (tgt := 27) dX10_path_4 rfl (fun zq1 => ?_) (fun zq1 => ?_)
  · -- 4 taken
    refine gj_aload_n dX10_path_27 rfl ?_
    refine gj_V1 lkX10_69 (hc0 κ C) rfl rfl (ev_X10_bad I) dX10_path_28 rfl rfl rfl rfl rfl ?_
    refine gj_pop dX10_path_31 rfl ?_
    refine gj_bipush (v := (-10)) dX10_path_32 (by decide) ?_
    exact gj_ir rfl dX10_path_34 rfl rfl rfl
  refine gj_iload_n dX10_path_7 rfl ?_
  refine gj_S1 lkX10_87 ev_X10_isCell dX10_path_8 rfl rfl rfl rfl rfl ?_
  refine gj_if_eqb (tgt := 27) dX10_path_11 rfl (fun zq2 => ?_) (fun zq2 => ?_)
  · -- 11 taken
    refine gj_aload_n dX10_path_27 rfl ?_
    refine gj_V1 lkX10_69 (hc0 κ C) rfl rfl (ev_X10_bad I) dX10_path_28 rfl rfl rfl rfl rfl ?_
    refine gj_pop dX10_path_31 rfl ?_
    refine gj_bipush (v := (-10)) dX10_path_32 (by decide) ?_
    exact gj_ir rfl dX10_path_34 rfl rfl rfl
  refine gj_iload_n dX10_path_14 rfl ?_
  refine gj_S1 lkX10_87 ev_X10_isCell dX10_path_15 rfl rfl rfl rfl rfl ?_
  refine gj_if_eqb (tgt := 27) dX10_path_18 rfl (fun zq3 => ?_) (fun zq3 => ?_)
  · -- 18 taken
    refine gj_aload_n dX10_path_27 rfl ?_
    refine gj_V1 lkX10_69 (hc0 κ C) rfl rfl (ev_X10_bad I) dX10_path_28 rfl rfl rfl rfl rfl ?_
    refine gj_pop dX10_path_31 rfl ?_
    refine gj_bipush (v := (-10)) dX10_path_32 (by decide) ?_
    exact gj_ir rfl dX10_path_34 rfl rfl rfl
  refine gj_iload dX10_path_21 rfl ?_
  refine gj_iconst (v := (-1)) dX10_path_23 (by decide) ?_
  refine gj_icmp_ge (tgt := 35) dX10_path_24 rfl (fun zq4 => ?_) (fun zq4 => ?_)
  · -- 24 taken
    exact absurd ⟨of_decide_eq_true zq1, of_decide_eq_true zq2, of_decide_eq_true zq3, zq4⟩ h0
  refine gj_aload_n dX10_path_27 rfl ?_
  refine gj_V1 lkX10_69 (hc0 κ C) rfl rfl (ev_X10_bad I) dX10_path_28 rfl rfl rfl rfl rfl ?_
  refine gj_pop dX10_path_31 rfl ?_
  refine gj_bipush (v := (-10)) dX10_path_32 (by decide) ?_
  exact gj_ir rfl dX10_path_34 rfl rfl rfl
set_option maxHeartbeats 1000000 in
set_option maxRecDepth 10000 in
theorem ev_X10_safe_bad {E : mj_E} {κ : Nat → Bool} {C : Nat → Nat → Nat} (I : mj_CI κ C) {a c : Int32} (h0 : ¬ ((nI 0 ≤ a ∧ a ≤ nI 24) ∧ (nI 0 ≤ c ∧ c ≤ nI 24))) : mj_Ev E iX10_safe [.ref 0, .int a, .int c] (hh κ C) (mj_R (some (.int (-2))) (hh κ (mj_u C 11 (mj_un (C 11) 0 ((C 11 0) + 1))))) := by
  have hl0 : C 20 0 ≤ 999 := I.1 0 (by decide) 0
  have hl7 : C 27 0 ≤ 7 := I.1 7 (by decide) 0
  have hl11 : C 31 0 ≤ 6 := I.1 11 (by decide) 0
  have hl13 : C 33 0 ≤ 6 := I.1 13 (by decide) 0
  have hl15 : C 35 0 ≤ 8 := I.1 15 (by decide) 0
  have hl7x : C 7 0 ≤ 150 := I.2.2.2.2.2.2.1
  refine mj_Ev.of (L0 := [some (.ref 0), some (.int a), some (.int c), none, none, none]) pnRX10 (Nat.le_of_ble_eq_true rfl) rfl ?_
  refine gj_iload_n dX10_safe_0 rfl ?_
  refine gj_S1 lkX10_87 ev_X10_isCell dX10_safe_1 rfl rfl rfl rfl rfl ?_
  refine gj_if_eqb (tgt := 14) dX10_safe_4 rfl (fun zq1 => ?_) (fun zq1 => ?_)
  · -- 4 taken
    refine gj_aload_n dX10_safe_14 rfl ?_
    refine gj_V1 lkX10_69 (hc0 κ C) rfl rfl (ev_X10_bad I) dX10_safe_15 rfl rfl rfl rfl rfl ?_
    exact gj_ir rfl dX10_safe_18 rfl rfl rfl
  refine gj_iload_n dX10_safe_7 rfl ?_
  refine gj_S1 lkX10_87 ev_X10_isCell dX10_safe_8 rfl rfl rfl rfl rfl ?_
  refine gj_if_neb (tgt := 19) dX10_safe_11 rfl (fun zq2 => ?_) (fun zq2 => ?_)
  · -- 11 taken
    exact absurd ⟨of_decide_eq_true zq1, of_decide_eq_true zq2⟩ h0
  refine gj_aload_n dX10_safe_14 rfl ?_
  refine gj_V1 lkX10_69 (hc0 κ C) rfl rfl (ev_X10_bad I) dX10_safe_15 rfl rfl rfl rfl rfl ?_
  exact gj_ir rfl dX10_safe_18 rfl rfl rfl
set_option maxHeartbeats 1000000 in
set_option maxRecDepth 10000 in
theorem ev_X10_cross_bad {E : mj_E} {κ : Nat → Bool} {C : Nat → Nat → Nat} (I : mj_CI κ C) {a c w : Int32} (h0 : ¬ ((nI 1 ≤ w ∧ w ≤ nI 99) ∧ (nI 0 ≤ a ∧ a ≤ nI 24) ∧ (nI 0 ≤ c ∧ c ≤ nI 24) ∧ (¬ a = c))) : mj_Ev E iX10_cross [.ref 0, .int w, .int a, .int c] (hh κ C) (mj_R (some (.int (-2))) (hh κ (mj_u C 11 (mj_un (C 11) 0 ((C 11 0) + 1))))) := by
  have hl0 : C 20 0 ≤ 999 := I.1 0 (by decide) 0
  have hl7 : C 27 0 ≤ 7 := I.1 7 (by decide) 0
  have hl11 : C 31 0 ≤ 6 := I.1 11 (by decide) 0
  have hl13 : C 33 0 ≤ 6 := I.1 13 (by decide) 0
  have hl15 : C 35 0 ≤ 8 := I.1 15 (by decide) 0
  have hl7x : C 7 0 ≤ 150 := I.2.2.2.2.2.2.1
  refine mj_Ev.of (L0 := [some (.ref 0), some (.int w), some (.int a), some (.int c), none, none, none, none]) pnRX10 (Nat.le_of_ble_eq_true rfl) rfl ?_
  refine gj_iload_n dX10_cross_0 rfl ?_
  refine gj_ic (w := 1) dX10_cross_1 ?_
  refine gj_bp 99 dX10_cross_2 (by decide) ?_
  refine gj_S1 lkX10_65 ev_X10_within dX10_cross_4 rfl rfl rfl rfl rfl ?_
  refine gj_if_eqb (tgt := 29) dX10_cross_7 rfl (fun zq1 => ?_) (fun zq1 => ?_)
  · -- 7 taken
    refine gj_aload_n dX10_cross_29 rfl ?_
    refine gj_V1 lkX10_69 (hc0 κ C) rfl rfl (ev_X10_bad I) dX10_cross_30 rfl rfl rfl rfl rfl ?_
    exact gj_ir rfl dX10_cross_33 rfl rfl rfl
  refine gj_iload_n dX10_cross_10 rfl ?_
  refine gj_S1 lkX10_87 ev_X10_isCell dX10_cross_11 rfl rfl rfl rfl rfl ?_
  refine gj_if_eqb (tgt := 29) dX10_cross_14 rfl (fun zq2 => ?_) (fun zq2 => ?_)
  · -- 14 taken
    refine gj_aload_n dX10_cross_29 rfl ?_
    refine gj_V1 lkX10_69 (hc0 κ C) rfl rfl (ev_X10_bad I) dX10_cross_30 rfl rfl rfl rfl rfl ?_
    exact gj_ir rfl dX10_cross_33 rfl rfl rfl
  refine gj_iload_n dX10_cross_17 rfl ?_
  refine gj_S1 lkX10_87 ev_X10_isCell dX10_cross_18 rfl rfl rfl rfl rfl ?_
  refine gj_if_eqb (tgt := 29) dX10_cross_21 rfl (fun zq3 => ?_) (fun zq3 => ?_)
  · -- 21 taken
    refine gj_aload_n dX10_cross_29 rfl ?_
    refine gj_V1 lkX10_69 (hc0 κ C) rfl rfl (ev_X10_bad I) dX10_cross_30 rfl rfl rfl rfl rfl ?_
    exact gj_ir rfl dX10_cross_33 rfl rfl rfl
  refine gj_iload_n dX10_cross_24 rfl ?_
  refine gj_iload_n dX10_cross_25 rfl ?_
  refine gj_icmp_ne (tgt := 34) dX10_cross_26 rfl (fun zq4 => ?_) (fun zq4 => ?_)
  · -- 26 taken
    exact absurd ⟨of_decide_eq_true zq1, of_decide_eq_true zq2, of_decide_eq_true zq3, zq4⟩ h0
  refine gj_aload_n dX10_cross_29 rfl ?_
  refine gj_V1 lkX10_69 (hc0 κ C) rfl rfl (ev_X10_bad I) dX10_cross_30 rfl rfl rfl rfl rfl ?_
  exact gj_ir rfl dX10_cross_33 rfl rfl rfl
set_option maxHeartbeats 1000000 in
set_option maxRecDepth 10000 in
theorem ev_X10_apart_bad {E : mj_E} {κ : Nat → Bool} {C : Nat → Nat → Nat} (I : mj_CI κ C) {a c q w : Int32} (h0 : ¬ ((nI 1 ≤ w ∧ w ≤ nI 198) ∧ (nI 0 ≤ a ∧ a ≤ nI 24) ∧ (nI 0 ≤ c ∧ c ≤ nI 24) ∧ (¬ a = c) ∧ (nI 0 ≤ q ∧ q ≤ nI 1))) : mj_Ev E iX10_apart [.ref 0, .int w, .int a, .int c, .int q] (hh κ C) (mj_R (some (.int (-2))) (hh κ (mj_u C 11 (mj_un (C 11) 0 ((C 11 0) + 1))))) := by
  have hl0 : C 20 0 ≤ 999 := I.1 0 (by decide) 0
  have hl7 : C 27 0 ≤ 7 := I.1 7 (by decide) 0
  have hl11 : C 31 0 ≤ 6 := I.1 11 (by decide) 0
  have hl13 : C 33 0 ≤ 6 := I.1 13 (by decide) 0
  have hl15 : C 35 0 ≤ 8 := I.1 15 (by decide) 0
  have hl7x : C 7 0 ≤ 150 := I.2.2.2.2.2.2.1
  refine mj_Ev.of (L0 := [some (.ref 0), some (.int w), some (.int a), some (.int c), some (.int q), none]) pnRX10 (Nat.le_of_ble_eq_true rfl) rfl ?_
  refine gj_iload_n dX10_apart_0 rfl ?_
  refine gj_S1 lkX10_211 ev_X10_isBorne dX10_apart_1 rfl rfl rfl rfl rfl ?_
  refine gj_if_eqb (tgt := 36) dX10_apart_4 rfl (fun zq1 => ?_) (fun zq1 => ?_)
  · -- 4 taken
    refine gj_aload_n dX10_apart_36 rfl ?_
    refine gj_V1 lkX10_69 (hc0 κ C) rfl rfl (ev_X10_bad I) dX10_apart_37 rfl rfl rfl rfl rfl ?_
    exact gj_ir rfl dX10_apart_40 rfl rfl rfl
  refine gj_iload_n dX10_apart_7 rfl ?_
  refine gj_S1 lkX10_87 ev_X10_isCell dX10_apart_8 rfl rfl rfl rfl rfl ?_
  refine gj_if_eqb (tgt := 36) dX10_apart_11 rfl (fun zq2 => ?_) (fun zq2 => ?_)
  · -- 11 taken
    refine gj_aload_n dX10_apart_36 rfl ?_
    refine gj_V1 lkX10_69 (hc0 κ C) rfl rfl (ev_X10_bad I) dX10_apart_37 rfl rfl rfl rfl rfl ?_
    exact gj_ir rfl dX10_apart_40 rfl rfl rfl
  refine gj_iload_n dX10_apart_14 rfl ?_
  refine gj_S1 lkX10_87 ev_X10_isCell dX10_apart_15 rfl rfl rfl rfl rfl ?_
  refine gj_if_eqb (tgt := 36) dX10_apart_18 rfl (fun zq3 => ?_) (fun zq3 => ?_)
  · -- 18 taken
    refine gj_aload_n dX10_apart_36 rfl ?_
    refine gj_V1 lkX10_69 (hc0 κ C) rfl rfl (ev_X10_bad I) dX10_apart_37 rfl rfl rfl rfl rfl ?_
    exact gj_ir rfl dX10_apart_40 rfl rfl rfl
  refine gj_iload_n dX10_apart_21 rfl ?_
  refine gj_iload_n dX10_apart_22 rfl ?_
  refine gj_icmp_eq (tgt := 36) dX10_apart_23 rfl (fun zq4 => ?_) (fun zq4 => ?_)
  · -- 23 taken
    refine gj_aload_n dX10_apart_36 rfl ?_
    refine gj_V1 lkX10_69 (hc0 κ C) rfl rfl (ev_X10_bad I) dX10_apart_37 rfl rfl rfl rfl rfl ?_
    exact gj_ir rfl dX10_apart_40 rfl rfl rfl
  refine gj_iload dX10_apart_26 rfl ?_
  refine gj_ic (w := 0) dX10_apart_28 ?_
  refine gj_ic (w := 1) dX10_apart_29 ?_
  refine gj_S1 lkX10_65 ev_X10_within dX10_apart_30 rfl rfl rfl rfl rfl ?_
  refine gj_if_neb (tgt := 41) dX10_apart_33 rfl (fun zq5 => ?_) (fun zq5 => ?_)
  · -- 33 taken
    exact absurd ⟨of_decide_eq_true zq1, of_decide_eq_true zq2, of_decide_eq_true zq3, zq4, of_decide_eq_true zq5⟩ h0
  refine gj_aload_n dX10_apart_36 rfl ?_
  refine gj_V1 lkX10_69 (hc0 κ C) rfl rfl (ev_X10_bad I) dX10_apart_37 rfl rfl rfl rfl rfl ?_
  exact gj_ir rfl dX10_apart_40 rfl rfl rfl
set_option maxHeartbeats 1000000 in
set_option maxRecDepth 10000 in
theorem ev_X10_votes_bad {E : mj_E} {κ : Nat → Bool} {C : Nat → Nat → Nat} (I : mj_CI κ C) {q : Int32} (h0 : ¬ ((nI 0 ≤ q ∧ q ≤ nI 2))) : mj_Ev E iX10_votes [.ref 0, .int q] (hh κ C) (mj_R (some (.int (-2))) (hh κ (mj_u C 11 (mj_un (C 11) 0 ((C 11 0) + 1))))) := by
  have hl0 : C 20 0 ≤ 999 := I.1 0 (by decide) 0
  have hl7 : C 27 0 ≤ 7 := I.1 7 (by decide) 0
  have hl11 : C 31 0 ≤ 6 := I.1 11 (by decide) 0
  have hl13 : C 33 0 ≤ 6 := I.1 13 (by decide) 0
  have hl15 : C 35 0 ≤ 8 := I.1 15 (by decide) 0
  have hl7x : C 7 0 ≤ 150 := I.2.2.2.2.2.2.1
  refine mj_Ev.of (L0 := [some (.ref 0), some (.int q)]) pnRX10 (Nat.le_of_ble_eq_true rfl) rfl ?_
  refine gj_iload_n dX10_votes_0 rfl ?_
  refine gj_ic (w := 0) dX10_votes_1 ?_
  refine gj_ic (w := 2) dX10_votes_2 ?_
  refine gj_S1 lkX10_65 ev_X10_within dX10_votes_3 rfl rfl rfl rfl rfl ?_
  refine gj_if_neb (tgt := 14) dX10_votes_6 rfl (fun zq1 => ?_) (fun zq1 => ?_)
  · -- 6 taken
    exact absurd (of_decide_eq_true zq1) h0
  refine gj_aload_n dX10_votes_9 rfl ?_
  refine gj_V1 lkX10_69 (hc0 κ C) rfl rfl (ev_X10_bad I) dX10_votes_10 rfl rfl rfl rfl rfl ?_
  exact gj_ir rfl dX10_votes_13 rfl rfl rfl
set_option maxHeartbeats 1000000 in
set_option maxRecDepth 10000 in
theorem ev_X10_seen_bad {E : mj_E} {κ : Nat → Bool} {C : Nat → Nat → Nat} (I : mj_CI κ C) {q x : Int32} (h0 : ¬ ((nI 0 ≤ x ∧ x ≤ nI (1 <<< (C 27 0) - 1)) ∧ (nI 0 ≤ q ∧ q ≤ nI 2))) : mj_Ev E iX10_seen [.ref 0, .int x, .int q] (hh κ C) (mj_R (some (.int (-2))) (hh κ (mj_u C 11 (mj_un (C 11) 0 ((C 11 0) + 1))))) := by
  have hl0 : C 20 0 ≤ 999 := I.1 0 (by decide) 0
  have hl7 : C 27 0 ≤ 7 := I.1 7 (by decide) 0
  have hl11 : C 31 0 ≤ 6 := I.1 11 (by decide) 0
  have hl13 : C 33 0 ≤ 6 := I.1 13 (by decide) 0
  have hl15 : C 35 0 ≤ 8 := I.1 15 (by decide) 0
  have hl7x : C 7 0 ≤ 150 := I.2.2.2.2.2.2.1
  have hZ := mj_sets_le hl7
  refine mj_Ev.of (L0 := [some (.ref 0), some (.int x), some (.int q), none, none, none, none, none]) pnRX10 (Nat.le_of_ble_eq_true rfl) rfl ?_
  refine gj_iload_n dX10_seen_0 rfl ?_
  refine gj_ic (w := 0) dX10_seen_1 ?_
  refine gj_aload_n dX10_seen_2 rfl ?_
  refine gfX10_10 rfl dX10_seen_3 (hc0 κ C) rfl ?_
  refine gfX10_73 rfl dX10_seen_6 (hc20 κ C) rfl ?_
  refine gj_V1 lkX10_252 (hc27 κ C) rfl rfl (ev_X7_sets ⟨(hc27 κ C), (hc28 κ C), (hc29 κ C), (hc30 κ C), (by omega), (show ∀ c, C 28 c ≤ 5 from I.1 8 (by decide)), (show ∀ c, C 29 c ≤ 99 from I.1 9 (by decide)), (show ∀ c, C 30 c ≤ 24 from I.1 10 (by decide))⟩) dX10_seen_9 rfl rfl rfl rfl rfl ?_
  have hb1 := mj_sets_le' (C 27 0) (by omega)
  refine gj_ic (w := 1) dX10_seen_12 ?_
  refine gj_isubN (by omega) dX10_seen_13 ?_
  refine gj_S1 lkX10_65 ev_X10_within dX10_seen_14 rfl rfl rfl rfl rfl ?_
  refine gj_if_eqb (tgt := 29) dX10_seen_17 rfl (fun zq2 => ?_) (fun zq2 => ?_)
  · -- 17 taken
    refine gj_aload_n dX10_seen_29 rfl ?_
    refine gj_V1 lkX10_69 (hc0 κ C) rfl rfl (ev_X10_bad I) dX10_seen_30 rfl rfl rfl rfl rfl ?_
    exact gj_ir rfl dX10_seen_33 rfl rfl rfl
  refine gj_iload_n dX10_seen_20 rfl ?_
  refine gj_ic (w := 0) dX10_seen_21 ?_
  refine gj_ic (w := 2) dX10_seen_22 ?_
  refine gj_S1 lkX10_65 ev_X10_within dX10_seen_23 rfl rfl rfl rfl rfl ?_
  refine gj_if_neb (tgt := 34) dX10_seen_26 rfl (fun zq3 => ?_) (fun zq3 => ?_)
  · -- 26 taken
    exact absurd ⟨of_decide_eq_true zq2, of_decide_eq_true zq3⟩ h0
  refine gj_aload_n dX10_seen_29 rfl ?_
  refine gj_V1 lkX10_69 (hc0 κ C) rfl rfl (ev_X10_bad I) dX10_seen_30 rfl rfl rfl rfl rfl ?_
  exact gj_ir rfl dX10_seen_33 rfl rfl rfl
set_option maxHeartbeats 1000000 in
set_option maxRecDepth 10000 in
theorem ev_X10_stones_bad {E : mj_E} {κ : Nat → Bool} {C : Nat → Nat → Nat} (I : mj_CI κ C) {a c w : Int32} (h0 : ¬ ((nI 1 ≤ w ∧ w ≤ nI 198) ∧ (nI 0 ≤ a ∧ a ≤ nI 24) ∧ (nI 0 ≤ c ∧ c ≤ nI 24) ∧ (¬ a = c))) : mj_Ev E iX10_stones [.ref 0, .int w, .int a, .int c] (hh κ C) (mj_R (some (.int (-2))) (hh κ (mj_u C 11 (mj_un (C 11) 0 ((C 11 0) + 1))))) := by
  have hl0 : C 20 0 ≤ 999 := I.1 0 (by decide) 0
  have hl7 : C 27 0 ≤ 7 := I.1 7 (by decide) 0
  have hl11 : C 31 0 ≤ 6 := I.1 11 (by decide) 0
  have hl13 : C 33 0 ≤ 6 := I.1 13 (by decide) 0
  have hl15 : C 35 0 ≤ 8 := I.1 15 (by decide) 0
  have hl7x : C 7 0 ≤ 150 := I.2.2.2.2.2.2.1
  refine mj_Ev.of (L0 := [some (.ref 0), some (.int w), some (.int a), some (.int c), none, none]) pnRX10 (Nat.le_of_ble_eq_true rfl) rfl ?_
  refine gj_iload_n dX10_stones_0 rfl ?_
  refine gj_S1 lkX10_211 ev_X10_isBorne dX10_stones_1 rfl rfl rfl rfl rfl ?_
  refine gj_if_eqb (tgt := 26) dX10_stones_4 rfl (fun zq1 => ?_) (fun zq1 => ?_)
  · -- 4 taken
    refine gj_aload_n dX10_stones_26 rfl ?_
    refine gj_V1 lkX10_69 (hc0 κ C) rfl rfl (ev_X10_bad I) dX10_stones_27 rfl rfl rfl rfl rfl ?_
    exact gj_ir rfl dX10_stones_30 rfl rfl rfl
  refine gj_iload_n dX10_stones_7 rfl ?_
  refine gj_S1 lkX10_87 ev_X10_isCell dX10_stones_8 rfl rfl rfl rfl rfl ?_
  refine gj_if_eqb (tgt := 26) dX10_stones_11 rfl (fun zq2 => ?_) (fun zq2 => ?_)
  · -- 11 taken
    refine gj_aload_n dX10_stones_26 rfl ?_
    refine gj_V1 lkX10_69 (hc0 κ C) rfl rfl (ev_X10_bad I) dX10_stones_27 rfl rfl rfl rfl rfl ?_
    exact gj_ir rfl dX10_stones_30 rfl rfl rfl
  refine gj_iload_n dX10_stones_14 rfl ?_
  refine gj_S1 lkX10_87 ev_X10_isCell dX10_stones_15 rfl rfl rfl rfl rfl ?_
  refine gj_if_eqb (tgt := 26) dX10_stones_18 rfl (fun zq3 => ?_) (fun zq3 => ?_)
  · -- 18 taken
    refine gj_aload_n dX10_stones_26 rfl ?_
    refine gj_V1 lkX10_69 (hc0 κ C) rfl rfl (ev_X10_bad I) dX10_stones_27 rfl rfl rfl rfl rfl ?_
    exact gj_ir rfl dX10_stones_30 rfl rfl rfl
  refine gj_iload_n dX10_stones_21 rfl ?_
  refine gj_iload_n dX10_stones_22 rfl ?_
  refine gj_icmp_ne (tgt := 31) dX10_stones_23 rfl (fun zq4 => ?_) (fun zq4 => ?_)
  · -- 23 taken
    exact absurd ⟨of_decide_eq_true zq1, of_decide_eq_true zq2, of_decide_eq_true zq3, zq4⟩ h0
  refine gj_aload_n dX10_stones_26 rfl ?_
  refine gj_V1 lkX10_69 (hc0 κ C) rfl rfl (ev_X10_bad I) dX10_stones_27 rfl rfl rfl rfl rfl ?_
  exact gj_ir rfl dX10_stones_30 rfl rfl rfl
set_option maxHeartbeats 1000000 in
set_option maxRecDepth 10000 in
theorem ev_X10_note_bad {E : mj_E} {κ : Nat → Bool} {C : Nat → Nat → Nat} (I : mj_CI κ C) {c f i j s : Int32} (h0 : ¬ ((nI 0 ≤ c ∧ c ≤ nI 24) ∧ (nI 0 ≤ i ∧ i ≤ nI 99) ∧ (nI 0 ≤ f ∧ f ≤ nI 9) ∧ (nI 0 ≤ s ∧ s ≤ nI 9) ∧ (nI 0 ≤ j ∧ j ≤ nI 99))) : mj_Ev E iX10_note [.ref 0, .int c, .int i, .int f, .int s, .int j] (hh κ C) (mj_R (some (.int (-2))) (hh κ (mj_u C 11 (mj_un (C 11) 0 ((C 11 0) + 1))))) := by
  have hl0 : C 20 0 ≤ 999 := I.1 0 (by decide) 0
  have hl7 : C 27 0 ≤ 7 := I.1 7 (by decide) 0
  have hl11 : C 31 0 ≤ 6 := I.1 11 (by decide) 0
  have hl13 : C 33 0 ≤ 6 := I.1 13 (by decide) 0
  have hl15 : C 35 0 ≤ 8 := I.1 15 (by decide) 0
  have hl7x : C 7 0 ≤ 150 := I.2.2.2.2.2.2.1
  refine mj_Ev.of (L0 := [some (.ref 0), some (.int c), some (.int i), some (.int f), some (.int s), some (.int j)]) pnRX10 (Nat.le_of_ble_eq_true rfl) rfl ?_
  refine gj_iload_n dX10_note_0 rfl ?_
  refine gj_S1 lkX10_87 ev_X10_isCell dX10_note_1 rfl rfl rfl rfl rfl ?_
  refine gj_if_eqb (tgt := 43) dX10_note_4 rfl (fun zq1 => ?_) (fun zq1 => ?_)
  · -- 4 taken
    refine gj_aload_n dX10_note_43 rfl ?_
    refine gj_V1 lkX10_69 (hc0 κ C) rfl rfl (ev_X10_bad I) dX10_note_44 rfl rfl rfl rfl rfl ?_
    exact gj_ir rfl dX10_note_47 rfl rfl rfl
  refine gj_iload_n dX10_note_7 rfl ?_
  refine gj_ic (w := 0) dX10_note_8 ?_
  refine gj_bp 99 dX10_note_9 (by decide) ?_
  refine gj_S1 lkX10_65 ev_X10_within dX10_note_11 rfl rfl rfl rfl rfl ?_
  refine gj_if_eqb (tgt := 43) dX10_note_14 rfl (fun zq2 => ?_) (fun zq2 => ?_)
  · -- 14 taken
    refine gj_aload_n dX10_note_43 rfl ?_
    refine gj_V1 lkX10_69 (hc0 κ C) rfl rfl (ev_X10_bad I) dX10_note_44 rfl rfl rfl rfl rfl ?_
    exact gj_ir rfl dX10_note_47 rfl rfl rfl
  refine gj_iload_n dX10_note_17 rfl ?_
  refine gj_S1 lkX10_111 ev_X10_isSky dX10_note_18 rfl rfl rfl rfl rfl ?_
  refine gj_if_eqb (tgt := 43) dX10_note_21 rfl (fun zq3 => ?_) (fun zq3 => ?_)
  · -- 21 taken
    refine gj_aload_n dX10_note_43 rfl ?_
    refine gj_V1 lkX10_69 (hc0 κ C) rfl rfl (ev_X10_bad I) dX10_note_44 rfl rfl rfl rfl rfl ?_
    exact gj_ir rfl dX10_note_47 rfl rfl rfl
  refine gj_iload dX10_note_24 rfl ?_
  refine gj_S1 lkX10_111 ev_X10_isSky dX10_note_26 rfl rfl rfl rfl rfl ?_
  refine gj_if_eqb (tgt := 43) dX10_note_29 rfl (fun zq4 => ?_) (fun zq4 => ?_)
  · -- 29 taken
    refine gj_aload_n dX10_note_43 rfl ?_
    refine gj_V1 lkX10_69 (hc0 κ C) rfl rfl (ev_X10_bad I) dX10_note_44 rfl rfl rfl rfl rfl ?_
    exact gj_ir rfl dX10_note_47 rfl rfl rfl
  refine gj_iload dX10_note_32 rfl ?_
  refine gj_ic (w := 0) dX10_note_34 ?_
  refine gj_bp 99 dX10_note_35 (by decide) ?_
  refine gj_S1 lkX10_65 ev_X10_within dX10_note_37 rfl rfl rfl rfl rfl ?_
  refine gj_if_neb (tgt := 48) dX10_note_40 rfl (fun zq5 => ?_) (fun zq5 => ?_)
  · -- 40 taken
    exact absurd ⟨of_decide_eq_true zq1, of_decide_eq_true zq2, of_decide_eq_true zq3, of_decide_eq_true zq4, of_decide_eq_true zq5⟩ h0
  refine gj_aload_n dX10_note_43 rfl ?_
  refine gj_V1 lkX10_69 (hc0 κ C) rfl rfl (ev_X10_bad I) dX10_note_44 rfl rfl rfl rfl rfl ?_
  exact gj_ir rfl dX10_note_47 rfl rfl rfl
set_option maxHeartbeats 1000000 in
set_option maxRecDepth 10000 in
theorem ev_X10_voted_bad {E : mj_E} {κ : Nat → Bool} {C : Nat → Nat → Nat} (I : mj_CI κ C) {f m p v y : Int32} (h0 : ¬ ((nI 0 ≤ v ∧ v < nI (C 27 0)) ∧ (nI 0 ≤ y ∧ y ≤ nI 1) ∧ (nI 0 ≤ p ∧ p ≤ nI 198) ∧ (nI 0 ≤ m ∧ m ≤ nI 198) ∧ (nI 0 ≤ f ∧ f ≤ nI 9))) : mj_Ev E iX10_voted [.ref 0, .int v, .int y, .int p, .int m, .int f] (hh κ C) (mj_R (some (.int (-2))) (hh κ (mj_u C 11 (mj_un (C 11) 0 ((C 11 0) + 1))))) := by
  have hl0 : C 20 0 ≤ 999 := I.1 0 (by decide) 0
  have hl7 : C 27 0 ≤ 7 := I.1 7 (by decide) 0
  have hl11 : C 31 0 ≤ 6 := I.1 11 (by decide) 0
  have hl13 : C 33 0 ≤ 6 := I.1 13 (by decide) 0
  have hl15 : C 35 0 ≤ 8 := I.1 15 (by decide) 0
  have hl7x : C 7 0 ≤ 150 := I.2.2.2.2.2.2.1
  refine mj_Ev.of (L0 := [some (.ref 0), some (.int v), some (.int y), some (.int p), some (.int m), some (.int f)]) pnRX10 (Nat.le_of_ble_eq_true rfl) rfl ?_
  refine gj_aload_n dX10_voted_0 rfl ?_
  refine gj_iload_n dX10_voted_1 rfl ?_
  refine gj_V1 lkX10_187 (hc0 κ C) rfl rfl (ev_X10_isVoter_x I) dX10_voted_2 rfl rfl rfl rfl rfl ?_
  refine gj_if_eqb (tgt := 48) dX10_voted_5 rfl (fun zq1 => ?_) (fun zq1 => ?_)
  · -- 5 taken
    refine gj_aload_n dX10_voted_48 rfl ?_
    refine gj_V1 lkX10_69 (hc0 κ C) rfl rfl (ev_X10_bad I) dX10_voted_49 rfl rfl rfl rfl rfl ?_
    exact gj_ir rfl dX10_voted_52 rfl rfl rfl
  refine gj_iload_n dX10_voted_8 rfl ?_
  refine gj_ic (w := 0) dX10_voted_9 ?_
  refine gj_ic (w := 1) dX10_voted_10 ?_
  refine gj_S1 lkX10_65 ev_X10_within dX10_voted_11 rfl rfl rfl rfl rfl ?_
  refine gj_if_eqb (tgt := 48) dX10_voted_14 rfl (fun zq2 => ?_) (fun zq2 => ?_)
  · -- 14 taken
    refine gj_aload_n dX10_voted_48 rfl ?_
    refine gj_V1 lkX10_69 (hc0 κ C) rfl rfl (ev_X10_bad I) dX10_voted_49 rfl rfl rfl rfl rfl ?_
    exact gj_ir rfl dX10_voted_52 rfl rfl rfl
  refine gj_iload_n dX10_voted_17 rfl ?_
  refine gj_ic (w := 0) dX10_voted_18 ?_
  refine gj_sp 198 dX10_voted_19 (by decide) ?_
  refine gj_S1 lkX10_65 ev_X10_within dX10_voted_22 rfl rfl rfl rfl rfl ?_
  refine gj_if_eqb (tgt := 48) dX10_voted_25 rfl (fun zq3 => ?_) (fun zq3 => ?_)
  · -- 25 taken
    refine gj_aload_n dX10_voted_48 rfl ?_
    refine gj_V1 lkX10_69 (hc0 κ C) rfl rfl (ev_X10_bad I) dX10_voted_49 rfl rfl rfl rfl rfl ?_
    exact gj_ir rfl dX10_voted_52 rfl rfl rfl
  refine gj_iload dX10_voted_28 rfl ?_
  refine gj_ic (w := 0) dX10_voted_30 ?_
  refine gj_sp 198 dX10_voted_31 (by decide) ?_
  refine gj_S1 lkX10_65 ev_X10_within dX10_voted_34 rfl rfl rfl rfl rfl ?_
  refine gj_if_eqb (tgt := 48) dX10_voted_37 rfl (fun zq4 => ?_) (fun zq4 => ?_)
  · -- 37 taken
    refine gj_aload_n dX10_voted_48 rfl ?_
    refine gj_V1 lkX10_69 (hc0 κ C) rfl rfl (ev_X10_bad I) dX10_voted_49 rfl rfl rfl rfl rfl ?_
    exact gj_ir rfl dX10_voted_52 rfl rfl rfl
  refine gj_iload dX10_voted_40 rfl ?_
  refine gj_S1 lkX10_111 ev_X10_isSky dX10_voted_42 rfl rfl rfl rfl rfl ?_
  refine gj_if_neb (tgt := 53) dX10_voted_45 rfl (fun zq5 => ?_) (fun zq5 => ?_)
  · -- 45 taken
    exact absurd ⟨of_decide_eq_true zq1, of_decide_eq_true zq2, of_decide_eq_true zq3, of_decide_eq_true zq4, of_decide_eq_true zq5⟩ h0
  refine gj_aload_n dX10_voted_48 rfl ?_
  refine gj_V1 lkX10_69 (hc0 κ C) rfl rfl (ev_X10_bad I) dX10_voted_49 rfl rfl rfl rfl rfl ?_
  exact gj_ir rfl dX10_voted_52 rfl rfl rfl
set_option maxHeartbeats 1000000 in
set_option maxRecDepth 10000 in
theorem ev_X10_forget_bad {E : mj_E} {κ : Nat → Bool} {C : Nat → Nat → Nat} (I : mj_CI κ C) {q : Int32} (h0 : ¬ ((nI 0 ≤ q ∧ q ≤ nI 1))) : mj_Ev E iX10_forget [.ref 0, .int q] (hh κ C) (mj_R (some (.int (-2))) (hh κ (mj_u C 11 (mj_un (C 11) 0 ((C 11 0) + 1))))) := by
  have hl0 : C 20 0 ≤ 999 := I.1 0 (by decide) 0
  have hl7 : C 27 0 ≤ 7 := I.1 7 (by decide) 0
  have hl11 : C 31 0 ≤ 6 := I.1 11 (by decide) 0
  have hl13 : C 33 0 ≤ 6 := I.1 13 (by decide) 0
  have hl15 : C 35 0 ≤ 8 := I.1 15 (by decide) 0
  have hl7x : C 7 0 ≤ 150 := I.2.2.2.2.2.2.1
  refine mj_Ev.of (L0 := [some (.ref 0), some (.int q)]) pnRX10 (Nat.le_of_ble_eq_true rfl) rfl ?_
  refine gj_iload_n dX10_forget_0 rfl ?_
  refine gj_ic (w := 0) dX10_forget_1 ?_
  refine gj_ic (w := 1) dX10_forget_2 ?_
  refine gj_S1 lkX10_65 ev_X10_within dX10_forget_3 rfl rfl rfl rfl rfl ?_
  refine gj_if_neb (tgt := 14) dX10_forget_6 rfl (fun zq1 => ?_) (fun zq1 => ?_)
  · -- 6 taken
    exact absurd (of_decide_eq_true zq1) h0
  refine gj_aload_n dX10_forget_9 rfl ?_
  refine gj_V1 lkX10_69 (hc0 κ C) rfl rfl (ev_X10_bad I) dX10_forget_10 rfl rfl rfl rfl rfl ?_
  exact gj_ir rfl dX10_forget_13 rfl rfl rfl
set_option maxHeartbeats 1000000 in
set_option maxRecDepth 10000 in
theorem ev_X10_is_bad {E : mj_E} {κ : Nat → Bool} {C : Nat → Nat → Nat} (I : mj_CI κ C) {c : Int32} (h0 : ¬ ((nI 0 ≤ c ∧ c ≤ nI 24))) : mj_Ev E iX10_is [.ref 0, .int c] (hh κ C) (mj_R (some (.int (-2))) (hh κ (mj_u C 11 (mj_un (C 11) 0 ((C 11 0) + 1))))) := by
  have hl0 : C 20 0 ≤ 999 := I.1 0 (by decide) 0
  have hl7 : C 27 0 ≤ 7 := I.1 7 (by decide) 0
  have hl11 : C 31 0 ≤ 6 := I.1 11 (by decide) 0
  have hl13 : C 33 0 ≤ 6 := I.1 13 (by decide) 0
  have hl15 : C 35 0 ≤ 8 := I.1 15 (by decide) 0
  have hl7x : C 7 0 ≤ 150 := I.2.2.2.2.2.2.1
  refine mj_Ev.of (L0 := [some (.ref 0), some (.int c)]) pnRX10 (Nat.le_of_ble_eq_true rfl) rfl ?_
  refine gj_iload_n dX10_is_0 rfl ?_
  refine gj_S1 lkX10_87 ev_X10_isCell dX10_is_1 rfl rfl rfl rfl rfl ?_
  refine gj_if_eqb (tgt := 15) dX10_is_4 rfl (fun zq1 => ?_) (fun zq1 => ?_)
  · -- 4 taken
    refine gj_aload_n dX10_is_15 rfl ?_
    refine gj_V1 lkX10_69 (hc0 κ C) rfl rfl (ev_X10_bad I) dX10_is_16 rfl rfl rfl rfl rfl ?_
    exact gj_ir rfl dX10_is_19 rfl rfl rfl
  exact absurd (of_decide_eq_true zq1) h0
set_option maxHeartbeats 1000000 in
set_option maxRecDepth 10000 in
theorem ev_X10_next_bad {E : mj_E} {κ : Nat → Bool} {C : Nat → Nat → Nat} (I : mj_CI κ C) {c : Int32} (h0 : ¬ ((nI 0 ≤ c ∧ c ≤ nI 24))) : mj_Ev E iX10_next [.ref 0, .int c] (hh κ C) (mj_R (some (.int (-2))) (hh κ (mj_u C 11 (mj_un (C 11) 0 ((C 11 0) + 1))))) := by
  have hl0 : C 20 0 ≤ 999 := I.1 0 (by decide) 0
  have hl7 : C 27 0 ≤ 7 := I.1 7 (by decide) 0
  have hl11 : C 31 0 ≤ 6 := I.1 11 (by decide) 0
  have hl13 : C 33 0 ≤ 6 := I.1 13 (by decide) 0
  have hl15 : C 35 0 ≤ 8 := I.1 15 (by decide) 0
  have hl7x : C 7 0 ≤ 150 := I.2.2.2.2.2.2.1
  refine mj_Ev.of (L0 := [some (.ref 0), some (.int c), none, none, none, none, none]) pnRX10 (Nat.le_of_ble_eq_true rfl) rfl ?_
  refine gj_iload_n dX10_next_0 rfl ?_
  refine gj_S1 lkX10_87 ev_X10_isCell dX10_next_1 rfl rfl rfl rfl rfl ?_
  refine gj_if_neb (tgt := 12) dX10_next_4 rfl (fun zq1 => ?_) (fun zq1 => ?_)
  · -- 4 taken
    exact absurd (of_decide_eq_true zq1) h0
  refine gj_aload_n dX10_next_7 rfl ?_
  refine gj_V1 lkX10_69 (hc0 κ C) rfl rfl (ev_X10_bad I) dX10_next_8 rfl rfl rfl rfl rfl ?_
  exact gj_ir rfl dX10_next_11 rfl rfl rfl
set_option maxHeartbeats 1000000 in
set_option maxRecDepth 10000 in
theorem ev_X10_who_bad {E : mj_E} {κ : Nat → Bool} {C : Nat → Nat → Nat} (I : mj_CI κ C) {v : Int32} (h0 : ¬ ((nI 0 ≤ v ∧ v < nI (C 27 0)))) : mj_Ev E iX10_who [.ref 0, .int v] (hh κ C) (mj_R (some (.int (-2))) (hh κ (mj_u C 11 (mj_un (C 11) 0 ((C 11 0) + 1))))) := by
  have hl0 : C 20 0 ≤ 999 := I.1 0 (by decide) 0
  have hl7 : C 27 0 ≤ 7 := I.1 7 (by decide) 0
  have hl11 : C 31 0 ≤ 6 := I.1 11 (by decide) 0
  have hl13 : C 33 0 ≤ 6 := I.1 13 (by decide) 0
  have hl15 : C 35 0 ≤ 8 := I.1 15 (by decide) 0
  have hl7x : C 7 0 ≤ 150 := I.2.2.2.2.2.2.1
  refine mj_Ev.of (L0 := [some (.ref 0), some (.int v), none, none]) pnRX10 (Nat.le_of_ble_eq_true rfl) rfl ?_
  refine gj_aload_n dX10_who_0 rfl ?_
  refine gj_iload_n dX10_who_1 rfl ?_
  refine gj_V1 lkX10_187 (hc0 κ C) rfl rfl (ev_X10_isVoter_x I) dX10_who_2 rfl rfl rfl rfl rfl ?_
  refine gj_if_neb (tgt := 13) dX10_who_5 rfl (fun zq1 => ?_) (fun zq1 => ?_)
  · -- 5 taken
    exact absurd (of_decide_eq_true zq1) h0
  refine gj_aload_n dX10_who_8 rfl ?_
  refine gj_V1 lkX10_69 (hc0 κ C) rfl rfl (ev_X10_bad I) dX10_who_9 rfl rfl rfl rfl rfl ?_
  exact gj_ir rfl dX10_who_12 rfl rfl rfl
set_option maxHeartbeats 1000000 in
set_option maxRecDepth 10000 in
theorem ev_X10_two_bad {E : mj_E} {κ : Nat → Bool} {C : Nat → Nat → Nat} (I : mj_CI κ C) {a c : Int32} (h0 : ¬ ((nI 0 ≤ a ∧ a < nI (C 27 0)) ∧ (nI 0 ≤ c ∧ c < nI (C 27 0)) ∧ (¬ a = c))) : mj_Ev E iX10_two [.ref 0, .int a, .int c] (hh κ C) (mj_R (some (.int (-2))) (hh κ (mj_u C 11 (mj_un (C 11) 0 ((C 11 0) + 1))))) := by
  have hl0 : C 20 0 ≤ 999 := I.1 0 (by decide) 0
  have hl7 : C 27 0 ≤ 7 := I.1 7 (by decide) 0
  have hl11 : C 31 0 ≤ 6 := I.1 11 (by decide) 0
  have hl13 : C 33 0 ≤ 6 := I.1 13 (by decide) 0
  have hl15 : C 35 0 ≤ 8 := I.1 15 (by decide) 0
  have hl7x : C 7 0 ≤ 150 := I.2.2.2.2.2.2.1
  refine mj_Ev.of (L0 := [some (.ref 0), some (.int a), some (.int c), none, none, none, none, none, none, none]) pnRX10 (Nat.le_of_ble_eq_true rfl) rfl ?_
  refine gj_aload_n dX10_two_0 rfl ?_
  refine gj_iload_n dX10_two_1 rfl ?_
  refine gj_V1 lkX10_187 (hc0 κ C) rfl rfl (ev_X10_isVoter_x I) dX10_two_2 rfl rfl rfl rfl rfl ?_
  refine gj_if_eqb (tgt := 21) dX10_two_5 rfl (fun zq1 => ?_) (fun zq1 => ?_)
  · -- 5 taken
    refine gj_aload_n dX10_two_21 rfl ?_
    refine gj_V1 lkX10_69 (hc0 κ C) rfl rfl (ev_X10_bad I) dX10_two_22 rfl rfl rfl rfl rfl ?_
    exact gj_ir rfl dX10_two_25 rfl rfl rfl
  refine gj_aload_n dX10_two_8 rfl ?_
  refine gj_iload_n dX10_two_9 rfl ?_
  refine gj_V1 lkX10_187 (hc0 κ C) rfl rfl (ev_X10_isVoter_x I) dX10_two_10 rfl rfl rfl rfl rfl ?_
  refine gj_if_eqb (tgt := 21) dX10_two_13 rfl (fun zq2 => ?_) (fun zq2 => ?_)
  · -- 13 taken
    refine gj_aload_n dX10_two_21 rfl ?_
    refine gj_V1 lkX10_69 (hc0 κ C) rfl rfl (ev_X10_bad I) dX10_two_22 rfl rfl rfl rfl rfl ?_
    exact gj_ir rfl dX10_two_25 rfl rfl rfl
  refine gj_iload_n dX10_two_16 rfl ?_
  refine gj_iload_n dX10_two_17 rfl ?_
  refine gj_icmp_ne (tgt := 26) dX10_two_18 rfl (fun zq3 => ?_) (fun zq3 => ?_)
  · -- 18 taken
    exact absurd ⟨of_decide_eq_true zq1, of_decide_eq_true zq2, zq3⟩ h0
  refine gj_aload_n dX10_two_21 rfl ?_
  refine gj_V1 lkX10_69 (hc0 κ C) rfl rfl (ev_X10_bad I) dX10_two_22 rfl rfl rfl rfl rfl ?_
  exact gj_ir rfl dX10_two_25 rfl rfl rfl
set_option maxHeartbeats 1000000 in
set_option maxRecDepth 10000 in
theorem ev_X10_thaw_bad {E : mj_E} {κ : Nat → Bool} {C : Nat → Nat → Nat} (I : mj_CI κ C) {c m o w : Int32} (h0 : ¬ ((nI 0 ≤ c ∧ c ≤ nI 24) ∧ (nI 1 ≤ w ∧ w ≤ nI 198) ∧ (nI 0 ≤ m ∧ m ≤ nI 8) ∧ (nI 0 ≤ o ∧ o ≤ nI 10))) : mj_Ev E iX10_thaw [.ref 0, .int c, .int w, .int m, .int o] (hh κ C) (mj_R (some (.int (-2))) (hh κ (mj_u C 11 (mj_un (C 11) 0 ((C 11 0) + 1))))) := by
  have hl0 : C 20 0 ≤ 999 := I.1 0 (by decide) 0
  have hl7 : C 27 0 ≤ 7 := I.1 7 (by decide) 0
  have hl11 : C 31 0 ≤ 6 := I.1 11 (by decide) 0
  have hl13 : C 33 0 ≤ 6 := I.1 13 (by decide) 0
  have hl15 : C 35 0 ≤ 8 := I.1 15 (by decide) 0
  have hl7x : C 7 0 ≤ 150 := I.2.2.2.2.2.2.1
  refine mj_Ev.of (L0 := [some (.ref 0), some (.int c), some (.int w), some (.int m), some (.int o), none, none, none, none, none, none]) pnRX10 (Nat.le_of_ble_eq_true rfl) rfl ?_
  refine gj_iload_n dX10_thaw_0 rfl ?_
  refine gj_S1 lkX10_87 ev_X10_isCell dX10_thaw_1 rfl rfl rfl rfl rfl ?_
  refine gj_if_eqb (tgt := 35) dX10_thaw_4 rfl (fun zq1 => ?_) (fun zq1 => ?_)
  · -- 4 taken
    refine gj_aload_n dX10_thaw_35 rfl ?_
    refine gj_V1 lkX10_69 (hc0 κ C) rfl rfl (ev_X10_bad I) dX10_thaw_36 rfl rfl rfl rfl rfl ?_
    exact gj_ir rfl dX10_thaw_39 rfl rfl rfl
  refine gj_iload_n dX10_thaw_7 rfl ?_
  refine gj_S1 lkX10_211 ev_X10_isBorne dX10_thaw_8 rfl rfl rfl rfl rfl ?_
  refine gj_if_eqb (tgt := 35) dX10_thaw_11 rfl (fun zq2 => ?_) (fun zq2 => ?_)
  · -- 11 taken
    refine gj_aload_n dX10_thaw_35 rfl ?_
    refine gj_V1 lkX10_69 (hc0 κ C) rfl rfl (ev_X10_bad I) dX10_thaw_36 rfl rfl rfl rfl rfl ?_
    exact gj_ir rfl dX10_thaw_39 rfl rfl rfl
  refine gj_iload_n dX10_thaw_14 rfl ?_
  refine gj_ic (w := 0) dX10_thaw_15 ?_
  refine gj_bp 8 dX10_thaw_16 (by decide) ?_
  refine gj_S1 lkX10_65 ev_X10_within dX10_thaw_18 rfl rfl rfl rfl rfl ?_
  refine gj_if_eqb (tgt := 35) dX10_thaw_21 rfl (fun zq3 => ?_) (fun zq3 => ?_)
  · -- 21 taken
    refine gj_aload_n dX10_thaw_35 rfl ?_
    refine gj_V1 lkX10_69 (hc0 κ C) rfl rfl (ev_X10_bad I) dX10_thaw_36 rfl rfl rfl rfl rfl ?_
    exact gj_ir rfl dX10_thaw_39 rfl rfl rfl
  refine gj_iload dX10_thaw_24 rfl ?_
  refine gj_ic (w := 0) dX10_thaw_26 ?_
  refine gj_bp 10 dX10_thaw_27 (by decide) ?_
  refine gj_S1 lkX10_65 ev_X10_within dX10_thaw_29 rfl rfl rfl rfl rfl ?_
  refine gj_if_neb (tgt := 40) dX10_thaw_32 rfl (fun zq4 => ?_) (fun zq4 => ?_)
  · -- 32 taken
    exact absurd ⟨of_decide_eq_true zq1, of_decide_eq_true zq2, of_decide_eq_true zq3, of_decide_eq_true zq4⟩ h0
  refine gj_aload_n dX10_thaw_35 rfl ?_
  refine gj_V1 lkX10_69 (hc0 κ C) rfl rfl (ev_X10_bad I) dX10_thaw_36 rfl rfl rfl rfl rfl ?_
  exact gj_ir rfl dX10_thaw_39 rfl rfl rfl
set_option maxHeartbeats 1000000 in
set_option maxRecDepth 10000 in
theorem ev_X10_winters_bad {E : mj_E} {κ : Nat → Bool} {C : Nat → Nat → Nat} (I : mj_CI κ C) {m s : Int32} (h0 : ¬ ((nI 0 ≤ s ∧ s ≤ nI 999999) ∧ (nI 0 ≤ m ∧ m ≤ nI 60))) : mj_Ev E iX10_winters [.ref 0, .int s, .int m] (hh κ C) (mj_R (some (.int (-2))) (hh κ (mj_u C 11 (mj_un (C 11) 0 ((C 11 0) + 1))))) := by
  have hl0 : C 20 0 ≤ 999 := I.1 0 (by decide) 0
  have hl7 : C 27 0 ≤ 7 := I.1 7 (by decide) 0
  have hl11 : C 31 0 ≤ 6 := I.1 11 (by decide) 0
  have hl13 : C 33 0 ≤ 6 := I.1 13 (by decide) 0
  have hl15 : C 35 0 ≤ 8 := I.1 15 (by decide) 0
  have hl7x : C 7 0 ≤ 150 := I.2.2.2.2.2.2.1
  refine mj_Ev.of (L0 := [some (.ref 0), some (.int s), some (.int m), none, none, none, none, none, none]) pnRX10 (Nat.le_of_ble_eq_true rfl) rfl ?_
  refine gj_iload_n dX10_winters_0 rfl ?_
  refine gj_ic (w := 0) dX10_winters_1 ?_
  refine gj_ldcw (v := nI 999999) w_935 dX10_winters_2 ?_
  refine gj_S1 lkX10_65 ev_X10_within dX10_winters_5 rfl rfl rfl rfl rfl ?_
  refine gj_if_eqb (tgt := 21) dX10_winters_8 rfl (fun zq1 => ?_) (fun zq1 => ?_)
  · -- 8 taken
    refine gj_aload_n dX10_winters_21 rfl ?_
    refine gj_V1 lkX10_69 (hc0 κ C) rfl rfl (ev_X10_bad I) dX10_winters_22 rfl rfl rfl rfl rfl ?_
    exact gj_ir rfl dX10_winters_25 rfl rfl rfl
  refine gj_iload_n dX10_winters_11 rfl ?_
  refine gj_ic (w := 0) dX10_winters_12 ?_
  refine gj_bp 60 dX10_winters_13 (by decide) ?_
  refine gj_S1 lkX10_65 ev_X10_within dX10_winters_15 rfl rfl rfl rfl rfl ?_
  refine gj_if_neb (tgt := 26) dX10_winters_18 rfl (fun zq2 => ?_) (fun zq2 => ?_)
  · -- 18 taken
    exact absurd ⟨of_decide_eq_true zq1, of_decide_eq_true zq2⟩ h0
  refine gj_aload_n dX10_winters_21 rfl ?_
  refine gj_V1 lkX10_69 (hc0 κ C) rfl rfl (ev_X10_bad I) dX10_winters_22 rfl rfl rfl rfl rfl ?_
  exact gj_ir rfl dX10_winters_25 rfl rfl rfl
set_option maxHeartbeats 1000000 in
set_option maxRecDepth 10000 in
theorem ev_X10_part_bad {E : mj_E} {κ : Nat → Bool} {C : Nat → Nat → Nat} (I : mj_CI κ C) {q : Int32} (h0 : ¬ ((nI 0 ≤ q ∧ q ≤ nI 1))) : mj_Ev E iX10_part [.ref 0, .int q] (hh κ C) (mj_R (some (.long ((-2).toInt64))) (hh κ (mj_u C 11 (mj_un (C 11) 0 ((C 11 0) + 1))))) := by
  have hl0 : C 20 0 ≤ 999 := I.1 0 (by decide) 0
  have hl7 : C 27 0 ≤ 7 := I.1 7 (by decide) 0
  have hl11 : C 31 0 ≤ 6 := I.1 11 (by decide) 0
  have hl13 : C 33 0 ≤ 6 := I.1 13 (by decide) 0
  have hl15 : C 35 0 ≤ 8 := I.1 15 (by decide) 0
  have hl7x : C 7 0 ≤ 150 := I.2.2.2.2.2.2.1
  refine mj_Ev.of (L0 := [some (.ref 0), some (.int q)]) pnRX10 (Nat.le_of_ble_eq_true rfl) rfl ?_
  refine gj_iload_n dX10_part_0 rfl ?_
  refine gj_ic (w := 0) dX10_part_1 ?_
  refine gj_ic (w := 1) dX10_part_2 ?_
  refine gj_S1 lkX10_65 ev_X10_within dX10_part_3 rfl rfl rfl rfl rfl ?_
  refine gj_if_neb (tgt := 15) dX10_part_6 rfl (fun zq1 => ?_) (fun zq1 => ?_)
  · -- 6 taken
    exact absurd (of_decide_eq_true zq1) h0
  refine gj_aload_n dX10_part_9 rfl ?_
  refine gj_V1 lkX10_69 (hc0 κ C) rfl rfl (ev_X10_bad I) dX10_part_10 rfl rfl rfl rfl rfl ?_
  refine gj_i2l (v := (-2).toInt64) dX10_part_13 rfl ?_
  exact gj_lr rfl dX10_part_14 rfl rfl rfl
set_option maxHeartbeats 1000000 in
set_option maxRecDepth 10000 in
theorem ev_X10_image_bad {E : mj_E} {κ : Nat → Bool} {C : Nat → Nat → Nat} (I : mj_CI κ C) {i : Int32} (h0 : ¬ ((nI 0 ≤ i ∧ i ≤ nI 1))) : mj_Ev E iX10_image [.ref 0, .int i] (hh κ C) (mj_R (some (.int (-2))) (hh κ (mj_u C 11 (mj_un (C 11) 0 ((C 11 0) + 1))))) := by
  have hl0 : C 20 0 ≤ 999 := I.1 0 (by decide) 0
  have hl7 : C 27 0 ≤ 7 := I.1 7 (by decide) 0
  have hl11 : C 31 0 ≤ 6 := I.1 11 (by decide) 0
  have hl13 : C 33 0 ≤ 6 := I.1 13 (by decide) 0
  have hl15 : C 35 0 ≤ 8 := I.1 15 (by decide) 0
  have hl7x : C 7 0 ≤ 150 := I.2.2.2.2.2.2.1
  refine mj_Ev.of (L0 := [some (.ref 0), some (.int i), none]) pnRX10 (Nat.le_of_ble_eq_true rfl) rfl ?_
  refine gj_iload_n dX10_image_0 rfl ?_
  refine gj_ic (w := 0) dX10_image_1 ?_
  refine gj_ic (w := 1) dX10_image_2 ?_
  refine gj_S1 lkX10_65 ev_X10_within dX10_image_3 rfl rfl rfl rfl rfl ?_
  refine gj_if_neb (tgt := 14) dX10_image_6 rfl (fun zq1 => ?_) (fun zq1 => ?_)
  · -- 6 taken
    exact absurd (of_decide_eq_true zq1) h0
  refine gj_aload_n dX10_image_9 rfl ?_
  refine gj_V1 lkX10_69 (hc0 κ C) rfl rfl (ev_X10_bad I) dX10_image_10 rfl rfl rfl rfl rfl ?_
  exact gj_iret (i := iX10_image) rfl dX10_image_13 ⟨Nat.le_of_ble_eq_true rfl, Nat.le_of_ble_eq_true rfl⟩ ⟨rfl, rfl⟩
set_option maxHeartbeats 1000000 in
set_option maxRecDepth 10000 in
theorem ev_X10_from_bad {E : mj_E} {κ : Nat → Bool} {C : Nat → Nat → Nat} (I : mj_CI κ C) {i : Int32} (h0 : ¬ ((nI 0 ≤ i ∧ i ≤ nI 1))) : mj_Ev E iX10_from [.ref 0, .int i] (hh κ C) (mj_R (some (.int (-2))) (hh κ (mj_u C 11 (mj_un (C 11) 0 ((C 11 0) + 1))))) := by
  have hl0 : C 20 0 ≤ 999 := I.1 0 (by decide) 0
  have hl7 : C 27 0 ≤ 7 := I.1 7 (by decide) 0
  have hl11 : C 31 0 ≤ 6 := I.1 11 (by decide) 0
  have hl13 : C 33 0 ≤ 6 := I.1 13 (by decide) 0
  have hl15 : C 35 0 ≤ 8 := I.1 15 (by decide) 0
  have hl7x : C 7 0 ≤ 150 := I.2.2.2.2.2.2.1
  refine mj_Ev.of (L0 := [some (.ref 0), some (.int i), none]) pnRX10 (Nat.le_of_ble_eq_true rfl) rfl ?_
  refine gj_iload_n dX10_from_0 rfl ?_
  refine gj_ic (w := 0) dX10_from_1 ?_
  refine gj_ic (w := 1) dX10_from_2 ?_
  refine gj_S1 lkX10_65 ev_X10_within dX10_from_3 rfl rfl rfl rfl rfl ?_
  refine gj_if_neb (tgt := 14) dX10_from_6 rfl (fun zq1 => ?_) (fun zq1 => ?_)
  · -- 6 taken
    exact absurd (of_decide_eq_true zq1) h0
  refine gj_aload_n dX10_from_9 rfl ?_
  refine gj_V1 lkX10_69 (hc0 κ C) rfl rfl (ev_X10_bad I) dX10_from_10 rfl rfl rfl rfl rfl ?_
  exact gj_ir rfl dX10_from_13 rfl rfl rfl
set_option maxHeartbeats 1000000 in
set_option maxRecDepth 10000 in
theorem ev_X10_status_bad {E : mj_E} {κ : Nat → Bool} {C : Nat → Nat → Nat} (I : mj_CI κ C) {q : Int32} (h0 : ¬ ((nI 0 ≤ q ∧ q ≤ nI 2))) : mj_Ev E iX10_status [.ref 0, .int q] (hh κ C) (mj_R (some (.int (-1))) (hh κ (mj_u C 11 (mj_un (C 11) 0 ((C 11 0) + 1))))) := by
  have hl0 : C 20 0 ≤ 999 := I.1 0 (by decide) 0
  have hl7 : C 27 0 ≤ 7 := I.1 7 (by decide) 0
  have hl11 : C 31 0 ≤ 6 := I.1 11 (by decide) 0
  have hl13 : C 33 0 ≤ 6 := I.1 13 (by decide) 0
  have hl15 : C 35 0 ≤ 8 := I.1 15 (by decide) 0
  have hl7x : C 7 0 ≤ 150 := I.2.2.2.2.2.2.1
  refine mj_Ev.of (L0 := [some (.ref 0), some (.int q)]) pnRX10 (Nat.le_of_ble_eq_true rfl) rfl ?_
  refine gj_iload_n dX10_status_0 rfl ?_
  refine gj_ic (w := 0) dX10_status_1 ?_
  refine gj_ic (w := 2) dX10_status_2 ?_
  refine gj_S1 lkX10_65 ev_X10_within dX10_status_3 rfl rfl rfl rfl rfl ?_
  refine gj_if_neb (tgt := 16) dX10_status_6 rfl (fun zq1 => ?_) (fun zq1 => ?_)
  · -- 6 taken
    exact absurd (of_decide_eq_true zq1) h0
  refine gj_aload_n dX10_status_9 rfl ?_
  refine gj_V1 lkX10_69 (hc0 κ C) rfl rfl (ev_X10_bad I) dX10_status_10 rfl rfl rfl rfl rfl ?_
  refine gj_pop dX10_status_13 rfl ?_
  refine gj_iconst (v := (-1)) dX10_status_14 (by decide) ?_
  exact gj_ir rfl dX10_status_15 rfl rfl rfl
set_option maxHeartbeats 1000000 in
set_option maxRecDepth 10000 in
theorem ev_X10_count_bad {E : mj_E} {κ : Nat → Bool} {C : Nat → Nat → Nat} (I : mj_CI κ C) {q : Int32} (h0 : ¬ ((nI 0 ≤ q ∧ q ≤ nI 6))) : mj_Ev E iX10_count [.ref 0, .int q] (hh κ C) (mj_R (some (.int (-2))) (hh κ (mj_u C 11 (mj_un (C 11) 0 ((C 11 0) + 1))))) := by
  have hl0 : C 20 0 ≤ 999 := I.1 0 (by decide) 0
  have hl7 : C 27 0 ≤ 7 := I.1 7 (by decide) 0
  have hl11 : C 31 0 ≤ 6 := I.1 11 (by decide) 0
  have hl13 : C 33 0 ≤ 6 := I.1 13 (by decide) 0
  have hl15 : C 35 0 ≤ 8 := I.1 15 (by decide) 0
  have hl7x : C 7 0 ≤ 150 := I.2.2.2.2.2.2.1
  refine mj_Ev.of (L0 := [some (.ref 0), some (.int q)]) pnRX10 (Nat.le_of_ble_eq_true rfl) rfl ?_
  refine gj_iload_n dX10_count_0 rfl ?_
  refine gj_ic (w := 0) dX10_count_1 ?_
  refine gj_bp 6 dX10_count_2 (by decide) ?_
  refine gj_S1 lkX10_65 ev_X10_within dX10_count_4 rfl rfl rfl rfl rfl ?_
  refine gj_if_eqb (tgt := 18) dX10_count_7 rfl (fun zq1 => ?_) (fun zq1 => ?_)
  · -- 7 taken
    refine gj_aload_n dX10_count_18 rfl ?_
    refine gj_V1 lkX10_69 (hc0 κ C) rfl rfl (ev_X10_bad I) dX10_count_19 rfl rfl rfl rfl rfl ?_
    exact gj_ir rfl dX10_count_22 rfl rfl rfl
  exact absurd (of_decide_eq_true zq1) h0
