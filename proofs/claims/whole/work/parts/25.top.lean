theorem mj_im0 {κ : Nat → Bool} (h : κ 0 = true) : mj_im κ (nI 0).toNatClampNeg = some 60 := by rw [nI_clamp (by decide)]; simp [mj_im, h]
theorem mj_im1 {κ : Nat → Bool} (h : κ 1 = true) : mj_im κ (nI 1).toNatClampNeg = some 80 := by rw [nI_clamp (by decide)]; simp [mj_im, h]
theorem mj_im0n {κ : Nat → Bool} (h : κ 0 = false) : mj_im κ (nI 0).toNatClampNeg = none := by rw [nI_clamp (by decide)]; simp [mj_im, h]
theorem mj_im1n {κ : Nat → Bool} (h : κ 1 = false) : mj_im κ (nI 1).toNatClampNeg = none := by rw [nI_clamp (by decide)]; simp [mj_im, h]
set_option maxHeartbeats 1000000 in
set_option maxRecDepth 10000 in
theorem ev_X10_from_0 {E : mj_E} {κ : Nat → Bool} {C : Nat → Nat → Nat} (I : mj_CI κ C) (h0 : κ 0 = true) : mj_Ev E iX10_from [.ref 0, .int (nI 0)] (hh κ C) (mj_R (some (.int (nI 1))) (hh κ (mj_blk C 20 (mj_shf C 20 60)))) := by
  have hl0 : C 20 0 ≤ 999 := I.1 0 (by decide) 0
  have hl7 : C 27 0 ≤ 7 := I.1 7 (by decide) 0
  have hl11 : C 31 0 ≤ 6 := I.1 11 (by decide) 0
  have hl13 : C 33 0 ≤ 6 := I.1 13 (by decide) 0
  have hl15 : C 35 0 ≤ 8 := I.1 15 (by decide) 0
  have hl7x : C 7 0 ≤ 150 := I.2.2.2.2.2.2.1
  have hk := h0
  refine mj_Ev.of (L0 := [some (.ref 0), some (.int (nI 0)), none]) pnRX10 (Nat.le_of_ble_eq_true rfl) rfl ?_
  refine gj_iload_n dX10_from_0 rfl ?_
  refine gj_ic (w := 0) dX10_from_1 ?_
  refine gj_ic (w := 1) dX10_from_2 ?_
  refine gj_S1 lkX10_65 (ev_X10_within_t (by omega) (by omega) (by omega)) dX10_from_3 rfl rfl rfl rfl rfl ?_
  refine gj_if_neN (tgt := 14) (by omega) dX10_from_6 rfl (fun zq0 => ?_) (fun zq0 => ?_)
  rotate_left
  · exfalso; revert zq0; decide
  refine gj_aload_n dX10_from_14 rfl ?_
  refine gfX10_19 rfl dX10_from_15 (hc0 κ C) rfl ?_
  refine gj_iload_n dX10_from_18 rfl ?_
  refine gj_aaldS (b := 60) dX10_from_19 (hc15 κ C) (vp_in_nI (by decide) (by decide)) (mj_im0 hk) ?_
  refine gj_astore_n (L' := [some (.ref 0), some (.int (nI 0)), some (.ref 60)]) dX10_from_20 (Nat.le_of_ble_eq_true rfl) rfl ?_
  refine gj_aload_n dX10_from_21 rfl ?_
  refine gj_ifnonnull (tgt := 30) dX10_from_22 rfl ?_
  refine gj_aload_n dX10_from_30 rfl ?_
  refine gfX10_10 rfl dX10_from_31 (hc0 κ C) rfl ?_
  refine gj_aload_n dX10_from_34 rfl ?_
  refine gj_V0 lkX10_148 (hc20 κ C) rfl rfl (ev_X1_copy mj_lk20 I.1 (mj_lk60 hk) (I.2.2.1 hk) (by decide)) dX10_from_35 rfl rfl rfl rfl rfl ?_
  refine gj_ic (w := 1) dX10_from_38 ?_
  exact gj_ir rfl dX10_from_39 rfl rfl (hh_lay rfl (fun _ => mj_lk20))
set_option maxHeartbeats 1000000 in
set_option maxRecDepth 10000 in
theorem ev_X10_image_0 {E : mj_E} {κ : Nat → Bool} {C : Nat → Nat → Nat} (I : mj_CI κ C) (h0 : κ 0 = true) : mj_Ev E iX10_image [.ref 0, .int (nI 0)] (hh κ C) (mj_R (some (.int (nI 1))) (hh κ (mj_blk C 60 (mj_shf C 60 20)))) := by
  have hl0 : C 20 0 ≤ 999 := I.1 0 (by decide) 0
  have hl7 : C 27 0 ≤ 7 := I.1 7 (by decide) 0
  have hl11 : C 31 0 ≤ 6 := I.1 11 (by decide) 0
  have hl13 : C 33 0 ≤ 6 := I.1 13 (by decide) 0
  have hl15 : C 35 0 ≤ 8 := I.1 15 (by decide) 0
  have hl7x : C 7 0 ≤ 150 := I.2.2.2.2.2.2.1
  have hk := h0
  refine mj_Ev.of (L0 := [some (.ref 0), some (.int (nI 0)), none]) pnRX10 (Nat.le_of_ble_eq_true rfl) rfl ?_
  refine gj_iload_n dX10_image_0 rfl ?_
  refine gj_ic (w := 0) dX10_image_1 ?_
  refine gj_ic (w := 1) dX10_image_2 ?_
  refine gj_S1 lkX10_65 (ev_X10_within_t (by omega) (by omega) (by omega)) dX10_image_3 rfl rfl rfl rfl rfl ?_
  refine gj_if_neN (tgt := 14) (by omega) dX10_image_6 rfl (fun zq0 => ?_) (fun zq0 => ?_)
  rotate_left
  · exfalso; revert zq0; decide
  refine gj_aload_n dX10_image_14 rfl ?_
  refine gfX10_19 rfl dX10_image_15 (hc0 κ C) rfl ?_
  refine gj_iload_n dX10_image_18 rfl ?_
  refine gj_aaldS (b := 60) dX10_image_19 (hc15 κ C) (vp_in_nI (by decide) (by decide)) (mj_im0 hk) ?_
  refine gj_astore_n (L' := [some (.ref 0), some (.int (nI 0)), some (.ref 60)]) dX10_image_20 (Nat.le_of_ble_eq_true rfl) rfl ?_
  refine gj_aload_n dX10_image_21 rfl ?_
  refine gj_ifnonnull (tgt := 40) dX10_image_22 rfl ?_
  refine gj_aload_n dX10_image_40 rfl ?_
  refine gj_aload_n dX10_image_41 rfl ?_
  refine gfX10_10 rfl dX10_image_42 (hc0 κ C) rfl ?_
  refine gj_V0 lkX10_148 (mj_lk60 hk 0 (by decide)) rfl rfl (ev_X1_copy (mj_lk60 hk) (I.2.2.1 hk) mj_lk20 I.1 (by decide)) dX10_image_45 rfl rfl rfl rfl rfl ?_
  refine gj_ic (w := 1) dX10_image_48 ?_
  exact gj_iret (i := iX10_image) rfl dX10_image_49 ⟨Nat.le_of_ble_eq_true rfl, Nat.le_of_ble_eq_true rfl⟩ ⟨rfl, (hh_lay rfl (fun _ => mj_lk60 hk))⟩
set_option maxHeartbeats 1000000 in
set_option maxRecDepth 10000 in
theorem ev_X10_from_no_0 {E : mj_E} {κ : Nat → Bool} {C : Nat → Nat → Nat} (I : mj_CI κ C) (h0 : κ 0 = false) : mj_Ev E iX10_from [.ref 0, .int (nI 0)] (hh κ C) (mj_R (some (.int (-3))) (hh κ (mj_u C 11 (mj_un (C 11) 1 ((C 11 1) + 1))))) := by
  have hl0 : C 20 0 ≤ 999 := I.1 0 (by decide) 0
  have hl7 : C 27 0 ≤ 7 := I.1 7 (by decide) 0
  have hl11 : C 31 0 ≤ 6 := I.1 11 (by decide) 0
  have hl13 : C 33 0 ≤ 6 := I.1 13 (by decide) 0
  have hl15 : C 35 0 ≤ 8 := I.1 15 (by decide) 0
  have hl7x : C 7 0 ≤ 150 := I.2.2.2.2.2.2.1
  have hk := h0
  refine mj_Ev.of (L0 := [some (.ref 0), some (.int (nI 0)), none]) pnRX10 (Nat.le_of_ble_eq_true rfl) rfl ?_
  refine gj_iload_n dX10_from_0 rfl ?_
  refine gj_ic (w := 0) dX10_from_1 ?_
  refine gj_ic (w := 1) dX10_from_2 ?_
  refine gj_S1 lkX10_65 (ev_X10_within_t (by omega) (by omega) (by omega)) dX10_from_3 rfl rfl rfl rfl rfl ?_
  refine gj_if_neN (tgt := 14) (by omega) dX10_from_6 rfl (fun zq0 => ?_) (fun zq0 => ?_)
  rotate_left
  · exfalso; revert zq0; decide
  refine gj_aload_n dX10_from_14 rfl ?_
  refine gfX10_19 rfl dX10_from_15 (hc0 κ C) rfl ?_
  refine gj_iload_n dX10_from_18 rfl ?_
  refine gj_aaldN dX10_from_19 (hc15 κ C) (vp_in_nI (by decide) (by decide)) (mj_im0n hk) ?_
  refine gj_astore_nN (L' := [some (.ref 0), some (.int (nI 0)), some (.null)]) dX10_from_20 (Nat.le_of_ble_eq_true rfl) rfl ?_
  refine gj_aload_nN dX10_from_21 rfl ?_
  refine gj_ifnonnullN dX10_from_22 ?_
  refine gj_aload_n dX10_from_25 rfl ?_
  refine gj_V1 lkX10_177 (hc0 κ C) rfl rfl (ev_X10_no I) dX10_from_26 rfl rfl rfl rfl rfl ?_
  exact gj_ir rfl dX10_from_29 rfl rfl rfl
set_option maxHeartbeats 1000000 in
set_option maxRecDepth 10000 in
theorem ev_X10_from_1 {E : mj_E} {κ : Nat → Bool} {C : Nat → Nat → Nat} (I : mj_CI κ C) (h0 : κ 1 = true) : mj_Ev E iX10_from [.ref 0, .int (nI 1)] (hh κ C) (mj_R (some (.int (nI 1))) (hh κ (mj_blk C 20 (mj_shf C 20 80)))) := by
  have hl0 : C 20 0 ≤ 999 := I.1 0 (by decide) 0
  have hl7 : C 27 0 ≤ 7 := I.1 7 (by decide) 0
  have hl11 : C 31 0 ≤ 6 := I.1 11 (by decide) 0
  have hl13 : C 33 0 ≤ 6 := I.1 13 (by decide) 0
  have hl15 : C 35 0 ≤ 8 := I.1 15 (by decide) 0
  have hl7x : C 7 0 ≤ 150 := I.2.2.2.2.2.2.1
  have hk := h0
  refine mj_Ev.of (L0 := [some (.ref 0), some (.int (nI 1)), none]) pnRX10 (Nat.le_of_ble_eq_true rfl) rfl ?_
  refine gj_iload_n dX10_from_0 rfl ?_
  refine gj_ic (w := 0) dX10_from_1 ?_
  refine gj_ic (w := 1) dX10_from_2 ?_
  refine gj_S1 lkX10_65 (ev_X10_within_t (by omega) (by omega) (by omega)) dX10_from_3 rfl rfl rfl rfl rfl ?_
  refine gj_if_neN (tgt := 14) (by omega) dX10_from_6 rfl (fun zq0 => ?_) (fun zq0 => ?_)
  rotate_left
  · exfalso; revert zq0; decide
  refine gj_aload_n dX10_from_14 rfl ?_
  refine gfX10_19 rfl dX10_from_15 (hc0 κ C) rfl ?_
  refine gj_iload_n dX10_from_18 rfl ?_
  refine gj_aaldS (b := 80) dX10_from_19 (hc15 κ C) (vp_in_nI (by decide) (by decide)) (mj_im1 hk) ?_
  refine gj_astore_n (L' := [some (.ref 0), some (.int (nI 1)), some (.ref 80)]) dX10_from_20 (Nat.le_of_ble_eq_true rfl) rfl ?_
  refine gj_aload_n dX10_from_21 rfl ?_
  refine gj_ifnonnull (tgt := 30) dX10_from_22 rfl ?_
  refine gj_aload_n dX10_from_30 rfl ?_
  refine gfX10_10 rfl dX10_from_31 (hc0 κ C) rfl ?_
  refine gj_aload_n dX10_from_34 rfl ?_
  refine gj_V0 lkX10_148 (hc20 κ C) rfl rfl (ev_X1_copy mj_lk20 I.1 (mj_lk80 hk) (I.2.2.2.1 hk) (by decide)) dX10_from_35 rfl rfl rfl rfl rfl ?_
  refine gj_ic (w := 1) dX10_from_38 ?_
  exact gj_ir rfl dX10_from_39 rfl rfl (hh_lay rfl (fun _ => mj_lk20))
set_option maxHeartbeats 1000000 in
set_option maxRecDepth 10000 in
theorem ev_X10_image_1 {E : mj_E} {κ : Nat → Bool} {C : Nat → Nat → Nat} (I : mj_CI κ C) (h0 : κ 1 = true) : mj_Ev E iX10_image [.ref 0, .int (nI 1)] (hh κ C) (mj_R (some (.int (nI 1))) (hh κ (mj_blk C 80 (mj_shf C 80 20)))) := by
  have hl0 : C 20 0 ≤ 999 := I.1 0 (by decide) 0
  have hl7 : C 27 0 ≤ 7 := I.1 7 (by decide) 0
  have hl11 : C 31 0 ≤ 6 := I.1 11 (by decide) 0
  have hl13 : C 33 0 ≤ 6 := I.1 13 (by decide) 0
  have hl15 : C 35 0 ≤ 8 := I.1 15 (by decide) 0
  have hl7x : C 7 0 ≤ 150 := I.2.2.2.2.2.2.1
  have hk := h0
  refine mj_Ev.of (L0 := [some (.ref 0), some (.int (nI 1)), none]) pnRX10 (Nat.le_of_ble_eq_true rfl) rfl ?_
  refine gj_iload_n dX10_image_0 rfl ?_
  refine gj_ic (w := 0) dX10_image_1 ?_
  refine gj_ic (w := 1) dX10_image_2 ?_
  refine gj_S1 lkX10_65 (ev_X10_within_t (by omega) (by omega) (by omega)) dX10_image_3 rfl rfl rfl rfl rfl ?_
  refine gj_if_neN (tgt := 14) (by omega) dX10_image_6 rfl (fun zq0 => ?_) (fun zq0 => ?_)
  rotate_left
  · exfalso; revert zq0; decide
  refine gj_aload_n dX10_image_14 rfl ?_
  refine gfX10_19 rfl dX10_image_15 (hc0 κ C) rfl ?_
  refine gj_iload_n dX10_image_18 rfl ?_
  refine gj_aaldS (b := 80) dX10_image_19 (hc15 κ C) (vp_in_nI (by decide) (by decide)) (mj_im1 hk) ?_
  refine gj_astore_n (L' := [some (.ref 0), some (.int (nI 1)), some (.ref 80)]) dX10_image_20 (Nat.le_of_ble_eq_true rfl) rfl ?_
  refine gj_aload_n dX10_image_21 rfl ?_
  refine gj_ifnonnull (tgt := 40) dX10_image_22 rfl ?_
  refine gj_aload_n dX10_image_40 rfl ?_
  refine gj_aload_n dX10_image_41 rfl ?_
  refine gfX10_10 rfl dX10_image_42 (hc0 κ C) rfl ?_
  refine gj_V0 lkX10_148 (mj_lk80 hk 0 (by decide)) rfl rfl (ev_X1_copy (mj_lk80 hk) (I.2.2.2.1 hk) mj_lk20 I.1 (by decide)) dX10_image_45 rfl rfl rfl rfl rfl ?_
  refine gj_ic (w := 1) dX10_image_48 ?_
  exact gj_iret (i := iX10_image) rfl dX10_image_49 ⟨Nat.le_of_ble_eq_true rfl, Nat.le_of_ble_eq_true rfl⟩ ⟨rfl, (hh_lay rfl (fun _ => mj_lk80 hk))⟩
set_option maxHeartbeats 1000000 in
set_option maxRecDepth 10000 in
theorem ev_X10_from_no_1 {E : mj_E} {κ : Nat → Bool} {C : Nat → Nat → Nat} (I : mj_CI κ C) (h0 : κ 1 = false) : mj_Ev E iX10_from [.ref 0, .int (nI 1)] (hh κ C) (mj_R (some (.int (-3))) (hh κ (mj_u C 11 (mj_un (C 11) 1 ((C 11 1) + 1))))) := by
  have hl0 : C 20 0 ≤ 999 := I.1 0 (by decide) 0
  have hl7 : C 27 0 ≤ 7 := I.1 7 (by decide) 0
  have hl11 : C 31 0 ≤ 6 := I.1 11 (by decide) 0
  have hl13 : C 33 0 ≤ 6 := I.1 13 (by decide) 0
  have hl15 : C 35 0 ≤ 8 := I.1 15 (by decide) 0
  have hl7x : C 7 0 ≤ 150 := I.2.2.2.2.2.2.1
  have hk := h0
  refine mj_Ev.of (L0 := [some (.ref 0), some (.int (nI 1)), none]) pnRX10 (Nat.le_of_ble_eq_true rfl) rfl ?_
  refine gj_iload_n dX10_from_0 rfl ?_
  refine gj_ic (w := 0) dX10_from_1 ?_
  refine gj_ic (w := 1) dX10_from_2 ?_
  refine gj_S1 lkX10_65 (ev_X10_within_t (by omega) (by omega) (by omega)) dX10_from_3 rfl rfl rfl rfl rfl ?_
  refine gj_if_neN (tgt := 14) (by omega) dX10_from_6 rfl (fun zq0 => ?_) (fun zq0 => ?_)
  rotate_left
  · exfalso; revert zq0; decide
  refine gj_aload_n dX10_from_14 rfl ?_
  refine gfX10_19 rfl dX10_from_15 (hc0 κ C) rfl ?_
  refine gj_iload_n dX10_from_18 rfl ?_
  refine gj_aaldN dX10_from_19 (hc15 κ C) (vp_in_nI (by decide) (by decide)) (mj_im1n hk) ?_
  refine gj_astore_nN (L' := [some (.ref 0), some (.int (nI 1)), some (.null)]) dX10_from_20 (Nat.le_of_ble_eq_true rfl) rfl ?_
  refine gj_aload_nN dX10_from_21 rfl ?_
  refine gj_ifnonnullN dX10_from_22 ?_
  refine gj_aload_n dX10_from_25 rfl ?_
  refine gj_V1 lkX10_177 (hc0 κ C) rfl rfl (ev_X10_no I) dX10_from_26 rfl rfl rfl rfl rfl ?_
  exact gj_ir rfl dX10_from_29 rfl rfl rfl
theorem mj_m1 {i : Nat} (h : i < 2 ^ 31) : (-1 : Int32) ≤ nI i := by
  rw [Int32.le_iff_toInt_le, nI_toInt h]; show (-1 : Int) ≤ _; omega
theorem mj_m1n {i : Nat} (h : i < 2 ^ 31) : ¬ nI i = (-1 : Int32) := by
  rw [← Int32.toInt_inj, nI_toInt h]; show ¬ _ = (-1 : Int); omega
set_option maxHeartbeats 1000000 in
set_option maxRecDepth 10000 in
theorem ev_X10_path_none {E : mj_E} {κ : Nat → Bool} {C : Nat → Nat → Nat} (I : mj_CI κ C) {w a c : Nat} {i : Int32} (h0 : 1 ≤ w) (h1 : w ≤ 198) (h2 : a < 25) (h3 : c < 25) (h4 : sp_far (sp_open (C 22) (C 23) w) a c = 25) (h5 : (-1) ≤ i) : mj_Ev E iX10_path [.ref 0, .int (nI w), .int (nI a), .int (nI c), .int i] (hh κ C) (mj_R (some (.int (nI 4294967295))) (hh κ (mj_u C 5 (mj_mix (sp_ring (sp_open (C 22) (C 23) w) c) (C 5) (min (sp_far (sp_open (C 22) (C 23) w) a c + 1) 25))))) := by
  have hl0 : C 20 0 ≤ 999 := I.1 0 (by decide) 0
  have hl7 : C 27 0 ≤ 7 := I.1 7 (by decide) 0
  have hl11 : C 31 0 ≤ 6 := I.1 11 (by decide) 0
  have hl13 : C 33 0 ≤ 6 := I.1 13 (by decide) 0
  have hl15 : C 35 0 ≤ 8 := I.1 15 (by decide) 0
  have hl7x : C 7 0 ≤ 150 := I.2.2.2.2.2.2.1
  have hfar := h4
  refine mj_Ev.of (L0 := [some (.ref 0), some (.int (nI w)), some (.int (nI a)), some (.int (nI c)), some (.int i), none]) pnRX10 (Nat.le_of_ble_eq_true rfl) rfl ?_
  refine gj_iload_n dX10_path_0 rfl ?_
  refine gj_S1 lkX10_211 (ev_X10_isBorne_t (by omega) (by omega)) dX10_path_1 rfl rfl rfl rfl rfl ?_
  refine gj_if_eqN (tgt := 27) (by omega) dX10_path_4 rfl (fun zq0 => ?_) (fun zq0 => ?_)
  · exfalso; revert zq0; decide
  refine gj_iload_n dX10_path_7 rfl ?_
  refine gj_S1 lkX10_87 (ev_X10_isCell_t (by omega) (by omega)) dX10_path_8 rfl rfl rfl rfl rfl ?_
  refine gj_if_eqN (tgt := 27) (by omega) dX10_path_11 rfl (fun zq0 => ?_) (fun zq0 => ?_)
  · exfalso; revert zq0; decide
  refine gj_iload_n dX10_path_14 rfl ?_
  refine gj_S1 lkX10_87 (ev_X10_isCell_t (by omega) (by omega)) dX10_path_15 rfl rfl rfl rfl rfl ?_
  refine gj_if_eqN (tgt := 27) (by omega) dX10_path_18 rfl (fun zq0 => ?_) (fun zq0 => ?_)
  · exfalso; revert zq0; decide
  refine gj_iload dX10_path_21 rfl ?_
  refine gj_iconst (v := (-1)) dX10_path_23 (by decide) ?_
  refine gj_icmp_ge (tgt := 35) dX10_path_24 rfl (fun zq1 => ?_) (fun zq1 => ?_)
  rotate_left
  · exfalso; exact absurd h5 zq1
  refine gj_aload_n dX10_path_35 rfl ?_
  refine gfX10_33 rfl dX10_path_36 (hc0 κ C) rfl ?_
  refine gj_aload_n dX10_path_39 rfl ?_
  refine gfX10_10 rfl dX10_path_40 (hc0 κ C) rfl ?_
  refine gfX10_91 rfl dX10_path_43 (hc20 κ C) rfl ?_
  refine gj_iload_n dX10_path_46 rfl ?_
  refine gj_V1 lkX10_224 (hc21 κ C) rfl rfl (ev_X4_bearing ⟨(hc21 κ C), (hc22 κ C), (hc23 κ C), (by decide), (show ∀ c, C 22 c ≤ 5 from I.1 2 (by decide)), (show ∀ c, C 23 c ≤ 99 from I.1 3 (by decide))⟩ (by omega)) dX10_path_47 rfl rfl rfl rfl rfl ?_
  have hb2 := @sp_open_lt (C 22) (C 23) w
  refine gj_iload_n dX10_path_50 rfl ?_
  refine gj_iload_n dX10_path_51 rfl ?_
  refine gj_V1 lkX10_230 (hc4 κ C) rfl rfl (ev_X8_find_b (hc4 κ C) (hc5 κ C) (hc6 κ C) (by decide) (by omega) (by omega) (by omega) hfar) dX10_path_52 rfl rfl rfl rfl rfl ?_
  refine gj_istore (L' := [some (.ref 0), some (.int (nI w)), some (.int (nI a)), some (.int (nI c)), some (.int i), some (.int (nI 0))]) dX10_path_55 (Nat.le_of_ble_eq_true rfl) rfl ?_
  refine gj_iload dX10_path_57 rfl ?_
  refine gj_if_neN (tgt := 64) (by omega) dX10_path_59 rfl (fun zq0 => ?_) (fun zq0 => ?_)
  · exfalso; revert zq0; decide
  refine gj_iconst (v := (-1)) dX10_path_62 (by decide) ?_
  refine gj_top (y := nI 4294967295) (by decide) ?_
  exact gj_ir rfl dX10_path_63 rfl rfl (hu5 rfl)
set_option maxHeartbeats 1000000 in
set_option maxRecDepth 10000 in
theorem ev_X10_path_len {E : mj_E} {κ : Nat → Bool} {C : Nat → Nat → Nat} (I : mj_CI κ C) {w a c : Nat} (h0 : 1 ≤ w) (h1 : w ≤ 198) (h2 : a < 25) (h3 : c < 25) (h4 : sp_far (sp_open (C 22) (C 23) w) a c < 25) : mj_Ev E iX10_path [.ref 0, .int (nI w), .int (nI a), .int (nI c), .int (-1)] (hh κ C) (mj_R (some (.int (nI (sp_far (sp_open (C 22) (C 23) w) a c + 1)))) (hh κ (mj_u (mj_u C 5 (mj_mix (sp_ring (sp_open (C 22) (C 23) w) c) (C 5) (min (sp_far (sp_open (C 22) (C 23) w) a c + 1) 25))) 6 (mj_mix (sp_here (sp_open (C 22) (C 23) w) a c (sp_far (sp_open (C 22) (C 23) w) a c)) (C 6) (sp_far (sp_open (C 22) (C 23) w) a c + 1))))) := by
  have hl0 : C 20 0 ≤ 999 := I.1 0 (by decide) 0
  have hl7 : C 27 0 ≤ 7 := I.1 7 (by decide) 0
  have hl11 : C 31 0 ≤ 6 := I.1 11 (by decide) 0
  have hl13 : C 33 0 ≤ 6 := I.1 13 (by decide) 0
  have hl15 : C 35 0 ≤ 8 := I.1 15 (by decide) 0
  have hl7x : C 7 0 ≤ 150 := I.2.2.2.2.2.2.1
  have hfar := h4
  refine mj_Ev.of (L0 := [some (.ref 0), some (.int (nI w)), some (.int (nI a)), some (.int (nI c)), some (.int (-1)), none]) pnRX10 (Nat.le_of_ble_eq_true rfl) rfl ?_
  refine gj_iload_n dX10_path_0 rfl ?_
  refine gj_S1 lkX10_211 (ev_X10_isBorne_t (by omega) (by omega)) dX10_path_1 rfl rfl rfl rfl rfl ?_
  refine gj_if_eqN (tgt := 27) (by omega) dX10_path_4 rfl (fun zq0 => ?_) (fun zq0 => ?_)
  · exfalso; revert zq0; decide
  refine gj_iload_n dX10_path_7 rfl ?_
  refine gj_S1 lkX10_87 (ev_X10_isCell_t (by omega) (by omega)) dX10_path_8 rfl rfl rfl rfl rfl ?_
  refine gj_if_eqN (tgt := 27) (by omega) dX10_path_11 rfl (fun zq0 => ?_) (fun zq0 => ?_)
  · exfalso; revert zq0; decide
  refine gj_iload_n dX10_path_14 rfl ?_
  refine gj_S1 lkX10_87 (ev_X10_isCell_t (by omega) (by omega)) dX10_path_15 rfl rfl rfl rfl rfl ?_
  refine gj_if_eqN (tgt := 27) (by omega) dX10_path_18 rfl (fun zq0 => ?_) (fun zq0 => ?_)
  · exfalso; revert zq0; decide
  refine gj_iload dX10_path_21 rfl ?_
  refine gj_iconst (v := (-1)) dX10_path_23 (by decide) ?_
  refine gj_icmp_ge (tgt := 35) dX10_path_24 rfl (fun zq1 => ?_) (fun zq1 => ?_)
  rotate_left
  · exfalso; revert zq1; decide
  refine gj_aload_n dX10_path_35 rfl ?_
  refine gfX10_33 rfl dX10_path_36 (hc0 κ C) rfl ?_
  refine gj_aload_n dX10_path_39 rfl ?_
  refine gfX10_10 rfl dX10_path_40 (hc0 κ C) rfl ?_
  refine gfX10_91 rfl dX10_path_43 (hc20 κ C) rfl ?_
  refine gj_iload_n dX10_path_46 rfl ?_
  refine gj_V1 lkX10_224 (hc21 κ C) rfl rfl (ev_X4_bearing ⟨(hc21 κ C), (hc22 κ C), (hc23 κ C), (by decide), (show ∀ c, C 22 c ≤ 5 from I.1 2 (by decide)), (show ∀ c, C 23 c ≤ 99 from I.1 3 (by decide))⟩ (by omega)) dX10_path_47 rfl rfl rfl rfl rfl ?_
  have hb2 := @sp_open_lt (C 22) (C 23) w
  refine gj_iload_n dX10_path_50 rfl ?_
  refine gj_iload_n dX10_path_51 rfl ?_
  refine gj_V1 lkX10_230 (hc4 κ C) rfl rfl (ev_X8_find_a (hc4 κ C) (hc5 κ C) (hc6 κ C) (by decide) (by omega) (by omega) (by omega) hfar) dX10_path_52 rfl rfl rfl rfl rfl ?_
  refine gj_istore (L' := [some (.ref 0), some (.int (nI w)), some (.int (nI a)), some (.int (nI c)), some (.int (-1)), some (.int (nI (sp_far (sp_open (C 22) (C 23) w) a c + 1)))]) dX10_path_55 (Nat.le_of_ble_eq_true rfl) rfl ?_
  refine gj_iload dX10_path_57 rfl ?_
  refine gj_if_neN (tgt := 64) (by omega) dX10_path_59 rfl (fun zq3 => ?_) (fun zq3 => ?_)
  rotate_left
  · exfalso; omega
  refine gj_iload dX10_path_64 rfl ?_
  refine gj_iconst (v := (-1)) dX10_path_66 (by decide) ?_
  refine gj_icmp_ne (tgt := 73) dX10_path_67 rfl (fun zq4 => ?_) (fun zq4 => ?_)
  · exfalso; exact zq4 rfl
  refine gj_iload dX10_path_70 rfl ?_
  exact gj_ir rfl dX10_path_72 rfl rfl (hu6 (hu5 rfl))
set_option maxHeartbeats 1000000 in
set_option maxRecDepth 10000 in
theorem ev_X10_path_step {E : mj_E} {κ : Nat → Bool} {C : Nat → Nat → Nat} (I : mj_CI κ C) {w a c i : Nat} (h0 : 1 ≤ w) (h1 : w ≤ 198) (h2 : a < 25) (h3 : c < 25) (h4 : sp_far (sp_open (C 22) (C 23) w) a c < 25) (h5 : i < sp_far (sp_open (C 22) (C 23) w) a c + 1) : mj_Ev E iX10_path [.ref 0, .int (nI w), .int (nI a), .int (nI c), .int (nI i)] (hh κ C) (mj_R (some (.int (nI (sp_here (sp_open (C 22) (C 23) w) a c (sp_far (sp_open (C 22) (C 23) w) a c) i)))) (hh κ (mj_u (mj_u C 5 (mj_mix (sp_ring (sp_open (C 22) (C 23) w) c) (C 5) (min (sp_far (sp_open (C 22) (C 23) w) a c + 1) 25))) 6 (mj_mix (sp_here (sp_open (C 22) (C 23) w) a c (sp_far (sp_open (C 22) (C 23) w) a c)) (C 6) (sp_far (sp_open (C 22) (C 23) w) a c + 1))))) := by
  have hl0 : C 20 0 ≤ 999 := I.1 0 (by decide) 0
  have hl7 : C 27 0 ≤ 7 := I.1 7 (by decide) 0
  have hl11 : C 31 0 ≤ 6 := I.1 11 (by decide) 0
  have hl13 : C 33 0 ≤ 6 := I.1 13 (by decide) 0
  have hl15 : C 35 0 ≤ 8 := I.1 15 (by decide) 0
  have hl7x : C 7 0 ≤ 150 := I.2.2.2.2.2.2.1
  have hfar := h4
  have hfl := @sp_far_le (sp_open (C 22) (C 23) w) a c
  have hi31 : i < 2 ^ 31 := by omega
  refine mj_Ev.of (L0 := [some (.ref 0), some (.int (nI w)), some (.int (nI a)), some (.int (nI c)), some (.int (nI i)), none]) pnRX10 (Nat.le_of_ble_eq_true rfl) rfl ?_
  refine gj_iload_n dX10_path_0 rfl ?_
  refine gj_S1 lkX10_211 (ev_X10_isBorne_t (by omega) (by omega)) dX10_path_1 rfl rfl rfl rfl rfl ?_
  refine gj_if_eqN (tgt := 27) (by omega) dX10_path_4 rfl (fun zq0 => ?_) (fun zq0 => ?_)
  · exfalso; revert zq0; decide
  refine gj_iload_n dX10_path_7 rfl ?_
  refine gj_S1 lkX10_87 (ev_X10_isCell_t (by omega) (by omega)) dX10_path_8 rfl rfl rfl rfl rfl ?_
  refine gj_if_eqN (tgt := 27) (by omega) dX10_path_11 rfl (fun zq0 => ?_) (fun zq0 => ?_)
  · exfalso; revert zq0; decide
  refine gj_iload_n dX10_path_14 rfl ?_
  refine gj_S1 lkX10_87 (ev_X10_isCell_t (by omega) (by omega)) dX10_path_15 rfl rfl rfl rfl rfl ?_
  refine gj_if_eqN (tgt := 27) (by omega) dX10_path_18 rfl (fun zq0 => ?_) (fun zq0 => ?_)
  · exfalso; revert zq0; decide
  refine gj_iload dX10_path_21 rfl ?_
  refine gj_iconst (v := (-1)) dX10_path_23 (by decide) ?_
  refine gj_icmp_ge (tgt := 35) dX10_path_24 rfl (fun zq1 => ?_) (fun zq1 => ?_)
  rotate_left
  · exfalso; exact absurd (mj_m1 hi31) zq1
  refine gj_aload_n dX10_path_35 rfl ?_
  refine gfX10_33 rfl dX10_path_36 (hc0 κ C) rfl ?_
  refine gj_aload_n dX10_path_39 rfl ?_
  refine gfX10_10 rfl dX10_path_40 (hc0 κ C) rfl ?_
  refine gfX10_91 rfl dX10_path_43 (hc20 κ C) rfl ?_
  refine gj_iload_n dX10_path_46 rfl ?_
  refine gj_V1 lkX10_224 (hc21 κ C) rfl rfl (ev_X4_bearing ⟨(hc21 κ C), (hc22 κ C), (hc23 κ C), (by decide), (show ∀ c, C 22 c ≤ 5 from I.1 2 (by decide)), (show ∀ c, C 23 c ≤ 99 from I.1 3 (by decide))⟩ (by omega)) dX10_path_47 rfl rfl rfl rfl rfl ?_
  have hb2 := @sp_open_lt (C 22) (C 23) w
  refine gj_iload_n dX10_path_50 rfl ?_
  refine gj_iload_n dX10_path_51 rfl ?_
  refine gj_V1 lkX10_230 (hc4 κ C) rfl rfl (ev_X8_find_a (hc4 κ C) (hc5 κ C) (hc6 κ C) (by decide) (by omega) (by omega) (by omega) hfar) dX10_path_52 rfl rfl rfl rfl rfl ?_
  refine gj_istore (L' := [some (.ref 0), some (.int (nI w)), some (.int (nI a)), some (.int (nI c)), some (.int (nI i)), some (.int (nI (sp_far (sp_open (C 22) (C 23) w) a c + 1)))]) dX10_path_55 (Nat.le_of_ble_eq_true rfl) rfl ?_
  refine gj_iload dX10_path_57 rfl ?_
  refine gj_if_neN (tgt := 64) (by omega) dX10_path_59 rfl (fun zq3 => ?_) (fun zq3 => ?_)
  rotate_left
  · exfalso; omega
  refine gj_iload dX10_path_64 rfl ?_
  refine gj_iconst (v := (-1)) dX10_path_66 (by decide) ?_
  refine gj_icmp_ne (tgt := 73) dX10_path_67 rfl (fun zq4 => ?_) (fun zq4 => ?_)
  rotate_left
  · exfalso; exact absurd zq4 (mj_m1n hi31)
  refine gj_iload dX10_path_73 rfl ?_
  refine gj_iload dX10_path_75 rfl ?_
  refine gj_icmp_geN (tgt := 92) (by omega) (by omega) dX10_path_77 rfl (fun zq5 => ?_) (fun zq5 => ?_)
  · exfalso; omega
  refine gj_aload_n dX10_path_80 rfl ?_
  refine gfX10_33 rfl dX10_path_81 ((mj_up_ne (by decide)).trans ((mj_up_ne (by decide)).trans (hc0 κ C))) rfl ?_
  refine gj_iload dX10_path_84 rfl ?_
  refine gj_V1 lkX10_233 ((mj_up_ne (by decide)).trans ((mj_up_ne (by decide)).trans (hc4 κ C))) rfl rfl (ev_X8_step ((mj_up_ne (by decide)).trans ((mj_up_ne (by decide)).trans (hc4 κ C))) ((mj_up_ne (by decide)).trans (mj_up_eq _ _ _)) (mj_up_eq _ _ _) (by decide) (by omega)) dX10_path_86 rfl rfl rfl rfl rfl ?_
  refine gj_goto (tgt := 94) dX10_path_89 rfl ?_
  exact gj_ir rfl dX10_path_94 rfl (congrArg nI (by exact mj_mix_lt (by omega))) (hu6 (hu5 rfl))
set_option maxHeartbeats 1000000 in
set_option maxRecDepth 10000 in
theorem ev_X10_path_few {E : mj_E} {κ : Nat → Bool} {C : Nat → Nat → Nat} (I : mj_CI κ C) {w a c i : Nat} (h0 : 1 ≤ w) (h1 : w ≤ 198) (h2 : a < 25) (h3 : c < 25) (h4 : sp_far (sp_open (C 22) (C 23) w) a c < 25) (h5 : sp_far (sp_open (C 22) (C 23) w) a c + 1 ≤ i) (h6 : i < 2 ^ 31) : mj_Ev E iX10_path [.ref 0, .int (nI w), .int (nI a), .int (nI c), .int (nI i)] (hh κ C) (mj_R (some (.int (-5))) (hh κ (mj_u (mj_u C 5 (mj_mix (sp_ring (sp_open (C 22) (C 23) w) c) (C 5) (min (sp_far (sp_open (C 22) (C 23) w) a c + 1) 25))) 6 (mj_mix (sp_here (sp_open (C 22) (C 23) w) a c (sp_far (sp_open (C 22) (C 23) w) a c)) (C 6) (sp_far (sp_open (C 22) (C 23) w) a c + 1))))) := by
  have hl0 : C 20 0 ≤ 999 := I.1 0 (by decide) 0
  have hl7 : C 27 0 ≤ 7 := I.1 7 (by decide) 0
  have hl11 : C 31 0 ≤ 6 := I.1 11 (by decide) 0
  have hl13 : C 33 0 ≤ 6 := I.1 13 (by decide) 0
  have hl15 : C 35 0 ≤ 8 := I.1 15 (by decide) 0
  have hl7x : C 7 0 ≤ 150 := I.2.2.2.2.2.2.1
  have hfar := h4
  have hfl := @sp_far_le (sp_open (C 22) (C 23) w) a c
  have hi31 : i < 2 ^ 31 := by omega
  refine mj_Ev.of (L0 := [some (.ref 0), some (.int (nI w)), some (.int (nI a)), some (.int (nI c)), some (.int (nI i)), none]) pnRX10 (Nat.le_of_ble_eq_true rfl) rfl ?_
  refine gj_iload_n dX10_path_0 rfl ?_
  refine gj_S1 lkX10_211 (ev_X10_isBorne_t (by omega) (by omega)) dX10_path_1 rfl rfl rfl rfl rfl ?_
  refine gj_if_eqN (tgt := 27) (by omega) dX10_path_4 rfl (fun zq0 => ?_) (fun zq0 => ?_)
  · exfalso; revert zq0; decide
  refine gj_iload_n dX10_path_7 rfl ?_
  refine gj_S1 lkX10_87 (ev_X10_isCell_t (by omega) (by omega)) dX10_path_8 rfl rfl rfl rfl rfl ?_
  refine gj_if_eqN (tgt := 27) (by omega) dX10_path_11 rfl (fun zq0 => ?_) (fun zq0 => ?_)
  · exfalso; revert zq0; decide
  refine gj_iload_n dX10_path_14 rfl ?_
  refine gj_S1 lkX10_87 (ev_X10_isCell_t (by omega) (by omega)) dX10_path_15 rfl rfl rfl rfl rfl ?_
  refine gj_if_eqN (tgt := 27) (by omega) dX10_path_18 rfl (fun zq0 => ?_) (fun zq0 => ?_)
  · exfalso; revert zq0; decide
  refine gj_iload dX10_path_21 rfl ?_
  refine gj_iconst (v := (-1)) dX10_path_23 (by decide) ?_
  refine gj_icmp_ge (tgt := 35) dX10_path_24 rfl (fun zq1 => ?_) (fun zq1 => ?_)
  rotate_left
  · exfalso; exact absurd (mj_m1 hi31) zq1
  refine gj_aload_n dX10_path_35 rfl ?_
  refine gfX10_33 rfl dX10_path_36 (hc0 κ C) rfl ?_
  refine gj_aload_n dX10_path_39 rfl ?_
  refine gfX10_10 rfl dX10_path_40 (hc0 κ C) rfl ?_
  refine gfX10_91 rfl dX10_path_43 (hc20 κ C) rfl ?_
  refine gj_iload_n dX10_path_46 rfl ?_
  refine gj_V1 lkX10_224 (hc21 κ C) rfl rfl (ev_X4_bearing ⟨(hc21 κ C), (hc22 κ C), (hc23 κ C), (by decide), (show ∀ c, C 22 c ≤ 5 from I.1 2 (by decide)), (show ∀ c, C 23 c ≤ 99 from I.1 3 (by decide))⟩ (by omega)) dX10_path_47 rfl rfl rfl rfl rfl ?_
  have hb2 := @sp_open_lt (C 22) (C 23) w
  refine gj_iload_n dX10_path_50 rfl ?_
  refine gj_iload_n dX10_path_51 rfl ?_
  refine gj_V1 lkX10_230 (hc4 κ C) rfl rfl (ev_X8_find_a (hc4 κ C) (hc5 κ C) (hc6 κ C) (by decide) (by omega) (by omega) (by omega) hfar) dX10_path_52 rfl rfl rfl rfl rfl ?_
  refine gj_istore (L' := [some (.ref 0), some (.int (nI w)), some (.int (nI a)), some (.int (nI c)), some (.int (nI i)), some (.int (nI (sp_far (sp_open (C 22) (C 23) w) a c + 1)))]) dX10_path_55 (Nat.le_of_ble_eq_true rfl) rfl ?_
  refine gj_iload dX10_path_57 rfl ?_
  refine gj_if_neN (tgt := 64) (by omega) dX10_path_59 rfl (fun zq3 => ?_) (fun zq3 => ?_)
  rotate_left
  · exfalso; omega
  refine gj_iload dX10_path_64 rfl ?_
  refine gj_iconst (v := (-1)) dX10_path_66 (by decide) ?_
  refine gj_icmp_ne (tgt := 73) dX10_path_67 rfl (fun zq4 => ?_) (fun zq4 => ?_)
  rotate_left
  · exfalso; exact absurd zq4 (mj_m1n hi31)
  refine gj_iload dX10_path_73 rfl ?_
  refine gj_iload dX10_path_75 rfl ?_
  refine gj_icmp_geN (tgt := 92) (by omega) (by omega) dX10_path_77 rfl (fun zq5 => ?_) (fun zq5 => ?_)
  rotate_left
  · exfalso; omega
  refine gj_bipush (v := (-5)) dX10_path_92 (by decide) ?_
  exact gj_ir rfl dX10_path_94 rfl rfl (hu6 (hu5 rfl))
