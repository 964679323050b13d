def mj_kp0 (κ : Nat → Bool) : Nat → Bool := fun j => if j = 0 then true else κ j
theorem mj_im_kp0 {κ : Nat → Bool} : va_up (mj_im κ) (nI 0).toNatClampNeg (some 60) = mj_im (mj_kp0 κ) := by
  rw [nI_clamp (by decide)]
  funext j
  unfold va_up mj_im mj_kp0
  by_cases g : j = 0
  · subst g; simp
  · by_cases g2 : j = 1
    · subst g2; simp
    · simp [g, g2]
theorem hh_kp0 {κ : Nat → Bool} {C : Nat → Nat → Nat} {x : va_E} : mj_up (mj_lay (mj_up (hh κ C) 60 x) 60 (fun _ _ => 0)) 15 (.inl (3, 2, .inr (.inr (.inr (.inr (va_up (mj_im κ) (nI 0).toNatClampNeg (some 60))))))) = hh (mj_kp0 κ) (mj_blk C 60 (fun _ _ => 0)) := by
  rw [mj_im_kp0]
  funext j
  by_cases g : j = 15
  · subst g; rw [mj_up_eq, hc15]
  rw [mj_up_ne g]
  by_cases g2 : 60 ≤ j ∧ j < 60 + 19
  · have h1 := mj_lk60 (κ := mj_kp0 κ) (C := mj_blk C 60 (fun _ _ => 0)) (if_pos rfl) (j - 60) (by omega)
    rw [show 60 + (j - 60) = j by omega] at h1
    rw [h1]
    show (if _ then _ else _) = _
    rw [if_pos g2]
    refine congrArg some (mj_lc_dep (by omega) ?_)
    unfold mj_blk
    rw [show 60 + (j - 60) = j by omega, if_pos g2]
  · rw [mj_lay_out g2, mj_up_ne (by omega), hh_dep (show mj_blk C 60 (fun _ _ => 0) j = C j from if_neg g2)]
    unfold hh
    by_cases q1 : j < 20
    · rw [if_pos q1, if_pos q1]
      rcases (by omega : j = 0 ∨ j = 1 ∨ j = 2 ∨ j = 3 ∨ j = 4 ∨ j = 5 ∨ j = 6 ∨ j = 7 ∨ j = 8 ∨ j = 9 ∨ j = 10 ∨ j = 11 ∨ j = 12 ∨ j = 13 ∨ j = 14 ∨ j = 16 ∨ j = 17 ∨ j = 18 ∨ j = 19) with rfl | rfl | rfl | rfl | rfl | rfl | rfl | rfl | rfl | rfl | rfl | rfl | rfl | rfl | rfl | rfl | rfl | rfl | rfl <;> rfl
    rw [if_neg q1, if_neg q1]
    by_cases q2 : j < 39
    · rw [if_pos q2, if_pos q2]
    rw [if_neg q2, if_neg q2]
    by_cases q3 : j < 40
    · rw [if_pos q3, if_pos q3]
    rw [if_neg q3, if_neg q3]
    by_cases q4 : j < 59
    · rw [if_pos q4, if_pos q4]
    rw [if_neg q4, if_neg q4]
    by_cases q5 : j < 60
    · rw [if_pos q5, if_pos q5]
    rw [if_neg q5, if_neg q5]
    by_cases q6 : j < 79
    · exfalso; omega
    rw [if_neg q6, if_neg q6]
    by_cases q7 : j < 80
    · rw [if_pos q7, if_pos q7]
    rw [if_neg q7, if_neg q7]
    by_cases q8 : j < 99
    · rw [if_pos q8, if_pos q8, show mj_kp0 κ 1 = κ 1 from if_neg (by decide)]
    rw [if_neg q8, if_neg q8]
theorem mj_blk_60 {C : Nat → Nat → Nat} : mj_blk (mj_blk C 60 (fun _ _ => 0)) 60 (mj_shf (mj_blk C 60 (fun _ _ => 0)) 60 20) = mj_blk C 60 (mj_shf C 60 20) := by
  funext j
  unfold mj_blk mj_shf
  by_cases g : 60 ≤ j ∧ j < 60 + 19
  · rw [if_pos g, if_pos g]; exact if_neg (by omega)
  · rw [if_neg g, if_neg g, if_neg g]
theorem hh_no60 {κ : Nat → Bool} {C : Nat → Nat → Nat} (hk : κ 0 = false) : ∀ o, o < 19 → hh κ C (60 + o) = none := fun o ho => by
  unfold hh
  rw [if_neg (by omega), if_neg (by omega), if_neg (by omega), if_neg (by omega), if_neg (by omega), if_pos (by omega), hk]; rfl
set_option maxHeartbeats 4000000 in
set_option maxRecDepth 10000 in
theorem ev_X10_image_new_0 {E : mj_E} {κ : Nat → Bool} {C : Nat → Nat → Nat} (I : mj_CI κ C) (h0 : κ 0 = false) : mj_Ev E iX10_image [.ref 0, .int (nI 0)] (hh κ C) (mj_R (some (.int (nI 1))) (hh (mj_kp0 κ) (mj_blk C 60 (mj_shf C 60 20)))) := by
  have hk := h0
  have hkp : mj_kp0 κ 0 = true := if_pos rfl
  refine mj_Ev.of (L0 := [some (.ref 0), some (.int (nI 0)), none]) pnRX10 (Nat.le_of_ble_eq_true rfl) rfl ?_
  refine gj_iload_n dX10_image_0 rfl ?_
  refine gj_ic (w := 0) dX10_image_1 ?_
  refine gj_ic (w := 1) dX10_image_2 ?_
  refine gj_S1 lkX10_65 (ev_X10_within_t (by omega) (by omega) (by omega)) dX10_image_3 rfl rfl rfl rfl rfl ?_
  refine gj_if_neN (tgt := 14) (by omega) dX10_image_6 rfl (fun zq0 => ?_) (fun zq0 => ?_)
  rotate_left
  · exfalso; revert zq0; decide
  refine gj_aload_n dX10_image_14 rfl ?_
  refine gfX10_19 rfl dX10_image_15 (hc0 κ C) rfl ?_
  refine gj_iload_n dX10_image_18 rfl ?_
  refine gj_aaldN dX10_image_19 (hc15 κ C) (vp_in_nI (by decide) (by decide)) (mj_im0n hk) ?_
  refine gj_astore_nN (L' := [some (.ref 0), some (.int (nI 0)), some (.null)]) dX10_image_20 (Nat.le_of_ble_eq_true rfl) rfl ?_
  refine gj_aload_nN dX10_image_21 rfl ?_
  refine gj_ifnonnullN dX10_image_22 ?_
  have hn := hh_no60 (C := C) hk
  refine gj_newN (ci := 0) (i := 60) (fs := [.null, .null, .null, .null, .null, .null, .null, .int (nI 0)]) inTX1 tyX1_ok w_100 w_101 w_73 rfl (by decide +kernel) rfl rfl dX10_image_25 (hn 0 (by decide)) (by omega) (mj_alC (mj_alS (hc0 κ C)) (mj_alC trivial (mj_alC trivial mj_alN))) mj_stN ?_
  refine gj_dup dX10_image_28 rfl ?_
  refine gj_IN0 lkX10_9 (ev_X1_init (b := 60) (mj_up_eq _ _ _) (by omega) (fun o h1 h2 => ((mj_up_ne (by omega)).trans (hn o h2)))) dX10_image_29 rfl rfl rfl (mj_alC (mj_alS ((mj_up_ne (by decide)).trans (hc0 κ C))) (mj_alC trivial (mj_alC trivial mj_alN))) (mj_stC (mj_alS (mj_up_eq _ _ _)) mj_stN) ?_
  refine gj_astore_n (L' := [some (.ref 0), some (.int (nI 0)), some (.ref 60)]) dX10_image_32 (Nat.le_of_ble_eq_true rfl) rfl ?_
  refine gj_aload_n dX10_image_33 rfl ?_
  refine gfX10_19 rfl dX10_image_34 ((mj_lay_out (by omega)).trans ((mj_up_ne (by decide)).trans (hc0 κ C))) rfl ?_
  refine gj_iload_n dX10_image_37 rfl ?_
  refine gj_aload_n dX10_image_38 rfl ?_
  refine gj_aast dX10_image_39 ((mj_lay_out (by omega)).trans ((mj_up_ne (by decide)).trans (hc15 κ C))) mj_lay_0 rfl (vp_in_nI (by decide) (by decide)) ?_
  refine gj_cast (h' := hh (mj_kp0 κ) (mj_blk C 60 (fun _ _ => 0))) rfl rfl hh_kp0 ?_
  refine gj_aload_n dX10_image_40 rfl ?_
  refine gj_aload_n dX10_image_41 rfl ?_
  refine gfX10_10 rfl dX10_image_42 (hc0 _ _) rfl ?_
  refine gj_V0 lkX10_148 (mj_lk60 hkp 0 (by decide)) rfl rfl (ev_X1_copy (mj_lk60 hkp) (fun o ho c => by unfold mj_blk; rw [if_pos (by omega)]; exact Nat.zero_le _) mj_lk20 (fun o ho c => by unfold mj_blk; rw [if_neg (by omega)]; exact I.1 o ho c) (by decide)) dX10_image_45 rfl rfl rfl rfl rfl ?_
  refine gj_ic (w := 1) dX10_image_48 ?_
  exact gj_iret (i := iX10_image) rfl dX10_image_49 ⟨Nat.le_of_ble_eq_true rfl, Nat.le_of_ble_eq_true rfl⟩ ⟨rfl, (hh_lay rfl (fun _ => mj_lk60 hkp)).trans (by rw [mj_blk_60])⟩
theorem st_image_new_0_t {E : mj_E} {κ : Nat → Bool} {C : Nat → Nat → Nat} (R : mj_Rel κ C) (h0 : κ 0 = false) : mj_St E mj_G mj_isI iX10_image iX11_image [.int (nI 0)] (hh κ C) :=
  ⟨_, ev_X10_image_new_0 R.1 h0, fun r1 h1 z => by
    obtain ⟨rfl, rfl⟩ := z
    refine ⟨⟨_, rfl⟩, ⟨_, _, rfl⟩, _, ev_X11_image_0 (E := E) (h := hh (mj_kp0 κ) (mj_blk C 60 (mj_shf C 60 20))) (hc100 _ _) (hc101 _ _) (hc102 _ _) (hc103 _ _), fun r3 h3 z => ?_⟩
    obtain ⟨rfl, rfl⟩ := z
    exact ⟨rfl, _, _, hu103 (hu102 rfl), rl_image R (i := 0) (κ' := mj_kp0 κ) (by decide) (if_pos rfl) (fun j _ hj => if_neg hj)⟩⟩
def mj_kp1 (κ : Nat → Bool) : Nat → Bool := fun j => if j = 1 then true else κ j
theorem mj_im_kp1 {κ : Nat → Bool} : va_up (mj_im κ) (nI 1).toNatClampNeg (some 80) = mj_im (mj_kp1 κ) := by
  rw [nI_clamp (by decide)]
  funext j
  unfold va_up mj_im mj_kp1
  by_cases g : j = 1
  · subst g; simp
  · by_cases g2 : j = 0
    · subst g2; simp
    · simp [g, g2]
theorem hh_kp1 {κ : Nat → Bool} {C : Nat → Nat → Nat} {x : va_E} : mj_up (mj_lay (mj_up (hh κ C) 80 x) 80 (fun _ _ => 0)) 15 (.inl (3, 2, .inr (.inr (.inr (.inr (va_up (mj_im κ) (nI 1).toNatClampNeg (some 80))))))) = hh (mj_kp1 κ) (mj_blk C 80 (fun _ _ => 0)) := by
  rw [mj_im_kp1]
  funext j
  by_cases g : j = 15
  · subst g; rw [mj_up_eq, hc15]
  rw [mj_up_ne g]
  by_cases g2 : 80 ≤ j ∧ j < 80 + 19
  · have h1 := mj_lk80 (κ := mj_kp1 κ) (C := mj_blk C 80 (fun _ _ => 0)) (if_pos rfl) (j - 80) (by omega)
    rw [show 80 + (j - 80) = j by omega] at h1
    rw [h1]
    show (if _ then _ else _) = _
    rw [if_pos g2]
    refine congrArg some (mj_lc_dep (by omega) ?_)
    unfold mj_blk
    rw [show 80 + (j - 80) = j by omega, if_pos g2]
  · rw [mj_lay_out g2, mj_up_ne (by omega), hh_dep (show mj_blk C 80 (fun _ _ => 0) j = C j from if_neg g2)]
    unfold hh
    by_cases q1 : j < 20
    · rw [if_pos q1, if_pos q1]
      rcases (by omega : j = 0 ∨ j = 1 ∨ j = 2 ∨ j = 3 ∨ j = 4 ∨ j = 5 ∨ j = 6 ∨ j = 7 ∨ j = 8 ∨ j = 9 ∨ j = 10 ∨ j = 11 ∨ j = 12 ∨ j = 13 ∨ j = 14 ∨ j = 16 ∨ j = 17 ∨ j = 18 ∨ j = 19) with rfl | rfl | rfl | rfl | rfl | rfl | rfl | rfl | rfl | rfl | rfl | rfl | rfl | rfl | rfl | rfl | rfl | rfl | rfl <;> rfl
    rw [if_neg q1, if_neg q1]
    by_cases q2 : j < 39
    · rw [if_pos q2, if_pos q2]
    rw [if_neg q2, if_neg q2]
    by_cases q3 : j < 40
    · rw [if_pos q3, if_pos q3]
    rw [if_neg q3, if_neg q3]
    by_cases q4 : j < 59
    · rw [if_pos q4, if_pos q4]
    rw [if_neg q4, if_neg q4]
    by_cases q5 : j < 60
    · rw [if_pos q5, if_pos q5]
    rw [if_neg q5, if_neg q5]
    by_cases q6 : j < 79
    · rw [if_pos q6, if_pos q6, show mj_kp1 κ 0 = κ 0 from if_neg (by decide)]
    rw [if_neg q6, if_neg q6]
    by_cases q7 : j < 80
    · rw [if_pos q7, if_pos q7]
    rw [if_neg q7, if_neg q7]
    by_cases q8 : j < 99
    · exfalso; omega
    rw [if_neg q8, if_neg q8]
theorem mj_blk_80 {C : Nat → Nat → Nat} : mj_blk (mj_blk C 80 (fun _ _ => 0)) 80 (mj_shf (mj_blk C 80 (fun _ _ => 0)) 80 20) = mj_blk C 80 (mj_shf C 80 20) := by
  funext j
  unfold mj_blk mj_shf
  by_cases g : 80 ≤ j ∧ j < 80 + 19
  · rw [if_pos g, if_pos g]; exact if_neg (by omega)
  · rw [if_neg g, if_neg g, if_neg g]
theorem hh_no80 {κ : Nat → Bool} {C : Nat → Nat → Nat} (hk : κ 1 = false) : ∀ o, o < 19 → hh κ C (80 + o) = none := fun o ho => by
  unfold hh
  rw [if_neg (by omega), if_neg (by omega), if_neg (by omega), if_neg (by omega), if_neg (by omega), if_neg (by omega), if_neg (by omega), if_pos (by omega), hk]; rfl
set_option maxHeartbeats 4000000 in
set_option maxRecDepth 10000 in
theorem ev_X10_image_new_1 {E : mj_E} {κ : Nat → Bool} {C : Nat → Nat → Nat} (I : mj_CI κ C) (h0 : κ 1 = false) : mj_Ev E iX10_image [.ref 0, .int (nI 1)] (hh κ C) (mj_R (some (.int (nI 1))) (hh (mj_kp1 κ) (mj_blk C 80 (mj_shf C 80 20)))) := by
  have hk := h0
  have hkp : mj_kp1 κ 1 = true := if_pos rfl
  refine mj_Ev.of (L0 := [some (.ref 0), some (.int (nI 1)), none]) pnRX10 (Nat.le_of_ble_eq_true rfl) rfl ?_
  refine gj_iload_n dX10_image_0 rfl ?_
  refine gj_ic (w := 0) dX10_image_1 ?_
  refine gj_ic (w := 1) dX10_image_2 ?_
  refine gj_S1 lkX10_65 (ev_X10_within_t (by omega) (by omega) (by omega)) dX10_image_3 rfl rfl rfl rfl rfl ?_
  refine gj_if_neN (tgt := 14) (by omega) dX10_image_6 rfl (fun zq0 => ?_) (fun zq0 => ?_)
  rotate_left
  · exfalso; revert zq0; decide
  refine gj_aload_n dX10_image_14 rfl ?_
  refine gfX10_19 rfl dX10_image_15 (hc0 κ C) rfl ?_
  refine gj_iload_n dX10_image_18 rfl ?_
  refine gj_aaldN dX10_image_19 (hc15 κ C) (vp_in_nI (by decide) (by decide)) (mj_im1n hk) ?_
  refine gj_astore_nN (L' := [some (.ref 0), some (.int (nI 1)), some (.null)]) dX10_image_20 (Nat.le_of_ble_eq_true rfl) rfl ?_
  refine gj_aload_nN dX10_image_21 rfl ?_
  refine gj_ifnonnullN dX10_image_22 ?_
  have hn := hh_no80 (C := C) hk
  refine gj_newN (ci := 0) (i := 80) (fs := [.null, .null, .null, .null, .null, .null, .null, .int (nI 0)]) inTX1 tyX1_ok w_100 w_101 w_73 rfl (by decide +kernel) rfl rfl dX10_image_25 (hn 0 (by decide)) (by omega) (mj_alC (mj_alS (hc0 κ C)) (mj_alC trivial (mj_alC trivial mj_alN))) mj_stN ?_
  refine gj_dup dX10_image_28 rfl ?_
  refine gj_IN0 lkX10_9 (ev_X1_init (b := 80) (mj_up_eq _ _ _) (by omega) (fun o h1 h2 => ((mj_up_ne (by omega)).trans (hn o h2)))) dX10_image_29 rfl rfl rfl (mj_alC (mj_alS ((mj_up_ne (by decide)).trans (hc0 κ C))) (mj_alC trivial (mj_alC trivial mj_alN))) (mj_stC (mj_alS (mj_up_eq _ _ _)) mj_stN) ?_
  refine gj_astore_n (L' := [some (.ref 0), some (.int (nI 1)), some (.ref 80)]) dX10_image_32 (Nat.le_of_ble_eq_true rfl) rfl ?_
  refine gj_aload_n dX10_image_33 rfl ?_
  refine gfX10_19 rfl dX10_image_34 ((mj_lay_out (by omega)).trans ((mj_up_ne (by decide)).trans (hc0 κ C))) rfl ?_
  refine gj_iload_n dX10_image_37 rfl ?_
  refine gj_aload_n dX10_image_38 rfl ?_
  refine gj_aast dX10_image_39 ((mj_lay_out (by omega)).trans ((mj_up_ne (by decide)).trans (hc15 κ C))) mj_lay_0 rfl (vp_in_nI (by decide) (by decide)) ?_
  refine gj_cast (h' := hh (mj_kp1 κ) (mj_blk C 80 (fun _ _ => 0))) rfl rfl hh_kp1 ?_
  refine gj_aload_n dX10_image_40 rfl ?_
  refine gj_aload_n dX10_image_41 rfl ?_
  refine gfX10_10 rfl dX10_image_42 (hc0 _ _) rfl ?_
  refine gj_V0 lkX10_148 (mj_lk80 hkp 0 (by decide)) rfl rfl (ev_X1_copy (mj_lk80 hkp) (fun o ho c => by unfold mj_blk; rw [if_pos (by omega)]; exact Nat.zero_le _) mj_lk20 (fun o ho c => by unfold mj_blk; rw [if_neg (by omega)]; exact I.1 o ho c) (by decide)) dX10_image_45 rfl rfl rfl rfl rfl ?_
  refine gj_ic (w := 1) dX10_image_48 ?_
  exact gj_iret (i := iX10_image) rfl dX10_image_49 ⟨Nat.le_of_ble_eq_true rfl, Nat.le_of_ble_eq_true rfl⟩ ⟨rfl, (hh_lay rfl (fun _ => mj_lk80 hkp)).trans (by rw [mj_blk_80])⟩
theorem st_image_new_1_t {E : mj_E} {κ : Nat → Bool} {C : Nat → Nat → Nat} (R : mj_Rel κ C) (h0 : κ 1 = false) : mj_St E mj_G mj_isI iX10_image iX11_image [.int (nI 1)] (hh κ C) :=
  ⟨_, ev_X10_image_new_1 R.1 h0, fun r1 h1 z => by
    obtain ⟨rfl, rfl⟩ := z
    refine ⟨⟨_, rfl⟩, ⟨_, _, rfl⟩, _, ev_X11_image_1 (E := E) (h := hh (mj_kp1 κ) (mj_blk C 80 (mj_shf C 80 20))) (hc100 _ _) (hc101 _ _) (hc102 _ _) (hc103 _ _), fun r3 h3 z => ?_⟩
    obtain ⟨rfl, rfl⟩ := z
    exact ⟨rfl, _, _, hu103 (hu102 rfl), rl_image R (i := 1) (κ' := mj_kp1 κ) (by decide) (if_pos rfl) (fun j _ hj => if_neg hj)⟩⟩
