/-- the cells of the way by the row F, from x -/
def sp_wlk (F : Nat → Nat) (x i : Nat) : Nat := mj_fo (fun _ y => sp_fst (sp_nxp F y) 25) x i
theorem sp_wlk_s {F : Nat → Nat} {x i : Nat} : sp_wlk F x (i + 1) = sp_fst (sp_nxp F (sp_wlk F x i)) 25 := mj_fo_s
theorem sp_wlk_ok {T J : Nat → Nat} {w o c x : Nat} (hx : x < 25) (h2 : sp_lay T J w o c x < 1000000) : ∀ i, i < sp_lay T J w o c x → sp_wlk (sp_lay T J w o c) x i < 25 ∧ sp_lay T J w o c (sp_wlk (sp_lay T J w o c) x i) = sp_lay T J w o c x - i := by
  intro i
  induction i with
  | zero => exact fun _ => ⟨hx, rfl⟩
  | succ i ih =>
    intro hi
    obtain ⟨h3, h4⟩ := ih (by omega)
    have hn := @sp_nxf T J w o c (sp_wlk (sp_lay T J w o c) x i) h3 (by omega) (by omega)
    rw [sp_wlk_s]
    refine ⟨hn, ?_⟩
    have ht := sp_fst_t hn
    unfold sp_nxp at ht
    have : sp_lay T J w o c (sp_fst (sp_nxp (sp_lay T J w o c) (sp_wlk (sp_lay T J w o c) x i)) 25) = sp_lay T J w o c (sp_wlk (sp_lay T J w o c) x i) - 1 := of_decide_eq_true (Bool.and_eq_true_iff.mp ht).2
    omega
set_option maxHeartbeats 1000000 in
set_option maxRecDepth 10000 in
theorem ev_X11_path_none {E : mj_E} {h : mj_H} {a0 a1 y2 y3 y4 y5 y6 : Nat} (H0 : h 100 = some (mj_mo a0 a1 y2 y3 y4 y5 y6)) {T : Nat → Nat} (HT : h 101 = some (mj_ar 362 T)) {J : Nat → Nat} (HJ : h 105 = some (mj_ar 25 J)) {F : Nat → Nat} (HF : h 106 = some (mj_ar 25 F)) (bT : mj_Tb T) {w a c : Nat} {i : Int32} (h0 : 1 ≤ w) (h1 : w ≤ 198) (h2 : a < 25) (h3 : c < 25) (h4 : 1000000 ≤ sp_lay T (fun q => T (4 + q)) w 0 c a) (h5 : (-1) ≤ i) : mj_Ev E iX11_path [.ref 100, .int (nI w), .int (nI a), .int (nI c), .int i] h (mj_R (some (.int (nI 4294967295))) (mj_up (mj_up h 105 (mj_ar 25 (fun q => T (4 + q)))) 106 (mj_ar 25 (sp_lay T (fun q => T (4 + q)) w 0 c)))) := by
  refine mj_Ev.of (L0 := [some (.ref 100), some (.int (nI w)), some (.int (nI a)), some (.int (nI c)), some (.int i), none, none]) pnRX11 (Nat.le_of_ble_eq_true rfl) rfl ?_
  have hl9 := @sp_lay_le T (fun q => T (4 + q)) w 0 c a
  refine gj_iload_n dX11_path_0 rfl ?_
  refine gj_S1 lkX11_155 (ev_X11_isBurden_t (by omega) (by omega)) dX11_path_1 rfl rfl rfl rfl rfl ?_
  refine gj_if_eqN (tgt := 27) (by omega) dX11_path_4 rfl (fun zq0 => ?_) (fun zq0 => ?_)
  · exfalso; revert zq0; decide
  refine gj_iload_n dX11_path_7 rfl ?_
  refine gj_S1 lkX11_70 (ev_X11_isCell_t (by omega) (by omega)) dX11_path_8 rfl rfl rfl rfl rfl ?_
  refine gj_if_eqN (tgt := 27) (by omega) dX11_path_11 rfl (fun zq0 => ?_) (fun zq0 => ?_)
  · exfalso; revert zq0; decide
  refine gj_iload_n dX11_path_14 rfl ?_
  refine gj_S1 lkX11_70 (ev_X11_isCell_t (by omega) (by omega)) dX11_path_15 rfl rfl rfl rfl rfl ?_
  refine gj_if_eqN (tgt := 27) (by omega) dX11_path_18 rfl (fun zq0 => ?_) (fun zq0 => ?_)
  · exfalso; revert zq0; decide
  refine gj_iload dX11_path_21 rfl ?_
  refine gj_iconst (v := (-1)) dX11_path_23 (by decide) ?_
  refine gj_icmp_ge (tgt := 34) dX11_path_24 rfl (fun zq1 => ?_) (fun zq1 => ?_)
  rotate_left
  · exfalso; exact absurd h5 zq1
  refine gj_aload_n dX11_path_34 rfl ?_
  refine gj_V0 lkX11_124 H0 rfl rfl (ev_X11_layIce H0 HT HJ bT) dX11_path_35 rfl rfl rfl rfl rfl ?_
  refine gj_aload_n dX11_path_38 rfl ?_
  refine gj_iload_n dX11_path_39 rfl ?_
  refine gj_iload_n dX11_path_40 rfl ?_
  refine gj_ic (w := 0) dX11_path_41 ?_
  refine gj_V0 lkX11_167 ((mj_up_ne (by decide)).trans H0) rfl rfl (ev_X11_layFar ((mj_up_ne (by decide)).trans H0) ((mj_up_ne (by decide)).trans HT) (mj_up_eq _ _ _) ((mj_up_ne (by decide)).trans HF) bT bT.2.2.2.2.2.1 (by omega) (by omega) (by omega)) dX11_path_42 rfl rfl rfl rfl rfl ?_
  refine gj_aload_n dX11_path_45 rfl ?_
  refine gfX11_30 rfl dX11_path_46 ((mj_up_ne (by decide)).trans ((mj_up_ne (by decide)).trans H0)) rfl ?_
  refine gj_iload_n dX11_path_49 rfl ?_
  refine gj_ialdN dX11_path_50 (mj_up_eq _ _ _) (by omega) (by omega) ?_
  refine gj_ldc (v := nI 1000000) w_1179 dX11_path_51 ?_
  refine gj_icmp_ltN (tgt := 58) (by omega) (by omega) dX11_path_53 rfl (fun zq2 => ?_) (fun zq2 => ?_)
  · exfalso; omega
  refine gj_iconst (v := (-1)) dX11_path_56 (by decide) ?_
  refine gj_top (y := nI 4294967295) (by decide) ?_
  exact gj_ir rfl dX11_path_57 rfl rfl rfl
set_option maxHeartbeats 1000000 in
set_option maxRecDepth 10000 in
theorem ev_X11_path_len {E : mj_E} {h : mj_H} {a0 a1 y2 y3 y4 y5 y6 : Nat} (H0 : h 100 = some (mj_mo a0 a1 y2 y3 y4 y5 y6)) {T : Nat → Nat} (HT : h 101 = some (mj_ar 362 T)) {J : Nat → Nat} (HJ : h 105 = some (mj_ar 25 J)) {F : Nat → Nat} (HF : h 106 = some (mj_ar 25 F)) (bT : mj_Tb T) {w a c : Nat} (h0 : 1 ≤ w) (h1 : w ≤ 198) (h2 : a < 25) (h3 : c < 25) (h4 : sp_lay T (fun q => T (4 + q)) w 0 c a < 1000000) : mj_Ev E iX11_path [.ref 100, .int (nI w), .int (nI a), .int (nI c), .int (-1)] h (mj_R (some (.int (nI ((sp_lay T (fun q => T (4 + q)) w 0 c) a)))) (mj_up (mj_up h 105 (mj_ar 25 (fun q => T (4 + q)))) 106 (mj_ar 25 (sp_lay T (fun q => T (4 + q)) w 0 c)))) := by
  refine mj_Ev.of (L0 := [some (.ref 100), some (.int (nI w)), some (.int (nI a)), some (.int (nI c)), some (.int (-1)), none, none]) pnRX11 (Nat.le_of_ble_eq_true rfl) rfl ?_
  have hl9 := @sp_lay_le T (fun q => T (4 + q)) w 0 c a
  refine gj_iload_n dX11_path_0 rfl ?_
  refine gj_S1 lkX11_155 (ev_X11_isBurden_t (by omega) (by omega)) dX11_path_1 rfl rfl rfl rfl rfl ?_
  refine gj_if_eqN (tgt := 27) (by omega) dX11_path_4 rfl (fun zq0 => ?_) (fun zq0 => ?_)
  · exfalso; revert zq0; decide
  refine gj_iload_n dX11_path_7 rfl ?_
  refine gj_S1 lkX11_70 (ev_X11_isCell_t (by omega) (by omega)) dX11_path_8 rfl rfl rfl rfl rfl ?_
  refine gj_if_eqN (tgt := 27) (by omega) dX11_path_11 rfl (fun zq0 => ?_) (fun zq0 => ?_)
  · exfalso; revert zq0; decide
  refine gj_iload_n dX11_path_14 rfl ?_
  refine gj_S1 lkX11_70 (ev_X11_isCell_t (by omega) (by omega)) dX11_path_15 rfl rfl rfl rfl rfl ?_
  refine gj_if_eqN (tgt := 27) (by omega) dX11_path_18 rfl (fun zq0 => ?_) (fun zq0 => ?_)
  · exfalso; revert zq0; decide
  refine gj_iload dX11_path_21 rfl ?_
  refine gj_iconst (v := (-1)) dX11_path_23 (by decide) ?_
  refine gj_icmp_ge (tgt := 34) dX11_path_24 rfl (fun zq1 => ?_) (fun zq1 => ?_)
  rotate_left
  · exfalso; revert zq1; decide
  refine gj_aload_n dX11_path_34 rfl ?_
  refine gj_V0 lkX11_124 H0 rfl rfl (ev_X11_layIce H0 HT HJ bT) dX11_path_35 rfl rfl rfl rfl rfl ?_
  refine gj_aload_n dX11_path_38 rfl ?_
  refine gj_iload_n dX11_path_39 rfl ?_
  refine gj_iload_n dX11_path_40 rfl ?_
  refine gj_ic (w := 0) dX11_path_41 ?_
  refine gj_V0 lkX11_167 ((mj_up_ne (by decide)).trans H0) rfl rfl (ev_X11_layFar ((mj_up_ne (by decide)).trans H0) ((mj_up_ne (by decide)).trans HT) (mj_up_eq _ _ _) ((mj_up_ne (by decide)).trans HF) bT bT.2.2.2.2.2.1 (by omega) (by omega) (by omega)) dX11_path_42 rfl rfl rfl rfl rfl ?_
  refine gj_aload_n dX11_path_45 rfl ?_
  refine gfX11_30 rfl dX11_path_46 ((mj_up_ne (by decide)).trans ((mj_up_ne (by decide)).trans H0)) rfl ?_
  refine gj_iload_n dX11_path_49 rfl ?_
  refine gj_ialdN dX11_path_50 (mj_up_eq _ _ _) (by omega) (by omega) ?_
  refine gj_ldc (v := nI 1000000) w_1179 dX11_path_51 ?_
  refine gj_icmp_ltN (tgt := 58) (by omega) (by omega) dX11_path_53 rfl (fun zq2 => ?_) (fun zq2 => ?_)
  rotate_left
  · exfalso; omega
  refine gj_iload dX11_path_58 rfl ?_
  refine gj_iconst (v := (-1)) dX11_path_60 (by decide) ?_
  refine gj_icmp_eq (tgt := 75) dX11_path_61 rfl (fun zq3 => ?_) (fun zq3 => ?_)
  rotate_left
  · exfalso; exact zq3 rfl
  refine gj_iload dX11_path_75 rfl ?_
  refine gj_iconst (v := (-1)) dX11_path_77 (by decide) ?_
  refine gj_icmp_ne (tgt := 90) dX11_path_78 rfl (fun zq4 => ?_) (fun zq4 => ?_)
  · exfalso; exact zq4 rfl
  refine gj_aload_n dX11_path_81 rfl ?_
  refine gfX11_30 rfl dX11_path_82 ((mj_up_ne (by decide)).trans ((mj_up_ne (by decide)).trans H0)) rfl ?_
  refine gj_iload_n dX11_path_85 rfl ?_
  refine gj_ialdN dX11_path_86 (mj_up_eq _ _ _) (by omega) (by omega) ?_
  refine gj_goto (tgt := 92) dX11_path_87 rfl ?_
  exact gj_ir rfl dX11_path_92 rfl rfl rfl
set_option maxHeartbeats 1000000 in
set_option maxRecDepth 10000 in
theorem ev_X11_path_few {E : mj_E} {h : mj_H} {a0 a1 y2 y3 y4 y5 y6 : Nat} (H0 : h 100 = some (mj_mo a0 a1 y2 y3 y4 y5 y6)) {T : Nat → Nat} (HT : h 101 = some (mj_ar 362 T)) {J : Nat → Nat} (HJ : h 105 = some (mj_ar 25 J)) {F : Nat → Nat} (HF : h 106 = some (mj_ar 25 F)) (bT : mj_Tb T) {w a c i : Nat} (h0 : 1 ≤ w) (h1 : w ≤ 198) (h2 : a < 25) (h3 : c < 25) (h4 : sp_lay T (fun q => T (4 + q)) w 0 c a < 1000000) (h5 : sp_lay T (fun q => T (4 + q)) w 0 c a ≤ i) (h6 : i < 2 ^ 31) : mj_Ev E iX11_path [.ref 100, .int (nI w), .int (nI a), .int (nI c), .int (nI i)] h (mj_R (some (.int (-5))) (mj_up (mj_up h 105 (mj_ar 25 (fun q => T (4 + q)))) 106 (mj_ar 25 (sp_lay T (fun q => T (4 + q)) w 0 c)))) := by
  refine mj_Ev.of (L0 := [some (.ref 100), some (.int (nI w)), some (.int (nI a)), some (.int (nI c)), some (.int (nI i)), none, none]) pnRX11 (Nat.le_of_ble_eq_true rfl) rfl ?_
  have hl9 := @sp_lay_le T (fun q => T (4 + q)) w 0 c a
  refine gj_iload_n dX11_path_0 rfl ?_
  refine gj_S1 lkX11_155 (ev_X11_isBurden_t (by omega) (by omega)) dX11_path_1 rfl rfl rfl rfl rfl ?_
  refine gj_if_eqN (tgt := 27) (by omega) dX11_path_4 rfl (fun zq0 => ?_) (fun zq0 => ?_)
  · exfalso; revert zq0; decide
  refine gj_iload_n dX11_path_7 rfl ?_
  refine gj_S1 lkX11_70 (ev_X11_isCell_t (by omega) (by omega)) dX11_path_8 rfl rfl rfl rfl rfl ?_
  refine gj_if_eqN (tgt := 27) (by omega) dX11_path_11 rfl (fun zq0 => ?_) (fun zq0 => ?_)
  · exfalso; revert zq0; decide
  refine gj_iload_n dX11_path_14 rfl ?_
  refine gj_S1 lkX11_70 (ev_X11_isCell_t (by omega) (by omega)) dX11_path_15 rfl rfl rfl rfl rfl ?_
  refine gj_if_eqN (tgt := 27) (by omega) dX11_path_18 rfl (fun zq0 => ?_) (fun zq0 => ?_)
  · exfalso; revert zq0; decide
  refine gj_iload dX11_path_21 rfl ?_
  refine gj_iconst (v := (-1)) dX11_path_23 (by decide) ?_
  refine gj_icmp_ge (tgt := 34) dX11_path_24 rfl (fun zq1 => ?_) (fun zq1 => ?_)
  rotate_left
  · exfalso; exact absurd (mj_m1 h6) zq1
  refine gj_aload_n dX11_path_34 rfl ?_
  refine gj_V0 lkX11_124 H0 rfl rfl (ev_X11_layIce H0 HT HJ bT) dX11_path_35 rfl rfl rfl rfl rfl ?_
  refine gj_aload_n dX11_path_38 rfl ?_
  refine gj_iload_n dX11_path_39 rfl ?_
  refine gj_iload_n dX11_path_40 rfl ?_
  refine gj_ic (w := 0) dX11_path_41 ?_
  refine gj_V0 lkX11_167 ((mj_up_ne (by decide)).trans H0) rfl rfl (ev_X11_layFar ((mj_up_ne (by decide)).trans H0) ((mj_up_ne (by decide)).trans HT) (mj_up_eq _ _ _) ((mj_up_ne (by decide)).trans HF) bT bT.2.2.2.2.2.1 (by omega) (by omega) (by omega)) dX11_path_42 rfl rfl rfl rfl rfl ?_
  refine gj_aload_n dX11_path_45 rfl ?_
  refine gfX11_30 rfl dX11_path_46 ((mj_up_ne (by decide)).trans ((mj_up_ne (by decide)).trans H0)) rfl ?_
  refine gj_iload_n dX11_path_49 rfl ?_
  refine gj_ialdN dX11_path_50 (mj_up_eq _ _ _) (by omega) (by omega) ?_
  refine gj_ldc (v := nI 1000000) w_1179 dX11_path_51 ?_
  refine gj_icmp_ltN (tgt := 58) (by omega) (by omega) dX11_path_53 rfl (fun zq2 => ?_) (fun zq2 => ?_)
  rotate_left
  · exfalso; omega
  refine gj_iload dX11_path_58 rfl ?_
  refine gj_iconst (v := (-1)) dX11_path_60 (by decide) ?_
  refine gj_icmp_eq (tgt := 75) dX11_path_61 rfl (fun zq3 => ?_) (fun zq3 => ?_)
  · exfalso; exact absurd zq3 (mj_m1n h6)
  refine gj_iload dX11_path_64 rfl ?_
  refine gj_aload_n dX11_path_66 rfl ?_
  refine gfX11_30 rfl dX11_path_67 ((mj_up_ne (by decide)).trans ((mj_up_ne (by decide)).trans H0)) rfl ?_
  refine gj_iload_n dX11_path_70 rfl ?_
  refine gj_ialdN dX11_path_71 (mj_up_eq _ _ _) (by omega) (by omega) ?_
  refine gj_icmp_ltN (tgt := 93) (by omega) (by omega) dX11_path_72 rfl (fun zq4 => ?_) (fun zq4 => ?_)
  · exfalso; omega
  refine gj_iload dX11_path_75 rfl ?_
  refine gj_iconst (v := (-1)) dX11_path_77 (by decide) ?_
  refine gj_icmp_ne (tgt := 90) dX11_path_78 rfl (fun zq5 => ?_) (fun zq5 => ?_)
  rotate_left
  · exfalso; exact absurd zq5 (mj_m1n h6)
  refine gj_bipush (v := (-5)) dX11_path_90 (by decide) ?_
  exact gj_ir rfl dX11_path_92 rfl rfl rfl
set_option maxHeartbeats 1000000 in
set_option maxRecDepth 10000 in
theorem ev_X11_path_step {E : mj_E} {h : mj_H} {a0 a1 y2 y3 y4 y5 y6 : Nat} (H0 : h 100 = some (mj_mo a0 a1 y2 y3 y4 y5 y6)) {T : Nat → Nat} (HT : h 101 = some (mj_ar 362 T)) {J : Nat → Nat} (HJ : h 105 = some (mj_ar 25 J)) {F : Nat → Nat} (HF : h 106 = some (mj_ar 25 F)) (bT : mj_Tb T) {w a c i : Nat} (h0 : 1 ≤ w) (h1 : w ≤ 198) (h2 : a < 25) (h3 : c < 25) (h4 : sp_lay T (fun q => T (4 + q)) w 0 c a < 1000000) (h5 : i < sp_lay T (fun q => T (4 + q)) w 0 c a) : mj_Ev E iX11_path [.ref 100, .int (nI w), .int (nI a), .int (nI c), .int (nI i)] h (mj_R (some (.int (nI (sp_wlk (sp_lay T (fun q => T (4 + q)) w 0 c) a i)))) (mj_up (mj_up h 105 (mj_ar 25 (fun q => T (4 + q)))) 106 (mj_ar 25 (sp_lay T (fun q => T (4 + q)) w 0 c)))) := by
  have hi31 : i < 2 ^ 31 := by omega
  refine mj_Ev.of (L0 := [some (.ref 100), some (.int (nI w)), some (.int (nI a)), some (.int (nI c)), some (.int (nI i)), none, none]) pnRX11 (Nat.le_of_ble_eq_true rfl) rfl ?_
  have hl9 := @sp_lay_le T (fun q => T (4 + q)) w 0 c a
  refine gj_iload_n dX11_path_0 rfl ?_
  refine gj_S1 lkX11_155 (ev_X11_isBurden_t (by omega) (by omega)) dX11_path_1 rfl rfl rfl rfl rfl ?_
  refine gj_if_eqN (tgt := 27) (by omega) dX11_path_4 rfl (fun zq0 => ?_) (fun zq0 => ?_)
  · exfalso; revert zq0; decide
  refine gj_iload_n dX11_path_7 rfl ?_
  refine gj_S1 lkX11_70 (ev_X11_isCell_t (by omega) (by omega)) dX11_path_8 rfl rfl rfl rfl rfl ?_
  refine gj_if_eqN (tgt := 27) (by omega) dX11_path_11 rfl (fun zq0 => ?_) (fun zq0 => ?_)
  · exfalso; revert zq0; decide
  refine gj_iload_n dX11_path_14 rfl ?_
  refine gj_S1 lkX11_70 (ev_X11_isCell_t (by omega) (by omega)) dX11_path_15 rfl rfl rfl rfl rfl ?_
  refine gj_if_eqN (tgt := 27) (by omega) dX11_path_18 rfl (fun zq0 => ?_) (fun zq0 => ?_)
  · exfalso; revert zq0; decide
  refine gj_iload dX11_path_21 rfl ?_
  refine gj_iconst (v := (-1)) dX11_path_23 (by decide) ?_
  refine gj_icmp_ge (tgt := 34) dX11_path_24 rfl (fun zq1 => ?_) (fun zq1 => ?_)
  rotate_left
  · exfalso; exact absurd (mj_m1 hi31) zq1
  refine gj_aload_n dX11_path_34 rfl ?_
  refine gj_V0 lkX11_124 H0 rfl rfl (ev_X11_layIce H0 HT HJ bT) dX11_path_35 rfl rfl rfl rfl rfl ?_
  refine gj_aload_n dX11_path_38 rfl ?_
  refine gj_iload_n dX11_path_39 rfl ?_
  refine gj_iload_n dX11_path_40 rfl ?_
  refine gj_ic (w := 0) dX11_path_41 ?_
  refine gj_V0 lkX11_167 ((mj_up_ne (by decide)).trans H0) rfl rfl (ev_X11_layFar ((mj_up_ne (by decide)).trans H0) ((mj_up_ne (by decide)).trans HT) (mj_up_eq _ _ _) ((mj_up_ne (by decide)).trans HF) bT bT.2.2.2.2.2.1 (by omega) (by omega) (by omega)) dX11_path_42 rfl rfl rfl rfl rfl ?_
  refine gj_aload_n dX11_path_45 rfl ?_
  refine gfX11_30 rfl dX11_path_46 ((mj_up_ne (by decide)).trans ((mj_up_ne (by decide)).trans H0)) rfl ?_
  refine gj_iload_n dX11_path_49 rfl ?_
  refine gj_ialdN dX11_path_50 (mj_up_eq _ _ _) (by omega) (by omega) ?_
  refine gj_ldc (v := nI 1000000) w_1179 dX11_path_51 ?_
  refine gj_icmp_ltN (tgt := 58) (by omega) (by omega) dX11_path_53 rfl (fun zq2 => ?_) (fun zq2 => ?_)
  rotate_left
  · exfalso; omega
  refine gj_iload dX11_path_58 rfl ?_
  refine gj_iconst (v := (-1)) dX11_path_60 (by decide) ?_
  refine gj_icmp_eq (tgt := 75) dX11_path_61 rfl (fun zq3 => ?_) (fun zq3 => ?_)
  · exfalso; exact absurd zq3 (mj_m1n hi31)
  refine gj_iload dX11_path_64 rfl ?_
  refine gj_aload_n dX11_path_66 rfl ?_
  refine gfX11_30 rfl dX11_path_67 ((mj_up_ne (by decide)).trans ((mj_up_ne (by decide)).trans H0)) rfl ?_
  refine gj_iload_n dX11_path_70 rfl ?_
  refine gj_ialdN dX11_path_71 (mj_up_eq _ _ _) (by omega) (by omega) ?_
  refine gj_icmp_ltN (tgt := 93) (by omega) (by omega) dX11_path_72 rfl (fun zq4 => ?_) (fun zq4 => ?_)
  rotate_left
  · exfalso; omega
  refine gj_iload_n dX11_path_93 rfl ?_
  refine gj_istore (L' := [some (.ref 100), some (.int (nI w)), some (.int (nI a)), some (.int (nI c)), some (.int (nI i)), some (.int (nI a)), none]) dX11_path_94 (Nat.le_of_ble_eq_true rfl) rfl ?_
  refine gj_ic (w := 0) dX11_path_96 ?_
  refine gj_istore (L' := [some (.ref 100), some (.int (nI w)), some (.int (nI a)), some (.int (nI c)), some (.int (nI i)), some (.int (nI a)), some (.int (nI 0))]) dX11_path_97 (Nat.le_of_ble_eq_true rfl) rfl ?_
  refine gj_cast (L' := [some (.ref 100), some (.int (nI w)), some (.int (nI a)), some (.int (nI c)), some (.int (nI i)), some (.int (nI (sp_wlk (sp_lay T (fun q => T (4 + q)) w 0 c) a 0))), some (.int (nI 0))]) (st' := []) (h' := mj_up (mj_up h 105 (mj_ar 25 (fun q => T (4 + q)))) 106 (mj_ar 25 (sp_lay T (fun q => T (4 + q)) w 0 c))) rfl rfl rfl ?_
  refine gj_loop (fun j => [some (.ref 100), some (.int (nI w)), some (.int (nI a)), some (.int (nI c)), some (.int (nI i)), some (.int (nI (sp_wlk (sp_lay T (fun q => T (4 + q)) w 0 c) a j))), some (.int (nI j))]) (fun j => mj_up (mj_up h 105 (mj_ar 25 (fun q => T (4 + q)))) 106 (mj_ar 25 (sp_lay T (fun q => T (4 + q)) w 0 c))) i ?_ (fun j hj ih => ?_) 0 (Nat.zero_le _)
  · show gj _ _ _ _ _ _ [some (.ref 100), some (.int (nI w)), some (.int (nI a)), some (.int (nI c)), some (.int (nI i)), some (.int (nI (sp_wlk (sp_lay T (fun q => T (4 + q)) w 0 c) a i))), some (.int (nI i))] _ _
    refine gj_iload dX11_path_99 rfl ?_
    refine gj_iload dX11_path_101 rfl ?_
    refine gj_icmp_geN (tgt := 120) (by omega) (by omega) dX11_path_103 rfl (fun zq5 => ?_) (fun zq5 => ?_)
    rotate_left
    · exfalso; omega
    refine gj_iload dX11_path_120 rfl ?_
    exact gj_ir rfl dX11_path_122 rfl rfl rfl
  show gj _ _ _ _ _ _ [some (.ref 100), some (.int (nI w)), some (.int (nI a)), some (.int (nI c)), some (.int (nI i)), some (.int (nI (sp_wlk (sp_lay T (fun q => T (4 + q)) w 0 c) a j))), some (.int (nI j))] _ _
  refine gj_iload dX11_path_99 rfl ?_
  refine gj_iload dX11_path_101 rfl ?_
  refine gj_icmp_geN (tgt := 120) (by omega) (by omega) dX11_path_103 rfl (fun zq6 => ?_) (fun zq6 => ?_)
  · exfalso; omega
  have hw9 := sp_wlk_ok h2 h4 j (by omega)
  have hF9 : ∀ q, q < 25 → (sp_lay T (fun q => T (4 + q)) w 0 c) q ≤ 1000000 := fun q _ => sp_lay_le q
  have hF1 : 1 ≤ (sp_lay T (fun q => T (4 + q)) w 0 c) (sp_wlk (sp_lay T (fun q => T (4 + q)) w 0 c) a j) := by omega
  have hF2 := @sp_nxf T (fun q => T (4 + q)) w 0 c (sp_wlk (sp_lay T (fun q => T (4 + q)) w 0 c) a j) hw9.1 (by omega) (by omega)
  refine gj_aload_n dX11_path_106 rfl ?_
  refine gj_iload dX11_path_107 rfl ?_
  refine gj_V1 lkX11_171 ((mj_up_ne (by decide)).trans ((mj_up_ne (by decide)).trans H0)) rfl rfl (ev_X11_nextOf ((mj_up_ne (by decide)).trans ((mj_up_ne (by decide)).trans H0)) (mj_up_eq _ _ _) (by omega) hF9 hF1 hF2) dX11_path_109 rfl rfl rfl rfl rfl ?_
  refine gj_istore (L' := [some (.ref 100), some (.int (nI w)), some (.int (nI a)), some (.int (nI c)), some (.int (nI i)), some (.int (nI (sp_fst (sp_nxp (sp_lay T (fun q => T (4 + q)) w 0 c) (sp_wlk (sp_lay T (fun q => T (4 + q)) w 0 c) a j)) 25))), some (.int (nI j))]) dX11_path_112 (Nat.le_of_ble_eq_true rfl) rfl ?_
  refine gj_iincN (L' := [some (.ref 100), some (.int (nI w)), some (.int (nI a)), some (.int (nI c)), some (.int (nI i)), some (.int (nI (sp_fst (sp_nxp (sp_lay T (fun q => T (4 + q)) w 0 c) (sp_wlk (sp_lay T (fun q => T (4 + q)) w 0 c) a j)) 25))), some (.int (nI (j + 1)))]) dX11_path_114 rfl (Nat.le_of_ble_eq_true rfl) rfl ?_
  refine gj_goto (tgt := 99) dX11_path_117 rfl ?_
  exact gj_cast (by rw [sp_wlk_s]) rfl rfl ih
