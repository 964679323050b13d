theorem sp_q3_y {T J : Nat → Nat} {w a c : Nat} (h : sp_fst (sp_q3 T J w a c) 25 < 25) : sp_fst (sp_q2 T J w a c (sp_fst (sp_q3 T J w a c) 25)) 25 < 25 ∧ sp_fst (sp_q3 T J w a c) 25 < sp_fst (sp_q2 T J w a c (sp_fst (sp_q3 T J w a c) 25)) 25 := by
  have h1 : sp_fst (sp_q2 T J w a c (sp_fst (sp_q3 T J w a c) 25)) 25 < 25 := of_decide_eq_true (sp_fst_t h)
  refine ⟨h1, Nat.lt_of_not_le (fun z => ?_)⟩
  have h2 := sp_fst_t h1
  rw [sp_q2_i (by omega)] at h2
  exact absurd h2 (by decide)
set_option maxHeartbeats 1000000 in
set_option maxRecDepth 10000 in
theorem ev_X11_apart_0_0 {E : mj_E} {h : mj_H} {a0 a1 y2 y3 y4 y5 y6 : Nat} (H0 : h 100 = some (mj_mo a0 a1 y2 y3 y4 y5 y6)) {T : Nat → Nat} (HT : h 101 = some (mj_ar 362 T)) {J : Nat → Nat} (HJ : h 105 = some (mj_ar 25 J)) {F : Nat → Nat} (HF : h 106 = some (mj_ar 25 F)) (bT : mj_Tb T) {w a c : Nat} (h0 : 1 ≤ w) (h1 : w ≤ 198) (h2 : a < 25) (h3 : c < 25) (h4 : ¬ a = c) (h5 : 1000000 ≤ sp_lay T (fun q => T (4 + q)) w 0 c a) : mj_Ev E iX11_apart [.ref 100, .int (nI w), .int (nI a), .int (nI c), .int (nI 0)] h (mj_R (some (.int (nI 0))) (mj_up (mj_up h 105 (mj_ar 25 (fun q => T (4 + q)))) 106 (mj_ar 25 (sp_lay T (fun q => T (4 + q)) w 0 c)))) := by
  refine mj_Ev.of (L0 := [some (.ref 100), some (.int (nI w)), some (.int (nI a)), some (.int (nI c)), some (.int (nI 0)), none]) pnRX11 (Nat.le_of_ble_eq_true rfl) rfl ?_
  refine gj_iload_n dX11_apart_0 rfl ?_
  refine gj_S1 lkX11_155 (ev_X11_isBurden_t (by omega) (by omega)) dX11_apart_1 rfl rfl rfl rfl rfl ?_
  refine gj_if_eqN (tgt := 37) (by omega) dX11_apart_4 rfl (fun zq0 => ?_) (fun zq0 => ?_)
  · exfalso; revert zq0; decide
  refine gj_iload_n dX11_apart_7 rfl ?_
  refine gj_S1 lkX11_70 (ev_X11_isCell_t (by omega) (by omega)) dX11_apart_8 rfl rfl rfl rfl rfl ?_
  refine gj_if_eqN (tgt := 37) (by omega) dX11_apart_11 rfl (fun zq0 => ?_) (fun zq0 => ?_)
  · exfalso; revert zq0; decide
  refine gj_iload_n dX11_apart_14 rfl ?_
  refine gj_S1 lkX11_70 (ev_X11_isCell_t (by omega) (by omega)) dX11_apart_15 rfl rfl rfl rfl rfl ?_
  refine gj_if_eqN (tgt := 37) (by omega) dX11_apart_18 rfl (fun zq0 => ?_) (fun zq0 => ?_)
  · exfalso; revert zq0; decide
  refine gj_iload_n dX11_apart_21 rfl ?_
  refine gj_iload_n dX11_apart_22 rfl ?_
  refine gj_icmp_eqN (tgt := 37) (by omega) (by omega) dX11_apart_23 rfl (fun zq1 => ?_) (fun zq1 => ?_)
  · exfalso; omega
  refine gj_iload dX11_apart_26 rfl ?_
  refine gj_i2lN (by omega) dX11_apart_28 ?_
  refine gj_lconst (v := lN 0) dX11_apart_29 rfl ?_
  refine gj_lconst (v := lN 1) dX11_apart_30 rfl ?_
  refine gj_S1 lkX11_50 (ev_X11_in_t (by omega) (by omega) (by omega)) dX11_apart_31 rfl rfl rfl rfl rfl ?_
  refine gj_if_neN (tgt := 44) (by omega) dX11_apart_34 rfl (fun zq0 => ?_) (fun zq0 => ?_)
  rotate_left
  · exfalso; revert zq0; decide
  refine gj_aload_n dX11_apart_44 rfl ?_
  refine gj_V0 lkX11_124 H0 rfl rfl (ev_X11_layIce H0 HT HJ bT) dX11_apart_45 rfl rfl rfl rfl rfl ?_
  refine gj_aload_n dX11_apart_48 rfl ?_
  refine gj_iload_n dX11_apart_49 rfl ?_
  refine gj_iload_n dX11_apart_50 rfl ?_
  refine gj_iload_n dX11_apart_51 rfl ?_
  refine gj_V1 lkX11_178 ((mj_up_ne (by decide)).trans H0) rfl rfl (ev_X11_partsOf_0 ((mj_up_ne (by decide)).trans H0) ((mj_up_ne (by decide)).trans HT) (mj_up_eq _ _ _) ((mj_up_ne (by decide)).trans HF) bT bT.2.2.2.2.2.1 (by omega) (by omega) (by omega) (by omega)) dX11_apart_52 rfl rfl rfl rfl rfl ?_
  refine gj_istore (L' := [some (.ref 100), some (.int (nI w)), some (.int (nI a)), some (.int (nI c)), some (.int (nI 0)), some (.int (nI 0))]) dX11_apart_55 (Nat.le_of_ble_eq_true rfl) rfl ?_
  refine gj_iload dX11_apart_57 rfl ?_
  refine gj_ic (w := 1) dX11_apart_59 ?_
  refine gj_icmp_eqN (tgt := 68) (by omega) (by omega) dX11_apart_60 rfl (fun zq0 => ?_) (fun zq0 => ?_)
  · exfalso; omega
  refine gj_iload dX11_apart_63 rfl ?_
  refine gj_if_gtN (tgt := 73) (by omega) dX11_apart_65 rfl (fun zq0 => ?_) (fun zq0 => ?_)
  · exfalso; revert zq0; decide
  refine gj_iload dX11_apart_68 rfl ?_
  refine gj_goto (tgt := 86) dX11_apart_70 rfl ?_
  exact gj_ir rfl dX11_apart_86 rfl rfl rfl
set_option maxHeartbeats 1000000 in
set_option maxRecDepth 10000 in
theorem ev_X11_apart_0_1 {E : mj_E} {h : mj_H} {a0 a1 y2 y3 y4 y5 y6 : Nat} (H0 : h 100 = some (mj_mo a0 a1 y2 y3 y4 y5 y6)) {T : Nat → Nat} (HT : h 101 = some (mj_ar 362 T)) {J : Nat → Nat} (HJ : h 105 = some (mj_ar 25 J)) {F : Nat → Nat} (HF : h 106 = some (mj_ar 25 F)) (bT : mj_Tb T) {w a c : Nat} (h0 : 1 ≤ w) (h1 : w ≤ 198) (h2 : a < 25) (h3 : c < 25) (h4 : ¬ a = c) (h5 : 1000000 ≤ sp_lay T (fun q => T (4 + q)) w 0 c a) : mj_Ev E iX11_apart [.ref 100, .int (nI w), .int (nI a), .int (nI c), .int (nI 1)] h (mj_R (some (.int (nI 0))) (mj_up (mj_up h 105 (mj_ar 25 (fun q => T (4 + q)))) 106 (mj_ar 25 (sp_lay T (fun q => T (4 + q)) w 0 c)))) := by
  refine mj_Ev.of (L0 := [some (.ref 100), some (.int (nI w)), some (.int (nI a)), some (.int (nI c)), some (.int (nI 1)), none]) pnRX11 (Nat.le_of_ble_eq_true rfl) rfl ?_
  refine gj_iload_n dX11_apart_0 rfl ?_
  refine gj_S1 lkX11_155 (ev_X11_isBurden_t (by omega) (by omega)) dX11_apart_1 rfl rfl rfl rfl rfl ?_
  refine gj_if_eqN (tgt := 37) (by omega) dX11_apart_4 rfl (fun zq0 => ?_) (fun zq0 => ?_)
  · exfalso; revert zq0; decide
  refine gj_iload_n dX11_apart_7 rfl ?_
  refine gj_S1 lkX11_70 (ev_X11_isCell_t (by omega) (by omega)) dX11_apart_8 rfl rfl rfl rfl rfl ?_
  refine gj_if_eqN (tgt := 37) (by omega) dX11_apart_11 rfl (fun zq0 => ?_) (fun zq0 => ?_)
  · exfalso; revert zq0; decide
  refine gj_iload_n dX11_apart_14 rfl ?_
  refine gj_S1 lkX11_70 (ev_X11_isCell_t (by omega) (by omega)) dX11_apart_15 rfl rfl rfl rfl rfl ?_
  refine gj_if_eqN (tgt := 37) (by omega) dX11_apart_18 rfl (fun zq0 => ?_) (fun zq0 => ?_)
  · exfalso; revert zq0; decide
  refine gj_iload_n dX11_apart_21 rfl ?_
  refine gj_iload_n dX11_apart_22 rfl ?_
  refine gj_icmp_eqN (tgt := 37) (by omega) (by omega) dX11_apart_23 rfl (fun zq1 => ?_) (fun zq1 => ?_)
  · exfalso; omega
  refine gj_iload dX11_apart_26 rfl ?_
  refine gj_i2lN (by omega) dX11_apart_28 ?_
  refine gj_lconst (v := lN 0) dX11_apart_29 rfl ?_
  refine gj_lconst (v := lN 1) dX11_apart_30 rfl ?_
  refine gj_S1 lkX11_50 (ev_X11_in_t (by omega) (by omega) (by omega)) dX11_apart_31 rfl rfl rfl rfl rfl ?_
  refine gj_if_neN (tgt := 44) (by omega) dX11_apart_34 rfl (fun zq0 => ?_) (fun zq0 => ?_)
  rotate_left
  · exfalso; revert zq0; decide
  refine gj_aload_n dX11_apart_44 rfl ?_
  refine gj_V0 lkX11_124 H0 rfl rfl (ev_X11_layIce H0 HT HJ bT) dX11_apart_45 rfl rfl rfl rfl rfl ?_
  refine gj_aload_n dX11_apart_48 rfl ?_
  refine gj_iload_n dX11_apart_49 rfl ?_
  refine gj_iload_n dX11_apart_50 rfl ?_
  refine gj_iload_n dX11_apart_51 rfl ?_
  refine gj_V1 lkX11_178 ((mj_up_ne (by decide)).trans H0) rfl rfl (ev_X11_partsOf_0 ((mj_up_ne (by decide)).trans H0) ((mj_up_ne (by decide)).trans HT) (mj_up_eq _ _ _) ((mj_up_ne (by decide)).trans HF) bT bT.2.2.2.2.2.1 (by omega) (by omega) (by omega) (by omega)) dX11_apart_52 rfl rfl rfl rfl rfl ?_
  refine gj_istore (L' := [some (.ref 100), some (.int (nI w)), some (.int (nI a)), some (.int (nI c)), some (.int (nI 1)), some (.int (nI 0))]) dX11_apart_55 (Nat.le_of_ble_eq_true rfl) rfl ?_
  refine gj_iload dX11_apart_57 rfl ?_
  refine gj_ic (w := 1) dX11_apart_59 ?_
  refine gj_icmp_eqN (tgt := 68) (by omega) (by omega) dX11_apart_60 rfl (fun zq0 => ?_) (fun zq0 => ?_)
  rotate_left
  · exfalso; omega
  refine gj_iload dX11_apart_68 rfl ?_
  refine gj_goto (tgt := 86) dX11_apart_70 rfl ?_
  exact gj_ir rfl dX11_apart_86 rfl rfl rfl
set_option maxHeartbeats 1000000 in
set_option maxRecDepth 10000 in
theorem ev_X11_apart_1_0 {E : mj_E} {h : mj_H} {a0 a1 y2 y3 y4 y5 y6 : Nat} (H0 : h 100 = some (mj_mo a0 a1 y2 y3 y4 y5 y6)) {T : Nat → Nat} (HT : h 101 = some (mj_ar 362 T)) {J : Nat → Nat} (HJ : h 105 = some (mj_ar 25 J)) {F : Nat → Nat} (HF : h 106 = some (mj_ar 25 F)) (bT : mj_Tb T) {w a c : Nat} (h0 : 1 ≤ w) (h1 : w ≤ 198) (h2 : a < 25) (h3 : c < 25) (h4 : ¬ a = c) (h5 : sp_lay T (fun q => T (4 + q)) w 0 c a < 1000000) (h6 : sp_fst (sp_q1 T (fun q => T (4 + q)) w a c) 25 < 25) : mj_Ev E iX11_apart [.ref 100, .int (nI w), .int (nI a), .int (nI c), .int (nI 0)] h (mj_R (some (.int (nI 1))) (mj_up (mj_up h 105 (mj_ar 25 (fun q => T (4 + q)))) 106 (mj_ar 25 (sp_lay T (fun q => T (4 + q)) w (1 <<< sp_fst (sp_q1 T (fun q => T (4 + q)) w a c) 25) c)))) := by
  refine mj_Ev.of (L0 := [some (.ref 100), some (.int (nI w)), some (.int (nI a)), some (.int (nI c)), some (.int (nI 0)), none]) pnRX11 (Nat.le_of_ble_eq_true rfl) rfl ?_
  refine gj_iload_n dX11_apart_0 rfl ?_
  refine gj_S1 lkX11_155 (ev_X11_isBurden_t (by omega) (by omega)) dX11_apart_1 rfl rfl rfl rfl rfl ?_
  refine gj_if_eqN (tgt := 37) (by omega) dX11_apart_4 rfl (fun zq0 => ?_) (fun zq0 => ?_)
  · exfalso; revert zq0; decide
  refine gj_iload_n dX11_apart_7 rfl ?_
  refine gj_S1 lkX11_70 (ev_X11_isCell_t (by omega) (by omega)) dX11_apart_8 rfl rfl rfl rfl rfl ?_
  refine gj_if_eqN (tgt := 37) (by omega) dX11_apart_11 rfl (fun zq0 => ?_) (fun zq0 => ?_)
  · exfalso; revert zq0; decide
  refine gj_iload_n dX11_apart_14 rfl ?_
  refine gj_S1 lkX11_70 (ev_X11_isCell_t (by omega) (by omega)) dX11_apart_15 rfl rfl rfl rfl rfl ?_
  refine gj_if_eqN (tgt := 37) (by omega) dX11_apart_18 rfl (fun zq0 => ?_) (fun zq0 => ?_)
  · exfalso; revert zq0; decide
  refine gj_iload_n dX11_apart_21 rfl ?_
  refine gj_iload_n dX11_apart_22 rfl ?_
  refine gj_icmp_eqN (tgt := 37) (by omega) (by omega) dX11_apart_23 rfl (fun zq1 => ?_) (fun zq1 => ?_)
  · exfalso; omega
  refine gj_iload dX11_apart_26 rfl ?_
  refine gj_i2lN (by omega) dX11_apart_28 ?_
  refine gj_lconst (v := lN 0) dX11_apart_29 rfl ?_
  refine gj_lconst (v := lN 1) dX11_apart_30 rfl ?_
  refine gj_S1 lkX11_50 (ev_X11_in_t (by omega) (by omega) (by omega)) dX11_apart_31 rfl rfl rfl rfl rfl ?_
  refine gj_if_neN (tgt := 44) (by omega) dX11_apart_34 rfl (fun zq0 => ?_) (fun zq0 => ?_)
  rotate_left
  · exfalso; revert zq0; decide
  refine gj_aload_n dX11_apart_44 rfl ?_
  refine gj_V0 lkX11_124 H0 rfl rfl (ev_X11_layIce H0 HT HJ bT) dX11_apart_45 rfl rfl rfl rfl rfl ?_
  refine gj_aload_n dX11_apart_48 rfl ?_
  refine gj_iload_n dX11_apart_49 rfl ?_
  refine gj_iload_n dX11_apart_50 rfl ?_
  refine gj_iload_n dX11_apart_51 rfl ?_
  refine gj_V1 lkX11_178 ((mj_up_ne (by decide)).trans H0) rfl rfl (ev_X11_partsOf_1 ((mj_up_ne (by decide)).trans H0) ((mj_up_ne (by decide)).trans HT) (mj_up_eq _ _ _) ((mj_up_ne (by decide)).trans HF) bT bT.2.2.2.2.2.1 (by omega) (by omega) (by omega) (by omega) (by omega)) dX11_apart_52 rfl rfl rfl rfl rfl ?_
  refine gj_istore (L' := [some (.ref 100), some (.int (nI w)), some (.int (nI a)), some (.int (nI c)), some (.int (nI 0)), some (.int (nI (992 + sp_fst (sp_q1 T (fun q => T (4 + q)) w a c) 25)))]) dX11_apart_55 (Nat.le_of_ble_eq_true rfl) rfl ?_
  refine gj_iload dX11_apart_57 rfl ?_
  refine gj_ic (w := 1) dX11_apart_59 ?_
  refine gj_icmp_eqN (tgt := 68) (by omega) (by omega) dX11_apart_60 rfl (fun zq0 => ?_) (fun zq0 => ?_)
  · exfalso; omega
  refine gj_iload dX11_apart_63 rfl ?_
  refine gj_if_gtN (tgt := 73) (by omega) dX11_apart_65 rfl (fun zq2 => ?_) (fun zq2 => ?_)
  rotate_left
  · exfalso; omega
  refine gj_iload dX11_apart_73 rfl ?_
  refine gj_sp 992 dX11_apart_75 (by decide) ?_
  refine gj_icmp_ltN (tgt := 85) (by omega) (by omega) dX11_apart_78 rfl (fun zq3 => ?_) (fun zq3 => ?_)
  · exfalso; omega
  refine gj_ic (w := 1) dX11_apart_81 ?_
  refine gj_goto (tgt := 86) dX11_apart_82 rfl ?_
  exact gj_ir rfl dX11_apart_86 rfl rfl rfl
set_option maxHeartbeats 1000000 in
set_option maxRecDepth 10000 in
theorem ev_X11_apart_1_1 {E : mj_E} {h : mj_H} {a0 a1 y2 y3 y4 y5 y6 : Nat} (H0 : h 100 = some (mj_mo a0 a1 y2 y3 y4 y5 y6)) {T : Nat → Nat} (HT : h 101 = some (mj_ar 362 T)) {J : Nat → Nat} (HJ : h 105 = some (mj_ar 25 J)) {F : Nat → Nat} (HF : h 106 = some (mj_ar 25 F)) (bT : mj_Tb T) {w a c : Nat} (h0 : 1 ≤ w) (h1 : w ≤ 198) (h2 : a < 25) (h3 : c < 25) (h4 : ¬ a = c) (h5 : sp_lay T (fun q => T (4 + q)) w 0 c a < 1000000) (h6 : sp_fst (sp_q1 T (fun q => T (4 + q)) w a c) 25 < 25) : mj_Ev E iX11_apart [.ref 100, .int (nI w), .int (nI a), .int (nI c), .int (nI 1)] h (mj_R (some (.int (nI (992 + sp_fst (sp_q1 T (fun q => T (4 + q)) w a c) 25)))) (mj_up (mj_up h 105 (mj_ar 25 (fun q => T (4 + q)))) 106 (mj_ar 25 (sp_lay T (fun q => T (4 + q)) w (1 <<< sp_fst (sp_q1 T (fun q => T (4 + q)) w a c) 25) c)))) := by
  refine mj_Ev.of (L0 := [some (.ref 100), some (.int (nI w)), some (.int (nI a)), some (.int (nI c)), some (.int (nI 1)), none]) pnRX11 (Nat.le_of_ble_eq_true rfl) rfl ?_
  refine gj_iload_n dX11_apart_0 rfl ?_
  refine gj_S1 lkX11_155 (ev_X11_isBurden_t (by omega) (by omega)) dX11_apart_1 rfl rfl rfl rfl rfl ?_
  refine gj_if_eqN (tgt := 37) (by omega) dX11_apart_4 rfl (fun zq0 => ?_) (fun zq0 => ?_)
  · exfalso; revert zq0; decide
  refine gj_iload_n dX11_apart_7 rfl ?_
  refine gj_S1 lkX11_70 (ev_X11_isCell_t (by omega) (by omega)) dX11_apart_8 rfl rfl rfl rfl rfl ?_
  refine gj_if_eqN (tgt := 37) (by omega) dX11_apart_11 rfl (fun zq0 => ?_) (fun zq0 => ?_)
  · exfalso; revert zq0; decide
  refine gj_iload_n dX11_apart_14 rfl ?_
  refine gj_S1 lkX11_70 (ev_X11_isCell_t (by omega) (by omega)) dX11_apart_15 rfl rfl rfl rfl rfl ?_
  refine gj_if_eqN (tgt := 37) (by omega) dX11_apart_18 rfl (fun zq0 => ?_) (fun zq0 => ?_)
  · exfalso; revert zq0; decide
  refine gj_iload_n dX11_apart_21 rfl ?_
  refine gj_iload_n dX11_apart_22 rfl ?_
  refine gj_icmp_eqN (tgt := 37) (by omega) (by omega) dX11_apart_23 rfl (fun zq1 => ?_) (fun zq1 => ?_)
  · exfalso; omega
  refine gj_iload dX11_apart_26 rfl ?_
  refine gj_i2lN (by omega) dX11_apart_28 ?_
  refine gj_lconst (v := lN 0) dX11_apart_29 rfl ?_
  refine gj_lconst (v := lN 1) dX11_apart_30 rfl ?_
  refine gj_S1 lkX11_50 (ev_X11_in_t (by omega) (by omega) (by omega)) dX11_apart_31 rfl rfl rfl rfl rfl ?_
  refine gj_if_neN (tgt := 44) (by omega) dX11_apart_34 rfl (fun zq0 => ?_) (fun zq0 => ?_)
  rotate_left
  · exfalso; revert zq0; decide
  refine gj_aload_n dX11_apart_44 rfl ?_
  refine gj_V0 lkX11_124 H0 rfl rfl (ev_X11_layIce H0 HT HJ bT) dX11_apart_45 rfl rfl rfl rfl rfl ?_
  refine gj_aload_n dX11_apart_48 rfl ?_
  refine gj_iload_n dX11_apart_49 rfl ?_
  refine gj_iload_n dX11_apart_50 rfl ?_
  refine gj_iload_n dX11_apart_51 rfl ?_
  refine gj_V1 lkX11_178 ((mj_up_ne (by decide)).trans H0) rfl rfl (ev_X11_partsOf_1 ((mj_up_ne (by decide)).trans H0) ((mj_up_ne (by decide)).trans HT) (mj_up_eq _ _ _) ((mj_up_ne (by decide)).trans HF) bT bT.2.2.2.2.2.1 (by omega) (by omega) (by omega) (by omega) (by omega)) dX11_apart_52 rfl rfl rfl rfl rfl ?_
  refine gj_istore (L' := [some (.ref 100), some (.int (nI w)), some (.int (nI a)), some (.int (nI c)), some (.int (nI 1)), some (.int (nI (992 + sp_fst (sp_q1 T (fun q => T (4 + q)) w a c) 25)))]) dX11_apart_55 (Nat.le_of_ble_eq_true rfl) rfl ?_
  refine gj_iload dX11_apart_57 rfl ?_
  refine gj_ic (w := 1) dX11_apart_59 ?_
  refine gj_icmp_eqN (tgt := 68) (by omega) (by omega) dX11_apart_60 rfl (fun zq0 => ?_) (fun zq0 => ?_)
  rotate_left
  · exfalso; omega
  refine gj_iload dX11_apart_68 rfl ?_
  refine gj_goto (tgt := 86) dX11_apart_70 rfl ?_
  exact gj_ir rfl dX11_apart_86 rfl rfl rfl
set_option maxHeartbeats 1000000 in
set_option maxRecDepth 10000 in
theorem ev_X11_apart_2_0 {E : mj_E} {h : mj_H} {a0 a1 y2 y3 y4 y5 y6 : Nat} (H0 : h 100 = some (mj_mo a0 a1 y2 y3 y4 y5 y6)) {T : Nat → Nat} (HT : h 101 = some (mj_ar 362 T)) {J : Nat → Nat} (HJ : h 105 = some (mj_ar 25 J)) {F : Nat → Nat} (HF : h 106 = some (mj_ar 25 F)) (bT : mj_Tb T) {w a c : Nat} (h0 : 1 ≤ w) (h1 : w ≤ 198) (h2 : a < 25) (h3 : c < 25) (h4 : ¬ a = c) (h5 : sp_lay T (fun q => T (4 + q)) w 0 c a < 1000000) (h6 : sp_fst (sp_q1 T (fun q => T (4 + q)) w a c) 25 = 25) (h7 : sp_fst (sp_q3 T (fun q => T (4 + q)) w a c) 25 < 25) : mj_Ev E iX11_apart [.ref 100, .int (nI w), .int (nI a), .int (nI c), .int (nI 0)] h (mj_R (some (.int (nI 2))) (mj_up (mj_up h 105 (mj_ar 25 (fun q => T (4 + q)))) 106 (mj_ar 25 (sp_lay T (fun q => T (4 + q)) w (1 <<< sp_fst (sp_q3 T (fun q => T (4 + q)) w a c) 25 ||| 1 <<< sp_fst (sp_q2 T (fun q => T (4 + q)) w a c (sp_fst (sp_q3 T (fun q => T (4 + q)) w a c) 25)) 25) c)))) := by
  refine mj_Ev.of (L0 := [some (.ref 100), some (.int (nI w)), some (.int (nI a)), some (.int (nI c)), some (.int (nI 0)), none]) pnRX11 (Nat.le_of_ble_eq_true rfl) rfl ?_
  have hy8 := sp_q3_y h7
  refine gj_iload_n dX11_apart_0 rfl ?_
  refine gj_S1 lkX11_155 (ev_X11_isBurden_t (by omega) (by omega)) dX11_apart_1 rfl rfl rfl rfl rfl ?_
  refine gj_if_eqN (tgt := 37) (by omega) dX11_apart_4 rfl (fun zq0 => ?_) (fun zq0 => ?_)
  · exfalso; revert zq0; decide
  refine gj_iload_n dX11_apart_7 rfl ?_
  refine gj_S1 lkX11_70 (ev_X11_isCell_t (by omega) (by omega)) dX11_apart_8 rfl rfl rfl rfl rfl ?_
  refine gj_if_eqN (tgt := 37) (by omega) dX11_apart_11 rfl (fun zq0 => ?_) (fun zq0 => ?_)
  · exfalso; revert zq0; decide
  refine gj_iload_n dX11_apart_14 rfl ?_
  refine gj_S1 lkX11_70 (ev_X11_isCell_t (by omega) (by omega)) dX11_apart_15 rfl rfl rfl rfl rfl ?_
  refine gj_if_eqN (tgt := 37) (by omega) dX11_apart_18 rfl (fun zq0 => ?_) (fun zq0 => ?_)
  · exfalso; revert zq0; decide
  refine gj_iload_n dX11_apart_21 rfl ?_
  refine gj_iload_n dX11_apart_22 rfl ?_
  refine gj_icmp_eqN (tgt := 37) (by omega) (by omega) dX11_apart_23 rfl (fun zq1 => ?_) (fun zq1 => ?_)
  · exfalso; omega
  refine gj_iload dX11_apart_26 rfl ?_
  refine gj_i2lN (by omega) dX11_apart_28 ?_
  refine gj_lconst (v := lN 0) dX11_apart_29 rfl ?_
  refine gj_lconst (v := lN 1) dX11_apart_30 rfl ?_
  refine gj_S1 lkX11_50 (ev_X11_in_t (by omega) (by omega) (by omega)) dX11_apart_31 rfl rfl rfl rfl rfl ?_
  refine gj_if_neN (tgt := 44) (by omega) dX11_apart_34 rfl (fun zq0 => ?_) (fun zq0 => ?_)
  rotate_left
  · exfalso; revert zq0; decide
  refine gj_aload_n dX11_apart_44 rfl ?_
  refine gj_V0 lkX11_124 H0 rfl rfl (ev_X11_layIce H0 HT HJ bT) dX11_apart_45 rfl rfl rfl rfl rfl ?_
  refine gj_aload_n dX11_apart_48 rfl ?_
  refine gj_iload_n dX11_apart_49 rfl ?_
  refine gj_iload_n dX11_apart_50 rfl ?_
  refine gj_iload_n dX11_apart_51 rfl ?_
  refine gj_V1 lkX11_178 ((mj_up_ne (by decide)).trans H0) rfl rfl (ev_X11_partsOf_2 ((mj_up_ne (by decide)).trans H0) ((mj_up_ne (by decide)).trans HT) (mj_up_eq _ _ _) ((mj_up_ne (by decide)).trans HF) bT bT.2.2.2.2.2.1 (by omega) (by omega) (by omega) (by omega) (by omega) (by omega)) dX11_apart_52 rfl rfl rfl rfl rfl ?_
  refine gj_istore (L' := [some (.ref 100), some (.int (nI w)), some (.int (nI a)), some (.int (nI c)), some (.int (nI 0)), some (.int (nI (32 * sp_fst (sp_q3 T (fun q => T (4 + q)) w a c) 25 + sp_fst (sp_q2 T (fun q => T (4 + q)) w a c (sp_fst (sp_q3 T (fun q => T (4 + q)) w a c) 25)) 25)))]) dX11_apart_55 (Nat.le_of_ble_eq_true rfl) rfl ?_
  refine gj_iload dX11_apart_57 rfl ?_
  refine gj_ic (w := 1) dX11_apart_59 ?_
  refine gj_icmp_eqN (tgt := 68) (by omega) (by omega) dX11_apart_60 rfl (fun zq0 => ?_) (fun zq0 => ?_)
  · exfalso; omega
  refine gj_iload dX11_apart_63 rfl ?_
  refine gj_if_gtN (tgt := 73) (by omega) dX11_apart_65 rfl (fun zq2 => ?_) (fun zq2 => ?_)
  rotate_left
  · exfalso; omega
  refine gj_iload dX11_apart_73 rfl ?_
  refine gj_sp 992 dX11_apart_75 (by decide) ?_
  refine gj_icmp_ltN (tgt := 85) (by omega) (by omega) dX11_apart_78 rfl (fun zq3 => ?_) (fun zq3 => ?_)
  rotate_left
  · exfalso; omega
  refine gj_ic (w := 2) dX11_apart_85 ?_
  exact gj_ir rfl dX11_apart_86 rfl rfl rfl
set_option maxHeartbeats 1000000 in
set_option maxRecDepth 10000 in
theorem ev_X11_apart_2_1 {E : mj_E} {h : mj_H} {a0 a1 y2 y3 y4 y5 y6 : Nat} (H0 : h 100 = some (mj_mo a0 a1 y2 y3 y4 y5 y6)) {T : Nat → Nat} (HT : h 101 = some (mj_ar 362 T)) {J : Nat → Nat} (HJ : h 105 = some (mj_ar 25 J)) {F : Nat → Nat} (HF : h 106 = some (mj_ar 25 F)) (bT : mj_Tb T) {w a c : Nat} (h0 : 1 ≤ w) (h1 : w ≤ 198) (h2 : a < 25) (h3 : c < 25) (h4 : ¬ a = c) (h5 : sp_lay T (fun q => T (4 + q)) w 0 c a < 1000000) (h6 : sp_fst (sp_q1 T (fun q => T (4 + q)) w a c) 25 = 25) (h7 : sp_fst (sp_q3 T (fun q => T (4 + q)) w a c) 25 < 25) : mj_Ev E iX11_apart [.ref 100, .int (nI w), .int (nI a), .int (nI c), .int (nI 1)] h (mj_R (some (.int (nI (32 * sp_fst (sp_q3 T (fun q => T (4 + q)) w a c) 25 + sp_fst (sp_q2 T (fun q => T (4 + q)) w a c (sp_fst (sp_q3 T (fun q => T (4 + q)) w a c) 25)) 25)))) (mj_up (mj_up h 105 (mj_ar 25 (fun q => T (4 + q)))) 106 (mj_ar 25 (sp_lay T (fun q => T (4 + q)) w (1 <<< sp_fst (sp_q3 T (fun q => T (4 + q)) w a c) 25 ||| 1 <<< sp_fst (sp_q2 T (fun q => T (4 + q)) w a c (sp_fst (sp_q3 T (fun q => T (4 + q)) w a c) 25)) 25) c)))) := by
  refine mj_Ev.of (L0 := [some (.ref 100), some (.int (nI w)), some (.int (nI a)), some (.int (nI c)), some (.int (nI 1)), none]) pnRX11 (Nat.le_of_ble_eq_true rfl) rfl ?_
  have hy8 := sp_q3_y h7
  refine gj_iload_n dX11_apart_0 rfl ?_
  refine gj_S1 lkX11_155 (ev_X11_isBurden_t (by omega) (by omega)) dX11_apart_1 rfl rfl rfl rfl rfl ?_
  refine gj_if_eqN (tgt := 37) (by omega) dX11_apart_4 rfl (fun zq0 => ?_) (fun zq0 => ?_)
  · exfalso; revert zq0; decide
  refine gj_iload_n dX11_apart_7 rfl ?_
  refine gj_S1 lkX11_70 (ev_X11_isCell_t (by omega) (by omega)) dX11_apart_8 rfl rfl rfl rfl rfl ?_
  refine gj_if_eqN (tgt := 37) (by omega) dX11_apart_11 rfl (fun zq0 => ?_) (fun zq0 => ?_)
  · exfalso; revert zq0; decide
  refine gj_iload_n dX11_apart_14 rfl ?_
  refine gj_S1 lkX11_70 (ev_X11_isCell_t (by omega) (by omega)) dX11_apart_15 rfl rfl rfl rfl rfl ?_
  refine gj_if_eqN (tgt := 37) (by omega) dX11_apart_18 rfl (fun zq0 => ?_) (fun zq0 => ?_)
  · exfalso; revert zq0; decide
  refine gj_iload_n dX11_apart_21 rfl ?_
  refine gj_iload_n dX11_apart_22 rfl ?_
  refine gj_icmp_eqN (tgt := 37) (by omega) (by omega) dX11_apart_23 rfl (fun zq1 => ?_) (fun zq1 => ?_)
  · exfalso; omega
  refine gj_iload dX11_apart_26 rfl ?_
  refine gj_i2lN (by omega) dX11_apart_28 ?_
  refine gj_lconst (v := lN 0) dX11_apart_29 rfl ?_
  refine gj_lconst (v := lN 1) dX11_apart_30 rfl ?_
  refine gj_S1 lkX11_50 (ev_X11_in_t (by omega) (by omega) (by omega)) dX11_apart_31 rfl rfl rfl rfl rfl ?_
  refine gj_if_neN (tgt := 44) (by omega) dX11_apart_34 rfl (fun zq0 => ?_) (fun zq0 => ?_)
  rotate_left
  · exfalso; revert zq0; decide
  refine gj_aload_n dX11_apart_44 rfl ?_
  refine gj_V0 lkX11_124 H0 rfl rfl (ev_X11_layIce H0 HT HJ bT) dX11_apart_45 rfl rfl rfl rfl rfl ?_
  refine gj_aload_n dX11_apart_48 rfl ?_
  refine gj_iload_n dX11_apart_49 rfl ?_
  refine gj_iload_n dX11_apart_50 rfl ?_
  refine gj_iload_n dX11_apart_51 rfl ?_
  refine gj_V1 lkX11_178 ((mj_up_ne (by decide)).trans H0) rfl rfl (ev_X11_partsOf_2 ((mj_up_ne (by decide)).trans H0) ((mj_up_ne (by decide)).trans HT) (mj_up_eq _ _ _) ((mj_up_ne (by decide)).trans HF) bT bT.2.2.2.2.2.1 (by omega) (by omega) (by omega) (by omega) (by omega) (by omega)) dX11_apart_52 rfl rfl rfl rfl rfl ?_
  refine gj_istore (L' := [some (.ref 100), some (.int (nI w)), some (.int (nI a)), some (.int (nI c)), some (.int (nI 1)), some (.int (nI (32 * sp_fst (sp_q3 T (fun q => T (4 + q)) w a c) 25 + sp_fst (sp_q2 T (fun q => T (4 + q)) w a c (sp_fst (sp_q3 T (fun q => T (4 + q)) w a c) 25)) 25)))]) dX11_apart_55 (Nat.le_of_ble_eq_true rfl) rfl ?_
  refine gj_iload dX11_apart_57 rfl ?_
  refine gj_ic (w := 1) dX11_apart_59 ?_
  refine gj_icmp_eqN (tgt := 68) (by omega) (by omega) dX11_apart_60 rfl (fun zq0 => ?_) (fun zq0 => ?_)
  rotate_left
  · exfalso; omega
  refine gj_iload dX11_apart_68 rfl ?_
  refine gj_goto (tgt := 86) dX11_apart_70 rfl ?_
  exact gj_ir rfl dX11_apart_86 rfl rfl rfl
set_option maxHeartbeats 1000000 in
set_option maxRecDepth 10000 in
theorem ev_X11_apart_n_0 {E : mj_E} {h : mj_H} {a0 a1 y2 y3 y4 y5 y6 : Nat} (H0 : h 100 = some (mj_mo a0 a1 y2 y3 y4 y5 y6)) {T : Nat → Nat} (HT : h 101 = some (mj_ar 362 T)) {J : Nat → Nat} (HJ : h 105 = some (mj_ar 25 J)) {F : Nat → Nat} (HF : h 106 = some (mj_ar 25 F)) (bT : mj_Tb T) {w a c : Nat} (h0 : 1 ≤ w) (h1 : w ≤ 198) (h2 : a < 25) (h3 : c < 25) (h4 : ¬ a = c) (h5 : sp_lay T (fun q => T (4 + q)) w 0 c a < 1000000) (h6 : sp_fst (sp_q1 T (fun q => T (4 + q)) w a c) 25 = 25) (h7 : ∀ i, i < 25 → sp_fst (sp_q2 T (fun q => T (4 + q)) w a c i) 25 = 25) : mj_Ev E iX11_apart [.ref 100, .int (nI w), .int (nI a), .int (nI c), .int (nI 0)] h (mj_R (some (.int (nI 4294967295))) (mj_up (mj_up h 105 (mj_ar 25 (fun q => T (4 + q)))) 106 (mj_ar 25 (sp_g2 T (fun q => T (4 + q)) w a c 25)))) := by
  refine mj_Ev.of (L0 := [some (.ref 100), some (.int (nI w)), some (.int (nI a)), some (.int (nI c)), some (.int (nI 0)), none]) pnRX11 (Nat.le_of_ble_eq_true rfl) rfl ?_
  have hno9 := h7
  refine gj_iload_n dX11_apart_0 rfl ?_
  refine gj_S1 lkX11_155 (ev_X11_isBurden_t (by omega) (by omega)) dX11_apart_1 rfl rfl rfl rfl rfl ?_
  refine gj_if_eqN (tgt := 37) (by omega) dX11_apart_4 rfl (fun zq0 => ?_) (fun zq0 => ?_)
  · exfalso; revert zq0; decide
  refine gj_iload_n dX11_apart_7 rfl ?_
  refine gj_S1 lkX11_70 (ev_X11_isCell_t (by omega) (by omega)) dX11_apart_8 rfl rfl rfl rfl rfl ?_
  refine gj_if_eqN (tgt := 37) (by omega) dX11_apart_11 rfl (fun zq0 => ?_) (fun zq0 => ?_)
  · exfalso; revert zq0; decide
  refine gj_iload_n dX11_apart_14 rfl ?_
  refine gj_S1 lkX11_70 (ev_X11_isCell_t (by omega) (by omega)) dX11_apart_15 rfl rfl rfl rfl rfl ?_
  refine gj_if_eqN (tgt := 37) (by omega) dX11_apart_18 rfl (fun zq0 => ?_) (fun zq0 => ?_)
  · exfalso; revert zq0; decide
  refine gj_iload_n dX11_apart_21 rfl ?_
  refine gj_iload_n dX11_apart_22 rfl ?_
  refine gj_icmp_eqN (tgt := 37) (by omega) (by omega) dX11_apart_23 rfl (fun zq1 => ?_) (fun zq1 => ?_)
  · exfalso; omega
  refine gj_iload dX11_apart_26 rfl ?_
  refine gj_i2lN (by omega) dX11_apart_28 ?_
  refine gj_lconst (v := lN 0) dX11_apart_29 rfl ?_
  refine gj_lconst (v := lN 1) dX11_apart_30 rfl ?_
  refine gj_S1 lkX11_50 (ev_X11_in_t (by omega) (by omega) (by omega)) dX11_apart_31 rfl rfl rfl rfl rfl ?_
  refine gj_if_neN (tgt := 44) (by omega) dX11_apart_34 rfl (fun zq0 => ?_) (fun zq0 => ?_)
  rotate_left
  · exfalso; revert zq0; decide
  refine gj_aload_n dX11_apart_44 rfl ?_
  refine gj_V0 lkX11_124 H0 rfl rfl (ev_X11_layIce H0 HT HJ bT) dX11_apart_45 rfl rfl rfl rfl rfl ?_
  refine gj_aload_n dX11_apart_48 rfl ?_
  refine gj_iload_n dX11_apart_49 rfl ?_
  refine gj_iload_n dX11_apart_50 rfl ?_
  refine gj_iload_n dX11_apart_51 rfl ?_
  refine gj_V1 lkX11_178 ((mj_up_ne (by decide)).trans H0) rfl rfl (ev_X11_partsOf_n ((mj_up_ne (by decide)).trans H0) ((mj_up_ne (by decide)).trans HT) (mj_up_eq _ _ _) ((mj_up_ne (by decide)).trans HF) bT bT.2.2.2.2.2.1 (by omega) (by omega) (by omega) (by omega) (by omega) hno9) dX11_apart_52 rfl rfl rfl rfl rfl ?_
  refine gj_istore (L' := [some (.ref 100), some (.int (nI w)), some (.int (nI a)), some (.int (nI c)), some (.int (nI 0)), some (.int (nI 4294967295))]) dX11_apart_55 (Nat.le_of_ble_eq_true rfl) rfl ?_
  refine gj_iload dX11_apart_57 rfl ?_
  refine gj_ic (w := 1) dX11_apart_59 ?_
  refine gj_icmp_eqN (tgt := 68) (by omega) (by omega) dX11_apart_60 rfl (fun zq0 => ?_) (fun zq0 => ?_)
  · exfalso; omega
  refine gj_iload dX11_apart_63 rfl ?_
  refine gj_if_gt (tgt := 73) dX11_apart_65 rfl (fun zq2 => ?_) (fun zq2 => ?_)
  · exfalso; revert zq2; decide
  refine gj_iload dX11_apart_68 rfl ?_
  refine gj_goto (tgt := 86) dX11_apart_70 rfl ?_
  exact gj_ir rfl dX11_apart_86 rfl rfl rfl
set_option maxHeartbeats 1000000 in
set_option maxRecDepth 10000 in
theorem ev_X11_apart_n_1 {E : mj_E} {h : mj_H} {a0 a1 y2 y3 y4 y5 y6 : Nat} (H0 : h 100 = some (mj_mo a0 a1 y2 y3 y4 y5 y6)) {T : Nat → Nat} (HT : h 101 = some (mj_ar 362 T)) {J : Nat → Nat} (HJ : h 105 = some (mj_ar 25 J)) {F : Nat → Nat} (HF : h 106 = some (mj_ar 25 F)) (bT : mj_Tb T) {w a c : Nat} (h0 : 1 ≤ w) (h1 : w ≤ 198) (h2 : a < 25) (h3 : c < 25) (h4 : ¬ a = c) (h5 : sp_lay T (fun q => T (4 + q)) w 0 c a < 1000000) (h6 : sp_fst (sp_q1 T (fun q => T (4 + q)) w a c) 25 = 25) (h7 : ∀ i, i < 25 → sp_fst (sp_q2 T (fun q => T (4 + q)) w a c i) 25 = 25) : mj_Ev E iX11_apart [.ref 100, .int (nI w), .int (nI a), .int (nI c), .int (nI 1)] h (mj_R (some (.int (nI 4294967295))) (mj_up (mj_up h 105 (mj_ar 25 (fun q => T (4 + q)))) 106 (mj_ar 25 (sp_g2 T (fun q => T (4 + q)) w a c 25)))) := by
  refine mj_Ev.of (L0 := [some (.ref 100), some (.int (nI w)), some (.int (nI a)), some (.int (nI c)), some (.int (nI 1)), none]) pnRX11 (Nat.le_of_ble_eq_true rfl) rfl ?_
  have hno9 := h7
  refine gj_iload_n dX11_apart_0 rfl ?_
  refine gj_S1 lkX11_155 (ev_X11_isBurden_t (by omega) (by omega)) dX11_apart_1 rfl rfl rfl rfl rfl ?_
  refine gj_if_eqN (tgt := 37) (by omega) dX11_apart_4 rfl (fun zq0 => ?_) (fun zq0 => ?_)
  · exfalso; revert zq0; decide
  refine gj_iload_n dX11_apart_7 rfl ?_
  refine gj_S1 lkX11_70 (ev_X11_isCell_t (by omega) (by omega)) dX11_apart_8 rfl rfl rfl rfl rfl ?_
  refine gj_if_eqN (tgt := 37) (by omega) dX11_apart_11 rfl (fun zq0 => ?_) (fun zq0 => ?_)
  · exfalso; revert zq0; decide
  refine gj_iload_n dX11_apart_14 rfl ?_
  refine gj_S1 lkX11_70 (ev_X11_isCell_t (by omega) (by omega)) dX11_apart_15 rfl rfl rfl rfl rfl ?_
  refine gj_if_eqN (tgt := 37) (by omega) dX11_apart_18 rfl (fun zq0 => ?_) (fun zq0 => ?_)
  · exfalso; revert zq0; decide
  refine gj_iload_n dX11_apart_21 rfl ?_
  refine gj_iload_n dX11_apart_22 rfl ?_
  refine gj_icmp_eqN (tgt := 37) (by omega) (by omega) dX11_apart_23 rfl (fun zq1 => ?_) (fun zq1 => ?_)
  · exfalso; omega
  refine gj_iload dX11_apart_26 rfl ?_
  refine gj_i2lN (by omega) dX11_apart_28 ?_
  refine gj_lconst (v := lN 0) dX11_apart_29 rfl ?_
  refine gj_lconst (v := lN 1) dX11_apart_30 rfl ?_
  refine gj_S1 lkX11_50 (ev_X11_in_t (by omega) (by omega) (by omega)) dX11_apart_31 rfl rfl rfl rfl rfl ?_
  refine gj_if_neN (tgt := 44) (by omega) dX11_apart_34 rfl (fun zq0 => ?_) (fun zq0 => ?_)
  rotate_left
  · exfalso; revert zq0; decide
  refine gj_aload_n dX11_apart_44 rfl ?_
  refine gj_V0 lkX11_124 H0 rfl rfl (ev_X11_layIce H0 HT HJ bT) dX11_apart_45 rfl rfl rfl rfl rfl ?_
  refine gj_aload_n dX11_apart_48 rfl ?_
  refine gj_iload_n dX11_apart_49 rfl ?_
  refine gj_iload_n dX11_apart_50 rfl ?_
  refine gj_iload_n dX11_apart_51 rfl ?_
  refine gj_V1 lkX11_178 ((mj_up_ne (by decide)).trans H0) rfl rfl (ev_X11_partsOf_n ((mj_up_ne (by decide)).trans H0) ((mj_up_ne (by decide)).trans HT) (mj_up_eq _ _ _) ((mj_up_ne (by decide)).trans HF) bT bT.2.2.2.2.2.1 (by omega) (by omega) (by omega) (by omega) (by omega) hno9) dX11_apart_52 rfl rfl rfl rfl rfl ?_
  refine gj_istore (L' := [some (.ref 100), some (.int (nI w)), some (.int (nI a)), some (.int (nI c)), some (.int (nI 1)), some (.int (nI 4294967295))]) dX11_apart_55 (Nat.le_of_ble_eq_true rfl) rfl ?_
  refine gj_iload dX11_apart_57 rfl ?_
  refine gj_ic (w := 1) dX11_apart_59 ?_
  refine gj_icmp_eqN (tgt := 68) (by omega) (by omega) dX11_apart_60 rfl (fun zq0 => ?_) (fun zq0 => ?_)
  rotate_left
  · exfalso; omega
  refine gj_iload dX11_apart_68 rfl ?_
  refine gj_goto (tgt := 86) dX11_apart_70 rfl ?_
  exact gj_ir rfl dX11_apart_86 rfl rfl rfl
