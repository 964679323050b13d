def sp_cka (k : Nat → Nat) (v : Nat) (A : Nat → Nat) (m : Nat) : Nat → Nat := mj_fo (fun i A => mj_un A (30 + k i) v) A m
theorem sp_cka_s {k : Nat → Nat} {v : Nat} {A : Nat → Nat} {m : Nat} : sp_cka k v A (m + 1) = mj_un (sp_cka k v A m) (30 + k m) v := mj_fo_s
def sp_wc (k : Nat → Nat) (W : Nat → Nat) (m : Nat) : Nat → Nat := mj_fo (fun i W => mj_un W 1 (k i)) W m
theorem sp_wc_s {k : Nat → Nat} {W : Nat → Nat} {m : Nat} : sp_wc k W (m + 1) = mj_un (sp_wc k W m) 1 (k m) := mj_fo_s
theorem sp_wc_0 {k : Nat → Nat} {W : Nat → Nat} {m : Nat} : sp_wc k W m 0 = W 0 := by
  induction m with
  | zero => rfl
  | succ m ih => rw [sp_wc_s, mj_un_ne (by decide)]; exact ih
def sp_wka (k l : Nat → Nat) (A : Nat → Nat) (m : Nat) : Nat → Nat := mj_fo (fun i A => mj_un (mj_un A (55 + i) (k i)) (62 + i) (l i)) A m
theorem sp_wka_s {k l : Nat → Nat} {A : Nat → Nat} {m : Nat} : sp_wka k l A (m + 1) = mj_un (mj_un (sp_wka k l A m) (55 + m) (k m)) (62 + m) (l m) := mj_fo_s
def sp_wv (k l : Nat → Nat) (W : Nat → Nat) (m : Nat) : Nat → Nat := mj_fo (fun i W => mj_un (mj_un W 0 (k i)) 1 (l i)) W m
theorem sp_wv_s {k l : Nat → Nat} {W : Nat → Nat} {m : Nat} : sp_wv k l W (m + 1) = mj_un (mj_un (sp_wv k l W m) 0 (k m)) 1 (l m) := mj_fo_s
set_option maxHeartbeats 1000000 in
set_option maxRecDepth 10000 in
theorem ev_X11_rd_lake_0 {E : mj_E} {h : mj_H} {a0 a1 y2 t : Nat} {B : Nat → Nat} (H0 : h 100 = some (mj_mo a0 a1 y2 (sp_ss B y2 t) (sp_ps B y2 (t + 1) - sp_ss B y2 t) (sp_xkt B y2 t) (sp_xvt B y2 t))) (HB : h 107 = some (mj_ar 150 B)) (h0 : ∀ c, B c ≤ 127) (h1 : y2 ≤ 150) (h2 : ¬ sp_tt B y2 t = 4294967292) : mj_Ev E iX11_takesLake [.ref 100] h (mj_R (some (.int (mj_b false))) h) := by
  have hB := h0
  refine mj_Ev.of (L0 := [some (.ref 100)]) pnRX11 (Nat.le_of_ble_eq_true rfl) rfl ?_
  refine gj_aload_n dX11_takesLake_0 rfl ?_
  refine gj_ic (w := 4) dX11_takesLake_1 ?_
  refine gj_bp 108 dX11_takesLake_2 (by decide) ?_
  refine gj_bp 97 dX11_takesLake_4 (by decide) ?_
  refine gj_bp 107 dX11_takesLake_6 (by decide) ?_
  refine gj_bp 101 dX11_takesLake_8 (by decide) ?_
  refine gj_ic (w := 0) dX11_takesLake_10 ?_
  refine gj_ic (w := 0) dX11_takesLake_11 ?_
  refine gj_V1 lkX11_266 H0 rfl rfl (ev_X11_spells_w0 (t := t) H0 HB hB (by omega)) dX11_takesLake_12 rfl rfl rfl rfl rfl ?_
  refine gj_topB (y := decide (sp_tt B y2 t = 4294967292)) (sp_spl0 (t := t) hB) ?_
  refine gj_if_neb (tgt := 20) dX11_takesLake_15 rfl (fun zq1 => ?_) (fun zq1 => ?_)
  · exfalso; exact h2 (of_decide_eq_true zq1)
  refine gj_ic (w := 0) dX11_takesLake_18 ?_
  exact gj_zr rfl dX11_takesLake_19 rfl (mj_b0 (by decide)) rfl
set_option maxHeartbeats 1000000 in
set_option maxRecDepth 10000 in
theorem ev_X11_rd_lake_1 {E : mj_E} {h : mj_H} {a0 a1 y2 t : Nat} {B : Nat → Nat} (H0 : h 100 = some (mj_mo a0 a1 y2 (sp_ss B y2 t) (sp_ps B y2 (t + 1) - sp_ss B y2 t) (sp_xkt B y2 t) (sp_xvt B y2 t))) (HB : h 107 = some (mj_ar 150 B)) (h0 : ∀ c, B c ≤ 127) (h1 : y2 ≤ 150) (h2 : sp_tt B y2 t = 4294967292) (h3 : ¬ sp_tt B y2 (t + 1) ≤ 99) : mj_Ev E iX11_takesLake [.ref 100] h (mj_R (some (.int (mj_b false))) (mj_up (h) 100 (mj_mo a0 a1 y2 (sp_ss B y2 (t + 1)) (sp_ps B y2 (t + 1 + 1) - sp_ss B y2 (t + 1)) (sp_xkt B y2 (t + 1)) (sp_xvt B y2 (t + 1))))) := by
  have hB := h0
  refine mj_Ev.of (L0 := [some (.ref 100)]) pnRX11 (Nat.le_of_ble_eq_true rfl) rfl ?_
  refine gj_aload_n dX11_takesLake_0 rfl ?_
  refine gj_ic (w := 4) dX11_takesLake_1 ?_
  refine gj_bp 108 dX11_takesLake_2 (by decide) ?_
  refine gj_bp 97 dX11_takesLake_4 (by decide) ?_
  refine gj_bp 107 dX11_takesLake_6 (by decide) ?_
  refine gj_bp 101 dX11_takesLake_8 (by decide) ?_
  refine gj_ic (w := 0) dX11_takesLake_10 ?_
  refine gj_ic (w := 0) dX11_takesLake_11 ?_
  refine gj_V1 lkX11_266 H0 rfl rfl (ev_X11_spells_w0 (t := t) H0 HB hB (by omega)) dX11_takesLake_12 rfl rfl rfl rfl rfl ?_
  refine gj_topB (y := decide (sp_tt B y2 t = 4294967292)) (sp_spl0 (t := t) hB) ?_
  refine gj_if_neb (tgt := 20) dX11_takesLake_15 rfl (fun zq1 => ?_) (fun zq1 => ?_)
  rotate_left
  · exfalso; exact absurd zq1 (by rw [decide_eq_true h2]; decide)
  refine gj_aload_n dX11_takesLake_20 rfl ?_
  refine gj_V0 lkX11_263 H0 rfl rfl (ev_X11_goBehind (t := t) H0 HB hB (by omega)) dX11_takesLake_21 rfl rfl rfl rfl rfl ?_
  refine gj_aload_n dX11_takesLake_24 rfl ?_
  refine gj_ic (w := 0) dX11_takesLake_25 ?_
  refine gj_ic (w := 0) dX11_takesLake_26 ?_
  refine gj_bp 99 dX11_takesLake_27 (by decide) ?_
  refine gj_V1 lkX11_270 (mj_up_eq _ _ _) rfl rfl (ev_X11_takes_f (t := t + 1) (mj_up_eq _ _ _) ((mj_up_ne (by decide)).trans HB) hB (by omega) (by omega) (by decide) (by decide)) dX11_takesLake_29 rfl rfl rfl rfl rfl ?_
  refine gj_if_neb (tgt := 37) dX11_takesLake_32 rfl (fun zq2 => ?_) (fun zq2 => ?_)
  · exfalso; exact nomatch zq2
  refine gj_ic (w := 0) dX11_takesLake_35 ?_
  exact gj_zr rfl dX11_takesLake_36 rfl (mj_b0 (by decide)) rfl
set_option maxHeartbeats 1000000 in
set_option maxRecDepth 10000 in
theorem ev_X11_rd_lake_2 {E : mj_E} {h : mj_H} {a0 a1 y2 t : Nat} {B : Nat → Nat} (H0 : h 100 = some (mj_mo a0 a1 y2 (sp_ss B y2 t) (sp_ps B y2 (t + 1) - sp_ss B y2 t) (sp_xkt B y2 t) (sp_xvt B y2 t))) (HB : h 107 = some (mj_ar 150 B)) {A : Nat → Nat} (HA : h 108 = some (mj_ar 154 A)) {W : Nat → Nat} (HW : h 109 = some (mj_ar 3 W)) (h0 : ∀ c, B c ≤ 127) (h1 : y2 ≤ 150) (h2 : sp_tt B y2 t = 4294967292) (h3 : sp_tt B y2 (t + 1) ≤ 99) : mj_Ev E iX11_takesLake [.ref 100] h (mj_R (some (.int (mj_b (decide (sp_tt B y2 (t + 2) = 4294967294))))) (mj_up (mj_up (mj_up (h) 100 (mj_mo a0 a1 y2 (sp_ss B y2 (t + 2)) (sp_ps B y2 (t + 2 + 1) - sp_ss B y2 (t + 2)) (sp_xkt B y2 (t + 2)) (sp_xvt B y2 (t + 2)))) 108 (mj_ar 154 (sp_beg A (sp_tt B y2 (t + 1))))) 109 (mj_ar 3 (mj_un W 0 (sp_tt B y2 (t + 1)))))) := by
  have hB := h0
  refine mj_Ev.of (L0 := [some (.ref 100)]) pnRX11 (Nat.le_of_ble_eq_true rfl) rfl ?_
  refine gj_aload_n dX11_takesLake_0 rfl ?_
  refine gj_ic (w := 4) dX11_takesLake_1 ?_
  refine gj_bp 108 dX11_takesLake_2 (by decide) ?_
  refine gj_bp 97 dX11_takesLake_4 (by decide) ?_
  refine gj_bp 107 dX11_takesLake_6 (by decide) ?_
  refine gj_bp 101 dX11_takesLake_8 (by decide) ?_
  refine gj_ic (w := 0) dX11_takesLake_10 ?_
  refine gj_ic (w := 0) dX11_takesLake_11 ?_
  refine gj_V1 lkX11_266 H0 rfl rfl (ev_X11_spells_w0 (t := t) H0 HB hB (by omega)) dX11_takesLake_12 rfl rfl rfl rfl rfl ?_
  refine gj_topB (y := decide (sp_tt B y2 t = 4294967292)) (sp_spl0 (t := t) hB) ?_
  refine gj_if_neb (tgt := 20) dX11_takesLake_15 rfl (fun zq1 => ?_) (fun zq1 => ?_)
  rotate_left
  · exfalso; exact absurd zq1 (by rw [decide_eq_true h2]; decide)
  refine gj_aload_n dX11_takesLake_20 rfl ?_
  refine gj_V0 lkX11_263 H0 rfl rfl (ev_X11_goBehind (t := t) H0 HB hB (by omega)) dX11_takesLake_21 rfl rfl rfl rfl rfl ?_
  refine gj_aload_n dX11_takesLake_24 rfl ?_
  refine gj_ic (w := 0) dX11_takesLake_25 ?_
  refine gj_ic (w := 0) dX11_takesLake_26 ?_
  refine gj_bp 99 dX11_takesLake_27 (by decide) ?_
  refine gj_V1 lkX11_270 (mj_up_eq _ _ _) rfl rfl (ev_X11_takes_t (t := t + 1) (mj_up_eq _ _ _) ((mj_up_ne (by decide)).trans HB) ((mj_up_ne (by decide)).trans HW) hB (by omega) (by decide) (by omega) (by omega) (by decide)) dX11_takesLake_29 rfl rfl rfl rfl rfl ?_
  refine gj_cast (h' := mj_up (mj_up h 100 (.inr (9, [.ref 101, .ref 102, .ref 103, .ref 104, .long (lN a0), .long (lN a1), .ref 105, .ref 106, .ref 107, .int (nI y2), .int (nI (sp_ss B y2 (t + 2))), .int (nI (sp_ps B y2 (t + 2 + 1) - sp_ss B y2 (t + 2))), .int (nI (sp_xkt B y2 (t + 2))), .int (nI (sp_xvt B y2 (t + 2))), .ref 108, .ref 109]))) 109 (mj_ar 3 (mj_un W 0 (sp_tt B y2 (t + 1))))) rfl rfl (by funext x; unfold mj_up; (repeat' split) <;> first | rfl | omega) ?_
  refine gj_if_neb (tgt := 37) dX11_takesLake_32 rfl (fun zq2 => ?_) (fun zq2 => ?_)
  rotate_left
  · exfalso; exact nomatch zq2
  refine gj_aload_n dX11_takesLake_37 rfl ?_
  refine gfX11_36 rfl dX11_takesLake_38 ((mj_up_ne (by decide)).trans (mj_up_eq _ _ _)) rfl ?_
  refine gj_aload_n dX11_takesLake_41 rfl ?_
  refine gfX11_39 rfl dX11_takesLake_42 ((mj_up_ne (by decide)).trans (mj_up_eq _ _ _)) rfl ?_
  refine gj_ic (w := 0) dX11_takesLake_45 ?_
  refine gj_ialdN dX11_takesLake_46 (mj_up_eq _ _ _) (by omega) (by omega) ?_
  refine gj_topN (mj_un_eq _ _ _) ?_
  refine gj_S0 lkX11_42 (ev_X11_begin ((mj_up_ne (by decide)).trans ((mj_up_ne (by decide)).trans HA)) (by omega) (by omega)) dX11_takesLake_47 rfl rfl rfl rfl rfl ?_
  refine gj_cast (h' := mj_up (mj_up (mj_up h 100 (.inr (9, [.ref 101, .ref 102, .ref 103, .ref 104, .long (lN a0), .long (lN a1), .ref 105, .ref 106, .ref 107, .int (nI y2), .int (nI (sp_ss B y2 (t + 2))), .int (nI (sp_ps B y2 (t + 2 + 1) - sp_ss B y2 (t + 2))), .int (nI (sp_xkt B y2 (t + 2))), .int (nI (sp_xvt B y2 (t + 2))), .ref 108, .ref 109]))) 108 (mj_ar 154 (sp_beg A (sp_tt B y2 (t + 1))))) 109 (mj_ar 3 (mj_un W 0 (sp_tt B y2 (t + 1))))) rfl rfl (by funext x; unfold mj_up; (repeat' split) <;> first | rfl | omega) ?_
  refine gj_aload_n dX11_takesLake_50 rfl ?_
  refine gfX11_248 rfl dX11_takesLake_51 ((mj_up_ne (by decide)).trans ((mj_up_ne (by decide)).trans (mj_up_eq _ _ _))) rfl ?_
  have hxl := @sp_xkt_le B y2 (t + 2)
  refine gj_ic (w := 3) dX11_takesLake_54 ?_
  refine gj_icmp_neN (tgt := 62) (by omega) (by omega) dX11_takesLake_55 rfl (fun zq3 => ?_) (fun zq3 => ?_)
  · -- 55 taken
    have hs9 : ¬ sp_tt B y2 (t + 2) = 4294967294 := fun z => zq3 ((sp_tt_stop hB).mpr z)
    refine gj_ic (w := 0) dX11_takesLake_62 ?_
    exact gj_zr rfl dX11_takesLake_63 rfl (mj_b0 (by first | exact decide_eq_true hs9 | exact decide_eq_false hs9)) rfl
  have hs9 : sp_tt B y2 (t + 2) = 4294967294 := (sp_tt_stop hB).mp zq3
  refine gj_ic (w := 1) dX11_takesLake_58 ?_
  refine gj_goto (tgt := 63) dX11_takesLake_59 rfl ?_
  exact gj_zr rfl dX11_takesLake_63 rfl (mj_b1 (by first | exact decide_eq_true hs9 | exact decide_eq_false hs9)) rfl
set_option maxHeartbeats 1000000 in
set_option maxRecDepth 10000 in
theorem ev_X11_rd_cell_k {E : mj_E} {h : mj_H} {a0 a1 y2 t : Nat} {B : Nat → Nat} (H0 : h 100 = some (mj_mo a0 a1 y2 (sp_ss B y2 t) (sp_ps B y2 (t + 1) - sp_ss B y2 t) (sp_xkt B y2 t) (sp_xvt B y2 t))) (HB : h 107 = some (mj_ar 150 B)) (h0 : ∀ c, B c ≤ 127) (h1 : y2 ≤ 150) (h2 : ¬ sp_tt B y2 (t + 1) ≤ 5) : mj_Ev E iX11_takesCell [.ref 100] h (mj_R (some (.int (mj_b false))) (mj_up (h) 100 (mj_mo a0 a1 y2 (sp_ss B y2 (t + 1)) (sp_ps B y2 (t + 1 + 1) - sp_ss B y2 (t + 1)) (sp_xkt B y2 (t + 1)) (sp_xvt B y2 (t + 1))))) := by
  have hB := h0
  refine mj_Ev.of (L0 := [some (.ref 100)]) pnRX11 (Nat.le_of_ble_eq_true rfl) rfl ?_
  refine gj_aload_n dX11_takesCell_0 rfl ?_
  refine gj_V0 lkX11_263 H0 rfl rfl (ev_X11_goBehind (t := t) H0 HB hB (by omega)) dX11_takesCell_1 rfl rfl rfl rfl rfl ?_
  refine gj_aload_n dX11_takesCell_4 rfl ?_
  refine gj_ic (w := 0) dX11_takesCell_5 ?_
  refine gj_ic (w := 0) dX11_takesCell_6 ?_
  refine gj_ic (w := 5) dX11_takesCell_7 ?_
  refine gj_V1 lkX11_270 (mj_up_eq _ _ _) rfl rfl (ev_X11_takes_f (t := t + 1) (mj_up_eq _ _ _) ((mj_up_ne (by decide)).trans HB) hB (by omega) (by omega) (by decide) (by decide)) dX11_takesCell_8 rfl rfl rfl rfl rfl ?_
  refine gj_if_eqb (tgt := 25) dX11_takesCell_11 rfl (fun zq1 => ?_) (fun zq1 => ?_)
  rotate_left
  · exfalso; exact nomatch zq1
  refine gj_ic (w := 0) dX11_takesCell_25 ?_
  exact gj_zr rfl dX11_takesCell_26 rfl (mj_b0 (by decide)) rfl
set_option maxHeartbeats 1000000 in
set_option maxRecDepth 10000 in
theorem ev_X11_rd_cell_k2 {E : mj_E} {h : mj_H} {a0 a1 y2 t : Nat} {B : Nat → Nat} (H0 : h 100 = some (mj_mo a0 a1 y2 (sp_ss B y2 t) (sp_ps B y2 (t + 1) - sp_ss B y2 t) (sp_xkt B y2 t) (sp_xvt B y2 t))) (HB : h 107 = some (mj_ar 150 B)) {W : Nat → Nat} (HW : h 109 = some (mj_ar 3 W)) (h0 : ∀ c, B c ≤ 127) (h1 : y2 ≤ 150) (h2 : sp_tt B y2 (t + 1) ≤ 5) (h3 : ¬ sp_tt B y2 (t + 2) ≤ 24) : mj_Ev E iX11_takesCell [.ref 100] h (mj_R (some (.int (mj_b false))) (mj_up (mj_up (h) 100 (mj_mo a0 a1 y2 (sp_ss B y2 (t + 2)) (sp_ps B y2 (t + 2 + 1) - sp_ss B y2 (t + 2)) (sp_xkt B y2 (t + 2)) (sp_xvt B y2 (t + 2)))) 109 (mj_ar 3 (mj_un W 0 (sp_tt B y2 (t + 1)))))) := by
  have hB := h0
  refine mj_Ev.of (L0 := [some (.ref 100)]) pnRX11 (Nat.le_of_ble_eq_true rfl) rfl ?_
  refine gj_aload_n dX11_takesCell_0 rfl ?_
  refine gj_V0 lkX11_263 H0 rfl rfl (ev_X11_goBehind (t := t) H0 HB hB (by omega)) dX11_takesCell_1 rfl rfl rfl rfl rfl ?_
  refine gj_aload_n dX11_takesCell_4 rfl ?_
  refine gj_ic (w := 0) dX11_takesCell_5 ?_
  refine gj_ic (w := 0) dX11_takesCell_6 ?_
  refine gj_ic (w := 5) dX11_takesCell_7 ?_
  refine gj_V1 lkX11_270 (mj_up_eq _ _ _) rfl rfl (ev_X11_takes_t (t := t + 1) (mj_up_eq _ _ _) ((mj_up_ne (by decide)).trans HB) ((mj_up_ne (by decide)).trans HW) hB (by omega) (by decide) (by omega) (by omega) (by decide)) dX11_takesCell_8 rfl rfl rfl rfl rfl ?_
  refine gj_cast (h' := mj_up (mj_up h 100 (.inr (9, [.ref 101, .ref 102, .ref 103, .ref 104, .long (lN a0), .long (lN a1), .ref 105, .ref 106, .ref 107, .int (nI y2), .int (nI (sp_ss B y2 (t + 2))), .int (nI (sp_ps B y2 (t + 2 + 1) - sp_ss B y2 (t + 2))), .int (nI (sp_xkt B y2 (t + 2))), .int (nI (sp_xvt B y2 (t + 2))), .ref 108, .ref 109]))) 109 (mj_ar 3 (mj_un W 0 (sp_tt B y2 (t + 1))))) rfl rfl (by funext x; unfold mj_up; (repeat' split) <;> first | rfl | omega) ?_
  refine gj_if_eqb (tgt := 25) dX11_takesCell_11 rfl (fun zq1 => ?_) (fun zq1 => ?_)
  · exfalso; exact nomatch zq1
  refine gj_aload_n dX11_takesCell_14 rfl ?_
  refine gj_ic (w := 1) dX11_takesCell_15 ?_
  refine gj_ic (w := 0) dX11_takesCell_16 ?_
  refine gj_bp 24 dX11_takesCell_17 (by decide) ?_
  refine gj_V1 lkX11_270 ((mj_up_ne (by decide)).trans (mj_up_eq _ _ _)) rfl rfl (ev_X11_takes_f (t := t + 2) ((mj_up_ne (by decide)).trans (mj_up_eq _ _ _)) ((mj_up_ne (by decide)).trans ((mj_up_ne (by decide)).trans HB)) hB (by omega) (by omega) (by decide) (by decide)) dX11_takesCell_19 rfl rfl rfl rfl rfl ?_
  refine gj_if_neb (tgt := 27) dX11_takesCell_22 rfl (fun zq2 => ?_) (fun zq2 => ?_)
  · exfalso; exact nomatch zq2
  refine gj_ic (w := 0) dX11_takesCell_25 ?_
  exact gj_zr rfl dX11_takesCell_26 rfl (mj_b0 (by decide)) rfl
set_option maxHeartbeats 1000000 in
set_option maxRecDepth 10000 in
theorem ev_X11_rd_cell {E : mj_E} {h : mj_H} {a0 a1 y2 t : Nat} {B : Nat → Nat} (H0 : h 100 = some (mj_mo a0 a1 y2 (sp_ss B y2 t) (sp_ps B y2 (t + 1) - sp_ss B y2 t) (sp_xkt B y2 t) (sp_xvt B y2 t))) (HB : h 107 = some (mj_ar 150 B)) {A : Nat → Nat} (HA : h 108 = some (mj_ar 154 A)) {W : Nat → Nat} (HW : h 109 = some (mj_ar 3 W)) (h0 : ∀ c, B c ≤ 127) (h1 : y2 ≤ 150) (h2 : sp_tt B y2 (t + 1) ≤ 5) (h3 : sp_tt B y2 (t + 1 + 0 + 1) ≤ 24) (h4 : t + 1 < sp_tE B y2) : mj_Ev E iX11_takesCell [.ref 100] h (mj_R (some (.int (mj_b true))) (mj_up (mj_up (mj_up (h) 100 (mj_mo a0 a1 y2 (sp_ss B y2 (t + 1 + (sp_fst (sp_cmp B y2 (t + 1)) 150) + 1)) (sp_ps B y2 (t + 1 + (sp_fst (sp_cmp B y2 (t + 1)) 150) + 1 + 1) - sp_ss B y2 (t + 1 + (sp_fst (sp_cmp B y2 (t + 1)) 150) + 1)) (sp_xkt B y2 (t + 1 + (sp_fst (sp_cmp B y2 (t + 1)) 150) + 1)) (sp_xvt B y2 (t + 1 + (sp_fst (sp_cmp B y2 (t + 1)) 150) + 1)))) 108 (mj_ar 154 (sp_cka (fun i => sp_tt B y2 (t + 1 + i + 1)) (sp_tt B y2 (t + 1)) A (sp_fst (sp_cmp B y2 (t + 1)) 150)))) 109 (mj_ar 3 (sp_wc (fun i => sp_tt B y2 (t + 1 + i + 1)) (mj_un W 0 (sp_tt B y2 (t + 1))) (sp_fst (sp_cmp B y2 (t + 1)) 150))))) := by
  have hB := h0
  refine mj_Ev.of (L0 := [some (.ref 100)]) pnRX11 (Nat.le_of_ble_eq_true rfl) rfl ?_
  refine gj_aload_n dX11_takesCell_0 rfl ?_
  refine gj_V0 lkX11_263 H0 rfl rfl (ev_X11_goBehind (t := t) H0 HB hB (by omega)) dX11_takesCell_1 rfl rfl rfl rfl rfl ?_
  refine gj_aload_n dX11_takesCell_4 rfl ?_
  refine gj_ic (w := 0) dX11_takesCell_5 ?_
  refine gj_ic (w := 0) dX11_takesCell_6 ?_
  refine gj_ic (w := 5) dX11_takesCell_7 ?_
  refine gj_V1 lkX11_270 (mj_up_eq _ _ _) rfl rfl (ev_X11_takes_t (t := t + 1) (mj_up_eq _ _ _) ((mj_up_ne (by decide)).trans HB) ((mj_up_ne (by decide)).trans HW) hB (by omega) (by decide) (by omega) (by omega) (by decide)) dX11_takesCell_8 rfl rfl rfl rfl rfl ?_
  refine gj_cast (h' := mj_up (mj_up h 100 (.inr (9, [.ref 101, .ref 102, .ref 103, .ref 104, .long (lN a0), .long (lN a1), .ref 105, .ref 106, .ref 107, .int (nI y2), .int (nI (sp_ss B y2 (t + 2))), .int (nI (sp_ps B y2 (t + 2 + 1) - sp_ss B y2 (t + 2))), .int (nI (sp_xkt B y2 (t + 2))), .int (nI (sp_xvt B y2 (t + 2))), .ref 108, .ref 109]))) 109 (mj_ar 3 (mj_un W 0 (sp_tt B y2 (t + 1))))) rfl rfl (by funext x; unfold mj_up; (repeat' split) <;> first | rfl | omega) ?_
  refine gj_if_eqb (tgt := 25) dX11_takesCell_11 rfl (fun zq1 => ?_) (fun zq1 => ?_)
  · exfalso; exact nomatch zq1
  refine gj_aload_n dX11_takesCell_14 rfl ?_
  refine gj_ic (w := 1) dX11_takesCell_15 ?_
  refine gj_ic (w := 0) dX11_takesCell_16 ?_
  refine gj_bp 24 dX11_takesCell_17 (by decide) ?_
  refine gj_V1 lkX11_270 ((mj_up_ne (by decide)).trans (mj_up_eq _ _ _)) rfl rfl (ev_X11_takes_t (t := t + 2) ((mj_up_ne (by decide)).trans (mj_up_eq _ _ _)) ((mj_up_ne (by decide)).trans ((mj_up_ne (by decide)).trans HB)) (mj_up_eq _ _ _) hB (by omega) (by decide) (by omega) (by omega) (by decide)) dX11_takesCell_19 rfl rfl rfl rfl rfl ?_
  refine gj_cast (h' := mj_up (mj_up h 100 (.inr (9, [.ref 101, .ref 102, .ref 103, .ref 104, .long (lN a0), .long (lN a1), .ref 105, .ref 106, .ref 107, .int (nI y2), .int (nI (sp_ss B y2 (t + 3))), .int (nI (sp_ps B y2 (t + 3 + 1) - sp_ss B y2 (t + 3))), .int (nI (sp_xkt B y2 (t + 3))), .int (nI (sp_xvt B y2 (t + 3))), .ref 108, .ref 109]))) 109 (mj_ar 3 (mj_un (mj_un W 0 (sp_tt B y2 (t + 1))) 1 (sp_tt B y2 (t + 2))))) rfl rfl (by funext x; unfold mj_up; (repeat' split) <;> first | rfl | omega) ?_
  refine gj_if_neb (tgt := 27) dX11_takesCell_22 rfl (fun zq2 => ?_) (fun zq2 => ?_)
  rotate_left
  · exfalso; exact nomatch zq2
  refine gj_aload_n dX11_takesCell_27 rfl ?_
  refine gfX11_36 rfl dX11_takesCell_28 ((mj_up_ne (by decide)).trans (mj_up_eq _ _ _)) rfl ?_
  refine gj_bp 30 dX11_takesCell_31 (by decide) ?_
  refine gj_aload_n dX11_takesCell_33 rfl ?_
  refine gfX11_39 rfl dX11_takesCell_34 ((mj_up_ne (by decide)).trans (mj_up_eq _ _ _)) rfl ?_
  refine gj_ic (w := 1) dX11_takesCell_37 ?_
  refine gj_ialdN dX11_takesCell_38 (mj_up_eq _ _ _) (by omega) (by omega) ?_
  refine gj_topN ((mj_un_eq _ _ _).trans (show sp_tt B y2 (t + 2) = sp_tt B y2 (t + 1 + 0 + 1) from rfl)) ?_
  refine gj_iaddN  dX11_takesCell_39 ?_
  refine gj_aload_n dX11_takesCell_40 rfl ?_
  refine gfX11_39 rfl dX11_takesCell_41 ((mj_up_ne (by decide)).trans (mj_up_eq _ _ _)) rfl ?_
  refine gj_ic (w := 0) dX11_takesCell_44 ?_
  refine gj_ialdN dX11_takesCell_45 (mj_up_eq _ _ _) (by omega) (by omega) ?_
  refine gj_topN ((mj_un_ne (by decide)).trans (mj_un_eq _ _ _)) ?_
  refine gj_iastN dX11_takesCell_46 ((mj_up_ne (by decide)).trans ((mj_up_ne (by decide)).trans HA)) (by omega) (by omega) ?_
  refine gj_cast (h' := mj_up (mj_up (mj_up h 100 (.inr (9, [.ref 101, .ref 102, .ref 103, .ref 104, .long (lN a0), .long (lN a1), .ref 105, .ref 106, .ref 107, .int (nI y2), .int (nI (sp_ss B y2 (t + 3))), .int (nI (sp_ps B y2 (t + 3 + 1) - sp_ss B y2 (t + 3))), .int (nI (sp_xkt B y2 (t + 3))), .int (nI (sp_xvt B y2 (t + 3))), .ref 108, .ref 109]))) 108 (mj_ar 154 (mj_un A (30 + (sp_tt B y2 (t + 1 + 0 + 1))) (sp_tt B y2 (t + 1))))) 109 (mj_ar 3 (mj_un (mj_un W 0 (sp_tt B y2 (t + 1))) 1 (sp_tt B y2 (t + 2))))) rfl rfl (by funext x; unfold mj_up; (repeat' split) <;> first | rfl | omega) ?_
  refine gj_cast (L' := [some (.ref 100)]) (st' := []) (h' := mj_up (mj_up (mj_up h 100 (.inr (9, [.ref 101, .ref 102, .ref 103, .ref 104, .long (lN a0), .long (lN a1), .ref 105, .ref 106, .ref 107, .int (nI y2), .int (nI (sp_ss B y2 (t + 1 + (1 + 0) + 1))), .int (nI (sp_ps B y2 (t + 1 + (1 + 0) + 1 + 1) - sp_ss B y2 (t + 1 + (1 + 0) + 1))), .int (nI (sp_xkt B y2 (t + 1 + (1 + 0) + 1))), .int (nI (sp_xvt B y2 (t + 1 + (1 + 0) + 1))), .ref 108, .ref 109]))) 108 (mj_ar 154 (sp_cka (fun i => sp_tt B y2 (t + 1 + i + 1)) (sp_tt B y2 (t + 1)) A (1 + 0)))) 109 (mj_ar 3 (sp_wc (fun i => sp_tt B y2 (t + 1 + i + 1)) (mj_un W 0 (sp_tt B y2 (t + 1))) (1 + 0)))) rfl rfl (by funext x; unfold mj_up; (repeat' split) <;> first | rfl | omega) ?_
  refine gj_loopI (fun j => ∀ i, i < j → (fun i => sp_cmp B y2 (t + 1) (1 + i)) i = false) (fun j => [some (.ref 100)]) (fun j => mj_up (mj_up (mj_up h 100 (.inr (9, [.ref 101, .ref 102, .ref 103, .ref 104, .long (lN a0), .long (lN a1), .ref 105, .ref 106, .ref 107, .int (nI y2), .int (nI (sp_ss B y2 (t + 1 + (1 + j) + 1))), .int (nI (sp_ps B y2 (t + 1 + (1 + j) + 1 + 1) - sp_ss B y2 (t + 1 + (1 + j) + 1))), .int (nI (sp_xkt B y2 (t + 1 + (1 + j) + 1))), .int (nI (sp_xvt B y2 (t + 1 + (1 + j) + 1))), .ref 108, .ref 109]))) 108 (mj_ar 154 (sp_cka (fun i => sp_tt B y2 (t + 1 + i + 1)) (sp_tt B y2 (t + 1)) A (1 + j)))) 109 (mj_ar 3 (sp_wc (fun i => sp_tt B y2 (t + 1 + i + 1)) (mj_un W 0 (sp_tt B y2 (t + 1))) (1 + j)))) 149 (fun hq => ?_) (fun j hj hq ih => ?_) 0 (Nat.zero_le _) (fun i hi => absurd hi (Nat.not_lt_zero _))
  · show gj _ _ _ _ _ _ [some (.ref 100)] _ _
    exfalso; have hlt := sp_run1 (B := B) (n := y2) (t := t + 1) (by omega) h4 150 (fun i hi => by cases i with | zero => exact h3 | succ i => have := sp_cmp_f (hq i (by omega)); rwa [show t + 1 + (1 + i) + 1 = t + 1 + (i + 1) + 1 by omega] at this); have := sp_tE_le (B := B) (n := y2) (by omega); omega
  show gj _ _ _ _ _ _ [some (.ref 100)] _ _
  rcases Bool.eq_false_or_eq_true (sp_cmp B y2 (t + 1) (1 + j)) with hq9 | hq9
  · have hm9 : (sp_fst (sp_cmp B y2 (t + 1)) 150) = 1 + j := sp_fst_at (by omega) hq9 (fun i hi => by cases i with | zero => (unfold sp_cmp; rw [decide_eq_true h3]; rfl) | succ i => have hz := hq i (by omega); rw [← Nat.add_comm 1 i]; exact hz)
    have hn9 : ¬ sp_tt B y2 (t + 1 + (1 + j) + 1) ≤ 24 := fun z => by unfold sp_cmp at hq9; rw [decide_eq_true z] at hq9; exact absurd hq9 (by decide)
    refine gj_aload_n dX11_takesCell_47 rfl ?_
    refine gj_ic (w := 1) dX11_takesCell_48 ?_
    refine gj_ic (w := 0) dX11_takesCell_49 ?_
    refine gj_bp 24 dX11_takesCell_50 (by decide) ?_
    refine gj_V1 lkX11_270 ((mj_up_ne (by decide)).trans ((mj_up_ne (by decide)).trans (mj_up_eq _ _ _))) rfl rfl (ev_X11_takes_f (t := t + 1 + (1 + j) + 1) ((mj_up_ne (by decide)).trans ((mj_up_ne (by decide)).trans (mj_up_eq _ _ _))) ((mj_up_ne (by decide)).trans ((mj_up_ne (by decide)).trans ((mj_up_ne (by decide)).trans HB))) hB (by omega) (by omega) (by decide) (by decide)) dX11_takesCell_52 rfl rfl rfl rfl rfl ?_
    refine gj_if_eqb (tgt := 81) dX11_takesCell_55 rfl (fun zq3 => ?_) (fun zq3 => ?_)
    rotate_left
    · exfalso; exact nomatch zq3
    refine gj_ic (w := 1) dX11_takesCell_81 ?_
    exact gj_zr rfl dX11_takesCell_82 rfl (mj_b1 (by decide)) (by rw [hm9])
  have hn9 : (fun i => sp_cmp B y2 (t + 1) (1 + i)) j = false := hq9
  have hi9 := sp_cmp_f hq9
  refine gj_aload_n dX11_takesCell_47 rfl ?_
  refine gj_ic (w := 1) dX11_takesCell_48 ?_
  refine gj_ic (w := 0) dX11_takesCell_49 ?_
  refine gj_bp 24 dX11_takesCell_50 (by decide) ?_
  refine gj_V1 lkX11_270 ((mj_up_ne (by decide)).trans ((mj_up_ne (by decide)).trans (mj_up_eq _ _ _))) rfl rfl (ev_X11_takes_t (t := t + 1 + (1 + j) + 1) ((mj_up_ne (by decide)).trans ((mj_up_ne (by decide)).trans (mj_up_eq _ _ _))) ((mj_up_ne (by decide)).trans ((mj_up_ne (by decide)).trans ((mj_up_ne (by decide)).trans HB))) (mj_up_eq _ _ _) hB (by omega) (by decide) (by omega) (by omega) (by decide)) dX11_takesCell_52 rfl rfl rfl rfl rfl ?_
  refine gj_cast (h' := mj_up (mj_up (mj_up h 100 (.inr (9, [.ref 101, .ref 102, .ref 103, .ref 104, .long (lN a0), .long (lN a1), .ref 105, .ref 106, .ref 107, .int (nI y2), .int (nI (sp_ss B y2 (t + 1 + (1 + j) + 2))), .int (nI (sp_ps B y2 (t + 1 + (1 + j) + 2 + 1) - sp_ss B y2 (t + 1 + (1 + j) + 2))), .int (nI (sp_xkt B y2 (t + 1 + (1 + j) + 2))), .int (nI (sp_xvt B y2 (t + 1 + (1 + j) + 2))), .ref 108, .ref 109]))) 108 (mj_ar 154 (sp_cka (fun i => sp_tt B y2 (t + 1 + i + 1)) (sp_tt B y2 (t + 1)) A (1 + j)))) 109 (mj_ar 3 (mj_un (sp_wc (fun i => sp_tt B y2 (t + 1 + i + 1)) (mj_un W 0 (sp_tt B y2 (t + 1))) (1 + j)) 1 (sp_tt B y2 (t + 1 + (1 + j) + 1))))) rfl rfl (by funext x; unfold mj_up; (repeat' split) <;> first | rfl | omega) ?_
  refine gj_if_eqb (tgt := 81) dX11_takesCell_55 rfl (fun zq4 => ?_) (fun zq4 => ?_)
  · exfalso; exact nomatch zq4
  refine gj_aload_n dX11_takesCell_58 rfl ?_
  refine gfX11_36 rfl dX11_takesCell_59 ((mj_up_ne (by decide)).trans ((mj_up_ne (by decide)).trans (mj_up_eq _ _ _))) rfl ?_
  refine gj_bp 30 dX11_takesCell_62 (by decide) ?_
  refine gj_aload_n dX11_takesCell_64 rfl ?_
  refine gfX11_39 rfl dX11_takesCell_65 ((mj_up_ne (by decide)).trans ((mj_up_ne (by decide)).trans (mj_up_eq _ _ _))) rfl ?_
  refine gj_ic (w := 1) dX11_takesCell_68 ?_
  refine gj_ialdN dX11_takesCell_69 (mj_up_eq _ _ _) (by omega) (by omega) ?_
  refine gj_topN (mj_un_eq _ _ _) ?_
  refine gj_iaddN  dX11_takesCell_70 ?_
  refine gj_aload_n dX11_takesCell_71 rfl ?_
  refine gfX11_39 rfl dX11_takesCell_72 ((mj_up_ne (by decide)).trans ((mj_up_ne (by decide)).trans (mj_up_eq _ _ _))) rfl ?_
  refine gj_ic (w := 0) dX11_takesCell_75 ?_
  refine gj_ialdN dX11_takesCell_76 (mj_up_eq _ _ _) (by omega) (by omega) ?_
  refine gj_topN ((mj_un_ne (by decide)).trans (sp_wc_0.trans (mj_un_eq _ _ _))) ?_
  refine gj_iastN dX11_takesCell_77 ((mj_up_ne (by decide)).trans (mj_up_eq _ _ _)) (by omega) (by omega) ?_
  refine gj_cast (h' := mj_up (mj_up (mj_up h 100 (.inr (9, [.ref 101, .ref 102, .ref 103, .ref 104, .long (lN a0), .long (lN a1), .ref 105, .ref 106, .ref 107, .int (nI y2), .int (nI (sp_ss B y2 (t + 1 + (1 + j) + 2))), .int (nI (sp_ps B y2 (t + 1 + (1 + j) + 2 + 1) - sp_ss B y2 (t + 1 + (1 + j) + 2))), .int (nI (sp_xkt B y2 (t + 1 + (1 + j) + 2))), .int (nI (sp_xvt B y2 (t + 1 + (1 + j) + 2))), .ref 108, .ref 109]))) 108 (mj_ar 154 (mj_un (sp_cka (fun i => sp_tt B y2 (t + 1 + i + 1)) (sp_tt B y2 (t + 1)) A (1 + j)) (30 + (sp_tt B y2 (t + 1 + (1 + j) + 1))) (sp_tt B y2 (t + 1))))) 109 (mj_ar 3 (mj_un (sp_wc (fun i => sp_tt B y2 (t + 1 + i + 1)) (mj_un W 0 (sp_tt B y2 (t + 1))) (1 + j)) 1 (sp_tt B y2 (t + 1 + (1 + j) + 1))))) rfl rfl (by funext x; unfold mj_up; (repeat' split) <;> first | rfl | omega) ?_
  refine gj_goto (tgt := 47) dX11_takesCell_78 rfl ?_
  exact gj_cast rfl rfl (by funext x; unfold mj_up; (repeat' split) <;> first | rfl | omega) (ih (fun i hi => by by_cases q : i = j <;> first | (subst q; exact hn9) | exact hq i (by omega)))
