set_option maxHeartbeats 1000000 in
set_option maxRecDepth 10000 in
theorem ev_X11_rd_item_cell_k {E : mj_E} {h : mj_H} {a0 a1 y2 t : Nat} {B : Nat → Nat} (H0 : h 100 = some (mj_mo a0 a1 y2 (sp_ss B y2 t) (sp_ps B y2 (t + 1) - sp_ss B y2 t) (sp_xkt B y2 t) (sp_xvt B y2 t))) (HB : h 107 = some (mj_ar 150 B)) (h0 : ∀ c, B c ≤ 127) (h1 : y2 ≤ 150) (h2 : sp_tt B y2 t = 4294967291) (h3 : ¬ sp_tt B y2 (t + 1) ≤ 5) : mj_Ev E iX11_takesItem [.ref 100] h (mj_R (some (.int (mj_b false))) (mj_up (h) 100 (mj_mo a0 a1 y2 (sp_ss B y2 (t + 1)) (sp_ps B y2 (t + 1 + 1) - sp_ss B y2 (t + 1)) (sp_xkt B y2 (t + 1)) (sp_xvt B y2 (t + 1))))) := by
  have hB := h0
  refine mj_Ev.of (L0 := [some (.ref 100)]) pnRX11 (Nat.le_of_ble_eq_true rfl) rfl ?_
  refine gj_aload_n dX11_takesItem_0 rfl ?_
  refine gj_ic (w := 4) dX11_takesItem_1 ?_
  refine gj_bp 99 dX11_takesItem_2 (by decide) ?_
  refine gj_bp 101 dX11_takesItem_4 (by decide) ?_
  refine gj_bp 108 dX11_takesItem_6 (by decide) ?_
  refine gj_bp 108 dX11_takesItem_8 (by decide) ?_
  refine gj_ic (w := 0) dX11_takesItem_10 ?_
  refine gj_ic (w := 0) dX11_takesItem_11 ?_
  refine gj_V1 lkX11_266 H0 rfl rfl (ev_X11_spells_w1 (t := t) H0 HB hB (by omega)) dX11_takesItem_12 rfl rfl rfl rfl rfl ?_
  refine gj_topB (y := decide (sp_tt B y2 t = 4294967291)) (sp_spl1 (t := t) hB) ?_
  refine gj_if_eqb (tgt := 23) dX11_takesItem_15 rfl (fun zq1 => ?_) (fun zq1 => ?_)
  · exfalso; exact absurd zq1 (by rw [decide_eq_true h2]; decide)
  refine gj_aload_n dX11_takesItem_18 rfl ?_
  refine gj_V1 lkX11_274 H0 rfl rfl (ev_X11_rd_cell_k H0 HB  hB (by omega) h3) dX11_takesItem_19 rfl rfl rfl rfl rfl ?_
  exact gj_zr rfl dX11_takesItem_22 rfl rfl rfl
set_option maxHeartbeats 1000000 in
set_option maxRecDepth 10000 in
theorem ev_X11_rd_item_cell_k2 {E : mj_E} {h : mj_H} {a0 a1 y2 t : Nat} {B : Nat → Nat} (H0 : h 100 = some (mj_mo a0 a1 y2 (sp_ss B y2 t) (sp_ps B y2 (t + 1) - sp_ss B y2 t) (sp_xkt B y2 t) (sp_xvt B y2 t))) (HB : h 107 = some (mj_ar 150 B)) {W : Nat → Nat} (HW : h 109 = some (mj_ar 3 W)) (h0 : ∀ c, B c ≤ 127) (h1 : y2 ≤ 150) (h2 : sp_tt B y2 t = 4294967291) (h3 : sp_tt B y2 (t + 1) ≤ 5) (h4 : ¬ sp_tt B y2 (t + 2) ≤ 24) : mj_Ev E iX11_takesItem [.ref 100] h (mj_R (some (.int (mj_b false))) (mj_up (mj_up (h) 100 (mj_mo a0 a1 y2 (sp_ss B y2 (t + 2)) (sp_ps B y2 (t + 2 + 1) - sp_ss B y2 (t + 2)) (sp_xkt B y2 (t + 2)) (sp_xvt B y2 (t + 2)))) 109 (mj_ar 3 (mj_un W 0 (sp_tt B y2 (t + 1)))))) := by
  have hB := h0
  refine mj_Ev.of (L0 := [some (.ref 100)]) pnRX11 (Nat.le_of_ble_eq_true rfl) rfl ?_
  refine gj_aload_n dX11_takesItem_0 rfl ?_
  refine gj_ic (w := 4) dX11_takesItem_1 ?_
  refine gj_bp 99 dX11_takesItem_2 (by decide) ?_
  refine gj_bp 101 dX11_takesItem_4 (by decide) ?_
  refine gj_bp 108 dX11_takesItem_6 (by decide) ?_
  refine gj_bp 108 dX11_takesItem_8 (by decide) ?_
  refine gj_ic (w := 0) dX11_takesItem_10 ?_
  refine gj_ic (w := 0) dX11_takesItem_11 ?_
  refine gj_V1 lkX11_266 H0 rfl rfl (ev_X11_spells_w1 (t := t) H0 HB hB (by omega)) dX11_takesItem_12 rfl rfl rfl rfl rfl ?_
  refine gj_topB (y := decide (sp_tt B y2 t = 4294967291)) (sp_spl1 (t := t) hB) ?_
  refine gj_if_eqb (tgt := 23) dX11_takesItem_15 rfl (fun zq1 => ?_) (fun zq1 => ?_)
  · exfalso; exact absurd zq1 (by rw [decide_eq_true h2]; decide)
  refine gj_aload_n dX11_takesItem_18 rfl ?_
  refine gj_V1 lkX11_274 H0 rfl rfl (ev_X11_rd_cell_k2 H0 HB HW hB (by omega) h3 h4) dX11_takesItem_19 rfl rfl rfl rfl rfl ?_
  exact gj_zr rfl dX11_takesItem_22 rfl rfl rfl
set_option maxHeartbeats 1000000 in
set_option maxRecDepth 10000 in
theorem ev_X11_rd_item_cell {E : mj_E} {h : mj_H} {a0 a1 y2 t : Nat} {B : Nat → Nat} (H0 : h 100 = some (mj_mo a0 a1 y2 (sp_ss B y2 t) (sp_ps B y2 (t + 1) - sp_ss B y2 t) (sp_xkt B y2 t) (sp_xvt B y2 t))) (HB : h 107 = some (mj_ar 150 B)) {A : Nat → Nat} (HA : h 108 = some (mj_ar 154 A)) {W : Nat → Nat} (HW : h 109 = some (mj_ar 3 W)) (h0 : ∀ c, B c ≤ 127) (h1 : y2 ≤ 150) (h2 : sp_tt B y2 t = 4294967291) (h3 : sp_tt B y2 (t + 1) ≤ 5) (h4 : sp_tt B y2 (t + 1 + 0 + 1) ≤ 24) (h5 : t + 1 < sp_tE B y2) : mj_Ev E iX11_takesItem [.ref 100] h (mj_R (some (.int (mj_b true))) (mj_up (mj_up (mj_up (h) 100 (mj_mo a0 a1 y2 (sp_ss B y2 (t + 1 + (sp_fst (sp_cmp B y2 (t + 1)) 150) + 1)) (sp_ps B y2 (t + 1 + (sp_fst (sp_cmp B y2 (t + 1)) 150) + 1 + 1) - sp_ss B y2 (t + 1 + (sp_fst (sp_cmp B y2 (t + 1)) 150) + 1)) (sp_xkt B y2 (t + 1 + (sp_fst (sp_cmp B y2 (t + 1)) 150) + 1)) (sp_xvt B y2 (t + 1 + (sp_fst (sp_cmp B y2 (t + 1)) 150) + 1)))) 108 (mj_ar 154 (sp_cka (fun i => sp_tt B y2 (t + 1 + i + 1)) (sp_tt B y2 (t + 1)) A (sp_fst (sp_cmp B y2 (t + 1)) 150)))) 109 (mj_ar 3 (sp_wc (fun i => sp_tt B y2 (t + 1 + i + 1)) (mj_un W 0 (sp_tt B y2 (t + 1))) (sp_fst (sp_cmp B y2 (t + 1)) 150))))) := by
  have hB := h0
  refine mj_Ev.of (L0 := [some (.ref 100)]) pnRX11 (Nat.le_of_ble_eq_true rfl) rfl ?_
  refine gj_aload_n dX11_takesItem_0 rfl ?_
  refine gj_ic (w := 4) dX11_takesItem_1 ?_
  refine gj_bp 99 dX11_takesItem_2 (by decide) ?_
  refine gj_bp 101 dX11_takesItem_4 (by decide) ?_
  refine gj_bp 108 dX11_takesItem_6 (by decide) ?_
  refine gj_bp 108 dX11_takesItem_8 (by decide) ?_
  refine gj_ic (w := 0) dX11_takesItem_10 ?_
  refine gj_ic (w := 0) dX11_takesItem_11 ?_
  refine gj_V1 lkX11_266 H0 rfl rfl (ev_X11_spells_w1 (t := t) H0 HB hB (by omega)) dX11_takesItem_12 rfl rfl rfl rfl rfl ?_
  refine gj_topB (y := decide (sp_tt B y2 t = 4294967291)) (sp_spl1 (t := t) hB) ?_
  refine gj_if_eqb (tgt := 23) dX11_takesItem_15 rfl (fun zq1 => ?_) (fun zq1 => ?_)
  · exfalso; exact absurd zq1 (by rw [decide_eq_true h2]; decide)
  refine gj_aload_n dX11_takesItem_18 rfl ?_
  refine gj_V1 lkX11_274 H0 rfl rfl (ev_X11_rd_cell H0 HB HA HW hB (by omega) h3 h4 h5) dX11_takesItem_19 rfl rfl rfl rfl rfl ?_
  exact gj_zr rfl dX11_takesItem_22 rfl rfl rfl
set_option maxHeartbeats 1000000 in
set_option maxRecDepth 10000 in
theorem ev_X11_rd_item_week {E : mj_E} {h : mj_H} {a0 a1 y2 t : Nat} {B : Nat → Nat} (H0 : h 100 = some (mj_mo a0 a1 y2 (sp_ss B y2 t) (sp_ps B y2 (t + 1) - sp_ss B y2 t) (sp_xkt B y2 t) (sp_xvt B y2 t))) (HB : h 107 = some (mj_ar 150 B)) {A : Nat → Nat} (HA : h 108 = some (mj_ar 154 A)) {W : Nat → Nat} (HW : h 109 = some (mj_ar 3 W)) (h0 : ∀ c, B c ≤ 127) (h1 : y2 ≤ 150) (h2 : sp_tt B y2 t = 4294967290) : mj_Ev E iX11_takesItem [.ref 100] h (mj_R (some (.int (mj_b (decide (0 < (sp_fst (sp_wmp B y2 t) 7) ∧ sp_tt B y2 (t + 2 * (sp_fst (sp_wmp B y2 t) 7) + 1) = 4294967294))))) (mj_up (mj_up (mj_up (h) 100 (mj_mo a0 a1 y2 (sp_ss B y2 (sp_we B y2 t (sp_fst (sp_wmp B y2 t) 7))) (sp_ps B y2 (sp_we B y2 t (sp_fst (sp_wmp B y2 t) 7) + 1) - sp_ss B y2 (sp_we B y2 t (sp_fst (sp_wmp B y2 t) 7))) (sp_xkt B y2 (sp_we B y2 t (sp_fst (sp_wmp B y2 t) 7))) (sp_xvt B y2 (sp_we B y2 t (sp_fst (sp_wmp B y2 t) 7))))) 108 (mj_ar 154 (sp_wka (fun i => sp_tt B y2 (t + 2 * i + 1)) (fun i => sp_tt B y2 (t + 2 * i + 2)) A (sp_fst (sp_wmp B y2 t) 7)))) 109 (mj_ar 3 (sp_ww B y2 t (sp_fst (sp_wmp B y2 t) 7) (sp_wv (fun i => sp_tt B y2 (t + 2 * i + 1)) (fun i => sp_tt B y2 (t + 2 * i + 2)) W (sp_fst (sp_wmp B y2 t) 7)))))) := by
  have hB := h0
  refine mj_Ev.of (L0 := [some (.ref 100)]) pnRX11 (Nat.le_of_ble_eq_true rfl) rfl ?_
  refine gj_aload_n dX11_takesItem_0 rfl ?_
  refine gj_ic (w := 4) dX11_takesItem_1 ?_
  refine gj_bp 99 dX11_takesItem_2 (by decide) ?_
  refine gj_bp 101 dX11_takesItem_4 (by decide) ?_
  refine gj_bp 108 dX11_takesItem_6 (by decide) ?_
  refine gj_bp 108 dX11_takesItem_8 (by decide) ?_
  refine gj_ic (w := 0) dX11_takesItem_10 ?_
  refine gj_ic (w := 0) dX11_takesItem_11 ?_
  refine gj_V1 lkX11_266 H0 rfl rfl (ev_X11_spells_w1 (t := t) H0 HB hB (by omega)) dX11_takesItem_12 rfl rfl rfl rfl rfl ?_
  refine gj_topB (y := decide (sp_tt B y2 t = 4294967291)) (sp_spl1 (t := t) hB) ?_
  refine gj_if_eqb (tgt := 23) dX11_takesItem_15 rfl (fun zq1 => ?_) (fun zq1 => ?_)
  rotate_left
  · exfalso; exact absurd (of_decide_eq_true zq1) (by omega)
  refine gj_aload_n dX11_takesItem_23 rfl ?_
  refine gj_ic (w := 4) dX11_takesItem_24 ?_
  refine gj_bp 119 dX11_takesItem_25 (by decide) ?_
  refine gj_bp 101 dX11_takesItem_27 (by decide) ?_
  refine gj_bp 101 dX11_takesItem_29 (by decide) ?_
  refine gj_bp 107 dX11_takesItem_31 (by decide) ?_
  refine gj_ic (w := 0) dX11_takesItem_33 ?_
  refine gj_ic (w := 0) dX11_takesItem_34 ?_
  refine gj_V1 lkX11_266 H0 rfl rfl (ev_X11_spells_w2 (t := t) H0 HB hB (by omega)) dX11_takesItem_35 rfl rfl rfl rfl rfl ?_
  refine gj_topB (y := decide (sp_tt B y2 t = 4294967290)) (sp_spl2 (t := t) hB) ?_
  refine gj_if_eqb (tgt := 46) dX11_takesItem_38 rfl (fun zq2 => ?_) (fun zq2 => ?_)
  · exfalso; exact absurd zq2 (by rw [decide_eq_true h2]; decide)
  refine gj_aload_n dX11_takesItem_41 rfl ?_
  refine gj_V1 lkX11_278 H0 rfl rfl (ev_X11_rd_week H0 HB HA HW hB (by omega) ) dX11_takesItem_42 rfl rfl rfl rfl rfl ?_
  exact gj_zr rfl dX11_takesItem_45 rfl rfl rfl
set_option maxHeartbeats 1000000 in
set_option maxRecDepth 10000 in
theorem ev_X11_rd_item_voter_f {E : mj_E} {h : mj_H} {a0 a1 y2 t : Nat} {B : Nat → Nat} (H0 : h 100 = some (mj_mo a0 a1 y2 (sp_ss B y2 t) (sp_ps B y2 (t + 1) - sp_ss B y2 t) (sp_xkt B y2 t) (sp_xvt B y2 t))) (HB : h 107 = some (mj_ar 150 B)) {A : Nat → Nat} (HA : h 108 = some (mj_ar 154 A)) (h0 : ∀ c, B c ≤ 127) (h1 : y2 ≤ 150) (h2 : sp_tt B y2 t = 4294967289) (h3 : A 0 = 7) : mj_Ev E iX11_takesItem [.ref 100] h (mj_R (some (.int (mj_b false))) h) := by
  have hB := h0
  refine mj_Ev.of (L0 := [some (.ref 100)]) pnRX11 (Nat.le_of_ble_eq_true rfl) rfl ?_
  refine gj_aload_n dX11_takesItem_0 rfl ?_
  refine gj_ic (w := 4) dX11_takesItem_1 ?_
  refine gj_bp 99 dX11_takesItem_2 (by decide) ?_
  refine gj_bp 101 dX11_takesItem_4 (by decide) ?_
  refine gj_bp 108 dX11_takesItem_6 (by decide) ?_
  refine gj_bp 108 dX11_takesItem_8 (by decide) ?_
  refine gj_ic (w := 0) dX11_takesItem_10 ?_
  refine gj_ic (w := 0) dX11_takesItem_11 ?_
  refine gj_V1 lkX11_266 H0 rfl rfl (ev_X11_spells_w1 (t := t) H0 HB hB (by omega)) dX11_takesItem_12 rfl rfl rfl rfl rfl ?_
  refine gj_topB (y := decide (sp_tt B y2 t = 4294967291)) (sp_spl1 (t := t) hB) ?_
  refine gj_if_eqb (tgt := 23) dX11_takesItem_15 rfl (fun zq1 => ?_) (fun zq1 => ?_)
  rotate_left
  · exfalso; exact absurd (of_decide_eq_true zq1) (by omega)
  refine gj_aload_n dX11_takesItem_23 rfl ?_
  refine gj_ic (w := 4) dX11_takesItem_24 ?_
  refine gj_bp 119 dX11_takesItem_25 (by decide) ?_
  refine gj_bp 101 dX11_takesItem_27 (by decide) ?_
  refine gj_bp 101 dX11_takesItem_29 (by decide) ?_
  refine gj_bp 107 dX11_takesItem_31 (by decide) ?_
  refine gj_ic (w := 0) dX11_takesItem_33 ?_
  refine gj_ic (w := 0) dX11_takesItem_34 ?_
  refine gj_V1 lkX11_266 H0 rfl rfl (ev_X11_spells_w2 (t := t) H0 HB hB (by omega)) dX11_takesItem_35 rfl rfl rfl rfl rfl ?_
  refine gj_topB (y := decide (sp_tt B y2 t = 4294967290)) (sp_spl2 (t := t) hB) ?_
  refine gj_if_eqb (tgt := 46) dX11_takesItem_38 rfl (fun zq2 => ?_) (fun zq2 => ?_)
  rotate_left
  · exfalso; exact absurd (of_decide_eq_true zq2) (by omega)
  refine gj_aload_n dX11_takesItem_46 rfl ?_
  refine gj_ic (w := 5) dX11_takesItem_47 ?_
  refine gj_bp 118 dX11_takesItem_48 (by decide) ?_
  refine gj_bp 111 dX11_takesItem_50 (by decide) ?_
  refine gj_bp 116 dX11_takesItem_52 (by decide) ?_
  refine gj_bp 101 dX11_takesItem_54 (by decide) ?_
  refine gj_bp 114 dX11_takesItem_56 (by decide) ?_
  refine gj_ic (w := 0) dX11_takesItem_58 ?_
  refine gj_V1 lkX11_266 H0 rfl rfl (ev_X11_spells_w3 (t := t) H0 HB hB (by omega)) dX11_takesItem_59 rfl rfl rfl rfl rfl ?_
  refine gj_topB (y := decide (sp_tt B y2 t = 4294967289)) (sp_spl3 (t := t) hB) ?_
  refine gj_if_eqb (tgt := 76) dX11_takesItem_62 rfl (fun zq3 => ?_) (fun zq3 => ?_)
  · exfalso; exact absurd zq3 (by rw [decide_eq_true h2]; decide)
  refine gj_aload_n dX11_takesItem_65 rfl ?_
  refine gj_V1 lkX11_281 H0 rfl rfl (ev_X11_rd_voter_f H0 HB HA hB (by omega) h3) dX11_takesItem_66 rfl rfl rfl rfl rfl ?_
  refine gj_if_eqb (tgt := 76) dX11_takesItem_69 rfl (fun zq4 => ?_) (fun zq4 => ?_)
  rotate_left
  · exfalso; exact nomatch zq4
  refine gj_ic (w := 0) dX11_takesItem_76 ?_
  exact gj_zr rfl dX11_takesItem_77 rfl (mj_b0 (by decide)) rfl
set_option maxHeartbeats 1000000 in
set_option maxRecDepth 10000 in
theorem ev_X11_rd_item_voter_1 {E : mj_E} {h : mj_H} {a0 a1 y2 t : Nat} {B : Nat → Nat} (H0 : h 100 = some (mj_mo a0 a1 y2 (sp_ss B y2 t) (sp_ps B y2 (t + 1) - sp_ss B y2 t) (sp_xkt B y2 t) (sp_xvt B y2 t))) (HB : h 107 = some (mj_ar 150 B)) {A : Nat → Nat} (HA : h 108 = some (mj_ar 154 A)) (h0 : ∀ c, B c ≤ 127) (h1 : y2 ≤ 150) (h2 : sp_tt B y2 t = 4294967289) (h3 : A 0 < 7) (h4 : ¬ (sp_tt B y2 (t + 1) ≤ 5)) : mj_Ev E iX11_takesItem [.ref 100] h (mj_R (some (.int (mj_b false))) (mj_up (h) 100 (mj_mo a0 a1 y2 (sp_ss B y2 (t + 1)) (sp_ps B y2 (t + 1 + 1) - sp_ss B y2 (t + 1)) (sp_xkt B y2 (t + 1)) (sp_xvt B y2 (t + 1))))) := by
  have hB := h0
  refine mj_Ev.of (L0 := [some (.ref 100)]) pnRX11 (Nat.le_of_ble_eq_true rfl) rfl ?_
  refine gj_aload_n dX11_takesItem_0 rfl ?_
  refine gj_ic (w := 4) dX11_takesItem_1 ?_
  refine gj_bp 99 dX11_takesItem_2 (by decide) ?_
  refine gj_bp 101 dX11_takesItem_4 (by decide) ?_
  refine gj_bp 108 dX11_takesItem_6 (by decide) ?_
  refine gj_bp 108 dX11_takesItem_8 (by decide) ?_
  refine gj_ic (w := 0) dX11_takesItem_10 ?_
  refine gj_ic (w := 0) dX11_takesItem_11 ?_
  refine gj_V1 lkX11_266 H0 rfl rfl (ev_X11_spells_w1 (t := t) H0 HB hB (by omega)) dX11_takesItem_12 rfl rfl rfl rfl rfl ?_
  refine gj_topB (y := decide (sp_tt B y2 t = 4294967291)) (sp_spl1 (t := t) hB) ?_
  refine gj_if_eqb (tgt := 23) dX11_takesItem_15 rfl (fun zq1 => ?_) (fun zq1 => ?_)
  rotate_left
  · exfalso; exact absurd (of_decide_eq_true zq1) (by omega)
  refine gj_aload_n dX11_takesItem_23 rfl ?_
  refine gj_ic (w := 4) dX11_takesItem_24 ?_
  refine gj_bp 119 dX11_takesItem_25 (by decide) ?_
  refine gj_bp 101 dX11_takesItem_27 (by decide) ?_
  refine gj_bp 101 dX11_takesItem_29 (by decide) ?_
  refine gj_bp 107 dX11_takesItem_31 (by decide) ?_
  refine gj_ic (w := 0) dX11_takesItem_33 ?_
  refine gj_ic (w := 0) dX11_takesItem_34 ?_
  refine gj_V1 lkX11_266 H0 rfl rfl (ev_X11_spells_w2 (t := t) H0 HB hB (by omega)) dX11_takesItem_35 rfl rfl rfl rfl rfl ?_
  refine gj_topB (y := decide (sp_tt B y2 t = 4294967290)) (sp_spl2 (t := t) hB) ?_
  refine gj_if_eqb (tgt := 46) dX11_takesItem_38 rfl (fun zq2 => ?_) (fun zq2 => ?_)
  rotate_left
  · exfalso; exact absurd (of_decide_eq_true zq2) (by omega)
  refine gj_aload_n dX11_takesItem_46 rfl ?_
  refine gj_ic (w := 5) dX11_takesItem_47 ?_
  refine gj_bp 118 dX11_takesItem_48 (by decide) ?_
  refine gj_bp 111 dX11_takesItem_50 (by decide) ?_
  refine gj_bp 116 dX11_takesItem_52 (by decide) ?_
  refine gj_bp 101 dX11_takesItem_54 (by decide) ?_
  refine gj_bp 114 dX11_takesItem_56 (by decide) ?_
  refine gj_ic (w := 0) dX11_takesItem_58 ?_
  refine gj_V1 lkX11_266 H0 rfl rfl (ev_X11_spells_w3 (t := t) H0 HB hB (by omega)) dX11_takesItem_59 rfl rfl rfl rfl rfl ?_
  refine gj_topB (y := decide (sp_tt B y2 t = 4294967289)) (sp_spl3 (t := t) hB) ?_
  refine gj_if_eqb (tgt := 76) dX11_takesItem_62 rfl (fun zq3 => ?_) (fun zq3 => ?_)
  · exfalso; exact absurd zq3 (by rw [decide_eq_true h2]; decide)
  refine gj_aload_n dX11_takesItem_65 rfl ?_
  refine gj_V1 lkX11_281 H0 rfl rfl (ev_X11_rd_voter_1 H0 HB HA hB (by omega) h3 h4) dX11_takesItem_66 rfl rfl rfl rfl rfl ?_
  refine gj_if_eqb (tgt := 76) dX11_takesItem_69 rfl (fun zq4 => ?_) (fun zq4 => ?_)
  rotate_left
  · exfalso; exact nomatch zq4
  refine gj_ic (w := 0) dX11_takesItem_76 ?_
  exact gj_zr rfl dX11_takesItem_77 rfl (mj_b0 (by decide)) rfl
set_option maxHeartbeats 1000000 in
set_option maxRecDepth 10000 in
theorem ev_X11_rd_item_voter_2 {E : mj_E} {h : mj_H} {a0 a1 y2 t : Nat} {B : Nat → Nat} (H0 : h 100 = some (mj_mo a0 a1 y2 (sp_ss B y2 t) (sp_ps B y2 (t + 1) - sp_ss B y2 t) (sp_xkt B y2 t) (sp_xvt B y2 t))) (HB : h 107 = some (mj_ar 150 B)) {A : Nat → Nat} (HA : h 108 = some (mj_ar 154 A)) {W : Nat → Nat} (HW : h 109 = some (mj_ar 3 W)) (h0 : ∀ c, B c ≤ 127) (h1 : y2 ≤ 150) (h2 : sp_tt B y2 t = 4294967289) (h3 : A 0 < 7) (h4 : sp_tt B y2 (t + 1) ≤ 5) (h5 : ¬ (1 ≤ sp_tt B y2 (t + 2) ∧ sp_tt B y2 (t + 2) ≤ 99)) : mj_Ev E iX11_takesItem [.ref 100] h (mj_R (some (.int (mj_b false))) (mj_up (mj_up (h) 100 (mj_mo a0 a1 y2 (sp_ss B y2 (t + 2)) (sp_ps B y2 (t + 2 + 1) - sp_ss B y2 (t + 2)) (sp_xkt B y2 (t + 2)) (sp_xvt B y2 (t + 2)))) 109 (mj_ar 3 (mj_un W 0 (sp_tt B y2 (t + 1)))))) := by
  have hB := h0
  refine mj_Ev.of (L0 := [some (.ref 100)]) pnRX11 (Nat.le_of_ble_eq_true rfl) rfl ?_
  refine gj_aload_n dX11_takesItem_0 rfl ?_
  refine gj_ic (w := 4) dX11_takesItem_1 ?_
  refine gj_bp 99 dX11_takesItem_2 (by decide) ?_
  refine gj_bp 101 dX11_takesItem_4 (by decide) ?_
  refine gj_bp 108 dX11_takesItem_6 (by decide) ?_
  refine gj_bp 108 dX11_takesItem_8 (by decide) ?_
  refine gj_ic (w := 0) dX11_takesItem_10 ?_
  refine gj_ic (w := 0) dX11_takesItem_11 ?_
  refine gj_V1 lkX11_266 H0 rfl rfl (ev_X11_spells_w1 (t := t) H0 HB hB (by omega)) dX11_takesItem_12 rfl rfl rfl rfl rfl ?_
  refine gj_topB (y := decide (sp_tt B y2 t = 4294967291)) (sp_spl1 (t := t) hB) ?_
  refine gj_if_eqb (tgt := 23) dX11_takesItem_15 rfl (fun zq1 => ?_) (fun zq1 => ?_)
  rotate_left
  · exfalso; exact absurd (of_decide_eq_true zq1) (by omega)
  refine gj_aload_n dX11_takesItem_23 rfl ?_
  refine gj_ic (w := 4) dX11_takesItem_24 ?_
  refine gj_bp 119 dX11_takesItem_25 (by decide) ?_
  refine gj_bp 101 dX11_takesItem_27 (by decide) ?_
  refine gj_bp 101 dX11_takesItem_29 (by decide) ?_
  refine gj_bp 107 dX11_takesItem_31 (by decide) ?_
  refine gj_ic (w := 0) dX11_takesItem_33 ?_
  refine gj_ic (w := 0) dX11_takesItem_34 ?_
  refine gj_V1 lkX11_266 H0 rfl rfl (ev_X11_spells_w2 (t := t) H0 HB hB (by omega)) dX11_takesItem_35 rfl rfl rfl rfl rfl ?_
  refine gj_topB (y := decide (sp_tt B y2 t = 4294967290)) (sp_spl2 (t := t) hB) ?_
  refine gj_if_eqb (tgt := 46) dX11_takesItem_38 rfl (fun zq2 => ?_) (fun zq2 => ?_)
  rotate_left
  · exfalso; exact absurd (of_decide_eq_true zq2) (by omega)
  refine gj_aload_n dX11_takesItem_46 rfl ?_
  refine gj_ic (w := 5) dX11_takesItem_47 ?_
  refine gj_bp 118 dX11_takesItem_48 (by decide) ?_
  refine gj_bp 111 dX11_takesItem_50 (by decide) ?_
  refine gj_bp 116 dX11_takesItem_52 (by decide) ?_
  refine gj_bp 101 dX11_takesItem_54 (by decide) ?_
  refine gj_bp 114 dX11_takesItem_56 (by decide) ?_
  refine gj_ic (w := 0) dX11_takesItem_58 ?_
  refine gj_V1 lkX11_266 H0 rfl rfl (ev_X11_spells_w3 (t := t) H0 HB hB (by omega)) dX11_takesItem_59 rfl rfl rfl rfl rfl ?_
  refine gj_topB (y := decide (sp_tt B y2 t = 4294967289)) (sp_spl3 (t := t) hB) ?_
  refine gj_if_eqb (tgt := 76) dX11_takesItem_62 rfl (fun zq3 => ?_) (fun zq3 => ?_)
  · exfalso; exact absurd zq3 (by rw [decide_eq_true h2]; decide)
  refine gj_aload_n dX11_takesItem_65 rfl ?_
  refine gj_V1 lkX11_281 H0 rfl rfl (ev_X11_rd_voter_2 H0 HB HA HW hB (by omega) h3 h4 h5) dX11_takesItem_66 rfl rfl rfl rfl rfl ?_
  refine gj_if_eqb (tgt := 76) dX11_takesItem_69 rfl (fun zq4 => ?_) (fun zq4 => ?_)
  rotate_left
  · exfalso; exact nomatch zq4
  refine gj_ic (w := 0) dX11_takesItem_76 ?_
  exact gj_zr rfl dX11_takesItem_77 rfl (mj_b0 (by decide)) rfl
set_option maxHeartbeats 1000000 in
set_option maxRecDepth 10000 in
theorem ev_X11_rd_item_voter_3 {E : mj_E} {h : mj_H} {a0 a1 y2 t : Nat} {B : Nat → Nat} (H0 : h 100 = some (mj_mo a0 a1 y2 (sp_ss B y2 t) (sp_ps B y2 (t + 1) - sp_ss B y2 t) (sp_xkt B y2 t) (sp_xvt B y2 t))) (HB : h 107 = some (mj_ar 150 B)) {A : Nat → Nat} (HA : h 108 = some (mj_ar 154 A)) {W : Nat → Nat} (HW : h 109 = some (mj_ar 3 W)) (h0 : ∀ c, B c ≤ 127) (h1 : y2 ≤ 150) (h2 : sp_tt B y2 t = 4294967289) (h3 : A 0 < 7) (h4 : sp_tt B y2 (t + 1) ≤ 5) (h5 : 1 ≤ sp_tt B y2 (t + 2) ∧ sp_tt B y2 (t + 2) ≤ 99) (h6 : ¬ (sp_tt B y2 (t + 3) ≤ 24)) : mj_Ev E iX11_takesItem [.ref 100] h (mj_R (some (.int (mj_b false))) (mj_up (mj_up (h) 100 (mj_mo a0 a1 y2 (sp_ss B y2 (t + 3)) (sp_ps B y2 (t + 3 + 1) - sp_ss B y2 (t + 3)) (sp_xkt B y2 (t + 3)) (sp_xvt B y2 (t + 3)))) 109 (mj_ar 3 (mj_un (mj_un W 0 (sp_tt B y2 (t + 1))) 1 (sp_tt B y2 (t + 2)))))) := by
  have hB := h0
  refine mj_Ev.of (L0 := [some (.ref 100)]) pnRX11 (Nat.le_of_ble_eq_true rfl) rfl ?_
  refine gj_aload_n dX11_takesItem_0 rfl ?_
  refine gj_ic (w := 4) dX11_takesItem_1 ?_
  refine gj_bp 99 dX11_takesItem_2 (by decide) ?_
  refine gj_bp 101 dX11_takesItem_4 (by decide) ?_
  refine gj_bp 108 dX11_takesItem_6 (by decide) ?_
  refine gj_bp 108 dX11_takesItem_8 (by decide) ?_
  refine gj_ic (w := 0) dX11_takesItem_10 ?_
  refine gj_ic (w := 0) dX11_takesItem_11 ?_
  refine gj_V1 lkX11_266 H0 rfl rfl (ev_X11_spells_w1 (t := t) H0 HB hB (by omega)) dX11_takesItem_12 rfl rfl rfl rfl rfl ?_
  refine gj_topB (y := decide (sp_tt B y2 t = 4294967291)) (sp_spl1 (t := t) hB) ?_
  refine gj_if_eqb (tgt := 23) dX11_takesItem_15 rfl (fun zq1 => ?_) (fun zq1 => ?_)
  rotate_left
  · exfalso; exact absurd (of_decide_eq_true zq1) (by omega)
  refine gj_aload_n dX11_takesItem_23 rfl ?_
  refine gj_ic (w := 4) dX11_takesItem_24 ?_
  refine gj_bp 119 dX11_takesItem_25 (by decide) ?_
  refine gj_bp 101 dX11_takesItem_27 (by decide) ?_
  refine gj_bp 101 dX11_takesItem_29 (by decide) ?_
  refine gj_bp 107 dX11_takesItem_31 (by decide) ?_
  refine gj_ic (w := 0) dX11_takesItem_33 ?_
  refine gj_ic (w := 0) dX11_takesItem_34 ?_
  refine gj_V1 lkX11_266 H0 rfl rfl (ev_X11_spells_w2 (t := t) H0 HB hB (by omega)) dX11_takesItem_35 rfl rfl rfl rfl rfl ?_
  refine gj_topB (y := decide (sp_tt B y2 t = 4294967290)) (sp_spl2 (t := t) hB) ?_
  refine gj_if_eqb (tgt := 46) dX11_takesItem_38 rfl (fun zq2 => ?_) (fun zq2 => ?_)
  rotate_left
  · exfalso; exact absurd (of_decide_eq_true zq2) (by omega)
  refine gj_aload_n dX11_takesItem_46 rfl ?_
  refine gj_ic (w := 5) dX11_takesItem_47 ?_
  refine gj_bp 118 dX11_takesItem_48 (by decide) ?_
  refine gj_bp 111 dX11_takesItem_50 (by decide) ?_
  refine gj_bp 116 dX11_takesItem_52 (by decide) ?_
  refine gj_bp 101 dX11_takesItem_54 (by decide) ?_
  refine gj_bp 114 dX11_takesItem_56 (by decide) ?_
  refine gj_ic (w := 0) dX11_takesItem_58 ?_
  refine gj_V1 lkX11_266 H0 rfl rfl (ev_X11_spells_w3 (t := t) H0 HB hB (by omega)) dX11_takesItem_59 rfl rfl rfl rfl rfl ?_
  refine gj_topB (y := decide (sp_tt B y2 t = 4294967289)) (sp_spl3 (t := t) hB) ?_
  refine gj_if_eqb (tgt := 76) dX11_takesItem_62 rfl (fun zq3 => ?_) (fun zq3 => ?_)
  · exfalso; exact absurd zq3 (by rw [decide_eq_true h2]; decide)
  refine gj_aload_n dX11_takesItem_65 rfl ?_
  refine gj_V1 lkX11_281 H0 rfl rfl (ev_X11_rd_voter_3 H0 HB HA HW hB (by omega) h3 h4 h5 h6) dX11_takesItem_66 rfl rfl rfl rfl rfl ?_
  refine gj_if_eqb (tgt := 76) dX11_takesItem_69 rfl (fun zq4 => ?_) (fun zq4 => ?_)
  rotate_left
  · exfalso; exact nomatch zq4
  refine gj_ic (w := 0) dX11_takesItem_76 ?_
  exact gj_zr rfl dX11_takesItem_77 rfl (mj_b0 (by decide)) rfl
set_option maxHeartbeats 1000000 in
set_option maxRecDepth 10000 in
theorem ev_X11_rd_item_voter_t {E : mj_E} {h : mj_H} {a0 a1 y2 t : Nat} {B : Nat → Nat} (H0 : h 100 = some (mj_mo a0 a1 y2 (sp_ss B y2 t) (sp_ps B y2 (t + 1) - sp_ss B y2 t) (sp_xkt B y2 t) (sp_xvt B y2 t))) (HB : h 107 = some (mj_ar 150 B)) {A : Nat → Nat} (HA : h 108 = some (mj_ar 154 A)) {W : Nat → Nat} (HW : h 109 = some (mj_ar 3 W)) (h0 : ∀ c, B c ≤ 127) (h1 : y2 ≤ 150) (h2 : sp_tt B y2 t = 4294967289) (h3 : A 0 < 7) (h4 : sp_tt B y2 (t + 1) ≤ 5) (h5 : 1 ≤ sp_tt B y2 (t + 2) ∧ sp_tt B y2 (t + 2) ≤ 99) (h6 : sp_tt B y2 (t + 3) ≤ 24) : mj_Ev E iX11_takesItem [.ref 100] h (mj_R (some (.int (mj_b true))) (mj_up (mj_up (mj_up (h) 100 (mj_mo a0 a1 y2 (sp_ss B y2 (t + 4)) (sp_ps B y2 (t + 4 + 1) - sp_ss B y2 (t + 4)) (sp_xkt B y2 (t + 4)) (sp_xvt B y2 (t + 4)))) 108 (mj_ar 154 (mj_un (mj_un (mj_un (mj_un A (73 + A 0) (sp_tt B y2 (t + 1))) (80 + A 0) (sp_tt B y2 (t + 2))) (87 + A 0) (sp_tt B y2 (t + 3))) 0 (A 0 + 1)))) 109 (mj_ar 3 (mj_un (mj_un (mj_un W 0 (sp_tt B y2 (t + 1))) 1 (sp_tt B y2 (t + 2))) 2 (sp_tt B y2 (t + 3)))))) := by
  have hB := h0
  refine mj_Ev.of (L0 := [some (.ref 100)]) pnRX11 (Nat.le_of_ble_eq_true rfl) rfl ?_
  refine gj_aload_n dX11_takesItem_0 rfl ?_
  refine gj_ic (w := 4) dX11_takesItem_1 ?_
  refine gj_bp 99 dX11_takesItem_2 (by decide) ?_
  refine gj_bp 101 dX11_takesItem_4 (by decide) ?_
  refine gj_bp 108 dX11_takesItem_6 (by decide) ?_
  refine gj_bp 108 dX11_takesItem_8 (by decide) ?_
  refine gj_ic (w := 0) dX11_takesItem_10 ?_
  refine gj_ic (w := 0) dX11_takesItem_11 ?_
  refine gj_V1 lkX11_266 H0 rfl rfl (ev_X11_spells_w1 (t := t) H0 HB hB (by omega)) dX11_takesItem_12 rfl rfl rfl rfl rfl ?_
  refine gj_topB (y := decide (sp_tt B y2 t = 4294967291)) (sp_spl1 (t := t) hB) ?_
  refine gj_if_eqb (tgt := 23) dX11_takesItem_15 rfl (fun zq1 => ?_) (fun zq1 => ?_)
  rotate_left
  · exfalso; exact absurd (of_decide_eq_true zq1) (by omega)
  refine gj_aload_n dX11_takesItem_23 rfl ?_
  refine gj_ic (w := 4) dX11_takesItem_24 ?_
  refine gj_bp 119 dX11_takesItem_25 (by decide) ?_
  refine gj_bp 101 dX11_takesItem_27 (by decide) ?_
  refine gj_bp 101 dX11_takesItem_29 (by decide) ?_
  refine gj_bp 107 dX11_takesItem_31 (by decide) ?_
  refine gj_ic (w := 0) dX11_takesItem_33 ?_
  refine gj_ic (w := 0) dX11_takesItem_34 ?_
  refine gj_V1 lkX11_266 H0 rfl rfl (ev_X11_spells_w2 (t := t) H0 HB hB (by omega)) dX11_takesItem_35 rfl rfl rfl rfl rfl ?_
  refine gj_topB (y := decide (sp_tt B y2 t = 4294967290)) (sp_spl2 (t := t) hB) ?_
  refine gj_if_eqb (tgt := 46) dX11_takesItem_38 rfl (fun zq2 => ?_) (fun zq2 => ?_)
  rotate_left
  · exfalso; exact absurd (of_decide_eq_true zq2) (by omega)
  refine gj_aload_n dX11_takesItem_46 rfl ?_
  refine gj_ic (w := 5) dX11_takesItem_47 ?_
  refine gj_bp 118 dX11_takesItem_48 (by decide) ?_
  refine gj_bp 111 dX11_takesItem_50 (by decide) ?_
  refine gj_bp 116 dX11_takesItem_52 (by decide) ?_
  refine gj_bp 101 dX11_takesItem_54 (by decide) ?_
  refine gj_bp 114 dX11_takesItem_56 (by decide) ?_
  refine gj_ic (w := 0) dX11_takesItem_58 ?_
  refine gj_V1 lkX11_266 H0 rfl rfl (ev_X11_spells_w3 (t := t) H0 HB hB (by omega)) dX11_takesItem_59 rfl rfl rfl rfl rfl ?_
  refine gj_topB (y := decide (sp_tt B y2 t = 4294967289)) (sp_spl3 (t := t) hB) ?_
  refine gj_if_eqb (tgt := 76) dX11_takesItem_62 rfl (fun zq3 => ?_) (fun zq3 => ?_)
  · exfalso; exact absurd zq3 (by rw [decide_eq_true h2]; decide)
  refine gj_aload_n dX11_takesItem_65 rfl ?_
  refine gj_V1 lkX11_281 H0 rfl rfl (ev_X11_rd_voter_t H0 HB HA HW hB (by omega) h3 h4 h5 h6) dX11_takesItem_66 rfl rfl rfl rfl rfl ?_
  refine gj_if_eqb (tgt := 76) dX11_takesItem_69 rfl (fun zq4 => ?_) (fun zq4 => ?_)
  · exfalso; exact nomatch zq4
  refine gj_ic (w := 1) dX11_takesItem_72 ?_
  refine gj_goto (tgt := 77) dX11_takesItem_73 rfl ?_
  exact gj_zr rfl dX11_takesItem_77 rfl (mj_b1 (by decide)) rfl
set_option maxHeartbeats 1000000 in
set_option maxRecDepth 10000 in
theorem ev_X11_rd_item_no {E : mj_E} {h : mj_H} {a0 a1 y2 t : Nat} {B : Nat → Nat} (H0 : h 100 = some (mj_mo a0 a1 y2 (sp_ss B y2 t) (sp_ps B y2 (t + 1) - sp_ss B y2 t) (sp_xkt B y2 t) (sp_xvt B y2 t))) (HB : h 107 = some (mj_ar 150 B)) (h0 : ∀ c, B c ≤ 127) (h1 : y2 ≤ 150) (h2 : ¬ sp_tt B y2 t = 4294967291) (h3 : ¬ sp_tt B y2 t = 4294967290) (h4 : ¬ sp_tt B y2 t = 4294967289) : mj_Ev E iX11_takesItem [.ref 100] h (mj_R (some (.int (mj_b false))) h) := by
  have hB := h0
  refine mj_Ev.of (L0 := [some (.ref 100)]) pnRX11 (Nat.le_of_ble_eq_true rfl) rfl ?_
  refine gj_aload_n dX11_takesItem_0 rfl ?_
  refine gj_ic (w := 4) dX11_takesItem_1 ?_
  refine gj_bp 99 dX11_takesItem_2 (by decide) ?_
  refine gj_bp 101 dX11_takesItem_4 (by decide) ?_
  refine gj_bp 108 dX11_takesItem_6 (by decide) ?_
  refine gj_bp 108 dX11_takesItem_8 (by decide) ?_
  refine gj_ic (w := 0) dX11_takesItem_10 ?_
  refine gj_ic (w := 0) dX11_takesItem_11 ?_
  refine gj_V1 lkX11_266 H0 rfl rfl (ev_X11_spells_w1 (t := t) H0 HB hB (by omega)) dX11_takesItem_12 rfl rfl rfl rfl rfl ?_
  refine gj_topB (y := decide (sp_tt B y2 t = 4294967291)) (sp_spl1 (t := t) hB) ?_
  refine gj_if_eqb (tgt := 23) dX11_takesItem_15 rfl (fun zq1 => ?_) (fun zq1 => ?_)
  rotate_left
  · exfalso; exact absurd (of_decide_eq_true zq1) (by omega)
  refine gj_aload_n dX11_takesItem_23 rfl ?_
  refine gj_ic (w := 4) dX11_takesItem_24 ?_
  refine gj_bp 119 dX11_takesItem_25 (by decide) ?_
  refine gj_bp 101 dX11_takesItem_27 (by decide) ?_
  refine gj_bp 101 dX11_takesItem_29 (by decide) ?_
  refine gj_bp 107 dX11_takesItem_31 (by decide) ?_
  refine gj_ic (w := 0) dX11_takesItem_33 ?_
  refine gj_ic (w := 0) dX11_takesItem_34 ?_
  refine gj_V1 lkX11_266 H0 rfl rfl (ev_X11_spells_w2 (t := t) H0 HB hB (by omega)) dX11_takesItem_35 rfl rfl rfl rfl rfl ?_
  refine gj_topB (y := decide (sp_tt B y2 t = 4294967290)) (sp_spl2 (t := t) hB) ?_
  refine gj_if_eqb (tgt := 46) dX11_takesItem_38 rfl (fun zq2 => ?_) (fun zq2 => ?_)
  rotate_left
  · exfalso; exact absurd (of_decide_eq_true zq2) (by omega)
  refine gj_aload_n dX11_takesItem_46 rfl ?_
  refine gj_ic (w := 5) dX11_takesItem_47 ?_
  refine gj_bp 118 dX11_takesItem_48 (by decide) ?_
  refine gj_bp 111 dX11_takesItem_50 (by decide) ?_
  refine gj_bp 116 dX11_takesItem_52 (by decide) ?_
  refine gj_bp 101 dX11_takesItem_54 (by decide) ?_
  refine gj_bp 114 dX11_takesItem_56 (by decide) ?_
  refine gj_ic (w := 0) dX11_takesItem_58 ?_
  refine gj_V1 lkX11_266 H0 rfl rfl (ev_X11_spells_w3 (t := t) H0 HB hB (by omega)) dX11_takesItem_59 rfl rfl rfl rfl rfl ?_
  refine gj_topB (y := decide (sp_tt B y2 t = 4294967289)) (sp_spl3 (t := t) hB) ?_
  refine gj_if_eqb (tgt := 76) dX11_takesItem_62 rfl (fun zq3 => ?_) (fun zq3 => ?_)
  rotate_left
  · exfalso; exact absurd (of_decide_eq_true zq3) (by omega)
  refine gj_ic (w := 0) dX11_takesItem_76 ?_
  exact gj_zr rfl dX11_takesItem_77 rfl (mj_b0 (by decide)) rfl
