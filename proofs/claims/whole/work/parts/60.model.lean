theorem sp_wt_ge {B : Nat → Nat} {s e : Nat} : 4294967289 ≤ sp_wt B s e := by unfold sp_wt; (repeat' split) <;> omega
theorem sp_wt_ns {B : Nat → Nat} {s e : Nat} : ¬ sp_wt B s e = 4294967294 := by unfold sp_wt; (repeat' split) <;> omega
theorem ev_X11_lookAt {E : mj_E} {h : mj_H} {a0 a1 y2 y3 y4 y5 y6 : Nat} (H0 : h 100 = some (mj_mo a0 a1 y2 y3 y4 y5 y6)) {B : Nat → Nat} (HB : h 107 = some (mj_ar 150 B)) {p : Nat} (h0 : ∀ c, B c ≤ 127) (h1 : y2 ≤ 150) (h2 : p ≤ y2) : mj_Ev E iX11_lookAt [.ref 100, .int (nI p)] h (mj_R none (mj_up h 100 (mj_mo a0 a1 y2 (sp_er B y2 32 32 p) (sp_eb B y2 (sp_er B y2 32 32 p) - (sp_er B y2 32 32 p)) (sp_xk B y2 (sp_er B y2 32 32 p) (sp_eb B y2 (sp_er B y2 32 32 p))) (sp_xv B y2 (sp_er B y2 32 32 p) (sp_eb B y2 (sp_er B y2 32 32 p)))))) := by
  by_cases q : y2 ≤ sp_er B y2 32 32 p
  · exact ev_X11_lookAt_end H0 HB h0 h1 h2 q
  have q0 := Nat.not_le.mp q
  by_cases q1 : 97 ≤ B (sp_er B y2 32 32 p) ∧ B (sp_er B y2 32 32 p) ≤ 122
  · exact ev_X11_lookAt_word H0 HB h0 h1 h2 q0 q1
  by_cases q2 : 48 ≤ B (sp_er B y2 32 32 p) ∧ B (sp_er B y2 32 32 p) ≤ 57
  · exact ev_X11_lookAt_num H0 HB h0 h1 h2 q0 q1 q2
  by_cases q3 : B (sp_er B y2 32 32 p) = 59
  · exact ev_X11_lookAt_stop H0 HB h0 h1 h2 q0 q1 q2 q3
  · exact ev_X11_lookAt_x H0 HB h0 h1 h2 q0 q1 q2 q3

theorem sp_tt_num {B : Nat → Nat} {n t : Nat} (hB : ∀ c, B c ≤ 127) (h : sp_tt B n t ≤ 99) : sp_xkt B n t = 2 ∧ sp_xvt B n t = sp_tt B n t := by
  have w := @sp_wt_ge B (sp_ss B n t) (sp_ps B n (t + 1))
  revert h
  unfold sp_xkt sp_xvt sp_tt sp_xk sp_xv sp_tk sp_nvl sp_ba
  by_cases q : n ≤ sp_ss B n t
  · rw [if_pos q]; intro h; omega
  rw [if_neg q, if_neg q, if_neg q, if_pos (Nat.not_le.mp q)]
  by_cases q1 : 97 ≤ B (sp_ss B n t) ∧ B (sp_ss B n t) ≤ 122
  · rw [if_pos q1]; intro h; omega
  rw [if_neg q1, if_neg q1, if_neg q1]
  by_cases q2 : 48 ≤ B (sp_ss B n t) ∧ B (sp_ss B n t) ≤ 57
  · rw [if_pos q2, if_pos q2, if_pos q2]
    by_cases e1 : sp_ps B n (t + 1) - sp_ss B n t = 1
    · rw [if_pos e1, if_pos e1, if_neg (by omega)]; exact fun _ => ⟨rfl, rfl⟩
    rw [if_neg e1, if_neg e1]
    by_cases e2 : sp_ps B n (t + 1) - sp_ss B n t = 2
    · rw [if_pos e2, if_neg (by omega)]; exact fun _ => ⟨rfl, rfl⟩
    · rw [if_neg e2]; intro h; omega
  · rw [if_neg q2, if_neg q2, if_neg q2]
    intro h
    by_cases q3 : B (sp_ss B n t) = 59
    · rw [if_pos q3] at h; omega
    · rw [if_neg q3] at h; omega
theorem sp_num_tt {B : Nat → Nat} {n t : Nat} (hB : ∀ c, B c ≤ 127) (h : sp_xkt B n t = 2) : sp_xvt B n t = sp_tt B n t ∧ sp_tt B n t ≤ 99999 := by
  have g1 := hB (sp_ss B n t)
  have g2 := hB (sp_ss B n t + 1)
  have g3 := @sp_ps_ge B n t
  revert h
  unfold sp_xkt sp_xvt sp_tt sp_xk sp_xv sp_tk sp_nvl sp_ba
  by_cases q : n ≤ sp_ss B n t
  · rw [if_pos q]; intro h; omega
  have g4 : sp_ss B n t < sp_ps B n (t + 1) := sp_eb_gt (Nat.not_le.mp q)
  rw [if_neg q, if_neg q, if_neg q, if_pos (Nat.not_le.mp q)]
  by_cases q1 : 97 ≤ B (sp_ss B n t) ∧ B (sp_ss B n t) ≤ 122
  · rw [if_pos q1]; intro h; omega
  rw [if_neg q1, if_neg q1, if_neg q1]
  by_cases q2 : 48 ≤ B (sp_ss B n t) ∧ B (sp_ss B n t) ≤ 57
  · rw [if_pos q2, if_pos q2, if_pos q2]
    intro h
    by_cases e0 : 2 < sp_ps B n (t + 1) - sp_ss B n t
    · rw [if_pos e0] at h; omega
    by_cases e1 : sp_ps B n (t + 1) - sp_ss B n t = 1
    · rw [if_pos e1, if_pos e1]; omega
    · rw [if_neg e1, if_neg e1, if_pos (by omega)]; omega
  · rw [if_neg q2]
    intro h
    by_cases q3 : B (sp_ss B n t) = 59
    · rw [if_pos q3] at h; omega
    · rw [if_neg q3] at h; omega
theorem sp_tt_stop {B : Nat → Nat} {n t : Nat} (hB : ∀ c, B c ≤ 127) : sp_xkt B n t = 3 ↔ sp_tt B n t = 4294967294 := by
  have w := @sp_wt_ns B (sp_ss B n t) (sp_ps B n (t + 1))
  have g1 := hB (sp_ss B n t)
  have g2 := hB (sp_ss B n t + 1)
  unfold sp_xkt sp_tt sp_xk sp_tk sp_nvl sp_ba
  by_cases q : n ≤ sp_ss B n t
  · rw [if_pos q, if_pos q]; omega
  rw [if_neg q, if_neg q, if_pos (Nat.not_le.mp q)]
  by_cases q1 : 97 ≤ B (sp_ss B n t) ∧ B (sp_ss B n t) ≤ 122
  · rw [if_pos q1, if_pos q1]; omega
  rw [if_neg q1, if_neg q1]
  by_cases q2 : 48 ≤ B (sp_ss B n t) ∧ B (sp_ss B n t) ≤ 57
  · rw [if_pos q2, if_pos q2]
    (repeat' split) <;> omega
  · rw [if_neg q2, if_neg q2]
    (repeat' split) <;> omega
theorem sp_tt_zero {B : Nat → Nat} {n t : Nat} (hB : ∀ c, B c ≤ 127) : sp_xkt B n t = 0 ↔ sp_tt B n t = 4294967295 := by
  have w := @sp_wt_ne B (sp_ss B n t) (sp_ps B n (t + 1))
  have g1 := hB (sp_ss B n t)
  have g2 := hB (sp_ss B n t + 1)
  unfold sp_xkt sp_tt sp_xk sp_tk sp_nvl sp_ba
  by_cases q : n ≤ sp_ss B n t
  · rw [if_pos q, if_pos q]; omega
  rw [if_neg q, if_neg q, if_pos (Nat.not_le.mp q)]
  by_cases q1 : 97 ≤ B (sp_ss B n t) ∧ B (sp_ss B n t) ≤ 122
  · rw [if_pos q1, if_pos q1]; omega
  rw [if_neg q1, if_neg q1]
  by_cases q2 : 48 ≤ B (sp_ss B n t) ∧ B (sp_ss B n t) ≤ 57
  · rw [if_pos q2, if_pos q2]
    (repeat' split) <;> omega
  · rw [if_neg q2, if_neg q2]
    (repeat' split) <;> omega
theorem sp_xkt_le {B : Nat → Nat} {n t : Nat} : sp_xkt B n t ≤ 4 := by unfold sp_xkt sp_xk; (repeat' split) <;> omega
/-- whether the token t is the word j -/
def sp_isj (B : Nat → Nat) (n t j : Nat) : Bool := decide (sp_xkt B n t = 1) && sp_isw j B (sp_ss B n t) (sp_ps B n (t + 1))
set_option maxHeartbeats 1000000 in
set_option maxRecDepth 10000 in
theorem ev_X11_goBehind {E : mj_E} {h : mj_H} {a0 a1 y2 t : Nat} {B : Nat → Nat} (H0 : h 100 = some (mj_mo a0 a1 y2 (sp_ss B y2 t) (sp_ps B y2 (t + 1) - sp_ss B y2 t) (sp_xkt B y2 t) (sp_xvt B y2 t))) (HB : h 107 = some (mj_ar 150 B)) (h0 : ∀ c, B c ≤ 127) (h1 : y2 ≤ 150) : mj_Ev E iX11_goBehind [.ref 100] h (mj_R none (mj_up (h) 100 (mj_mo a0 a1 y2 (sp_ss B y2 (t + 1)) (sp_ps B y2 (t + 1 + 1) - sp_ss B y2 (t + 1)) (sp_xkt B y2 (t + 1)) (sp_xvt B y2 (t + 1))))) := by
  have hB := h0
  refine mj_Ev.of (L0 := [some (.ref 100)]) pnRX11 (Nat.le_of_ble_eq_true rfl) rfl ?_
  refine gj_aload_n dX11_goBehind_0 rfl ?_
  refine gj_aload_n dX11_goBehind_1 rfl ?_
  refine gfX11_242 rfl dX11_goBehind_2 H0 rfl ?_
  have hps := @sp_ps_le B y2 (t + 1)
  have hsg := @sp_ps_ge B y2 t
  refine gj_aload_n dX11_goBehind_5 rfl ?_
  refine gfX11_245 rfl dX11_goBehind_6 H0 rfl ?_
  refine gj_iaddN  dX11_goBehind_9 ?_
  refine gj_topN (Nat.add_sub_of_le sp_ps_ge) ?_
  refine gj_V0 lkX11_260 H0 rfl rfl (ev_X11_lookAt H0 HB hB (by omega) (by omega)) dX11_goBehind_10 rfl rfl rfl rfl rfl ?_
  exact gj_vr rfl dX11_goBehind_13 rfl
set_option maxHeartbeats 1000000 in
set_option maxRecDepth 10000 in
theorem ev_X11_takes_t {E : mj_E} {h : mj_H} {a0 a1 y2 t : Nat} {B : Nat → Nat} (H0 : h 100 = some (mj_mo a0 a1 y2 (sp_ss B y2 t) (sp_ps B y2 (t + 1) - sp_ss B y2 t) (sp_xkt B y2 t) (sp_xvt B y2 t))) (HB : h 107 = some (mj_ar 150 B)) {W : Nat → Nat} (HW : h 109 = some (mj_ar 3 W)) {k lo hi : Nat} (h0 : ∀ c, B c ≤ 127) (h1 : y2 ≤ 150) (h2 : k < 3) (h3 : lo ≤ sp_tt B y2 t) (h4 : sp_tt B y2 t ≤ hi) (h5 : hi ≤ 99) : mj_Ev E iX11_takes [.ref 100, .int (nI k), .int (nI lo), .int (nI hi)] h (mj_R (some (.int (mj_b true))) (mj_up (mj_up (h) 100 (mj_mo a0 a1 y2 (sp_ss B y2 (t + 1)) (sp_ps B y2 (t + 1 + 1) - sp_ss B y2 (t + 1)) (sp_xkt B y2 (t + 1)) (sp_xvt B y2 (t + 1)))) 109 (mj_ar 3 (mj_un W k (sp_tt B y2 t))))) := by
  have hB := h0
  have hnt := sp_tt_num hB (show sp_tt B y2 t ≤ 99 by omega)
  refine mj_Ev.of (L0 := [some (.ref 100), some (.int (nI k)), some (.int (nI lo)), some (.int (nI hi))]) pnRX11 (Nat.le_of_ble_eq_true rfl) rfl ?_
  refine gj_aload_n dX11_takes_0 rfl ?_
  refine gfX11_248 rfl dX11_takes_1 H0 rfl ?_
  refine gj_topN hnt.1 ?_
  refine gj_ic (w := 2) dX11_takes_4 ?_
  refine gj_icmp_neN (tgt := 23) (by omega) (by omega) dX11_takes_5 rfl (fun zq0 => ?_) (fun zq0 => ?_)
  · exfalso; omega
  refine gj_aload_n dX11_takes_8 rfl ?_
  refine gfX11_251 rfl dX11_takes_9 H0 rfl ?_
  refine gj_topN hnt.2 ?_
  refine gj_i2lN (by omega) dX11_takes_12 ?_
  refine gj_iload_n dX11_takes_13 rfl ?_
  refine gj_i2lN (by omega) dX11_takes_14 ?_
  refine gj_iload_n dX11_takes_15 rfl ?_
  refine gj_i2lN (by omega) dX11_takes_16 ?_
  refine gj_S1 lkX11_50 (ev_X11_in_t (by omega) (by omega) (by omega)) dX11_takes_17 rfl rfl rfl rfl rfl ?_
  refine gj_if_neN (tgt := 25) (by omega) dX11_takes_20 rfl (fun zq0 => ?_) (fun zq0 => ?_)
  rotate_left
  · exfalso; revert zq0; decide
  refine gj_aload_n dX11_takes_25 rfl ?_
  refine gfX11_39 rfl dX11_takes_26 H0 rfl ?_
  refine gj_iload_n dX11_takes_29 rfl ?_
  refine gj_aload_n dX11_takes_30 rfl ?_
  refine gfX11_251 rfl dX11_takes_31 H0 rfl ?_
  refine gj_topN hnt.2 ?_
  refine gj_iastN dX11_takes_34 HW (by omega) (by omega) ?_
  refine gj_aload_n dX11_takes_35 rfl ?_
  refine gj_V0 lkX11_263 ((mj_up_ne (by decide)).trans H0) rfl rfl (ev_X11_goBehind (t := t) ((mj_up_ne (by decide)).trans H0) ((mj_up_ne (by decide)).trans HB) hB (by omega)) dX11_takes_36 rfl rfl rfl rfl rfl ?_
  refine gj_cast (h' := mj_up (mj_up h 100 (.inr (9, [.ref 101, .ref 102, .ref 103, .ref 104, .long (lN a0), .long (lN a1), .ref 105, .ref 106, .ref 107, .int (nI y2), .int (nI (sp_ss B y2 (t + 1))), .int (nI (sp_ps B y2 (t + 1 + 1) - sp_ss B y2 (t + 1))), .int (nI (sp_xkt B y2 (t + 1))), .int (nI (sp_xvt B y2 (t + 1))), .ref 108, .ref 109]))) 109 (mj_ar 3 (mj_un W k (sp_tt B y2 t)))) rfl rfl (by funext x; unfold mj_up; (repeat' split) <;> first | rfl | omega) ?_
  refine gj_ic (w := 1) dX11_takes_39 ?_
  exact gj_zr rfl dX11_takes_40 rfl (mj_b1 (by decide)) rfl
set_option maxHeartbeats 1000000 in
set_option maxRecDepth 10000 in
theorem ev_X11_takes_f {E : mj_E} {h : mj_H} {a0 a1 y2 t : Nat} {B : Nat → Nat} (H0 : h 100 = some (mj_mo a0 a1 y2 (sp_ss B y2 t) (sp_ps B y2 (t + 1) - sp_ss B y2 t) (sp_xkt B y2 t) (sp_xvt B y2 t))) (HB : h 107 = some (mj_ar 150 B)) {k lo hi : Nat} (h0 : ∀ c, B c ≤ 127) (h1 : y2 ≤ 150) (h2 : ¬ (lo ≤ sp_tt B y2 t ∧ sp_tt B y2 t ≤ hi)) (h3 : lo ≤ 99) (h4 : hi ≤ 99) : mj_Ev E iX11_takes [.ref 100, .int (nI k), .int (nI lo), .int (nI hi)] h (mj_R (some (.int (mj_b false))) h) := by
  have hB := h0
  refine mj_Ev.of (L0 := [some (.ref 100), some (.int (nI k)), some (.int (nI lo)), some (.int (nI hi))]) pnRX11 (Nat.le_of_ble_eq_true rfl) rfl ?_
  refine gj_aload_n dX11_takes_0 rfl ?_
  refine gfX11_248 rfl dX11_takes_1 H0 rfl ?_
  have hxl := @sp_xkt_le B y2 t
  refine gj_ic (w := 2) dX11_takes_4 ?_
  refine gj_icmp_neN (tgt := 23) (by omega) (by omega) dX11_takes_5 rfl (fun zq1 => ?_) (fun zq1 => ?_)
  · -- 5 taken
    refine gj_ic (w := 0) dX11_takes_23 ?_
    exact gj_zr rfl dX11_takes_24 rfl (mj_b0 (by decide)) rfl
  have hnt := sp_num_tt hB zq1
  refine gj_aload_n dX11_takes_8 rfl ?_
  refine gfX11_251 rfl dX11_takes_9 H0 rfl ?_
  refine gj_topN hnt.1 ?_
  refine gj_i2lN (by omega) dX11_takes_12 ?_
  refine gj_iload_n dX11_takes_13 rfl ?_
  refine gj_i2lN (by omega) dX11_takes_14 ?_
  refine gj_iload_n dX11_takes_15 rfl ?_
  refine gj_i2lN (by omega) dX11_takes_16 ?_
  refine gj_S1 lkX11_50 (ev_X11_in_w (by omega) (by omega) (by omega)) dX11_takes_17 rfl rfl rfl rfl rfl ?_
  refine gj_if_neb (tgt := 25) dX11_takes_20 rfl (fun zq2 => ?_) (fun zq2 => ?_)
  · exfalso; exact h2 (of_decide_eq_true zq2)
  refine gj_ic (w := 0) dX11_takes_23 ?_
  exact gj_zr rfl dX11_takes_24 rfl (mj_b0 (by decide)) rfl
