def sp_ww (B : Nat → Nat) (n t m : Nat) (W : Nat → Nat) : Nat → Nat := if m < 7 ∧ sp_tt B n (t + 2 * m + 1) ≤ 9 then mj_un W 0 (sp_tt B n (t + 2 * m + 1)) else W
theorem sp_ww_1 {B : Nat → Nat} {n t m : Nat} {W : Nat → Nat} (h : 9 < sp_tt B n (t + 2 * m + 1)) : sp_ww B n t m W = W := if_neg (by omega)
theorem sp_ww_2 {B : Nat → Nat} {n t m : Nat} {W : Nat → Nat} (h : m < 7) (h2 : sp_tt B n (t + 2 * m + 1) ≤ 9) : sp_ww B n t m W = mj_un W 0 (sp_tt B n (t + 2 * m + 1)) := if_pos ⟨h, h2⟩
set_option maxHeartbeats 1000000 in
set_option maxRecDepth 10000 in
theorem ev_X11_rd_week {E : mj_E} {h : mj_H} {a0 a1 y2 t : Nat} {B : Nat → Nat} (H0 : h 100 = some (mj_mo a0 a1 y2 (sp_ss B y2 t) (sp_ps B y2 (t + 1) - sp_ss B y2 t) (sp_xkt B y2 t) (sp_xvt B y2 t))) (HB : h 107 = some (mj_ar 150 B)) {A : Nat → Nat} (HA : h 108 = some (mj_ar 154 A)) {W : Nat → Nat} (HW : h 109 = some (mj_ar 3 W)) (h0 : ∀ c, B c ≤ 127) (h1 : y2 ≤ 150) : mj_Ev E iX11_takesWeek [.ref 100] h (mj_R (some (.int (mj_b (decide (0 < (sp_fst (sp_wmp B y2 t) 7) ∧ sp_tt B y2 (t + 2 * (sp_fst (sp_wmp B y2 t) 7) + 1) = 4294967294))))) (mj_up (mj_up (mj_up (h) 100 (mj_mo a0 a1 y2 (sp_ss B y2 (sp_we B y2 t (sp_fst (sp_wmp B y2 t) 7))) (sp_ps B y2 (sp_we B y2 t (sp_fst (sp_wmp B y2 t) 7) + 1) - sp_ss B y2 (sp_we B y2 t (sp_fst (sp_wmp B y2 t) 7))) (sp_xkt B y2 (sp_we B y2 t (sp_fst (sp_wmp B y2 t) 7))) (sp_xvt B y2 (sp_we B y2 t (sp_fst (sp_wmp B y2 t) 7))))) 108 (mj_ar 154 (sp_wka (fun i => sp_tt B y2 (t + 2 * i + 1)) (fun i => sp_tt B y2 (t + 2 * i + 2)) A (sp_fst (sp_wmp B y2 t) 7)))) 109 (mj_ar 3 (sp_ww B y2 t (sp_fst (sp_wmp B y2 t) 7) (sp_wv (fun i => sp_tt B y2 (t + 2 * i + 1)) (fun i => sp_tt B y2 (t + 2 * i + 2)) W (sp_fst (sp_wmp B y2 t) 7)))))) := by
  have hB := h0
  refine mj_Ev.of (L0 := [some (.ref 100), none]) pnRX11 (Nat.le_of_ble_eq_true rfl) rfl ?_
  refine gj_ic (w := 0) dX11_takesWeek_0 ?_
  refine gj_istore_n (L' := [some (.ref 100), some (.int (nI 0))]) dX11_takesWeek_1 (Nat.le_of_ble_eq_true rfl) rfl ?_
  refine gj_aload_n dX11_takesWeek_2 rfl ?_
  refine gj_V0 lkX11_263 H0 rfl rfl (ev_X11_goBehind (t := t) H0 HB hB (by omega)) dX11_takesWeek_3 rfl rfl rfl rfl rfl ?_
  refine gj_cast (L' := [some (.ref 100), some (.int (nI 0))]) (st' := []) (h' := mj_up (mj_up (mj_up h 100 (.inr (9, [.ref 101, .ref 102, .ref 103, .ref 104, .long (lN a0), .long (lN a1), .ref 105, .ref 106, .ref 107, .int (nI y2), .int (nI (sp_ss B y2 (t + 2 * 0 + 1))), .int (nI (sp_ps B y2 (t + 2 * 0 + 1 + 1) - sp_ss B y2 (t + 2 * 0 + 1))), .int (nI (sp_xkt B y2 (t + 2 * 0 + 1))), .int (nI (sp_xvt B y2 (t + 2 * 0 + 1))), .ref 108, .ref 109]))) 108 (mj_ar 154 (sp_wka (fun i => sp_tt B y2 (t + 2 * i + 1)) (fun i => sp_tt B y2 (t + 2 * i + 2)) A 0))) 109 (mj_ar 3 (sp_wv (fun i => sp_tt B y2 (t + 2 * i + 1)) (fun i => sp_tt B y2 (t + 2 * i + 2)) W 0))) rfl rfl (by funext x; unfold mj_up; (repeat' split) <;> first | rfl | omega | (subst_vars; first | exact HA | exact HW)) ?_
  refine gj_loopI (fun j => ∀ i, i < j → (sp_wmp B y2 t) i = false) (fun j => [some (.ref 100), some (.int (nI j))]) (fun j => mj_up (mj_up (mj_up h 100 (.inr (9, [.ref 101, .ref 102, .ref 103, .ref 104, .long (lN a0), .long (lN a1), .ref 105, .ref 106, .ref 107, .int (nI y2), .int (nI (sp_ss B y2 (t + 2 * j + 1))), .int (nI (sp_ps B y2 (t + 2 * j + 1 + 1) - sp_ss B y2 (t + 2 * j + 1))), .int (nI (sp_xkt B y2 (t + 2 * j + 1))), .int (nI (sp_xvt B y2 (t + 2 * j + 1))), .ref 108, .ref 109]))) 108 (mj_ar 154 (sp_wka (fun i => sp_tt B y2 (t + 2 * i + 1)) (fun i => sp_tt B y2 (t + 2 * i + 2)) A j))) 109 (mj_ar 3 (sp_wv (fun i => sp_tt B y2 (t + 2 * i + 1)) (fun i => sp_tt B y2 (t + 2 * i + 2)) W j))) 7 (fun hq => ?_) (fun j hj hq ih => ?_) 0 (Nat.zero_le _) (fun i hi => absurd hi (Nat.not_lt_zero _))
  · show gj _ _ _ _ _ _ [some (.ref 100), some (.int (nI 7))] _ _
    have hxl := @sp_xkt_le B y2 (t + 2 * 7 + 1)
    refine gj_iload_n dX11_takesWeek_6 rfl ?_
    refine gj_if_eqN (tgt := 18) (by omega) dX11_takesWeek_7 rfl (fun zq0 => ?_) (fun zq0 => ?_)
    · exfalso; revert zq0; decide
    refine gj_aload_n dX11_takesWeek_10 rfl ?_
    refine gfX11_248 rfl dX11_takesWeek_11 ((mj_up_ne (by decide)).trans ((mj_up_ne (by decide)).trans (mj_up_eq _ _ _))) rfl ?_
    refine gj_ic (w := 3) dX11_takesWeek_14 ?_
    refine gj_icmp_eqN (tgt := 84) (by omega) (by omega) dX11_takesWeek_15 rfl (fun zq1 => ?_) (fun zq1 => ?_)
    · -- 15 taken
      have hst9 := (sp_tt_stop hB).mp zq1
      refine gj_ic (w := 1) dX11_takesWeek_84 ?_
      exact gj_zr rfl dX11_takesWeek_85 rfl (mj_b1 (by first | (rw [hm9]; exact decide_eq_true ⟨by omega, by omega⟩) | (rw [sp_fst_none hq]; exact decide_eq_true ⟨by decide, hst9⟩))) (by first | (rw [hm9, sp_we_1 (by omega), sp_ww_1 (by omega)]; first | done | rfl) | (rw [hm9, sp_we_2 hj hgd9, sp_ww_2 hj hgd9]; first | done | rfl) | (rw [sp_fst_none hq, show sp_we B y2 t 7 = t + 2 * 7 + 1 from if_neg (by omega), show ∀ W, sp_ww B y2 t 7 W = W from fun W => if_neg (by omega)]; first | done | rfl))
    have hst9 := fun z => zq1 ((sp_tt_stop hB).mpr z)
    refine gj_iload_n dX11_takesWeek_18 rfl ?_
    refine gj_bp 7 dX11_takesWeek_19 (by decide) ?_
    refine gj_icmp_eqN (tgt := 46) (by omega) (by omega) dX11_takesWeek_21 rfl (fun zq0 => ?_) (fun zq0 => ?_)
    rotate_left
    · exfalso; omega
    refine gj_ic (w := 0) dX11_takesWeek_46 ?_
    exact gj_zr rfl dX11_takesWeek_47 rfl (mj_b0 (by first | (rw [hm9]; exact decide_eq_false (fun z => by omega)) | (rw [sp_fst_none hq]; exact decide_eq_false (fun z => hst9 z.2)))) (by first | (rw [hm9, sp_we_1 (by omega), sp_ww_1 (by omega)]; first | done | rfl) | (rw [hm9, sp_we_2 hj hgd9, sp_ww_2 hj hgd9]; first | done | rfl) | (rw [sp_fst_none hq, show sp_we B y2 t 7 = t + 2 * 7 + 1 from if_neg (by omega), show ∀ W, sp_ww B y2 t 7 W = W from fun W => if_neg (by omega)]; first | done | rfl))
  show gj _ _ _ _ _ _ [some (.ref 100), some (.int (nI j))] _ _
  have hxl := @sp_xkt_le B y2 (t + 2 * j + 1)
  rcases (by omega : (sp_tt B y2 (t + 2 * j + 1) ≤ 9 ∧ sp_tt B y2 (t + 2 * j + 2) ≤ 9) ∨ (sp_tt B y2 (t + 2 * j + 1) ≤ 9 ∧ ¬ sp_tt B y2 (t + 2 * j + 2) ≤ 9) ∨ (¬ sp_tt B y2 (t + 2 * j + 1) ≤ 9 ∧ (j = 0 ∨ ¬ sp_tt B y2 (t + 2 * j + 1) = 4294967294)) ∨ (¬ j = 0 ∧ sp_tt B y2 (t + 2 * j + 1) = 4294967294)) with hA9 | hB9 | hC9 | hD9
  · -- A
    have hgd9 := hA9.1
    have hgd8 := hA9.2
    have hn9 : (sp_wmp B y2 t) j = false := by unfold sp_wmp; rw [decide_eq_true hA9.1, decide_eq_true hA9.2]; rfl
    refine gj_iload_n dX11_takesWeek_6 rfl ?_
    refine gj_if_eqN (tgt := 18) (by omega) dX11_takesWeek_7 rfl (fun zq2 => ?_) (fun zq2 => ?_)
    · -- 7 taken
      refine gj_iload_n dX11_takesWeek_18 rfl ?_
      refine gj_bp 7 dX11_takesWeek_19 (by decide) ?_
      refine gj_icmp_eqN (tgt := 46) (by omega) (by omega) dX11_takesWeek_21 rfl (fun zq3 => ?_) (fun zq3 => ?_)
      · exfalso; omega
      refine gj_aload_n dX11_takesWeek_24 rfl ?_
      refine gj_ic (w := 0) dX11_takesWeek_25 ?_
      refine gj_ic (w := 0) dX11_takesWeek_26 ?_
      refine gj_bp 9 dX11_takesWeek_27 (by decide) ?_
      refine gj_V1 lkX11_270 ((mj_up_ne (by decide)).trans ((mj_up_ne (by decide)).trans (mj_up_eq _ _ _))) rfl rfl (ev_X11_takes_t (t := t + 2 * j + 1) ((mj_up_ne (by decide)).trans ((mj_up_ne (by decide)).trans (mj_up_eq _ _ _))) ((mj_up_ne (by decide)).trans ((mj_up_ne (by decide)).trans ((mj_up_ne (by decide)).trans HB))) (mj_up_eq _ _ _) hB (by omega) (by decide) (by omega) (by omega) (by decide)) dX11_takesWeek_29 rfl rfl rfl rfl rfl ?_
      refine gj_cast (h' := mj_up (mj_up (mj_up h 100 (.inr (9, [.ref 101, .ref 102, .ref 103, .ref 104, .long (lN a0), .long (lN a1), .ref 105, .ref 106, .ref 107, .int (nI y2), .int (nI (sp_ss B y2 (t + 2 * j + 2))), .int (nI (sp_ps B y2 (t + 2 * j + 2 + 1) - sp_ss B y2 (t + 2 * j + 2))), .int (nI (sp_xkt B y2 (t + 2 * j + 2))), .int (nI (sp_xvt B y2 (t + 2 * j + 2))), .ref 108, .ref 109]))) 108 (mj_ar 154 (sp_wka (fun i => sp_tt B y2 (t + 2 * i + 1)) (fun i => sp_tt B y2 (t + 2 * i + 2)) A j))) 109 (mj_ar 3 (mj_un (sp_wv (fun i => sp_tt B y2 (t + 2 * i + 1)) (fun i => sp_tt B y2 (t + 2 * i + 2)) W j) 0 (sp_tt B y2 (t + 2 * j + 1))))) rfl rfl (by funext x; unfold mj_up; (repeat' split) <;> first | rfl | omega) ?_
      refine gj_if_eqb (tgt := 46) dX11_takesWeek_32 rfl (fun zq4 => ?_) (fun zq4 => ?_)
      · exfalso; exact nomatch zq4
      refine gj_aload_n dX11_takesWeek_35 rfl ?_
      refine gj_ic (w := 1) dX11_takesWeek_36 ?_
      refine gj_ic (w := 0) dX11_takesWeek_37 ?_
      refine gj_bp 9 dX11_takesWeek_38 (by decide) ?_
      refine gj_V1 lkX11_270 ((mj_up_ne (by decide)).trans ((mj_up_ne (by decide)).trans (mj_up_eq _ _ _))) rfl rfl (ev_X11_takes_t (t := t + 2 * j + 2) ((mj_up_ne (by decide)).trans ((mj_up_ne (by decide)).trans (mj_up_eq _ _ _))) ((mj_up_ne (by decide)).trans ((mj_up_ne (by decide)).trans ((mj_up_ne (by decide)).trans HB))) (mj_up_eq _ _ _) hB (by omega) (by decide) (by omega) (by omega) (by decide)) dX11_takesWeek_40 rfl rfl rfl rfl rfl ?_
      refine gj_cast (h' := mj_up (mj_up (mj_up h 100 (.inr (9, [.ref 101, .ref 102, .ref 103, .ref 104, .long (lN a0), .long (lN a1), .ref 105, .ref 106, .ref 107, .int (nI y2), .int (nI (sp_ss B y2 (t + 2 * j + 3))), .int (nI (sp_ps B y2 (t + 2 * j + 3 + 1) - sp_ss B y2 (t + 2 * j + 3))), .int (nI (sp_xkt B y2 (t + 2 * j + 3))), .int (nI (sp_xvt B y2 (t + 2 * j + 3))), .ref 108, .ref 109]))) 108 (mj_ar 154 (sp_wka (fun i => sp_tt B y2 (t + 2 * i + 1)) (fun i => sp_tt B y2 (t + 2 * i + 2)) A j))) 109 (mj_ar 3 (mj_un (mj_un (sp_wv (fun i => sp_tt B y2 (t + 2 * i + 1)) (fun i => sp_tt B y2 (t + 2 * i + 2)) W j) 0 (sp_tt B y2 (t + 2 * j + 1))) 1 (sp_tt B y2 (t + 2 * j + 2))))) rfl rfl (by funext x; unfold mj_up; (repeat' split) <;> first | rfl | omega) ?_
      refine gj_if_neb (tgt := 48) dX11_takesWeek_43 rfl (fun zq5 => ?_) (fun zq5 => ?_)
      rotate_left
      · exfalso; exact nomatch zq5
      refine gj_aload_n dX11_takesWeek_48 rfl ?_
      refine gfX11_36 rfl dX11_takesWeek_49 ((mj_up_ne (by decide)).trans ((mj_up_ne (by decide)).trans (mj_up_eq _ _ _))) rfl ?_
      refine gj_bp 55 dX11_takesWeek_52 (by decide) ?_
      refine gj_iload_n dX11_takesWeek_54 rfl ?_
      refine gj_iaddN  dX11_takesWeek_55 ?_
      refine gj_aload_n dX11_takesWeek_56 rfl ?_
      refine gfX11_39 rfl dX11_takesWeek_57 ((mj_up_ne (by decide)).trans ((mj_up_ne (by decide)).trans (mj_up_eq _ _ _))) rfl ?_
      refine gj_ic (w := 0) dX11_takesWeek_60 ?_
      refine gj_ialdN dX11_takesWeek_61 (mj_up_eq _ _ _) (by omega) (by omega) ?_
      refine gj_topN ((mj_un_ne (by decide)).trans (mj_un_eq _ _ _)) ?_
      refine gj_iastN dX11_takesWeek_62 ((mj_up_ne (by decide)).trans (mj_up_eq _ _ _)) (by omega) (by omega) ?_
      refine gj_cast (h' := mj_up (mj_up (mj_up h 100 (.inr (9, [.ref 101, .ref 102, .ref 103, .ref 104, .long (lN a0), .long (lN a1), .ref 105, .ref 106, .ref 107, .int (nI y2), .int (nI (sp_ss B y2 (t + 2 * j + 3))), .int (nI (sp_ps B y2 (t + 2 * j + 3 + 1) - sp_ss B y2 (t + 2 * j + 3))), .int (nI (sp_xkt B y2 (t + 2 * j + 3))), .int (nI (sp_xvt B y2 (t + 2 * j + 3))), .ref 108, .ref 109]))) 108 (mj_ar 154 (mj_un (sp_wka (fun i => sp_tt B y2 (t + 2 * i + 1)) (fun i => sp_tt B y2 (t + 2 * i + 2)) A j) (55 + j) (sp_tt B y2 (t + 2 * j + 1))))) 109 (mj_ar 3 (mj_un (mj_un (sp_wv (fun i => sp_tt B y2 (t + 2 * i + 1)) (fun i => sp_tt B y2 (t + 2 * i + 2)) W j) 0 (sp_tt B y2 (t + 2 * j + 1))) 1 (sp_tt B y2 (t + 2 * j + 2))))) rfl rfl (by funext x; unfold mj_up; (repeat' split) <;> first | rfl | omega) ?_
      refine gj_aload_n dX11_takesWeek_63 rfl ?_
      refine gfX11_36 rfl dX11_takesWeek_64 ((mj_up_ne (by decide)).trans ((mj_up_ne (by decide)).trans (mj_up_eq _ _ _))) rfl ?_
      refine gj_bp 62 dX11_takesWeek_67 (by decide) ?_
      refine gj_iload_n dX11_takesWeek_69 rfl ?_
      refine gj_iaddN  dX11_takesWeek_70 ?_
      refine gj_aload_n dX11_takesWeek_71 rfl ?_
      refine gfX11_39 rfl dX11_takesWeek_72 ((mj_up_ne (by decide)).trans ((mj_up_ne (by decide)).trans (mj_up_eq _ _ _))) rfl ?_
      refine gj_ic (w := 1) dX11_takesWeek_75 ?_
      refine gj_ialdN dX11_takesWeek_76 (mj_up_eq _ _ _) (by omega) (by omega) ?_
      refine gj_topN (mj_un_eq _ _ _) ?_
      refine gj_iastN dX11_takesWeek_77 ((mj_up_ne (by decide)).trans (mj_up_eq _ _ _)) (by omega) (by omega) ?_
      refine gj_cast (h' := mj_up (mj_up (mj_up h 100 (.inr (9, [.ref 101, .ref 102, .ref 103, .ref 104, .long (lN a0), .long (lN a1), .ref 105, .ref 106, .ref 107, .int (nI y2), .int (nI (sp_ss B y2 (t + 2 * j + 3))), .int (nI (sp_ps B y2 (t + 2 * j + 3 + 1) - sp_ss B y2 (t + 2 * j + 3))), .int (nI (sp_xkt B y2 (t + 2 * j + 3))), .int (nI (sp_xvt B y2 (t + 2 * j + 3))), .ref 108, .ref 109]))) 108 (mj_ar 154 (mj_un (mj_un (sp_wka (fun i => sp_tt B y2 (t + 2 * i + 1)) (fun i => sp_tt B y2 (t + 2 * i + 2)) A j) (55 + j) (sp_tt B y2 (t + 2 * j + 1))) (62 + j) (sp_tt B y2 (t + 2 * j + 2))))) 109 (mj_ar 3 (mj_un (mj_un (sp_wv (fun i => sp_tt B y2 (t + 2 * i + 1)) (fun i => sp_tt B y2 (t + 2 * i + 2)) W j) 0 (sp_tt B y2 (t + 2 * j + 1))) 1 (sp_tt B y2 (t + 2 * j + 2))))) rfl rfl (by funext x; unfold mj_up; (repeat' split) <;> first | rfl | omega) ?_
      refine gj_iincN (L' := [some (.ref 100), some (.int (nI (j + 1)))]) dX11_takesWeek_78 rfl (Nat.le_of_ble_eq_true rfl) rfl ?_
      refine gj_goto (tgt := 6) dX11_takesWeek_81 rfl ?_
      exact gj_cast rfl rfl (by funext x; unfold mj_up; (repeat' split) <;> first | rfl | omega) (ih (fun i hi => by by_cases q : i = j <;> first | (subst q; exact hn9) | exact hq i (by omega)))
    refine gj_aload_n dX11_takesWeek_10 rfl ?_
    refine gfX11_248 rfl dX11_takesWeek_11 ((mj_up_ne (by decide)).trans ((mj_up_ne (by decide)).trans (mj_up_eq _ _ _))) rfl ?_
    refine gj_ic (w := 3) dX11_takesWeek_14 ?_
    refine gj_icmp_eqN (tgt := 84) (by omega) (by omega) dX11_takesWeek_15 rfl (fun zq6 => ?_) (fun zq6 => ?_)
    · exfalso; exact absurd ((sp_tt_stop hB).mp zq6) (by omega)
    refine gj_iload_n dX11_takesWeek_18 rfl ?_
    refine gj_bp 7 dX11_takesWeek_19 (by decide) ?_
    refine gj_icmp_eqN (tgt := 46) (by omega) (by omega) dX11_takesWeek_21 rfl (fun zq7 => ?_) (fun zq7 => ?_)
    · exfalso; omega
    refine gj_aload_n dX11_takesWeek_24 rfl ?_
    refine gj_ic (w := 0) dX11_takesWeek_25 ?_
    refine gj_ic (w := 0) dX11_takesWeek_26 ?_
    refine gj_bp 9 dX11_takesWeek_27 (by decide) ?_
    refine gj_V1 lkX11_270 ((mj_up_ne (by decide)).trans ((mj_up_ne (by decide)).trans (mj_up_eq _ _ _))) rfl rfl (ev_X11_takes_t (t := t + 2 * j + 1) ((mj_up_ne (by decide)).trans ((mj_up_ne (by decide)).trans (mj_up_eq _ _ _))) ((mj_up_ne (by decide)).trans ((mj_up_ne (by decide)).trans ((mj_up_ne (by decide)).trans HB))) (mj_up_eq _ _ _) hB (by omega) (by decide) (by omega) (by omega) (by decide)) dX11_takesWeek_29 rfl rfl rfl rfl rfl ?_
    refine gj_cast (h' := mj_up (mj_up (mj_up h 100 (.inr (9, [.ref 101, .ref 102, .ref 103, .ref 104, .long (lN a0), .long (lN a1), .ref 105, .ref 106, .ref 107, .int (nI y2), .int (nI (sp_ss B y2 (t + 2 * j + 2))), .int (nI (sp_ps B y2 (t + 2 * j + 2 + 1) - sp_ss B y2 (t + 2 * j + 2))), .int (nI (sp_xkt B y2 (t + 2 * j + 2))), .int (nI (sp_xvt B y2 (t + 2 * j + 2))), .ref 108, .ref 109]))) 108 (mj_ar 154 (sp_wka (fun i => sp_tt B y2 (t + 2 * i + 1)) (fun i => sp_tt B y2 (t + 2 * i + 2)) A j))) 109 (mj_ar 3 (mj_un (sp_wv (fun i => sp_tt B y2 (t + 2 * i + 1)) (fun i => sp_tt B y2 (t + 2 * i + 2)) W j) 0 (sp_tt B y2 (t + 2 * j + 1))))) rfl rfl (by funext x; unfold mj_up; (repeat' split) <;> first | rfl | omega) ?_
    refine gj_if_eqb (tgt := 46) dX11_takesWeek_32 rfl (fun zq8 => ?_) (fun zq8 => ?_)
    · exfalso; exact nomatch zq8
    refine gj_aload_n dX11_takesWeek_35 rfl ?_
    refine gj_ic (w := 1) dX11_takesWeek_36 ?_
    refine gj_ic (w := 0) dX11_takesWeek_37 ?_
    refine gj_bp 9 dX11_takesWeek_38 (by decide) ?_
    refine gj_V1 lkX11_270 ((mj_up_ne (by decide)).trans ((mj_up_ne (by decide)).trans (mj_up_eq _ _ _))) rfl rfl (ev_X11_takes_t (t := t + 2 * j + 2) ((mj_up_ne (by decide)).trans ((mj_up_ne (by decide)).trans (mj_up_eq _ _ _))) ((mj_up_ne (by decide)).trans ((mj_up_ne (by decide)).trans ((mj_up_ne (by decide)).trans HB))) (mj_up_eq _ _ _) hB (by omega) (by decide) (by omega) (by omega) (by decide)) dX11_takesWeek_40 rfl rfl rfl rfl rfl ?_
    refine gj_cast (h' := mj_up (mj_up (mj_up h 100 (.inr (9, [.ref 101, .ref 102, .ref 103, .ref 104, .long (lN a0), .long (lN a1), .ref 105, .ref 106, .ref 107, .int (nI y2), .int (nI (sp_ss B y2 (t + 2 * j + 3))), .int (nI (sp_ps B y2 (t + 2 * j + 3 + 1) - sp_ss B y2 (t + 2 * j + 3))), .int (nI (sp_xkt B y2 (t + 2 * j + 3))), .int (nI (sp_xvt B y2 (t + 2 * j + 3))), .ref 108, .ref 109]))) 108 (mj_ar 154 (sp_wka (fun i => sp_tt B y2 (t + 2 * i + 1)) (fun i => sp_tt B y2 (t + 2 * i + 2)) A j))) 109 (mj_ar 3 (mj_un (mj_un (sp_wv (fun i => sp_tt B y2 (t + 2 * i + 1)) (fun i => sp_tt B y2 (t + 2 * i + 2)) W j) 0 (sp_tt B y2 (t + 2 * j + 1))) 1 (sp_tt B y2 (t + 2 * j + 2))))) rfl rfl (by funext x; unfold mj_up; (repeat' split) <;> first | rfl | omega) ?_
    refine gj_if_neb (tgt := 48) dX11_takesWeek_43 rfl (fun zq9 => ?_) (fun zq9 => ?_)
    rotate_left
    · exfalso; exact nomatch zq9
    refine gj_aload_n dX11_takesWeek_48 rfl ?_
    refine gfX11_36 rfl dX11_takesWeek_49 ((mj_up_ne (by decide)).trans ((mj_up_ne (by decide)).trans (mj_up_eq _ _ _))) rfl ?_
    refine gj_bp 55 dX11_takesWeek_52 (by decide) ?_
    refine gj_iload_n dX11_takesWeek_54 rfl ?_
    refine gj_iaddN  dX11_takesWeek_55 ?_
    refine gj_aload_n dX11_takesWeek_56 rfl ?_
    refine gfX11_39 rfl dX11_takesWeek_57 ((mj_up_ne (by decide)).trans ((mj_up_ne (by decide)).trans (mj_up_eq _ _ _))) rfl ?_
    refine gj_ic (w := 0) dX11_takesWeek_60 ?_
    refine gj_ialdN dX11_takesWeek_61 (mj_up_eq _ _ _) (by omega) (by omega) ?_
    refine gj_topN ((mj_un_ne (by decide)).trans (mj_un_eq _ _ _)) ?_
    refine gj_iastN dX11_takesWeek_62 ((mj_up_ne (by decide)).trans (mj_up_eq _ _ _)) (by omega) (by omega) ?_
    refine gj_cast (h' := mj_up (mj_up (mj_up h 100 (.inr (9, [.ref 101, .ref 102, .ref 103, .ref 104, .long (lN a0), .long (lN a1), .ref 105, .ref 106, .ref 107, .int (nI y2), .int (nI (sp_ss B y2 (t + 2 * j + 3))), .int (nI (sp_ps B y2 (t + 2 * j + 3 + 1) - sp_ss B y2 (t + 2 * j + 3))), .int (nI (sp_xkt B y2 (t + 2 * j + 3))), .int (nI (sp_xvt B y2 (t + 2 * j + 3))), .ref 108, .ref 109]))) 108 (mj_ar 154 (mj_un (sp_wka (fun i => sp_tt B y2 (t + 2 * i + 1)) (fun i => sp_tt B y2 (t + 2 * i + 2)) A j) (55 + j) (sp_tt B y2 (t + 2 * j + 1))))) 109 (mj_ar 3 (mj_un (mj_un (sp_wv (fun i => sp_tt B y2 (t + 2 * i + 1)) (fun i => sp_tt B y2 (t + 2 * i + 2)) W j) 0 (sp_tt B y2 (t + 2 * j + 1))) 1 (sp_tt B y2 (t + 2 * j + 2))))) rfl rfl (by funext x; unfold mj_up; (repeat' split) <;> first | rfl | omega) ?_
    refine gj_aload_n dX11_takesWeek_63 rfl ?_
    refine gfX11_36 rfl dX11_takesWeek_64 ((mj_up_ne (by decide)).trans ((mj_up_ne (by decide)).trans (mj_up_eq _ _ _))) rfl ?_
    refine gj_bp 62 dX11_takesWeek_67 (by decide) ?_
    refine gj_iload_n dX11_takesWeek_69 rfl ?_
    refine gj_iaddN  dX11_takesWeek_70 ?_
    refine gj_aload_n dX11_takesWeek_71 rfl ?_
    refine gfX11_39 rfl dX11_takesWeek_72 ((mj_up_ne (by decide)).trans ((mj_up_ne (by decide)).trans (mj_up_eq _ _ _))) rfl ?_
    refine gj_ic (w := 1) dX11_takesWeek_75 ?_
    refine gj_ialdN dX11_takesWeek_76 (mj_up_eq _ _ _) (by omega) (by omega) ?_
    refine gj_topN (mj_un_eq _ _ _) ?_
    refine gj_iastN dX11_takesWeek_77 ((mj_up_ne (by decide)).trans (mj_up_eq _ _ _)) (by omega) (by omega) ?_
    refine gj_cast (h' := mj_up (mj_up (mj_up h 100 (.inr (9, [.ref 101, .ref 102, .ref 103, .ref 104, .long (lN a0), .long (lN a1), .ref 105, .ref 106, .ref 107, .int (nI y2), .int (nI (sp_ss B y2 (t + 2 * j + 3))), .int (nI (sp_ps B y2 (t + 2 * j + 3 + 1) - sp_ss B y2 (t + 2 * j + 3))), .int (nI (sp_xkt B y2 (t + 2 * j + 3))), .int (nI (sp_xvt B y2 (t + 2 * j + 3))), .ref 108, .ref 109]))) 108 (mj_ar 154 (mj_un (mj_un (sp_wka (fun i => sp_tt B y2 (t + 2 * i + 1)) (fun i => sp_tt B y2 (t + 2 * i + 2)) A j) (55 + j) (sp_tt B y2 (t + 2 * j + 1))) (62 + j) (sp_tt B y2 (t + 2 * j + 2))))) 109 (mj_ar 3 (mj_un (mj_un (sp_wv (fun i => sp_tt B y2 (t + 2 * i + 1)) (fun i => sp_tt B y2 (t + 2 * i + 2)) W j) 0 (sp_tt B y2 (t + 2 * j + 1))) 1 (sp_tt B y2 (t + 2 * j + 2))))) rfl rfl (by funext x; unfold mj_up; (repeat' split) <;> first | rfl | omega) ?_
    refine gj_iincN (L' := [some (.ref 100), some (.int (nI (j + 1)))]) dX11_takesWeek_78 rfl (Nat.le_of_ble_eq_true rfl) rfl ?_
    refine gj_goto (tgt := 6) dX11_takesWeek_81 rfl ?_
    exact gj_cast rfl rfl (by funext x; unfold mj_up; (repeat' split) <;> first | rfl | omega) (ih (fun i hi => by by_cases q : i = j <;> first | (subst q; exact hn9) | exact hq i (by omega)))
  · -- B
    have hgd9 := hB9.1
    have hbd8 := hB9.2
    have hp9 : (sp_wmp B y2 t) j = true := by unfold sp_wmp; rw [decide_eq_true hB9.1, decide_eq_false hB9.2]; rfl
    have hm9 : (sp_fst (sp_wmp B y2 t) 7) = j := sp_fst_at hj hp9 hq
    refine gj_iload_n dX11_takesWeek_6 rfl ?_
    refine gj_if_eqN (tgt := 18) (by omega) dX11_takesWeek_7 rfl (fun zq10 => ?_) (fun zq10 => ?_)
    · -- 7 taken
      refine gj_iload_n dX11_takesWeek_18 rfl ?_
      refine gj_bp 7 dX11_takesWeek_19 (by decide) ?_
      refine gj_icmp_eqN (tgt := 46) (by omega) (by omega) dX11_takesWeek_21 rfl (fun zq11 => ?_) (fun zq11 => ?_)
      · exfalso; omega
      refine gj_aload_n dX11_takesWeek_24 rfl ?_
      refine gj_ic (w := 0) dX11_takesWeek_25 ?_
      refine gj_ic (w := 0) dX11_takesWeek_26 ?_
      refine gj_bp 9 dX11_takesWeek_27 (by decide) ?_
      refine gj_V1 lkX11_270 ((mj_up_ne (by decide)).trans ((mj_up_ne (by decide)).trans (mj_up_eq _ _ _))) rfl rfl (ev_X11_takes_t (t := t + 2 * j + 1) ((mj_up_ne (by decide)).trans ((mj_up_ne (by decide)).trans (mj_up_eq _ _ _))) ((mj_up_ne (by decide)).trans ((mj_up_ne (by decide)).trans ((mj_up_ne (by decide)).trans HB))) (mj_up_eq _ _ _) hB (by omega) (by decide) (by omega) (by omega) (by decide)) dX11_takesWeek_29 rfl rfl rfl rfl rfl ?_
      refine gj_cast (h' := mj_up (mj_up (mj_up h 100 (.inr (9, [.ref 101, .ref 102, .ref 103, .ref 104, .long (lN a0), .long (lN a1), .ref 105, .ref 106, .ref 107, .int (nI y2), .int (nI (sp_ss B y2 (t + 2 * j + 2))), .int (nI (sp_ps B y2 (t + 2 * j + 2 + 1) - sp_ss B y2 (t + 2 * j + 2))), .int (nI (sp_xkt B y2 (t + 2 * j + 2))), .int (nI (sp_xvt B y2 (t + 2 * j + 2))), .ref 108, .ref 109]))) 108 (mj_ar 154 (sp_wka (fun i => sp_tt B y2 (t + 2 * i + 1)) (fun i => sp_tt B y2 (t + 2 * i + 2)) A j))) 109 (mj_ar 3 (mj_un (sp_wv (fun i => sp_tt B y2 (t + 2 * i + 1)) (fun i => sp_tt B y2 (t + 2 * i + 2)) W j) 0 (sp_tt B y2 (t + 2 * j + 1))))) rfl rfl (by funext x; unfold mj_up; (repeat' split) <;> first | rfl | omega) ?_
      refine gj_if_eqb (tgt := 46) dX11_takesWeek_32 rfl (fun zq12 => ?_) (fun zq12 => ?_)
      · exfalso; exact nomatch zq12
      refine gj_aload_n dX11_takesWeek_35 rfl ?_
      refine gj_ic (w := 1) dX11_takesWeek_36 ?_
      refine gj_ic (w := 0) dX11_takesWeek_37 ?_
      refine gj_bp 9 dX11_takesWeek_38 (by decide) ?_
      refine gj_V1 lkX11_270 ((mj_up_ne (by decide)).trans ((mj_up_ne (by decide)).trans (mj_up_eq _ _ _))) rfl rfl (ev_X11_takes_f (t := t + 2 * j + 2) ((mj_up_ne (by decide)).trans ((mj_up_ne (by decide)).trans (mj_up_eq _ _ _))) ((mj_up_ne (by decide)).trans ((mj_up_ne (by decide)).trans ((mj_up_ne (by decide)).trans HB))) hB (by omega) (by omega) (by decide) (by decide)) dX11_takesWeek_40 rfl rfl rfl rfl rfl ?_
      refine gj_if_neb (tgt := 48) dX11_takesWeek_43 rfl (fun zq13 => ?_) (fun zq13 => ?_)
      · exfalso; exact nomatch zq13
      refine gj_ic (w := 0) dX11_takesWeek_46 ?_
      exact gj_zr rfl dX11_takesWeek_47 rfl (mj_b0 (by first | (rw [hm9]; exact decide_eq_false (fun z => by omega)) | (rw [sp_fst_none hq]; exact decide_eq_false (fun z => hst9 z.2)))) (by first | (rw [hm9, sp_we_1 (by omega), sp_ww_1 (by omega)]; first | done | rfl) | (rw [hm9, sp_we_2 hj hgd9, sp_ww_2 hj hgd9]; first | done | rfl) | (rw [sp_fst_none hq, show sp_we B y2 t 7 = t + 2 * 7 + 1 from if_neg (by omega), show ∀ W, sp_ww B y2 t 7 W = W from fun W => if_neg (by omega)]; first | done | rfl))
    refine gj_aload_n dX11_takesWeek_10 rfl ?_
    refine gfX11_248 rfl dX11_takesWeek_11 ((mj_up_ne (by decide)).trans ((mj_up_ne (by decide)).trans (mj_up_eq _ _ _))) rfl ?_
    refine gj_ic (w := 3) dX11_takesWeek_14 ?_
    refine gj_icmp_eqN (tgt := 84) (by omega) (by omega) dX11_takesWeek_15 rfl (fun zq14 => ?_) (fun zq14 => ?_)
    · exfalso; exact absurd ((sp_tt_stop hB).mp zq14) (by omega)
    refine gj_iload_n dX11_takesWeek_18 rfl ?_
    refine gj_bp 7 dX11_takesWeek_19 (by decide) ?_
    refine gj_icmp_eqN (tgt := 46) (by omega) (by omega) dX11_takesWeek_21 rfl (fun zq15 => ?_) (fun zq15 => ?_)
    · exfalso; omega
    refine gj_aload_n dX11_takesWeek_24 rfl ?_
    refine gj_ic (w := 0) dX11_takesWeek_25 ?_
    refine gj_ic (w := 0) dX11_takesWeek_26 ?_
    refine gj_bp 9 dX11_takesWeek_27 (by decide) ?_
    refine gj_V1 lkX11_270 ((mj_up_ne (by decide)).trans ((mj_up_ne (by decide)).trans (mj_up_eq _ _ _))) rfl rfl (ev_X11_takes_t (t := t + 2 * j + 1) ((mj_up_ne (by decide)).trans ((mj_up_ne (by decide)).trans (mj_up_eq _ _ _))) ((mj_up_ne (by decide)).trans ((mj_up_ne (by decide)).trans ((mj_up_ne (by decide)).trans HB))) (mj_up_eq _ _ _) hB (by omega) (by decide) (by omega) (by omega) (by decide)) dX11_takesWeek_29 rfl rfl rfl rfl rfl ?_
    refine gj_cast (h' := mj_up (mj_up (mj_up h 100 (.inr (9, [.ref 101, .ref 102, .ref 103, .ref 104, .long (lN a0), .long (lN a1), .ref 105, .ref 106, .ref 107, .int (nI y2), .int (nI (sp_ss B y2 (t + 2 * j + 2))), .int (nI (sp_ps B y2 (t + 2 * j + 2 + 1) - sp_ss B y2 (t + 2 * j + 2))), .int (nI (sp_xkt B y2 (t + 2 * j + 2))), .int (nI (sp_xvt B y2 (t + 2 * j + 2))), .ref 108, .ref 109]))) 108 (mj_ar 154 (sp_wka (fun i => sp_tt B y2 (t + 2 * i + 1)) (fun i => sp_tt B y2 (t + 2 * i + 2)) A j))) 109 (mj_ar 3 (mj_un (sp_wv (fun i => sp_tt B y2 (t + 2 * i + 1)) (fun i => sp_tt B y2 (t + 2 * i + 2)) W j) 0 (sp_tt B y2 (t + 2 * j + 1))))) rfl rfl (by funext x; unfold mj_up; (repeat' split) <;> first | rfl | omega) ?_
    refine gj_if_eqb (tgt := 46) dX11_takesWeek_32 rfl (fun zq16 => ?_) (fun zq16 => ?_)
    · exfalso; exact nomatch zq16
    refine gj_aload_n dX11_takesWeek_35 rfl ?_
    refine gj_ic (w := 1) dX11_takesWeek_36 ?_
    refine gj_ic (w := 0) dX11_takesWeek_37 ?_
    refine gj_bp 9 dX11_takesWeek_38 (by decide) ?_
    refine gj_V1 lkX11_270 ((mj_up_ne (by decide)).trans ((mj_up_ne (by decide)).trans (mj_up_eq _ _ _))) rfl rfl (ev_X11_takes_f (t := t + 2 * j + 2) ((mj_up_ne (by decide)).trans ((mj_up_ne (by decide)).trans (mj_up_eq _ _ _))) ((mj_up_ne (by decide)).trans ((mj_up_ne (by decide)).trans ((mj_up_ne (by decide)).trans HB))) hB (by omega) (by omega) (by decide) (by decide)) dX11_takesWeek_40 rfl rfl rfl rfl rfl ?_
    refine gj_if_neb (tgt := 48) dX11_takesWeek_43 rfl (fun zq17 => ?_) (fun zq17 => ?_)
    · exfalso; exact nomatch zq17
    refine gj_ic (w := 0) dX11_takesWeek_46 ?_
    exact gj_zr rfl dX11_takesWeek_47 rfl (mj_b0 (by first | (rw [hm9]; exact decide_eq_false (fun z => by omega)) | (rw [sp_fst_none hq]; exact decide_eq_false (fun z => hst9 z.2)))) (by first | (rw [hm9, sp_we_1 (by omega), sp_ww_1 (by omega)]; first | done | rfl) | (rw [hm9, sp_we_2 hj hgd9, sp_ww_2 hj hgd9]; first | done | rfl) | (rw [sp_fst_none hq, show sp_we B y2 t 7 = t + 2 * 7 + 1 from if_neg (by omega), show ∀ W, sp_ww B y2 t 7 W = W from fun W => if_neg (by omega)]; first | done | rfl))
  · -- C
    have hbd9 := hC9.1
    have hp9 : (sp_wmp B y2 t) j = true := by unfold sp_wmp; rw [decide_eq_false hC9.1]; rfl
    have hm9 : (sp_fst (sp_wmp B y2 t) 7) = j := sp_fst_at hj hp9 hq
    refine gj_iload_n dX11_takesWeek_6 rfl ?_
    refine gj_if_eqN (tgt := 18) (by omega) dX11_takesWeek_7 rfl (fun zq18 => ?_) (fun zq18 => ?_)
    · -- 7 taken
      refine gj_iload_n dX11_takesWeek_18 rfl ?_
      refine gj_bp 7 dX11_takesWeek_19 (by decide) ?_
      refine gj_icmp_eqN (tgt := 46) (by omega) (by omega) dX11_takesWeek_21 rfl (fun zq19 => ?_) (fun zq19 => ?_)
      · exfalso; omega
      refine gj_aload_n dX11_takesWeek_24 rfl ?_
      refine gj_ic (w := 0) dX11_takesWeek_25 ?_
      refine gj_ic (w := 0) dX11_takesWeek_26 ?_
      refine gj_bp 9 dX11_takesWeek_27 (by decide) ?_
      refine gj_V1 lkX11_270 ((mj_up_ne (by decide)).trans ((mj_up_ne (by decide)).trans (mj_up_eq _ _ _))) rfl rfl (ev_X11_takes_f (t := t + 2 * j + 1) ((mj_up_ne (by decide)).trans ((mj_up_ne (by decide)).trans (mj_up_eq _ _ _))) ((mj_up_ne (by decide)).trans ((mj_up_ne (by decide)).trans ((mj_up_ne (by decide)).trans HB))) hB (by omega) (by omega) (by decide) (by decide)) dX11_takesWeek_29 rfl rfl rfl rfl rfl ?_
      refine gj_if_eqb (tgt := 46) dX11_takesWeek_32 rfl (fun zq20 => ?_) (fun zq20 => ?_)
      rotate_left
      · exfalso; exact nomatch zq20
      refine gj_ic (w := 0) dX11_takesWeek_46 ?_
      exact gj_zr rfl dX11_takesWeek_47 rfl (mj_b0 (by first | (rw [hm9]; exact decide_eq_false (fun z => by omega)) | (rw [sp_fst_none hq]; exact decide_eq_false (fun z => hst9 z.2)))) (by first | (rw [hm9, sp_we_1 (by omega), sp_ww_1 (by omega)]; first | done | rfl) | (rw [hm9, sp_we_2 hj hgd9, sp_ww_2 hj hgd9]; first | done | rfl) | (rw [sp_fst_none hq, show sp_we B y2 t 7 = t + 2 * 7 + 1 from if_neg (by omega), show ∀ W, sp_ww B y2 t 7 W = W from fun W => if_neg (by omega)]; first | done | rfl))
    refine gj_aload_n dX11_takesWeek_10 rfl ?_
    refine gfX11_248 rfl dX11_takesWeek_11 ((mj_up_ne (by decide)).trans ((mj_up_ne (by decide)).trans (mj_up_eq _ _ _))) rfl ?_
    refine gj_ic (w := 3) dX11_takesWeek_14 ?_
    refine gj_icmp_eqN (tgt := 84) (by omega) (by omega) dX11_takesWeek_15 rfl (fun zq21 => ?_) (fun zq21 => ?_)
    · exfalso; exact absurd ((sp_tt_stop hB).mp zq21) (by omega)
    refine gj_iload_n dX11_takesWeek_18 rfl ?_
    refine gj_bp 7 dX11_takesWeek_19 (by decide) ?_
    refine gj_icmp_eqN (tgt := 46) (by omega) (by omega) dX11_takesWeek_21 rfl (fun zq22 => ?_) (fun zq22 => ?_)
    · exfalso; omega
    refine gj_aload_n dX11_takesWeek_24 rfl ?_
    refine gj_ic (w := 0) dX11_takesWeek_25 ?_
    refine gj_ic (w := 0) dX11_takesWeek_26 ?_
    refine gj_bp 9 dX11_takesWeek_27 (by decide) ?_
    refine gj_V1 lkX11_270 ((mj_up_ne (by decide)).trans ((mj_up_ne (by decide)).trans (mj_up_eq _ _ _))) rfl rfl (ev_X11_takes_f (t := t + 2 * j + 1) ((mj_up_ne (by decide)).trans ((mj_up_ne (by decide)).trans (mj_up_eq _ _ _))) ((mj_up_ne (by decide)).trans ((mj_up_ne (by decide)).trans ((mj_up_ne (by decide)).trans HB))) hB (by omega) (by omega) (by decide) (by decide)) dX11_takesWeek_29 rfl rfl rfl rfl rfl ?_
    refine gj_if_eqb (tgt := 46) dX11_takesWeek_32 rfl (fun zq23 => ?_) (fun zq23 => ?_)
    rotate_left
    · exfalso; exact nomatch zq23
    refine gj_ic (w := 0) dX11_takesWeek_46 ?_
    exact gj_zr rfl dX11_takesWeek_47 rfl (mj_b0 (by first | (rw [hm9]; exact decide_eq_false (fun z => by omega)) | (rw [sp_fst_none hq]; exact decide_eq_false (fun z => hst9 z.2)))) (by first | (rw [hm9, sp_we_1 (by omega), sp_ww_1 (by omega)]; first | done | rfl) | (rw [hm9, sp_we_2 hj hgd9, sp_ww_2 hj hgd9]; first | done | rfl) | (rw [sp_fst_none hq, show sp_we B y2 t 7 = t + 2 * 7 + 1 from if_neg (by omega), show ∀ W, sp_ww B y2 t 7 W = W from fun W => if_neg (by omega)]; first | done | rfl))
  -- D
  have hp9 : (sp_wmp B y2 t) j = true := by unfold sp_wmp; rw [decide_eq_false (by omega)]; rfl
  have hm9 : (sp_fst (sp_wmp B y2 t) 7) = j := sp_fst_at hj hp9 hq
  refine gj_iload_n dX11_takesWeek_6 rfl ?_
  refine gj_if_eqN (tgt := 18) (by omega) dX11_takesWeek_7 rfl (fun zq24 => ?_) (fun zq24 => ?_)
  · exfalso; omega
  refine gj_aload_n dX11_takesWeek_10 rfl ?_
  refine gfX11_248 rfl dX11_takesWeek_11 ((mj_up_ne (by decide)).trans ((mj_up_ne (by decide)).trans (mj_up_eq _ _ _))) rfl ?_
  refine gj_ic (w := 3) dX11_takesWeek_14 ?_
  refine gj_icmp_eqN (tgt := 84) (by omega) (by omega) dX11_takesWeek_15 rfl (fun zq25 => ?_) (fun zq25 => ?_)
  rotate_left
  · exfalso; exact zq25 ((sp_tt_stop hB).mpr hD9.2)
  refine gj_ic (w := 1) dX11_takesWeek_84 ?_
  exact gj_zr rfl dX11_takesWeek_85 rfl (mj_b1 (by first | (rw [hm9]; exact decide_eq_true ⟨by omega, by omega⟩) | (rw [sp_fst_none hq]; exact decide_eq_true ⟨by decide, hst9⟩))) (by first | (rw [hm9, sp_we_1 (by omega), sp_ww_1 (by omega)]; first | done | rfl) | (rw [hm9, sp_we_2 hj hgd9, sp_ww_2 hj hgd9]; first | done | rfl) | (rw [sp_fst_none hq, show sp_we B y2 t 7 = t + 2 * 7 + 1 from if_neg (by omega), show ∀ W, sp_ww B y2 t 7 W = W from fun W => if_neg (by omega)]; first | done | rfl))
set_option maxHeartbeats 1000000 in
set_option maxRecDepth 10000 in
theorem ev_X11_rd_voter_f {E : mj_E} {h : mj_H} {a0 a1 y2 t : Nat} {B : Nat → Nat} (H0 : h 100 = some (mj_mo a0 a1 y2 (sp_ss B y2 t) (sp_ps B y2 (t + 1) - sp_ss B y2 t) (sp_xkt B y2 t) (sp_xvt B y2 t))) (HB : h 107 = some (mj_ar 150 B)) {A : Nat → Nat} (HA : h 108 = some (mj_ar 154 A)) (h0 : ∀ c, B c ≤ 127) (h1 : y2 ≤ 150) (h2 : A 0 = 7) : mj_Ev E iX11_takesVoter [.ref 100] h (mj_R (some (.int (mj_b false))) h) := by
  have hB := h0
  refine mj_Ev.of (L0 := [some (.ref 100)]) pnRX11 (Nat.le_of_ble_eq_true rfl) rfl ?_
  refine gj_aload_n dX11_takesVoter_0 rfl ?_
  refine gfX11_36 rfl dX11_takesVoter_1 H0 rfl ?_
  refine gj_ic (w := 0) dX11_takesVoter_4 ?_
  refine gj_ialdN dX11_takesVoter_5 HA (by omega) (by omega) ?_
  refine gj_bp 7 dX11_takesVoter_6 (by decide) ?_
  refine gj_icmp_neN (tgt := 13) (by omega) (by omega) dX11_takesVoter_8 rfl (fun zq1 => ?_) (fun zq1 => ?_)
  · exfalso; omega
  refine gj_ic (w := 0) dX11_takesVoter_11 ?_
  exact gj_zr rfl dX11_takesVoter_12 rfl (mj_b0 (by decide)) rfl
set_option maxHeartbeats 1000000 in
set_option maxRecDepth 10000 in
theorem ev_X11_rd_voter_1 {E : mj_E} {h : mj_H} {a0 a1 y2 t : Nat} {B : Nat → Nat} (H0 : h 100 = some (mj_mo a0 a1 y2 (sp_ss B y2 t) (sp_ps B y2 (t + 1) - sp_ss B y2 t) (sp_xkt B y2 t) (sp_xvt B y2 t))) (HB : h 107 = some (mj_ar 150 B)) {A : Nat → Nat} (HA : h 108 = some (mj_ar 154 A)) (h0 : ∀ c, B c ≤ 127) (h1 : y2 ≤ 150) (h2 : A 0 < 7) (h3 : ¬ (sp_tt B y2 (t + 1) ≤ 5)) : mj_Ev E iX11_takesVoter [.ref 100] h (mj_R (some (.int (mj_b false))) (mj_up (h) 100 (mj_mo a0 a1 y2 (sp_ss B y2 (t + 1)) (sp_ps B y2 (t + 1 + 1) - sp_ss B y2 (t + 1)) (sp_xkt B y2 (t + 1)) (sp_xvt B y2 (t + 1))))) := by
  have hB := h0
  refine mj_Ev.of (L0 := [some (.ref 100)]) pnRX11 (Nat.le_of_ble_eq_true rfl) rfl ?_
  refine gj_aload_n dX11_takesVoter_0 rfl ?_
  refine gfX11_36 rfl dX11_takesVoter_1 H0 rfl ?_
  refine gj_ic (w := 0) dX11_takesVoter_4 ?_
  refine gj_ialdN dX11_takesVoter_5 HA (by omega) (by omega) ?_
  refine gj_bp 7 dX11_takesVoter_6 (by decide) ?_
  refine gj_icmp_neN (tgt := 13) (by omega) (by omega) dX11_takesVoter_8 rfl (fun zq1 => ?_) (fun zq1 => ?_)
  rotate_left
  · exfalso; omega
  refine gj_aload_n dX11_takesVoter_13 rfl ?_
  refine gj_V0 lkX11_263 H0 rfl rfl (ev_X11_goBehind (t := t) H0 HB hB (by omega)) dX11_takesVoter_14 rfl rfl rfl rfl rfl ?_
  refine gj_aload_n dX11_takesVoter_17 rfl ?_
  refine gj_ic (w := 0) dX11_takesVoter_18 ?_
  refine gj_ic (w := 0) dX11_takesVoter_19 ?_
  refine gj_ic (w := 5) dX11_takesVoter_20 ?_
  refine gj_V1 lkX11_270 (mj_up_eq _ _ _) rfl rfl (ev_X11_takes_f (t := t + 1) (mj_up_eq _ _ _) ((mj_up_ne (by decide)).trans HB) hB (by omega) (by omega) (by decide) (by decide)) dX11_takesVoter_21 rfl rfl rfl rfl rfl ?_
  refine gj_if_eqb (tgt := 49) dX11_takesVoter_24 rfl (fun zq2 => ?_) (fun zq2 => ?_)
  rotate_left
  · exfalso; exact nomatch zq2
  refine gj_ic (w := 0) dX11_takesVoter_49 ?_
  exact gj_zr rfl dX11_takesVoter_50 rfl (mj_b0 (by decide)) rfl
set_option maxHeartbeats 1000000 in
set_option maxRecDepth 10000 in
theorem ev_X11_rd_voter_2 {E : mj_E} {h : mj_H} {a0 a1 y2 t : Nat} {B : Nat → Nat} (H0 : h 100 = some (mj_mo a0 a1 y2 (sp_ss B y2 t) (sp_ps B y2 (t + 1) - sp_ss B y2 t) (sp_xkt B y2 t) (sp_xvt B y2 t))) (HB : h 107 = some (mj_ar 150 B)) {A : Nat → Nat} (HA : h 108 = some (mj_ar 154 A)) {W : Nat → Nat} (HW : h 109 = some (mj_ar 3 W)) (h0 : ∀ c, B c ≤ 127) (h1 : y2 ≤ 150) (h2 : A 0 < 7) (h3 : sp_tt B y2 (t + 1) ≤ 5) (h4 : ¬ (1 ≤ sp_tt B y2 (t + 2) ∧ sp_tt B y2 (t + 2) ≤ 99)) : mj_Ev E iX11_takesVoter [.ref 100] h (mj_R (some (.int (mj_b false))) (mj_up (mj_up (h) 100 (mj_mo a0 a1 y2 (sp_ss B y2 (t + 2)) (sp_ps B y2 (t + 2 + 1) - sp_ss B y2 (t + 2)) (sp_xkt B y2 (t + 2)) (sp_xvt B y2 (t + 2)))) 109 (mj_ar 3 (mj_un W 0 (sp_tt B y2 (t + 1)))))) := by
  have hB := h0
  refine mj_Ev.of (L0 := [some (.ref 100)]) pnRX11 (Nat.le_of_ble_eq_true rfl) rfl ?_
  refine gj_aload_n dX11_takesVoter_0 rfl ?_
  refine gfX11_36 rfl dX11_takesVoter_1 H0 rfl ?_
  refine gj_ic (w := 0) dX11_takesVoter_4 ?_
  refine gj_ialdN dX11_takesVoter_5 HA (by omega) (by omega) ?_
  refine gj_bp 7 dX11_takesVoter_6 (by decide) ?_
  refine gj_icmp_neN (tgt := 13) (by omega) (by omega) dX11_takesVoter_8 rfl (fun zq1 => ?_) (fun zq1 => ?_)
  rotate_left
  · exfalso; omega
  refine gj_aload_n dX11_takesVoter_13 rfl ?_
  refine gj_V0 lkX11_263 H0 rfl rfl (ev_X11_goBehind (t := t) H0 HB hB (by omega)) dX11_takesVoter_14 rfl rfl rfl rfl rfl ?_
  refine gj_aload_n dX11_takesVoter_17 rfl ?_
  refine gj_ic (w := 0) dX11_takesVoter_18 ?_
  refine gj_ic (w := 0) dX11_takesVoter_19 ?_
  refine gj_ic (w := 5) dX11_takesVoter_20 ?_
  refine gj_V1 lkX11_270 (mj_up_eq _ _ _) rfl rfl (ev_X11_takes_t (t := t + 1) (mj_up_eq _ _ _) ((mj_up_ne (by decide)).trans HB) ((mj_up_ne (by decide)).trans HW) hB (by omega) (by decide) (by omega) (by omega) (by decide)) dX11_takesVoter_21 rfl rfl rfl rfl rfl ?_
  refine gj_cast (h' := mj_up (mj_up h 100 (.inr (9, [.ref 101, .ref 102, .ref 103, .ref 104, .long (lN a0), .long (lN a1), .ref 105, .ref 106, .ref 107, .int (nI y2), .int (nI (sp_ss B y2 (t + 2))), .int (nI (sp_ps B y2 (t + 2 + 1) - sp_ss B y2 (t + 2))), .int (nI (sp_xkt B y2 (t + 2))), .int (nI (sp_xvt B y2 (t + 2))), .ref 108, .ref 109]))) 109 (mj_ar 3 (mj_un W 0 (sp_tt B y2 (t + 1))))) rfl rfl (by funext x; unfold mj_up; (repeat' split) <;> first | rfl | omega) ?_
  refine gj_if_eqb (tgt := 49) dX11_takesVoter_24 rfl (fun zq2 => ?_) (fun zq2 => ?_)
  · exfalso; exact nomatch zq2
  refine gj_aload_n dX11_takesVoter_27 rfl ?_
  refine gj_ic (w := 1) dX11_takesVoter_28 ?_
  refine gj_ic (w := 1) dX11_takesVoter_29 ?_
  refine gj_bp 99 dX11_takesVoter_30 (by decide) ?_
  refine gj_V1 lkX11_270 ((mj_up_ne (by decide)).trans (mj_up_eq _ _ _)) rfl rfl (ev_X11_takes_f (t := t + 2) ((mj_up_ne (by decide)).trans (mj_up_eq _ _ _)) ((mj_up_ne (by decide)).trans ((mj_up_ne (by decide)).trans HB)) hB (by omega) (by omega) (by decide) (by decide)) dX11_takesVoter_32 rfl rfl rfl rfl rfl ?_
  refine gj_if_eqb (tgt := 49) dX11_takesVoter_35 rfl (fun zq3 => ?_) (fun zq3 => ?_)
  rotate_left
  · exfalso; exact nomatch zq3
  refine gj_ic (w := 0) dX11_takesVoter_49 ?_
  exact gj_zr rfl dX11_takesVoter_50 rfl (mj_b0 (by decide)) rfl
set_option maxHeartbeats 1000000 in
set_option maxRecDepth 10000 in
theorem ev_X11_rd_voter_3 {E : mj_E} {h : mj_H} {a0 a1 y2 t : Nat} {B : Nat → Nat} (H0 : h 100 = some (mj_mo a0 a1 y2 (sp_ss B y2 t) (sp_ps B y2 (t + 1) - sp_ss B y2 t) (sp_xkt B y2 t) (sp_xvt B y2 t))) (HB : h 107 = some (mj_ar 150 B)) {A : Nat → Nat} (HA : h 108 = some (mj_ar 154 A)) {W : Nat → Nat} (HW : h 109 = some (mj_ar 3 W)) (h0 : ∀ c, B c ≤ 127) (h1 : y2 ≤ 150) (h2 : A 0 < 7) (h3 : sp_tt B y2 (t + 1) ≤ 5) (h4 : 1 ≤ sp_tt B y2 (t + 2) ∧ sp_tt B y2 (t + 2) ≤ 99) (h5 : ¬ (sp_tt B y2 (t + 3) ≤ 24)) : mj_Ev E iX11_takesVoter [.ref 100] h (mj_R (some (.int (mj_b false))) (mj_up (mj_up (h) 100 (mj_mo a0 a1 y2 (sp_ss B y2 (t + 3)) (sp_ps B y2 (t + 3 + 1) - sp_ss B y2 (t + 3)) (sp_xkt B y2 (t + 3)) (sp_xvt B y2 (t + 3)))) 109 (mj_ar 3 (mj_un (mj_un W 0 (sp_tt B y2 (t + 1))) 1 (sp_tt B y2 (t + 2)))))) := by
  have hB := h0
  refine mj_Ev.of (L0 := [some (.ref 100)]) pnRX11 (Nat.le_of_ble_eq_true rfl) rfl ?_
  refine gj_aload_n dX11_takesVoter_0 rfl ?_
  refine gfX11_36 rfl dX11_takesVoter_1 H0 rfl ?_
  refine gj_ic (w := 0) dX11_takesVoter_4 ?_
  refine gj_ialdN dX11_takesVoter_5 HA (by omega) (by omega) ?_
  refine gj_bp 7 dX11_takesVoter_6 (by decide) ?_
  refine gj_icmp_neN (tgt := 13) (by omega) (by omega) dX11_takesVoter_8 rfl (fun zq1 => ?_) (fun zq1 => ?_)
  rotate_left
  · exfalso; omega
  refine gj_aload_n dX11_takesVoter_13 rfl ?_
  refine gj_V0 lkX11_263 H0 rfl rfl (ev_X11_goBehind (t := t) H0 HB hB (by omega)) dX11_takesVoter_14 rfl rfl rfl rfl rfl ?_
  refine gj_aload_n dX11_takesVoter_17 rfl ?_
  refine gj_ic (w := 0) dX11_takesVoter_18 ?_
  refine gj_ic (w := 0) dX11_takesVoter_19 ?_
  refine gj_ic (w := 5) dX11_takesVoter_20 ?_
  refine gj_V1 lkX11_270 (mj_up_eq _ _ _) rfl rfl (ev_X11_takes_t (t := t + 1) (mj_up_eq _ _ _) ((mj_up_ne (by decide)).trans HB) ((mj_up_ne (by decide)).trans HW) hB (by omega) (by decide) (by omega) (by omega) (by decide)) dX11_takesVoter_21 rfl rfl rfl rfl rfl ?_
  refine gj_cast (h' := mj_up (mj_up h 100 (.inr (9, [.ref 101, .ref 102, .ref 103, .ref 104, .long (lN a0), .long (lN a1), .ref 105, .ref 106, .ref 107, .int (nI y2), .int (nI (sp_ss B y2 (t + 2))), .int (nI (sp_ps B y2 (t + 2 + 1) - sp_ss B y2 (t + 2))), .int (nI (sp_xkt B y2 (t + 2))), .int (nI (sp_xvt B y2 (t + 2))), .ref 108, .ref 109]))) 109 (mj_ar 3 (mj_un W 0 (sp_tt B y2 (t + 1))))) rfl rfl (by funext x; unfold mj_up; (repeat' split) <;> first | rfl | omega) ?_
  refine gj_if_eqb (tgt := 49) dX11_takesVoter_24 rfl (fun zq2 => ?_) (fun zq2 => ?_)
  · exfalso; exact nomatch zq2
  refine gj_aload_n dX11_takesVoter_27 rfl ?_
  refine gj_ic (w := 1) dX11_takesVoter_28 ?_
  refine gj_ic (w := 1) dX11_takesVoter_29 ?_
  refine gj_bp 99 dX11_takesVoter_30 (by decide) ?_
  refine gj_V1 lkX11_270 ((mj_up_ne (by decide)).trans (mj_up_eq _ _ _)) rfl rfl (ev_X11_takes_t (t := t + 2) ((mj_up_ne (by decide)).trans (mj_up_eq _ _ _)) ((mj_up_ne (by decide)).trans ((mj_up_ne (by decide)).trans HB)) (mj_up_eq _ _ _) hB (by omega) (by decide) (by omega) (by omega) (by decide)) dX11_takesVoter_32 rfl rfl rfl rfl rfl ?_
  refine gj_cast (h' := mj_up (mj_up h 100 (.inr (9, [.ref 101, .ref 102, .ref 103, .ref 104, .long (lN a0), .long (lN a1), .ref 105, .ref 106, .ref 107, .int (nI y2), .int (nI (sp_ss B y2 (t + 3))), .int (nI (sp_ps B y2 (t + 3 + 1) - sp_ss B y2 (t + 3))), .int (nI (sp_xkt B y2 (t + 3))), .int (nI (sp_xvt B y2 (t + 3))), .ref 108, .ref 109]))) 109 (mj_ar 3 (mj_un (mj_un W 0 (sp_tt B y2 (t + 1))) 1 (sp_tt B y2 (t + 2))))) rfl rfl (by funext x; unfold mj_up; (repeat' split) <;> first | rfl | omega) ?_
  refine gj_if_eqb (tgt := 49) dX11_takesVoter_35 rfl (fun zq3 => ?_) (fun zq3 => ?_)
  · exfalso; exact nomatch zq3
  refine gj_aload_n dX11_takesVoter_38 rfl ?_
  refine gj_ic (w := 2) dX11_takesVoter_39 ?_
  refine gj_ic (w := 0) dX11_takesVoter_40 ?_
  refine gj_bp 24 dX11_takesVoter_41 (by decide) ?_
  refine gj_V1 lkX11_270 ((mj_up_ne (by decide)).trans (mj_up_eq _ _ _)) rfl rfl (ev_X11_takes_f (t := t + 3) ((mj_up_ne (by decide)).trans (mj_up_eq _ _ _)) ((mj_up_ne (by decide)).trans ((mj_up_ne (by decide)).trans HB)) hB (by omega) (by omega) (by decide) (by decide)) dX11_takesVoter_43 rfl rfl rfl rfl rfl ?_
  refine gj_if_neb (tgt := 51) dX11_takesVoter_46 rfl (fun zq4 => ?_) (fun zq4 => ?_)
  · exfalso; exact nomatch zq4
  refine gj_ic (w := 0) dX11_takesVoter_49 ?_
  exact gj_zr rfl dX11_takesVoter_50 rfl (mj_b0 (by decide)) rfl
set_option maxHeartbeats 1000000 in
set_option maxRecDepth 10000 in
theorem ev_X11_rd_voter_t {E : mj_E} {h : mj_H} {a0 a1 y2 t : Nat} {B : Nat → Nat} (H0 : h 100 = some (mj_mo a0 a1 y2 (sp_ss B y2 t) (sp_ps B y2 (t + 1) - sp_ss B y2 t) (sp_xkt B y2 t) (sp_xvt B y2 t))) (HB : h 107 = some (mj_ar 150 B)) {A : Nat → Nat} (HA : h 108 = some (mj_ar 154 A)) {W : Nat → Nat} (HW : h 109 = some (mj_ar 3 W)) (h0 : ∀ c, B c ≤ 127) (h1 : y2 ≤ 150) (h2 : A 0 < 7) (h3 : sp_tt B y2 (t + 1) ≤ 5) (h4 : 1 ≤ sp_tt B y2 (t + 2) ∧ sp_tt B y2 (t + 2) ≤ 99) (h5 : sp_tt B y2 (t + 3) ≤ 24) : mj_Ev E iX11_takesVoter [.ref 100] h (mj_R (some (.int (mj_b true))) (mj_up (mj_up (mj_up (h) 100 (mj_mo a0 a1 y2 (sp_ss B y2 (t + 4)) (sp_ps B y2 (t + 4 + 1) - sp_ss B y2 (t + 4)) (sp_xkt B y2 (t + 4)) (sp_xvt B y2 (t + 4)))) 108 (mj_ar 154 (mj_un (mj_un (mj_un (mj_un A (73 + A 0) (sp_tt B y2 (t + 1))) (80 + A 0) (sp_tt B y2 (t + 2))) (87 + A 0) (sp_tt B y2 (t + 3))) 0 (A 0 + 1)))) 109 (mj_ar 3 (mj_un (mj_un (mj_un W 0 (sp_tt B y2 (t + 1))) 1 (sp_tt B y2 (t + 2))) 2 (sp_tt B y2 (t + 3)))))) := by
  have hB := h0
  refine mj_Ev.of (L0 := [some (.ref 100)]) pnRX11 (Nat.le_of_ble_eq_true rfl) rfl ?_
  refine gj_aload_n dX11_takesVoter_0 rfl ?_
  refine gfX11_36 rfl dX11_takesVoter_1 H0 rfl ?_
  refine gj_ic (w := 0) dX11_takesVoter_4 ?_
  refine gj_ialdN dX11_takesVoter_5 HA (by omega) (by omega) ?_
  refine gj_bp 7 dX11_takesVoter_6 (by decide) ?_
  refine gj_icmp_neN (tgt := 13) (by omega) (by omega) dX11_takesVoter_8 rfl (fun zq1 => ?_) (fun zq1 => ?_)
  rotate_left
  · exfalso; omega
  refine gj_aload_n dX11_takesVoter_13 rfl ?_
  refine gj_V0 lkX11_263 H0 rfl rfl (ev_X11_goBehind (t := t) H0 HB hB (by omega)) dX11_takesVoter_14 rfl rfl rfl rfl rfl ?_
  refine gj_aload_n dX11_takesVoter_17 rfl ?_
  refine gj_ic (w := 0) dX11_takesVoter_18 ?_
  refine gj_ic (w := 0) dX11_takesVoter_19 ?_
  refine gj_ic (w := 5) dX11_takesVoter_20 ?_
  refine gj_V1 lkX11_270 (mj_up_eq _ _ _) rfl rfl (ev_X11_takes_t (t := t + 1) (mj_up_eq _ _ _) ((mj_up_ne (by decide)).trans HB) ((mj_up_ne (by decide)).trans HW) hB (by omega) (by decide) (by omega) (by omega) (by decide)) dX11_takesVoter_21 rfl rfl rfl rfl rfl ?_
  refine gj_cast (h' := mj_up (mj_up h 100 (.inr (9, [.ref 101, .ref 102, .ref 103, .ref 104, .long (lN a0), .long (lN a1), .ref 105, .ref 106, .ref 107, .int (nI y2), .int (nI (sp_ss B y2 (t + 2))), .int (nI (sp_ps B y2 (t + 2 + 1) - sp_ss B y2 (t + 2))), .int (nI (sp_xkt B y2 (t + 2))), .int (nI (sp_xvt B y2 (t + 2))), .ref 108, .ref 109]))) 109 (mj_ar 3 (mj_un W 0 (sp_tt B y2 (t + 1))))) rfl rfl (by funext x; unfold mj_up; (repeat' split) <;> first | rfl | omega) ?_
  refine gj_if_eqb (tgt := 49) dX11_takesVoter_24 rfl (fun zq2 => ?_) (fun zq2 => ?_)
  · exfalso; exact nomatch zq2
  refine gj_aload_n dX11_takesVoter_27 rfl ?_
  refine gj_ic (w := 1) dX11_takesVoter_28 ?_
  refine gj_ic (w := 1) dX11_takesVoter_29 ?_
  refine gj_bp 99 dX11_takesVoter_30 (by decide) ?_
  refine gj_V1 lkX11_270 ((mj_up_ne (by decide)).trans (mj_up_eq _ _ _)) rfl rfl (ev_X11_takes_t (t := t + 2) ((mj_up_ne (by decide)).trans (mj_up_eq _ _ _)) ((mj_up_ne (by decide)).trans ((mj_up_ne (by decide)).trans HB)) (mj_up_eq _ _ _) hB (by omega) (by decide) (by omega) (by omega) (by decide)) dX11_takesVoter_32 rfl rfl rfl rfl rfl ?_
  refine gj_cast (h' := mj_up (mj_up h 100 (.inr (9, [.ref 101, .ref 102, .ref 103, .ref 104, .long (lN a0), .long (lN a1), .ref 105, .ref 106, .ref 107, .int (nI y2), .int (nI (sp_ss B y2 (t + 3))), .int (nI (sp_ps B y2 (t + 3 + 1) - sp_ss B y2 (t + 3))), .int (nI (sp_xkt B y2 (t + 3))), .int (nI (sp_xvt B y2 (t + 3))), .ref 108, .ref 109]))) 109 (mj_ar 3 (mj_un (mj_un W 0 (sp_tt B y2 (t + 1))) 1 (sp_tt B y2 (t + 2))))) rfl rfl (by funext x; unfold mj_up; (repeat' split) <;> first | rfl | omega) ?_
  refine gj_if_eqb (tgt := 49) dX11_takesVoter_35 rfl (fun zq3 => ?_) (fun zq3 => ?_)
  · exfalso; exact nomatch zq3
  refine gj_aload_n dX11_takesVoter_38 rfl ?_
  refine gj_ic (w := 2) dX11_takesVoter_39 ?_
  refine gj_ic (w := 0) dX11_takesVoter_40 ?_
  refine gj_bp 24 dX11_takesVoter_41 (by decide) ?_
  refine gj_V1 lkX11_270 ((mj_up_ne (by decide)).trans (mj_up_eq _ _ _)) rfl rfl (ev_X11_takes_t (t := t + 3) ((mj_up_ne (by decide)).trans (mj_up_eq _ _ _)) ((mj_up_ne (by decide)).trans ((mj_up_ne (by decide)).trans HB)) (mj_up_eq _ _ _) hB (by omega) (by decide) (by omega) (by omega) (by decide)) dX11_takesVoter_43 rfl rfl rfl rfl rfl ?_
  refine gj_cast (h' := mj_up (mj_up h 100 (.inr (9, [.ref 101, .ref 102, .ref 103, .ref 104, .long (lN a0), .long (lN a1), .ref 105, .ref 106, .ref 107, .int (nI y2), .int (nI (sp_ss B y2 (t + 4))), .int (nI (sp_ps B y2 (t + 4 + 1) - sp_ss B y2 (t + 4))), .int (nI (sp_xkt B y2 (t + 4))), .int (nI (sp_xvt B y2 (t + 4))), .ref 108, .ref 109]))) 109 (mj_ar 3 (mj_un (mj_un (mj_un W 0 (sp_tt B y2 (t + 1))) 1 (sp_tt B y2 (t + 2))) 2 (sp_tt B y2 (t + 3))))) rfl rfl (by funext x; unfold mj_up; (repeat' split) <;> first | rfl | omega) ?_
  refine gj_if_neb (tgt := 51) dX11_takesVoter_46 rfl (fun zq4 => ?_) (fun zq4 => ?_)
  rotate_left
  · exfalso; exact nomatch zq4
  refine gj_aload_n dX11_takesVoter_51 rfl ?_
  refine gfX11_36 rfl dX11_takesVoter_52 ((mj_up_ne (by decide)).trans (mj_up_eq _ _ _)) rfl ?_
  refine gj_aload_n dX11_takesVoter_55 rfl ?_
  refine gfX11_39 rfl dX11_takesVoter_56 ((mj_up_ne (by decide)).trans (mj_up_eq _ _ _)) rfl ?_
  refine gj_ic (w := 0) dX11_takesVoter_59 ?_
  refine gj_ialdN dX11_takesVoter_60 (mj_up_eq _ _ _) (by omega) (by omega) ?_
  refine gj_topN ((mj_un_ne (by decide)).trans ((mj_un_ne (by decide)).trans (mj_un_eq _ _ _))) ?_
  refine gj_aload_n dX11_takesVoter_61 rfl ?_
  refine gfX11_39 rfl dX11_takesVoter_62 ((mj_up_ne (by decide)).trans (mj_up_eq _ _ _)) rfl ?_
  refine gj_ic (w := 1) dX11_takesVoter_65 ?_
  refine gj_ialdN dX11_takesVoter_66 (mj_up_eq _ _ _) (by omega) (by omega) ?_
  refine gj_topN ((mj_un_ne (by decide)).trans (mj_un_eq _ _ _)) ?_
  refine gj_aload_n dX11_takesVoter_67 rfl ?_
  refine gfX11_39 rfl dX11_takesVoter_68 ((mj_up_ne (by decide)).trans (mj_up_eq _ _ _)) rfl ?_
  refine gj_ic (w := 2) dX11_takesVoter_71 ?_
  refine gj_ialdN dX11_takesVoter_72 (mj_up_eq _ _ _) (by omega) (by omega) ?_
  refine gj_topN (mj_un_eq _ _ _) ?_
  refine gj_S0 lkX11_85 (ev_X11_layVoter ((mj_up_ne (by decide)).trans ((mj_up_ne (by decide)).trans HA)) (by decide) (by decide) (by omega)) dX11_takesVoter_73 rfl rfl rfl rfl rfl ?_
  refine gj_cast (h' := mj_up (mj_up (mj_up h 100 (.inr (9, [.ref 101, .ref 102, .ref 103, .ref 104, .long (lN a0), .long (lN a1), .ref 105, .ref 106, .ref 107, .int (nI y2), .int (nI (sp_ss B y2 (t + 4))), .int (nI (sp_ps B y2 (t + 4 + 1) - sp_ss B y2 (t + 4))), .int (nI (sp_xkt B y2 (t + 4))), .int (nI (sp_xvt B y2 (t + 4))), .ref 108, .ref 109]))) 108 (mj_ar 154 (mj_un (mj_un (mj_un (mj_un A (73 + A 0) (sp_tt B y2 (t + 1))) (80 + A 0) (sp_tt B y2 (t + 2))) (87 + A 0) (sp_tt B y2 (t + 3))) 0 (A 0 + 1)))) 109 (mj_ar 3 (mj_un (mj_un (mj_un W 0 (sp_tt B y2 (t + 1))) 1 (sp_tt B y2 (t + 2))) 2 (sp_tt B y2 (t + 3))))) rfl rfl (by funext x; unfold mj_up; (repeat' split) <;> first | rfl | omega) ?_
  refine gj_ic (w := 1) dX11_takesVoter_76 ?_
  exact gj_zr rfl dX11_takesVoter_77 rfl (mj_b1 (by decide)) rfl
