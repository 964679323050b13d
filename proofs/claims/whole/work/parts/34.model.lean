theorem sp_sum_lim {f : Nat → Nat} {n m : Nat} (h : ∀ c, c < n → f c ≤ m) : sp_sum f n ≤ n * m := by
  induction n with
  | zero => exact Nat.zero_le _
  | succ n ih => rw [sp_sum_s, Nat.succ_mul]; have := h n (by omega); have := ih (fun c hc => h c (by omega)); omega
def sp_msn (T J : Nat → Nat) (x s : Nat) : Bool := sp_mc T s && decide (sp_mw T J s (T 0) = x)
def sp_msa (P : Nat → Bool) (a n : Nat) : Nat := mj_fo (fun s a => if P s then a &&& s else a) a n
theorem sp_msa_t {P : Nat → Bool} {a n : Nat} (h : P n = true) : sp_msa P a (n + 1) = sp_msa P a n &&& n := if_pos h
theorem sp_msa_f {P : Nat → Bool} {a n : Nat} (h : P n = false) : sp_msa P a (n + 1) = sp_msa P a n := if_neg (by rw [h]; decide)
set_option maxHeartbeats 1000000 in
set_option maxRecDepth 10000 in
theorem ev_X11_when {E : mj_E} {h : mj_H} {a0 a1 y2 y3 y4 y5 y6 : Nat} (H0 : h 100 = some (mj_mo a0 a1 y2 y3 y4 y5 y6)) {T : Nat → Nat} (HT : h 101 = some (mj_ar 362 T)) {J : Nat → Nat} (HJ : h 105 = some (mj_ar 25 J)) (bT : mj_Tb T) {c w : Nat} (h0 : c < 25) (h1 : 1 ≤ w) (h2 : w ≤ 198) : mj_Ev E iX11_when [.ref 100, .int (nI c), .int (nI w)] h (mj_R (some (.int (nI (sp_or 61 (sp_fst (sp_wh (T (30 + c)) (fun q => T (55 + q)) (fun q => T (62 + q)) (T 29) (T (4 + c)) w) 61))))) (mj_up h 105 (mj_ar 25 (sp_days (fun q => T (30 + q)) (fun q => T (55 + q)) (fun q => T (62 + q)) (T 29) (fun q => T (4 + q)) (sp_fst (sp_wh (T (30 + c)) (fun q => T (55 + q)) (fun q => T (62 + q)) (T 29) (T (4 + c)) w) 61))))) := by
  refine mj_Ev.of (L0 := [some (.ref 100), some (.int (nI c)), some (.int (nI w)), none]) pnRX11 (Nat.le_of_ble_eq_true rfl) rfl ?_
  have hb29 := bT.2.2.2.2.1
  refine gj_iload_n dX11_when_0 rfl ?_
  refine gj_S1 lkX11_70 (ev_X11_isCell_t (by omega) (by omega)) dX11_when_1 rfl rfl rfl rfl rfl ?_
  refine gj_if_eqN (tgt := 14) (by omega) dX11_when_4 rfl (fun zq0 => ?_) (fun zq0 => ?_)
  · exfalso; revert zq0; decide
  refine gj_iload_n dX11_when_7 rfl ?_
  refine gj_S1 lkX11_155 (ev_X11_isBurden_t (by omega) (by omega)) dX11_when_8 rfl rfl rfl rfl rfl ?_
  refine gj_if_neN (tgt := 21) (by omega) dX11_when_11 rfl (fun zq0 => ?_) (fun zq0 => ?_)
  rotate_left
  · exfalso; revert zq0; decide
  refine gj_aload_n dX11_when_21 rfl ?_
  refine gj_V0 lkX11_124 H0 rfl rfl (ev_X11_layIce H0 HT HJ bT) dX11_when_22 rfl rfl rfl rfl rfl ?_
  refine gj_ic (w := 0) dX11_when_25 ?_
  refine gj_istore_n (L' := [some (.ref 100), some (.int (nI c)), some (.int (nI w)), some (.int (nI 0))]) dX11_when_26 (Nat.le_of_ble_eq_true rfl) rfl ?_
  refine gj_cast (L' := [some (.ref 100), some (.int (nI c)), some (.int (nI w)), some (.int (nI 0))]) (st' := []) (h' := mj_up h 105 (mj_ar 25 (sp_days (fun q => T (30 + q)) (fun q => T (55 + q)) (fun q => T (62 + q)) (T 29) (fun q => T (4 + q)) 0))) rfl rfl rfl ?_
  refine gj_loopI (fun j => ∀ i, i < j → (sp_wh (T (30 + c)) (fun q => T (55 + q)) (fun q => T (62 + q)) (T 29) (T (4 + c)) w) i = false) (fun j => [some (.ref 100), some (.int (nI c)), some (.int (nI w)), some (.int (nI j))]) (fun j => mj_up h 105 (mj_ar 25 (sp_days (fun q => T (30 + q)) (fun q => T (55 + q)) (fun q => T (62 + q)) (T 29) (fun q => T (4 + q)) j))) 61 (fun hq => ?_) (fun j hj hq ih => ?_) 0 (by omega) (fun i hi => absurd hi (Nat.not_lt_zero _))
  · show gj _ _ _ _ _ _ [some (.ref 100), some (.int (nI c)), some (.int (nI w)), some (.int (nI 61))] _ _
    refine gj_iload_n dX11_when_27 rfl ?_
    refine gj_bp 60 dX11_when_28 (by decide) ?_
    refine gj_icmp_gtN (tgt := 55) (by omega) (by omega) dX11_when_30 rfl (fun zq0 => ?_) (fun zq0 => ?_)
    rotate_left
    · exfalso; omega
    refine gj_iconst (v := (-1)) dX11_when_55 (by decide) ?_
    refine gj_top (y := nI 4294967295) (by decide) ?_
    exact gj_ir rfl dX11_when_56 rfl (congrArg nI (by unfold sp_or; rw [sp_fst_none (p := sp_wh (T (30 + c)) (fun q => T (55 + q)) (fun q => T (62 + q)) (T 29) (T (4 + c)) w) hq, if_neg (Nat.lt_irrefl 61)])) (by rw [sp_fst_none (p := sp_wh (T (30 + c)) (fun q => T (55 + q)) (fun q => T (62 + q)) (T 29) (T (4 + c)) w) hq])
  show gj _ _ _ _ _ _ [some (.ref 100), some (.int (nI c)), some (.int (nI w)), some (.int (nI j))] _ _
  refine gj_iload_n dX11_when_27 rfl ?_
  refine gj_bp 60 dX11_when_28 (by decide) ?_
  refine gj_icmp_gtN (tgt := 55) (by omega) (by omega) dX11_when_30 rfl (fun zq1 => ?_) (fun zq1 => ?_)
  · exfalso; omega
  refine gj_aload_n dX11_when_33 rfl ?_
  refine gj_iload_n dX11_when_34 rfl ?_
  refine gj_V1 lkX11_116 ((mj_up_ne (by decide)).trans H0) rfl rfl (ev_X11_bears ((mj_up_ne (by decide)).trans H0) ((mj_up_ne (by decide)).trans HT) (mj_up_eq _ _ _) bT (show ∀ q, q < 25 → (sp_days (fun q => T (30 + q)) (fun q => T (55 + q)) (fun q => T (62 + q)) (T 29) (fun q => T (4 + q)) j) q ≤ 99 from fun q hq => sp_icem_le (bT.2.2.2.2.2.1 q hq)) (by omega)) dX11_when_35 rfl rfl rfl rfl rfl ?_
  have hb2 := @sp_bear_le (T (30 + c)) ((sp_days (fun q => T (30 + q)) (fun q => T (55 + q)) (fun q => T (62 + q)) (T 29) (fun q => T (4 + q)) j) c)
  have hb3 := (show ∀ q, q < 25 → (sp_days (fun q => T (30 + q)) (fun q => T (55 + q)) (fun q => T (62 + q)) (T 29) (fun q => T (4 + q)) j) q ≤ 99 from fun q hq => sp_icem_le (bT.2.2.2.2.2.1 q hq)) c (by omega)
  refine gj_iload_n dX11_when_38 rfl ?_
  refine gj_icmp_ltN (tgt := 44) (by omega) (by omega) dX11_when_39 rfl (fun zq4 => ?_) (fun zq4 => ?_)
  · -- 39 taken
    have hn9 : (sp_wh (T (30 + c)) (fun q => T (55 + q)) (fun q => T (62 + q)) (T 29) (T (4 + c)) w) j = false := decide_eq_false (Nat.not_le.mpr zq4)
    refine gj_aload_n dX11_when_44 rfl ?_
    refine gj_iload_n dX11_when_45 rfl ?_
    refine gj_V0 lkX11_158 ((mj_up_ne (by decide)).trans H0) rfl rfl (ev_X11_goOne ((mj_up_ne (by decide)).trans H0) ((mj_up_ne (by decide)).trans HT) (mj_up_eq _ _ _) bT (show ∀ q, q < 25 → (sp_days (fun q => T (30 + q)) (fun q => T (55 + q)) (fun q => T (62 + q)) (T 29) (fun q => T (4 + q)) j) q ≤ 99 from fun q hq => sp_icem_le (bT.2.2.2.2.2.1 q hq)) (by omega)) dX11_when_46 rfl rfl rfl rfl rfl ?_
    refine gj_iincN (L' := [some (.ref 100), some (.int (nI c)), some (.int (nI w)), some (.int (nI (j + 1)))]) dX11_when_49 rfl (Nat.le_of_ble_eq_true rfl) rfl ?_
    refine gj_goto (tgt := 27) dX11_when_52 rfl ?_
    exact gj_cast rfl rfl (by rw [mj_up_up]; rfl) (ih (fun i hi => by by_cases q : i = j <;> first | (subst q; exact hn9) | exact hq i (by omega)))
  have hp9 : (sp_wh (T (30 + c)) (fun q => T (55 + q)) (fun q => T (62 + q)) (T 29) (T (4 + c)) w) j = true := decide_eq_true zq4
  refine gj_iload_n dX11_when_42 rfl ?_
  exact gj_ir rfl dX11_when_43 rfl (congrArg nI (by unfold sp_or; rw [sp_fst_at (p := sp_wh (T (30 + c)) (fun q => T (55 + q)) (fun q => T (62 + q)) (T 29) (T (4 + c)) w) hj hp9 hq, if_pos hj])) (by rw [sp_fst_at (p := sp_wh (T (30 + c)) (fun q => T (55 + q)) (fun q => T (62 + q)) (T 29) (T (4 + c)) w) hj hp9 hq])
set_option maxHeartbeats 1000000 in
set_option maxRecDepth 10000 in
theorem ev_X11_where {E : mj_E} {h : mj_H} {a0 a1 y2 y3 y4 y5 y6 : Nat} (H0 : h 100 = some (mj_mo a0 a1 y2 y3 y4 y5 y6)) {T : Nat → Nat} (HT : h 101 = some (mj_ar 362 T)) {J : Nat → Nat} (HJ : h 105 = some (mj_ar 25 J)) (bT : mj_Tb T) {w m : Nat} (h0 : 1 ≤ w) (h1 : w ≤ 198) (h2 : m ≤ 60) : mj_Ev E iX11_where [.ref 100, .int (nI w), .int (nI m)] h (mj_R (some (.int (nI (sp_open (fun q => T (30 + q)) (sp_days (fun q => T (30 + q)) (fun q => T (55 + q)) (fun q => T (62 + q)) (T 29) (fun q => T (4 + q)) m) w)))) (mj_up (mj_up h 105 (mj_ar 25 (fun q => T (4 + q)))) 105 (mj_ar 25 (sp_days (fun q => T (30 + q)) (fun q => T (55 + q)) (fun q => T (62 + q)) (T 29) (fun q => T (4 + q)) m)))) := by
  refine mj_Ev.of (L0 := [some (.ref 100), some (.int (nI w)), some (.int (nI m)), none, none]) pnRX11 (Nat.le_of_ble_eq_true rfl) rfl ?_
  refine gj_iload_n dX11_where_0 rfl ?_
  refine gj_S1 lkX11_155 (ev_X11_isBurden_t (by omega) (by omega)) dX11_where_1 rfl rfl rfl rfl rfl ?_
  refine gj_if_eqN (tgt := 19) (by omega) dX11_where_4 rfl (fun zq0 => ?_) (fun zq0 => ?_)
  · exfalso; revert zq0; decide
  refine gj_iload_n dX11_where_7 rfl ?_
  refine gj_i2lN (by omega) dX11_where_8 ?_
  refine gj_lconst (v := lN 0) dX11_where_9 rfl ?_
  refine gj_ldc2 (v := lN 60) w_1097 dX11_where_10 ?_
  refine gj_S1 lkX11_50 (ev_X11_in_t (by omega) (by omega) (by omega)) dX11_where_13 rfl rfl rfl rfl rfl ?_
  refine gj_if_neN (tgt := 26) (by omega) dX11_where_16 rfl (fun zq0 => ?_) (fun zq0 => ?_)
  rotate_left
  · exfalso; revert zq0; decide
  refine gj_ic (w := 0) dX11_where_26 ?_
  refine gj_istore_n (L' := [some (.ref 100), some (.int (nI w)), some (.int (nI m)), some (.int (nI 0)), none]) dX11_where_27 (Nat.le_of_ble_eq_true rfl) rfl ?_
  refine gj_aload_n dX11_where_28 rfl ?_
  refine gj_V0 lkX11_124 H0 rfl rfl (ev_X11_layIce H0 HT HJ bT) dX11_where_29 rfl rfl rfl rfl rfl ?_
  refine gj_aload_n dX11_where_32 rfl ?_
  refine gj_iload_n dX11_where_33 rfl ?_
  refine gj_V0 lkX11_127 ((mj_up_ne (by decide)).trans H0) rfl rfl (ev_X11_goDays ((mj_up_ne (by decide)).trans H0) ((mj_up_ne (by decide)).trans HT) (mj_up_eq _ _ _) bT bT.2.2.2.2.2.1 (by omega)) dX11_where_34 rfl rfl rfl rfl rfl ?_
  refine gj_ic (w := 0) dX11_where_37 ?_
  refine gj_istore (L' := [some (.ref 100), some (.int (nI w)), some (.int (nI m)), some (.int (nI 0)), some (.int (nI 0))]) dX11_where_38 (Nat.le_of_ble_eq_true rfl) rfl ?_
  refine gj_cast (L' := [some (.ref 100), some (.int (nI w)), some (.int (nI m)), some (.int (nI (mj_bits (fun q => decide (w ≤ sp_bear (T (30 + q)) ((sp_days (fun q => T (30 + q)) (fun q => T (55 + q)) (fun q => T (62 + q)) (T 29) (fun q => T (4 + q)) m) q))) 0))), some (.int (nI 0))]) (st' := []) (h' := mj_up (mj_up h 105 (mj_ar 25 (fun q => T (4 + q)))) 105 (mj_ar 25 (sp_days (fun q => T (30 + q)) (fun q => T (55 + q)) (fun q => T (62 + q)) (T 29) (fun q => T (4 + q)) m))) rfl rfl rfl ?_
  refine gj_loop (fun j => [some (.ref 100), some (.int (nI w)), some (.int (nI m)), some (.int (nI (mj_bits (fun q => decide (w ≤ sp_bear (T (30 + q)) ((sp_days (fun q => T (30 + q)) (fun q => T (55 + q)) (fun q => T (62 + q)) (T 29) (fun q => T (4 + q)) m) q))) j))), some (.int (nI j))]) (fun j => mj_up (mj_up h 105 (mj_ar 25 (fun q => T (4 + q)))) 105 (mj_ar 25 (sp_days (fun q => T (30 + q)) (fun q => T (55 + q)) (fun q => T (62 + q)) (T 29) (fun q => T (4 + q)) m))) 25 ?_ (fun j hj ih => ?_) 0 (by omega)
  · show gj _ _ _ _ _ _ [some (.ref 100), some (.int (nI w)), some (.int (nI m)), some (.int (nI (mj_bits (fun q => decide (w ≤ sp_bear (T (30 + q)) ((sp_days (fun q => T (30 + q)) (fun q => T (55 + q)) (fun q => T (62 + q)) (T 29) (fun q => T (4 + q)) m) q))) 25))), some (.int (nI 25))] _ _
    refine gj_iload dX11_where_40 rfl ?_
    refine gj_bp 25 dX11_where_42 (by decide) ?_
    refine gj_icmp_geN (tgt := 74) (by omega) (by omega) dX11_where_44 rfl (fun zq0 => ?_) (fun zq0 => ?_)
    rotate_left
    · exfalso; omega
    refine gj_iload_n dX11_where_74 rfl ?_
    exact gj_ir rfl dX11_where_75 rfl rfl rfl
  show gj _ _ _ _ _ _ [some (.ref 100), some (.int (nI w)), some (.int (nI m)), some (.int (nI (mj_bits (fun q => decide (w ≤ sp_bear (T (30 + q)) ((sp_days (fun q => T (30 + q)) (fun q => T (55 + q)) (fun q => T (62 + q)) (T 29) (fun q => T (4 + q)) m) q))) j))), some (.int (nI j))] _ _
  refine gj_iload dX11_where_40 rfl ?_
  refine gj_bp 25 dX11_where_42 (by decide) ?_
  refine gj_icmp_geN (tgt := 74) (by omega) (by omega) dX11_where_44 rfl (fun zq1 => ?_) (fun zq1 => ?_)
  · exfalso; omega
  refine gj_iload_n dX11_where_47 rfl ?_
  refine gj_aload_n dX11_where_48 rfl ?_
  refine gj_iload dX11_where_49 rfl ?_
  refine gj_V1 lkX11_116 ((mj_up_ne (by decide)).trans ((mj_up_ne (by decide)).trans H0)) rfl rfl (ev_X11_bears ((mj_up_ne (by decide)).trans ((mj_up_ne (by decide)).trans H0)) ((mj_up_ne (by decide)).trans ((mj_up_ne (by decide)).trans HT)) (mj_up_eq _ _ _) bT (show ∀ q, q < 25 → (sp_days (fun q => T (30 + q)) (fun q => T (55 + q)) (fun q => T (62 + q)) (T 29) (fun q => T (4 + q)) m) q ≤ 99 from fun q hq => sp_icem_le (bT.2.2.2.2.2.1 q hq)) (by omega)) dX11_where_51 rfl rfl rfl rfl rfl ?_
  have hb2 := @sp_bear_le (T (30 + j)) ((sp_days (fun q => T (30 + q)) (fun q => T (55 + q)) (fun q => T (62 + q)) (T 29) (fun q => T (4 + q)) m) j)
  have hb3 := (show ∀ q, q < 25 → (sp_days (fun q => T (30 + q)) (fun q => T (55 + q)) (fun q => T (62 + q)) (T 29) (fun q => T (4 + q)) m) q ≤ 99 from fun q hq => sp_icem_le (bT.2.2.2.2.2.1 q hq)) j (by omega)
  refine gj_iload_n dX11_where_54 rfl ?_
  refine gj_icmp_ltN (tgt := 65) (by omega) (by omega) dX11_where_55 rfl (fun zq4 => ?_) (fun zq4 => ?_)
  · -- 55 taken
    have hw9 : (fun q => decide (w ≤ sp_bear (T (30 + q)) ((sp_days (fun q => T (30 + q)) (fun q => T (55 + q)) (fun q => T (62 + q)) (T 29) (fun q => T (4 + q)) m) q))) j = false := decide_eq_false (Nat.not_le.mpr zq4)
    refine gj_ic (w := 0) dX11_where_65 ?_
    refine gj_iorN  dX11_where_66 ?_
    refine gj_istore_n (L' := [some (.ref 100), some (.int (nI w)), some (.int (nI m)), some (.int (nI ((mj_bits (fun q => decide (w ≤ sp_bear (T (30 + q)) ((sp_days (fun q => T (30 + q)) (fun q => T (55 + q)) (fun q => T (62 + q)) (T 29) (fun q => T (4 + q)) m) q))) j) ||| 0))), some (.int (nI j))]) dX11_where_67 (Nat.le_of_ble_eq_true rfl) rfl ?_
    refine gj_iincN (L' := [some (.ref 100), some (.int (nI w)), some (.int (nI m)), some (.int (nI ((mj_bits (fun q => decide (w ≤ sp_bear (T (30 + q)) ((sp_days (fun q => T (30 + q)) (fun q => T (55 + q)) (fun q => T (62 + q)) (T 29) (fun q => T (4 + q)) m) q))) j) ||| 0))), some (.int (nI (j + 1)))]) dX11_where_68 rfl (Nat.le_of_ble_eq_true rfl) rfl ?_
    refine gj_goto (tgt := 40) dX11_where_71 rfl ?_
    exact gj_cast (by first | (rw [show mj_bits (fun q => decide (w ≤ sp_bear (T (30 + q)) ((sp_days (fun q => T (30 + q)) (fun q => T (55 + q)) (fun q => T (62 + q)) (T 29) (fun q => T (4 + q)) m) q))) (j + 1) = _ from mj_bits_t (p := (fun q => decide (w ≤ sp_bear (T (30 + q)) ((sp_days (fun q => T (30 + q)) (fun q => T (55 + q)) (fun q => T (62 + q)) (T 29) (fun q => T (4 + q)) m) q)))) hw9]; try rfl) | (rw [Nat.or_zero, show mj_bits (fun q => decide (w ≤ sp_bear (T (30 + q)) ((sp_days (fun q => T (30 + q)) (fun q => T (55 + q)) (fun q => T (62 + q)) (T 29) (fun q => T (4 + q)) m) q))) (j + 1) = _ from mj_bits_f (p := (fun q => decide (w ≤ sp_bear (T (30 + q)) ((sp_days (fun q => T (30 + q)) (fun q => T (55 + q)) (fun q => T (62 + q)) (T 29) (fun q => T (4 + q)) m) q)))) hw9]; try rfl)) rfl rfl ih
  have hw9 : (fun q => decide (w ≤ sp_bear (T (30 + q)) ((sp_days (fun q => T (30 + q)) (fun q => T (55 + q)) (fun q => T (62 + q)) (T 29) (fun q => T (4 + q)) m) q))) j = true := decide_eq_true zq4
  refine gj_ic (w := 1) dX11_where_58 ?_
  refine gj_iload dX11_where_59 rfl ?_
  refine gj_ishlN (by omega) dX11_where_61 ?_
  refine gj_goto (tgt := 66) dX11_where_62 rfl ?_
  refine gj_iorN  dX11_where_66 ?_
  refine gj_istore_n (L' := [some (.ref 100), some (.int (nI w)), some (.int (nI m)), some (.int (nI ((mj_bits (fun q => decide (w ≤ sp_bear (T (30 + q)) ((sp_days (fun q => T (30 + q)) (fun q => T (55 + q)) (fun q => T (62 + q)) (T 29) (fun q => T (4 + q)) m) q))) j) ||| (1 <<< j)))), some (.int (nI j))]) dX11_where_67 (Nat.le_of_ble_eq_true rfl) rfl ?_
  refine gj_iincN (L' := [some (.ref 100), some (.int (nI w)), some (.int (nI m)), some (.int (nI ((mj_bits (fun q => decide (w ≤ sp_bear (T (30 + q)) ((sp_days (fun q => T (30 + q)) (fun q => T (55 + q)) (fun q => T (62 + q)) (T 29) (fun q => T (4 + q)) m) q))) j) ||| (1 <<< j)))), some (.int (nI (j + 1)))]) dX11_where_68 rfl (Nat.le_of_ble_eq_true rfl) rfl ?_
  refine gj_goto (tgt := 40) dX11_where_71 rfl ?_
  exact gj_cast (by first | (rw [show mj_bits (fun q => decide (w ≤ sp_bear (T (30 + q)) ((sp_days (fun q => T (30 + q)) (fun q => T (55 + q)) (fun q => T (62 + q)) (T 29) (fun q => T (4 + q)) m) q))) (j + 1) = _ from mj_bits_t (p := (fun q => decide (w ≤ sp_bear (T (30 + q)) ((sp_days (fun q => T (30 + q)) (fun q => T (55 + q)) (fun q => T (62 + q)) (T 29) (fun q => T (4 + q)) m) q)))) hw9]; try rfl) | (rw [Nat.or_zero, show mj_bits (fun q => decide (w ≤ sp_bear (T (30 + q)) ((sp_days (fun q => T (30 + q)) (fun q => T (55 + q)) (fun q => T (62 + q)) (T 29) (fun q => T (4 + q)) m) q))) (j + 1) = _ from mj_bits_f (p := (fun q => decide (w ≤ sp_bear (T (30 + q)) ((sp_days (fun q => T (30 + q)) (fun q => T (55 + q)) (fun q => T (62 + q)) (T 29) (fun q => T (4 + q)) m) q)))) hw9]; try rfl)) rfl rfl ih
set_option maxHeartbeats 1000000 in
set_option maxRecDepth 10000 in
theorem ev_X11_horses {E : mj_E} {h : mj_H} {a0 a1 y2 y3 y4 y5 y6 : Nat} (H0 : h 100 = some (mj_mo a0 a1 y2 y3 y4 y5 y6)) {T : Nat → Nat} (HT : h 101 = some (mj_ar 362 T)) {J : Nat → Nat} (HJ : h 105 = some (mj_ar 25 J)) (bT : mj_Tb T) {w : Nat} (h0 : 1 ≤ w) (h1 : w ≤ 198) : mj_Ev E iX11_horses [.ref 100, .int (nI w)] h (mj_R (some (.int (nI (sp_or 61 (sp_fst (sp_hp (fun q => T (30 + q)) (fun q => T (55 + q)) (fun q => T (62 + q)) (T 29) (fun q => T (4 + q)) w) 61))))) (mj_up h 105 (mj_ar 25 (sp_days (fun q => T (30 + q)) (fun q => T (55 + q)) (fun q => T (62 + q)) (T 29) (fun q => T (4 + q)) (sp_fst (sp_hp (fun q => T (30 + q)) (fun q => T (55 + q)) (fun q => T (62 + q)) (T 29) (fun q => T (4 + q)) w) 61))))) := by
  refine mj_Ev.of (L0 := [some (.ref 100), some (.int (nI w)), none, none, none]) pnRX11 (Nat.le_of_ble_eq_true rfl) rfl ?_
  have hb29 := bT.2.2.2.2.1
  refine gj_iload_n dX11_horses_0 rfl ?_
  refine gj_S1 lkX11_155 (ev_X11_isBurden_t (by omega) (by omega)) dX11_horses_1 rfl rfl rfl rfl rfl ?_
  refine gj_if_neN (tgt := 14) (by omega) dX11_horses_4 rfl (fun zq0 => ?_) (fun zq0 => ?_)
  rotate_left
  · exfalso; revert zq0; decide
  refine gj_aload_n dX11_horses_14 rfl ?_
  refine gj_V0 lkX11_124 H0 rfl rfl (ev_X11_layIce H0 HT HJ bT) dX11_horses_15 rfl rfl rfl rfl rfl ?_
  refine gj_ic (w := 0) dX11_horses_18 ?_
  refine gj_istore_n (L' := [some (.ref 100), some (.int (nI w)), some (.int (nI 0)), none, none]) dX11_horses_19 (Nat.le_of_ble_eq_true rfl) rfl ?_
  refine gj_cast (L' := [some (.ref 100), some (.int (nI w)), some (.int (nI 0)), none, none]) (st' := []) (h' := mj_up h 105 (mj_ar 25 (sp_days (fun q => T (30 + q)) (fun q => T (55 + q)) (fun q => T (62 + q)) (T 29) (fun q => T (4 + q)) 0))) rfl rfl rfl ?_
  refine gj_loopI (fun j => ∀ i, i < j → (sp_hp (fun q => T (30 + q)) (fun q => T (55 + q)) (fun q => T (62 + q)) (T 29) (fun q => T (4 + q)) w) i = false) (fun j => [some (.ref 100), some (.int (nI w)), some (.int (nI j)), none, none]) (fun j => mj_up h 105 (mj_ar 25 (sp_days (fun q => T (30 + q)) (fun q => T (55 + q)) (fun q => T (62 + q)) (T 29) (fun q => T (4 + q)) j))) 61 (fun hq => ?_) (fun j hj hq ih => ?_) 0 (by omega) (fun i hi => absurd hi (Nat.not_lt_zero _))
  · show gj _ _ _ _ _ _ [some (.ref 100), some (.int (nI w)), some (.int (nI 61)), none, none] _ _
    refine gj_iload_n dX11_horses_20 rfl ?_
    refine gj_bp 60 dX11_horses_21 (by decide) ?_
    refine gj_icmp_gtN (tgt := 74) (by omega) (by omega) dX11_horses_23 rfl (fun zq0 => ?_) (fun zq0 => ?_)
    rotate_left
    · exfalso; omega
    refine gj_iconst (v := (-1)) dX11_horses_74 (by decide) ?_
    refine gj_top (y := nI 4294967295) (by decide) ?_
    exact gj_ir rfl dX11_horses_75 rfl (congrArg nI (by unfold sp_or; rw [sp_fst_none (p := sp_hp (fun q => T (30 + q)) (fun q => T (55 + q)) (fun q => T (62 + q)) (T 29) (fun q => T (4 + q)) w) hq, if_neg (Nat.lt_irrefl 61)])) (by rw [sp_fst_none (p := sp_hp (fun q => T (30 + q)) (fun q => T (55 + q)) (fun q => T (62 + q)) (T 29) (fun q => T (4 + q)) w) hq])
  show gj _ _ _ _ _ _ [some (.ref 100), some (.int (nI w)), some (.int (nI j)), none, none] _ _
  refine gj_iload_n dX11_horses_20 rfl ?_
  refine gj_bp 60 dX11_horses_21 (by decide) ?_
  refine gj_icmp_gtN (tgt := 74) (by omega) (by omega) dX11_horses_23 rfl (fun zq1 => ?_) (fun zq1 => ?_)
  · exfalso; omega
  refine gj_ic (w := 0) dX11_horses_26 ?_
  refine gj_istore_n (L' := [some (.ref 100), some (.int (nI w)), some (.int (nI j)), some (.int (nI 0)), none]) dX11_horses_27 (Nat.le_of_ble_eq_true rfl) rfl ?_
  refine gj_ic (w := 0) dX11_horses_28 ?_
  refine gj_istore (L' := [some (.ref 100), some (.int (nI w)), some (.int (nI j)), some (.int (nI 0)), some (.int (nI 0))]) dX11_horses_29 (Nat.le_of_ble_eq_true rfl) rfl ?_
  refine gj_cast (L' := [some (.ref 100), some (.int (nI w)), some (.int (nI j)), some (.int (nI (sp_sum (fun q => sp_bear (T (30 + q)) ((sp_days (fun q => T (30 + q)) (fun q => T (55 + q)) (fun q => T (62 + q)) (T 29) (fun q => T (4 + q)) j) q)) 0))), some (.int (nI 0))]) (st' := []) (h' := mj_up h 105 (mj_ar 25 (sp_days (fun q => T (30 + q)) (fun q => T (55 + q)) (fun q => T (62 + q)) (T 29) (fun q => T (4 + q)) j))) rfl rfl rfl ?_
  refine gj_loop (fun i => [some (.ref 100), some (.int (nI w)), some (.int (nI j)), some (.int (nI (sp_sum (fun q => sp_bear (T (30 + q)) ((sp_days (fun q => T (30 + q)) (fun q => T (55 + q)) (fun q => T (62 + q)) (T 29) (fun q => T (4 + q)) j) q)) i))), some (.int (nI i))]) (fun i => mj_up h 105 (mj_ar 25 (sp_days (fun q => T (30 + q)) (fun q => T (55 + q)) (fun q => T (62 + q)) (T 29) (fun q => T (4 + q)) j))) 25 ?_ (fun i hi ihi => ?_) 0 (by omega)
  · show gj _ _ _ _ _ _ [some (.ref 100), some (.int (nI w)), some (.int (nI j)), some (.int (nI (sp_sum (fun q => sp_bear (T (30 + q)) ((sp_days (fun q => T (30 + q)) (fun q => T (55 + q)) (fun q => T (62 + q)) (T 29) (fun q => T (4 + q)) j) q)) 25))), some (.int (nI 25))] _ _
    refine gj_iload dX11_horses_31 rfl ?_
    refine gj_bp 25 dX11_horses_33 (by decide) ?_
    refine gj_icmp_geN (tgt := 53) (by omega) (by omega) dX11_horses_35 rfl (fun zq0 => ?_) (fun zq0 => ?_)
    rotate_left
    · exfalso; omega
    have hs9 := @sp_sum_lim (fun q => sp_bear (T (30 + q)) ((sp_days (fun q => T (30 + q)) (fun q => T (55 + q)) (fun q => T (62 + q)) (T 29) (fun q => T (4 + q)) j) q)) 25 198 (fun q hq => by have q1 := @sp_bear_le (T (30 + q)) ((sp_days (fun q => T (30 + q)) (fun q => T (55 + q)) (fun q => T (62 + q)) (T 29) (fun q => T (4 + q)) j) q); have q2 : (sp_days (fun q => T (30 + q)) (fun q => T (55 + q)) (fun q => T (62 + q)) (T 29) (fun q => T (4 + q)) j) q ≤ 99 := sp_icem_le (bT.2.2.2.2.2.1 q hq); omega)
    refine gj_iload_n dX11_horses_53 rfl ?_
    refine gj_bp 25 dX11_horses_54 (by decide) ?_
    refine gj_iload_n dX11_horses_56 rfl ?_
    refine gj_imulN  dX11_horses_57 ?_
    refine gj_icmp_ltN (tgt := 63) (by omega) (by omega) dX11_horses_58 rfl (fun zq2 => ?_) (fun zq2 => ?_)
    · -- 58 taken
      have hn9 : (sp_hp (fun q => T (30 + q)) (fun q => T (55 + q)) (fun q => T (62 + q)) (T 29) (fun q => T (4 + q)) w) j = false := decide_eq_false (Nat.not_le.mpr zq2)
      refine gj_aload_n dX11_horses_63 rfl ?_
      refine gj_iload_n dX11_horses_64 rfl ?_
      refine gj_V0 lkX11_158 ((mj_up_ne (by decide)).trans H0) rfl rfl (ev_X11_goOne ((mj_up_ne (by decide)).trans H0) ((mj_up_ne (by decide)).trans HT) (mj_up_eq _ _ _) bT (show ∀ q, q < 25 → (sp_days (fun q => T (30 + q)) (fun q => T (55 + q)) (fun q => T (62 + q)) (T 29) (fun q => T (4 + q)) j) q ≤ 99 from fun q hq => sp_icem_le (bT.2.2.2.2.2.1 q hq)) (by omega)) dX11_horses_65 rfl rfl rfl rfl rfl ?_
      refine gj_iincN (L' := [some (.ref 100), some (.int (nI w)), some (.int (nI (j + 1))), some (.int (nI (sp_sum (fun q => sp_bear (T (30 + q)) ((sp_days (fun q => T (30 + q)) (fun q => T (55 + q)) (fun q => T (62 + q)) (T 29) (fun q => T (4 + q)) j) q)) 25))), some (.int (nI 25))]) dX11_horses_68 rfl (Nat.le_of_ble_eq_true rfl) rfl ?_
      refine gj_goto (tgt := 20) dX11_horses_71 rfl ?_
      refine gj_forget (i := 3) (L' := [some (.ref 100), some (.int (nI w)), some (.int (nI (j + 1))), none, some (.int (nI 25))]) rfl ?_
      refine gj_forget (i := 4) (L' := [some (.ref 100), some (.int (nI w)), some (.int (nI (j + 1))), none, none]) rfl ?_
      exact gj_cast rfl rfl (by rw [mj_up_up]; rfl) (ih (fun i hi => by by_cases q : i = j <;> first | (subst q; exact hn9) | exact hq i (by omega)))
    have hp9 : (sp_hp (fun q => T (30 + q)) (fun q => T (55 + q)) (fun q => T (62 + q)) (T 29) (fun q => T (4 + q)) w) j = true := decide_eq_true zq2
    refine gj_iload_n dX11_horses_61 rfl ?_
    exact gj_ir rfl dX11_horses_62 rfl (congrArg nI (by unfold sp_or; rw [sp_fst_at (p := sp_hp (fun q => T (30 + q)) (fun q => T (55 + q)) (fun q => T (62 + q)) (T 29) (fun q => T (4 + q)) w) hj hp9 hq, if_pos hj])) (by rw [sp_fst_at (p := sp_hp (fun q => T (30 + q)) (fun q => T (55 + q)) (fun q => T (62 + q)) (T 29) (fun q => T (4 + q)) w) hj hp9 hq])
  show gj _ _ _ _ _ _ [some (.ref 100), some (.int (nI w)), some (.int (nI j)), some (.int (nI (sp_sum (fun q => sp_bear (T (30 + q)) ((sp_days (fun q => T (30 + q)) (fun q => T (55 + q)) (fun q => T (62 + q)) (T 29) (fun q => T (4 + q)) j) q)) i))), some (.int (nI i))] _ _
  refine gj_iload dX11_horses_31 rfl ?_
  refine gj_bp 25 dX11_horses_33 (by decide) ?_
  refine gj_icmp_geN (tgt := 53) (by omega) (by omega) dX11_horses_35 rfl (fun zq3 => ?_) (fun zq3 => ?_)
  · exfalso; omega
  refine gj_iload_n dX11_horses_38 rfl ?_
  refine gj_aload_n dX11_horses_39 rfl ?_
  refine gj_iload dX11_horses_40 rfl ?_
  refine gj_V1 lkX11_116 ((mj_up_ne (by decide)).trans H0) rfl rfl (ev_X11_bears ((mj_up_ne (by decide)).trans H0) ((mj_up_ne (by decide)).trans HT) (mj_up_eq _ _ _) bT (show ∀ q, q < 25 → (sp_days (fun q => T (30 + q)) (fun q => T (55 + q)) (fun q => T (62 + q)) (T 29) (fun q => T (4 + q)) j) q ≤ 99 from fun q hq => sp_icem_le (bT.2.2.2.2.2.1 q hq)) (by omega)) dX11_horses_42 rfl rfl rfl rfl rfl ?_
  have hb4 := @sp_bear_le (T (30 + i)) ((sp_days (fun q => T (30 + q)) (fun q => T (55 + q)) (fun q => T (62 + q)) (T 29) (fun q => T (4 + q)) j) i)
  have hb5 := (show ∀ q, q < 25 → (sp_days (fun q => T (30 + q)) (fun q => T (55 + q)) (fun q => T (62 + q)) (T 29) (fun q => T (4 + q)) j) q ≤ 99 from fun q hq => sp_icem_le (bT.2.2.2.2.2.1 q hq)) i (by omega)
  refine gj_iaddN  dX11_horses_45 ?_
  refine gj_istore_n (L' := [some (.ref 100), some (.int (nI w)), some (.int (nI j)), some (.int (nI ((sp_sum (fun q => sp_bear (T (30 + q)) ((sp_days (fun q => T (30 + q)) (fun q => T (55 + q)) (fun q => T (62 + q)) (T 29) (fun q => T (4 + q)) j) q)) i) + (sp_bear (T (30 + i)) ((sp_days (fun q => T (30 + q)) (fun q => T (55 + q)) (fun q => T (62 + q)) (T 29) (fun q => T (4 + q)) j) i))))), some (.int (nI i))]) dX11_horses_46 (Nat.le_of_ble_eq_true rfl) rfl ?_
  refine gj_iincN (L' := [some (.ref 100), some (.int (nI w)), some (.int (nI j)), some (.int (nI ((sp_sum (fun q => sp_bear (T (30 + q)) ((sp_days (fun q => T (30 + q)) (fun q => T (55 + q)) (fun q => T (62 + q)) (T 29) (fun q => T (4 + q)) j) q)) i) + (sp_bear (T (30 + i)) ((sp_days (fun q => T (30 + q)) (fun q => T (55 + q)) (fun q => T (62 + q)) (T 29) (fun q => T (4 + q)) j) i))))), some (.int (nI (i + 1)))]) dX11_horses_47 rfl (Nat.le_of_ble_eq_true rfl) rfl ?_
  refine gj_goto (tgt := 31) dX11_horses_50 rfl ?_
  exact ihi
set_option maxHeartbeats 1000000 in
set_option maxRecDepth 10000 in
theorem ev_X11_votes_0 {E : mj_E} {h : mj_H} {a0 a1 y2 y3 y4 y5 y6 : Nat} (H0 : h 100 = some (mj_mo a0 a1 y2 y3 y4 y5 y6)) {T : Nat → Nat} (HT : h 101 = some (mj_ar 362 T)) {J : Nat → Nat} (HJ : h 105 = some (mj_ar 25 J)) (bT : mj_Tb T)  : mj_Ev E iX11_votes [.ref 100, .int (nI 0)] h (mj_R (some (.int (nI (sp_my T (fun q => T (4 + q)) (T (55 + ((T 29) % 7))) (T 0))))) (mj_up h 105 (mj_ar 25 (fun q => T (4 + q))))) := by
  refine mj_Ev.of (L0 := [some (.ref 100), some (.int (nI 0)), none]) pnRX11 (Nat.le_of_ble_eq_true rfl) rfl ?_
  have hb0 := bT.1
  have hY : (sp_my T (fun q => T (4 + q)) (T (55 + T 29 % 7)) (T 0)) < 128 := sp_my_lt hb0
  refine gj_iload_n dX11_votes_0 rfl ?_
  refine gj_i2lN (by omega) dX11_votes_1 ?_
  refine gj_lconst (v := lN 0) dX11_votes_2 rfl ?_
  refine gj_ldc2 (v := lN 2) w_1154 dX11_votes_3 ?_
  refine gj_S1 lkX11_50 (ev_X11_in_t (by omega) (by omega) (by omega)) dX11_votes_6 rfl rfl rfl rfl rfl ?_
  refine gj_if_neN (tgt := 19) (by omega) dX11_votes_9 rfl (fun zq0 => ?_) (fun zq0 => ?_)
  rotate_left
  · exfalso; revert zq0; decide
  refine gj_aload_n dX11_votes_19 rfl ?_
  refine gj_V0 lkX11_124 H0 rfl rfl (ev_X11_layIce H0 HT HJ bT) dX11_votes_20 rfl rfl rfl rfl rfl ?_
  refine gj_aload_n dX11_votes_23 rfl ?_
  refine gj_aload_n dX11_votes_24 rfl ?_
  refine gj_V1 lkX11_149 ((mj_up_ne (by decide)).trans H0) rfl rfl (ev_X11_frostNow ((mj_up_ne (by decide)).trans H0) ((mj_up_ne (by decide)).trans HT) bT) dX11_votes_25 rfl rfl rfl rfl rfl ?_
  have hb1 := bT.2.2.2.2.2.2.2.1 (T 29 % 7) (by omega)
  refine gj_V1 lkX11_193 ((mj_up_ne (by decide)).trans H0) rfl rfl (ev_X11_yesOf ((mj_up_ne (by decide)).trans H0) ((mj_up_ne (by decide)).trans HT) (mj_up_eq _ _ _) bT bT.2.2.2.2.2.1 (by omega)) dX11_votes_28 rfl rfl rfl rfl rfl ?_
  have hb2 := @sp_my_lt T (fun q => T (4 + q)) (T (55 + ((T 29) % 7))) (T 0) (by omega)
  refine gj_istore_n (L' := [some (.ref 100), some (.int (nI 0)), some (.int (nI (sp_my T (fun q => T (4 + q)) (T (55 + ((T 29) % 7))) (T 0))))]) dX11_votes_31 (Nat.le_of_ble_eq_true rfl) rfl ?_
  refine gj_iload_n dX11_votes_32 rfl ?_
  refine gj_if_neN (tgt := 40) (by omega) dX11_votes_33 rfl (fun zq0 => ?_) (fun zq0 => ?_)
  · exfalso; revert zq0; decide
  refine gj_iload_n dX11_votes_36 rfl ?_
  refine gj_goto (tgt := 66) dX11_votes_37 rfl ?_
  exact gj_ir rfl dX11_votes_66 rfl rfl rfl
set_option maxHeartbeats 1000000 in
set_option maxRecDepth 10000 in
theorem ev_X11_votes_2 {E : mj_E} {h : mj_H} {a0 a1 y2 y3 y4 y5 y6 : Nat} (H0 : h 100 = some (mj_mo a0 a1 y2 y3 y4 y5 y6)) {T : Nat → Nat} (HT : h 101 = some (mj_ar 362 T)) {J : Nat → Nat} (HJ : h 105 = some (mj_ar 25 J)) (bT : mj_Tb T)  : mj_Ev E iX11_votes [.ref 100, .int (nI 2)] h (mj_R (some (.int (nI (sp_mw T (fun q => T (4 + q)) (sp_my T (fun q => T (4 + q)) (T (55 + ((T 29) % 7))) (T 0)) (T 0))))) (mj_up h 105 (mj_ar 25 (fun q => T (4 + q))))) := by
  refine mj_Ev.of (L0 := [some (.ref 100), some (.int (nI 2)), none]) pnRX11 (Nat.le_of_ble_eq_true rfl) rfl ?_
  have hb0 := bT.1
  have hY : (sp_my T (fun q => T (4 + q)) (T (55 + T 29 % 7)) (T 0)) < 128 := sp_my_lt hb0
  refine gj_iload_n dX11_votes_0 rfl ?_
  refine gj_i2lN (by omega) dX11_votes_1 ?_
  refine gj_lconst (v := lN 0) dX11_votes_2 rfl ?_
  refine gj_ldc2 (v := lN 2) w_1154 dX11_votes_3 ?_
  refine gj_S1 lkX11_50 (ev_X11_in_t (by omega) (by omega) (by omega)) dX11_votes_6 rfl rfl rfl rfl rfl ?_
  refine gj_if_neN (tgt := 19) (by omega) dX11_votes_9 rfl (fun zq0 => ?_) (fun zq0 => ?_)
  rotate_left
  · exfalso; revert zq0; decide
  refine gj_aload_n dX11_votes_19 rfl ?_
  refine gj_V0 lkX11_124 H0 rfl rfl (ev_X11_layIce H0 HT HJ bT) dX11_votes_20 rfl rfl rfl rfl rfl ?_
  refine gj_aload_n dX11_votes_23 rfl ?_
  refine gj_aload_n dX11_votes_24 rfl ?_
  refine gj_V1 lkX11_149 ((mj_up_ne (by decide)).trans H0) rfl rfl (ev_X11_frostNow ((mj_up_ne (by decide)).trans H0) ((mj_up_ne (by decide)).trans HT) bT) dX11_votes_25 rfl rfl rfl rfl rfl ?_
  have hb1 := bT.2.2.2.2.2.2.2.1 (T 29 % 7) (by omega)
  refine gj_V1 lkX11_193 ((mj_up_ne (by decide)).trans H0) rfl rfl (ev_X11_yesOf ((mj_up_ne (by decide)).trans H0) ((mj_up_ne (by decide)).trans HT) (mj_up_eq _ _ _) bT bT.2.2.2.2.2.1 (by omega)) dX11_votes_28 rfl rfl rfl rfl rfl ?_
  have hb2 := @sp_my_lt T (fun q => T (4 + q)) (T (55 + ((T 29) % 7))) (T 0) (by omega)
  refine gj_istore_n (L' := [some (.ref 100), some (.int (nI 2)), some (.int (nI (sp_my T (fun q => T (4 + q)) (T (55 + ((T 29) % 7))) (T 0))))]) dX11_votes_31 (Nat.le_of_ble_eq_true rfl) rfl ?_
  refine gj_iload_n dX11_votes_32 rfl ?_
  refine gj_if_neN (tgt := 40) (by omega) dX11_votes_33 rfl (fun zq0 => ?_) (fun zq0 => ?_)
  rotate_left
  · exfalso; revert zq0; decide
  refine gj_iload_n dX11_votes_40 rfl ?_
  refine gj_ic (w := 2) dX11_votes_41 ?_
  refine gj_icmp_neN (tgt := 53) (by omega) (by omega) dX11_votes_42 rfl (fun zq0 => ?_) (fun zq0 => ?_)
  · exfalso; omega
  refine gj_aload_n dX11_votes_45 rfl ?_
  refine gj_iload_n dX11_votes_46 rfl ?_
  refine gj_V1 lkX11_196 ((mj_up_ne (by decide)).trans H0) rfl rfl (ev_X11_wetOf ((mj_up_ne (by decide)).trans H0) ((mj_up_ne (by decide)).trans HT) (mj_up_eq _ _ _) bT bT.2.2.2.2.2.1 (by omega)) dX11_votes_47 rfl rfl rfl rfl rfl ?_
  have hb3 := @sp_mw_lt T (fun q => T (4 + q)) (sp_my T (fun q => T (4 + q)) (T (55 + ((T 29) % 7))) (T 0)) (T 0) (by omega)
  refine gj_goto (tgt := 66) dX11_votes_50 rfl ?_
  exact gj_ir rfl dX11_votes_66 rfl rfl rfl
set_option maxHeartbeats 1000000 in
set_option maxRecDepth 10000 in
theorem ev_X11_votes_1 {E : mj_E} {h : mj_H} {a0 a1 y2 y3 y4 y5 y6 : Nat} (H0 : h 100 = some (mj_mo a0 a1 y2 y3 y4 y5 y6)) {T : Nat → Nat} (HT : h 101 = some (mj_ar 362 T)) {J : Nat → Nat} (HJ : h 105 = some (mj_ar 25 J)) (bT : mj_Tb T)  : mj_Ev E iX11_votes [.ref 100, .int (nI 1)] h (mj_R (some (.int (nI (if sp_mc T (sp_my T (fun q => T (4 + q)) (T (55 + T 29 % 7)) (T 0)) then 1 else 0)))) (mj_up h 105 (mj_ar 25 (fun q => T (4 + q))))) := by
  refine mj_Ev.of (L0 := [some (.ref 100), some (.int (nI 1)), none]) pnRX11 (Nat.le_of_ble_eq_true rfl) rfl ?_
  have hb0 := bT.1
  have hY : (sp_my T (fun q => T (4 + q)) (T (55 + T 29 % 7)) (T 0)) < 128 := sp_my_lt hb0
  refine gj_iload_n dX11_votes_0 rfl ?_
  refine gj_i2lN (by omega) dX11_votes_1 ?_
  refine gj_lconst (v := lN 0) dX11_votes_2 rfl ?_
  refine gj_ldc2 (v := lN 2) w_1154 dX11_votes_3 ?_
  refine gj_S1 lkX11_50 (ev_X11_in_t (by omega) (by omega) (by omega)) dX11_votes_6 rfl rfl rfl rfl rfl ?_
  refine gj_if_neN (tgt := 19) (by omega) dX11_votes_9 rfl (fun zq0 => ?_) (fun zq0 => ?_)
  rotate_left
  · exfalso; revert zq0; decide
  refine gj_aload_n dX11_votes_19 rfl ?_
  refine gj_V0 lkX11_124 H0 rfl rfl (ev_X11_layIce H0 HT HJ bT) dX11_votes_20 rfl rfl rfl rfl rfl ?_
  refine gj_aload_n dX11_votes_23 rfl ?_
  refine gj_aload_n dX11_votes_24 rfl ?_
  refine gj_V1 lkX11_149 ((mj_up_ne (by decide)).trans H0) rfl rfl (ev_X11_frostNow ((mj_up_ne (by decide)).trans H0) ((mj_up_ne (by decide)).trans HT) bT) dX11_votes_25 rfl rfl rfl rfl rfl ?_
  have hb1 := bT.2.2.2.2.2.2.2.1 (T 29 % 7) (by omega)
  refine gj_V1 lkX11_193 ((mj_up_ne (by decide)).trans H0) rfl rfl (ev_X11_yesOf ((mj_up_ne (by decide)).trans H0) ((mj_up_ne (by decide)).trans HT) (mj_up_eq _ _ _) bT bT.2.2.2.2.2.1 (by omega)) dX11_votes_28 rfl rfl rfl rfl rfl ?_
  have hb2 := @sp_my_lt T (fun q => T (4 + q)) (T (55 + ((T 29) % 7))) (T 0) (by omega)
  refine gj_istore_n (L' := [some (.ref 100), some (.int (nI 1)), some (.int (nI (sp_my T (fun q => T (4 + q)) (T (55 + ((T 29) % 7))) (T 0))))]) dX11_votes_31 (Nat.le_of_ble_eq_true rfl) rfl ?_
  refine gj_iload_n dX11_votes_32 rfl ?_
  refine gj_if_neN (tgt := 40) (by omega) dX11_votes_33 rfl (fun zq0 => ?_) (fun zq0 => ?_)
  rotate_left
  · exfalso; revert zq0; decide
  refine gj_iload_n dX11_votes_40 rfl ?_
  refine gj_ic (w := 2) dX11_votes_41 ?_
  refine gj_icmp_neN (tgt := 53) (by omega) (by omega) dX11_votes_42 rfl (fun zq0 => ?_) (fun zq0 => ?_)
  rotate_left
  · exfalso; omega
  refine gj_aload_n dX11_votes_53 rfl ?_
  refine gj_iload_n dX11_votes_54 rfl ?_
  refine gj_V1 lkX11_187 ((mj_up_ne (by decide)).trans H0) rfl rfl (ev_X11_isCarried ((mj_up_ne (by decide)).trans H0) ((mj_up_ne (by decide)).trans HT) bT (by omega)) dX11_votes_55 rfl rfl rfl rfl rfl ?_
  refine gj_if_eqb (tgt := 65) dX11_votes_58 rfl (fun zq3 => ?_) (fun zq3 => ?_)
  · -- 58 taken
    have hw9 := zq3
    refine gj_ic (w := 0) dX11_votes_65 ?_
    exact gj_ir rfl dX11_votes_66 rfl (congrArg nI (by simp [hw9])) rfl
  have hw9 := zq3
  refine gj_ic (w := 1) dX11_votes_61 ?_
  refine gj_goto (tgt := 66) dX11_votes_62 rfl ?_
  exact gj_ir rfl dX11_votes_66 rfl (congrArg nI (by simp [hw9])) rfl
set_option maxHeartbeats 1000000 in
set_option maxRecDepth 10000 in
theorem ev_X11_turn {E : mj_E} {h : mj_H} {a0 a1 y2 y3 y4 y5 y6 : Nat} (H0 : h 100 = some (mj_mo a0 a1 y2 y3 y4 y5 y6)) {T : Nat → Nat} (HT : h 101 = some (mj_ar 362 T)) {J : Nat → Nat} (HJ : h 105 = some (mj_ar 25 J)) (bT : mj_Tb T)  : mj_Ev E iX11_turn [.ref 100] h (mj_R (some (.int (nI (sp_turn (fun v => T (80 + v)) (T 0) (sp_my T (fun q => T (4 + q)) (T (55 + T 29 % 7)) (T 0)) (1 <<< T 0))))) (mj_up h 105 (mj_ar 25 (fun q => T (4 + q))))) := by
  refine mj_Ev.of (L0 := [some (.ref 100), none, none, none, none]) pnRX11 (Nat.le_of_ble_eq_true rfl) rfl ?_
  have hb0 := bT.1
  have hY : (sp_my T (fun q => T (4 + q)) (T (55 + T 29 % 7)) (T 0)) < 128 := sp_my_lt hb0
  have hZ := mj_sets_le hb0
  refine gj_aload_n dX11_turn_0 rfl ?_
  refine gj_V0 lkX11_124 H0 rfl rfl (ev_X11_layIce H0 HT HJ bT) dX11_turn_1 rfl rfl rfl rfl rfl ?_
  refine gj_aload_n dX11_turn_4 rfl ?_
  refine gj_aload_n dX11_turn_5 rfl ?_
  refine gj_V1 lkX11_149 ((mj_up_ne (by decide)).trans H0) rfl rfl (ev_X11_frostNow ((mj_up_ne (by decide)).trans H0) ((mj_up_ne (by decide)).trans HT) bT) dX11_turn_6 rfl rfl rfl rfl rfl ?_
  have hb1 := bT.2.2.2.2.2.2.2.1 (T 29 % 7) (by omega)
  refine gj_V1 lkX11_193 ((mj_up_ne (by decide)).trans H0) rfl rfl (ev_X11_yesOf ((mj_up_ne (by decide)).trans H0) ((mj_up_ne (by decide)).trans HT) (mj_up_eq _ _ _) bT bT.2.2.2.2.2.1 (by omega)) dX11_turn_9 rfl rfl rfl rfl rfl ?_
  have hb2 := @sp_my_lt T (fun q => T (4 + q)) (T (55 + ((T 29) % 7))) (T 0) (by omega)
  refine gj_istore_n (L' := [some (.ref 100), some (.int (nI (sp_my T (fun q => T (4 + q)) (T (55 + ((T 29) % 7))) (T 0)))), none, none, none]) dX11_turn_12 (Nat.le_of_ble_eq_true rfl) rfl ?_
  refine gj_iconst (v := (-1)) dX11_turn_13 (by decide) ?_
  refine gj_top (y := nI 4294967295) (by decide) ?_
  refine gj_istore_n (L' := [some (.ref 100), some (.int (nI (sp_my T (fun q => T (4 + q)) (T (55 + ((T 29) % 7))) (T 0)))), some (.int (nI 4294967295)), none, none]) dX11_turn_14 (Nat.le_of_ble_eq_true rfl) rfl ?_
  refine gj_ic (w := 0) dX11_turn_15 ?_
  refine gj_istore_n (L' := [some (.ref 100), some (.int (nI (sp_my T (fun q => T (4 + q)) (T (55 + ((T 29) % 7))) (T 0)))), some (.int (nI 4294967295)), some (.int (nI 0)), none]) dX11_turn_16 (Nat.le_of_ble_eq_true rfl) rfl ?_
  refine gj_cast (L' := [some (.ref 100), some (.int (nI (sp_my T (fun q => T (4 + q)) (T (55 + T 29 % 7)) (T 0)))), some (.int (nI (sp_turn (fun v => T (80 + v)) (T 0) (sp_my T (fun q => T (4 + q)) (T (55 + T 29 % 7)) (T 0)) 0))), some (.int (nI 0)), none]) (st' := []) (h' := mj_up h 105 (mj_ar 25 (fun q => T (4 + q)))) rfl rfl rfl ?_
  refine gj_loop (fun j => [some (.ref 100), some (.int (nI (sp_my T (fun q => T (4 + q)) (T (55 + T 29 % 7)) (T 0)))), some (.int (nI (sp_turn (fun v => T (80 + v)) (T 0) (sp_my T (fun q => T (4 + q)) (T (55 + T 29 % 7)) (T 0)) j))), some (.int (nI j)), none]) (fun j => mj_up h 105 (mj_ar 25 (fun q => T (4 + q)))) (1 <<< T 0) ?_ (fun j hj ih => ?_) 0 (by omega)
  · show gj _ _ _ _ _ _ [some (.ref 100), some (.int (nI (sp_my T (fun q => T (4 + q)) (T (55 + T 29 % 7)) (T 0)))), some (.int (nI (sp_turn (fun v => T (80 + v)) (T 0) (sp_my T (fun q => T (4 + q)) (T (55 + T 29 % 7)) (T 0)) (1 <<< T 0)))), some (.int (nI (1 <<< T 0))), none] _ _
    refine gj_iload_n dX11_turn_17 rfl ?_
    refine gj_ic (w := 1) dX11_turn_18 ?_
    refine gj_aload_n dX11_turn_19 rfl ?_
    refine gj_V1 lkX11_46 ((mj_up_ne (by decide)).trans H0) rfl rfl (ev_X11_many ((mj_up_ne (by decide)).trans H0) ((mj_up_ne (by decide)).trans HT)) dX11_turn_20 rfl rfl rfl rfl rfl ?_
    refine gj_ishlN (by omega) dX11_turn_23 ?_
    refine gj_icmp_geN (tgt := 82) (by omega) (by omega) dX11_turn_24 rfl (fun zq3 => ?_) (fun zq3 => ?_)
    rotate_left
    · exfalso; omega
    refine gj_iload_n dX11_turn_82 rfl ?_
    exact gj_ir rfl dX11_turn_83 rfl rfl rfl
  show gj _ _ _ _ _ _ [some (.ref 100), some (.int (nI (sp_my T (fun q => T (4 + q)) (T (55 + T 29 % 7)) (T 0)))), some (.int (nI (sp_turn (fun v => T (80 + v)) (T 0) (sp_my T (fun q => T (4 + q)) (T (55 + T 29 % 7)) (T 0)) j))), some (.int (nI j)), none] _ _
  refine gj_iload_n dX11_turn_17 rfl ?_
  refine gj_ic (w := 1) dX11_turn_18 ?_
  refine gj_aload_n dX11_turn_19 rfl ?_
  refine gj_V1 lkX11_46 ((mj_up_ne (by decide)).trans H0) rfl rfl (ev_X11_many ((mj_up_ne (by decide)).trans H0) ((mj_up_ne (by decide)).trans HT)) dX11_turn_20 rfl rfl rfl rfl rfl ?_
  refine gj_ishlN (by omega) dX11_turn_23 ?_
  refine gj_icmp_geN (tgt := 82) (by omega) (by omega) dX11_turn_24 rfl (fun zq4 => ?_) (fun zq4 => ?_)
  · exfalso; omega
  have ht9 := @sp_turn_or (fun v => T (80 + v)) (T 0) (sp_my T (fun q => T (4 + q)) (T (55 + T 29 % 7)) (T 0)) j
  refine gj_iload_n dX11_turn_27 rfl ?_
  refine gj_iconst (v := (-1)) dX11_turn_28 (by decide) ?_
  refine gj_top (y := nI 4294967295) (by decide) ?_
  refine gj_icmp_eqW (tgt := 43) (by omega) (by omega) dX11_turn_29 rfl (fun zq5 => ?_) (fun zq5 => ?_)
  · -- 29 taken
    refine gj_ic (w := 1) dX11_turn_43 ?_
    refine gj_goto (tgt := 48) dX11_turn_44 rfl ?_
    refine gj_istore (L' := [some (.ref 100), some (.int (nI (sp_my T (fun q => T (4 + q)) (T (55 + T 29 % 7)) (T 0)))), some (.int (nI (sp_turn (fun v => T (80 + v)) (T 0) (sp_my T (fun q => T (4 + q)) (T (55 + T 29 % 7)) (T 0)) j))), some (.int (nI j)), some (.int (nI 1))]) dX11_turn_48 (Nat.le_of_ble_eq_true rfl) rfl ?_
    refine gj_iload dX11_turn_50 rfl ?_
    refine gj_if_eqN (tgt := 74) (by omega) dX11_turn_52 rfl (fun zq0 => ?_) (fun zq0 => ?_)
    · exfalso; revert zq0; decide
    refine gj_aload_n dX11_turn_55 rfl ?_
    refine gj_iload_n dX11_turn_56 rfl ?_
    refine gj_iload_n dX11_turn_57 rfl ?_
    refine gj_ixorN  dX11_turn_58 ?_
    refine gj_V1 lkX11_187 ((mj_up_ne (by decide)).trans H0) rfl rfl (ev_X11_isCarried ((mj_up_ne (by decide)).trans H0) ((mj_up_ne (by decide)).trans HT) bT (Nat.xor_lt_two_pow (n := 7) hY (by omega))) dX11_turn_59 rfl rfl rfl rfl rfl ?_
    refine gj_aload_n dX11_turn_62 rfl ?_
    refine gj_iload_n dX11_turn_63 rfl ?_
    refine gj_V1 lkX11_187 ((mj_up_ne (by decide)).trans H0) rfl rfl (ev_X11_isCarried ((mj_up_ne (by decide)).trans H0) ((mj_up_ne (by decide)).trans HT) bT hY) dX11_turn_64 rfl rfl rfl rfl rfl ?_
    refine gj_icmp_eq (tgt := 74) dX11_turn_67 rfl (fun zq6 => ?_) (fun zq6 => ?_)
    · -- 67 taken
      have hw8 : sp_car (fun v => T (80 + v)) (T 0) ((sp_my T (fun q => T (4 + q)) (T (55 + T 29 % 7)) (T 0)) ^^^ j) = sp_car (fun v => T (80 + v)) (T 0) (sp_my T (fun q => T (4 + q)) (T (55 + T 29 % 7)) (T 0)) := mj_b_inj.mp zq6
      refine gj_iload_n dX11_turn_74 rfl ?_
      refine gj_istore_n (L' := [some (.ref 100), some (.int (nI (sp_my T (fun q => T (4 + q)) (T (55 + T 29 % 7)) (T 0)))), some (.int (nI (sp_turn (fun v => T (80 + v)) (T 0) (sp_my T (fun q => T (4 + q)) (T (55 + T 29 % 7)) (T 0)) j))), some (.int (nI j)), some (.int (nI 1))]) dX11_turn_75 (Nat.le_of_ble_eq_true rfl) rfl ?_
      refine gj_iincN (L' := [some (.ref 100), some (.int (nI (sp_my T (fun q => T (4 + q)) (T (55 + T 29 % 7)) (T 0)))), some (.int (nI (sp_turn (fun v => T (80 + v)) (T 0) (sp_my T (fun q => T (4 + q)) (T (55 + T 29 % 7)) (T 0)) j))), some (.int (nI (j + 1))), some (.int (nI 1))]) dX11_turn_76 rfl (Nat.le_of_ble_eq_true rfl) rfl ?_
      refine gj_goto (tgt := 17) dX11_turn_79 rfl ?_
      refine gj_forget (i := 4) (L' := [some (.ref 100), some (.int (nI (sp_my T (fun q => T (4 + q)) (T (55 + T 29 % 7)) (T 0)))), some (.int (nI (sp_turn (fun v => T (80 + v)) (T 0) (sp_my T (fun q => T (4 + q)) (T (55 + T 29 % 7)) (T 0)) j))), some (.int (nI (j + 1))), none]) rfl ?_
      exact gj_cast (by rw [sp_turn_s]; unfold sp_tst; first | rw [if_pos (by omega), if_pos hw8] | rw [if_pos (by omega), if_neg hw8] | rw [if_neg (by omega)]) rfl rfl ih
    have hw8 : ¬ sp_car (fun v => T (80 + v)) (T 0) ((sp_my T (fun q => T (4 + q)) (T (55 + T 29 % 7)) (T 0)) ^^^ j) = sp_car (fun v => T (80 + v)) (T 0) (sp_my T (fun q => T (4 + q)) (T (55 + T 29 % 7)) (T 0)) := fun q => zq6 (mj_b_inj.mpr q)
    refine gj_iload_n dX11_turn_70 rfl ?_
    refine gj_goto (tgt := 75) dX11_turn_71 rfl ?_
    refine gj_istore_n (L' := [some (.ref 100), some (.int (nI (sp_my T (fun q => T (4 + q)) (T (55 + T 29 % 7)) (T 0)))), some (.int (nI j)), some (.int (nI j)), some (.int (nI 1))]) dX11_turn_75 (Nat.le_of_ble_eq_true rfl) rfl ?_
    refine gj_iincN (L' := [some (.ref 100), some (.int (nI (sp_my T (fun q => T (4 + q)) (T (55 + T 29 % 7)) (T 0)))), some (.int (nI j)), some (.int (nI (j + 1))), some (.int (nI 1))]) dX11_turn_76 rfl (Nat.le_of_ble_eq_true rfl) rfl ?_
    refine gj_goto (tgt := 17) dX11_turn_79 rfl ?_
    refine gj_forget (i := 4) (L' := [some (.ref 100), some (.int (nI (sp_my T (fun q => T (4 + q)) (T (55 + T 29 % 7)) (T 0)))), some (.int (nI j)), some (.int (nI (j + 1))), none]) rfl ?_
    exact gj_cast (by rw [sp_turn_s]; unfold sp_tst; first | rw [if_pos (by omega), if_pos hw8] | rw [if_pos (by omega), if_neg hw8] | rw [if_neg (by omega)]) rfl rfl ih
  refine gj_iload_n dX11_turn_32 rfl ?_
  refine gj_S1 lkX11_181 (ev_X11_bits (by omega)) dX11_turn_33 rfl rfl rfl rfl rfl ?_
  have hb7 := @sp_pop_le j
  refine gj_iload_n dX11_turn_36 rfl ?_
  refine gj_S1 lkX11_181 (ev_X11_bits (by omega)) dX11_turn_37 rfl rfl rfl rfl rfl ?_
  have hb8 := @sp_pop_le (sp_turn (fun v => T (80 + v)) (T 0) (sp_my T (fun q => T (4 + q)) (T (55 + T 29 % 7)) (T 0)) j)
  refine gj_icmp_geN (tgt := 47) (by omega) (by omega) dX11_turn_40 rfl (fun zq9 => ?_) (fun zq9 => ?_)
  · -- 40 taken
    refine gj_ic (w := 0) dX11_turn_47 ?_
    refine gj_istore (L' := [some (.ref 100), some (.int (nI (sp_my T (fun q => T (4 + q)) (T (55 + T 29 % 7)) (T 0)))), some (.int (nI (sp_turn (fun v => T (80 + v)) (T 0) (sp_my T (fun q => T (4 + q)) (T (55 + T 29 % 7)) (T 0)) j))), some (.int (nI j)), some (.int (nI 0))]) dX11_turn_48 (Nat.le_of_ble_eq_true rfl) rfl ?_
    refine gj_iload dX11_turn_50 rfl ?_
    refine gj_if_eqN (tgt := 74) (by omega) dX11_turn_52 rfl (fun zq0 => ?_) (fun zq0 => ?_)
    rotate_left
    · exfalso; revert zq0; decide
    refine gj_iload_n dX11_turn_74 rfl ?_
    refine gj_istore_n (L' := [some (.ref 100), some (.int (nI (sp_my T (fun q => T (4 + q)) (T (55 + T 29 % 7)) (T 0)))), some (.int (nI (sp_turn (fun v => T (80 + v)) (T 0) (sp_my T (fun q => T (4 + q)) (T (55 + T 29 % 7)) (T 0)) j))), some (.int (nI j)), some (.int (nI 0))]) dX11_turn_75 (Nat.le_of_ble_eq_true rfl) rfl ?_
    refine gj_iincN (L' := [some (.ref 100), some (.int (nI (sp_my T (fun q => T (4 + q)) (T (55 + T 29 % 7)) (T 0)))), some (.int (nI (sp_turn (fun v => T (80 + v)) (T 0) (sp_my T (fun q => T (4 + q)) (T (55 + T 29 % 7)) (T 0)) j))), some (.int (nI (j + 1))), some (.int (nI 0))]) dX11_turn_76 rfl (Nat.le_of_ble_eq_true rfl) rfl ?_
    refine gj_goto (tgt := 17) dX11_turn_79 rfl ?_
    refine gj_forget (i := 4) (L' := [some (.ref 100), some (.int (nI (sp_my T (fun q => T (4 + q)) (T (55 + T 29 % 7)) (T 0)))), some (.int (nI (sp_turn (fun v => T (80 + v)) (T 0) (sp_my T (fun q => T (4 + q)) (T (55 + T 29 % 7)) (T 0)) j))), some (.int (nI (j + 1))), none]) rfl ?_
    exact gj_cast (by rw [sp_turn_s]; unfold sp_tst; first | rw [if_pos (by omega), if_pos hw8] | rw [if_pos (by omega), if_neg hw8] | rw [if_neg (by omega)]) rfl rfl ih
  refine gj_ic (w := 1) dX11_turn_43 ?_
  refine gj_goto (tgt := 48) dX11_turn_44 rfl ?_
  refine gj_istore (L' := [some (.ref 100), some (.int (nI (sp_my T (fun q => T (4 + q)) (T (55 + T 29 % 7)) (T 0)))), some (.int (nI (sp_turn (fun v => T (80 + v)) (T 0) (sp_my T (fun q => T (4 + q)) (T (55 + T 29 % 7)) (T 0)) j))), some (.int (nI j)), some (.int (nI 1))]) dX11_turn_48 (Nat.le_of_ble_eq_true rfl) rfl ?_
  refine gj_iload dX11_turn_50 rfl ?_
  refine gj_if_eqN (tgt := 74) (by omega) dX11_turn_52 rfl (fun zq0 => ?_) (fun zq0 => ?_)
  · exfalso; revert zq0; decide
  refine gj_aload_n dX11_turn_55 rfl ?_
  refine gj_iload_n dX11_turn_56 rfl ?_
  refine gj_iload_n dX11_turn_57 rfl ?_
  refine gj_ixorN  dX11_turn_58 ?_
  refine gj_V1 lkX11_187 ((mj_up_ne (by decide)).trans H0) rfl rfl (ev_X11_isCarried ((mj_up_ne (by decide)).trans H0) ((mj_up_ne (by decide)).trans HT) bT (Nat.xor_lt_two_pow (n := 7) hY (by omega))) dX11_turn_59 rfl rfl rfl rfl rfl ?_
  refine gj_aload_n dX11_turn_62 rfl ?_
  refine gj_iload_n dX11_turn_63 rfl ?_
  refine gj_V1 lkX11_187 ((mj_up_ne (by decide)).trans H0) rfl rfl (ev_X11_isCarried ((mj_up_ne (by decide)).trans H0) ((mj_up_ne (by decide)).trans HT) bT hY) dX11_turn_64 rfl rfl rfl rfl rfl ?_
  refine gj_icmp_eq (tgt := 74) dX11_turn_67 rfl (fun zq10 => ?_) (fun zq10 => ?_)
  · -- 67 taken
    have hw8 : sp_car (fun v => T (80 + v)) (T 0) ((sp_my T (fun q => T (4 + q)) (T (55 + T 29 % 7)) (T 0)) ^^^ j) = sp_car (fun v => T (80 + v)) (T 0) (sp_my T (fun q => T (4 + q)) (T (55 + T 29 % 7)) (T 0)) := mj_b_inj.mp zq10
    refine gj_iload_n dX11_turn_74 rfl ?_
    refine gj_istore_n (L' := [some (.ref 100), some (.int (nI (sp_my T (fun q => T (4 + q)) (T (55 + T 29 % 7)) (T 0)))), some (.int (nI (sp_turn (fun v => T (80 + v)) (T 0) (sp_my T (fun q => T (4 + q)) (T (55 + T 29 % 7)) (T 0)) j))), some (.int (nI j)), some (.int (nI 1))]) dX11_turn_75 (Nat.le_of_ble_eq_true rfl) rfl ?_
    refine gj_iincN (L' := [some (.ref 100), some (.int (nI (sp_my T (fun q => T (4 + q)) (T (55 + T 29 % 7)) (T 0)))), some (.int (nI (sp_turn (fun v => T (80 + v)) (T 0) (sp_my T (fun q => T (4 + q)) (T (55 + T 29 % 7)) (T 0)) j))), some (.int (nI (j + 1))), some (.int (nI 1))]) dX11_turn_76 rfl (Nat.le_of_ble_eq_true rfl) rfl ?_
    refine gj_goto (tgt := 17) dX11_turn_79 rfl ?_
    refine gj_forget (i := 4) (L' := [some (.ref 100), some (.int (nI (sp_my T (fun q => T (4 + q)) (T (55 + T 29 % 7)) (T 0)))), some (.int (nI (sp_turn (fun v => T (80 + v)) (T 0) (sp_my T (fun q => T (4 + q)) (T (55 + T 29 % 7)) (T 0)) j))), some (.int (nI (j + 1))), none]) rfl ?_
    exact gj_cast (by rw [sp_turn_s]; unfold sp_tst; first | rw [if_pos (by omega), if_pos hw8] | rw [if_pos (by omega), if_neg hw8] | rw [if_neg (by omega)]) rfl rfl ih
  have hw8 : ¬ sp_car (fun v => T (80 + v)) (T 0) ((sp_my T (fun q => T (4 + q)) (T (55 + T 29 % 7)) (T 0)) ^^^ j) = sp_car (fun v => T (80 + v)) (T 0) (sp_my T (fun q => T (4 + q)) (T (55 + T 29 % 7)) (T 0)) := fun q => zq10 (mj_b_inj.mpr q)
  refine gj_iload_n dX11_turn_70 rfl ?_
  refine gj_goto (tgt := 75) dX11_turn_71 rfl ?_
  refine gj_istore_n (L' := [some (.ref 100), some (.int (nI (sp_my T (fun q => T (4 + q)) (T (55 + T 29 % 7)) (T 0)))), some (.int (nI j)), some (.int (nI j)), some (.int (nI 1))]) dX11_turn_75 (Nat.le_of_ble_eq_true rfl) rfl ?_
  refine gj_iincN (L' := [some (.ref 100), some (.int (nI (sp_my T (fun q => T (4 + q)) (T (55 + T 29 % 7)) (T 0)))), some (.int (nI j)), some (.int (nI (j + 1))), some (.int (nI 1))]) dX11_turn_76 rfl (Nat.le_of_ble_eq_true rfl) rfl ?_
  refine gj_goto (tgt := 17) dX11_turn_79 rfl ?_
  refine gj_forget (i := 4) (L' := [some (.ref 100), some (.int (nI (sp_my T (fun q => T (4 + q)) (T (55 + T 29 % 7)) (T 0)))), some (.int (nI j)), some (.int (nI (j + 1))), none]) rfl ?_
  exact gj_cast (by rw [sp_turn_s]; unfold sp_tst; first | rw [if_pos (by omega), if_pos hw8] | rw [if_pos (by omega), if_neg hw8] | rw [if_neg (by omega)]) rfl rfl ih
