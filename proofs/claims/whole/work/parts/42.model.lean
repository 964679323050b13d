set_option maxHeartbeats 1000000 in
set_option maxRecDepth 10000 in
theorem ev_X11_isParted {E : mj_E} {h : mj_H} {a0 a1 y2 y3 y4 y5 y6 : Nat} (H0 : h 100 = some (mj_mo a0 a1 y2 y3 y4 y5 y6)) {T : Nat → Nat} (HT : h 101 = some (mj_ar 362 T)) {J : Nat → Nat} (HJ : h 105 = some (mj_ar 25 J)) {F : Nat → Nat} (HF : h 106 = some (mj_ar 25 F)) (bT : mj_Tb T) (bJ : ∀ q, q < 25 → J q ≤ 99) {w a c o : Nat} (h0 : w ≤ 198) (h1 : a < 25) (h2 : c < 25) (h3 : o < 2 ^ 25) : mj_Ev E iX11_isParted [.ref 100, .int (nI w), .int (nI a), .int (nI c), .int (nI o)] h (mj_R (some (.int (mj_b (decide (1000000 ≤ sp_lay T J w o c a))))) (mj_up h 106 (mj_ar 25 (sp_lay T J w o c)))) := by
  refine mj_Ev.of (L0 := [some (.ref 100), some (.int (nI w)), some (.int (nI a)), some (.int (nI c)), some (.int (nI o))]) pnRX11 (Nat.le_of_ble_eq_true rfl) rfl ?_
  refine gj_aload_n dX11_isParted_0 rfl ?_
  refine gj_iload_n dX11_isParted_1 rfl ?_
  refine gj_iload_n dX11_isParted_2 rfl ?_
  refine gj_iload dX11_isParted_3 rfl ?_
  refine gj_V0 lkX11_167 H0 rfl rfl (ev_X11_layFar H0 HT HJ HF bT bJ (by omega) (by omega) (by omega)) dX11_isParted_5 rfl rfl rfl rfl rfl ?_
  refine gj_aload_n dX11_isParted_8 rfl ?_
  refine gfX11_30 rfl dX11_isParted_9 ((mj_up_ne (by decide)).trans H0) rfl ?_
  have hl9 := @sp_lay_le T J w o c a
  refine gj_iload_n dX11_isParted_12 rfl ?_
  refine gj_ialdN dX11_isParted_13 (mj_up_eq _ _ _) (by omega) (by omega) ?_
  refine gj_ldc (v := nI 1000000) w_1179 dX11_isParted_14 ?_
  refine gj_icmp_ltN (tgt := 23) (by omega) (by omega) dX11_isParted_16 rfl (fun zq1 => ?_) (fun zq1 => ?_)
  · -- 16 taken
    refine gj_ic (w := 0) dX11_isParted_23 ?_
    exact gj_zr rfl dX11_isParted_24 rfl (mj_b0 (by first | exact decide_eq_true (by omega) | exact decide_eq_false (by omega))) rfl
  refine gj_ic (w := 1) dX11_isParted_19 ?_
  refine gj_goto (tgt := 24) dX11_isParted_20 rfl ?_
  exact gj_zr rfl dX11_isParted_24 rfl (mj_b1 (by first | exact decide_eq_true (by omega) | exact decide_eq_false (by omega))) rfl
theorem ly_dec {a : Nat} (h : 0 < a) (h2 : a < 2 ^ 31) : nI a + Int32.ofInt (-1) = nI (a - 1) := by
  refine Int32.toInt_inj.mp ?_
  rw [Int32.toInt_add, nI_toInt h2, nI_toInt (by omega), show (Int32.ofInt (-1)).toInt = -1 from rfl]
  exact (Int.bmod_eq_of_le (by omega) (by omega)).trans (by omega)
def sp_nxp (F : Nat → Nat) (c : Nat) : Nat → Bool := fun x => sp_abs x c && decide (F x = F c - 1)
theorem sp_nxp_b {F : Nat → Nat} {c x : Nat} (h : sp_abs x c = false) : sp_nxp F c x = false := by unfold sp_nxp; rw [h]; rfl
theorem sp_nxp_f {F : Nat → Nat} {c x : Nat} (h : ¬ F x = F c - 1) : sp_nxp F c x = false := by unfold sp_nxp; rw [decide_eq_false h, Bool.and_false]
theorem sp_nxp_t {F : Nat → Nat} {c x : Nat} (h : sp_abs x c = true) (h2 : F x = F c - 1) : sp_nxp F c x = true := by unfold sp_nxp; rw [h, decide_eq_true h2]; rfl
/-- the row far of safe behind j tries -/
def sp_sfF (T J F : Nat → Nat) (c : Nat) : Nat → Nat → Nat
  | 0 => F
  | j + 1 => sp_lay T J (198 - j) 0 c
def sp_sfp (T J : Nat → Nat) (a c : Nat) : Nat → Bool := fun j => decide (sp_lay T J (198 - j) 0 c a < 1000000)
set_option maxHeartbeats 1000000 in
set_option maxRecDepth 10000 in
theorem ev_X11_nextOf {E : mj_E} {h : mj_H} {a0 a1 y2 y3 y4 y5 y6 : Nat} (H0 : h 100 = some (mj_mo a0 a1 y2 y3 y4 y5 y6)) {F : Nat → Nat} (HF : h 106 = some (mj_ar 25 F)) {c : Nat} (h0 : c < 25) (h1 : ∀ q, q < 25 → F q ≤ 1000000) (h2 : 1 ≤ F c) (h3 : sp_fst (sp_nxp F c) 25 < 25) : mj_Ev E iX11_nextOf [.ref 100, .int (nI c)] h (mj_R (some (.int (nI (sp_fst (sp_nxp F c) 25)))) h) := by
  refine mj_Ev.of (L0 := [some (.ref 100), some (.int (nI c)), none]) pnRX11 (Nat.le_of_ble_eq_true rfl) rfl ?_
  refine gj_ic (w := 0) dX11_nextOf_0 ?_
  refine gj_istore_n (L' := [some (.ref 100), some (.int (nI c)), some (.int (nI 0))]) dX11_nextOf_1 (Nat.le_of_ble_eq_true rfl) rfl ?_
  refine gj_cast (L' := [some (.ref 100), some (.int (nI c)), some (.int (nI 0))]) (st' := []) (h' := h) rfl rfl rfl ?_
  refine gj_loopI (fun j => ∀ i, i < j → (sp_nxp F c) i = false) (fun j => [some (.ref 100), some (.int (nI c)), some (.int (nI j))]) (fun j => h) 25 (fun hq => ?_) (fun j hj hq ih => ?_) 0 (Nat.zero_le _) (fun i hi => absurd hi (Nat.not_lt_zero _))
  · show gj _ _ _ _ _ _ [some (.ref 100), some (.int (nI c)), some (.int (nI 25))] _ _
    exact absurd (sp_fst_none hq) (by omega)
  show gj _ _ _ _ _ _ [some (.ref 100), some (.int (nI c)), some (.int (nI j))] _ _
  refine gj_iload_n dX11_nextOf_2 rfl ?_
  refine gj_iload_n dX11_nextOf_3 rfl ?_
  refine gj_S1 lkX11_112 (ev_X11_areBeside (by omega) (by omega)) dX11_nextOf_4 rfl rfl rfl rfl rfl ?_
  refine gj_if_eqb (tgt := 27) dX11_nextOf_7 rfl (fun zq1 => ?_) (fun zq1 => ?_)
  · -- 7 taken
    have hn9 : (sp_nxp F c) j = false := sp_nxp_b zq1
    refine gj_iincN (L' := [some (.ref 100), some (.int (nI c)), some (.int (nI (j + 1)))]) dX11_nextOf_27 rfl (Nat.le_of_ble_eq_true rfl) rfl ?_
    refine gj_goto (tgt := 2) dX11_nextOf_30 rfl ?_
    exact (ih (fun i hi => by by_cases q : i = j <;> first | (subst q; exact hn9) | exact hq i (by omega)))
  have hb9 := zq1
  have hf8 := h1 j hj
  have hf7 := h1 c h0
  refine gj_aload_n dX11_nextOf_10 rfl ?_
  refine gfX11_30 rfl dX11_nextOf_11 H0 rfl ?_
  refine gj_iload_n dX11_nextOf_14 rfl ?_
  refine gj_ialdN dX11_nextOf_15 HF (by omega) (by omega) ?_
  refine gj_aload_n dX11_nextOf_16 rfl ?_
  refine gfX11_30 rfl dX11_nextOf_17 H0 rfl ?_
  refine gj_iload_n dX11_nextOf_20 rfl ?_
  refine gj_ialdN dX11_nextOf_21 HF (by omega) (by omega) ?_
  refine gj_ic (w := 1) dX11_nextOf_22 ?_
  refine gj_isubN (by omega) dX11_nextOf_23 ?_
  refine gj_icmp_eqN (tgt := 33) (by omega) (by omega) dX11_nextOf_24 rfl (fun zq2 => ?_) (fun zq2 => ?_)
  · -- 24 taken
    have hp9 : sp_fst (sp_nxp F c) 25 = j := sp_fst_at hj (sp_nxp_t hb9 zq2) hq
    refine gj_iload_n dX11_nextOf_33 rfl ?_
    exact gj_ir rfl dX11_nextOf_34 rfl (congrArg nI (by omega)) rfl
  have hn9 : (sp_nxp F c) j = false := sp_nxp_f zq2
  refine gj_iincN (L' := [some (.ref 100), some (.int (nI c)), some (.int (nI (j + 1)))]) dX11_nextOf_27 rfl (Nat.le_of_ble_eq_true rfl) rfl ?_
  refine gj_goto (tgt := 2) dX11_nextOf_30 rfl ?_
  exact (ih (fun i hi => by by_cases q : i = j <;> first | (subst q; exact hn9) | exact hq i (by omega)))
set_option maxHeartbeats 1000000 in
set_option maxRecDepth 10000 in
theorem ev_X11_safe {E : mj_E} {h : mj_H} {a0 a1 y2 y3 y4 y5 y6 : Nat} (H0 : h 100 = some (mj_mo a0 a1 y2 y3 y4 y5 y6)) {T : Nat → Nat} (HT : h 101 = some (mj_ar 362 T)) {J : Nat → Nat} (HJ : h 105 = some (mj_ar 25 J)) {F : Nat → Nat} (HF : h 106 = some (mj_ar 25 F)) (bT : mj_Tb T) {a c : Nat} (h0 : a < 25) (h1 : c < 25) : mj_Ev E iX11_safe [.ref 100, .int (nI a), .int (nI c)] h (mj_R (some (.int (nI (198 - sp_fst (sp_sfp T (fun q => T (4 + q)) a c) 198)))) (mj_up (mj_up h 105 (mj_ar 25 (fun q => T (4 + q)))) 106 (mj_ar 25 (sp_sfF T (fun q => T (4 + q)) F c (min (sp_fst (sp_sfp T (fun q => T (4 + q)) a c) 198 + 1) 198))))) := by
  refine mj_Ev.of (L0 := [some (.ref 100), some (.int (nI a)), some (.int (nI c)), none]) pnRX11 (Nat.le_of_ble_eq_true rfl) rfl ?_
  refine gj_iload_n dX11_safe_0 rfl ?_
  refine gj_S1 lkX11_70 (ev_X11_isCell_t (by omega) (by omega)) dX11_safe_1 rfl rfl rfl rfl rfl ?_
  refine gj_if_eqN (tgt := 14) (by omega) dX11_safe_4 rfl (fun zq0 => ?_) (fun zq0 => ?_)
  · exfalso; revert zq0; decide
  refine gj_iload_n dX11_safe_7 rfl ?_
  refine gj_S1 lkX11_70 (ev_X11_isCell_t (by omega) (by omega)) dX11_safe_8 rfl rfl rfl rfl rfl ?_
  refine gj_if_neN (tgt := 21) (by omega) dX11_safe_11 rfl (fun zq0 => ?_) (fun zq0 => ?_)
  rotate_left
  · exfalso; revert zq0; decide
  refine gj_aload_n dX11_safe_21 rfl ?_
  refine gj_V0 lkX11_124 H0 rfl rfl (ev_X11_layIce H0 HT HJ bT) dX11_safe_22 rfl rfl rfl rfl rfl ?_
  refine gj_sp 198 dX11_safe_25 (by decide) ?_
  refine gj_istore_n (L' := [some (.ref 100), some (.int (nI a)), some (.int (nI c)), some (.int (nI 198))]) dX11_safe_28 (Nat.le_of_ble_eq_true rfl) rfl ?_
  refine gj_cast (L' := [some (.ref 100), some (.int (nI a)), some (.int (nI c)), some (.int (nI (198 - 0)))]) (st' := []) (h' := mj_up (mj_up h 105 (mj_ar 25 (fun q => T (4 + q)))) 106 (mj_ar 25 (sp_sfF T (fun q => T (4 + q)) F c 0))) rfl rfl (mj_up_self ((mj_up_ne (by decide)).trans HF)).symm ?_
  refine gj_loopI (fun j => ∀ i, i < j → (sp_sfp T (fun q => T (4 + q)) a c) i = false) (fun j => [some (.ref 100), some (.int (nI a)), some (.int (nI c)), some (.int (nI (198 - j)))]) (fun j => mj_up (mj_up h 105 (mj_ar 25 (fun q => T (4 + q)))) 106 (mj_ar 25 (sp_sfF T (fun q => T (4 + q)) F c j))) 198 (fun hq => ?_) (fun j hj hq ih => ?_) 0 (Nat.zero_le _) (fun i hi => absurd hi (Nat.not_lt_zero _))
  · show gj _ _ _ _ _ _ [some (.ref 100), some (.int (nI a)), some (.int (nI c)), some (.int (nI (198 - 198)))] _ _
    refine gj_iload_n dX11_safe_29 rfl ?_
    refine gj_if_leN (tgt := 59) (by omega) dX11_safe_30 rfl (fun zq1 => ?_) (fun zq1 => ?_)
    rotate_left
    · exfalso; omega
    have he9 : sp_fst (sp_sfp T (fun q => T (4 + q)) a c) 198 = 198 := sp_fst_none hq
    have hm9 : min (sp_fst (sp_sfp T (fun q => T (4 + q)) a c) 198 + 1) 198 = 198 := by omega
    refine gj_ic (w := 0) dX11_safe_59 ?_
    exact gj_ir rfl dX11_safe_60 rfl (congrArg nI (by omega)) (by first | (rw [hm9]; done) | (rw [hm9, mj_up_up]; rfl))
  show gj _ _ _ _ _ _ [some (.ref 100), some (.int (nI a)), some (.int (nI c)), some (.int (nI (198 - j)))] _ _
  refine gj_iload_n dX11_safe_29 rfl ?_
  refine gj_if_leN (tgt := 59) (by omega) dX11_safe_30 rfl (fun zq2 => ?_) (fun zq2 => ?_)
  · exfalso; omega
  refine gj_aload_n dX11_safe_33 rfl ?_
  refine gj_iload_n dX11_safe_34 rfl ?_
  refine gj_iload_n dX11_safe_35 rfl ?_
  refine gj_ic (w := 0) dX11_safe_36 ?_
  refine gj_V0 lkX11_167 ((mj_up_ne (by decide)).trans ((mj_up_ne (by decide)).trans H0)) rfl rfl (ev_X11_layFar ((mj_up_ne (by decide)).trans ((mj_up_ne (by decide)).trans H0)) ((mj_up_ne (by decide)).trans ((mj_up_ne (by decide)).trans HT)) ((mj_up_ne (by decide)).trans (mj_up_eq _ _ _)) (mj_up_eq _ _ _) bT bT.2.2.2.2.2.1 (by omega) (by omega) (by omega)) dX11_safe_37 rfl rfl rfl rfl rfl ?_
  have hl9 := @sp_lay_le T (fun q => T (4 + q)) (198 - j) 0 c a
  refine gj_aload_n dX11_safe_40 rfl ?_
  refine gfX11_30 rfl dX11_safe_41 ((mj_up_ne (by decide)).trans ((mj_up_ne (by decide)).trans ((mj_up_ne (by decide)).trans H0))) rfl ?_
  refine gj_iload_n dX11_safe_44 rfl ?_
  refine gj_ialdN dX11_safe_45 (mj_up_eq _ _ _) (by omega) (by omega) ?_
  refine gj_ldc (v := nI 1000000) w_1179 dX11_safe_46 ?_
  refine gj_icmp_geN (tgt := 53) (by omega) (by omega) dX11_safe_48 rfl (fun zq3 => ?_) (fun zq3 => ?_)
  · -- 48 taken
    have hn9 : (sp_sfp T (fun q => T (4 + q)) a c) j = false := decide_eq_false (by omega)
    refine gj_iinc (L' := [some (.ref 100), some (.int (nI a)), some (.int (nI c)), some (.int ((nI (198 - j)) + Int32.ofInt (-1)))]) dX11_safe_53 rfl rfl (Nat.le_of_ble_eq_true rfl) rfl ?_
    refine gj_goto (tgt := 29) dX11_safe_56 rfl ?_
    exact gj_cast (by rw [ly_dec (by omega) (by omega), show 198 - j - 1 = 198 - (j + 1) by omega]) rfl (by rw [mj_up_up]; rfl) (ih (fun i hi => by by_cases q : i = j <;> first | (subst q; exact hn9) | exact hq i (by omega)))
  have hp9 : (sp_sfp T (fun q => T (4 + q)) a c) j = true := decide_eq_true zq3
  have he9 : sp_fst (sp_sfp T (fun q => T (4 + q)) a c) 198 = j := sp_fst_at hj hp9 hq
  have hm9 : min (sp_fst (sp_sfp T (fun q => T (4 + q)) a c) 198 + 1) 198 = j + 1 := by omega
  refine gj_iload_n dX11_safe_51 rfl ?_
  exact gj_ir rfl dX11_safe_52 rfl (congrArg nI (by omega)) (by first | (rw [hm9]; done) | (rw [hm9, mj_up_up]; rfl))
