theorem sp_wlk_end {T J : Nat → Nat} {w o c x : Nat} (hx : x < 25) (h2 : sp_lay T J w o c x < 1000000) : sp_wlk (sp_lay T J w o c) x (sp_lay T J w o c x - 1) = c := by
  have h1 := (@sp_lay_iv T J w o c x hx).1
  have h := sp_wlk_ok hx h2 (sp_lay T J w o c x - 1) (by omega)
  exact sp_lay_1 (T := T) (J := J) (w := w) (o := o) h.1 (by omega)
theorem sp_wlk_ne {T J : Nat → Nat} {w o c x k : Nat} (hx : x < 25) (h2 : sp_lay T J w o c x < 1000000) (hk : k < sp_lay T J w o c x - 1) : ¬ sp_wlk (sp_lay T J w o c) x k = c := by
  intro e
  have h := (sp_wlk_ok hx h2 k (by omega)).2
  have h1 := (sp_wlk_ok hx h2 (sp_lay T J w o c x - 1) (by omega)).2
  rw [sp_wlk_end hx h2] at h1
  rw [e] at h
  omega
/-- the ice under the steps of a way -/
def sp_mcn (F : Nat → Nat) (a : Nat) (G : Nat → Nat) (n : Nat) : Nat → Nat := mj_fo (fun i (H : Nat → Nat) => mj_un H (sp_wlk F a i) (H (sp_wlk F a i) - 1)) G n
theorem sp_mcn_s {F G : Nat → Nat} {a n : Nat} : sp_mcn F a G (n + 1) = mj_un (sp_mcn F a G n) (sp_wlk F a n) (sp_mcn F a G n (sp_wlk F a n) - 1) := mj_fo_s
theorem sp_mcn_z {F G : Nat → Nat} {a n : Nat} (h : sp_mcn F a G n (sp_wlk F a n) = 0) : sp_mcn F a G (n + 1) = mj_un (sp_mcn F a G n) (sp_wlk F a n) 0 := by rw [sp_mcn_s, show sp_mcn F a G n (sp_wlk F a n) - 1 = 0 by omega]
theorem ly_un_dn {H : Nat → Nat} {x q : Nat} : mj_un H x (H x - 1) q ≤ H q := by
  by_cases z : q = x
  · rw [z, mj_un_eq]; omega
  · rw [mj_un_ne z]; exact Nat.le_refl _
theorem sp_mcn_dn {F G : Nat → Nat} {a n q : Nat} : sp_mcn F a G n q ≤ G q := by
  induction n with
  | zero => exact Nat.le_refl _
  | succ n ih => rw [sp_mcn_s]; exact Nat.le_trans ly_un_dn ih
def sp_mc1 (T : Nat → Nat) (w a c : Nat) (G : Nat → Nat) : Nat → Nat := sp_mcn (sp_lay T G w 0 c) a G (sp_lay T G w 0 c a - 1)
def sp_mx (T : Nat → Nat) (w a c n : Nat) : Nat → Nat := mj_fo (fun _ (G : Nat → Nat) => mj_un (sp_mc1 T w a c G) c (sp_mc1 T w a c G c - 1)) (fun q => T (4 + q)) n
theorem sp_mx_s {T : Nat → Nat} {w a c n : Nat} : sp_mx T w a c (n + 1) = mj_un (sp_mc1 T w a c (sp_mx T w a c n)) c (sp_mc1 T w a c (sp_mx T w a c n) c - 1) := mj_fo_s
theorem sp_mx_z {T : Nat → Nat} {w a c n : Nat} (h : sp_mc1 T w a c (sp_mx T w a c n) c = 0) : sp_mx T w a c (n + 1) = mj_un (sp_mc1 T w a c (sp_mx T w a c n)) c 0 := by rw [sp_mx_s, show sp_mc1 T w a c (sp_mx T w a c n) c - 1 = 0 by omega]
theorem sp_mx_dn {T : Nat → Nat} {w a c n q : Nat} : sp_mx T w a c n q ≤ T (4 + q) := by
  induction n with
  | zero => exact Nat.le_refl _
  | succ n ih => rw [sp_mx_s]; exact Nat.le_trans ly_un_dn (Nat.le_trans sp_mcn_dn ih)
def sp_mxF (T F : Nat → Nat) (w a c : Nat) : Nat → Nat → Nat
  | 0 => F
  | j + 1 => sp_lay T (sp_mx T w a c j) w 0 c
def sp_mxp (T : Nat → Nat) (w a c : Nat) : Nat → Bool := fun i => decide (1000000 ≤ sp_lay T (sp_mx T w a c i) w 0 c a)
theorem ly_comm {h : mj_H} {a b : Nat} {x y : va_E} (hab : a ≠ b) : mj_up (mj_up h a x) b y = mj_up (mj_up h b y) a x := by
  funext q
  by_cases z : q = a
  · subst z; rw [mj_up_ne hab, mj_up_eq, mj_up_eq]
  · by_cases y' : q = b
    · subst y'; rw [mj_up_eq, mj_up_ne z, mj_up_eq]
    · rw [mj_up_ne y', mj_up_ne z, mj_up_ne z, mj_up_ne y']
set_option maxHeartbeats 1000000 in
set_option maxRecDepth 10000 in
theorem ev_X11_cross {E : mj_E} {h : mj_H} {a0 a1 y2 y3 y4 y5 y6 : Nat} (H0 : h 100 = some (mj_mo a0 a1 y2 y3 y4 y5 y6)) {T : Nat → Nat} (HT : h 101 = some (mj_ar 362 T)) {J : Nat → Nat} (HJ : h 105 = some (mj_ar 25 J)) {F : Nat → Nat} (HF : h 106 = some (mj_ar 25 F)) (bT : mj_Tb T) {w a c : Nat} (h0 : 1 ≤ w) (h1 : w ≤ 99) (h2 : a < 25) (h3 : c < 25) (h4 : ¬ a = c) : mj_Ev E iX11_cross [.ref 100, .int (nI w), .int (nI a), .int (nI c)] h (mj_R (some (.int (nI (sp_fst (sp_mxp T w a c) 40)))) (mj_up (mj_up h 105 (mj_ar 25 (sp_mx T w a c (sp_fst (sp_mxp T w a c) 40)))) 106 (mj_ar 25 (sp_mxF T F w a c (min (sp_fst (sp_mxp T w a c) 40 + 1) 40))))) := by
  refine mj_Ev.of (L0 := [some (.ref 100), some (.int (nI w)), some (.int (nI a)), some (.int (nI c)), none, none, none]) pnRX11 (Nat.le_of_ble_eq_true rfl) rfl ?_
  refine gj_iload_n dX11_cross_0 rfl ?_
  refine gj_i2lN (by omega) dX11_cross_1 ?_
  refine gj_lconst (v := lN 1) dX11_cross_2 rfl ?_
  refine gj_ldc2 (v := lN 99) w_1047 dX11_cross_3 ?_
  refine gj_S1 lkX11_50 (ev_X11_in_t (by omega) (by omega) (by omega)) dX11_cross_6 rfl rfl rfl rfl rfl ?_
  refine gj_if_eqN (tgt := 31) (by omega) dX11_cross_9 rfl (fun zq0 => ?_) (fun zq0 => ?_)
  · exfalso; revert zq0; decide
  refine gj_iload_n dX11_cross_12 rfl ?_
  refine gj_S1 lkX11_70 (ev_X11_isCell_t (by omega) (by omega)) dX11_cross_13 rfl rfl rfl rfl rfl ?_
  refine gj_if_eqN (tgt := 31) (by omega) dX11_cross_16 rfl (fun zq0 => ?_) (fun zq0 => ?_)
  · exfalso; revert zq0; decide
  refine gj_iload_n dX11_cross_19 rfl ?_
  refine gj_S1 lkX11_70 (ev_X11_isCell_t (by omega) (by omega)) dX11_cross_20 rfl rfl rfl rfl rfl ?_
  refine gj_if_eqN (tgt := 31) (by omega) dX11_cross_23 rfl (fun zq0 => ?_) (fun zq0 => ?_)
  · exfalso; revert zq0; decide
  refine gj_iload_n dX11_cross_26 rfl ?_
  refine gj_iload_n dX11_cross_27 rfl ?_
  refine gj_icmp_neN (tgt := 38) (by omega) (by omega) dX11_cross_28 rfl (fun zq1 => ?_) (fun zq1 => ?_)
  rotate_left
  · exfalso; omega
  refine gj_aload_n dX11_cross_38 rfl ?_
  refine gj_V0 lkX11_124 H0 rfl rfl (ev_X11_layIce H0 HT HJ bT) dX11_cross_39 rfl rfl rfl rfl rfl ?_
  refine gj_ic (w := 0) dX11_cross_42 ?_
  refine gj_istore (L' := [some (.ref 100), some (.int (nI w)), some (.int (nI a)), some (.int (nI c)), some (.int (nI 0)), none, none]) dX11_cross_43 (Nat.le_of_ble_eq_true rfl) rfl ?_
  refine gj_cast (L' := [some (.ref 100), some (.int (nI w)), some (.int (nI a)), some (.int (nI c)), some (.int (nI 0)), none, none]) (st' := []) (h' := mj_up (mj_up h 105 (mj_ar 25 (sp_mx T w a c 0))) 106 (mj_ar 25 (sp_mxF T F w a c 0))) rfl rfl (mj_up_self ((mj_up_ne (by decide)).trans HF)).symm ?_
  refine gj_loopI (fun j => ∀ i, i < j → (sp_mxp T w a c) i = false) (fun j => [some (.ref 100), some (.int (nI w)), some (.int (nI a)), some (.int (nI c)), some (.int (nI j)), none, none]) (fun j => mj_up (mj_up h 105 (mj_ar 25 (sp_mx T w a c j))) 106 (mj_ar 25 (sp_mxF T F w a c j))) 40 (fun hq => ?_) (fun j hj hq ih => ?_) 0 (Nat.zero_le _) (fun i hi => absurd hi (Nat.not_lt_zero _))
  · show gj _ _ _ _ _ _ [some (.ref 100), some (.int (nI w)), some (.int (nI a)), some (.int (nI c)), some (.int (nI 40)), none, none] _ _
    refine gj_iload dX11_cross_45 rfl ?_
    refine gj_bp 40 dX11_cross_47 (by decide) ?_
    refine gj_icmp_geN (tgt := 160) (by omega) (by omega) dX11_cross_49 rfl (fun zq0 => ?_) (fun zq0 => ?_)
    rotate_left
    · exfalso; omega
    have he9 : sp_fst (sp_mxp T w a c) 40 = 40 := sp_fst_none hq
    have hm9 : min (sp_fst (sp_mxp T w a c) 40 + 1) 40 = 40 := by omega
    refine gj_bp 40 dX11_cross_160 (by decide) ?_
    exact gj_ir rfl dX11_cross_162 rfl (congrArg nI (by omega)) (by first | (rw [hm9, he9]; done) | (rw [hm9, he9, mj_up_up]; rfl))
  show gj _ _ _ _ _ _ [some (.ref 100), some (.int (nI w)), some (.int (nI a)), some (.int (nI c)), some (.int (nI j)), none, none] _ _
  refine gj_iload dX11_cross_45 rfl ?_
  refine gj_bp 40 dX11_cross_47 (by decide) ?_
  refine gj_icmp_geN (tgt := 160) (by omega) (by omega) dX11_cross_49 rfl (fun zq2 => ?_) (fun zq2 => ?_)
  · exfalso; omega
  refine gj_aload_n dX11_cross_52 rfl ?_
  refine gj_iload_n dX11_cross_53 rfl ?_
  refine gj_iload_n dX11_cross_54 rfl ?_
  refine gj_ic (w := 0) dX11_cross_55 ?_
  refine gj_V0 lkX11_167 ((mj_up_ne (by decide)).trans ((mj_up_ne (by decide)).trans H0)) rfl rfl (ev_X11_layFar ((mj_up_ne (by decide)).trans ((mj_up_ne (by decide)).trans H0)) ((mj_up_ne (by decide)).trans ((mj_up_ne (by decide)).trans HT)) ((mj_up_ne (by decide)).trans (mj_up_eq _ _ _)) (mj_up_eq _ _ _) bT (show ∀ q, q < 25 → (sp_mx T w a c j) q ≤ 99 from fun q hq => Nat.le_trans sp_mx_dn (bT.2.2.2.2.2.1 q hq)) (by omega) (by omega) (by omega)) dX11_cross_56 rfl rfl rfl rfl rfl ?_
  have hl9 := @sp_lay_le T (sp_mx T w a c j) w 0 c a
  have hl8 := (@sp_lay_iv T (sp_mx T w a c j) w 0 c a h2).1
  refine gj_aload_n dX11_cross_59 rfl ?_
  refine gfX11_30 rfl dX11_cross_60 ((mj_up_ne (by decide)).trans ((mj_up_ne (by decide)).trans ((mj_up_ne (by decide)).trans H0))) rfl ?_
  refine gj_iload_n dX11_cross_63 rfl ?_
  refine gj_ialdN dX11_cross_64 (mj_up_eq _ _ _) (by omega) (by omega) ?_
  refine gj_ldc (v := nI 1000000) w_1179 dX11_cross_65 ?_
  refine gj_icmp_ltN (tgt := 73) (by omega) (by omega) dX11_cross_67 rfl (fun zq3 => ?_) (fun zq3 => ?_)
  · -- 67 taken
    have hp8 : sp_lay T (sp_mx T w a c j) w 0 c a < 1000000 := zq3
    have hn9 : (sp_mxp T w a c) j = false := decide_eq_false (by omega)
    refine gj_iload_n dX11_cross_73 rfl ?_
    refine gj_istore (L' := [some (.ref 100), some (.int (nI w)), some (.int (nI a)), some (.int (nI c)), some (.int (nI j)), some (.int (nI a)), none]) dX11_cross_74 (Nat.le_of_ble_eq_true rfl) rfl ?_
    refine gj_cast (L' := [some (.ref 100), some (.int (nI w)), some (.int (nI a)), some (.int (nI c)), some (.int (nI j)), some (.int (nI (sp_wlk (sp_lay T (sp_mx T w a c j) w 0 c) a 0))), none]) (st' := []) (h' := mj_up (mj_up h 106 (mj_ar 25 (sp_lay T (sp_mx T w a c j) w 0 c))) 105 (mj_ar 25 (sp_mcn (sp_lay T (sp_mx T w a c j) w 0 c) a (sp_mx T w a c j) 0))) rfl rfl (by rw [mj_up_up, ly_comm (by decide)]; rfl) ?_
    refine gj_loop (fun k => [some (.ref 100), some (.int (nI w)), some (.int (nI a)), some (.int (nI c)), some (.int (nI j)), some (.int (nI (sp_wlk (sp_lay T (sp_mx T w a c j) w 0 c) a k))), none]) (fun k => mj_up (mj_up h 106 (mj_ar 25 (sp_lay T (sp_mx T w a c j) w 0 c))) 105 (mj_ar 25 (sp_mcn (sp_lay T (sp_mx T w a c j) w 0 c) a (sp_mx T w a c j) k))) (sp_lay T (sp_mx T w a c j) w 0 c a - 1) ?_ (fun k hk ihk => ?_) 0 (Nat.zero_le _)
    · show gj _ _ _ _ _ _ [some (.ref 100), some (.int (nI w)), some (.int (nI a)), some (.int (nI c)), some (.int (nI j)), some (.int (nI (sp_wlk (sp_lay T (sp_mx T w a c j) w 0 c) a (sp_lay T (sp_mx T w a c j) w 0 c a - 1)))), none] _ _
      have hx9 := sp_wlk_end h2 hp8
      refine gj_iload dX11_cross_76 rfl ?_
      refine gj_iload_n dX11_cross_78 rfl ?_
      refine gj_icmp_eqN (tgt := 127) (by omega) (by omega) dX11_cross_79 rfl (fun zq4 => ?_) (fun zq4 => ?_)
      rotate_left
      · exfalso; first | exact zq4 hx9 | exact hs9 zq4
      refine gj_aload_n dX11_cross_127 rfl ?_
      refine gfX11_27 rfl dX11_cross_128 ((mj_up_ne (by decide)).trans ((mj_up_ne (by decide)).trans H0)) rfl ?_
      refine gj_iload_n dX11_cross_131 rfl ?_
      refine gj_aload_n dX11_cross_132 rfl ?_
      refine gfX11_27 rfl dX11_cross_133 ((mj_up_ne (by decide)).trans ((mj_up_ne (by decide)).trans H0)) rfl ?_
      refine gj_iload_n dX11_cross_136 rfl ?_
      refine gj_ialdN dX11_cross_137 (mj_up_eq _ _ _) (by omega) (by omega) ?_
      have hb5 := (show ∀ q, q < 25 → (sp_mcn (sp_lay T (sp_mx T w a c j) w 0 c) a (sp_mx T w a c j) (sp_lay T (sp_mx T w a c j) w 0 c a - 1)) q ≤ 99 from fun q hq => Nat.le_trans sp_mcn_dn (Nat.le_trans sp_mx_dn (bT.2.2.2.2.2.1 q hq))) c (by omega)
      refine gj_if_leN (tgt := 152) (by omega) dX11_cross_138 rfl (fun zq6 => ?_) (fun zq6 => ?_)
      · -- 138 taken
        have hz9 := zq6
        refine gj_ic (w := 0) dX11_cross_152 ?_
        refine gj_iastN dX11_cross_153 (mj_up_eq _ _ _) (by omega) (by omega) ?_
        refine gj_iincN (L' := [some (.ref 100), some (.int (nI w)), some (.int (nI a)), some (.int (nI c)), some (.int (nI (j + 1))), some (.int (nI (sp_wlk (sp_lay T (sp_mx T w a c j) w 0 c) a (sp_lay T (sp_mx T w a c j) w 0 c a - 1)))), none]) dX11_cross_154 rfl (Nat.le_of_ble_eq_true rfl) rfl ?_
        refine gj_goto (tgt := 45) dX11_cross_157 rfl ?_
        refine gj_forget (i := 5) (L' := [some (.ref 100), some (.int (nI w)), some (.int (nI a)), some (.int (nI c)), some (.int (nI (j + 1))), none, none]) rfl ?_
        first | exact gj_cast rfl rfl (by rw [mj_up_up, sp_mx_z hz9, ly_comm (by decide)]; rfl) (ih (fun i hi => by by_cases q : i = j <;> first | (subst q; exact hn9) | exact hq i (by omega))) | exact gj_cast rfl rfl (by rw [mj_up_up, sp_mx_s, ly_comm (by decide)]; rfl) (ih (fun i hi => by by_cases q : i = j <;> first | (subst q; exact hn9) | exact hq i (by omega)))
      have hy9 := zq6
      refine gj_aload_n dX11_cross_141 rfl ?_
      refine gfX11_27 rfl dX11_cross_142 ((mj_up_ne (by decide)).trans ((mj_up_ne (by decide)).trans H0)) rfl ?_
      refine gj_iload_n dX11_cross_145 rfl ?_
      refine gj_ialdN dX11_cross_146 (mj_up_eq _ _ _) (by omega) (by omega) ?_
      have hb7 := (show ∀ q, q < 25 → (sp_mcn (sp_lay T (sp_mx T w a c j) w 0 c) a (sp_mx T w a c j) (sp_lay T (sp_mx T w a c j) w 0 c a - 1)) q ≤ 99 from fun q hq => Nat.le_trans sp_mcn_dn (Nat.le_trans sp_mx_dn (bT.2.2.2.2.2.1 q hq))) c (by omega)
      refine gj_ic (w := 1) dX11_cross_147 ?_
      refine gj_isubN (by omega) dX11_cross_148 ?_
      refine gj_goto (tgt := 153) dX11_cross_149 rfl ?_
      refine gj_iastN dX11_cross_153 (mj_up_eq _ _ _) (by omega) (by omega) ?_
      refine gj_iincN (L' := [some (.ref 100), some (.int (nI w)), some (.int (nI a)), some (.int (nI c)), some (.int (nI (j + 1))), some (.int (nI (sp_wlk (sp_lay T (sp_mx T w a c j) w 0 c) a (sp_lay T (sp_mx T w a c j) w 0 c a - 1)))), none]) dX11_cross_154 rfl (Nat.le_of_ble_eq_true rfl) rfl ?_
      refine gj_goto (tgt := 45) dX11_cross_157 rfl ?_
      refine gj_forget (i := 5) (L' := [some (.ref 100), some (.int (nI w)), some (.int (nI a)), some (.int (nI c)), some (.int (nI (j + 1))), none, none]) rfl ?_
      first | exact gj_cast rfl rfl (by rw [mj_up_up, sp_mx_z hz9, ly_comm (by decide)]; rfl) (ih (fun i hi => by by_cases q : i = j <;> first | (subst q; exact hn9) | exact hq i (by omega))) | exact gj_cast rfl rfl (by rw [mj_up_up, sp_mx_s, ly_comm (by decide)]; rfl) (ih (fun i hi => by by_cases q : i = j <;> first | (subst q; exact hn9) | exact hq i (by omega)))
    show gj _ _ _ _ _ _ [some (.ref 100), some (.int (nI w)), some (.int (nI a)), some (.int (nI c)), some (.int (nI j)), some (.int (nI (sp_wlk (sp_lay T (sp_mx T w a c j) w 0 c) a k))), none] _ _
    have hs9 := sp_wlk_ne h2 hp8 hk
    have hw9 := sp_wlk_ok h2 hp8 k (by omega)
    have hF9 : ∀ q, q < 25 → (sp_lay T (sp_mx T w a c j) w 0 c) q ≤ 1000000 := fun q _ => sp_lay_le q
    have hF1 : 1 ≤ (sp_lay T (sp_mx T w a c j) w 0 c) (sp_wlk (sp_lay T (sp_mx T w a c j) w 0 c) a k) := by omega
    have hF2 := @sp_nxf T (sp_mx T w a c j) w 0 c (sp_wlk (sp_lay T (sp_mx T w a c j) w 0 c) a k) hw9.1 (by omega) (by omega)
    refine gj_iload dX11_cross_76 rfl ?_
    refine gj_iload_n dX11_cross_78 rfl ?_
    refine gj_icmp_eqN (tgt := 127) (by omega) (by omega) dX11_cross_79 rfl (fun zq8 => ?_) (fun zq8 => ?_)
    · exfalso; first | exact zq8 hx9 | exact hs9 zq8
    refine gj_aload_n dX11_cross_82 rfl ?_
    refine gj_iload dX11_cross_83 rfl ?_
    refine gj_V1 lkX11_171 ((mj_up_ne (by decide)).trans ((mj_up_ne (by decide)).trans H0)) rfl rfl (ev_X11_nextOf ((mj_up_ne (by decide)).trans ((mj_up_ne (by decide)).trans H0)) ((mj_up_ne (by decide)).trans (mj_up_eq _ _ _)) (by omega) hF9 hF1 hF2) dX11_cross_85 rfl rfl rfl rfl rfl ?_
    refine gj_istore (L' := [some (.ref 100), some (.int (nI w)), some (.int (nI a)), some (.int (nI c)), some (.int (nI j)), some (.int (nI (sp_wlk (sp_lay T (sp_mx T w a c j) w 0 c) a k))), some (.int (nI (sp_fst (sp_nxp (sp_lay T (sp_mx T w a c j) w 0 c) (sp_wlk (sp_lay T (sp_mx T w a c j) w 0 c) a k)) 25)))]) dX11_cross_88 (Nat.le_of_ble_eq_true rfl) rfl ?_
    refine gj_aload_n dX11_cross_90 rfl ?_
    refine gfX11_27 rfl dX11_cross_91 ((mj_up_ne (by decide)).trans ((mj_up_ne (by decide)).trans H0)) rfl ?_
    refine gj_iload dX11_cross_94 rfl ?_
    refine gj_aload_n dX11_cross_96 rfl ?_
    refine gfX11_27 rfl dX11_cross_97 ((mj_up_ne (by decide)).trans ((mj_up_ne (by decide)).trans H0)) rfl ?_
    refine gj_iload dX11_cross_100 rfl ?_
    refine gj_ialdN dX11_cross_102 (mj_up_eq _ _ _) (by omega) (by omega) ?_
    have hb9 := (show ∀ q, q < 25 → (sp_mcn (sp_lay T (sp_mx T w a c j) w 0 c) a (sp_mx T w a c j) k) q ≤ 99 from fun q hq => Nat.le_trans sp_mcn_dn (Nat.le_trans sp_mx_dn (bT.2.2.2.2.2.1 q hq))) (sp_wlk (sp_lay T (sp_mx T w a c j) w 0 c) a k) (by omega)
    refine gj_if_leN (tgt := 118) (by omega) dX11_cross_103 rfl (fun zq10 => ?_) (fun zq10 => ?_)
    · -- 103 taken
      have hz9 := zq10
      refine gj_ic (w := 0) dX11_cross_118 ?_
      refine gj_iastN dX11_cross_119 (mj_up_eq _ _ _) (by omega) (by omega) ?_
      refine gj_iload dX11_cross_120 rfl ?_
      refine gj_istore (L' := [some (.ref 100), some (.int (nI w)), some (.int (nI a)), some (.int (nI c)), some (.int (nI j)), some (.int (nI (sp_fst (sp_nxp (sp_lay T (sp_mx T w a c j) w 0 c) (sp_wlk (sp_lay T (sp_mx T w a c j) w 0 c) a k)) 25))), some (.int (nI (sp_fst (sp_nxp (sp_lay T (sp_mx T w a c j) w 0 c) (sp_wlk (sp_lay T (sp_mx T w a c j) w 0 c) a k)) 25)))]) dX11_cross_122 (Nat.le_of_ble_eq_true rfl) rfl ?_
      refine gj_goto (tgt := 76) dX11_cross_124 rfl ?_
      refine gj_forget (i := 6) (L' := [some (.ref 100), some (.int (nI w)), some (.int (nI a)), some (.int (nI c)), some (.int (nI j)), some (.int (nI (sp_fst (sp_nxp (sp_lay T (sp_mx T w a c j) w 0 c) (sp_wlk (sp_lay T (sp_mx T w a c j) w 0 c) a k)) 25))), none]) rfl ?_
      first | exact gj_cast (by rw [sp_wlk_s]) rfl (by rw [mj_up_up, sp_mcn_z hz9]) ihk | exact gj_cast (by rw [sp_wlk_s]) rfl (by rw [mj_up_up, sp_mcn_s]) ihk
    have hy9 := zq10
    refine gj_aload_n dX11_cross_106 rfl ?_
    refine gfX11_27 rfl dX11_cross_107 ((mj_up_ne (by decide)).trans ((mj_up_ne (by decide)).trans H0)) rfl ?_
    refine gj_iload dX11_cross_110 rfl ?_
    refine gj_ialdN dX11_cross_112 (mj_up_eq _ _ _) (by omega) (by omega) ?_
    have hb11 := (show ∀ q, q < 25 → (sp_mcn (sp_lay T (sp_mx T w a c j) w 0 c) a (sp_mx T w a c j) k) q ≤ 99 from fun q hq => Nat.le_trans sp_mcn_dn (Nat.le_trans sp_mx_dn (bT.2.2.2.2.2.1 q hq))) (sp_wlk (sp_lay T (sp_mx T w a c j) w 0 c) a k) (by omega)
    refine gj_ic (w := 1) dX11_cross_113 ?_
    refine gj_isubN (by omega) dX11_cross_114 ?_
    refine gj_goto (tgt := 119) dX11_cross_115 rfl ?_
    refine gj_iastN dX11_cross_119 (mj_up_eq _ _ _) (by omega) (by omega) ?_
    refine gj_iload dX11_cross_120 rfl ?_
    refine gj_istore (L' := [some (.ref 100), some (.int (nI w)), some (.int (nI a)), some (.int (nI c)), some (.int (nI j)), some (.int (nI (sp_fst (sp_nxp (sp_lay T (sp_mx T w a c j) w 0 c) (sp_wlk (sp_lay T (sp_mx T w a c j) w 0 c) a k)) 25))), some (.int (nI (sp_fst (sp_nxp (sp_lay T (sp_mx T w a c j) w 0 c) (sp_wlk (sp_lay T (sp_mx T w a c j) w 0 c) a k)) 25)))]) dX11_cross_122 (Nat.le_of_ble_eq_true rfl) rfl ?_
    refine gj_goto (tgt := 76) dX11_cross_124 rfl ?_
    refine gj_forget (i := 6) (L' := [some (.ref 100), some (.int (nI w)), some (.int (nI a)), some (.int (nI c)), some (.int (nI j)), some (.int (nI (sp_fst (sp_nxp (sp_lay T (sp_mx T w a c j) w 0 c) (sp_wlk (sp_lay T (sp_mx T w a c j) w 0 c) a k)) 25))), none]) rfl ?_
    first | exact gj_cast (by rw [sp_wlk_s]) rfl (by rw [mj_up_up, sp_mcn_z hz9]) ihk | exact gj_cast (by rw [sp_wlk_s]) rfl (by rw [mj_up_up, sp_mcn_s]) ihk
  have hp9 : (sp_mxp T w a c) j = true := decide_eq_true (by omega)
  have he9 : sp_fst (sp_mxp T w a c) 40 = j := sp_fst_at hj hp9 hq
  have hm9 : min (sp_fst (sp_mxp T w a c) 40 + 1) 40 = j + 1 := by omega
  refine gj_iload dX11_cross_70 rfl ?_
  exact gj_ir rfl dX11_cross_72 rfl (congrArg nI (by omega)) (by first | (rw [hm9, he9]; done) | (rw [hm9, he9, mj_up_up]; rfl))
