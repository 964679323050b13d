theorem ly_sh {j : Nat} (hj : j < 25) : 1 <<< j < 2 ^ 25 := by rw [Nat.shiftLeft_eq, Nat.one_mul]; exact Nat.pow_lt_pow_right (by decide) hj
/-- a and c parted by closing x alone -/
def sp_q1 (T J : Nat → Nat) (w a c : Nat) : Nat → Bool := fun x => !decide (x = a) && (!decide (x = c) && decide (1000000 ≤ sp_lay T J w (1 <<< x) c a))
theorem sp_q1_a {T J : Nat → Nat} {w a c x : Nat} (h : x = a) : sp_q1 T J w a c x = false := by unfold sp_q1; rw [decide_eq_true h]; rfl
theorem sp_q1_c {T J : Nat → Nat} {w a c x : Nat} (h : x = c) : sp_q1 T J w a c x = false := by unfold sp_q1; rw [decide_eq_true h, Bool.not_true, Bool.false_and, Bool.and_false]
theorem sp_q1_n {T J : Nat → Nat} {w a c x : Nat} (h : decide (1000000 ≤ sp_lay T J w (1 <<< x) c a) = false) : sp_q1 T J w a c x = false := by unfold sp_q1; rw [h, Bool.and_false, Bool.and_false]
theorem sp_q1_t {T J : Nat → Nat} {w a c x : Nat} (h1 : ¬ x = a) (h2 : ¬ x = c) (h : decide (1000000 ≤ sp_lay T J w (1 <<< x) c a) = true) : sp_q1 T J w a c x = true := by unfold sp_q1; rw [h, decide_eq_false h1, decide_eq_false h2]; rfl
/-- the row far behind n cells tried alone -/
def sp_f1 (T J : Nat → Nat) (w a c n : Nat) : Nat → Nat := mj_fo (fun x (G : Nat → Nat) => if x = a ∨ x = c then G else sp_lay T J w (1 <<< x) c) (sp_lay T J w 0 c) n
theorem sp_f1_e {T J : Nat → Nat} {w a c n : Nat} (h : n = a ∨ n = c) : sp_f1 T J w a c (n + 1) = sp_f1 T J w a c n := if_pos h
theorem sp_f1_l {T J : Nat → Nat} {w a c n : Nat} (h : ¬ n = a) (h2 : ¬ n = c) : sp_f1 T J w a c (n + 1) = sp_lay T J w (1 <<< n) c := if_neg (fun z => z.elim h h2)
set_option maxHeartbeats 1000000 in
set_option maxRecDepth 10000 in
theorem ev_X11_partsOf_0 {E : mj_E} {h : mj_H} {a0 a1 y2 y3 y4 y5 y6 : Nat} (H0 : h 100 = some (mj_mo a0 a1 y2 y3 y4 y5 y6)) {T : Nat → Nat} (HT : h 101 = some (mj_ar 362 T)) {J : Nat → Nat} (HJ : h 105 = some (mj_ar 25 J)) {F : Nat → Nat} (HF : h 106 = some (mj_ar 25 F)) (bT : mj_Tb T) (bJ : ∀ q, q < 25 → J q ≤ 99) {w a c : Nat} (h0 : w ≤ 198) (h1 : a < 25) (h2 : c < 25) (h3 : 1000000 ≤ sp_lay T J w 0 c a) : mj_Ev E iX11_partsOf [.ref 100, .int (nI w), .int (nI a), .int (nI c)] h (mj_R (some (.int (nI 0))) (mj_up h 106 (mj_ar 25 (sp_lay T J w 0 c)))) := by
  refine mj_Ev.of (L0 := [some (.ref 100), some (.int (nI w)), some (.int (nI a)), some (.int (nI c)), none, none, none]) pnRX11 (Nat.le_of_ble_eq_true rfl) rfl ?_
  refine gj_aload_n dX11_partsOf_0 rfl ?_
  refine gj_iload_n dX11_partsOf_1 rfl ?_
  refine gj_iload_n dX11_partsOf_2 rfl ?_
  refine gj_iload_n dX11_partsOf_3 rfl ?_
  refine gj_ic (w := 0) dX11_partsOf_4 ?_
  refine gj_V1 lkX11_174 H0 rfl rfl (ev_X11_isParted H0 HT HJ HF bT bJ (by omega) (by omega) (by omega) (by omega)) dX11_partsOf_5 rfl rfl rfl rfl rfl ?_
  refine gj_if_eqb (tgt := 13) dX11_partsOf_8 rfl (fun zq1 => ?_) (fun zq1 => ?_)
  · exfalso; exact absurd (decide_eq_true h3) (by rw [zq1]; decide)
  refine gj_ic (w := 0) dX11_partsOf_11 ?_
  exact gj_ir rfl dX11_partsOf_12 rfl rfl rfl
set_option maxHeartbeats 1000000 in
set_option maxRecDepth 10000 in
theorem ev_X11_partsOf_1 {E : mj_E} {h : mj_H} {a0 a1 y2 y3 y4 y5 y6 : Nat} (H0 : h 100 = some (mj_mo a0 a1 y2 y3 y4 y5 y6)) {T : Nat → Nat} (HT : h 101 = some (mj_ar 362 T)) {J : Nat → Nat} (HJ : h 105 = some (mj_ar 25 J)) {F : Nat → Nat} (HF : h 106 = some (mj_ar 25 F)) (bT : mj_Tb T) (bJ : ∀ q, q < 25 → J q ≤ 99) {w a c : Nat} (h0 : w ≤ 198) (h1 : a < 25) (h2 : c < 25) (h3 : sp_lay T J w 0 c a < 1000000) (h4 : sp_fst (sp_q1 T J w a c) 25 < 25) : mj_Ev E iX11_partsOf [.ref 100, .int (nI w), .int (nI a), .int (nI c)] h (mj_R (some (.int (nI (992 + sp_fst (sp_q1 T J w a c) 25)))) (mj_up h 106 (mj_ar 25 (sp_lay T J w (1 <<< sp_fst (sp_q1 T J w a c) 25) c)))) := by
  refine mj_Ev.of (L0 := [some (.ref 100), some (.int (nI w)), some (.int (nI a)), some (.int (nI c)), none, none, none]) pnRX11 (Nat.le_of_ble_eq_true rfl) rfl ?_
  refine gj_aload_n dX11_partsOf_0 rfl ?_
  refine gj_iload_n dX11_partsOf_1 rfl ?_
  refine gj_iload_n dX11_partsOf_2 rfl ?_
  refine gj_iload_n dX11_partsOf_3 rfl ?_
  refine gj_ic (w := 0) dX11_partsOf_4 ?_
  refine gj_V1 lkX11_174 H0 rfl rfl (ev_X11_isParted H0 HT HJ HF bT bJ (by omega) (by omega) (by omega) (by omega)) dX11_partsOf_5 rfl rfl rfl rfl rfl ?_
  refine gj_if_eqb (tgt := 13) dX11_partsOf_8 rfl (fun zq1 => ?_) (fun zq1 => ?_)
  rotate_left
  · exfalso; exact absurd (decide_eq_false (Nat.not_le.mpr h3)) (by rw [zq1]; decide)
  refine gj_ic (w := 0) dX11_partsOf_13 ?_
  refine gj_istore (L' := [some (.ref 100), some (.int (nI w)), some (.int (nI a)), some (.int (nI c)), some (.int (nI 0)), none, none]) dX11_partsOf_14 (Nat.le_of_ble_eq_true rfl) rfl ?_
  refine gj_cast (L' := [some (.ref 100), some (.int (nI w)), some (.int (nI a)), some (.int (nI c)), some (.int (nI 0)), none, none]) (st' := []) (h' := mj_up h 106 (mj_ar 25 (sp_f1 T J w a c 0))) rfl rfl rfl ?_
  refine gj_loopI (fun j => ∀ i, i < j → (sp_q1 T J w a c) i = false) (fun j => [some (.ref 100), some (.int (nI w)), some (.int (nI a)), some (.int (nI c)), some (.int (nI j)), none, none]) (fun j => mj_up h 106 (mj_ar 25 (sp_f1 T J w a c j))) 25 (fun hq => ?_) (fun j hj hq ih => ?_) 0 (Nat.zero_le _) (fun i hi => absurd hi (Nat.not_lt_zero _))
  · show gj _ _ _ _ _ _ [some (.ref 100), some (.int (nI w)), some (.int (nI a)), some (.int (nI c)), some (.int (nI 25)), none, none] _ _
    exact absurd (sp_fst_none hq) (by omega)
  show gj _ _ _ _ _ _ [some (.ref 100), some (.int (nI w)), some (.int (nI a)), some (.int (nI c)), some (.int (nI j)), none, none] _ _
  refine gj_iload dX11_partsOf_16 rfl ?_
  refine gj_bp 25 dX11_partsOf_18 (by decide) ?_
  refine gj_icmp_geN (tgt := 62) (by omega) (by omega) dX11_partsOf_20 rfl (fun zq2 => ?_) (fun zq2 => ?_)
  · exfalso; omega
  refine gj_iload dX11_partsOf_23 rfl ?_
  refine gj_iload_n dX11_partsOf_25 rfl ?_
  refine gj_icmp_eqN (tgt := 56) (by omega) (by omega) dX11_partsOf_26 rfl (fun zq3 => ?_) (fun zq3 => ?_)
  · -- 26 taken
    have he8 := zq3
    have hn9 : (sp_q1 T J w a c) j = false := sp_q1_a he8
    refine gj_iincN (L' := [some (.ref 100), some (.int (nI w)), some (.int (nI a)), some (.int (nI c)), some (.int (nI (j + 1))), none, none]) dX11_partsOf_56 rfl (Nat.le_of_ble_eq_true rfl) rfl ?_
    refine gj_goto (tgt := 16) dX11_partsOf_59 rfl ?_
    first | exact gj_cast rfl rfl (by rw [mj_up_up, sp_f1_l he8 he9]) (ih (fun i hi => by by_cases q : i = j <;> first | (subst q; exact hn9) | exact hq i (by omega))) | exact gj_cast rfl rfl (by rw [sp_f1_e (Or.inl he8)]) (ih (fun i hi => by by_cases q : i = j <;> first | (subst q; exact hn9) | exact hq i (by omega))) | exact gj_cast rfl rfl (by rw [sp_f1_e (Or.inr he9)]) (ih (fun i hi => by by_cases q : i = j <;> first | (subst q; exact hn9) | exact hq i (by omega)))
  have he8 := zq3
  refine gj_iload dX11_partsOf_29 rfl ?_
  refine gj_iload_n dX11_partsOf_31 rfl ?_
  refine gj_icmp_eqN (tgt := 56) (by omega) (by omega) dX11_partsOf_32 rfl (fun zq4 => ?_) (fun zq4 => ?_)
  · -- 32 taken
    have he9 := zq4
    have hn9 : (sp_q1 T J w a c) j = false := sp_q1_c he9
    refine gj_iincN (L' := [some (.ref 100), some (.int (nI w)), some (.int (nI a)), some (.int (nI c)), some (.int (nI (j + 1))), none, none]) dX11_partsOf_56 rfl (Nat.le_of_ble_eq_true rfl) rfl ?_
    refine gj_goto (tgt := 16) dX11_partsOf_59 rfl ?_
    first | exact gj_cast rfl rfl (by rw [mj_up_up, sp_f1_l he8 he9]) (ih (fun i hi => by by_cases q : i = j <;> first | (subst q; exact hn9) | exact hq i (by omega))) | exact gj_cast rfl rfl (by rw [sp_f1_e (Or.inl he8)]) (ih (fun i hi => by by_cases q : i = j <;> first | (subst q; exact hn9) | exact hq i (by omega))) | exact gj_cast rfl rfl (by rw [sp_f1_e (Or.inr he9)]) (ih (fun i hi => by by_cases q : i = j <;> first | (subst q; exact hn9) | exact hq i (by omega)))
  have he9 := zq4
  have hb8 := ly_sh hj
  refine gj_aload_n dX11_partsOf_35 rfl ?_
  refine gj_iload_n dX11_partsOf_36 rfl ?_
  refine gj_iload_n dX11_partsOf_37 rfl ?_
  refine gj_iload_n dX11_partsOf_38 rfl ?_
  refine gj_ic (w := 1) dX11_partsOf_39 ?_
  refine gj_iload dX11_partsOf_40 rfl ?_
  refine gj_ishlN (by omega) dX11_partsOf_42 ?_
  refine gj_V1 lkX11_174 ((mj_up_ne (by decide)).trans H0) rfl rfl (ev_X11_isParted ((mj_up_ne (by decide)).trans H0) ((mj_up_ne (by decide)).trans HT) ((mj_up_ne (by decide)).trans HJ) (mj_up_eq _ _ _) bT bJ (by omega) (by omega) (by omega) (by omega)) dX11_partsOf_43 rfl rfl rfl rfl rfl ?_
  refine gj_if_eqb (tgt := 56) dX11_partsOf_46 rfl (fun zq5 => ?_) (fun zq5 => ?_)
  · -- 46 taken
    have hn9 : (sp_q1 T J w a c) j = false := sp_q1_n zq5
    refine gj_iincN (L' := [some (.ref 100), some (.int (nI w)), some (.int (nI a)), some (.int (nI c)), some (.int (nI (j + 1))), none, none]) dX11_partsOf_56 rfl (Nat.le_of_ble_eq_true rfl) rfl ?_
    refine gj_goto (tgt := 16) dX11_partsOf_59 rfl ?_
    first | exact gj_cast rfl rfl (by rw [mj_up_up, sp_f1_l he8 he9]) (ih (fun i hi => by by_cases q : i = j <;> first | (subst q; exact hn9) | exact hq i (by omega))) | exact gj_cast rfl rfl (by rw [sp_f1_e (Or.inl he8)]) (ih (fun i hi => by by_cases q : i = j <;> first | (subst q; exact hn9) | exact hq i (by omega))) | exact gj_cast rfl rfl (by rw [sp_f1_e (Or.inr he9)]) (ih (fun i hi => by by_cases q : i = j <;> first | (subst q; exact hn9) | exact hq i (by omega)))
  have hp9 : sp_fst (sp_q1 T J w a c) 25 = j := sp_fst_at hj (sp_q1_t he8 he9 zq5) hq
  refine gj_sp 992 dX11_partsOf_49 (by decide) ?_
  refine gj_iload dX11_partsOf_52 rfl ?_
  refine gj_iaddN  dX11_partsOf_54 ?_
  exact gj_ir rfl dX11_partsOf_55 rfl (congrArg nI (by omega)) (by rw [hp9, mj_up_up])
