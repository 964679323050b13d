/-- may i and k be closed for a and c -/
def sp_q2o (a c i k : Nat) : Bool := !decide (i = a) && (!decide (i = c) && (!decide (k = a) && !decide (k = c)))
theorem sp_q2o_t {a c i k : Nat} (h1 : ¬ i = a) (h2 : ¬ i = c) (h3 : ¬ k = a) (h4 : ¬ k = c) : sp_q2o a c i k = true := by unfold sp_q2o; rw [decide_eq_false h1, decide_eq_false h2, decide_eq_false h3, decide_eq_false h4]; rfl
theorem sp_q2o_f {a c i k : Nat} (h : i = a ∨ i = c ∨ k = a ∨ k = c) : sp_q2o a c i k = false := by
  unfold sp_q2o
  rcases h with z | z | z | z <;> rw [decide_eq_true z] <;> simp
def sp_q2 (T J : Nat → Nat) (w a c i : Nat) : Nat → Bool := fun k => decide (i < k) && (sp_q2o a c i k && decide (1000000 ≤ sp_lay T J w (1 <<< i ||| 1 <<< k) c a))
theorem sp_q2_i {T J : Nat → Nat} {w a c i k : Nat} (h : k < i + 1) : sp_q2 T J w a c i k = false := by unfold sp_q2; rw [decide_eq_false (by omega)]; rfl
theorem sp_q2_o {T J : Nat → Nat} {w a c i k : Nat} (h : sp_q2o a c i k = false) : sp_q2 T J w a c i k = false := by unfold sp_q2; rw [h, Bool.false_and, Bool.and_false]
theorem sp_q2_n {T J : Nat → Nat} {w a c i k : Nat} (h : decide (1000000 ≤ sp_lay T J w (1 <<< i ||| 1 <<< k) c a) = false) : sp_q2 T J w a c i k = false := by unfold sp_q2; rw [h, Bool.and_false, Bool.and_false]
theorem sp_q2_t {T J : Nat → Nat} {w a c i k : Nat} (h0 : i < k) (h1 : sp_q2o a c i k = true) (h : decide (1000000 ≤ sp_lay T J w (1 <<< i ||| 1 <<< k) c a) = true) : sp_q2 T J w a c i k = true := by unfold sp_q2; rw [h, h1, decide_eq_true h0]; rfl
def sp_q3 (T J : Nat → Nat) (w a c : Nat) : Nat → Bool := fun i => decide (sp_fst (sp_q2 T J w a c i) 25 < 25)
def sp_g2k (T J : Nat → Nat) (w a c i : Nat) (G : Nat → Nat) (n : Nat) : Nat → Nat := mj_fo (fun k (G : Nat → Nat) => if decide (i < k) && sp_q2o a c i k then sp_lay T J w (1 <<< i ||| 1 <<< k) c else G) G n
theorem sp_g2k_f {T J : Nat → Nat} {w a c i : Nat} {G : Nat → Nat} {n : Nat} (h : sp_q2o a c i n = false) : sp_g2k T J w a c i G (n + 1) = sp_g2k T J w a c i G n := if_neg (by rw [h, Bool.and_false]; decide)
theorem sp_g2k_t {T J : Nat → Nat} {w a c i : Nat} {G : Nat → Nat} {n : Nat} (h0 : i < n) (h : sp_q2o a c i n = true) : sp_g2k T J w a c i G (n + 1) = sp_lay T J w (1 <<< i ||| 1 <<< n) c := if_pos (by rw [h, decide_eq_true h0]; rfl)
theorem sp_g2k_0 {T J : Nat → Nat} {w a c i : Nat} {G : Nat → Nat} : ∀ n, n ≤ i + 1 → sp_g2k T J w a c i G n = G := by
  intro n
  induction n with
  | zero => exact fun _ => rfl
  | succ n ih => exact fun h => (if_neg (by rw [decide_eq_false (by omega)]; simp)).trans (ih (by omega))
def sp_g2 (T J : Nat → Nat) (w a c n : Nat) : Nat → Nat := mj_fo (fun i (G : Nat → Nat) => sp_g2k T J w a c i G 25) (sp_f1 T J w a c 25) n
theorem sp_g2_s {T J : Nat → Nat} {w a c n : Nat} : sp_g2 T J w a c (n + 1) = sp_g2k T J w a c n (sp_g2 T J w a c n) 25 := mj_fo_s
set_option maxHeartbeats 1000000 in
set_option maxRecDepth 10000 in
theorem ev_X11_partsOf_n {E : mj_E} {h : mj_H} {a0 a1 y2 y3 y4 y5 y6 : Nat} (H0 : h 100 = some (mj_mo a0 a1 y2 y3 y4 y5 y6)) {T : Nat → Nat} (HT : h 101 = some (mj_ar 362 T)) {J : Nat → Nat} (HJ : h 105 = some (mj_ar 25 J)) {F : Nat → Nat} (HF : h 106 = some (mj_ar 25 F)) (bT : mj_Tb T) (bJ : ∀ q, q < 25 → J q ≤ 99) {w a c : Nat} (h0 : w ≤ 198) (h1 : a < 25) (h2 : c < 25) (h3 : sp_lay T J w 0 c a < 1000000) (h4 : sp_fst (sp_q1 T J w a c) 25 = 25) (h5 : ∀ i, i < 25 → sp_fst (sp_q2 T J w a c i) 25 = 25) : mj_Ev E iX11_partsOf [.ref 100, .int (nI w), .int (nI a), .int (nI c)] h (mj_R (some (.int (nI 4294967295))) (mj_up h 106 (mj_ar 25 (sp_g2 T J w a c 25)))) := by
  refine mj_Ev.of (L0 := [some (.ref 100), some (.int (nI w)), some (.int (nI a)), some (.int (nI c)), none, none, none]) pnRX11 (Nat.le_of_ble_eq_true rfl) rfl ?_
  refine gj_aload_n dX11_partsOf_0 rfl ?_
  refine gj_iload_n dX11_partsOf_1 rfl ?_
  refine gj_iload_n dX11_partsOf_2 rfl ?_
  refine gj_iload_n dX11_partsOf_3 rfl ?_
  refine gj_ic (w := 0) dX11_partsOf_4 ?_
  refine gj_V1 lkX11_174 H0 rfl rfl (ev_X11_isParted H0 HT HJ HF bT bJ (by omega) (by omega) (by omega) (by omega)) dX11_partsOf_5 rfl rfl rfl rfl rfl ?_
  refine gj_if_eqb (tgt := 13) dX11_partsOf_8 rfl (fun zq1 => ?_) (fun zq1 => ?_)
  rotate_left
  · exfalso; exact absurd (decide_eq_false (Nat.not_le.mpr h3)) (by rw [zq1]; decide)
  refine gj_ic (w := 0) dX11_partsOf_13 ?_
  refine gj_istore (L' := [some (.ref 100), some (.int (nI w)), some (.int (nI a)), some (.int (nI c)), some (.int (nI 0)), none, none]) dX11_partsOf_14 (Nat.le_of_ble_eq_true rfl) rfl ?_
  refine gj_cast (L' := [some (.ref 100), some (.int (nI w)), some (.int (nI a)), some (.int (nI c)), some (.int (nI 0)), none, none]) (st' := []) (h' := mj_up h 106 (mj_ar 25 (sp_f1 T J w a c 0))) rfl rfl rfl ?_
  refine gj_loop (fun j => [some (.ref 100), some (.int (nI w)), some (.int (nI a)), some (.int (nI c)), some (.int (nI j)), none, none]) (fun j => mj_up h 106 (mj_ar 25 (sp_f1 T J w a c j))) 25 ?_ (fun j hj ih => ?_) 0 (Nat.zero_le _)
  · show gj _ _ _ _ _ _ [some (.ref 100), some (.int (nI w)), some (.int (nI a)), some (.int (nI c)), some (.int (nI 25)), none, none] _ _
    refine gj_iload dX11_partsOf_16 rfl ?_
    refine gj_bp 25 dX11_partsOf_18 (by decide) ?_
    refine gj_icmp_geN (tgt := 62) (by omega) (by omega) dX11_partsOf_20 rfl (fun zq0 => ?_) (fun zq0 => ?_)
    rotate_left
    · exfalso; omega
    refine gj_ic (w := 0) dX11_partsOf_62 ?_
    refine gj_istore (L' := [some (.ref 100), some (.int (nI w)), some (.int (nI a)), some (.int (nI c)), some (.int (nI 0)), none, none]) dX11_partsOf_63 (Nat.le_of_ble_eq_true rfl) rfl ?_
    refine gj_cast (L' := [some (.ref 100), some (.int (nI w)), some (.int (nI a)), some (.int (nI c)), some (.int (nI 0)), none, none]) (st' := []) (h' := mj_up h 106 (mj_ar 25 (sp_g2 T J w a c 0))) rfl rfl rfl ?_
    refine gj_loop (fun i => [some (.ref 100), some (.int (nI w)), some (.int (nI a)), some (.int (nI c)), some (.int (nI i)), none, none]) (fun i => mj_up h 106 (mj_ar 25 (sp_g2 T J w a c i))) 25 ?_ (fun i hi ihi => ?_) 0 (Nat.zero_le _)
    · show gj _ _ _ _ _ _ [some (.ref 100), some (.int (nI w)), some (.int (nI a)), some (.int (nI c)), some (.int (nI 25)), none, none] _ _
      refine gj_iload dX11_partsOf_65 rfl ?_
      refine gj_bp 25 dX11_partsOf_67 (by decide) ?_
      refine gj_icmp_geN (tgt := 161) (by omega) (by omega) dX11_partsOf_69 rfl (fun zq0 => ?_) (fun zq0 => ?_)
      rotate_left
      · exfalso; omega
      refine gj_iconst (v := (-1)) dX11_partsOf_161 (by decide) ?_
      refine gj_top (y := nI 4294967295) (by decide) ?_
      exact gj_ir rfl dX11_partsOf_162 rfl rfl rfl
    show gj _ _ _ _ _ _ [some (.ref 100), some (.int (nI w)), some (.int (nI a)), some (.int (nI c)), some (.int (nI i)), none, none] _ _
    refine gj_iload dX11_partsOf_65 rfl ?_
    refine gj_bp 25 dX11_partsOf_67 (by decide) ?_
    refine gj_icmp_geN (tgt := 161) (by omega) (by omega) dX11_partsOf_69 rfl (fun zq2 => ?_) (fun zq2 => ?_)
    · exfalso; omega
    refine gj_iload dX11_partsOf_72 rfl ?_
    refine gj_ic (w := 1) dX11_partsOf_74 ?_
    refine gj_iaddN  dX11_partsOf_75 ?_
    refine gj_istore (L' := [some (.ref 100), some (.int (nI w)), some (.int (nI a)), some (.int (nI c)), some (.int (nI i)), some (.int (nI (i + 1))), none]) dX11_partsOf_76 (Nat.le_of_ble_eq_true rfl) rfl ?_
    refine gj_cast (L' := [some (.ref 100), some (.int (nI w)), some (.int (nI a)), some (.int (nI c)), some (.int (nI i)), some (.int (nI (i + 1))), none]) (st' := []) (h' := mj_up h 106 (mj_ar 25 (sp_g2k T J w a c i (sp_g2 T J w a c i) (i + 1)))) rfl rfl (by rw [sp_g2k_0 _ (Nat.le_refl _)]) ?_
    refine gj_loopI (fun k => i < k) (fun k => [some (.ref 100), some (.int (nI w)), some (.int (nI a)), some (.int (nI c)), some (.int (nI i)), some (.int (nI k)), none]) (fun k => mj_up h 106 (mj_ar 25 (sp_g2k T J w a c i (sp_g2 T J w a c i) k))) 25 (fun hqk => ?_) (fun k hk hqk ihk => ?_) (i + 1) (by omega) (Nat.lt_succ_self i)
    · show gj _ _ _ _ _ _ [some (.ref 100), some (.int (nI w)), some (.int (nI a)), some (.int (nI c)), some (.int (nI i)), some (.int (nI 25)), none] _ _
      refine gj_iload dX11_partsOf_78 rfl ?_
      refine gj_bp 25 dX11_partsOf_80 (by decide) ?_
      refine gj_icmp_geN (tgt := 155) (by omega) (by omega) dX11_partsOf_82 rfl (fun zq0 => ?_) (fun zq0 => ?_)
      rotate_left
      · exfalso; omega
      refine gj_iincN (L' := [some (.ref 100), some (.int (nI w)), some (.int (nI a)), some (.int (nI c)), some (.int (nI (i + 1))), some (.int (nI 25)), none]) dX11_partsOf_155 rfl (Nat.le_of_ble_eq_true rfl) rfl ?_
      refine gj_goto (tgt := 65) dX11_partsOf_158 rfl ?_
      refine gj_forget (i := 5) (L' := [some (.ref 100), some (.int (nI w)), some (.int (nI a)), some (.int (nI c)), some (.int (nI (i + 1))), none, none]) rfl ?_
      exact gj_cast rfl rfl (by rw [sp_g2_s]) ihi
    show gj _ _ _ _ _ _ [some (.ref 100), some (.int (nI w)), some (.int (nI a)), some (.int (nI c)), some (.int (nI i)), some (.int (nI k)), none] _ _
    refine gj_iload dX11_partsOf_78 rfl ?_
    refine gj_bp 25 dX11_partsOf_80 (by decide) ?_
    refine gj_icmp_geN (tgt := 155) (by omega) (by omega) dX11_partsOf_82 rfl (fun zq3 => ?_) (fun zq3 => ?_)
    · exfalso; omega
    have hik := hqk
    refine gj_iload dX11_partsOf_85 rfl ?_
    refine gj_iload_n dX11_partsOf_87 rfl ?_
    refine gj_icmp_eqN (tgt := 113) (by omega) (by omega) dX11_partsOf_88 rfl (fun zq4 => ?_) (fun zq4 => ?_)
    · -- 88 taken
      have ho9 : sp_q2o a c i k = false := sp_q2o_f (Or.inl zq4)
      refine gj_ic (w := 0) dX11_partsOf_113 ?_
      refine gj_istore (L' := [some (.ref 100), some (.int (nI w)), some (.int (nI a)), some (.int (nI c)), some (.int (nI i)), some (.int (nI k)), some (.int (nI 0))]) dX11_partsOf_114 (Nat.le_of_ble_eq_true rfl) rfl ?_
      refine gj_iload dX11_partsOf_116 rfl ?_
      refine gj_if_eqN (tgt := 149) (by omega) dX11_partsOf_118 rfl (fun zq0 => ?_) (fun zq0 => ?_)
      rotate_left
      · exfalso; revert zq0; decide
      refine gj_iincN (L' := [some (.ref 100), some (.int (nI w)), some (.int (nI a)), some (.int (nI c)), some (.int (nI i)), some (.int (nI (k + 1))), some (.int (nI 0))]) dX11_partsOf_149 rfl (Nat.le_of_ble_eq_true rfl) rfl ?_
      refine gj_goto (tgt := 78) dX11_partsOf_152 rfl ?_
      refine gj_forget (i := 6) (L' := [some (.ref 100), some (.int (nI w)), some (.int (nI a)), some (.int (nI c)), some (.int (nI i)), some (.int (nI (k + 1))), none]) rfl ?_
      first | exact gj_cast rfl rfl (by rw [mj_up_up, sp_g2k_t hqk ho9]) (ihk (by omega)) | exact gj_cast rfl rfl (by rw [sp_g2k_f ho9]) (ihk (by omega))
    have hv1 := zq4
    refine gj_iload dX11_partsOf_91 rfl ?_
    refine gj_iload_n dX11_partsOf_93 rfl ?_
    refine gj_icmp_eqN (tgt := 113) (by omega) (by omega) dX11_partsOf_94 rfl (fun zq5 => ?_) (fun zq5 => ?_)
    · -- 94 taken
      have ho9 : sp_q2o a c i k = false := sp_q2o_f (Or.inr (Or.inl zq5))
      refine gj_ic (w := 0) dX11_partsOf_113 ?_
      refine gj_istore (L' := [some (.ref 100), some (.int (nI w)), some (.int (nI a)), some (.int (nI c)), some (.int (nI i)), some (.int (nI k)), some (.int (nI 0))]) dX11_partsOf_114 (Nat.le_of_ble_eq_true rfl) rfl ?_
      refine gj_iload dX11_partsOf_116 rfl ?_
      refine gj_if_eqN (tgt := 149) (by omega) dX11_partsOf_118 rfl (fun zq0 => ?_) (fun zq0 => ?_)
      rotate_left
      · exfalso; revert zq0; decide
      refine gj_iincN (L' := [some (.ref 100), some (.int (nI w)), some (.int (nI a)), some (.int (nI c)), some (.int (nI i)), some (.int (nI (k + 1))), some (.int (nI 0))]) dX11_partsOf_149 rfl (Nat.le_of_ble_eq_true rfl) rfl ?_
      refine gj_goto (tgt := 78) dX11_partsOf_152 rfl ?_
      refine gj_forget (i := 6) (L' := [some (.ref 100), some (.int (nI w)), some (.int (nI a)), some (.int (nI c)), some (.int (nI i)), some (.int (nI (k + 1))), none]) rfl ?_
      first | exact gj_cast rfl rfl (by rw [mj_up_up, sp_g2k_t hqk ho9]) (ihk (by omega)) | exact gj_cast rfl rfl (by rw [sp_g2k_f ho9]) (ihk (by omega))
    have hv2 := zq5
    refine gj_iload dX11_partsOf_97 rfl ?_
    refine gj_iload_n dX11_partsOf_99 rfl ?_
    refine gj_icmp_eqN (tgt := 113) (by omega) (by omega) dX11_partsOf_100 rfl (fun zq6 => ?_) (fun zq6 => ?_)
    · -- 100 taken
      have ho9 : sp_q2o a c i k = false := sp_q2o_f (Or.inr (Or.inr (Or.inl zq6)))
      refine gj_ic (w := 0) dX11_partsOf_113 ?_
      refine gj_istore (L' := [some (.ref 100), some (.int (nI w)), some (.int (nI a)), some (.int (nI c)), some (.int (nI i)), some (.int (nI k)), some (.int (nI 0))]) dX11_partsOf_114 (Nat.le_of_ble_eq_true rfl) rfl ?_
      refine gj_iload dX11_partsOf_116 rfl ?_
      refine gj_if_eqN (tgt := 149) (by omega) dX11_partsOf_118 rfl (fun zq0 => ?_) (fun zq0 => ?_)
      rotate_left
      · exfalso; revert zq0; decide
      refine gj_iincN (L' := [some (.ref 100), some (.int (nI w)), some (.int (nI a)), some (.int (nI c)), some (.int (nI i)), some (.int (nI (k + 1))), some (.int (nI 0))]) dX11_partsOf_149 rfl (Nat.le_of_ble_eq_true rfl) rfl ?_
      refine gj_goto (tgt := 78) dX11_partsOf_152 rfl ?_
      refine gj_forget (i := 6) (L' := [some (.ref 100), some (.int (nI w)), some (.int (nI a)), some (.int (nI c)), some (.int (nI i)), some (.int (nI (k + 1))), none]) rfl ?_
      first | exact gj_cast rfl rfl (by rw [mj_up_up, sp_g2k_t hqk ho9]) (ihk (by omega)) | exact gj_cast rfl rfl (by rw [sp_g2k_f ho9]) (ihk (by omega))
    have hv3 := zq6
    refine gj_iload dX11_partsOf_103 rfl ?_
    refine gj_iload_n dX11_partsOf_105 rfl ?_
    refine gj_icmp_eqN (tgt := 113) (by omega) (by omega) dX11_partsOf_106 rfl (fun zq7 => ?_) (fun zq7 => ?_)
    · -- 106 taken
      have ho9 : sp_q2o a c i k = false := sp_q2o_f (Or.inr (Or.inr (Or.inr zq7)))
      refine gj_ic (w := 0) dX11_partsOf_113 ?_
      refine gj_istore (L' := [some (.ref 100), some (.int (nI w)), some (.int (nI a)), some (.int (nI c)), some (.int (nI i)), some (.int (nI k)), some (.int (nI 0))]) dX11_partsOf_114 (Nat.le_of_ble_eq_true rfl) rfl ?_
      refine gj_iload dX11_partsOf_116 rfl ?_
      refine gj_if_eqN (tgt := 149) (by omega) dX11_partsOf_118 rfl (fun zq0 => ?_) (fun zq0 => ?_)
      rotate_left
      · exfalso; revert zq0; decide
      refine gj_iincN (L' := [some (.ref 100), some (.int (nI w)), some (.int (nI a)), some (.int (nI c)), some (.int (nI i)), some (.int (nI (k + 1))), some (.int (nI 0))]) dX11_partsOf_149 rfl (Nat.le_of_ble_eq_true rfl) rfl ?_
      refine gj_goto (tgt := 78) dX11_partsOf_152 rfl ?_
      refine gj_forget (i := 6) (L' := [some (.ref 100), some (.int (nI w)), some (.int (nI a)), some (.int (nI c)), some (.int (nI i)), some (.int (nI (k + 1))), none]) rfl ?_
      first | exact gj_cast rfl rfl (by rw [mj_up_up, sp_g2k_t hqk ho9]) (ihk (by omega)) | exact gj_cast rfl rfl (by rw [sp_g2k_f ho9]) (ihk (by omega))
    have ho9 : sp_q2o a c i k = true := sp_q2o_t hv1 hv2 hv3 zq7
    refine gj_ic (w := 1) dX11_partsOf_109 ?_
    refine gj_goto (tgt := 114) dX11_partsOf_110 rfl ?_
    refine gj_istore (L' := [some (.ref 100), some (.int (nI w)), some (.int (nI a)), some (.int (nI c)), some (.int (nI i)), some (.int (nI k)), some (.int (nI 1))]) dX11_partsOf_114 (Nat.le_of_ble_eq_true rfl) rfl ?_
    refine gj_iload dX11_partsOf_116 rfl ?_
    refine gj_if_eqN (tgt := 149) (by omega) dX11_partsOf_118 rfl (fun zq0 => ?_) (fun zq0 => ?_)
    · exfalso; revert zq0; decide
    have hb7 := ly_sh hi
    have hb8 := ly_sh hk
    have hb9 := Nat.or_lt_two_pow hb7 hb8
    refine gj_aload_n dX11_partsOf_121 rfl ?_
    refine gj_iload_n dX11_partsOf_122 rfl ?_
    refine gj_iload_n dX11_partsOf_123 rfl ?_
    refine gj_iload_n dX11_partsOf_124 rfl ?_
    refine gj_ic (w := 1) dX11_partsOf_125 ?_
    refine gj_iload dX11_partsOf_126 rfl ?_
    refine gj_ishlN (by omega) dX11_partsOf_128 ?_
    refine gj_ic (w := 1) dX11_partsOf_129 ?_
    refine gj_iload dX11_partsOf_130 rfl ?_
    refine gj_ishlN (by omega) dX11_partsOf_132 ?_
    refine gj_iorN  dX11_partsOf_133 ?_
    refine gj_V1 lkX11_174 ((mj_up_ne (by decide)).trans H0) rfl rfl (ev_X11_isParted ((mj_up_ne (by decide)).trans H0) ((mj_up_ne (by decide)).trans HT) ((mj_up_ne (by decide)).trans HJ) (mj_up_eq _ _ _) bT bJ (by omega) (by omega) (by omega) (by omega)) dX11_partsOf_134 rfl rfl rfl rfl rfl ?_
    refine gj_if_eqb (tgt := 149) dX11_partsOf_137 rfl (fun zq8 => ?_) (fun zq8 => ?_)
    rotate_left
    · exfalso; exact absurd ((sp_q2_t hik ho9 zq8).symm.trans (sp_fst_f (by rw [h5 i hi]; exact hk))) (by decide)
    refine gj_iincN (L' := [some (.ref 100), some (.int (nI w)), some (.int (nI a)), some (.int (nI c)), some (.int (nI i)), some (.int (nI (k + 1))), some (.int (nI 1))]) dX11_partsOf_149 rfl (Nat.le_of_ble_eq_true rfl) rfl ?_
    refine gj_goto (tgt := 78) dX11_partsOf_152 rfl ?_
    refine gj_forget (i := 6) (L' := [some (.ref 100), some (.int (nI w)), some (.int (nI a)), some (.int (nI c)), some (.int (nI i)), some (.int (nI (k + 1))), none]) rfl ?_
    first | exact gj_cast rfl rfl (by rw [mj_up_up, sp_g2k_t hqk ho9]) (ihk (by omega)) | exact gj_cast rfl rfl (by rw [sp_g2k_f ho9]) (ihk (by omega))
  show gj _ _ _ _ _ _ [some (.ref 100), some (.int (nI w)), some (.int (nI a)), some (.int (nI c)), some (.int (nI j)), none, none] _ _
  refine gj_iload dX11_partsOf_16 rfl ?_
  refine gj_bp 25 dX11_partsOf_18 (by decide) ?_
  refine gj_icmp_geN (tgt := 62) (by omega) (by omega) dX11_partsOf_20 rfl (fun zq9 => ?_) (fun zq9 => ?_)
  · exfalso; omega
  refine gj_iload dX11_partsOf_23 rfl ?_
  refine gj_iload_n dX11_partsOf_25 rfl ?_
  refine gj_icmp_eqN (tgt := 56) (by omega) (by omega) dX11_partsOf_26 rfl (fun zq10 => ?_) (fun zq10 => ?_)
  · -- 26 taken
    have he8 := zq10
    refine gj_iincN (L' := [some (.ref 100), some (.int (nI w)), some (.int (nI a)), some (.int (nI c)), some (.int (nI (j + 1))), none, none]) dX11_partsOf_56 rfl (Nat.le_of_ble_eq_true rfl) rfl ?_
    refine gj_goto (tgt := 16) dX11_partsOf_59 rfl ?_
    first | exact gj_cast rfl rfl (by rw [mj_up_up, sp_f1_l he8 he9]) ih | exact gj_cast rfl rfl (by rw [sp_f1_e (Or.inl he8)]) ih | exact gj_cast rfl rfl (by rw [sp_f1_e (Or.inr he9)]) ih
  have he8 := zq10
  refine gj_iload dX11_partsOf_29 rfl ?_
  refine gj_iload_n dX11_partsOf_31 rfl ?_
  refine gj_icmp_eqN (tgt := 56) (by omega) (by omega) dX11_partsOf_32 rfl (fun zq11 => ?_) (fun zq11 => ?_)
  · -- 32 taken
    have he9 := zq11
    refine gj_iincN (L' := [some (.ref 100), some (.int (nI w)), some (.int (nI a)), some (.int (nI c)), some (.int (nI (j + 1))), none, none]) dX11_partsOf_56 rfl (Nat.le_of_ble_eq_true rfl) rfl ?_
    refine gj_goto (tgt := 16) dX11_partsOf_59 rfl ?_
    first | exact gj_cast rfl rfl (by rw [mj_up_up, sp_f1_l he8 he9]) ih | exact gj_cast rfl rfl (by rw [sp_f1_e (Or.inl he8)]) ih | exact gj_cast rfl rfl (by rw [sp_f1_e (Or.inr he9)]) ih
  have he9 := zq11
  have hb8 := ly_sh hj
  refine gj_aload_n dX11_partsOf_35 rfl ?_
  refine gj_iload_n dX11_partsOf_36 rfl ?_
  refine gj_iload_n dX11_partsOf_37 rfl ?_
  refine gj_iload_n dX11_partsOf_38 rfl ?_
  refine gj_ic (w := 1) dX11_partsOf_39 ?_
  refine gj_iload dX11_partsOf_40 rfl ?_
  refine gj_ishlN (by omega) dX11_partsOf_42 ?_
  refine gj_V1 lkX11_174 ((mj_up_ne (by decide)).trans H0) rfl rfl (ev_X11_isParted ((mj_up_ne (by decide)).trans H0) ((mj_up_ne (by decide)).trans HT) ((mj_up_ne (by decide)).trans HJ) (mj_up_eq _ _ _) bT bJ (by omega) (by omega) (by omega) (by omega)) dX11_partsOf_43 rfl rfl rfl rfl rfl ?_
  refine gj_if_eqb (tgt := 56) dX11_partsOf_46 rfl (fun zq12 => ?_) (fun zq12 => ?_)
  rotate_left
  · exfalso; exact absurd ((sp_q1_t he8 he9 zq12).symm.trans (sp_fst_f (by rw [h4]; exact hj))) (by decide)
  refine gj_iincN (L' := [some (.ref 100), some (.int (nI w)), some (.int (nI a)), some (.int (nI c)), some (.int (nI (j + 1))), none, none]) dX11_partsOf_56 rfl (Nat.le_of_ble_eq_true rfl) rfl ?_
  refine gj_goto (tgt := 16) dX11_partsOf_59 rfl ?_
  first | exact gj_cast rfl rfl (by rw [mj_up_up, sp_f1_l he8 he9]) ih | exact gj_cast rfl rfl (by rw [sp_f1_e (Or.inl he8)]) ih | exact gj_cast rfl rfl (by rw [sp_f1_e (Or.inr he9)]) ih
set_option maxHeartbeats 1000000 in
set_option maxRecDepth 10000 in
theorem ev_X11_partsOf_2 {E : mj_E} {h : mj_H} {a0 a1 y2 y3 y4 y5 y6 : Nat} (H0 : h 100 = some (mj_mo a0 a1 y2 y3 y4 y5 y6)) {T : Nat → Nat} (HT : h 101 = some (mj_ar 362 T)) {J : Nat → Nat} (HJ : h 105 = some (mj_ar 25 J)) {F : Nat → Nat} (HF : h 106 = some (mj_ar 25 F)) (bT : mj_Tb T) (bJ : ∀ q, q < 25 → J q ≤ 99) {w a c : Nat} (h0 : w ≤ 198) (h1 : a < 25) (h2 : c < 25) (h3 : sp_lay T J w 0 c a < 1000000) (h4 : sp_fst (sp_q1 T J w a c) 25 = 25) (h5 : sp_fst (sp_q3 T J w a c) 25 < 25) : mj_Ev E iX11_partsOf [.ref 100, .int (nI w), .int (nI a), .int (nI c)] h (mj_R (some (.int (nI (32 * sp_fst (sp_q3 T J w a c) 25 + sp_fst (sp_q2 T J w a c (sp_fst (sp_q3 T J w a c) 25)) 25)))) (mj_up h 106 (mj_ar 25 (sp_lay T J w (1 <<< sp_fst (sp_q3 T J w a c) 25 ||| 1 <<< sp_fst (sp_q2 T J w a c (sp_fst (sp_q3 T J w a c) 25)) 25) c)))) := by
  refine mj_Ev.of (L0 := [some (.ref 100), some (.int (nI w)), some (.int (nI a)), some (.int (nI c)), none, none, none]) pnRX11 (Nat.le_of_ble_eq_true rfl) rfl ?_
  refine gj_aload_n dX11_partsOf_0 rfl ?_
  refine gj_iload_n dX11_partsOf_1 rfl ?_
  refine gj_iload_n dX11_partsOf_2 rfl ?_
  refine gj_iload_n dX11_partsOf_3 rfl ?_
  refine gj_ic (w := 0) dX11_partsOf_4 ?_
  refine gj_V1 lkX11_174 H0 rfl rfl (ev_X11_isParted H0 HT HJ HF bT bJ (by omega) (by omega) (by omega) (by omega)) dX11_partsOf_5 rfl rfl rfl rfl rfl ?_
  refine gj_if_eqb (tgt := 13) dX11_partsOf_8 rfl (fun zq1 => ?_) (fun zq1 => ?_)
  rotate_left
  · exfalso; exact absurd (decide_eq_false (Nat.not_le.mpr h3)) (by rw [zq1]; decide)
  refine gj_ic (w := 0) dX11_partsOf_13 ?_
  refine gj_istore (L' := [some (.ref 100), some (.int (nI w)), some (.int (nI a)), some (.int (nI c)), some (.int (nI 0)), none, none]) dX11_partsOf_14 (Nat.le_of_ble_eq_true rfl) rfl ?_
  refine gj_cast (L' := [some (.ref 100), some (.int (nI w)), some (.int (nI a)), some (.int (nI c)), some (.int (nI 0)), none, none]) (st' := []) (h' := mj_up h 106 (mj_ar 25 (sp_f1 T J w a c 0))) rfl rfl rfl ?_
  refine gj_loop (fun j => [some (.ref 100), some (.int (nI w)), some (.int (nI a)), some (.int (nI c)), some (.int (nI j)), none, none]) (fun j => mj_up h 106 (mj_ar 25 (sp_f1 T J w a c j))) 25 ?_ (fun j hj ih => ?_) 0 (Nat.zero_le _)
  · show gj _ _ _ _ _ _ [some (.ref 100), some (.int (nI w)), some (.int (nI a)), some (.int (nI c)), some (.int (nI 25)), none, none] _ _
    refine gj_iload dX11_partsOf_16 rfl ?_
    refine gj_bp 25 dX11_partsOf_18 (by decide) ?_
    refine gj_icmp_geN (tgt := 62) (by omega) (by omega) dX11_partsOf_20 rfl (fun zq0 => ?_) (fun zq0 => ?_)
    rotate_left
    · exfalso; omega
    refine gj_ic (w := 0) dX11_partsOf_62 ?_
    refine gj_istore (L' := [some (.ref 100), some (.int (nI w)), some (.int (nI a)), some (.int (nI c)), some (.int (nI 0)), none, none]) dX11_partsOf_63 (Nat.le_of_ble_eq_true rfl) rfl ?_
    refine gj_cast (L' := [some (.ref 100), some (.int (nI w)), some (.int (nI a)), some (.int (nI c)), some (.int (nI 0)), none, none]) (st' := []) (h' := mj_up h 106 (mj_ar 25 (sp_g2 T J w a c 0))) rfl rfl rfl ?_
    refine gj_loopI (fun i => ∀ q, q < i → (sp_q3 T J w a c) q = false) (fun i => [some (.ref 100), some (.int (nI w)), some (.int (nI a)), some (.int (nI c)), some (.int (nI i)), none, none]) (fun i => mj_up h 106 (mj_ar 25 (sp_g2 T J w a c i))) 25 (fun hqi => ?_) (fun i hi hqi ihi => ?_) 0 (Nat.zero_le _) (fun q hq9 => absurd hq9 (Nat.not_lt_zero _))
    · show gj _ _ _ _ _ _ [some (.ref 100), some (.int (nI w)), some (.int (nI a)), some (.int (nI c)), some (.int (nI 25)), none, none] _ _
      exact absurd (sp_fst_none hqi) (by omega)
    show gj _ _ _ _ _ _ [some (.ref 100), some (.int (nI w)), some (.int (nI a)), some (.int (nI c)), some (.int (nI i)), none, none] _ _
    refine gj_iload dX11_partsOf_65 rfl ?_
    refine gj_bp 25 dX11_partsOf_67 (by decide) ?_
    refine gj_icmp_geN (tgt := 161) (by omega) (by omega) dX11_partsOf_69 rfl (fun zq2 => ?_) (fun zq2 => ?_)
    · exfalso; omega
    refine gj_iload dX11_partsOf_72 rfl ?_
    refine gj_ic (w := 1) dX11_partsOf_74 ?_
    refine gj_iaddN  dX11_partsOf_75 ?_
    refine gj_istore (L' := [some (.ref 100), some (.int (nI w)), some (.int (nI a)), some (.int (nI c)), some (.int (nI i)), some (.int (nI (i + 1))), none]) dX11_partsOf_76 (Nat.le_of_ble_eq_true rfl) rfl ?_
    refine gj_cast (L' := [some (.ref 100), some (.int (nI w)), some (.int (nI a)), some (.int (nI c)), some (.int (nI i)), some (.int (nI (i + 1))), none]) (st' := []) (h' := mj_up h 106 (mj_ar 25 (sp_g2k T J w a c i (sp_g2 T J w a c i) (i + 1)))) rfl rfl (by rw [sp_g2k_0 _ (Nat.le_refl _)]) ?_
    refine gj_loopI (fun k => i < k ∧ ∀ q, q < k → (sp_q2 T J w a c i) q = false) (fun k => [some (.ref 100), some (.int (nI w)), some (.int (nI a)), some (.int (nI c)), some (.int (nI i)), some (.int (nI k)), none]) (fun k => mj_up h 106 (mj_ar 25 (sp_g2k T J w a c i (sp_g2 T J w a c i) k))) 25 (fun hqk => ?_) (fun k hk hqk ihk => ?_) (i + 1) (by omega) ⟨Nat.lt_succ_self i, fun q hq9 => sp_q2_i hq9⟩
    · show gj _ _ _ _ _ _ [some (.ref 100), some (.int (nI w)), some (.int (nI a)), some (.int (nI c)), some (.int (nI i)), some (.int (nI 25)), none] _ _
      have hn8 : (sp_q3 T J w a c) i = false := decide_eq_false (by rw [sp_fst_none hqk.2]; decide)
      refine gj_iload dX11_partsOf_78 rfl ?_
      refine gj_bp 25 dX11_partsOf_80 (by decide) ?_
      refine gj_icmp_geN (tgt := 155) (by omega) (by omega) dX11_partsOf_82 rfl (fun zq0 => ?_) (fun zq0 => ?_)
      rotate_left
      · exfalso; omega
      refine gj_iincN (L' := [some (.ref 100), some (.int (nI w)), some (.int (nI a)), some (.int (nI c)), some (.int (nI (i + 1))), some (.int (nI 25)), none]) dX11_partsOf_155 rfl (Nat.le_of_ble_eq_true rfl) rfl ?_
      refine gj_goto (tgt := 65) dX11_partsOf_158 rfl ?_
      refine gj_forget (i := 5) (L' := [some (.ref 100), some (.int (nI w)), some (.int (nI a)), some (.int (nI c)), some (.int (nI (i + 1))), none, none]) rfl ?_
      exact gj_cast rfl rfl (by rw [sp_g2_s]) (ihi (fun q hq9 => by by_cases z : q = i <;> first | (subst z; exact hn8) | exact hqi q (by omega)))
    show gj _ _ _ _ _ _ [some (.ref 100), some (.int (nI w)), some (.int (nI a)), some (.int (nI c)), some (.int (nI i)), some (.int (nI k)), none] _ _
    refine gj_iload dX11_partsOf_78 rfl ?_
    refine gj_bp 25 dX11_partsOf_80 (by decide) ?_
    refine gj_icmp_geN (tgt := 155) (by omega) (by omega) dX11_partsOf_82 rfl (fun zq3 => ?_) (fun zq3 => ?_)
    · exfalso; omega
    have hik := hqk.1
    refine gj_iload dX11_partsOf_85 rfl ?_
    refine gj_iload_n dX11_partsOf_87 rfl ?_
    refine gj_icmp_eqN (tgt := 113) (by omega) (by omega) dX11_partsOf_88 rfl (fun zq4 => ?_) (fun zq4 => ?_)
    · -- 88 taken
      have ho9 : sp_q2o a c i k = false := sp_q2o_f (Or.inl zq4)
      have hn9 : (sp_q2 T J w a c i) k = false := sp_q2_o ho9
      refine gj_ic (w := 0) dX11_partsOf_113 ?_
      refine gj_istore (L' := [some (.ref 100), some (.int (nI w)), some (.int (nI a)), some (.int (nI c)), some (.int (nI i)), some (.int (nI k)), some (.int (nI 0))]) dX11_partsOf_114 (Nat.le_of_ble_eq_true rfl) rfl ?_
      refine gj_iload dX11_partsOf_116 rfl ?_
      refine gj_if_eqN (tgt := 149) (by omega) dX11_partsOf_118 rfl (fun zq0 => ?_) (fun zq0 => ?_)
      rotate_left
      · exfalso; revert zq0; decide
      refine gj_iincN (L' := [some (.ref 100), some (.int (nI w)), some (.int (nI a)), some (.int (nI c)), some (.int (nI i)), some (.int (nI (k + 1))), some (.int (nI 0))]) dX11_partsOf_149 rfl (Nat.le_of_ble_eq_true rfl) rfl ?_
      refine gj_goto (tgt := 78) dX11_partsOf_152 rfl ?_
      refine gj_forget (i := 6) (L' := [some (.ref 100), some (.int (nI w)), some (.int (nI a)), some (.int (nI c)), some (.int (nI i)), some (.int (nI (k + 1))), none]) rfl ?_
      first | exact gj_cast rfl rfl (by rw [mj_up_up, sp_g2k_t hik ho9]) (ihk ⟨by omega, fun q hq9 => by by_cases z : q = k <;> first | (subst z; exact hn9) | exact hqk.2 q (by omega)⟩) | exact gj_cast rfl rfl (by rw [sp_g2k_f ho9]) (ihk ⟨by omega, fun q hq9 => by by_cases z : q = k <;> first | (subst z; exact hn9) | exact hqk.2 q (by omega)⟩)
    have hv1 := zq4
    refine gj_iload dX11_partsOf_91 rfl ?_
    refine gj_iload_n dX11_partsOf_93 rfl ?_
    refine gj_icmp_eqN (tgt := 113) (by omega) (by omega) dX11_partsOf_94 rfl (fun zq5 => ?_) (fun zq5 => ?_)
    · -- 94 taken
      have ho9 : sp_q2o a c i k = false := sp_q2o_f (Or.inr (Or.inl zq5))
      have hn9 : (sp_q2 T J w a c i) k = false := sp_q2_o ho9
      refine gj_ic (w := 0) dX11_partsOf_113 ?_
      refine gj_istore (L' := [some (.ref 100), some (.int (nI w)), some (.int (nI a)), some (.int (nI c)), some (.int (nI i)), some (.int (nI k)), some (.int (nI 0))]) dX11_partsOf_114 (Nat.le_of_ble_eq_true rfl) rfl ?_
      refine gj_iload dX11_partsOf_116 rfl ?_
      refine gj_if_eqN (tgt := 149) (by omega) dX11_partsOf_118 rfl (fun zq0 => ?_) (fun zq0 => ?_)
      rotate_left
      · exfalso; revert zq0; decide
      refine gj_iincN (L' := [some (.ref 100), some (.int (nI w)), some (.int (nI a)), some (.int (nI c)), some (.int (nI i)), some (.int (nI (k + 1))), some (.int (nI 0))]) dX11_partsOf_149 rfl (Nat.le_of_ble_eq_true rfl) rfl ?_
      refine gj_goto (tgt := 78) dX11_partsOf_152 rfl ?_
      refine gj_forget (i := 6) (L' := [some (.ref 100), some (.int (nI w)), some (.int (nI a)), some (.int (nI c)), some (.int (nI i)), some (.int (nI (k + 1))), none]) rfl ?_
      first | exact gj_cast rfl rfl (by rw [mj_up_up, sp_g2k_t hik ho9]) (ihk ⟨by omega, fun q hq9 => by by_cases z : q = k <;> first | (subst z; exact hn9) | exact hqk.2 q (by omega)⟩) | exact gj_cast rfl rfl (by rw [sp_g2k_f ho9]) (ihk ⟨by omega, fun q hq9 => by by_cases z : q = k <;> first | (subst z; exact hn9) | exact hqk.2 q (by omega)⟩)
    have hv2 := zq5
    refine gj_iload dX11_partsOf_97 rfl ?_
    refine gj_iload_n dX11_partsOf_99 rfl ?_
    refine gj_icmp_eqN (tgt := 113) (by omega) (by omega) dX11_partsOf_100 rfl (fun zq6 => ?_) (fun zq6 => ?_)
    · -- 100 taken
      have ho9 : sp_q2o a c i k = false := sp_q2o_f (Or.inr (Or.inr (Or.inl zq6)))
      have hn9 : (sp_q2 T J w a c i) k = false := sp_q2_o ho9
      refine gj_ic (w := 0) dX11_partsOf_113 ?_
      refine gj_istore (L' := [some (.ref 100), some (.int (nI w)), some (.int (nI a)), some (.int (nI c)), some (.int (nI i)), some (.int (nI k)), some (.int (nI 0))]) dX11_partsOf_114 (Nat.le_of_ble_eq_true rfl) rfl ?_
      refine gj_iload dX11_partsOf_116 rfl ?_
      refine gj_if_eqN (tgt := 149) (by omega) dX11_partsOf_118 rfl (fun zq0 => ?_) (fun zq0 => ?_)
      rotate_left
      · exfalso; revert zq0; decide
      refine gj_iincN (L' := [some (.ref 100), some (.int (nI w)), some (.int (nI a)), some (.int (nI c)), some (.int (nI i)), some (.int (nI (k + 1))), some (.int (nI 0))]) dX11_partsOf_149 rfl (Nat.le_of_ble_eq_true rfl) rfl ?_
      refine gj_goto (tgt := 78) dX11_partsOf_152 rfl ?_
      refine gj_forget (i := 6) (L' := [some (.ref 100), some (.int (nI w)), some (.int (nI a)), some (.int (nI c)), some (.int (nI i)), some (.int (nI (k + 1))), none]) rfl ?_
      first | exact gj_cast rfl rfl (by rw [mj_up_up, sp_g2k_t hik ho9]) (ihk ⟨by omega, fun q hq9 => by by_cases z : q = k <;> first | (subst z; exact hn9) | exact hqk.2 q (by omega)⟩) | exact gj_cast rfl rfl (by rw [sp_g2k_f ho9]) (ihk ⟨by omega, fun q hq9 => by by_cases z : q = k <;> first | (subst z; exact hn9) | exact hqk.2 q (by omega)⟩)
    have hv3 := zq6
    refine gj_iload dX11_partsOf_103 rfl ?_
    refine gj_iload_n dX11_partsOf_105 rfl ?_
    refine gj_icmp_eqN (tgt := 113) (by omega) (by omega) dX11_partsOf_106 rfl (fun zq7 => ?_) (fun zq7 => ?_)
    · -- 106 taken
      have ho9 : sp_q2o a c i k = false := sp_q2o_f (Or.inr (Or.inr (Or.inr zq7)))
      have hn9 : (sp_q2 T J w a c i) k = false := sp_q2_o ho9
      refine gj_ic (w := 0) dX11_partsOf_113 ?_
      refine gj_istore (L' := [some (.ref 100), some (.int (nI w)), some (.int (nI a)), some (.int (nI c)), some (.int (nI i)), some (.int (nI k)), some (.int (nI 0))]) dX11_partsOf_114 (Nat.le_of_ble_eq_true rfl) rfl ?_
      refine gj_iload dX11_partsOf_116 rfl ?_
      refine gj_if_eqN (tgt := 149) (by omega) dX11_partsOf_118 rfl (fun zq0 => ?_) (fun zq0 => ?_)
      rotate_left
      · exfalso; revert zq0; decide
      refine gj_iincN (L' := [some (.ref 100), some (.int (nI w)), some (.int (nI a)), some (.int (nI c)), some (.int (nI i)), some (.int (nI (k + 1))), some (.int (nI 0))]) dX11_partsOf_149 rfl (Nat.le_of_ble_eq_true rfl) rfl ?_
      refine gj_goto (tgt := 78) dX11_partsOf_152 rfl ?_
      refine gj_forget (i := 6) (L' := [some (.ref 100), some (.int (nI w)), some (.int (nI a)), some (.int (nI c)), some (.int (nI i)), some (.int (nI (k + 1))), none]) rfl ?_
      first | exact gj_cast rfl rfl (by rw [mj_up_up, sp_g2k_t hik ho9]) (ihk ⟨by omega, fun q hq9 => by by_cases z : q = k <;> first | (subst z; exact hn9) | exact hqk.2 q (by omega)⟩) | exact gj_cast rfl rfl (by rw [sp_g2k_f ho9]) (ihk ⟨by omega, fun q hq9 => by by_cases z : q = k <;> first | (subst z; exact hn9) | exact hqk.2 q (by omega)⟩)
    have ho9 : sp_q2o a c i k = true := sp_q2o_t hv1 hv2 hv3 zq7
    refine gj_ic (w := 1) dX11_partsOf_109 ?_
    refine gj_goto (tgt := 114) dX11_partsOf_110 rfl ?_
    refine gj_istore (L' := [some (.ref 100), some (.int (nI w)), some (.int (nI a)), some (.int (nI c)), some (.int (nI i)), some (.int (nI k)), some (.int (nI 1))]) dX11_partsOf_114 (Nat.le_of_ble_eq_true rfl) rfl ?_
    refine gj_iload dX11_partsOf_116 rfl ?_
    refine gj_if_eqN (tgt := 149) (by omega) dX11_partsOf_118 rfl (fun zq0 => ?_) (fun zq0 => ?_)
    · exfalso; revert zq0; decide
    have hb7 := ly_sh hi
    have hb8 := ly_sh hk
    have hb9 := Nat.or_lt_two_pow hb7 hb8
    refine gj_aload_n dX11_partsOf_121 rfl ?_
    refine gj_iload_n dX11_partsOf_122 rfl ?_
    refine gj_iload_n dX11_partsOf_123 rfl ?_
    refine gj_iload_n dX11_partsOf_124 rfl ?_
    refine gj_ic (w := 1) dX11_partsOf_125 ?_
    refine gj_iload dX11_partsOf_126 rfl ?_
    refine gj_ishlN (by omega) dX11_partsOf_128 ?_
    refine gj_ic (w := 1) dX11_partsOf_129 ?_
    refine gj_iload dX11_partsOf_130 rfl ?_
    refine gj_ishlN (by omega) dX11_partsOf_132 ?_
    refine gj_iorN  dX11_partsOf_133 ?_
    refine gj_V1 lkX11_174 ((mj_up_ne (by decide)).trans H0) rfl rfl (ev_X11_isParted ((mj_up_ne (by decide)).trans H0) ((mj_up_ne (by decide)).trans HT) ((mj_up_ne (by decide)).trans HJ) (mj_up_eq _ _ _) bT bJ (by omega) (by omega) (by omega) (by omega)) dX11_partsOf_134 rfl rfl rfl rfl rfl ?_
    refine gj_if_eqb (tgt := 149) dX11_partsOf_137 rfl (fun zq8 => ?_) (fun zq8 => ?_)
    · -- 137 taken
      have hn9 : (sp_q2 T J w a c i) k = false := sp_q2_n zq8
      refine gj_iincN (L' := [some (.ref 100), some (.int (nI w)), some (.int (nI a)), some (.int (nI c)), some (.int (nI i)), some (.int (nI (k + 1))), some (.int (nI 1))]) dX11_partsOf_149 rfl (Nat.le_of_ble_eq_true rfl) rfl ?_
      refine gj_goto (tgt := 78) dX11_partsOf_152 rfl ?_
      refine gj_forget (i := 6) (L' := [some (.ref 100), some (.int (nI w)), some (.int (nI a)), some (.int (nI c)), some (.int (nI i)), some (.int (nI (k + 1))), none]) rfl ?_
      first | exact gj_cast rfl rfl (by rw [mj_up_up, sp_g2k_t hik ho9]) (ihk ⟨by omega, fun q hq9 => by by_cases z : q = k <;> first | (subst z; exact hn9) | exact hqk.2 q (by omega)⟩) | exact gj_cast rfl rfl (by rw [sp_g2k_f ho9]) (ihk ⟨by omega, fun q hq9 => by by_cases z : q = k <;> first | (subst z; exact hn9) | exact hqk.2 q (by omega)⟩)
    have hp9 : (sp_q2 T J w a c i) k = true := sp_q2_t hik ho9 zq8
    have hy9 : sp_fst (sp_q2 T J w a c i) 25 = k := sp_fst_at hk hp9 hqk.2
    have hx9 : sp_fst (sp_q3 T J w a c) 25 = i := sp_fst_at hi (decide_eq_true (by omega)) hqi
    refine gj_bp 32 dX11_partsOf_140 (by decide) ?_
    refine gj_iload dX11_partsOf_142 rfl ?_
    refine gj_imulN  dX11_partsOf_144 ?_
    refine gj_iload dX11_partsOf_145 rfl ?_
    refine gj_iaddN  dX11_partsOf_147 ?_
    exact gj_ir rfl dX11_partsOf_148 rfl (congrArg nI (by rw [hx9, hy9])) (by rw [hx9, hy9, mj_up_up])
  show gj _ _ _ _ _ _ [some (.ref 100), some (.int (nI w)), some (.int (nI a)), some (.int (nI c)), some (.int (nI j)), none, none] _ _
  refine gj_iload dX11_partsOf_16 rfl ?_
  refine gj_bp 25 dX11_partsOf_18 (by decide) ?_
  refine gj_icmp_geN (tgt := 62) (by omega) (by omega) dX11_partsOf_20 rfl (fun zq9 => ?_) (fun zq9 => ?_)
  · exfalso; omega
  refine gj_iload dX11_partsOf_23 rfl ?_
  refine gj_iload_n dX11_partsOf_25 rfl ?_
  refine gj_icmp_eqN (tgt := 56) (by omega) (by omega) dX11_partsOf_26 rfl (fun zq10 => ?_) (fun zq10 => ?_)
  · -- 26 taken
    have he8 := zq10
    refine gj_iincN (L' := [some (.ref 100), some (.int (nI w)), some (.int (nI a)), some (.int (nI c)), some (.int (nI (j + 1))), none, none]) dX11_partsOf_56 rfl (Nat.le_of_ble_eq_true rfl) rfl ?_
    refine gj_goto (tgt := 16) dX11_partsOf_59 rfl ?_
    first | exact gj_cast rfl rfl (by rw [mj_up_up, sp_f1_l he8 he9]) ih | exact gj_cast rfl rfl (by rw [sp_f1_e (Or.inl he8)]) ih | exact gj_cast rfl rfl (by rw [sp_f1_e (Or.inr he9)]) ih
  have he8 := zq10
  refine gj_iload dX11_partsOf_29 rfl ?_
  refine gj_iload_n dX11_partsOf_31 rfl ?_
  refine gj_icmp_eqN (tgt := 56) (by omega) (by omega) dX11_partsOf_32 rfl (fun zq11 => ?_) (fun zq11 => ?_)
  · -- 32 taken
    have he9 := zq11
    refine gj_iincN (L' := [some (.ref 100), some (.int (nI w)), some (.int (nI a)), some (.int (nI c)), some (.int (nI (j + 1))), none, none]) dX11_partsOf_56 rfl (Nat.le_of_ble_eq_true rfl) rfl ?_
    refine gj_goto (tgt := 16) dX11_partsOf_59 rfl ?_
    first | exact gj_cast rfl rfl (by rw [mj_up_up, sp_f1_l he8 he9]) ih | exact gj_cast rfl rfl (by rw [sp_f1_e (Or.inl he8)]) ih | exact gj_cast rfl rfl (by rw [sp_f1_e (Or.inr he9)]) ih
  have he9 := zq11
  have hb8 := ly_sh hj
  refine gj_aload_n dX11_partsOf_35 rfl ?_
  refine gj_iload_n dX11_partsOf_36 rfl ?_
  refine gj_iload_n dX11_partsOf_37 rfl ?_
  refine gj_iload_n dX11_partsOf_38 rfl ?_
  refine gj_ic (w := 1) dX11_partsOf_39 ?_
  refine gj_iload dX11_partsOf_40 rfl ?_
  refine gj_ishlN (by omega) dX11_partsOf_42 ?_
  refine gj_V1 lkX11_174 ((mj_up_ne (by decide)).trans H0) rfl rfl (ev_X11_isParted ((mj_up_ne (by decide)).trans H0) ((mj_up_ne (by decide)).trans HT) ((mj_up_ne (by decide)).trans HJ) (mj_up_eq _ _ _) bT bJ (by omega) (by omega) (by omega) (by omega)) dX11_partsOf_43 rfl rfl rfl rfl rfl ?_
  refine gj_if_eqb (tgt := 56) dX11_partsOf_46 rfl (fun zq12 => ?_) (fun zq12 => ?_)
  rotate_left
  · exfalso; exact absurd ((sp_q1_t he8 he9 zq12).symm.trans (sp_fst_f (by rw [h4]; exact hj))) (by decide)
  refine gj_iincN (L' := [some (.ref 100), some (.int (nI w)), some (.int (nI a)), some (.int (nI c)), some (.int (nI (j + 1))), none, none]) dX11_partsOf_56 rfl (Nat.le_of_ble_eq_true rfl) rfl ?_
  refine gj_goto (tgt := 16) dX11_partsOf_59 rfl ?_
  first | exact gj_cast rfl rfl (by rw [mj_up_up, sp_f1_l he8 he9]) ih | exact gj_cast rfl rfl (by rw [sp_f1_e (Or.inl he8)]) ih | exact gj_cast rfl rfl (by rw [sp_f1_e (Or.inr he9)]) ih
