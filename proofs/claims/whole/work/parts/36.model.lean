def sp_mnp (T : Nat → Nat) (c k i : Nat) : Bool := !decide (T (94 + 5 * i) = c) || decide (sp_after k (T (94 + 5 * i + 1)) (T (94 + 5 * i + 2)) (T (94 + 5 * i + 3)) = T (94 + 5 * i + 4))
def sp_mpp (T : Nat → Nat) (w v k i : Nat) : Bool := !decide (T (124 + 5 * i) = v) || (sp_yes k w (T (124 + 5 * i + 2)) (T (124 + 5 * i + 3)) (T (124 + 5 * i + 4)) == decide (T (124 + 5 * i + 1) = 1))
def sp_mkn (T : Nat → Nat) (c : Nat) : Nat := mj_bits (fun k => sp_all (sp_mnp T c k) (T 1)) 6
def sp_mwk (T : Nat → Nat) (v : Nat) : Nat := mj_bits (fun k => sp_all (sp_mpp T (T (80 + v)) v k) (T 2)) 6
theorem sp_mkn_lt {T : Nat → Nat} {c : Nat} : sp_mkn T c < 64 := mj_bits_lt
theorem sp_all_s {p : Nat → Bool} {n : Nat} : sp_all p (n + 1) = (sp_all p n && p n) := rfl
set_option maxHeartbeats 1000000 in
set_option maxRecDepth 10000 in
theorem ev_X11_kindsOf {E : mj_E} {h : mj_H} {a0 a1 y2 y3 y4 y5 y6 : Nat} (H0 : h 100 = some (mj_mo a0 a1 y2 y3 y4 y5 y6)) {T : Nat → Nat} (HT : h 101 = some (mj_ar 362 T)) (bT : mj_Tb T) {c : Nat} (h0 : c < 25) : mj_Ev E iX11_kindsOf [.ref 100, .int (nI c)] h (mj_R (some (.int (nI (sp_mkn T c)))) h) := by
  refine mj_Ev.of (L0 := [some (.ref 100), some (.int (nI c)), none, none, none, none, none]) pnRX11 (Nat.le_of_ble_eq_true rfl) rfl ?_
  have hb1 := bT.2.1
  refine gj_ic (w := 0) dX11_kindsOf_0 ?_
  refine gj_istore_n (L' := [some (.ref 100), some (.int (nI c)), some (.int (nI 0)), none, none, none, none]) dX11_kindsOf_1 (Nat.le_of_ble_eq_true rfl) rfl ?_
  refine gj_ic (w := 0) dX11_kindsOf_2 ?_
  refine gj_istore_n (L' := [some (.ref 100), some (.int (nI c)), some (.int (nI 0)), some (.int (nI 0)), none, none, none]) dX11_kindsOf_3 (Nat.le_of_ble_eq_true rfl) rfl ?_
  refine gj_cast (L' := [some (.ref 100), some (.int (nI c)), some (.int (nI (mj_bits (fun k => sp_all (sp_mnp T c k) (T 1)) 0))), some (.int (nI 0)), none, none, none]) (st' := []) (h' := h) rfl rfl rfl ?_
  refine gj_loop (fun j => [some (.ref 100), some (.int (nI c)), some (.int (nI (mj_bits (fun k => sp_all (sp_mnp T c k) (T 1)) j))), some (.int (nI j)), none, none, none]) (fun j => h) 6 ?_ (fun j hj ih => ?_) 0 (by omega)
  · show gj _ _ _ _ _ _ [some (.ref 100), some (.int (nI c)), some (.int (nI (mj_bits (fun k => sp_all (sp_mnp T c k) (T 1)) 6))), some (.int (nI 6)), none, none, none] _ _
    refine gj_iload_n dX11_kindsOf_4 rfl ?_
    refine gj_bp 6 dX11_kindsOf_5 (by decide) ?_
    refine gj_icmp_geN (tgt := 129) (by omega) (by omega) dX11_kindsOf_7 rfl (fun zq0 => ?_) (fun zq0 => ?_)
    rotate_left
    · exfalso; omega
    refine gj_iload_n dX11_kindsOf_129 rfl ?_
    exact gj_ir rfl dX11_kindsOf_130 rfl rfl rfl
  show gj _ _ _ _ _ _ [some (.ref 100), some (.int (nI c)), some (.int (nI (mj_bits (fun k => sp_all (sp_mnp T c k) (T 1)) j))), some (.int (nI j)), none, none, none] _ _
  refine gj_iload_n dX11_kindsOf_4 rfl ?_
  refine gj_bp 6 dX11_kindsOf_5 (by decide) ?_
  refine gj_icmp_geN (tgt := 129) (by omega) (by omega) dX11_kindsOf_7 rfl (fun zq1 => ?_) (fun zq1 => ?_)
  · exfalso; omega
  refine gj_ic (w := 1) dX11_kindsOf_10 ?_
  refine gj_istore (L' := [some (.ref 100), some (.int (nI c)), some (.int (nI (mj_bits (fun k => sp_all (sp_mnp T c k) (T 1)) j))), some (.int (nI j)), some (.int (nI 1)), none, none]) dX11_kindsOf_11 (Nat.le_of_ble_eq_true rfl) rfl ?_
  refine gj_ic (w := 0) dX11_kindsOf_13 ?_
  refine gj_istore (L' := [some (.ref 100), some (.int (nI c)), some (.int (nI (mj_bits (fun k => sp_all (sp_mnp T c k) (T 1)) j))), some (.int (nI j)), some (.int (nI 1)), some (.int (nI 0)), none]) dX11_kindsOf_14 (Nat.le_of_ble_eq_true rfl) rfl ?_
  refine gj_cast (L' := [some (.ref 100), some (.int (nI c)), some (.int (nI (mj_bits (fun k => sp_all (sp_mnp T c k) (T 1)) j))), some (.int (nI j)), some (.int (mj_b (sp_all (sp_mnp T c j) 0))), some (.int (nI 0)), none]) (st' := []) (h' := h) rfl rfl rfl ?_
  refine gj_loop (fun i => [some (.ref 100), some (.int (nI c)), some (.int (nI (mj_bits (fun k => sp_all (sp_mnp T c k) (T 1)) j))), some (.int (nI j)), some (.int (mj_b (sp_all (sp_mnp T c j) i))), some (.int (nI i)), none]) (fun i => h) (T 1) ?_ (fun i hi ihi => ?_) 0 (by omega)
  · show gj _ _ _ _ _ _ [some (.ref 100), some (.int (nI c)), some (.int (nI (mj_bits (fun k => sp_all (sp_mnp T c k) (T 1)) j))), some (.int (nI j)), some (.int (mj_b (sp_all (sp_mnp T c j) (T 1)))), some (.int (nI (T 1))), none] _ _
    refine gj_iload dX11_kindsOf_16 rfl ?_
    refine gj_aload_n dX11_kindsOf_18 rfl ?_
    refine gfX11_7 rfl dX11_kindsOf_19 H0 rfl ?_
    refine gj_ic (w := 1) dX11_kindsOf_22 ?_
    refine gj_ialdN dX11_kindsOf_23 HT (by omega) (by omega) ?_
    have hb2 := bT.2.1
    refine gj_icmp_geN (tgt := 108) (by omega) (by omega) dX11_kindsOf_24 rfl (fun zq3 => ?_) (fun zq3 => ?_)
    rotate_left
    · exfalso; omega
    refine gj_iload_n dX11_kindsOf_108 rfl ?_
    refine gj_iload dX11_kindsOf_109 rfl ?_
    refine gj_if_eqb (tgt := 120) dX11_kindsOf_111 rfl (fun zq4 => ?_) (fun zq4 => ?_)
    · -- 111 taken
      have hw9 := zq4
      refine gj_ic (w := 0) dX11_kindsOf_120 ?_
      refine gj_iorN  dX11_kindsOf_121 ?_
      refine gj_istore_n (L' := [some (.ref 100), some (.int (nI c)), some (.int (nI ((mj_bits (fun k => sp_all (sp_mnp T c k) (T 1)) j) ||| 0))), some (.int (nI j)), some (.int (mj_b (sp_all (sp_mnp T c j) (T 1)))), some (.int (nI (T 1))), none]) dX11_kindsOf_122 (Nat.le_of_ble_eq_true rfl) rfl ?_
      refine gj_iincN (L' := [some (.ref 100), some (.int (nI c)), some (.int (nI ((mj_bits (fun k => sp_all (sp_mnp T c k) (T 1)) j) ||| 0))), some (.int (nI (j + 1))), some (.int (mj_b (sp_all (sp_mnp T c j) (T 1)))), some (.int (nI (T 1))), none]) dX11_kindsOf_123 rfl (Nat.le_of_ble_eq_true rfl) rfl ?_
      refine gj_goto (tgt := 4) dX11_kindsOf_126 rfl ?_
      refine gj_forget (i := 4) (L' := [some (.ref 100), some (.int (nI c)), some (.int (nI ((mj_bits (fun k => sp_all (sp_mnp T c k) (T 1)) j) ||| 0))), some (.int (nI (j + 1))), none, some (.int (nI (T 1))), none]) rfl ?_
      refine gj_forget (i := 5) (L' := [some (.ref 100), some (.int (nI c)), some (.int (nI ((mj_bits (fun k => sp_all (sp_mnp T c k) (T 1)) j) ||| 0))), some (.int (nI (j + 1))), none, none, none]) rfl ?_
      exact gj_cast (by first | (rw [show mj_bits (fun k => sp_all (sp_mnp T c k) (T 1)) (j + 1) = _ from mj_bits_t (p := (fun k => sp_all (sp_mnp T c k) (T 1))) hw9]; try rfl) | (rw [Nat.or_zero, show mj_bits (fun k => sp_all (sp_mnp T c k) (T 1)) (j + 1) = _ from mj_bits_f (p := (fun k => sp_all (sp_mnp T c k) (T 1))) hw9]; try rfl)) rfl rfl ih
    have hw9 := zq4
    refine gj_ic (w := 1) dX11_kindsOf_114 ?_
    refine gj_iload_n dX11_kindsOf_115 rfl ?_
    refine gj_ishlN (by omega) dX11_kindsOf_116 ?_
    refine gj_goto (tgt := 121) dX11_kindsOf_117 rfl ?_
    refine gj_iorN  dX11_kindsOf_121 ?_
    refine gj_istore_n (L' := [some (.ref 100), some (.int (nI c)), some (.int (nI ((mj_bits (fun k => sp_all (sp_mnp T c k) (T 1)) j) ||| (1 <<< j)))), some (.int (nI j)), some (.int (mj_b (sp_all (sp_mnp T c j) (T 1)))), some (.int (nI (T 1))), none]) dX11_kindsOf_122 (Nat.le_of_ble_eq_true rfl) rfl ?_
    refine gj_iincN (L' := [some (.ref 100), some (.int (nI c)), some (.int (nI ((mj_bits (fun k => sp_all (sp_mnp T c k) (T 1)) j) ||| (1 <<< j)))), some (.int (nI (j + 1))), some (.int (mj_b (sp_all (sp_mnp T c j) (T 1)))), some (.int (nI (T 1))), none]) dX11_kindsOf_123 rfl (Nat.le_of_ble_eq_true rfl) rfl ?_
    refine gj_goto (tgt := 4) dX11_kindsOf_126 rfl ?_
    refine gj_forget (i := 4) (L' := [some (.ref 100), some (.int (nI c)), some (.int (nI ((mj_bits (fun k => sp_all (sp_mnp T c k) (T 1)) j) ||| (1 <<< j)))), some (.int (nI (j + 1))), none, some (.int (nI (T 1))), none]) rfl ?_
    refine gj_forget (i := 5) (L' := [some (.ref 100), some (.int (nI c)), some (.int (nI ((mj_bits (fun k => sp_all (sp_mnp T c k) (T 1)) j) ||| (1 <<< j)))), some (.int (nI (j + 1))), none, none, none]) rfl ?_
    exact gj_cast (by first | (rw [show mj_bits (fun k => sp_all (sp_mnp T c k) (T 1)) (j + 1) = _ from mj_bits_t (p := (fun k => sp_all (sp_mnp T c k) (T 1))) hw9]; try rfl) | (rw [Nat.or_zero, show mj_bits (fun k => sp_all (sp_mnp T c k) (T 1)) (j + 1) = _ from mj_bits_f (p := (fun k => sp_all (sp_mnp T c k) (T 1))) hw9]; try rfl)) rfl rfl ih
  show gj _ _ _ _ _ _ [some (.ref 100), some (.int (nI c)), some (.int (nI (mj_bits (fun k => sp_all (sp_mnp T c k) (T 1)) j))), some (.int (nI j)), some (.int (mj_b (sp_all (sp_mnp T c j) i))), some (.int (nI i)), none] _ _
  refine gj_iload dX11_kindsOf_16 rfl ?_
  refine gj_aload_n dX11_kindsOf_18 rfl ?_
  refine gfX11_7 rfl dX11_kindsOf_19 H0 rfl ?_
  refine gj_ic (w := 1) dX11_kindsOf_22 ?_
  refine gj_ialdN dX11_kindsOf_23 HT (by omega) (by omega) ?_
  have hb5 := bT.2.1
  refine gj_icmp_geN (tgt := 108) (by omega) (by omega) dX11_kindsOf_24 rfl (fun zq6 => ?_) (fun zq6 => ?_)
  · exfalso; omega
  have hn0 := bT.2.2.2.2.2.2.2.2.2.2.2.2.2.2.2 i (by omega)
  have hn1 : T (94 + 5 * i + 1) ≤ 99 := by have := bT.2.2.2.2.2.2.2.2.2.2.2.2.2.1 (5 * i + 1) (by omega); rwa [← Nat.add_assoc] at this
  have hn2 : T (94 + 5 * i) ≤ 99 := bT.2.2.2.2.2.2.2.2.2.2.2.2.2.1 (5 * i) (by omega)
  have hn4 : T (94 + 5 * i + 4) ≤ 99 := by have := bT.2.2.2.2.2.2.2.2.2.2.2.2.2.1 (5 * i + 4) (by omega); rwa [← Nat.add_assoc] at this
  refine gj_bp 94 dX11_kindsOf_27 (by decide) ?_
  refine gj_ic (w := 5) dX11_kindsOf_29 ?_
  refine gj_iload dX11_kindsOf_30 rfl ?_
  refine gj_imulN  dX11_kindsOf_32 ?_
  refine gj_iaddN  dX11_kindsOf_33 ?_
  refine gj_istore (L' := [some (.ref 100), some (.int (nI c)), some (.int (nI (mj_bits (fun k => sp_all (sp_mnp T c k) (T 1)) j))), some (.int (nI j)), some (.int (mj_b (sp_all (sp_mnp T c j) i))), some (.int (nI i)), some (.int (nI (94 + (5 * i))))]) dX11_kindsOf_34 (Nat.le_of_ble_eq_true rfl) rfl ?_
  refine gj_iload dX11_kindsOf_36 rfl ?_
  refine gj_if_eqb (tgt := 99) dX11_kindsOf_38 rfl (fun zq7 => ?_) (fun zq7 => ?_)
  · -- 38 taken
    have ha9 : sp_all (sp_mnp T c j) (i + 1) = false := by rw [sp_all_s, zq7, Bool.false_and]
    refine gj_ic (w := 0) dX11_kindsOf_99 ?_
    refine gj_istore (L' := [some (.ref 100), some (.int (nI c)), some (.int (nI (mj_bits (fun k => sp_all (sp_mnp T c k) (T 1)) j))), some (.int (nI j)), some (.int (nI 0)), some (.int (nI i)), some (.int (nI (94 + (5 * i))))]) dX11_kindsOf_100 (Nat.le_of_ble_eq_true rfl) rfl ?_
    refine gj_iincN (L' := [some (.ref 100), some (.int (nI c)), some (.int (nI (mj_bits (fun k => sp_all (sp_mnp T c k) (T 1)) j))), some (.int (nI j)), some (.int (nI 0)), some (.int (nI (i + 1))), some (.int (nI (94 + (5 * i))))]) dX11_kindsOf_102 rfl (Nat.le_of_ble_eq_true rfl) rfl ?_
    refine gj_goto (tgt := 16) dX11_kindsOf_105 rfl ?_
    refine gj_forget (i := 6) (L' := [some (.ref 100), some (.int (nI c)), some (.int (nI (mj_bits (fun k => sp_all (sp_mnp T c k) (T 1)) j))), some (.int (nI j)), some (.int (nI 0)), some (.int (nI (i + 1))), none]) rfl ?_
    exact gj_cast (by rw [ha9]; try rfl) rfl rfl ihi
  have hs9 := zq7
  refine gj_aload_n dX11_kindsOf_41 rfl ?_
  refine gfX11_7 rfl dX11_kindsOf_42 H0 rfl ?_
  refine gj_iload dX11_kindsOf_45 rfl ?_
  refine gj_ialdN dX11_kindsOf_47 HT (by omega) (by omega) ?_
  refine gj_iload_n dX11_kindsOf_48 rfl ?_
  refine gj_icmp_neN (tgt := 95) (by omega) (by omega) dX11_kindsOf_49 rfl (fun zq8 => ?_) (fun zq8 => ?_)
  · -- 49 taken
    have ha9 : sp_all (sp_mnp T c j) (i + 1) = true := by rw [sp_all_s, hs9]; unfold sp_mnp; rw [decide_eq_false zq8]; rfl
    refine gj_ic (w := 1) dX11_kindsOf_95 ?_
    refine gj_goto (tgt := 100) dX11_kindsOf_96 rfl ?_
    refine gj_istore (L' := [some (.ref 100), some (.int (nI c)), some (.int (nI (mj_bits (fun k => sp_all (sp_mnp T c k) (T 1)) j))), some (.int (nI j)), some (.int (nI 1)), some (.int (nI i)), some (.int (nI (94 + (5 * i))))]) dX11_kindsOf_100 (Nat.le_of_ble_eq_true rfl) rfl ?_
    refine gj_iincN (L' := [some (.ref 100), some (.int (nI c)), some (.int (nI (mj_bits (fun k => sp_all (sp_mnp T c k) (T 1)) j))), some (.int (nI j)), some (.int (nI 1)), some (.int (nI (i + 1))), some (.int (nI (94 + (5 * i))))]) dX11_kindsOf_102 rfl (Nat.le_of_ble_eq_true rfl) rfl ?_
    refine gj_goto (tgt := 16) dX11_kindsOf_105 rfl ?_
    refine gj_forget (i := 6) (L' := [some (.ref 100), some (.int (nI c)), some (.int (nI (mj_bits (fun k => sp_all (sp_mnp T c k) (T 1)) j))), some (.int (nI j)), some (.int (nI 1)), some (.int (nI (i + 1))), none]) rfl ?_
    exact gj_cast (by rw [ha9]; try rfl) rfl rfl ihi
  have he9 := zq8
  refine gj_iload_n dX11_kindsOf_52 rfl ?_
  refine gj_aload_n dX11_kindsOf_53 rfl ?_
  refine gfX11_7 rfl dX11_kindsOf_54 H0 rfl ?_
  refine gj_iload dX11_kindsOf_57 rfl ?_
  refine gj_ic (w := 1) dX11_kindsOf_59 ?_
  refine gj_iaddN  dX11_kindsOf_60 ?_
  refine gj_ialdN dX11_kindsOf_61 HT (by omega) (by omega) ?_
  refine gj_aload_n dX11_kindsOf_62 rfl ?_
  refine gfX11_7 rfl dX11_kindsOf_63 H0 rfl ?_
  refine gj_iload dX11_kindsOf_66 rfl ?_
  refine gj_ic (w := 2) dX11_kindsOf_68 ?_
  refine gj_iaddN  dX11_kindsOf_69 ?_
  refine gj_ialdN dX11_kindsOf_70 HT (by omega) (by omega) ?_
  refine gj_aload_n dX11_kindsOf_71 rfl ?_
  refine gfX11_7 rfl dX11_kindsOf_72 H0 rfl ?_
  refine gj_iload dX11_kindsOf_75 rfl ?_
  refine gj_ic (w := 3) dX11_kindsOf_77 ?_
  refine gj_iaddN  dX11_kindsOf_78 ?_
  refine gj_ialdN dX11_kindsOf_79 HT (by omega) (by omega) ?_
  refine gj_S1 lkX11_103 (ev_X11_behindDay (by omega) (by omega) (by omega) (by omega)) dX11_kindsOf_80 rfl rfl rfl rfl rfl ?_
  have hb9 := @sp_after_le j (T ((94 + (5 * i)) + 1)) (T ((94 + (5 * i)) + 2)) (T ((94 + (5 * i)) + 3))
  refine gj_aload_n dX11_kindsOf_83 rfl ?_
  refine gfX11_7 rfl dX11_kindsOf_84 H0 rfl ?_
  refine gj_iload dX11_kindsOf_87 rfl ?_
  refine gj_ic (w := 4) dX11_kindsOf_89 ?_
  refine gj_iaddN  dX11_kindsOf_90 ?_
  refine gj_ialdN dX11_kindsOf_91 HT (by omega) (by omega) ?_
  refine gj_icmp_neN (tgt := 99) (by omega) (by omega) dX11_kindsOf_92 rfl (fun zq10 => ?_) (fun zq10 => ?_)
  · -- 92 taken
    have ha9 : sp_all (sp_mnp T c j) (i + 1) = false := by rw [sp_all_s, hs9]; unfold sp_mnp; rw [decide_eq_true he9, decide_eq_false zq10]; rfl
    refine gj_ic (w := 0) dX11_kindsOf_99 ?_
    refine gj_istore (L' := [some (.ref 100), some (.int (nI c)), some (.int (nI (mj_bits (fun k => sp_all (sp_mnp T c k) (T 1)) j))), some (.int (nI j)), some (.int (nI 0)), some (.int (nI i)), some (.int (nI (94 + (5 * i))))]) dX11_kindsOf_100 (Nat.le_of_ble_eq_true rfl) rfl ?_
    refine gj_iincN (L' := [some (.ref 100), some (.int (nI c)), some (.int (nI (mj_bits (fun k => sp_all (sp_mnp T c k) (T 1)) j))), some (.int (nI j)), some (.int (nI 0)), some (.int (nI (i + 1))), some (.int (nI (94 + (5 * i))))]) dX11_kindsOf_102 rfl (Nat.le_of_ble_eq_true rfl) rfl ?_
    refine gj_goto (tgt := 16) dX11_kindsOf_105 rfl ?_
    refine gj_forget (i := 6) (L' := [some (.ref 100), some (.int (nI c)), some (.int (nI (mj_bits (fun k => sp_all (sp_mnp T c k) (T 1)) j))), some (.int (nI j)), some (.int (nI 0)), some (.int (nI (i + 1))), none]) rfl ?_
    exact gj_cast (by rw [ha9]; try rfl) rfl rfl ihi
  have ha9 : sp_all (sp_mnp T c j) (i + 1) = true := by rw [sp_all_s, hs9]; unfold sp_mnp; rw [decide_eq_true zq10, Bool.or_true]; rfl
  refine gj_ic (w := 1) dX11_kindsOf_95 ?_
  refine gj_goto (tgt := 100) dX11_kindsOf_96 rfl ?_
  refine gj_istore (L' := [some (.ref 100), some (.int (nI c)), some (.int (nI (mj_bits (fun k => sp_all (sp_mnp T c k) (T 1)) j))), some (.int (nI j)), some (.int (nI 1)), some (.int (nI i)), some (.int (nI (94 + (5 * i))))]) dX11_kindsOf_100 (Nat.le_of_ble_eq_true rfl) rfl ?_
  refine gj_iincN (L' := [some (.ref 100), some (.int (nI c)), some (.int (nI (mj_bits (fun k => sp_all (sp_mnp T c k) (T 1)) j))), some (.int (nI j)), some (.int (nI 1)), some (.int (nI (i + 1))), some (.int (nI (94 + (5 * i))))]) dX11_kindsOf_102 rfl (Nat.le_of_ble_eq_true rfl) rfl ?_
  refine gj_goto (tgt := 16) dX11_kindsOf_105 rfl ?_
  refine gj_forget (i := 6) (L' := [some (.ref 100), some (.int (nI c)), some (.int (nI (mj_bits (fun k => sp_all (sp_mnp T c k) (T 1)) j))), some (.int (nI j)), some (.int (nI 1)), some (.int (nI (i + 1))), none]) rfl ?_
  exact gj_cast (by rw [ha9]; try rfl) rfl rfl ihi
set_option maxHeartbeats 1000000 in
set_option maxRecDepth 10000 in
theorem ev_X11_is {E : mj_E} {h : mj_H} {a0 a1 y2 y3 y4 y5 y6 : Nat} (H0 : h 100 = some (mj_mo a0 a1 y2 y3 y4 y5 y6)) {T : Nat → Nat} (HT : h 101 = some (mj_ar 362 T)) (bT : mj_Tb T) {c : Nat} (h0 : c < 25) : mj_Ev E iX11_is [.ref 100, .int (nI c)] h (mj_R (some (.int (nI (sp_mkn T c)))) h) := by
  refine mj_Ev.of (L0 := [some (.ref 100), some (.int (nI c))]) pnRX11 (Nat.le_of_ble_eq_true rfl) rfl ?_
  refine gj_iload_n dX11_is_0 rfl ?_
  refine gj_S1 lkX11_70 (ev_X11_isCell_t (by omega) (by omega)) dX11_is_1 rfl rfl rfl rfl rfl ?_
  refine gj_if_eqN (tgt := 15) (by omega) dX11_is_4 rfl (fun zq0 => ?_) (fun zq0 => ?_)
  · exfalso; revert zq0; decide
  refine gj_aload_n dX11_is_7 rfl ?_
  refine gj_iload_n dX11_is_8 rfl ?_
  refine gj_V1 lkX11_199 H0 rfl rfl (ev_X11_kindsOf H0 HT bT (by omega)) dX11_is_9 rfl rfl rfl rfl rfl ?_
  have hb1 := @sp_mkn_lt T c
  refine gj_goto (tgt := 21) dX11_is_12 rfl ?_
  exact gj_ir rfl dX11_is_21 rfl rfl rfl
set_option maxHeartbeats 1000000 in
set_option maxRecDepth 10000 in
theorem ev_X11_who {E : mj_E} {h : mj_H} {a0 a1 y2 y3 y4 y5 y6 : Nat} (H0 : h 100 = some (mj_mo a0 a1 y2 y3 y4 y5 y6)) {T : Nat → Nat} (HT : h 101 = some (mj_ar 362 T)) (bT : mj_Tb T) {v : Nat} (h0 : v < T 0) : mj_Ev E iX11_who [.ref 100, .int (nI v)] h (mj_R (some (.int (nI (sp_mwk T v)))) h) := by
  refine mj_Ev.of (L0 := [some (.ref 100), some (.int (nI v)), none, none, none, none, none, none]) pnRX11 (Nat.le_of_ble_eq_true rfl) rfl ?_
  have hb0 := bT.1
  have hb2 := bT.2.2.1
  refine gj_aload_n dX11_who_0 rfl ?_
  refine gj_iload_n dX11_who_1 rfl ?_
  refine gj_V1 lkX11_146 H0 rfl rfl (ev_X11_isVoter_t H0 HT bT (by omega)) dX11_who_2 rfl rfl rfl rfl rfl ?_
  refine gj_if_neN (tgt := 15) (by omega) dX11_who_5 rfl (fun zq0 => ?_) (fun zq0 => ?_)
  rotate_left
  · exfalso; revert zq0; decide
  refine gj_ic (w := 0) dX11_who_15 ?_
  refine gj_istore_n (L' := [some (.ref 100), some (.int (nI v)), some (.int (nI 0)), none, none, none, none, none]) dX11_who_16 (Nat.le_of_ble_eq_true rfl) rfl ?_
  refine gj_ic (w := 0) dX11_who_17 ?_
  refine gj_istore_n (L' := [some (.ref 100), some (.int (nI v)), some (.int (nI 0)), some (.int (nI 0)), none, none, none, none]) dX11_who_18 (Nat.le_of_ble_eq_true rfl) rfl ?_
  refine gj_cast (L' := [some (.ref 100), some (.int (nI v)), some (.int (nI (mj_bits (fun k => sp_all (sp_mpp T (T (80 + v)) v k) (T 2)) 0))), some (.int (nI 0)), none, none, none, none]) (st' := []) (h' := h) rfl rfl rfl ?_
  refine gj_loop (fun j => [some (.ref 100), some (.int (nI v)), some (.int (nI (mj_bits (fun k => sp_all (sp_mpp T (T (80 + v)) v k) (T 2)) j))), some (.int (nI j)), none, none, none, none]) (fun j => h) 6 ?_ (fun j hj ih => ?_) 0 (by omega)
  · show gj _ _ _ _ _ _ [some (.ref 100), some (.int (nI v)), some (.int (nI (mj_bits (fun k => sp_all (sp_mpp T (T (80 + v)) v k) (T 2)) 6))), some (.int (nI 6)), none, none, none, none] _ _
    refine gj_iload_n dX11_who_19 rfl ?_
    refine gj_bp 6 dX11_who_20 (by decide) ?_
    refine gj_icmp_geN (tgt := 166) (by omega) (by omega) dX11_who_22 rfl (fun zq0 => ?_) (fun zq0 => ?_)
    rotate_left
    · exfalso; omega
    refine gj_iload_n dX11_who_166 rfl ?_
    exact gj_ir rfl dX11_who_167 rfl rfl rfl
  show gj _ _ _ _ _ _ [some (.ref 100), some (.int (nI v)), some (.int (nI (mj_bits (fun k => sp_all (sp_mpp T (T (80 + v)) v k) (T 2)) j))), some (.int (nI j)), none, none, none, none] _ _
  refine gj_iload_n dX11_who_19 rfl ?_
  refine gj_bp 6 dX11_who_20 (by decide) ?_
  refine gj_icmp_geN (tgt := 166) (by omega) (by omega) dX11_who_22 rfl (fun zq1 => ?_) (fun zq1 => ?_)
  · exfalso; omega
  refine gj_ic (w := 1) dX11_who_25 ?_
  refine gj_istore (L' := [some (.ref 100), some (.int (nI v)), some (.int (nI (mj_bits (fun k => sp_all (sp_mpp T (T (80 + v)) v k) (T 2)) j))), some (.int (nI j)), some (.int (nI 1)), none, none, none]) dX11_who_26 (Nat.le_of_ble_eq_true rfl) rfl ?_
  refine gj_ic (w := 0) dX11_who_28 ?_
  refine gj_istore (L' := [some (.ref 100), some (.int (nI v)), some (.int (nI (mj_bits (fun k => sp_all (sp_mpp T (T (80 + v)) v k) (T 2)) j))), some (.int (nI j)), some (.int (nI 1)), some (.int (nI 0)), none, none]) dX11_who_29 (Nat.le_of_ble_eq_true rfl) rfl ?_
  refine gj_cast (L' := [some (.ref 100), some (.int (nI v)), some (.int (nI (mj_bits (fun k => sp_all (sp_mpp T (T (80 + v)) v k) (T 2)) j))), some (.int (nI j)), some (.int (mj_b (sp_all (sp_mpp T (T (80 + v)) v j) 0))), some (.int (nI 0)), none, none]) (st' := []) (h' := h) rfl rfl rfl ?_
  refine gj_loop (fun i => [some (.ref 100), some (.int (nI v)), some (.int (nI (mj_bits (fun k => sp_all (sp_mpp T (T (80 + v)) v k) (T 2)) j))), some (.int (nI j)), some (.int (mj_b (sp_all (sp_mpp T (T (80 + v)) v j) i))), some (.int (nI i)), none, none]) (fun i => h) (T 2) ?_ (fun i hi ihi => ?_) 0 (by omega)
  · show gj _ _ _ _ _ _ [some (.ref 100), some (.int (nI v)), some (.int (nI (mj_bits (fun k => sp_all (sp_mpp T (T (80 + v)) v k) (T 2)) j))), some (.int (nI j)), some (.int (mj_b (sp_all (sp_mpp T (T (80 + v)) v j) (T 2)))), some (.int (nI (T 2))), none, none] _ _
    refine gj_iload dX11_who_31 rfl ?_
    refine gj_aload_n dX11_who_33 rfl ?_
    refine gfX11_7 rfl dX11_who_34 H0 rfl ?_
    refine gj_ic (w := 2) dX11_who_37 ?_
    refine gj_ialdN dX11_who_38 HT (by omega) (by omega) ?_
    have hb2 := bT.2.2.1
    refine gj_icmp_geN (tgt := 145) (by omega) (by omega) dX11_who_39 rfl (fun zq3 => ?_) (fun zq3 => ?_)
    rotate_left
    · exfalso; omega
    refine gj_iload_n dX11_who_145 rfl ?_
    refine gj_iload dX11_who_146 rfl ?_
    refine gj_if_eqb (tgt := 157) dX11_who_148 rfl (fun zq4 => ?_) (fun zq4 => ?_)
    · -- 148 taken
      have hw9 := zq4
      refine gj_ic (w := 0) dX11_who_157 ?_
      refine gj_iorN  dX11_who_158 ?_
      refine gj_istore_n (L' := [some (.ref 100), some (.int (nI v)), some (.int (nI ((mj_bits (fun k => sp_all (sp_mpp T (T (80 + v)) v k) (T 2)) j) ||| 0))), some (.int (nI j)), some (.int (mj_b (sp_all (sp_mpp T (T (80 + v)) v j) (T 2)))), some (.int (nI (T 2))), none, none]) dX11_who_159 (Nat.le_of_ble_eq_true rfl) rfl ?_
      refine gj_iincN (L' := [some (.ref 100), some (.int (nI v)), some (.int (nI ((mj_bits (fun k => sp_all (sp_mpp T (T (80 + v)) v k) (T 2)) j) ||| 0))), some (.int (nI (j + 1))), some (.int (mj_b (sp_all (sp_mpp T (T (80 + v)) v j) (T 2)))), some (.int (nI (T 2))), none, none]) dX11_who_160 rfl (Nat.le_of_ble_eq_true rfl) rfl ?_
      refine gj_goto (tgt := 19) dX11_who_163 rfl ?_
      refine gj_forget (i := 4) (L' := [some (.ref 100), some (.int (nI v)), some (.int (nI ((mj_bits (fun k => sp_all (sp_mpp T (T (80 + v)) v k) (T 2)) j) ||| 0))), some (.int (nI (j + 1))), none, some (.int (nI (T 2))), none, none]) rfl ?_
      refine gj_forget (i := 5) (L' := [some (.ref 100), some (.int (nI v)), some (.int (nI ((mj_bits (fun k => sp_all (sp_mpp T (T (80 + v)) v k) (T 2)) j) ||| 0))), some (.int (nI (j + 1))), none, none, none, none]) rfl ?_
      exact gj_cast (by first | (rw [show mj_bits (fun k => sp_all (sp_mpp T (T (80 + v)) v k) (T 2)) (j + 1) = _ from mj_bits_t (p := (fun k => sp_all (sp_mpp T (T (80 + v)) v k) (T 2))) hw9]; try rfl) | (rw [Nat.or_zero, show mj_bits (fun k => sp_all (sp_mpp T (T (80 + v)) v k) (T 2)) (j + 1) = _ from mj_bits_f (p := (fun k => sp_all (sp_mpp T (T (80 + v)) v k) (T 2))) hw9]; try rfl)) rfl rfl ih
    have hw9 := zq4
    refine gj_ic (w := 1) dX11_who_151 ?_
    refine gj_iload_n dX11_who_152 rfl ?_
    refine gj_ishlN (by omega) dX11_who_153 ?_
    refine gj_goto (tgt := 158) dX11_who_154 rfl ?_
    refine gj_iorN  dX11_who_158 ?_
    refine gj_istore_n (L' := [some (.ref 100), some (.int (nI v)), some (.int (nI ((mj_bits (fun k => sp_all (sp_mpp T (T (80 + v)) v k) (T 2)) j) ||| (1 <<< j)))), some (.int (nI j)), some (.int (mj_b (sp_all (sp_mpp T (T (80 + v)) v j) (T 2)))), some (.int (nI (T 2))), none, none]) dX11_who_159 (Nat.le_of_ble_eq_true rfl) rfl ?_
    refine gj_iincN (L' := [some (.ref 100), some (.int (nI v)), some (.int (nI ((mj_bits (fun k => sp_all (sp_mpp T (T (80 + v)) v k) (T 2)) j) ||| (1 <<< j)))), some (.int (nI (j + 1))), some (.int (mj_b (sp_all (sp_mpp T (T (80 + v)) v j) (T 2)))), some (.int (nI (T 2))), none, none]) dX11_who_160 rfl (Nat.le_of_ble_eq_true rfl) rfl ?_
    refine gj_goto (tgt := 19) dX11_who_163 rfl ?_
    refine gj_forget (i := 4) (L' := [some (.ref 100), some (.int (nI v)), some (.int (nI ((mj_bits (fun k => sp_all (sp_mpp T (T (80 + v)) v k) (T 2)) j) ||| (1 <<< j)))), some (.int (nI (j + 1))), none, some (.int (nI (T 2))), none, none]) rfl ?_
    refine gj_forget (i := 5) (L' := [some (.ref 100), some (.int (nI v)), some (.int (nI ((mj_bits (fun k => sp_all (sp_mpp T (T (80 + v)) v k) (T 2)) j) ||| (1 <<< j)))), some (.int (nI (j + 1))), none, none, none, none]) rfl ?_
    exact gj_cast (by first | (rw [show mj_bits (fun k => sp_all (sp_mpp T (T (80 + v)) v k) (T 2)) (j + 1) = _ from mj_bits_t (p := (fun k => sp_all (sp_mpp T (T (80 + v)) v k) (T 2))) hw9]; try rfl) | (rw [Nat.or_zero, show mj_bits (fun k => sp_all (sp_mpp T (T (80 + v)) v k) (T 2)) (j + 1) = _ from mj_bits_f (p := (fun k => sp_all (sp_mpp T (T (80 + v)) v k) (T 2))) hw9]; try rfl)) rfl rfl ih
  show gj _ _ _ _ _ _ [some (.ref 100), some (.int (nI v)), some (.int (nI (mj_bits (fun k => sp_all (sp_mpp T (T (80 + v)) v k) (T 2)) j))), some (.int (nI j)), some (.int (mj_b (sp_all (sp_mpp T (T (80 + v)) v j) i))), some (.int (nI i)), none, none] _ _
  refine gj_iload dX11_who_31 rfl ?_
  refine gj_aload_n dX11_who_33 rfl ?_
  refine gfX11_7 rfl dX11_who_34 H0 rfl ?_
  refine gj_ic (w := 2) dX11_who_37 ?_
  refine gj_ialdN dX11_who_38 HT (by omega) (by omega) ?_
  have hb5 := bT.2.2.1
  refine gj_icmp_geN (tgt := 145) (by omega) (by omega) dX11_who_39 rfl (fun zq6 => ?_) (fun zq6 => ?_)
  · exfalso; omega
  have hp1 : T (124 + 5 * i + 1) ≤ 198 := by have := bT.2.2.2.2.2.2.2.2.2.2.2.2.2.2.1 (5 * i + 1) (by omega); rwa [← Nat.add_assoc] at this
  have hp2 : T (124 + 5 * i + 2) ≤ 198 := by have := bT.2.2.2.2.2.2.2.2.2.2.2.2.2.2.1 (5 * i + 2) (by omega); rwa [← Nat.add_assoc] at this
  have hp3 : T (124 + 5 * i + 3) ≤ 198 := by have := bT.2.2.2.2.2.2.2.2.2.2.2.2.2.2.1 (5 * i + 3) (by omega); rwa [← Nat.add_assoc] at this
  have hp4 : T (124 + 5 * i + 4) ≤ 198 := by have := bT.2.2.2.2.2.2.2.2.2.2.2.2.2.2.1 (5 * i + 4) (by omega); rwa [← Nat.add_assoc] at this
  have hp0 : T (124 + 5 * i) ≤ 198 := bT.2.2.2.2.2.2.2.2.2.2.2.2.2.2.1 (5 * i) (by omega)
  refine gj_bp 124 dX11_who_42 (by decide) ?_
  refine gj_ic (w := 5) dX11_who_44 ?_
  refine gj_iload dX11_who_45 rfl ?_
  refine gj_imulN  dX11_who_47 ?_
  refine gj_iaddN  dX11_who_48 ?_
  refine gj_istore (L' := [some (.ref 100), some (.int (nI v)), some (.int (nI (mj_bits (fun k => sp_all (sp_mpp T (T (80 + v)) v k) (T 2)) j))), some (.int (nI j)), some (.int (mj_b (sp_all (sp_mpp T (T (80 + v)) v j) i))), some (.int (nI i)), some (.int (nI (124 + (5 * i)))), none]) dX11_who_49 (Nat.le_of_ble_eq_true rfl) rfl ?_
  refine gj_iload_n dX11_who_51 rfl ?_
  refine gj_aload_n dX11_who_52 rfl ?_
  refine gfX11_7 rfl dX11_who_53 H0 rfl ?_
  refine gj_bp 80 dX11_who_56 (by decide) ?_
  refine gj_iload_n dX11_who_58 rfl ?_
  refine gj_iaddN  dX11_who_59 ?_
  refine gj_ialdN dX11_who_60 HT (by omega) (by omega) ?_
  have hb7 := bT.2.2.2.2.2.2.2.2.2.2.2.1 v (by omega)
  refine gj_aload_n dX11_who_61 rfl ?_
  refine gfX11_7 rfl dX11_who_62 H0 rfl ?_
  refine gj_iload dX11_who_65 rfl ?_
  refine gj_ic (w := 2) dX11_who_67 ?_
  refine gj_iaddN  dX11_who_68 ?_
  refine gj_ialdN dX11_who_69 HT (by omega) (by omega) ?_
  refine gj_aload_n dX11_who_70 rfl ?_
  refine gfX11_7 rfl dX11_who_71 H0 rfl ?_
  refine gj_iload dX11_who_74 rfl ?_
  refine gj_ic (w := 3) dX11_who_76 ?_
  refine gj_iaddN  dX11_who_77 ?_
  refine gj_ialdN dX11_who_78 HT (by omega) (by omega) ?_
  refine gj_aload_n dX11_who_79 rfl ?_
  refine gfX11_7 rfl dX11_who_80 H0 rfl ?_
  refine gj_iload dX11_who_83 rfl ?_
  refine gj_ic (w := 4) dX11_who_85 ?_
  refine gj_iaddN  dX11_who_86 ?_
  refine gj_ialdN dX11_who_87 HT (by omega) (by omega) ?_
  refine gj_S1 lkX11_142 (ev_X11_votesAs (by omega) (by omega) (by omega) (by omega) (by omega)) dX11_who_88 rfl rfl rfl rfl rfl ?_
  refine gj_istore (L' := [some (.ref 100), some (.int (nI v)), some (.int (nI (mj_bits (fun k => sp_all (sp_mpp T (T (80 + v)) v k) (T 2)) j))), some (.int (nI j)), some (.int (mj_b (sp_all (sp_mpp T (T (80 + v)) v j) i))), some (.int (nI i)), some (.int (nI (124 + (5 * i)))), some (.int (mj_b (sp_yes j (T (80 + v)) (T ((124 + (5 * i)) + 2)) (T ((124 + (5 * i)) + 3)) (T ((124 + (5 * i)) + 4)))))]) dX11_who_91 (Nat.le_of_ble_eq_true rfl) rfl ?_
  refine gj_iload dX11_who_93 rfl ?_
  refine gj_if_eqb (tgt := 136) dX11_who_95 rfl (fun zq8 => ?_) (fun zq8 => ?_)
  · -- 95 taken
    have ha9 : sp_all (sp_mpp T (T (80 + v)) v j) (i + 1) = false := by rw [sp_all_s, zq8, Bool.false_and]
    refine gj_ic (w := 0) dX11_who_136 ?_
    refine gj_istore (L' := [some (.ref 100), some (.int (nI v)), some (.int (nI (mj_bits (fun k => sp_all (sp_mpp T (T (80 + v)) v k) (T 2)) j))), some (.int (nI j)), some (.int (nI 0)), some (.int (nI i)), some (.int (nI (124 + (5 * i)))), some (.int (mj_b (sp_yes j (T (80 + v)) (T ((124 + (5 * i)) + 2)) (T ((124 + (5 * i)) + 3)) (T ((124 + (5 * i)) + 4)))))]) dX11_who_137 (Nat.le_of_ble_eq_true rfl) rfl ?_
    refine gj_iincN (L' := [some (.ref 100), some (.int (nI v)), some (.int (nI (mj_bits (fun k => sp_all (sp_mpp T (T (80 + v)) v k) (T 2)) j))), some (.int (nI j)), some (.int (nI 0)), some (.int (nI (i + 1))), some (.int (nI (124 + (5 * i)))), some (.int (mj_b (sp_yes j (T (80 + v)) (T ((124 + (5 * i)) + 2)) (T ((124 + (5 * i)) + 3)) (T ((124 + (5 * i)) + 4)))))]) dX11_who_139 rfl (Nat.le_of_ble_eq_true rfl) rfl ?_
    refine gj_goto (tgt := 31) dX11_who_142 rfl ?_
    refine gj_forget (i := 6) (L' := [some (.ref 100), some (.int (nI v)), some (.int (nI (mj_bits (fun k => sp_all (sp_mpp T (T (80 + v)) v k) (T 2)) j))), some (.int (nI j)), some (.int (nI 0)), some (.int (nI (i + 1))), none, some (.int (mj_b (sp_yes j (T (80 + v)) (T ((124 + (5 * i)) + 2)) (T ((124 + (5 * i)) + 3)) (T ((124 + (5 * i)) + 4)))))]) rfl ?_
    refine gj_forget (i := 7) (L' := [some (.ref 100), some (.int (nI v)), some (.int (nI (mj_bits (fun k => sp_all (sp_mpp T (T (80 + v)) v k) (T 2)) j))), some (.int (nI j)), some (.int (nI 0)), some (.int (nI (i + 1))), none, none]) rfl ?_
    exact gj_cast (by rw [ha9]; try rfl) rfl rfl ihi
  have hs9 := zq8
  refine gj_aload_n dX11_who_98 rfl ?_
  refine gfX11_7 rfl dX11_who_99 H0 rfl ?_
  refine gj_iload dX11_who_102 rfl ?_
  refine gj_ialdN dX11_who_104 HT (by omega) (by omega) ?_
  refine gj_iload_n dX11_who_105 rfl ?_
  refine gj_icmp_neN (tgt := 132) (by omega) (by omega) dX11_who_106 rfl (fun zq9 => ?_) (fun zq9 => ?_)
  · -- 106 taken
    have ha9 : sp_all (sp_mpp T (T (80 + v)) v j) (i + 1) = true := by rw [sp_all_s, hs9]; unfold sp_mpp; rw [decide_eq_false zq9]; rfl
    refine gj_ic (w := 1) dX11_who_132 ?_
    refine gj_goto (tgt := 137) dX11_who_133 rfl ?_
    refine gj_istore (L' := [some (.ref 100), some (.int (nI v)), some (.int (nI (mj_bits (fun k => sp_all (sp_mpp T (T (80 + v)) v k) (T 2)) j))), some (.int (nI j)), some (.int (nI 1)), some (.int (nI i)), some (.int (nI (124 + (5 * i)))), some (.int (mj_b (sp_yes j (T (80 + v)) (T ((124 + (5 * i)) + 2)) (T ((124 + (5 * i)) + 3)) (T ((124 + (5 * i)) + 4)))))]) dX11_who_137 (Nat.le_of_ble_eq_true rfl) rfl ?_
    refine gj_iincN (L' := [some (.ref 100), some (.int (nI v)), some (.int (nI (mj_bits (fun k => sp_all (sp_mpp T (T (80 + v)) v k) (T 2)) j))), some (.int (nI j)), some (.int (nI 1)), some (.int (nI (i + 1))), some (.int (nI (124 + (5 * i)))), some (.int (mj_b (sp_yes j (T (80 + v)) (T ((124 + (5 * i)) + 2)) (T ((124 + (5 * i)) + 3)) (T ((124 + (5 * i)) + 4)))))]) dX11_who_139 rfl (Nat.le_of_ble_eq_true rfl) rfl ?_
    refine gj_goto (tgt := 31) dX11_who_142 rfl ?_
    refine gj_forget (i := 6) (L' := [some (.ref 100), some (.int (nI v)), some (.int (nI (mj_bits (fun k => sp_all (sp_mpp T (T (80 + v)) v k) (T 2)) j))), some (.int (nI j)), some (.int (nI 1)), some (.int (nI (i + 1))), none, some (.int (mj_b (sp_yes j (T (80 + v)) (T ((124 + (5 * i)) + 2)) (T ((124 + (5 * i)) + 3)) (T ((124 + (5 * i)) + 4)))))]) rfl ?_
    refine gj_forget (i := 7) (L' := [some (.ref 100), some (.int (nI v)), some (.int (nI (mj_bits (fun k => sp_all (sp_mpp T (T (80 + v)) v k) (T 2)) j))), some (.int (nI j)), some (.int (nI 1)), some (.int (nI (i + 1))), none, none]) rfl ?_
    exact gj_cast (by rw [ha9]; try rfl) rfl rfl ihi
  have he9 := zq9
  refine gj_iload dX11_who_109 rfl ?_
  refine gj_aload_n dX11_who_111 rfl ?_
  refine gfX11_7 rfl dX11_who_112 H0 rfl ?_
  refine gj_iload dX11_who_115 rfl ?_
  refine gj_ic (w := 1) dX11_who_117 ?_
  refine gj_iaddN  dX11_who_118 ?_
  refine gj_ialdN dX11_who_119 HT (by omega) (by omega) ?_
  refine gj_ic (w := 1) dX11_who_120 ?_
  refine gj_icmp_neN (tgt := 128) (by omega) (by omega) dX11_who_121 rfl (fun zq10 => ?_) (fun zq10 => ?_)
  · -- 121 taken
    have hd9 := decide_eq_false zq10
    refine gj_ic (w := 0) dX11_who_128 ?_
    refine gj_icmp_ne (tgt := 136) dX11_who_129 rfl (fun zq11 => ?_) (fun zq11 => ?_)
    · -- 129 taken
      have ha9 : sp_all (sp_mpp T (T (80 + v)) v j) (i + 1) = false := by rw [sp_all_s, hs9]; unfold sp_mpp; rw [hd9, decide_eq_true he9]; first | (rw [Bool.eq_false_iff.mpr (fun q => zq11 (mj_b_n1.mpr q))]; rfl) | (rw [Bool.ne_false_iff.mp (fun q => zq11 (mj_b_n0.mpr q))]; rfl)
      refine gj_ic (w := 0) dX11_who_136 ?_
      refine gj_istore (L' := [some (.ref 100), some (.int (nI v)), some (.int (nI (mj_bits (fun k => sp_all (sp_mpp T (T (80 + v)) v k) (T 2)) j))), some (.int (nI j)), some (.int (nI 0)), some (.int (nI i)), some (.int (nI (124 + (5 * i)))), some (.int (mj_b (sp_yes j (T (80 + v)) (T ((124 + (5 * i)) + 2)) (T ((124 + (5 * i)) + 3)) (T ((124 + (5 * i)) + 4)))))]) dX11_who_137 (Nat.le_of_ble_eq_true rfl) rfl ?_
      refine gj_iincN (L' := [some (.ref 100), some (.int (nI v)), some (.int (nI (mj_bits (fun k => sp_all (sp_mpp T (T (80 + v)) v k) (T 2)) j))), some (.int (nI j)), some (.int (nI 0)), some (.int (nI (i + 1))), some (.int (nI (124 + (5 * i)))), some (.int (mj_b (sp_yes j (T (80 + v)) (T ((124 + (5 * i)) + 2)) (T ((124 + (5 * i)) + 3)) (T ((124 + (5 * i)) + 4)))))]) dX11_who_139 rfl (Nat.le_of_ble_eq_true rfl) rfl ?_
      refine gj_goto (tgt := 31) dX11_who_142 rfl ?_
      refine gj_forget (i := 6) (L' := [some (.ref 100), some (.int (nI v)), some (.int (nI (mj_bits (fun k => sp_all (sp_mpp T (T (80 + v)) v k) (T 2)) j))), some (.int (nI j)), some (.int (nI 0)), some (.int (nI (i + 1))), none, some (.int (mj_b (sp_yes j (T (80 + v)) (T ((124 + (5 * i)) + 2)) (T ((124 + (5 * i)) + 3)) (T ((124 + (5 * i)) + 4)))))]) rfl ?_
      refine gj_forget (i := 7) (L' := [some (.ref 100), some (.int (nI v)), some (.int (nI (mj_bits (fun k => sp_all (sp_mpp T (T (80 + v)) v k) (T 2)) j))), some (.int (nI j)), some (.int (nI 0)), some (.int (nI (i + 1))), none, none]) rfl ?_
      exact gj_cast (by rw [ha9]; try rfl) rfl rfl ihi
    have ha9 : sp_all (sp_mpp T (T (80 + v)) v j) (i + 1) = true := by rw [sp_all_s, hs9]; unfold sp_mpp; rw [hd9]; first | (rw [mj_b_n1.mp zq11]; simp) | (rw [mj_b_n0.mp zq11]; simp)
    refine gj_ic (w := 1) dX11_who_132 ?_
    refine gj_goto (tgt := 137) dX11_who_133 rfl ?_
    refine gj_istore (L' := [some (.ref 100), some (.int (nI v)), some (.int (nI (mj_bits (fun k => sp_all (sp_mpp T (T (80 + v)) v k) (T 2)) j))), some (.int (nI j)), some (.int (nI 1)), some (.int (nI i)), some (.int (nI (124 + (5 * i)))), some (.int (mj_b (sp_yes j (T (80 + v)) (T ((124 + (5 * i)) + 2)) (T ((124 + (5 * i)) + 3)) (T ((124 + (5 * i)) + 4)))))]) dX11_who_137 (Nat.le_of_ble_eq_true rfl) rfl ?_
    refine gj_iincN (L' := [some (.ref 100), some (.int (nI v)), some (.int (nI (mj_bits (fun k => sp_all (sp_mpp T (T (80 + v)) v k) (T 2)) j))), some (.int (nI j)), some (.int (nI 1)), some (.int (nI (i + 1))), some (.int (nI (124 + (5 * i)))), some (.int (mj_b (sp_yes j (T (80 + v)) (T ((124 + (5 * i)) + 2)) (T ((124 + (5 * i)) + 3)) (T ((124 + (5 * i)) + 4)))))]) dX11_who_139 rfl (Nat.le_of_ble_eq_true rfl) rfl ?_
    refine gj_goto (tgt := 31) dX11_who_142 rfl ?_
    refine gj_forget (i := 6) (L' := [some (.ref 100), some (.int (nI v)), some (.int (nI (mj_bits (fun k => sp_all (sp_mpp T (T (80 + v)) v k) (T 2)) j))), some (.int (nI j)), some (.int (nI 1)), some (.int (nI (i + 1))), none, some (.int (mj_b (sp_yes j (T (80 + v)) (T ((124 + (5 * i)) + 2)) (T ((124 + (5 * i)) + 3)) (T ((124 + (5 * i)) + 4)))))]) rfl ?_
    refine gj_forget (i := 7) (L' := [some (.ref 100), some (.int (nI v)), some (.int (nI (mj_bits (fun k => sp_all (sp_mpp T (T (80 + v)) v k) (T 2)) j))), some (.int (nI j)), some (.int (nI 1)), some (.int (nI (i + 1))), none, none]) rfl ?_
    exact gj_cast (by rw [ha9]; try rfl) rfl rfl ihi
  have hd9 := decide_eq_true zq10
  refine gj_ic (w := 1) dX11_who_124 ?_
  refine gj_goto (tgt := 129) dX11_who_125 rfl ?_
  refine gj_icmp_ne (tgt := 136) dX11_who_129 rfl (fun zq12 => ?_) (fun zq12 => ?_)
  · -- 129 taken
    have ha9 : sp_all (sp_mpp T (T (80 + v)) v j) (i + 1) = false := by rw [sp_all_s, hs9]; unfold sp_mpp; rw [hd9, decide_eq_true he9]; first | (rw [Bool.eq_false_iff.mpr (fun q => zq12 (mj_b_n1.mpr q))]; rfl) | (rw [Bool.ne_false_iff.mp (fun q => zq12 (mj_b_n0.mpr q))]; rfl)
    refine gj_ic (w := 0) dX11_who_136 ?_
    refine gj_istore (L' := [some (.ref 100), some (.int (nI v)), some (.int (nI (mj_bits (fun k => sp_all (sp_mpp T (T (80 + v)) v k) (T 2)) j))), some (.int (nI j)), some (.int (nI 0)), some (.int (nI i)), some (.int (nI (124 + (5 * i)))), some (.int (mj_b (sp_yes j (T (80 + v)) (T ((124 + (5 * i)) + 2)) (T ((124 + (5 * i)) + 3)) (T ((124 + (5 * i)) + 4)))))]) dX11_who_137 (Nat.le_of_ble_eq_true rfl) rfl ?_
    refine gj_iincN (L' := [some (.ref 100), some (.int (nI v)), some (.int (nI (mj_bits (fun k => sp_all (sp_mpp T (T (80 + v)) v k) (T 2)) j))), some (.int (nI j)), some (.int (nI 0)), some (.int (nI (i + 1))), some (.int (nI (124 + (5 * i)))), some (.int (mj_b (sp_yes j (T (80 + v)) (T ((124 + (5 * i)) + 2)) (T ((124 + (5 * i)) + 3)) (T ((124 + (5 * i)) + 4)))))]) dX11_who_139 rfl (Nat.le_of_ble_eq_true rfl) rfl ?_
    refine gj_goto (tgt := 31) dX11_who_142 rfl ?_
    refine gj_forget (i := 6) (L' := [some (.ref 100), some (.int (nI v)), some (.int (nI (mj_bits (fun k => sp_all (sp_mpp T (T (80 + v)) v k) (T 2)) j))), some (.int (nI j)), some (.int (nI 0)), some (.int (nI (i + 1))), none, some (.int (mj_b (sp_yes j (T (80 + v)) (T ((124 + (5 * i)) + 2)) (T ((124 + (5 * i)) + 3)) (T ((124 + (5 * i)) + 4)))))]) rfl ?_
    refine gj_forget (i := 7) (L' := [some (.ref 100), some (.int (nI v)), some (.int (nI (mj_bits (fun k => sp_all (sp_mpp T (T (80 + v)) v k) (T 2)) j))), some (.int (nI j)), some (.int (nI 0)), some (.int (nI (i + 1))), none, none]) rfl ?_
    exact gj_cast (by rw [ha9]; try rfl) rfl rfl ihi
  have ha9 : sp_all (sp_mpp T (T (80 + v)) v j) (i + 1) = true := by rw [sp_all_s, hs9]; unfold sp_mpp; rw [hd9]; first | (rw [mj_b_n1.mp zq12]; simp) | (rw [mj_b_n0.mp zq12]; simp)
  refine gj_ic (w := 1) dX11_who_132 ?_
  refine gj_goto (tgt := 137) dX11_who_133 rfl ?_
  refine gj_istore (L' := [some (.ref 100), some (.int (nI v)), some (.int (nI (mj_bits (fun k => sp_all (sp_mpp T (T (80 + v)) v k) (T 2)) j))), some (.int (nI j)), some (.int (nI 1)), some (.int (nI i)), some (.int (nI (124 + (5 * i)))), some (.int (mj_b (sp_yes j (T (80 + v)) (T ((124 + (5 * i)) + 2)) (T ((124 + (5 * i)) + 3)) (T ((124 + (5 * i)) + 4)))))]) dX11_who_137 (Nat.le_of_ble_eq_true rfl) rfl ?_
  refine gj_iincN (L' := [some (.ref 100), some (.int (nI v)), some (.int (nI (mj_bits (fun k => sp_all (sp_mpp T (T (80 + v)) v k) (T 2)) j))), some (.int (nI j)), some (.int (nI 1)), some (.int (nI (i + 1))), some (.int (nI (124 + (5 * i)))), some (.int (mj_b (sp_yes j (T (80 + v)) (T ((124 + (5 * i)) + 2)) (T ((124 + (5 * i)) + 3)) (T ((124 + (5 * i)) + 4)))))]) dX11_who_139 rfl (Nat.le_of_ble_eq_true rfl) rfl ?_
  refine gj_goto (tgt := 31) dX11_who_142 rfl ?_
  refine gj_forget (i := 6) (L' := [some (.ref 100), some (.int (nI v)), some (.int (nI (mj_bits (fun k => sp_all (sp_mpp T (T (80 + v)) v k) (T 2)) j))), some (.int (nI j)), some (.int (nI 1)), some (.int (nI (i + 1))), none, some (.int (mj_b (sp_yes j (T (80 + v)) (T ((124 + (5 * i)) + 2)) (T ((124 + (5 * i)) + 3)) (T ((124 + (5 * i)) + 4)))))]) rfl ?_
  refine gj_forget (i := 7) (L' := [some (.ref 100), some (.int (nI v)), some (.int (nI (mj_bits (fun k => sp_all (sp_mpp T (T (80 + v)) v k) (T 2)) j))), some (.int (nI j)), some (.int (nI 1)), some (.int (nI (i + 1))), none, none]) rfl ?_
  exact gj_cast (by rw [ha9]; try rfl) rfl rfl ihi
set_option maxHeartbeats 1000000 in
set_option maxRecDepth 10000 in
theorem ev_X11_hasBy {E : mj_E} {h : mj_H} {a0 a1 y2 y3 y4 y5 y6 : Nat} (H0 : h 100 = some (mj_mo a0 a1 y2 y3 y4 y5 y6)) {T : Nat → Nat} (HT : h 101 = some (mj_ar 362 T)) {J : Nat → Nat} (HJ : h 105 = some (mj_ar 25 J)) (bT : mj_Tb T) (bJ : ∀ q, q < 25 → J q ≤ 99) {v s : Nat} (h0 : v < 7) (h1 : s < 128) : mj_Ev E iX11_hasBy [.ref 100, .int (nI v), .int (nI s)] h (mj_R (some (.int (sp_gain (sp_mc T s) (!sp_mi T J v) (Nat.testBit s v)))) h) := by
  refine mj_Ev.of (L0 := [some (.ref 100), some (.int (nI v)), some (.int (nI s))]) pnRX11 (Nat.le_of_ble_eq_true rfl) rfl ?_
  refine gj_aload_n dX11_hasBy_0 rfl ?_
  refine gj_iload_n dX11_hasBy_1 rfl ?_
  refine gj_V1 lkX11_187 H0 rfl rfl (ev_X11_isCarried H0 HT bT (by omega)) dX11_hasBy_2 rfl rfl rfl rfl rfl ?_
  refine gj_if_neb (tgt := 12) dX11_hasBy_5 rfl (fun zq1 => ?_) (fun zq1 => ?_)
  · -- 5 taken
    have hq1 := zq1
    refine gj_aload_n dX11_hasBy_12 rfl ?_
    refine gj_iload_n dX11_hasBy_13 rfl ?_
    refine gj_V1 lkX11_190 H0 rfl rfl (ev_X11_bearsIt H0 HT HJ bT bJ (by omega)) dX11_hasBy_14 rfl rfl rfl rfl rfl ?_
    refine gj_if_eqb (tgt := 24) dX11_hasBy_17 rfl (fun zq2 => ?_) (fun zq2 => ?_)
    · -- 17 taken
      have hq2 := zq2
      refine gj_iload_n dX11_hasBy_24 rfl ?_
      refine gj_iload_n dX11_hasBy_25 rfl ?_
      refine gj_S1 lkX11_161 (ev_X11_has (by omega) (by omega)) dX11_hasBy_26 rfl rfl rfl rfl rfl ?_
      refine gj_if_eqb (tgt := 37) dX11_hasBy_29 rfl (fun zq3 => ?_) (fun zq3 => ?_)
      · -- 29 taken
        have hq3 := zq3
        refine gj_iconst (v := (-1)) dX11_hasBy_37 (by decide) ?_
        exact gj_ir rfl dX11_hasBy_38 rfl (by simp [sp_gain, *]) rfl
      have hq3 := zq3
      refine gj_bipush (v := (-3)) dX11_hasBy_32 (by decide) ?_
      refine gj_goto (tgt := 38) dX11_hasBy_34 rfl ?_
      exact gj_ir rfl dX11_hasBy_38 rfl (by simp [sp_gain, *]) rfl
    have hq2 := zq2
    refine gj_ic (w := 2) dX11_hasBy_20 ?_
    refine gj_goto (tgt := 38) dX11_hasBy_21 rfl ?_
    exact gj_ir rfl dX11_hasBy_38 rfl (by simp [sp_gain, *]) rfl
  have hq1 := zq1
  refine gj_ic (w := 0) dX11_hasBy_8 ?_
  refine gj_goto (tgt := 38) dX11_hasBy_9 rfl ?_
  exact gj_ir rfl dX11_hasBy_38 rfl (by simp [sp_gain, *]) rfl
def sp_mtw (o a c j : Nat) : Nat := (o ||| (j &&& 1) <<< a) ||| (j / 2) <<< c
theorem sp_mtw_e {o a c j : Nat} (hj : j < 4) : sp_mtw o a c j = sp_tw o a c j := by
  unfold sp_mtw sp_tw
  have h : ∀ j, j < 4 → (j &&& 1 = if Nat.testBit j 0 then 1 else 0) ∧ (j / 2 = if Nat.testBit j 1 then 1 else 0) := by decide
  rw [(h j hj).1, (h j hj).2]
  congr 1
  · congr 1; split <;> simp
  · split <;> simp
def sp_mr1 (T J : Nat → Nat) (a s : Nat) : Int32 := sp_gain (sp_mc T s) (!sp_mi T J a) (Nat.testBit s a)
def sp_mrt (T J : Nat → Nat) (a s : Nat) : Bool := decide (sp_mr1 T J a (s ^^^ 1 <<< a) ≤ sp_mr1 T J a s)
set_option maxHeartbeats 1000000 in
set_option maxRecDepth 10000 in
theorem ev_X11_two {E : mj_E} {h : mj_H} {a0 a1 y2 y3 y4 y5 y6 : Nat} (H0 : h 100 = some (mj_mo a0 a1 y2 y3 y4 y5 y6)) {T : Nat → Nat} (HT : h 101 = some (mj_ar 362 T)) {J : Nat → Nat} (HJ : h 105 = some (mj_ar 25 J)) (bT : mj_Tb T) {a c : Nat} (h0 : a < T 0) (h1 : c < T 0) (h2 : ¬ a = c) : mj_Ev E iX11_two [.ref 100, .int (nI a), .int (nI c)] h (mj_R (some (.int (nI (mj_bits (fun j => sp_mrt T (fun q => T (4 + q)) a (sp_mtw (sp_wo (sp_wo (sp_my T (fun q => T (4 + q)) (T (55 + T 29 % 7)) (T 0)) a) c) a c j) && sp_mrt T (fun q => T (4 + q)) c (sp_mtw (sp_wo (sp_wo (sp_my T (fun q => T (4 + q)) (T (55 + T 29 % 7)) (T 0)) a) c) a c j)) 4)))) (mj_up h 105 (mj_ar 25 (fun q => T (4 + q))))) := by
  refine mj_Ev.of (L0 := [some (.ref 100), some (.int (nI a)), some (.int (nI c)), none, none, none, none, none]) pnRX11 (Nat.le_of_ble_eq_true rfl) rfl ?_
  have hb0 := bT.1
  have hY : (sp_my T (fun q => T (4 + q)) (T (55 + T 29 % 7)) (T 0)) < 128 := sp_my_lt hb0
  have hO : (sp_wo (sp_wo (sp_my T (fun q => T (4 + q)) (T (55 + T 29 % 7)) (T 0)) a) c) < 128 := Nat.lt_of_le_of_lt Nat.and_le_left (Nat.lt_of_le_of_lt Nat.and_le_left hY)
  refine gj_aload_n dX11_two_0 rfl ?_
  refine gj_iload_n dX11_two_1 rfl ?_
  refine gj_V1 lkX11_146 H0 rfl rfl (ev_X11_isVoter_t H0 HT bT (by omega)) dX11_two_2 rfl rfl rfl rfl rfl ?_
  refine gj_if_eqN (tgt := 21) (by omega) dX11_two_5 rfl (fun zq0 => ?_) (fun zq0 => ?_)
  · exfalso; revert zq0; decide
  refine gj_aload_n dX11_two_8 rfl ?_
  refine gj_iload_n dX11_two_9 rfl ?_
  refine gj_V1 lkX11_146 H0 rfl rfl (ev_X11_isVoter_t H0 HT bT (by omega)) dX11_two_10 rfl rfl rfl rfl rfl ?_
  refine gj_if_eqN (tgt := 21) (by omega) dX11_two_13 rfl (fun zq0 => ?_) (fun zq0 => ?_)
  · exfalso; revert zq0; decide
  refine gj_iload_n dX11_two_16 rfl ?_
  refine gj_iload_n dX11_two_17 rfl ?_
  refine gj_icmp_neN (tgt := 28) (by omega) (by omega) dX11_two_18 rfl (fun zq1 => ?_) (fun zq1 => ?_)
  rotate_left
  · exfalso; omega
  refine gj_aload_n dX11_two_28 rfl ?_
  refine gj_V0 lkX11_124 H0 rfl rfl (ev_X11_layIce H0 HT HJ bT) dX11_two_29 rfl rfl rfl rfl rfl ?_
  refine gj_ic (w := 0) dX11_two_32 ?_
  refine gj_istore_n (L' := [some (.ref 100), some (.int (nI a)), some (.int (nI c)), some (.int (nI 0)), none, none, none, none]) dX11_two_33 (Nat.le_of_ble_eq_true rfl) rfl ?_
  refine gj_aload_n dX11_two_34 rfl ?_
  refine gj_aload_n dX11_two_35 rfl ?_
  refine gj_V1 lkX11_149 ((mj_up_ne (by decide)).trans H0) rfl rfl (ev_X11_frostNow ((mj_up_ne (by decide)).trans H0) ((mj_up_ne (by decide)).trans HT) bT) dX11_two_36 rfl rfl rfl rfl rfl ?_
  have hb2 := bT.2.2.2.2.2.2.2.1 (T 29 % 7) (by omega)
  refine gj_V1 lkX11_193 ((mj_up_ne (by decide)).trans H0) rfl rfl (ev_X11_yesOf ((mj_up_ne (by decide)).trans H0) ((mj_up_ne (by decide)).trans HT) (mj_up_eq _ _ _) bT bT.2.2.2.2.2.1 (by omega)) dX11_two_39 rfl rfl rfl rfl rfl ?_
  have hb3 := @sp_my_lt T (fun q => T (4 + q)) (T (55 + ((T 29) % 7))) (T 0) (by omega)
  refine gj_ic (w := 1) dX11_two_42 ?_
  refine gj_iload_n dX11_two_43 rfl ?_
  refine gj_ishlN (by omega) dX11_two_44 ?_
  refine gj_iconst (v := (-1)) dX11_two_45 (by decide) ?_
  refine gj_top (y := nI 4294967295) (by decide) ?_
  refine gj_ixorN  dX11_two_46 ?_
  refine gj_iandN dX11_two_47 ?_
  refine gj_ic (w := 1) dX11_two_48 ?_
  refine gj_iload_n dX11_two_49 rfl ?_
  refine gj_ishlN (by omega) dX11_two_50 ?_
  refine gj_iconst (v := (-1)) dX11_two_51 (by decide) ?_
  refine gj_top (y := nI 4294967295) (by decide) ?_
  refine gj_ixorN  dX11_two_52 ?_
  refine gj_iandN dX11_two_53 ?_
  refine gj_istore (L' := [some (.ref 100), some (.int (nI a)), some (.int (nI c)), some (.int (nI 0)), some (.int (nI (sp_wo (sp_wo (sp_my T (fun q => T (4 + q)) (T (55 + ((T 29) % 7))) (T 0)) a) c))), none, none, none]) dX11_two_54 (Nat.le_of_ble_eq_true rfl) rfl ?_
  refine gj_ic (w := 0) dX11_two_56 ?_
  refine gj_istore (L' := [some (.ref 100), some (.int (nI a)), some (.int (nI c)), some (.int (nI 0)), some (.int (nI (sp_wo (sp_wo (sp_my T (fun q => T (4 + q)) (T (55 + ((T 29) % 7))) (T 0)) a) c))), some (.int (nI 0)), none, none]) dX11_two_57 (Nat.le_of_ble_eq_true rfl) rfl ?_
  refine gj_cast (L' := [some (.ref 100), some (.int (nI a)), some (.int (nI c)), some (.int (nI (mj_bits (fun j => sp_mrt T (fun q => T (4 + q)) a (sp_mtw (sp_wo (sp_wo (sp_my T (fun q => T (4 + q)) (T (55 + T 29 % 7)) (T 0)) a) c) a c j) && sp_mrt T (fun q => T (4 + q)) c (sp_mtw (sp_wo (sp_wo (sp_my T (fun q => T (4 + q)) (T (55 + T 29 % 7)) (T 0)) a) c) a c j)) 0))), some (.int (nI (sp_wo (sp_wo (sp_my T (fun q => T (4 + q)) (T (55 + T 29 % 7)) (T 0)) a) c))), some (.int (nI 0)), none, none]) (st' := []) (h' := mj_up h 105 (mj_ar 25 (fun q => T (4 + q)))) rfl rfl rfl ?_
  refine gj_loop (fun j => [some (.ref 100), some (.int (nI a)), some (.int (nI c)), some (.int (nI (mj_bits (fun j => sp_mrt T (fun q => T (4 + q)) a (sp_mtw (sp_wo (sp_wo (sp_my T (fun q => T (4 + q)) (T (55 + T 29 % 7)) (T 0)) a) c) a c j) && sp_mrt T (fun q => T (4 + q)) c (sp_mtw (sp_wo (sp_wo (sp_my T (fun q => T (4 + q)) (T (55 + T 29 % 7)) (T 0)) a) c) a c j)) j))), some (.int (nI (sp_wo (sp_wo (sp_my T (fun q => T (4 + q)) (T (55 + T 29 % 7)) (T 0)) a) c))), some (.int (nI j)), none, none]) (fun j => mj_up h 105 (mj_ar 25 (fun q => T (4 + q)))) 4 ?_ (fun j hj ih => ?_) 0 (by omega)
  · show gj _ _ _ _ _ _ [some (.ref 100), some (.int (nI a)), some (.int (nI c)), some (.int (nI (mj_bits (fun j => sp_mrt T (fun q => T (4 + q)) a (sp_mtw (sp_wo (sp_wo (sp_my T (fun q => T (4 + q)) (T (55 + T 29 % 7)) (T 0)) a) c) a c j) && sp_mrt T (fun q => T (4 + q)) c (sp_mtw (sp_wo (sp_wo (sp_my T (fun q => T (4 + q)) (T (55 + T 29 % 7)) (T 0)) a) c) a c j)) 4))), some (.int (nI (sp_wo (sp_wo (sp_my T (fun q => T (4 + q)) (T (55 + T 29 % 7)) (T 0)) a) c))), some (.int (nI 4)), none, none] _ _
    refine gj_iload dX11_two_59 rfl ?_
    refine gj_ic (w := 4) dX11_two_61 ?_
    refine gj_icmp_geN (tgt := 154) (by omega) (by omega) dX11_two_62 rfl (fun zq0 => ?_) (fun zq0 => ?_)
    rotate_left
    · exfalso; omega
    refine gj_iload_n dX11_two_154 rfl ?_
    exact gj_ir rfl dX11_two_155 rfl rfl rfl
  show gj _ _ _ _ _ _ [some (.ref 100), some (.int (nI a)), some (.int (nI c)), some (.int (nI (mj_bits (fun j => sp_mrt T (fun q => T (4 + q)) a (sp_mtw (sp_wo (sp_wo (sp_my T (fun q => T (4 + q)) (T (55 + T 29 % 7)) (T 0)) a) c) a c j) && sp_mrt T (fun q => T (4 + q)) c (sp_mtw (sp_wo (sp_wo (sp_my T (fun q => T (4 + q)) (T (55 + T 29 % 7)) (T 0)) a) c) a c j)) j))), some (.int (nI (sp_wo (sp_wo (sp_my T (fun q => T (4 + q)) (T (55 + T 29 % 7)) (T 0)) a) c))), some (.int (nI j)), none, none] _ _
  refine gj_iload dX11_two_59 rfl ?_
  refine gj_ic (w := 4) dX11_two_61 ?_
  refine gj_icmp_geN (tgt := 154) (by omega) (by omega) dX11_two_62 rfl (fun zq4 => ?_) (fun zq4 => ?_)
  · exfalso; omega
  have hT : (sp_mtw (sp_wo (sp_wo (sp_my T (fun q => T (4 + q)) (T (55 + T 29 % 7)) (T 0)) a) c) a c j) < 128 := by rw [sp_mtw_e hj]; exact sp_tw_lt hO (by omega) (by omega)
  refine gj_iload dX11_two_65 rfl ?_
  refine gj_iload dX11_two_67 rfl ?_
  refine gj_ic (w := 1) dX11_two_69 ?_
  refine gj_iandN  dX11_two_70 ?_
  refine gj_iload_n dX11_two_71 rfl ?_
  refine gj_ishlN (by omega) dX11_two_72 ?_
  refine gj_iorN  dX11_two_73 ?_
  refine gj_iload dX11_two_74 rfl ?_
  refine gj_ic (w := 2) dX11_two_76 ?_
  refine gj_idivN (by omega) (by omega) (by omega) dX11_two_77 ?_
  refine gj_iload_n dX11_two_78 rfl ?_
  refine gj_ishlN (by omega) dX11_two_79 ?_
  refine gj_iorN  dX11_two_80 ?_
  refine gj_topN (y := (sp_mtw (sp_wo (sp_wo (sp_my T (fun q => T (4 + q)) (T (55 + T 29 % 7)) (T 0)) a) c) a c j)) rfl ?_
  refine gj_istore (L' := [some (.ref 100), some (.int (nI a)), some (.int (nI c)), some (.int (nI (mj_bits (fun j => sp_mrt T (fun q => T (4 + q)) a (sp_mtw (sp_wo (sp_wo (sp_my T (fun q => T (4 + q)) (T (55 + T 29 % 7)) (T 0)) a) c) a c j) && sp_mrt T (fun q => T (4 + q)) c (sp_mtw (sp_wo (sp_wo (sp_my T (fun q => T (4 + q)) (T (55 + T 29 % 7)) (T 0)) a) c) a c j)) j))), some (.int (nI (sp_wo (sp_wo (sp_my T (fun q => T (4 + q)) (T (55 + T 29 % 7)) (T 0)) a) c))), some (.int (nI j)), some (.int (nI (sp_mtw (sp_wo (sp_wo (sp_my T (fun q => T (4 + q)) (T (55 + T 29 % 7)) (T 0)) a) c) a c j))), none]) dX11_two_81 (Nat.le_of_ble_eq_true rfl) rfl ?_
  refine gj_aload_n dX11_two_83 rfl ?_
  refine gj_iload_n dX11_two_84 rfl ?_
  refine gj_iload dX11_two_85 rfl ?_
  refine gj_V1 lkX11_202 ((mj_up_ne (by decide)).trans H0) rfl rfl (ev_X11_hasBy ((mj_up_ne (by decide)).trans H0) ((mj_up_ne (by decide)).trans HT) (mj_up_eq _ _ _) bT bT.2.2.2.2.2.1 (by omega) hT) dX11_two_87 rfl rfl rfl rfl rfl ?_
  refine gj_aload_n dX11_two_90 rfl ?_
  refine gj_iload_n dX11_two_91 rfl ?_
  refine gj_iload dX11_two_92 rfl ?_
  refine gj_ic (w := 1) dX11_two_94 ?_
  refine gj_iload_n dX11_two_95 rfl ?_
  refine gj_ishlN (by omega) dX11_two_96 ?_
  refine gj_ixorN  dX11_two_97 ?_
  refine gj_V1 lkX11_202 ((mj_up_ne (by decide)).trans H0) rfl rfl (ev_X11_hasBy ((mj_up_ne (by decide)).trans H0) ((mj_up_ne (by decide)).trans HT) (mj_up_eq _ _ _) bT bT.2.2.2.2.2.1 (by omega) (Nat.xor_lt_two_pow (n := 7) hT (mj_sh128 (by omega)))) dX11_two_98 rfl rfl rfl rfl rfl ?_
  refine gj_icmp_lt (tgt := 129) dX11_two_101 rfl (fun zq5 => ?_) (fun zq5 => ?_)
  · -- 101 taken
    have hr1 : sp_mrt T (fun q => T (4 + q)) a (sp_mtw (sp_wo (sp_wo (sp_my T (fun q => T (4 + q)) (T (55 + T 29 % 7)) (T 0)) a) c) a c j) = false := decide_eq_false (Int32.not_le.mpr zq5)
    have hw9 : (fun j => sp_mrt T (fun q => T (4 + q)) a (sp_mtw (sp_wo (sp_wo (sp_my T (fun q => T (4 + q)) (T (55 + T 29 % 7)) (T 0)) a) c) a c j) && sp_mrt T (fun q => T (4 + q)) c (sp_mtw (sp_wo (sp_wo (sp_my T (fun q => T (4 + q)) (T (55 + T 29 % 7)) (T 0)) a) c) a c j)) j = false := by show (_ && _) = false; rw [hr1, Bool.false_and]
    refine gj_ic (w := 0) dX11_two_129 ?_
    refine gj_istore (L' := [some (.ref 100), some (.int (nI a)), some (.int (nI c)), some (.int (nI (mj_bits (fun j => sp_mrt T (fun q => T (4 + q)) a (sp_mtw (sp_wo (sp_wo (sp_my T (fun q => T (4 + q)) (T (55 + T 29 % 7)) (T 0)) a) c) a c j) && sp_mrt T (fun q => T (4 + q)) c (sp_mtw (sp_wo (sp_wo (sp_my T (fun q => T (4 + q)) (T (55 + T 29 % 7)) (T 0)) a) c) a c j)) j))), some (.int (nI (sp_wo (sp_wo (sp_my T (fun q => T (4 + q)) (T (55 + T 29 % 7)) (T 0)) a) c))), some (.int (nI j)), some (.int (nI (sp_mtw (sp_wo (sp_wo (sp_my T (fun q => T (4 + q)) (T (55 + T 29 % 7)) (T 0)) a) c) a c j))), some (.int (nI 0))]) dX11_two_130 (Nat.le_of_ble_eq_true rfl) rfl ?_
    refine gj_iload_n dX11_two_132 rfl ?_
    refine gj_iload dX11_two_133 rfl ?_
    refine gj_if_eqN (tgt := 145) (by omega) dX11_two_135 rfl (fun zq0 => ?_) (fun zq0 => ?_)
    rotate_left
    · exfalso; revert zq0; decide
    refine gj_ic (w := 0) dX11_two_145 ?_
    refine gj_iorN  dX11_two_146 ?_
    refine gj_istore_n (L' := [some (.ref 100), some (.int (nI a)), some (.int (nI c)), some (.int (nI ((mj_bits (fun j => sp_mrt T (fun q => T (4 + q)) a (sp_mtw (sp_wo (sp_wo (sp_my T (fun q => T (4 + q)) (T (55 + T 29 % 7)) (T 0)) a) c) a c j) && sp_mrt T (fun q => T (4 + q)) c (sp_mtw (sp_wo (sp_wo (sp_my T (fun q => T (4 + q)) (T (55 + T 29 % 7)) (T 0)) a) c) a c j)) j) ||| 0))), some (.int (nI (sp_wo (sp_wo (sp_my T (fun q => T (4 + q)) (T (55 + T 29 % 7)) (T 0)) a) c))), some (.int (nI j)), some (.int (nI (sp_mtw (sp_wo (sp_wo (sp_my T (fun q => T (4 + q)) (T (55 + T 29 % 7)) (T 0)) a) c) a c j))), some (.int (nI 0))]) dX11_two_147 (Nat.le_of_ble_eq_true rfl) rfl ?_
    refine gj_iincN (L' := [some (.ref 100), some (.int (nI a)), some (.int (nI c)), some (.int (nI ((mj_bits (fun j => sp_mrt T (fun q => T (4 + q)) a (sp_mtw (sp_wo (sp_wo (sp_my T (fun q => T (4 + q)) (T (55 + T 29 % 7)) (T 0)) a) c) a c j) && sp_mrt T (fun q => T (4 + q)) c (sp_mtw (sp_wo (sp_wo (sp_my T (fun q => T (4 + q)) (T (55 + T 29 % 7)) (T 0)) a) c) a c j)) j) ||| 0))), some (.int (nI (sp_wo (sp_wo (sp_my T (fun q => T (4 + q)) (T (55 + T 29 % 7)) (T 0)) a) c))), some (.int (nI (j + 1))), some (.int (nI (sp_mtw (sp_wo (sp_wo (sp_my T (fun q => T (4 + q)) (T (55 + T 29 % 7)) (T 0)) a) c) a c j))), some (.int (nI 0))]) dX11_two_148 rfl (Nat.le_of_ble_eq_true rfl) rfl ?_
    refine gj_goto (tgt := 59) dX11_two_151 rfl ?_
    refine gj_forget (i := 6) (L' := [some (.ref 100), some (.int (nI a)), some (.int (nI c)), some (.int (nI ((mj_bits (fun j => sp_mrt T (fun q => T (4 + q)) a (sp_mtw (sp_wo (sp_wo (sp_my T (fun q => T (4 + q)) (T (55 + T 29 % 7)) (T 0)) a) c) a c j) && sp_mrt T (fun q => T (4 + q)) c (sp_mtw (sp_wo (sp_wo (sp_my T (fun q => T (4 + q)) (T (55 + T 29 % 7)) (T 0)) a) c) a c j)) j) ||| 0))), some (.int (nI (sp_wo (sp_wo (sp_my T (fun q => T (4 + q)) (T (55 + T 29 % 7)) (T 0)) a) c))), some (.int (nI (j + 1))), none, some (.int (nI 0))]) rfl ?_
    refine gj_forget (i := 7) (L' := [some (.ref 100), some (.int (nI a)), some (.int (nI c)), some (.int (nI ((mj_bits (fun j => sp_mrt T (fun q => T (4 + q)) a (sp_mtw (sp_wo (sp_wo (sp_my T (fun q => T (4 + q)) (T (55 + T 29 % 7)) (T 0)) a) c) a c j) && sp_mrt T (fun q => T (4 + q)) c (sp_mtw (sp_wo (sp_wo (sp_my T (fun q => T (4 + q)) (T (55 + T 29 % 7)) (T 0)) a) c) a c j)) j) ||| 0))), some (.int (nI (sp_wo (sp_wo (sp_my T (fun q => T (4 + q)) (T (55 + T 29 % 7)) (T 0)) a) c))), some (.int (nI (j + 1))), none, none]) rfl ?_
    exact gj_cast (by first | (rw [show mj_bits (fun j => sp_mrt T (fun q => T (4 + q)) a (sp_mtw (sp_wo (sp_wo (sp_my T (fun q => T (4 + q)) (T (55 + T 29 % 7)) (T 0)) a) c) a c j) && sp_mrt T (fun q => T (4 + q)) c (sp_mtw (sp_wo (sp_wo (sp_my T (fun q => T (4 + q)) (T (55 + T 29 % 7)) (T 0)) a) c) a c j)) (j + 1) = _ from mj_bits_t (p := (fun j => sp_mrt T (fun q => T (4 + q)) a (sp_mtw (sp_wo (sp_wo (sp_my T (fun q => T (4 + q)) (T (55 + T 29 % 7)) (T 0)) a) c) a c j) && sp_mrt T (fun q => T (4 + q)) c (sp_mtw (sp_wo (sp_wo (sp_my T (fun q => T (4 + q)) (T (55 + T 29 % 7)) (T 0)) a) c) a c j))) hw9]; try rfl) | (rw [Nat.or_zero, show mj_bits (fun j => sp_mrt T (fun q => T (4 + q)) a (sp_mtw (sp_wo (sp_wo (sp_my T (fun q => T (4 + q)) (T (55 + T 29 % 7)) (T 0)) a) c) a c j) && sp_mrt T (fun q => T (4 + q)) c (sp_mtw (sp_wo (sp_wo (sp_my T (fun q => T (4 + q)) (T (55 + T 29 % 7)) (T 0)) a) c) a c j)) (j + 1) = _ from mj_bits_f (p := (fun j => sp_mrt T (fun q => T (4 + q)) a (sp_mtw (sp_wo (sp_wo (sp_my T (fun q => T (4 + q)) (T (55 + T 29 % 7)) (T 0)) a) c) a c j) && sp_mrt T (fun q => T (4 + q)) c (sp_mtw (sp_wo (sp_wo (sp_my T (fun q => T (4 + q)) (T (55 + T 29 % 7)) (T 0)) a) c) a c j))) hw9]; try rfl)) rfl rfl ih
  have hr1 : sp_mrt T (fun q => T (4 + q)) a (sp_mtw (sp_wo (sp_wo (sp_my T (fun q => T (4 + q)) (T (55 + T 29 % 7)) (T 0)) a) c) a c j) = true := decide_eq_true (Int32.not_lt.mp zq5)
  refine gj_aload_n dX11_two_104 rfl ?_
  refine gj_iload_n dX11_two_105 rfl ?_
  refine gj_iload dX11_two_106 rfl ?_
  refine gj_V1 lkX11_202 ((mj_up_ne (by decide)).trans H0) rfl rfl (ev_X11_hasBy ((mj_up_ne (by decide)).trans H0) ((mj_up_ne (by decide)).trans HT) (mj_up_eq _ _ _) bT bT.2.2.2.2.2.1 (by omega) hT) dX11_two_108 rfl rfl rfl rfl rfl ?_
  refine gj_aload_n dX11_two_111 rfl ?_
  refine gj_iload_n dX11_two_112 rfl ?_
  refine gj_iload dX11_two_113 rfl ?_
  refine gj_ic (w := 1) dX11_two_115 ?_
  refine gj_iload_n dX11_two_116 rfl ?_
  refine gj_ishlN (by omega) dX11_two_117 ?_
  refine gj_ixorN  dX11_two_118 ?_
  refine gj_V1 lkX11_202 ((mj_up_ne (by decide)).trans H0) rfl rfl (ev_X11_hasBy ((mj_up_ne (by decide)).trans H0) ((mj_up_ne (by decide)).trans HT) (mj_up_eq _ _ _) bT bT.2.2.2.2.2.1 (by omega) (Nat.xor_lt_two_pow (n := 7) hT (mj_sh128 (by omega)))) dX11_two_119 rfl rfl rfl rfl rfl ?_
  refine gj_icmp_lt (tgt := 129) dX11_two_122 rfl (fun zq6 => ?_) (fun zq6 => ?_)
  · -- 122 taken
    have hr2 : sp_mrt T (fun q => T (4 + q)) c (sp_mtw (sp_wo (sp_wo (sp_my T (fun q => T (4 + q)) (T (55 + T 29 % 7)) (T 0)) a) c) a c j) = false := decide_eq_false (Int32.not_le.mpr zq6)
    have hw9 : (fun j => sp_mrt T (fun q => T (4 + q)) a (sp_mtw (sp_wo (sp_wo (sp_my T (fun q => T (4 + q)) (T (55 + T 29 % 7)) (T 0)) a) c) a c j) && sp_mrt T (fun q => T (4 + q)) c (sp_mtw (sp_wo (sp_wo (sp_my T (fun q => T (4 + q)) (T (55 + T 29 % 7)) (T 0)) a) c) a c j)) j = false := by show (_ && _) = false; rw [hr2, Bool.and_false]
    refine gj_ic (w := 0) dX11_two_129 ?_
    refine gj_istore (L' := [some (.ref 100), some (.int (nI a)), some (.int (nI c)), some (.int (nI (mj_bits (fun j => sp_mrt T (fun q => T (4 + q)) a (sp_mtw (sp_wo (sp_wo (sp_my T (fun q => T (4 + q)) (T (55 + T 29 % 7)) (T 0)) a) c) a c j) && sp_mrt T (fun q => T (4 + q)) c (sp_mtw (sp_wo (sp_wo (sp_my T (fun q => T (4 + q)) (T (55 + T 29 % 7)) (T 0)) a) c) a c j)) j))), some (.int (nI (sp_wo (sp_wo (sp_my T (fun q => T (4 + q)) (T (55 + T 29 % 7)) (T 0)) a) c))), some (.int (nI j)), some (.int (nI (sp_mtw (sp_wo (sp_wo (sp_my T (fun q => T (4 + q)) (T (55 + T 29 % 7)) (T 0)) a) c) a c j))), some (.int (nI 0))]) dX11_two_130 (Nat.le_of_ble_eq_true rfl) rfl ?_
    refine gj_iload_n dX11_two_132 rfl ?_
    refine gj_iload dX11_two_133 rfl ?_
    refine gj_if_eqN (tgt := 145) (by omega) dX11_two_135 rfl (fun zq0 => ?_) (fun zq0 => ?_)
    rotate_left
    · exfalso; revert zq0; decide
    refine gj_ic (w := 0) dX11_two_145 ?_
    refine gj_iorN  dX11_two_146 ?_
    refine gj_istore_n (L' := [some (.ref 100), some (.int (nI a)), some (.int (nI c)), some (.int (nI ((mj_bits (fun j => sp_mrt T (fun q => T (4 + q)) a (sp_mtw (sp_wo (sp_wo (sp_my T (fun q => T (4 + q)) (T (55 + T 29 % 7)) (T 0)) a) c) a c j) && sp_mrt T (fun q => T (4 + q)) c (sp_mtw (sp_wo (sp_wo (sp_my T (fun q => T (4 + q)) (T (55 + T 29 % 7)) (T 0)) a) c) a c j)) j) ||| 0))), some (.int (nI (sp_wo (sp_wo (sp_my T (fun q => T (4 + q)) (T (55 + T 29 % 7)) (T 0)) a) c))), some (.int (nI j)), some (.int (nI (sp_mtw (sp_wo (sp_wo (sp_my T (fun q => T (4 + q)) (T (55 + T 29 % 7)) (T 0)) a) c) a c j))), some (.int (nI 0))]) dX11_two_147 (Nat.le_of_ble_eq_true rfl) rfl ?_
    refine gj_iincN (L' := [some (.ref 100), some (.int (nI a)), some (.int (nI c)), some (.int (nI ((mj_bits (fun j => sp_mrt T (fun q => T (4 + q)) a (sp_mtw (sp_wo (sp_wo (sp_my T (fun q => T (4 + q)) (T (55 + T 29 % 7)) (T 0)) a) c) a c j) && sp_mrt T (fun q => T (4 + q)) c (sp_mtw (sp_wo (sp_wo (sp_my T (fun q => T (4 + q)) (T (55 + T 29 % 7)) (T 0)) a) c) a c j)) j) ||| 0))), some (.int (nI (sp_wo (sp_wo (sp_my T (fun q => T (4 + q)) (T (55 + T 29 % 7)) (T 0)) a) c))), some (.int (nI (j + 1))), some (.int (nI (sp_mtw (sp_wo (sp_wo (sp_my T (fun q => T (4 + q)) (T (55 + T 29 % 7)) (T 0)) a) c) a c j))), some (.int (nI 0))]) dX11_two_148 rfl (Nat.le_of_ble_eq_true rfl) rfl ?_
    refine gj_goto (tgt := 59) dX11_two_151 rfl ?_
    refine gj_forget (i := 6) (L' := [some (.ref 100), some (.int (nI a)), some (.int (nI c)), some (.int (nI ((mj_bits (fun j => sp_mrt T (fun q => T (4 + q)) a (sp_mtw (sp_wo (sp_wo (sp_my T (fun q => T (4 + q)) (T (55 + T 29 % 7)) (T 0)) a) c) a c j) && sp_mrt T (fun q => T (4 + q)) c (sp_mtw (sp_wo (sp_wo (sp_my T (fun q => T (4 + q)) (T (55 + T 29 % 7)) (T 0)) a) c) a c j)) j) ||| 0))), some (.int (nI (sp_wo (sp_wo (sp_my T (fun q => T (4 + q)) (T (55 + T 29 % 7)) (T 0)) a) c))), some (.int (nI (j + 1))), none, some (.int (nI 0))]) rfl ?_
    refine gj_forget (i := 7) (L' := [some (.ref 100), some (.int (nI a)), some (.int (nI c)), some (.int (nI ((mj_bits (fun j => sp_mrt T (fun q => T (4 + q)) a (sp_mtw (sp_wo (sp_wo (sp_my T (fun q => T (4 + q)) (T (55 + T 29 % 7)) (T 0)) a) c) a c j) && sp_mrt T (fun q => T (4 + q)) c (sp_mtw (sp_wo (sp_wo (sp_my T (fun q => T (4 + q)) (T (55 + T 29 % 7)) (T 0)) a) c) a c j)) j) ||| 0))), some (.int (nI (sp_wo (sp_wo (sp_my T (fun q => T (4 + q)) (T (55 + T 29 % 7)) (T 0)) a) c))), some (.int (nI (j + 1))), none, none]) rfl ?_
    exact gj_cast (by first | (rw [show mj_bits (fun j => sp_mrt T (fun q => T (4 + q)) a (sp_mtw (sp_wo (sp_wo (sp_my T (fun q => T (4 + q)) (T (55 + T 29 % 7)) (T 0)) a) c) a c j) && sp_mrt T (fun q => T (4 + q)) c (sp_mtw (sp_wo (sp_wo (sp_my T (fun q => T (4 + q)) (T (55 + T 29 % 7)) (T 0)) a) c) a c j)) (j + 1) = _ from mj_bits_t (p := (fun j => sp_mrt T (fun q => T (4 + q)) a (sp_mtw (sp_wo (sp_wo (sp_my T (fun q => T (4 + q)) (T (55 + T 29 % 7)) (T 0)) a) c) a c j) && sp_mrt T (fun q => T (4 + q)) c (sp_mtw (sp_wo (sp_wo (sp_my T (fun q => T (4 + q)) (T (55 + T 29 % 7)) (T 0)) a) c) a c j))) hw9]; try rfl) | (rw [Nat.or_zero, show mj_bits (fun j => sp_mrt T (fun q => T (4 + q)) a (sp_mtw (sp_wo (sp_wo (sp_my T (fun q => T (4 + q)) (T (55 + T 29 % 7)) (T 0)) a) c) a c j) && sp_mrt T (fun q => T (4 + q)) c (sp_mtw (sp_wo (sp_wo (sp_my T (fun q => T (4 + q)) (T (55 + T 29 % 7)) (T 0)) a) c) a c j)) (j + 1) = _ from mj_bits_f (p := (fun j => sp_mrt T (fun q => T (4 + q)) a (sp_mtw (sp_wo (sp_wo (sp_my T (fun q => T (4 + q)) (T (55 + T 29 % 7)) (T 0)) a) c) a c j) && sp_mrt T (fun q => T (4 + q)) c (sp_mtw (sp_wo (sp_wo (sp_my T (fun q => T (4 + q)) (T (55 + T 29 % 7)) (T 0)) a) c) a c j))) hw9]; try rfl)) rfl rfl ih
  have hr2 : sp_mrt T (fun q => T (4 + q)) c (sp_mtw (sp_wo (sp_wo (sp_my T (fun q => T (4 + q)) (T (55 + T 29 % 7)) (T 0)) a) c) a c j) = true := decide_eq_true (Int32.not_lt.mp zq6)
  have hw9 : (fun j => sp_mrt T (fun q => T (4 + q)) a (sp_mtw (sp_wo (sp_wo (sp_my T (fun q => T (4 + q)) (T (55 + T 29 % 7)) (T 0)) a) c) a c j) && sp_mrt T (fun q => T (4 + q)) c (sp_mtw (sp_wo (sp_wo (sp_my T (fun q => T (4 + q)) (T (55 + T 29 % 7)) (T 0)) a) c) a c j)) j = true := by show (_ && _) = true; rw [hr1, hr2]; rfl
  refine gj_ic (w := 1) dX11_two_125 ?_
  refine gj_goto (tgt := 130) dX11_two_126 rfl ?_
  refine gj_istore (L' := [some (.ref 100), some (.int (nI a)), some (.int (nI c)), some (.int (nI (mj_bits (fun j => sp_mrt T (fun q => T (4 + q)) a (sp_mtw (sp_wo (sp_wo (sp_my T (fun q => T (4 + q)) (T (55 + T 29 % 7)) (T 0)) a) c) a c j) && sp_mrt T (fun q => T (4 + q)) c (sp_mtw (sp_wo (sp_wo (sp_my T (fun q => T (4 + q)) (T (55 + T 29 % 7)) (T 0)) a) c) a c j)) j))), some (.int (nI (sp_wo (sp_wo (sp_my T (fun q => T (4 + q)) (T (55 + T 29 % 7)) (T 0)) a) c))), some (.int (nI j)), some (.int (nI (sp_mtw (sp_wo (sp_wo (sp_my T (fun q => T (4 + q)) (T (55 + T 29 % 7)) (T 0)) a) c) a c j))), some (.int (nI 1))]) dX11_two_130 (Nat.le_of_ble_eq_true rfl) rfl ?_
  refine gj_iload_n dX11_two_132 rfl ?_
  refine gj_iload dX11_two_133 rfl ?_
  refine gj_if_eqN (tgt := 145) (by omega) dX11_two_135 rfl (fun zq0 => ?_) (fun zq0 => ?_)
  · exfalso; revert zq0; decide
  refine gj_ic (w := 1) dX11_two_138 ?_
  refine gj_iload dX11_two_139 rfl ?_
  refine gj_ishlN (by omega) dX11_two_141 ?_
  refine gj_goto (tgt := 146) dX11_two_142 rfl ?_
  refine gj_iorN  dX11_two_146 ?_
  refine gj_istore_n (L' := [some (.ref 100), some (.int (nI a)), some (.int (nI c)), some (.int (nI ((mj_bits (fun j => sp_mrt T (fun q => T (4 + q)) a (sp_mtw (sp_wo (sp_wo (sp_my T (fun q => T (4 + q)) (T (55 + T 29 % 7)) (T 0)) a) c) a c j) && sp_mrt T (fun q => T (4 + q)) c (sp_mtw (sp_wo (sp_wo (sp_my T (fun q => T (4 + q)) (T (55 + T 29 % 7)) (T 0)) a) c) a c j)) j) ||| (1 <<< j)))), some (.int (nI (sp_wo (sp_wo (sp_my T (fun q => T (4 + q)) (T (55 + T 29 % 7)) (T 0)) a) c))), some (.int (nI j)), some (.int (nI (sp_mtw (sp_wo (sp_wo (sp_my T (fun q => T (4 + q)) (T (55 + T 29 % 7)) (T 0)) a) c) a c j))), some (.int (nI 1))]) dX11_two_147 (Nat.le_of_ble_eq_true rfl) rfl ?_
  refine gj_iincN (L' := [some (.ref 100), some (.int (nI a)), some (.int (nI c)), some (.int (nI ((mj_bits (fun j => sp_mrt T (fun q => T (4 + q)) a (sp_mtw (sp_wo (sp_wo (sp_my T (fun q => T (4 + q)) (T (55 + T 29 % 7)) (T 0)) a) c) a c j) && sp_mrt T (fun q => T (4 + q)) c (sp_mtw (sp_wo (sp_wo (sp_my T (fun q => T (4 + q)) (T (55 + T 29 % 7)) (T 0)) a) c) a c j)) j) ||| (1 <<< j)))), some (.int (nI (sp_wo (sp_wo (sp_my T (fun q => T (4 + q)) (T (55 + T 29 % 7)) (T 0)) a) c))), some (.int (nI (j + 1))), some (.int (nI (sp_mtw (sp_wo (sp_wo (sp_my T (fun q => T (4 + q)) (T (55 + T 29 % 7)) (T 0)) a) c) a c j))), some (.int (nI 1))]) dX11_two_148 rfl (Nat.le_of_ble_eq_true rfl) rfl ?_
  refine gj_goto (tgt := 59) dX11_two_151 rfl ?_
  refine gj_forget (i := 6) (L' := [some (.ref 100), some (.int (nI a)), some (.int (nI c)), some (.int (nI ((mj_bits (fun j => sp_mrt T (fun q => T (4 + q)) a (sp_mtw (sp_wo (sp_wo (sp_my T (fun q => T (4 + q)) (T (55 + T 29 % 7)) (T 0)) a) c) a c j) && sp_mrt T (fun q => T (4 + q)) c (sp_mtw (sp_wo (sp_wo (sp_my T (fun q => T (4 + q)) (T (55 + T 29 % 7)) (T 0)) a) c) a c j)) j) ||| (1 <<< j)))), some (.int (nI (sp_wo (sp_wo (sp_my T (fun q => T (4 + q)) (T (55 + T 29 % 7)) (T 0)) a) c))), some (.int (nI (j + 1))), none, some (.int (nI 1))]) rfl ?_
  refine gj_forget (i := 7) (L' := [some (.ref 100), some (.int (nI a)), some (.int (nI c)), some (.int (nI ((mj_bits (fun j => sp_mrt T (fun q => T (4 + q)) a (sp_mtw (sp_wo (sp_wo (sp_my T (fun q => T (4 + q)) (T (55 + T 29 % 7)) (T 0)) a) c) a c j) && sp_mrt T (fun q => T (4 + q)) c (sp_mtw (sp_wo (sp_wo (sp_my T (fun q => T (4 + q)) (T (55 + T 29 % 7)) (T 0)) a) c) a c j)) j) ||| (1 <<< j)))), some (.int (nI (sp_wo (sp_wo (sp_my T (fun q => T (4 + q)) (T (55 + T 29 % 7)) (T 0)) a) c))), some (.int (nI (j + 1))), none, none]) rfl ?_
  exact gj_cast (by first | (rw [show mj_bits (fun j => sp_mrt T (fun q => T (4 + q)) a (sp_mtw (sp_wo (sp_wo (sp_my T (fun q => T (4 + q)) (T (55 + T 29 % 7)) (T 0)) a) c) a c j) && sp_mrt T (fun q => T (4 + q)) c (sp_mtw (sp_wo (sp_wo (sp_my T (fun q => T (4 + q)) (T (55 + T 29 % 7)) (T 0)) a) c) a c j)) (j + 1) = _ from mj_bits_t (p := (fun j => sp_mrt T (fun q => T (4 + q)) a (sp_mtw (sp_wo (sp_wo (sp_my T (fun q => T (4 + q)) (T (55 + T 29 % 7)) (T 0)) a) c) a c j) && sp_mrt T (fun q => T (4 + q)) c (sp_mtw (sp_wo (sp_wo (sp_my T (fun q => T (4 + q)) (T (55 + T 29 % 7)) (T 0)) a) c) a c j))) hw9]; try rfl) | (rw [Nat.or_zero, show mj_bits (fun j => sp_mrt T (fun q => T (4 + q)) a (sp_mtw (sp_wo (sp_wo (sp_my T (fun q => T (4 + q)) (T (55 + T 29 % 7)) (T 0)) a) c) a c j) && sp_mrt T (fun q => T (4 + q)) c (sp_mtw (sp_wo (sp_wo (sp_my T (fun q => T (4 + q)) (T (55 + T 29 % 7)) (T 0)) a) c) a c j)) (j + 1) = _ from mj_bits_f (p := (fun j => sp_mrt T (fun q => T (4 + q)) a (sp_mtw (sp_wo (sp_wo (sp_my T (fun q => T (4 + q)) (T (55 + T 29 % 7)) (T 0)) a) c) a c j) && sp_mrt T (fun q => T (4 + q)) c (sp_mtw (sp_wo (sp_wo (sp_my T (fun q => T (4 + q)) (T (55 + T 29 % 7)) (T 0)) a) c) a c j))) hw9]; try rfl)) rfl rfl ih
