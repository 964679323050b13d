def sp_tcs (o x k : Nat) : Nat := mj_fo (fun t z => z * (if Nat.testBit x t then o else 10 - o)) 1 k
theorem sp_tcs_s {o x k : Nat} : sp_tcs o x (k + 1) = sp_tcs o x k * (if Nat.testBit x k then o else 10 - o) := mj_fo_s
theorem sp_tcs_t {o x k : Nat} (h : Nat.testBit x k = true) : sp_tcs o x (k + 1) = sp_tcs o x k * o := by rw [sp_tcs_s, if_pos h]
theorem sp_tcs_f {o x k : Nat} (h : Nat.testBit x k = false) : sp_tcs o x (k + 1) = sp_tcs o x k * (10 - o) := by rw [sp_tcs_s, if_neg (by rw [h]; decide)]
theorem sp_tcs_le {o x k : Nat} (ho : o ≤ 10) : sp_tcs o x k ≤ 10 ^ k := by
  induction k with
  | zero => exact Nat.le_refl _
  | succ k ih =>
    rw [sp_tcs_s, Nat.pow_succ]
    exact Nat.mul_le_mul ih (by split <;> omega)
def sp_tic (k : Nat) (F U : Nat → Nat) (day i x n : Nat) : Nat := mj_fo (fun t i => sp_after k i (if Nat.testBit x t then 0 else F ((day + t) % 7)) (U ((day + t) % 7))) i n
theorem sp_tic_s {k : Nat} {F U : Nat → Nat} {day i x n : Nat} : sp_tic k F U day i x (n + 1) = sp_after k (sp_tic k F U day i x n) (if Nat.testBit x n then 0 else F ((day + n) % 7)) (U ((day + n) % 7)) := mj_fo_s
theorem sp_tic_t {k : Nat} {F U : Nat → Nat} {day i x n : Nat} (h : Nat.testBit x n = true) : sp_tic k F U day i x (n + 1) = sp_after k (sp_tic k F U day i x n) 0 (U ((day + n) % 7)) := by rw [sp_tic_s, if_pos h]
theorem sp_tic_f {k : Nat} {F U : Nat → Nat} {day i x n : Nat} (h : Nat.testBit x n = false) : sp_tic k F U day i x (n + 1) = sp_after k (sp_tic k F U day i x n) (F ((day + n) % 7)) (U ((day + n) % 7)) := by rw [sp_tic_s, if_neg (by rw [h]; decide)]
theorem sp_tic_le {k : Nat} {F U : Nat → Nat} {day i x n : Nat} (h : i ≤ 99) : sp_tic k F U day i x n ≤ 99 := by
  cases n with
  | zero => exact h
  | succ n => rw [sp_tic_s]; exact sp_after_le
def sp_tw1 (k : Nat) (F U : Nat → Nat) (day i o w m : Nat) : Nat → Nat := fun x => if w ≤ sp_bear k (sp_tic k F U day i x m) then sp_tcs o x m else 0
theorem sp_tw1_t {k : Nat} {F U : Nat → Nat} {day i o w m x : Nat} (h : w ≤ sp_bear k (sp_tic k F U day i x m)) : sp_tw1 k F U day i o w m x = sp_tcs o x m := if_pos h
theorem sp_tw1_f {k : Nat} {F U : Nat → Nat} {day i o w m x : Nat} (h : sp_bear k (sp_tic k F U day i x m) < w) : sp_tw1 k F U day i o w m x = 0 := if_neg (Nat.not_le.mpr h)
theorem sp_tw1_le {k : Nat} {F U : Nat → Nat} {day i o w m x : Nat} (ho : o ≤ 10) : sp_tw1 k F U day i o w m x ≤ 10 ^ m := by
  unfold sp_tw1; split
  · exact sp_tcs_le ho
  · exact Nat.zero_le _
theorem mj_256 {m : Nat} (hm : m ≤ 8) : 1 <<< m ≤ 256 := by
  rw [Nat.shiftLeft_eq, Nat.one_mul]
  exact Nat.pow_le_pow_right (n := 2) (by decide) hm
set_option maxHeartbeats 1000000 in
set_option maxRecDepth 10000 in
theorem ev_X11_fraction {E : mj_E} {h : mj_H} {a0 a1 y2 y3 y4 y5 y6 : Nat} (H0 : h 100 = some (mj_mo a0 a1 y2 y3 y4 y5 y6)) {u v : Nat} (h0 : u < 2 ^ 50) (h1 : 0 < v) (h2 : v < 2 ^ 50) : mj_Ev E iX11_fraction [.ref 100, .long (lN u), .long (lN v)] h (mj_R none (mj_up h 100 (mj_mo (u / Nat.gcd v u) (v / Nat.gcd v u) y2 y3 y4 y5 y6))) := by
  refine mj_Ev.of (L0 := [some (.ref 100), some (.long (lN u)), none, some (.long (lN v)), none, none, none, none, none, none, none]) pnRX11 (Nat.le_of_ble_eq_true rfl) rfl ?_
  have hgp : 0 < Nat.gcd v u := Nat.gcd_pos_of_pos_left u h1
  have hgl : Nat.gcd v u ≤ v := Nat.gcd_le_left u h1
  refine gj_lload_n dX11_fraction_0 rfl ?_
  refine gj_lstore (L' := [some (.ref 100), some (.long (lN u)), none, some (.long (lN v)), none, some (.long (lN u)), none, none, none, none, none]) dX11_fraction_1 (Nat.le_of_ble_eq_true rfl) rfl ?_
  refine gj_lload_n dX11_fraction_3 rfl ?_
  refine gj_lstore (L' := [some (.ref 100), some (.long (lN u)), none, some (.long (lN v)), none, some (.long (lN u)), none, some (.long (lN v)), none, none, none]) dX11_fraction_4 (Nat.le_of_ble_eq_true rfl) rfl ?_
  refine gj_cast (L' := [some (.ref 100), some (.long (lN u)), none, some (.long (lN v)), none, some (.long (lN (sp_gc v u 0).2)), none, some (.long (lN (sp_gc v u 0).1)), none, none, none]) (st' := []) (h' := h) rfl rfl rfl ?_
  refine gj_loop (fun j => [some (.ref 100), some (.long (lN u)), none, some (.long (lN v)), none, some (.long (lN (sp_gc v u j).2)), none, some (.long (lN (sp_gc v u j).1)), none, none, none]) (fun j => h) 100 ?_ (fun j hj ih => ?_) 0 (Nat.zero_le _)
  · show gj _ _ _ _ _ _ [some (.ref 100), some (.long (lN u)), none, some (.long (lN v)), none, some (.long (lN (sp_gc v u 100).2)), none, some (.long (lN (sp_gc v u 100).1)), none, none, none] _ _
    have hlt := @sp_gc_lt v u 100 h2 h0
    refine gj_lload dX11_fraction_6 rfl ?_
    refine gj_lconst (v := lN 0) dX11_fraction_8 rfl ?_
    refine gj_lcmp dX11_fraction_9 ?_
    refine gj_lif_eqN (tgt := 31) (by omega) (by omega) dX11_fraction_10 rfl (fun zq1 => ?_) (fun zq1 => ?_)
    rotate_left
    · exfalso; have q9 := sp_gc_100 (u := v) (v := u) h2; omega
    have hg9 : (sp_gc v u 100).2 = Nat.gcd v u := sp_gc_e (sp_gc_100 h2)
    refine gj_aload_n dX11_fraction_31 rfl ?_
    refine gj_lload_n dX11_fraction_32 rfl ?_
    refine gj_lload dX11_fraction_33 rfl ?_
    refine gj_ldivN (by omega) (by omega) (by omega) dX11_fraction_35 ?_
    refine pfX11_205 rfl dX11_fraction_36 H0 (Nat.le_of_ble_eq_true rfl) ?_
    show gj _ _ _ _ _ _ _ _ (mj_up h 100 (.inr (9, [.ref 101, .ref 102, .ref 103, .ref 104, .long (lN (u / ((sp_gc v u 100).2))), .long (lN a1), .ref 105, .ref 106, .ref 107, .int (nI y2), .int (nI y3), .int (nI y4), .int (nI y5), .int (nI y6), .ref 108, .ref 109])))
    refine gj_aload_n dX11_fraction_39 rfl ?_
    refine gj_lload_n dX11_fraction_40 rfl ?_
    refine gj_lload dX11_fraction_41 rfl ?_
    refine gj_ldivN (by omega) (by omega) (by omega) dX11_fraction_43 ?_
    refine pfX11_23 rfl dX11_fraction_44 (mj_up_eq _ _ _) (Nat.le_of_ble_eq_true rfl) ?_
    show gj _ _ _ _ _ _ _ _ (mj_up (mj_up h 100 (.inr (9, [.ref 101, .ref 102, .ref 103, .ref 104, .long (lN (u / ((sp_gc v u 100).2))), .long (lN a1), .ref 105, .ref 106, .ref 107, .int (nI y2), .int (nI y3), .int (nI y4), .int (nI y5), .int (nI y6), .ref 108, .ref 109]))) 100 (.inr (9, [.ref 101, .ref 102, .ref 103, .ref 104, .long (lN (u / ((sp_gc v u 100).2))), .long (lN (v / ((sp_gc v u 100).2))), .ref 105, .ref 106, .ref 107, .int (nI y2), .int (nI y3), .int (nI y4), .int (nI y5), .int (nI y6), .ref 108, .ref 109])))
    exact gj_vr rfl dX11_fraction_47 (by rw [mj_up_up, hg9]; rfl)
  show gj _ _ _ _ _ _ [some (.ref 100), some (.long (lN u)), none, some (.long (lN v)), none, some (.long (lN (sp_gc v u j).2)), none, some (.long (lN (sp_gc v u j).1)), none, none, none] _ _
  have hlt := @sp_gc_lt v u j h2 h0
  refine gj_lload dX11_fraction_6 rfl ?_
  refine gj_lconst (v := lN 0) dX11_fraction_8 rfl ?_
  refine gj_lcmp dX11_fraction_9 ?_
  refine gj_lif_eqN (tgt := 31) (by omega) (by omega) dX11_fraction_10 rfl (fun zq2 => ?_) (fun zq2 => ?_)
  · -- 10 taken
    have hg9 : (sp_gc v u j).2 = Nat.gcd v u := sp_gc_e zq2
    refine gj_aload_n dX11_fraction_31 rfl ?_
    refine gj_lload_n dX11_fraction_32 rfl ?_
    refine gj_lload dX11_fraction_33 rfl ?_
    refine gj_ldivN (by omega) (by omega) (by omega) dX11_fraction_35 ?_
    refine pfX11_205 rfl dX11_fraction_36 H0 (Nat.le_of_ble_eq_true rfl) ?_
    show gj _ _ _ _ _ _ _ _ (mj_up h 100 (.inr (9, [.ref 101, .ref 102, .ref 103, .ref 104, .long (lN (u / ((sp_gc v u j).2))), .long (lN a1), .ref 105, .ref 106, .ref 107, .int (nI y2), .int (nI y3), .int (nI y4), .int (nI y5), .int (nI y6), .ref 108, .ref 109])))
    refine gj_aload_n dX11_fraction_39 rfl ?_
    refine gj_lload_n dX11_fraction_40 rfl ?_
    refine gj_lload dX11_fraction_41 rfl ?_
    refine gj_ldivN (by omega) (by omega) (by omega) dX11_fraction_43 ?_
    refine pfX11_23 rfl dX11_fraction_44 (mj_up_eq _ _ _) (Nat.le_of_ble_eq_true rfl) ?_
    show gj _ _ _ _ _ _ _ _ (mj_up (mj_up h 100 (.inr (9, [.ref 101, .ref 102, .ref 103, .ref 104, .long (lN (u / ((sp_gc v u j).2))), .long (lN a1), .ref 105, .ref 106, .ref 107, .int (nI y2), .int (nI y3), .int (nI y4), .int (nI y5), .int (nI y6), .ref 108, .ref 109]))) 100 (.inr (9, [.ref 101, .ref 102, .ref 103, .ref 104, .long (lN (u / ((sp_gc v u j).2))), .long (lN (v / ((sp_gc v u j).2))), .ref 105, .ref 106, .ref 107, .int (nI y2), .int (nI y3), .int (nI y4), .int (nI y5), .int (nI y6), .ref 108, .ref 109])))
    exact gj_vr rfl dX11_fraction_47 (by rw [mj_up_up, hg9]; rfl)
  have hz9 := zq2
  refine gj_lload dX11_fraction_13 rfl ?_
  refine gj_lload dX11_fraction_15 rfl ?_
  refine gj_lremN (by omega) (by omega) (by omega) dX11_fraction_17 ?_
  refine gj_lstore (L' := [some (.ref 100), some (.long (lN u)), none, some (.long (lN v)), none, some (.long (lN (sp_gc v u j).2)), none, some (.long (lN (sp_gc v u j).1)), none, some (.long (lN (((sp_gc v u j).2) % ((sp_gc v u j).1)))), none]) dX11_fraction_18 (Nat.le_of_ble_eq_true rfl) rfl ?_
  refine gj_lload dX11_fraction_20 rfl ?_
  refine gj_lstore (L' := [some (.ref 100), some (.long (lN u)), none, some (.long (lN v)), none, some (.long (lN (sp_gc v u j).1)), none, some (.long (lN (sp_gc v u j).1)), none, some (.long (lN (((sp_gc v u j).2) % ((sp_gc v u j).1)))), none]) dX11_fraction_22 (Nat.le_of_ble_eq_true rfl) rfl ?_
  refine gj_lload dX11_fraction_24 rfl ?_
  refine gj_lstore (L' := [some (.ref 100), some (.long (lN u)), none, some (.long (lN v)), none, some (.long (lN (sp_gc v u j).1)), none, some (.long (lN (((sp_gc v u j).2) % ((sp_gc v u j).1)))), none, some (.long (lN (((sp_gc v u j).2) % ((sp_gc v u j).1)))), none]) dX11_fraction_26 (Nat.le_of_ble_eq_true rfl) rfl ?_
  refine gj_goto (tgt := 6) dX11_fraction_28 rfl ?_
  refine gj_forget (i := 9) (L' := [some (.ref 100), some (.long (lN u)), none, some (.long (lN v)), none, some (.long (lN (sp_gc v u j).1)), none, some (.long (lN (((sp_gc v u j).2) % ((sp_gc v u j).1)))), none, none, none]) rfl ?_
  exact gj_cast (by rw [sp_gc_s, if_neg hz9]) rfl rfl ih
set_option maxHeartbeats 1000000 in
set_option maxRecDepth 10000 in
theorem ev_X11_thaw {E : mj_E} {h : mj_H} {a0 a1 y2 y3 y4 y5 y6 : Nat} (H0 : h 100 = some (mj_mo a0 a1 y2 y3 y4 y5 y6)) {T : Nat → Nat} (HT : h 101 = some (mj_ar 362 T)) (bT : mj_Tb T) {c w m o : Nat} (h0 : c < 25) (h1 : 1 ≤ w) (h2 : w ≤ 198) (h3 : m ≤ 8) (h4 : o ≤ 10) : mj_Ev E iX11_thaw [.ref 100, .int (nI c), .int (nI w), .int (nI m), .int (nI o)] h (mj_R (some (.int (nI 1))) (mj_up h 100 (.inr (9, [.ref 101, .ref 102, .ref 103, .ref 104, .long (lN ((sp_sum (sp_tw1 (T (30 + c)) (fun q => T (55 + q)) (fun q => T (62 + q)) (T 29) (T (4 + c)) o w m) (1 <<< m)) / Nat.gcd (10 ^ m) (sp_sum (sp_tw1 (T (30 + c)) (fun q => T (55 + q)) (fun q => T (62 + q)) (T 29) (T (4 + c)) o w m) (1 <<< m)))), .long (lN ((10 ^ m) / Nat.gcd (10 ^ m) (sp_sum (sp_tw1 (T (30 + c)) (fun q => T (55 + q)) (fun q => T (62 + q)) (T 29) (T (4 + c)) o w m) (1 <<< m)))), .ref 105, .ref 106, .ref 107, .int (nI y2), .int (nI y3), .int (nI y4), .int (nI y5), .int (nI y6), .ref 108, .ref 109])))) := by
  refine mj_Ev.of (L0 := [some (.ref 100), some (.int (nI c)), some (.int (nI w)), some (.int (nI m)), some (.int (nI o)), none, none, none, none, none, none, none, none, none, none]) pnRX11 (Nat.le_of_ble_eq_true rfl) rfl ?_
  have hb29 := bT.2.2.2.2.1
  have hp1 : 0 < 10 ^ m := Nat.pow_pos (by decide)
  have hp8 : 10 ^ m ≤ 10 ^ 8 := Nat.pow_le_pow_right (by decide) h3
  have hp2 : 10 ^ m < 2 ^ 50 := Nat.lt_of_le_of_lt hp8 (by decide)
  have h256 := mj_256 h3
  have hsb : sp_sum (sp_tw1 (T (30 + c)) (fun q => T (55 + q)) (fun q => T (62 + q)) (T 29) (T (4 + c)) o w m) (1 <<< m) < 2 ^ 50 := Nat.lt_of_le_of_lt (sp_sum_lim (m := 10 ^ m) (fun x _ => sp_tw1_le h4)) (Nat.lt_of_le_of_lt (Nat.mul_le_mul h256 hp8) (by decide))
  have hi9 : T (4 + c) ≤ 99 := bT.2.2.2.2.2.1 c h0
  refine gj_iload_n dX11_thaw_0 rfl ?_
  refine gj_S1 lkX11_70 (ev_X11_isCell_t (by omega) (by omega)) dX11_thaw_1 rfl rfl rfl rfl rfl ?_
  refine gj_if_eqN (tgt := 39) (by omega) dX11_thaw_4 rfl (fun zq0 => ?_) (fun zq0 => ?_)
  · exfalso; revert zq0; decide
  refine gj_iload_n dX11_thaw_7 rfl ?_
  refine gj_S1 lkX11_155 (ev_X11_isBurden_t (by omega) (by omega)) dX11_thaw_8 rfl rfl rfl rfl rfl ?_
  refine gj_if_eqN (tgt := 39) (by omega) dX11_thaw_11 rfl (fun zq0 => ?_) (fun zq0 => ?_)
  · exfalso; revert zq0; decide
  refine gj_iload_n dX11_thaw_14 rfl ?_
  refine gj_i2lN (by omega) dX11_thaw_15 ?_
  refine gj_lconst (v := lN 0) dX11_thaw_16 rfl ?_
  refine gj_ldc2 (v := lN 8) w_1332 dX11_thaw_17 ?_
  refine gj_S1 lkX11_50 (ev_X11_in_t (by omega) (by omega) (by omega)) dX11_thaw_20 rfl rfl rfl rfl rfl ?_
  refine gj_if_eqN (tgt := 39) (by omega) dX11_thaw_23 rfl (fun zq0 => ?_) (fun zq0 => ?_)
  · exfalso; revert zq0; decide
  refine gj_iload dX11_thaw_26 rfl ?_
  refine gj_i2lN (by omega) dX11_thaw_28 ?_
  refine gj_lconst (v := lN 0) dX11_thaw_29 rfl ?_
  refine gj_ldc2 (v := lN 10) w_1333 dX11_thaw_30 ?_
  refine gj_S1 lkX11_50 (ev_X11_in_t (by omega) (by omega) (by omega)) dX11_thaw_33 rfl rfl rfl rfl rfl ?_
  refine gj_if_neN (tgt := 46) (by omega) dX11_thaw_36 rfl (fun zq0 => ?_) (fun zq0 => ?_)
  rotate_left
  · exfalso; revert zq0; decide
  refine gj_lconst (v := lN 0) dX11_thaw_46 rfl ?_
  refine gj_lstore (L' := [some (.ref 100), some (.int (nI c)), some (.int (nI w)), some (.int (nI m)), some (.int (nI o)), some (.long (lN 0)), none, none, none, none, none, none, none, none, none]) dX11_thaw_47 (Nat.le_of_ble_eq_true rfl) rfl ?_
  refine gj_lconst (v := lN 1) dX11_thaw_49 rfl ?_
  refine gj_lstore (L' := [some (.ref 100), some (.int (nI c)), some (.int (nI w)), some (.int (nI m)), some (.int (nI o)), some (.long (lN 0)), none, some (.long (lN 1)), none, none, none, none, none, none, none]) dX11_thaw_50 (Nat.le_of_ble_eq_true rfl) rfl ?_
  refine gj_ic (w := 0) dX11_thaw_52 ?_
  refine gj_istore (L' := [some (.ref 100), some (.int (nI c)), some (.int (nI w)), some (.int (nI m)), some (.int (nI o)), some (.long (lN 0)), none, some (.long (lN 1)), none, some (.int (nI 0)), none, none, none, none, none]) dX11_thaw_53 (Nat.le_of_ble_eq_true rfl) rfl ?_
  refine gj_cast (L' := [some (.ref 100), some (.int (nI c)), some (.int (nI w)), some (.int (nI m)), some (.int (nI o)), some (.long (lN 0)), none, some (.long (lN (10 ^ 0))), none, some (.int (nI 0)), none, none, none, none, none]) (st' := []) (h' := h) rfl rfl rfl ?_
  refine gj_loop (fun j => [some (.ref 100), some (.int (nI c)), some (.int (nI w)), some (.int (nI m)), some (.int (nI o)), some (.long (lN 0)), none, some (.long (lN (10 ^ j))), none, some (.int (nI j)), none, none, none, none, none]) (fun j => h) m ?_ (fun j hj ih => ?_) 0 (Nat.zero_le _)
  · show gj _ _ _ _ _ _ [some (.ref 100), some (.int (nI c)), some (.int (nI w)), some (.int (nI m)), some (.int (nI o)), some (.long (lN 0)), none, some (.long (lN (10 ^ m))), none, some (.int (nI m)), none, none, none, none, none] _ _
    refine gj_iload dX11_thaw_55 rfl ?_
    refine gj_iload_n dX11_thaw_57 rfl ?_
    refine gj_icmp_geN (tgt := 75) (by omega) (by omega) dX11_thaw_58 rfl (fun zq1 => ?_) (fun zq1 => ?_)
    rotate_left
    · exfalso; omega
    refine gj_ic (w := 0) dX11_thaw_75 ?_
    refine gj_istore (L' := [some (.ref 100), some (.int (nI c)), some (.int (nI w)), some (.int (nI m)), some (.int (nI o)), some (.long (lN 0)), none, some (.long (lN (10 ^ m))), none, some (.int (nI 0)), none, none, none, none, none]) dX11_thaw_76 (Nat.le_of_ble_eq_true rfl) rfl ?_
    refine gj_cast (L' := [some (.ref 100), some (.int (nI c)), some (.int (nI w)), some (.int (nI m)), some (.int (nI o)), some (.long (lN (sp_sum (sp_tw1 (T (30 + c)) (fun q => T (55 + q)) (fun q => T (62 + q)) (T 29) (T (4 + c)) o w m) 0))), none, some (.long (lN (10 ^ m))), none, some (.int (nI 0)), none, none, none, none, none]) (st' := []) (h' := h) rfl rfl rfl ?_
    refine gj_loop (fun j => [some (.ref 100), some (.int (nI c)), some (.int (nI w)), some (.int (nI m)), some (.int (nI o)), some (.long (lN (sp_sum (sp_tw1 (T (30 + c)) (fun q => T (55 + q)) (fun q => T (62 + q)) (T 29) (T (4 + c)) o w m) j))), none, some (.long (lN (10 ^ m))), none, some (.int (nI j)), none, none, none, none, none]) (fun j => h) (1 <<< m) ?_ (fun j hj ih => ?_) 0 (Nat.zero_le _)
    · show gj _ _ _ _ _ _ [some (.ref 100), some (.int (nI c)), some (.int (nI w)), some (.int (nI m)), some (.int (nI o)), some (.long (lN (sp_sum (sp_tw1 (T (30 + c)) (fun q => T (55 + q)) (fun q => T (62 + q)) (T 29) (T (4 + c)) o w m) (1 <<< m)))), none, some (.long (lN (10 ^ m))), none, some (.int (nI (1 <<< m))), none, none, none, none, none] _ _
      refine gj_iload dX11_thaw_78 rfl ?_
      refine gj_ic (w := 1) dX11_thaw_80 ?_
      refine gj_iload_n dX11_thaw_81 rfl ?_
      refine gj_ishlN (by omega) dX11_thaw_82 ?_
      refine gj_icmp_geN (tgt := 233) (by omega) (by omega) dX11_thaw_83 rfl (fun zq2 => ?_) (fun zq2 => ?_)
      rotate_left
      · exfalso; omega
      refine gj_aload_n dX11_thaw_233 rfl ?_
      refine gj_lload dX11_thaw_234 rfl ?_
      refine gj_lload dX11_thaw_236 rfl ?_
      refine gj_V0 lkX11_212 H0 rfl rfl (ev_X11_fraction H0 (by omega) (by omega) (by omega)) dX11_thaw_238 rfl rfl rfl rfl rfl ?_
      refine gj_ic (w := 1) dX11_thaw_241 ?_
      exact gj_ir rfl dX11_thaw_242 rfl rfl rfl
    show gj _ _ _ _ _ _ [some (.ref 100), some (.int (nI c)), some (.int (nI w)), some (.int (nI m)), some (.int (nI o)), some (.long (lN (sp_sum (sp_tw1 (T (30 + c)) (fun q => T (55 + q)) (fun q => T (62 + q)) (T 29) (T (4 + c)) o w m) j))), none, some (.long (lN (10 ^ m))), none, some (.int (nI j)), none, none, none, none, none] _ _
    refine gj_iload dX11_thaw_78 rfl ?_
    refine gj_ic (w := 1) dX11_thaw_80 ?_
    refine gj_iload_n dX11_thaw_81 rfl ?_
    refine gj_ishlN (by omega) dX11_thaw_82 ?_
    refine gj_icmp_geN (tgt := 233) (by omega) (by omega) dX11_thaw_83 rfl (fun zq3 => ?_) (fun zq3 => ?_)
    · exfalso; omega
    refine gj_lconst (v := lN 1) dX11_thaw_86 rfl ?_
    refine gj_lstore (L' := [some (.ref 100), some (.int (nI c)), some (.int (nI w)), some (.int (nI m)), some (.int (nI o)), some (.long (lN (sp_sum (sp_tw1 (T (30 + c)) (fun q => T (55 + q)) (fun q => T (62 + q)) (T 29) (T (4 + c)) o w m) j))), none, some (.long (lN (10 ^ m))), none, some (.int (nI j)), some (.long (lN 1)), none, none, none, none]) dX11_thaw_87 (Nat.le_of_ble_eq_true rfl) rfl ?_
    refine gj_aload_n dX11_thaw_89 rfl ?_
    refine gfX11_7 rfl dX11_thaw_90 H0 rfl ?_
    refine gj_ic (w := 4) dX11_thaw_93 ?_
    refine gj_iload_n dX11_thaw_94 rfl ?_
    refine gj_iaddN  dX11_thaw_95 ?_
    refine gj_ialdN dX11_thaw_96 HT (by omega) (by omega) ?_
    have hb4 := bT.2.2.2.2.2.1 c (by omega)
    refine gj_istore (L' := [some (.ref 100), some (.int (nI c)), some (.int (nI w)), some (.int (nI m)), some (.int (nI o)), some (.long (lN (sp_sum (sp_tw1 (T (30 + c)) (fun q => T (55 + q)) (fun q => T (62 + q)) (T 29) (T (4 + c)) o w m) j))), none, some (.long (lN (10 ^ m))), none, some (.int (nI j)), some (.long (lN 1)), none, some (.int (nI (T (4 + c)))), none, none]) dX11_thaw_97 (Nat.le_of_ble_eq_true rfl) rfl ?_
    refine gj_ic (w := 0) dX11_thaw_99 ?_
    refine gj_istore (L' := [some (.ref 100), some (.int (nI c)), some (.int (nI w)), some (.int (nI m)), some (.int (nI o)), some (.long (lN (sp_sum (sp_tw1 (T (30 + c)) (fun q => T (55 + q)) (fun q => T (62 + q)) (T 29) (T (4 + c)) o w m) j))), none, some (.long (lN (10 ^ m))), none, some (.int (nI j)), some (.long (lN 1)), none, some (.int (nI (T (4 + c)))), some (.int (nI 0)), none]) dX11_thaw_100 (Nat.le_of_ble_eq_true rfl) rfl ?_
    refine gj_cast (L' := [some (.ref 100), some (.int (nI c)), some (.int (nI w)), some (.int (nI m)), some (.int (nI o)), some (.long (lN (sp_sum (sp_tw1 (T (30 + c)) (fun q => T (55 + q)) (fun q => T (62 + q)) (T 29) (T (4 + c)) o w m) j))), none, some (.long (lN (10 ^ m))), none, some (.int (nI j)), some (.long (lN (sp_tcs o j 0))), none, some (.int (nI (sp_tic (T (30 + c)) (fun q => T (55 + q)) (fun q => T (62 + q)) (T 29) (T (4 + c)) j 0))), some (.int (nI 0)), none]) (st' := []) (h' := h) rfl rfl rfl ?_
    refine gj_loop (fun k => [some (.ref 100), some (.int (nI c)), some (.int (nI w)), some (.int (nI m)), some (.int (nI o)), some (.long (lN (sp_sum (sp_tw1 (T (30 + c)) (fun q => T (55 + q)) (fun q => T (62 + q)) (T 29) (T (4 + c)) o w m) j))), none, some (.long (lN (10 ^ m))), none, some (.int (nI j)), some (.long (lN (sp_tcs o j k))), none, some (.int (nI (sp_tic (T (30 + c)) (fun q => T (55 + q)) (fun q => T (62 + q)) (T 29) (T (4 + c)) j k))), some (.int (nI k)), none]) (fun k => h) m ?_ (fun k hk ihk => ?_) 0 (Nat.zero_le _)
    · show gj _ _ _ _ _ _ [some (.ref 100), some (.int (nI c)), some (.int (nI w)), some (.int (nI m)), some (.int (nI o)), some (.long (lN (sp_sum (sp_tw1 (T (30 + c)) (fun q => T (55 + q)) (fun q => T (62 + q)) (T 29) (T (4 + c)) o w m) j))), none, some (.long (lN (10 ^ m))), none, some (.int (nI j)), some (.long (lN (sp_tcs o j m))), none, some (.int (nI (sp_tic (T (30 + c)) (fun q => T (55 + q)) (fun q => T (62 + q)) (T 29) (T (4 + c)) j m))), some (.int (nI m)), none] _ _
      refine gj_iload dX11_thaw_102 rfl ?_
      refine gj_iload_n dX11_thaw_104 rfl ?_
      refine gj_icmp_geN (tgt := 202) (by omega) (by omega) dX11_thaw_105 rfl (fun zq5 => ?_) (fun zq5 => ?_)
      rotate_left
      · exfalso; omega
      have ht9 := @sp_tic_le (T (30 + c)) (fun q => T (55 + q)) (fun q => T (62 + q)) (T 29) (T (4 + c)) j m hi9
      refine gj_lload dX11_thaw_202 rfl ?_
      refine gj_aload_n dX11_thaw_204 rfl ?_
      refine gj_iload_n dX11_thaw_205 rfl ?_
      refine gj_V1 lkX11_97 H0 rfl rfl (ev_X11_kindOf H0 HT bT (by omega)) dX11_thaw_206 rfl rfl rfl rfl rfl ?_
      have hb6 := bT.2.2.2.2.2.2.1 c (by omega)
      refine gj_iload dX11_thaw_209 rfl ?_
      refine gj_S1 lkX11_100 (ev_X11_bearsAs (by omega) (by omega)) dX11_thaw_211 rfl rfl rfl rfl rfl ?_
      have hb7 := @sp_bear_le (T (30 + c)) (sp_tic (T (30 + c)) (fun q => T (55 + q)) (fun q => T (62 + q)) (T 29) (T (4 + c)) j m)
      refine gj_iload_n dX11_thaw_214 rfl ?_
      refine gj_icmp_ltN (tgt := 223) (by omega) (by omega) dX11_thaw_215 rfl (fun zq8 => ?_) (fun zq8 => ?_)
      · -- 215 taken
        have hw9 := zq8
        refine gj_lconst (v := lN 0) dX11_thaw_223 rfl ?_
        refine gj_laddN  dX11_thaw_224 ?_
        refine gj_lstore (L' := [some (.ref 100), some (.int (nI c)), some (.int (nI w)), some (.int (nI m)), some (.int (nI o)), some (.long (lN ((sp_sum (sp_tw1 (T (30 + c)) (fun q => T (55 + q)) (fun q => T (62 + q)) (T 29) (T (4 + c)) o w m) j) + 0))), none, some (.long (lN (10 ^ m))), none, some (.int (nI j)), some (.long (lN (sp_tcs o j m))), none, some (.int (nI (sp_tic (T (30 + c)) (fun q => T (55 + q)) (fun q => T (62 + q)) (T 29) (T (4 + c)) j m))), some (.int (nI m)), none]) dX11_thaw_225 (Nat.le_of_ble_eq_true rfl) rfl ?_
        refine gj_iincN (L' := [some (.ref 100), some (.int (nI c)), some (.int (nI w)), some (.int (nI m)), some (.int (nI o)), some (.long (lN ((sp_sum (sp_tw1 (T (30 + c)) (fun q => T (55 + q)) (fun q => T (62 + q)) (T 29) (T (4 + c)) o w m) j) + 0))), none, some (.long (lN (10 ^ m))), none, some (.int (nI (j + 1))), some (.long (lN (sp_tcs o j m))), none, some (.int (nI (sp_tic (T (30 + c)) (fun q => T (55 + q)) (fun q => T (62 + q)) (T 29) (T (4 + c)) j m))), some (.int (nI m)), none]) dX11_thaw_227 rfl (Nat.le_of_ble_eq_true rfl) rfl ?_
        refine gj_goto (tgt := 78) dX11_thaw_230 rfl ?_
        refine gj_forget (i := 10) (L' := [some (.ref 100), some (.int (nI c)), some (.int (nI w)), some (.int (nI m)), some (.int (nI o)), some (.long (lN ((sp_sum (sp_tw1 (T (30 + c)) (fun q => T (55 + q)) (fun q => T (62 + q)) (T 29) (T (4 + c)) o w m) j) + 0))), none, some (.long (lN (10 ^ m))), none, some (.int (nI (j + 1))), none, none, some (.int (nI (sp_tic (T (30 + c)) (fun q => T (55 + q)) (fun q => T (62 + q)) (T 29) (T (4 + c)) j m))), some (.int (nI m)), none]) rfl ?_
        refine gj_forget (i := 12) (L' := [some (.ref 100), some (.int (nI c)), some (.int (nI w)), some (.int (nI m)), some (.int (nI o)), some (.long (lN ((sp_sum (sp_tw1 (T (30 + c)) (fun q => T (55 + q)) (fun q => T (62 + q)) (T 29) (T (4 + c)) o w m) j) + 0))), none, some (.long (lN (10 ^ m))), none, some (.int (nI (j + 1))), none, none, none, some (.int (nI m)), none]) rfl ?_
        refine gj_forget (i := 13) (L' := [some (.ref 100), some (.int (nI c)), some (.int (nI w)), some (.int (nI m)), some (.int (nI o)), some (.long (lN ((sp_sum (sp_tw1 (T (30 + c)) (fun q => T (55 + q)) (fun q => T (62 + q)) (T 29) (T (4 + c)) o w m) j) + 0))), none, some (.long (lN (10 ^ m))), none, some (.int (nI (j + 1))), none, none, none, none, none]) rfl ?_
        exact gj_cast (by first | rw [sp_sum_v (sp_tw1_t hw9)] | rw [sp_sum_v (sp_tw1_f hw9)]) rfl rfl ih
      have hw9 := zq8
      refine gj_lload dX11_thaw_218 rfl ?_
      refine gj_goto (tgt := 224) dX11_thaw_220 rfl ?_
      refine gj_laddN  dX11_thaw_224 ?_
      refine gj_lstore (L' := [some (.ref 100), some (.int (nI c)), some (.int (nI w)), some (.int (nI m)), some (.int (nI o)), some (.long (lN ((sp_sum (sp_tw1 (T (30 + c)) (fun q => T (55 + q)) (fun q => T (62 + q)) (T 29) (T (4 + c)) o w m) j) + (sp_tcs o j m)))), none, some (.long (lN (10 ^ m))), none, some (.int (nI j)), some (.long (lN (sp_tcs o j m))), none, some (.int (nI (sp_tic (T (30 + c)) (fun q => T (55 + q)) (fun q => T (62 + q)) (T 29) (T (4 + c)) j m))), some (.int (nI m)), none]) dX11_thaw_225 (Nat.le_of_ble_eq_true rfl) rfl ?_
      refine gj_iincN (L' := [some (.ref 100), some (.int (nI c)), some (.int (nI w)), some (.int (nI m)), some (.int (nI o)), some (.long (lN ((sp_sum (sp_tw1 (T (30 + c)) (fun q => T (55 + q)) (fun q => T (62 + q)) (T 29) (T (4 + c)) o w m) j) + (sp_tcs o j m)))), none, some (.long (lN (10 ^ m))), none, some (.int (nI (j + 1))), some (.long (lN (sp_tcs o j m))), none, some (.int (nI (sp_tic (T (30 + c)) (fun q => T (55 + q)) (fun q => T (62 + q)) (T 29) (T (4 + c)) j m))), some (.int (nI m)), none]) dX11_thaw_227 rfl (Nat.le_of_ble_eq_true rfl) rfl ?_
      refine gj_goto (tgt := 78) dX11_thaw_230 rfl ?_
      refine gj_forget (i := 10) (L' := [some (.ref 100), some (.int (nI c)), some (.int (nI w)), some (.int (nI m)), some (.int (nI o)), some (.long (lN ((sp_sum (sp_tw1 (T (30 + c)) (fun q => T (55 + q)) (fun q => T (62 + q)) (T 29) (T (4 + c)) o w m) j) + (sp_tcs o j m)))), none, some (.long (lN (10 ^ m))), none, some (.int (nI (j + 1))), none, none, some (.int (nI (sp_tic (T (30 + c)) (fun q => T (55 + q)) (fun q => T (62 + q)) (T 29) (T (4 + c)) j m))), some (.int (nI m)), none]) rfl ?_
      refine gj_forget (i := 12) (L' := [some (.ref 100), some (.int (nI c)), some (.int (nI w)), some (.int (nI m)), some (.int (nI o)), some (.long (lN ((sp_sum (sp_tw1 (T (30 + c)) (fun q => T (55 + q)) (fun q => T (62 + q)) (T 29) (T (4 + c)) o w m) j) + (sp_tcs o j m)))), none, some (.long (lN (10 ^ m))), none, some (.int (nI (j + 1))), none, none, none, some (.int (nI m)), none]) rfl ?_
      refine gj_forget (i := 13) (L' := [some (.ref 100), some (.int (nI c)), some (.int (nI w)), some (.int (nI m)), some (.int (nI o)), some (.long (lN ((sp_sum (sp_tw1 (T (30 + c)) (fun q => T (55 + q)) (fun q => T (62 + q)) (T 29) (T (4 + c)) o w m) j) + (sp_tcs o j m)))), none, some (.long (lN (10 ^ m))), none, some (.int (nI (j + 1))), none, none, none, none, none]) rfl ?_
      exact gj_cast (by first | rw [sp_sum_v (sp_tw1_t hw9)] | rw [sp_sum_v (sp_tw1_f hw9)]) rfl rfl ih
    show gj _ _ _ _ _ _ [some (.ref 100), some (.int (nI c)), some (.int (nI w)), some (.int (nI m)), some (.int (nI o)), some (.long (lN (sp_sum (sp_tw1 (T (30 + c)) (fun q => T (55 + q)) (fun q => T (62 + q)) (T 29) (T (4 + c)) o w m) j))), none, some (.long (lN (10 ^ m))), none, some (.int (nI j)), some (.long (lN (sp_tcs o j k))), none, some (.int (nI (sp_tic (T (30 + c)) (fun q => T (55 + q)) (fun q => T (62 + q)) (T 29) (T (4 + c)) j k))), some (.int (nI k)), none] _ _
    refine gj_iload dX11_thaw_102 rfl ?_
    refine gj_iload_n dX11_thaw_104 rfl ?_
    refine gj_icmp_geN (tgt := 202) (by omega) (by omega) dX11_thaw_105 rfl (fun zq9 => ?_) (fun zq9 => ?_)
    · exfalso; omega
    have ht9 := @sp_tic_le (T (30 + c)) (fun q => T (55 + q)) (fun q => T (62 + q)) (T 29) (T (4 + c)) j k hi9
    refine gj_aload_n dX11_thaw_108 rfl ?_
    refine gfX11_7 rfl dX11_thaw_109 H0 rfl ?_
    refine gj_bp 29 dX11_thaw_112 (by decide) ?_
    refine gj_ialdN dX11_thaw_114 HT (by omega) (by omega) ?_
    have hb10 := bT.2.2.2.2.1
    refine gj_iload dX11_thaw_115 rfl ?_
    refine gj_iaddN  dX11_thaw_117 ?_
    refine gj_bp 7 dX11_thaw_118 (by decide) ?_
    refine gj_iremN (by omega) (by omega) (by omega) dX11_thaw_120 ?_
    refine gj_istore (L' := [some (.ref 100), some (.int (nI c)), some (.int (nI w)), some (.int (nI m)), some (.int (nI o)), some (.long (lN (sp_sum (sp_tw1 (T (30 + c)) (fun q => T (55 + q)) (fun q => T (62 + q)) (T 29) (T (4 + c)) o w m) j))), none, some (.long (lN (10 ^ m))), none, some (.int (nI j)), some (.long (lN (sp_tcs o j k))), none, some (.int (nI (sp_tic (T (30 + c)) (fun q => T (55 + q)) (fun q => T (62 + q)) (T 29) (T (4 + c)) j k))), some (.int (nI k)), some (.int (nI (((T 29) + k) % 7)))]) dX11_thaw_121 (Nat.le_of_ble_eq_true rfl) rfl ?_
    refine gj_lload dX11_thaw_123 rfl ?_
    refine gj_iload dX11_thaw_125 rfl ?_
    refine gj_iload dX11_thaw_127 rfl ?_
    refine gj_S1 lkX11_161 (ev_X11_has (by omega) (by omega)) dX11_thaw_129 rfl rfl rfl rfl rfl ?_
    refine gj_if_eqb (tgt := 141) dX11_thaw_132 rfl (fun zq11 => ?_) (fun zq11 => ?_)
    · -- 132 taken
      have hq1 := zq11
      refine gj_bp 10 dX11_thaw_141 (by decide) ?_
      refine gj_iload dX11_thaw_143 rfl ?_
      refine gj_isubN (by omega) dX11_thaw_145 ?_
      refine gj_i2lN (by omega) dX11_thaw_146 ?_
      refine gj_lmulN  dX11_thaw_147 ?_
      refine gj_lstore (L' := [some (.ref 100), some (.int (nI c)), some (.int (nI w)), some (.int (nI m)), some (.int (nI o)), some (.long (lN (sp_sum (sp_tw1 (T (30 + c)) (fun q => T (55 + q)) (fun q => T (62 + q)) (T 29) (T (4 + c)) o w m) j))), none, some (.long (lN (10 ^ m))), none, some (.int (nI j)), some (.long (lN ((sp_tcs o j k) * (10 - o)))), none, some (.int (nI (sp_tic (T (30 + c)) (fun q => T (55 + q)) (fun q => T (62 + q)) (T 29) (T (4 + c)) j k))), some (.int (nI k)), some (.int (nI (((T 29) + k) % 7)))]) dX11_thaw_148 (Nat.le_of_ble_eq_true rfl) rfl ?_
      refine gj_aload_n dX11_thaw_150 rfl ?_
      refine gj_iload_n dX11_thaw_151 rfl ?_
      refine gj_V1 lkX11_97 H0 rfl rfl (ev_X11_kindOf H0 HT bT (by omega)) dX11_thaw_152 rfl rfl rfl rfl rfl ?_
      have hb12 := bT.2.2.2.2.2.2.1 c (by omega)
      refine gj_iload dX11_thaw_155 rfl ?_
      refine gj_iload dX11_thaw_157 rfl ?_
      refine gj_iload dX11_thaw_159 rfl ?_
      refine gj_S1 lkX11_161 (ev_X11_has (by omega) (by omega)) dX11_thaw_161 rfl rfl rfl rfl rfl ?_
      refine gj_if_eqb (tgt := 171) dX11_thaw_164 rfl (fun zq13 => ?_) (fun zq13 => ?_)
      · -- 164 taken
        have hq2 := zq13
        refine gj_aload_n dX11_thaw_171 rfl ?_
        refine gfX11_7 rfl dX11_thaw_172 H0 rfl ?_
        refine gj_bp 55 dX11_thaw_175 (by decide) ?_
        refine gj_iload dX11_thaw_177 rfl ?_
        refine gj_iaddN  dX11_thaw_179 ?_
        refine gj_ialdN dX11_thaw_180 HT (by omega) (by omega) ?_
        have hb14 := bT.2.2.2.2.2.2.2.1 (((T 29) + k) % 7) (by omega)
        refine gj_aload_n dX11_thaw_181 rfl ?_
        refine gfX11_7 rfl dX11_thaw_182 H0 rfl ?_
        refine gj_bp 62 dX11_thaw_185 (by decide) ?_
        refine gj_iload dX11_thaw_187 rfl ?_
        refine gj_iaddN  dX11_thaw_189 ?_
        refine gj_ialdN dX11_thaw_190 HT (by omega) (by omega) ?_
        have hb15 := bT.2.2.2.2.2.2.2.2.1 (((T 29) + k) % 7) (by omega)
        refine gj_S1 lkX11_103 (ev_X11_behindDay (by omega) (by omega) (by omega) (by omega)) dX11_thaw_191 rfl rfl rfl rfl rfl ?_
        have hb16 := @sp_after_le (T (30 + c)) (sp_tic (T (30 + c)) (fun q => T (55 + q)) (fun q => T (62 + q)) (T 29) (T (4 + c)) j k) (T (55 + (((T 29) + k) % 7))) (T (62 + (((T 29) + k) % 7)))
        refine gj_istore (L' := [some (.ref 100), some (.int (nI c)), some (.int (nI w)), some (.int (nI m)), some (.int (nI o)), some (.long (lN (sp_sum (sp_tw1 (T (30 + c)) (fun q => T (55 + q)) (fun q => T (62 + q)) (T 29) (T (4 + c)) o w m) j))), none, some (.long (lN (10 ^ m))), none, some (.int (nI j)), some (.long (lN ((sp_tcs o j k) * (10 - o)))), none, some (.int (nI (sp_after (T (30 + c)) (sp_tic (T (30 + c)) (fun q => T (55 + q)) (fun q => T (62 + q)) (T 29) (T (4 + c)) j k) (T (55 + (((T 29) + k) % 7))) (T (62 + (((T 29) + k) % 7)))))), some (.int (nI k)), some (.int (nI (((T 29) + k) % 7)))]) dX11_thaw_194 (Nat.le_of_ble_eq_true rfl) rfl ?_
        refine gj_iincN (L' := [some (.ref 100), some (.int (nI c)), some (.int (nI w)), some (.int (nI m)), some (.int (nI o)), some (.long (lN (sp_sum (sp_tw1 (T (30 + c)) (fun q => T (55 + q)) (fun q => T (62 + q)) (T 29) (T (4 + c)) o w m) j))), none, some (.long (lN (10 ^ m))), none, some (.int (nI j)), some (.long (lN ((sp_tcs o j k) * (10 - o)))), none, some (.int (nI (sp_after (T (30 + c)) (sp_tic (T (30 + c)) (fun q => T (55 + q)) (fun q => T (62 + q)) (T 29) (T (4 + c)) j k) (T (55 + (((T 29) + k) % 7))) (T (62 + (((T 29) + k) % 7)))))), some (.int (nI (k + 1))), some (.int (nI (((T 29) + k) % 7)))]) dX11_thaw_196 rfl (Nat.le_of_ble_eq_true rfl) rfl ?_
        refine gj_goto (tgt := 102) dX11_thaw_199 rfl ?_
        refine gj_forget (i := 14) (L' := [some (.ref 100), some (.int (nI c)), some (.int (nI w)), some (.int (nI m)), some (.int (nI o)), some (.long (lN (sp_sum (sp_tw1 (T (30 + c)) (fun q => T (55 + q)) (fun q => T (62 + q)) (T 29) (T (4 + c)) o w m) j))), none, some (.long (lN (10 ^ m))), none, some (.int (nI j)), some (.long (lN ((sp_tcs o j k) * (10 - o)))), none, some (.int (nI (sp_after (T (30 + c)) (sp_tic (T (30 + c)) (fun q => T (55 + q)) (fun q => T (62 + q)) (T 29) (T (4 + c)) j k) (T (55 + (((T 29) + k) % 7))) (T (62 + (((T 29) + k) % 7)))))), some (.int (nI (k + 1))), none]) rfl ?_
        first | exact gj_cast (by rw [sp_tcs_t hq1, sp_tic_t hq2]) rfl rfl ihk | exact gj_cast (by rw [sp_tcs_f hq1, sp_tic_f hq2]) rfl rfl ihk | exact absurd (hq1.symm.trans hq2) (by decide)
      have hq2 := zq13
      refine gj_ic (w := 0) dX11_thaw_167 ?_
      refine gj_goto (tgt := 181) dX11_thaw_168 rfl ?_
      refine gj_aload_n dX11_thaw_181 rfl ?_
      refine gfX11_7 rfl dX11_thaw_182 H0 rfl ?_
      refine gj_bp 62 dX11_thaw_185 (by decide) ?_
      refine gj_iload dX11_thaw_187 rfl ?_
      refine gj_iaddN  dX11_thaw_189 ?_
      refine gj_ialdN dX11_thaw_190 HT (by omega) (by omega) ?_
      have hb17 := bT.2.2.2.2.2.2.2.2.1 (((T 29) + k) % 7) (by omega)
      refine gj_S1 lkX11_103 (ev_X11_behindDay (by omega) (by omega) (by omega) (by omega)) dX11_thaw_191 rfl rfl rfl rfl rfl ?_
      have hb18 := @sp_after_le (T (30 + c)) (sp_tic (T (30 + c)) (fun q => T (55 + q)) (fun q => T (62 + q)) (T 29) (T (4 + c)) j k) 0 (T (62 + (((T 29) + k) % 7)))
      refine gj_istore (L' := [some (.ref 100), some (.int (nI c)), some (.int (nI w)), some (.int (nI m)), some (.int (nI o)), some (.long (lN (sp_sum (sp_tw1 (T (30 + c)) (fun q => T (55 + q)) (fun q => T (62 + q)) (T 29) (T (4 + c)) o w m) j))), none, some (.long (lN (10 ^ m))), none, some (.int (nI j)), some (.long (lN ((sp_tcs o j k) * (10 - o)))), none, some (.int (nI (sp_after (T (30 + c)) (sp_tic (T (30 + c)) (fun q => T (55 + q)) (fun q => T (62 + q)) (T 29) (T (4 + c)) j k) 0 (T (62 + (((T 29) + k) % 7)))))), some (.int (nI k)), some (.int (nI (((T 29) + k) % 7)))]) dX11_thaw_194 (Nat.le_of_ble_eq_true rfl) rfl ?_
      refine gj_iincN (L' := [some (.ref 100), some (.int (nI c)), some (.int (nI w)), some (.int (nI m)), some (.int (nI o)), some (.long (lN (sp_sum (sp_tw1 (T (30 + c)) (fun q => T (55 + q)) (fun q => T (62 + q)) (T 29) (T (4 + c)) o w m) j))), none, some (.long (lN (10 ^ m))), none, some (.int (nI j)), some (.long (lN ((sp_tcs o j k) * (10 - o)))), none, some (.int (nI (sp_after (T (30 + c)) (sp_tic (T (30 + c)) (fun q => T (55 + q)) (fun q => T (62 + q)) (T 29) (T (4 + c)) j k) 0 (T (62 + (((T 29) + k) % 7)))))), some (.int (nI (k + 1))), some (.int (nI (((T 29) + k) % 7)))]) dX11_thaw_196 rfl (Nat.le_of_ble_eq_true rfl) rfl ?_
      refine gj_goto (tgt := 102) dX11_thaw_199 rfl ?_
      refine gj_forget (i := 14) (L' := [some (.ref 100), some (.int (nI c)), some (.int (nI w)), some (.int (nI m)), some (.int (nI o)), some (.long (lN (sp_sum (sp_tw1 (T (30 + c)) (fun q => T (55 + q)) (fun q => T (62 + q)) (T 29) (T (4 + c)) o w m) j))), none, some (.long (lN (10 ^ m))), none, some (.int (nI j)), some (.long (lN ((sp_tcs o j k) * (10 - o)))), none, some (.int (nI (sp_after (T (30 + c)) (sp_tic (T (30 + c)) (fun q => T (55 + q)) (fun q => T (62 + q)) (T 29) (T (4 + c)) j k) 0 (T (62 + (((T 29) + k) % 7)))))), some (.int (nI (k + 1))), none]) rfl ?_
      first | exact gj_cast (by rw [sp_tcs_t hq1, sp_tic_t hq2]) rfl rfl ihk | exact gj_cast (by rw [sp_tcs_f hq1, sp_tic_f hq2]) rfl rfl ihk | exact absurd (hq1.symm.trans hq2) (by decide)
    have hq1 := zq11
    refine gj_iload dX11_thaw_135 rfl ?_
    refine gj_i2lN (by omega) dX11_thaw_137 ?_
    refine gj_goto (tgt := 147) dX11_thaw_138 rfl ?_
    refine gj_lmulN  dX11_thaw_147 ?_
    refine gj_lstore (L' := [some (.ref 100), some (.int (nI c)), some (.int (nI w)), some (.int (nI m)), some (.int (nI o)), some (.long (lN (sp_sum (sp_tw1 (T (30 + c)) (fun q => T (55 + q)) (fun q => T (62 + q)) (T 29) (T (4 + c)) o w m) j))), none, some (.long (lN (10 ^ m))), none, some (.int (nI j)), some (.long (lN ((sp_tcs o j k) * o))), none, some (.int (nI (sp_tic (T (30 + c)) (fun q => T (55 + q)) (fun q => T (62 + q)) (T 29) (T (4 + c)) j k))), some (.int (nI k)), some (.int (nI (((T 29) + k) % 7)))]) dX11_thaw_148 (Nat.le_of_ble_eq_true rfl) rfl ?_
    refine gj_aload_n dX11_thaw_150 rfl ?_
    refine gj_iload_n dX11_thaw_151 rfl ?_
    refine gj_V1 lkX11_97 H0 rfl rfl (ev_X11_kindOf H0 HT bT (by omega)) dX11_thaw_152 rfl rfl rfl rfl rfl ?_
    have hb19 := bT.2.2.2.2.2.2.1 c (by omega)
    refine gj_iload dX11_thaw_155 rfl ?_
    refine gj_iload dX11_thaw_157 rfl ?_
    refine gj_iload dX11_thaw_159 rfl ?_
    refine gj_S1 lkX11_161 (ev_X11_has (by omega) (by omega)) dX11_thaw_161 rfl rfl rfl rfl rfl ?_
    refine gj_if_eqb (tgt := 171) dX11_thaw_164 rfl (fun zq20 => ?_) (fun zq20 => ?_)
    · -- 164 taken
      have hq2 := zq20
      refine gj_aload_n dX11_thaw_171 rfl ?_
      refine gfX11_7 rfl dX11_thaw_172 H0 rfl ?_
      refine gj_bp 55 dX11_thaw_175 (by decide) ?_
      refine gj_iload dX11_thaw_177 rfl ?_
      refine gj_iaddN  dX11_thaw_179 ?_
      refine gj_ialdN dX11_thaw_180 HT (by omega) (by omega) ?_
      have hb21 := bT.2.2.2.2.2.2.2.1 (((T 29) + k) % 7) (by omega)
      refine gj_aload_n dX11_thaw_181 rfl ?_
      refine gfX11_7 rfl dX11_thaw_182 H0 rfl ?_
      refine gj_bp 62 dX11_thaw_185 (by decide) ?_
      refine gj_iload dX11_thaw_187 rfl ?_
      refine gj_iaddN  dX11_thaw_189 ?_
      refine gj_ialdN dX11_thaw_190 HT (by omega) (by omega) ?_
      have hb22 := bT.2.2.2.2.2.2.2.2.1 (((T 29) + k) % 7) (by omega)
      refine gj_S1 lkX11_103 (ev_X11_behindDay (by omega) (by omega) (by omega) (by omega)) dX11_thaw_191 rfl rfl rfl rfl rfl ?_
      have hb23 := @sp_after_le (T (30 + c)) (sp_tic (T (30 + c)) (fun q => T (55 + q)) (fun q => T (62 + q)) (T 29) (T (4 + c)) j k) (T (55 + (((T 29) + k) % 7))) (T (62 + (((T 29) + k) % 7)))
      refine gj_istore (L' := [some (.ref 100), some (.int (nI c)), some (.int (nI w)), some (.int (nI m)), some (.int (nI o)), some (.long (lN (sp_sum (sp_tw1 (T (30 + c)) (fun q => T (55 + q)) (fun q => T (62 + q)) (T 29) (T (4 + c)) o w m) j))), none, some (.long (lN (10 ^ m))), none, some (.int (nI j)), some (.long (lN ((sp_tcs o j k) * o))), none, some (.int (nI (sp_after (T (30 + c)) (sp_tic (T (30 + c)) (fun q => T (55 + q)) (fun q => T (62 + q)) (T 29) (T (4 + c)) j k) (T (55 + (((T 29) + k) % 7))) (T (62 + (((T 29) + k) % 7)))))), some (.int (nI k)), some (.int (nI (((T 29) + k) % 7)))]) dX11_thaw_194 (Nat.le_of_ble_eq_true rfl) rfl ?_
      refine gj_iincN (L' := [some (.ref 100), some (.int (nI c)), some (.int (nI w)), some (.int (nI m)), some (.int (nI o)), some (.long (lN (sp_sum (sp_tw1 (T (30 + c)) (fun q => T (55 + q)) (fun q => T (62 + q)) (T 29) (T (4 + c)) o w m) j))), none, some (.long (lN (10 ^ m))), none, some (.int (nI j)), some (.long (lN ((sp_tcs o j k) * o))), none, some (.int (nI (sp_after (T (30 + c)) (sp_tic (T (30 + c)) (fun q => T (55 + q)) (fun q => T (62 + q)) (T 29) (T (4 + c)) j k) (T (55 + (((T 29) + k) % 7))) (T (62 + (((T 29) + k) % 7)))))), some (.int (nI (k + 1))), some (.int (nI (((T 29) + k) % 7)))]) dX11_thaw_196 rfl (Nat.le_of_ble_eq_true rfl) rfl ?_
      refine gj_goto (tgt := 102) dX11_thaw_199 rfl ?_
      refine gj_forget (i := 14) (L' := [some (.ref 100), some (.int (nI c)), some (.int (nI w)), some (.int (nI m)), some (.int (nI o)), some (.long (lN (sp_sum (sp_tw1 (T (30 + c)) (fun q => T (55 + q)) (fun q => T (62 + q)) (T 29) (T (4 + c)) o w m) j))), none, some (.long (lN (10 ^ m))), none, some (.int (nI j)), some (.long (lN ((sp_tcs o j k) * o))), none, some (.int (nI (sp_after (T (30 + c)) (sp_tic (T (30 + c)) (fun q => T (55 + q)) (fun q => T (62 + q)) (T 29) (T (4 + c)) j k) (T (55 + (((T 29) + k) % 7))) (T (62 + (((T 29) + k) % 7)))))), some (.int (nI (k + 1))), none]) rfl ?_
      first | exact gj_cast (by rw [sp_tcs_t hq1, sp_tic_t hq2]) rfl rfl ihk | exact gj_cast (by rw [sp_tcs_f hq1, sp_tic_f hq2]) rfl rfl ihk | exact absurd (hq1.symm.trans hq2) (by decide)
    have hq2 := zq20
    refine gj_ic (w := 0) dX11_thaw_167 ?_
    refine gj_goto (tgt := 181) dX11_thaw_168 rfl ?_
    refine gj_aload_n dX11_thaw_181 rfl ?_
    refine gfX11_7 rfl dX11_thaw_182 H0 rfl ?_
    refine gj_bp 62 dX11_thaw_185 (by decide) ?_
    refine gj_iload dX11_thaw_187 rfl ?_
    refine gj_iaddN  dX11_thaw_189 ?_
    refine gj_ialdN dX11_thaw_190 HT (by omega) (by omega) ?_
    have hb24 := bT.2.2.2.2.2.2.2.2.1 (((T 29) + k) % 7) (by omega)
    refine gj_S1 lkX11_103 (ev_X11_behindDay (by omega) (by omega) (by omega) (by omega)) dX11_thaw_191 rfl rfl rfl rfl rfl ?_
    have hb25 := @sp_after_le (T (30 + c)) (sp_tic (T (30 + c)) (fun q => T (55 + q)) (fun q => T (62 + q)) (T 29) (T (4 + c)) j k) 0 (T (62 + (((T 29) + k) % 7)))
    refine gj_istore (L' := [some (.ref 100), some (.int (nI c)), some (.int (nI w)), some (.int (nI m)), some (.int (nI o)), some (.long (lN (sp_sum (sp_tw1 (T (30 + c)) (fun q => T (55 + q)) (fun q => T (62 + q)) (T 29) (T (4 + c)) o w m) j))), none, some (.long (lN (10 ^ m))), none, some (.int (nI j)), some (.long (lN ((sp_tcs o j k) * o))), none, some (.int (nI (sp_after (T (30 + c)) (sp_tic (T (30 + c)) (fun q => T (55 + q)) (fun q => T (62 + q)) (T 29) (T (4 + c)) j k) 0 (T (62 + (((T 29) + k) % 7)))))), some (.int (nI k)), some (.int (nI (((T 29) + k) % 7)))]) dX11_thaw_194 (Nat.le_of_ble_eq_true rfl) rfl ?_
    refine gj_iincN (L' := [some (.ref 100), some (.int (nI c)), some (.int (nI w)), some (.int (nI m)), some (.int (nI o)), some (.long (lN (sp_sum (sp_tw1 (T (30 + c)) (fun q => T (55 + q)) (fun q => T (62 + q)) (T 29) (T (4 + c)) o w m) j))), none, some (.long (lN (10 ^ m))), none, some (.int (nI j)), some (.long (lN ((sp_tcs o j k) * o))), none, some (.int (nI (sp_after (T (30 + c)) (sp_tic (T (30 + c)) (fun q => T (55 + q)) (fun q => T (62 + q)) (T 29) (T (4 + c)) j k) 0 (T (62 + (((T 29) + k) % 7)))))), some (.int (nI (k + 1))), some (.int (nI (((T 29) + k) % 7)))]) dX11_thaw_196 rfl (Nat.le_of_ble_eq_true rfl) rfl ?_
    refine gj_goto (tgt := 102) dX11_thaw_199 rfl ?_
    refine gj_forget (i := 14) (L' := [some (.ref 100), some (.int (nI c)), some (.int (nI w)), some (.int (nI m)), some (.int (nI o)), some (.long (lN (sp_sum (sp_tw1 (T (30 + c)) (fun q => T (55 + q)) (fun q => T (62 + q)) (T 29) (T (4 + c)) o w m) j))), none, some (.long (lN (10 ^ m))), none, some (.int (nI j)), some (.long (lN ((sp_tcs o j k) * o))), none, some (.int (nI (sp_after (T (30 + c)) (sp_tic (T (30 + c)) (fun q => T (55 + q)) (fun q => T (62 + q)) (T 29) (T (4 + c)) j k) 0 (T (62 + (((T 29) + k) % 7)))))), some (.int (nI (k + 1))), none]) rfl ?_
    first | exact gj_cast (by rw [sp_tcs_t hq1, sp_tic_t hq2]) rfl rfl ihk | exact gj_cast (by rw [sp_tcs_f hq1, sp_tic_f hq2]) rfl rfl ihk | exact absurd (hq1.symm.trans hq2) (by decide)
  show gj _ _ _ _ _ _ [some (.ref 100), some (.int (nI c)), some (.int (nI w)), some (.int (nI m)), some (.int (nI o)), some (.long (lN 0)), none, some (.long (lN (10 ^ j))), none, some (.int (nI j)), none, none, none, none, none] _ _
  refine gj_iload dX11_thaw_55 rfl ?_
  refine gj_iload_n dX11_thaw_57 rfl ?_
  refine gj_icmp_geN (tgt := 75) (by omega) (by omega) dX11_thaw_58 rfl (fun zq26 => ?_) (fun zq26 => ?_)
  · exfalso; omega
  refine gj_lload dX11_thaw_61 rfl ?_
  refine gj_ldc2 (v := lN 10) w_1333 dX11_thaw_63 ?_
  refine gj_lmulN  dX11_thaw_66 ?_
  refine gj_lstore (L' := [some (.ref 100), some (.int (nI c)), some (.int (nI w)), some (.int (nI m)), some (.int (nI o)), some (.long (lN 0)), none, some (.long (lN ((10 ^ j) * 10))), none, some (.int (nI j)), none, none, none, none, none]) dX11_thaw_67 (Nat.le_of_ble_eq_true rfl) rfl ?_
  refine gj_iincN (L' := [some (.ref 100), some (.int (nI c)), some (.int (nI w)), some (.int (nI m)), some (.int (nI o)), some (.long (lN 0)), none, some (.long (lN ((10 ^ j) * 10))), none, some (.int (nI (j + 1))), none, none, none, none, none]) dX11_thaw_69 rfl (Nat.le_of_ble_eq_true rfl) rfl ?_
  refine gj_goto (tgt := 55) dX11_thaw_72 rfl ?_
  exact gj_cast (by rw [Nat.pow_succ]) rfl rfl ih
