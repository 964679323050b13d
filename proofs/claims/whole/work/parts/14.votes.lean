/-- how many bits, of seven -/
def sp_pop (s : Nat) : Nat := mj_fo (fun j a => if Nat.testBit s j then a + 1 else a) 0 7
theorem sp_pop_le {s : Nat} : sp_pop s ≤ 7 := by
  have : ∀ n, mj_fo (fun j a => if Nat.testBit s j then a + 1 else a) 0 n ≤ n := by
    intro n
    induction n with
    | zero => simp [mj_fo]
    | succ n ih => simp only [mj_fo]; split <;> omega
  exact this 7
set_option maxHeartbeats 1000000 in
set_option maxRecDepth 10000 in
theorem ev_J6_bitCount_0f7a4 {E : mj_E} {h : mj_H} {s : Nat} (hs : s < 128) : mj_Ev E iJ6_bitCount_0f7a4 [.int (nI s)] h (mj_R (some (.int (nI (sp_pop s)))) h) := by
  refine mj_Ev.of (L0 := [some (.int (nI s))]) pnRJ6 (Nat.le_of_ble_eq_true rfl) rfl ?_
  refine gj_iload_n dJ6_bitCount_0f7a4_0 rfl ?_
  refine gj_iload_n dJ6_bitCount_0f7a4_1 rfl ?_
  refine gj_ic (w := 1) dJ6_bitCount_0f7a4_2 ?_
  refine gj_iushr (v := ((nI s).toUInt32 >>> ((nI 1).toUInt32 &&& Int32.toUInt32 31)).toInt32) dJ6_bitCount_0f7a4_3 rfl ?_
  refine gj_ldcw (v := nI 1431655765) w_805 dJ6_bitCount_0f7a4_4 ?_
  refine gj_iand dJ6_bitCount_0f7a4_7 ?_
  refine gj_isub dJ6_bitCount_0f7a4_8 ?_
  refine gj_istore_n (L' := [some (.int ((nI s) - ((((nI s).toUInt32 >>> ((nI 1).toUInt32 &&& Int32.toUInt32 31)).toInt32) &&& (nI 1431655765))))]) dJ6_bitCount_0f7a4_9 (Nat.le_of_ble_eq_true rfl) rfl ?_
  refine gj_iload_n dJ6_bitCount_0f7a4_10 rfl ?_
  refine gj_ldcw (v := nI 858993459) w_806 dJ6_bitCount_0f7a4_11 ?_
  refine gj_iand dJ6_bitCount_0f7a4_14 ?_
  refine gj_iload_n dJ6_bitCount_0f7a4_15 rfl ?_
  refine gj_ic (w := 2) dJ6_bitCount_0f7a4_16 ?_
  refine gj_iushr (v := (((nI s) - ((((nI s).toUInt32 >>> ((nI 1).toUInt32 &&& Int32.toUInt32 31)).toInt32) &&& (nI 1431655765))).toUInt32 >>> ((nI 2).toUInt32 &&& Int32.toUInt32 31)).toInt32) dJ6_bitCount_0f7a4_17 rfl ?_
  refine gj_ldcw (v := nI 858993459) w_806 dJ6_bitCount_0f7a4_18 ?_
  refine gj_iand dJ6_bitCount_0f7a4_21 ?_
  refine gj_iadd dJ6_bitCount_0f7a4_22 ?_
  refine gj_istore_n (L' := [some (.int ((((nI s) - ((((nI s).toUInt32 >>> ((nI 1).toUInt32 &&& Int32.toUInt32 31)).toInt32) &&& (nI 1431655765))) &&& (nI 858993459)) + (((((nI s) - ((((nI s).toUInt32 >>> ((nI 1).toUInt32 &&& Int32.toUInt32 31)).toInt32) &&& (nI 1431655765))).toUInt32 >>> ((nI 2).toUInt32 &&& Int32.toUInt32 31)).toInt32) &&& (nI 858993459))))]) dJ6_bitCount_0f7a4_23 (Nat.le_of_ble_eq_true rfl) rfl ?_
  refine gj_iload_n dJ6_bitCount_0f7a4_24 rfl ?_
  refine gj_iload_n dJ6_bitCount_0f7a4_25 rfl ?_
  refine gj_ic (w := 4) dJ6_bitCount_0f7a4_26 ?_
  refine gj_iushr (v := (((((nI s) - ((((nI s).toUInt32 >>> ((nI 1).toUInt32 &&& Int32.toUInt32 31)).toInt32) &&& (nI 1431655765))) &&& (nI 858993459)) + (((((nI s) - ((((nI s).toUInt32 >>> ((nI 1).toUInt32 &&& Int32.toUInt32 31)).toInt32) &&& (nI 1431655765))).toUInt32 >>> ((nI 2).toUInt32 &&& Int32.toUInt32 31)).toInt32) &&& (nI 858993459))).toUInt32 >>> ((nI 4).toUInt32 &&& Int32.toUInt32 31)).toInt32) dJ6_bitCount_0f7a4_27 rfl ?_
  refine gj_iadd dJ6_bitCount_0f7a4_28 ?_
  refine gj_ldcw (v := nI 252645135) w_807 dJ6_bitCount_0f7a4_29 ?_
  refine gj_iand dJ6_bitCount_0f7a4_32 ?_
  refine gj_istore_n (L' := [some (.int ((((((nI s) - ((((nI s).toUInt32 >>> ((nI 1).toUInt32 &&& Int32.toUInt32 31)).toInt32) &&& (nI 1431655765))) &&& (nI 858993459)) + (((((nI s) - ((((nI s).toUInt32 >>> ((nI 1).toUInt32 &&& Int32.toUInt32 31)).toInt32) &&& (nI 1431655765))).toUInt32 >>> ((nI 2).toUInt32 &&& Int32.toUInt32 31)).toInt32) &&& (nI 858993459))) + ((((((nI s) - ((((nI s).toUInt32 >>> ((nI 1).toUInt32 &&& Int32.toUInt32 31)).toInt32) &&& (nI 1431655765))) &&& (nI 858993459)) + (((((nI s) - ((((nI s).toUInt32 >>> ((nI 1).toUInt32 &&& Int32.toUInt32 31)).toInt32) &&& (nI 1431655765))).toUInt32 >>> ((nI 2).toUInt32 &&& Int32.toUInt32 31)).toInt32) &&& (nI 858993459))).toUInt32 >>> ((nI 4).toUInt32 &&& Int32.toUInt32 31)).toInt32)) &&& (nI 252645135)))]) dJ6_bitCount_0f7a4_33 (Nat.le_of_ble_eq_true rfl) rfl ?_
  refine gj_iload_n dJ6_bitCount_0f7a4_34 rfl ?_
  refine gj_iload_n dJ6_bitCount_0f7a4_35 rfl ?_
  refine gj_bp 8 dJ6_bitCount_0f7a4_36 (by decide) ?_
  refine gj_iushr (v := (((((((nI s) - ((((nI s).toUInt32 >>> ((nI 1).toUInt32 &&& Int32.toUInt32 31)).toInt32) &&& (nI 1431655765))) &&& (nI 858993459)) + (((((nI s) - ((((nI s).toUInt32 >>> ((nI 1).toUInt32 &&& Int32.toUInt32 31)).toInt32) &&& (nI 1431655765))).toUInt32 >>> ((nI 2).toUInt32 &&& Int32.toUInt32 31)).toInt32) &&& (nI 858993459))) + ((((((nI s) - ((((nI s).toUInt32 >>> ((nI 1).toUInt32 &&& Int32.toUInt32 31)).toInt32) &&& (nI 1431655765))) &&& (nI 858993459)) + (((((nI s) - ((((nI s).toUInt32 >>> ((nI 1).toUInt32 &&& Int32.toUInt32 31)).toInt32) &&& (nI 1431655765))).toUInt32 >>> ((nI 2).toUInt32 &&& Int32.toUInt32 31)).toInt32) &&& (nI 858993459))).toUInt32 >>> ((nI 4).toUInt32 &&& Int32.toUInt32 31)).toInt32)) &&& (nI 252645135)).toUInt32 >>> ((nI 8).toUInt32 &&& Int32.toUInt32 31)).toInt32) dJ6_bitCount_0f7a4_38 rfl ?_
  refine gj_iadd dJ6_bitCount_0f7a4_39 ?_
  refine gj_istore_n (L' := [some (.int (((((((nI s) - ((((nI s).toUInt32 >>> ((nI 1).toUInt32 &&& Int32.toUInt32 31)).toInt32) &&& (nI 1431655765))) &&& (nI 858993459)) + (((((nI s) - ((((nI s).toUInt32 >>> ((nI 1).toUInt32 &&& Int32.toUInt32 31)).toInt32) &&& (nI 1431655765))).toUInt32 >>> ((nI 2).toUInt32 &&& Int32.toUInt32 31)).toInt32) &&& (nI 858993459))) + ((((((nI s) - ((((nI s).toUInt32 >>> ((nI 1).toUInt32 &&& Int32.toUInt32 31)).toInt32) &&& (nI 1431655765))) &&& (nI 858993459)) + (((((nI s) - ((((nI s).toUInt32 >>> ((nI 1).toUInt32 &&& Int32.toUInt32 31)).toInt32) &&& (nI 1431655765))).toUInt32 >>> ((nI 2).toUInt32 &&& Int32.toUInt32 31)).toInt32) &&& (nI 858993459))).toUInt32 >>> ((nI 4).toUInt32 &&& Int32.toUInt32 31)).toInt32)) &&& (nI 252645135)) + ((((((((nI s) - ((((nI s).toUInt32 >>> ((nI 1).toUInt32 &&& Int32.toUInt32 31)).toInt32) &&& (nI 1431655765))) &&& (nI 858993459)) + (((((nI s) - ((((nI s).toUInt32 >>> ((nI 1).toUInt32 &&& Int32.toUInt32 31)).toInt32) &&& (nI 1431655765))).toUInt32 >>> ((nI 2).toUInt32 &&& Int32.toUInt32 31)).toInt32) &&& (nI 858993459))) + ((((((nI s) - ((((nI s).toUInt32 >>> ((nI 1).toUInt32 &&& Int32.toUInt32 31)).toInt32) &&& (nI 1431655765))) &&& (nI 858993459)) + (((((nI s) - ((((nI s).toUInt32 >>> ((nI 1).toUInt32 &&& Int32.toUInt32 31)).toInt32) &&& (nI 1431655765))).toUInt32 >>> ((nI 2).toUInt32 &&& Int32.toUInt32 31)).toInt32) &&& (nI 858993459))).toUInt32 >>> ((nI 4).toUInt32 &&& Int32.toUInt32 31)).toInt32)) &&& (nI 252645135)).toUInt32 >>> ((nI 8).toUInt32 &&& Int32.toUInt32 31)).toInt32)))]) dJ6_bitCount_0f7a4_40 (Nat.le_of_ble_eq_true rfl) rfl ?_
  refine gj_iload_n dJ6_bitCount_0f7a4_41 rfl ?_
  refine gj_iload_n dJ6_bitCount_0f7a4_42 rfl ?_
  refine gj_bp 16 dJ6_bitCount_0f7a4_43 (by decide) ?_
  refine gj_iushr (v := ((((((((nI s) - ((((nI s).toUInt32 >>> ((nI 1).toUInt32 &&& Int32.toUInt32 31)).toInt32) &&& (nI 1431655765))) &&& (nI 858993459)) + (((((nI s) - ((((nI s).toUInt32 >>> ((nI 1).toUInt32 &&& Int32.toUInt32 31)).toInt32) &&& (nI 1431655765))).toUInt32 >>> ((nI 2).toUInt32 &&& Int32.toUInt32 31)).toInt32) &&& (nI 858993459))) + ((((((nI s) - ((((nI s).toUInt32 >>> ((nI 1).toUInt32 &&& Int32.toUInt32 31)).toInt32) &&& (nI 1431655765))) &&& (nI 858993459)) + (((((nI s) - ((((nI s).toUInt32 >>> ((nI 1).toUInt32 &&& Int32.toUInt32 31)).toInt32) &&& (nI 1431655765))).toUInt32 >>> ((nI 2).toUInt32 &&& Int32.toUInt32 31)).toInt32) &&& (nI 858993459))).toUInt32 >>> ((nI 4).toUInt32 &&& Int32.toUInt32 31)).toInt32)) &&& (nI 252645135)) + ((((((((nI s) - ((((nI s).toUInt32 >>> ((nI 1).toUInt32 &&& Int32.toUInt32 31)).toInt32) &&& (nI 1431655765))) &&& (nI 858993459)) + (((((nI s) - ((((nI s).toUInt32 >>> ((nI 1).toUInt32 &&& Int32.toUInt32 31)).toInt32) &&& (nI 1431655765))).toUInt32 >>> ((nI 2).toUInt32 &&& Int32.toUInt32 31)).toInt32) &&& (nI 858993459))) + ((((((nI s) - ((((nI s).toUInt32 >>> ((nI 1).toUInt32 &&& Int32.toUInt32 31)).toInt32) &&& (nI 1431655765))) &&& (nI 858993459)) + (((((nI s) - ((((nI s).toUInt32 >>> ((nI 1).toUInt32 &&& Int32.toUInt32 31)).toInt32) &&& (nI 1431655765))).toUInt32 >>> ((nI 2).toUInt32 &&& Int32.toUInt32 31)).toInt32) &&& (nI 858993459))).toUInt32 >>> ((nI 4).toUInt32 &&& Int32.toUInt32 31)).toInt32)) &&& (nI 252645135)).toUInt32 >>> ((nI 8).toUInt32 &&& Int32.toUInt32 31)).toInt32)).toUInt32 >>> ((nI 16).toUInt32 &&& Int32.toUInt32 31)).toInt32) dJ6_bitCount_0f7a4_45 rfl ?_
  refine gj_iadd dJ6_bitCount_0f7a4_46 ?_
  refine gj_istore_n (L' := [some (.int ((((((((nI s) - ((((nI s).toUInt32 >>> ((nI 1).toUInt32 &&& Int32.toUInt32 31)).toInt32) &&& (nI 1431655765))) &&& (nI 858993459)) + (((((nI s) - ((((nI s).toUInt32 >>> ((nI 1).toUInt32 &&& Int32.toUInt32 31)).toInt32) &&& (nI 1431655765))).toUInt32 >>> ((nI 2).toUInt32 &&& Int32.toUInt32 31)).toInt32) &&& (nI 858993459))) + ((((((nI s) - ((((nI s).toUInt32 >>> ((nI 1).toUInt32 &&& Int32.toUInt32 31)).toInt32) &&& (nI 1431655765))) &&& (nI 858993459)) + (((((nI s) - ((((nI s).toUInt32 >>> ((nI 1).toUInt32 &&& Int32.toUInt32 31)).toInt32) &&& (nI 1431655765))).toUInt32 >>> ((nI 2).toUInt32 &&& Int32.toUInt32 31)).toInt32) &&& (nI 858993459))).toUInt32 >>> ((nI 4).toUInt32 &&& Int32.toUInt32 31)).toInt32)) &&& (nI 252645135)) + ((((((((nI s) - ((((nI s).toUInt32 >>> ((nI 1).toUInt32 &&& Int32.toUInt32 31)).toInt32) &&& (nI 1431655765))) &&& (nI 858993459)) + (((((nI s) - ((((nI s).toUInt32 >>> ((nI 1).toUInt32 &&& Int32.toUInt32 31)).toInt32) &&& (nI 1431655765))).toUInt32 >>> ((nI 2).toUInt32 &&& Int32.toUInt32 31)).toInt32) &&& (nI 858993459))) + ((((((nI s) - ((((nI s).toUInt32 >>> ((nI 1).toUInt32 &&& Int32.toUInt32 31)).toInt32) &&& (nI 1431655765))) &&& (nI 858993459)) + (((((nI s) - ((((nI s).toUInt32 >>> ((nI 1).toUInt32 &&& Int32.toUInt32 31)).toInt32) &&& (nI 1431655765))).toUInt32 >>> ((nI 2).toUInt32 &&& Int32.toUInt32 31)).toInt32) &&& (nI 858993459))).toUInt32 >>> ((nI 4).toUInt32 &&& Int32.toUInt32 31)).toInt32)) &&& (nI 252645135)).toUInt32 >>> ((nI 8).toUInt32 &&& Int32.toUInt32 31)).toInt32)) + (((((((((nI s) - ((((nI s).toUInt32 >>> ((nI 1).toUInt32 &&& Int32.toUInt32 31)).toInt32) &&& (nI 1431655765))) &&& (nI 858993459)) + (((((nI s) - ((((nI s).toUInt32 >>> ((nI 1).toUInt32 &&& Int32.toUInt32 31)).toInt32) &&& (nI 1431655765))).toUInt32 >>> ((nI 2).toUInt32 &&& Int32.toUInt32 31)).toInt32) &&& (nI 858993459))) + ((((((nI s) - ((((nI s).toUInt32 >>> ((nI 1).toUInt32 &&& Int32.toUInt32 31)).toInt32) &&& (nI 1431655765))) &&& (nI 858993459)) + (((((nI s) - ((((nI s).toUInt32 >>> ((nI 1).toUInt32 &&& Int32.toUInt32 31)).toInt32) &&& (nI 1431655765))).toUInt32 >>> ((nI 2).toUInt32 &&& Int32.toUInt32 31)).toInt32) &&& (nI 858993459))).toUInt32 >>> ((nI 4).toUInt32 &&& Int32.toUInt32 31)).toInt32)) &&& (nI 252645135)) + ((((((((nI s) - ((((nI s).toUInt32 >>> ((nI 1).toUInt32 &&& Int32.toUInt32 31)).toInt32) &&& (nI 1431655765))) &&& (nI 858993459)) + (((((nI s) - ((((nI s).toUInt32 >>> ((nI 1).toUInt32 &&& Int32.toUInt32 31)).toInt32) &&& (nI 1431655765))).toUInt32 >>> ((nI 2).toUInt32 &&& Int32.toUInt32 31)).toInt32) &&& (nI 858993459))) + ((((((nI s) - ((((nI s).toUInt32 >>> ((nI 1).toUInt32 &&& Int32.toUInt32 31)).toInt32) &&& (nI 1431655765))) &&& (nI 858993459)) + (((((nI s) - ((((nI s).toUInt32 >>> ((nI 1).toUInt32 &&& Int32.toUInt32 31)).toInt32) &&& (nI 1431655765))).toUInt32 >>> ((nI 2).toUInt32 &&& Int32.toUInt32 31)).toInt32) &&& (nI 858993459))).toUInt32 >>> ((nI 4).toUInt32 &&& Int32.toUInt32 31)).toInt32)) &&& (nI 252645135)).toUInt32 >>> ((nI 8).toUInt32 &&& Int32.toUInt32 31)).toInt32)).toUInt32 >>> ((nI 16).toUInt32 &&& Int32.toUInt32 31)).toInt32)))]) dJ6_bitCount_0f7a4_47 (Nat.le_of_ble_eq_true rfl) rfl ?_
  refine gj_iload_n dJ6_bitCount_0f7a4_48 rfl ?_
  refine gj_bp 63 dJ6_bitCount_0f7a4_49 (by decide) ?_
  refine gj_iand dJ6_bitCount_0f7a4_51 ?_
  exact gj_ir rfl dJ6_bitCount_0f7a4_52 rfl (by revert s; decide +kernel) rfl
/-- the voters: their object, kinds, weights, cells -/
def mj_Vo (h : mj_H) (a kA wA cA z : Nat) (VK VW VC : Nat → Nat) : Prop := h a = some (.inr (5, [.ref kA, .ref wA, .ref cA, .int (nI z)])) ∧ h kA = some (mj_ar 7 VK) ∧ h wA = some (mj_ar 7 VW) ∧ h cA = some (mj_ar 7 VC) ∧ z ≤ 7 ∧ (∀ v, VK v ≤ 5) ∧ (∀ v, VW v ≤ 99) ∧ (∀ v, VC v ≤ 24)
/-- the first one of most weight -/
def sp_heav (VW : Nat → Nat) (z : Nat) : Nat := mj_fo (fun v f => if VW f < VW v then v else f) 0 z
def sp_car (VW : Nat → Nat) (z s : Nat) : Bool := decide (z < 2 * sp_pop s) || (decide (2 * sp_pop s = z) && (decide (0 < z) && Nat.testBit s (sp_heav VW z)))
def sp_yess (VK VW VC B : Nat → Nat) (f z : Nat) : Nat := mj_bits (fun v => sp_yes (VK v) (VW v) (B (VC v)) (sp_least B (VC v)) f) z
def sp_hvy (VW VC B : Nat → Nat) (z : Nat) : Nat := mj_bits (fun v => decide (B (VC v) < VW v)) z
def sp_wet (VK VW VC B : Nat → Nat) (f z : Nat) : Nat := if sp_car VW z (sp_yess VK VW VC B f z) then sp_yess VK VW VC B f z &&& sp_hvy VW VC B z else 0
def sp_gain (c v y : Bool) : Int32 := if c then (if v then (if y then (-3) else (-1)) else nI 2) else nI 0
def sp_vfold (VK VW VC : Nat → Nat) (h : Int64) (z : Nat) : Int64 := mj_fo (fun j (h : Int64) => 31 * (31 * (31 * h + (nI (VK j)).toInt64) + (nI (VW j)).toInt64) + (nI (VC j)).toInt64) h z
theorem sp_heav_s {VW : Nat → Nat} {n : Nat} : sp_heav VW (n + 1) = if VW (sp_heav VW n) < VW n then n else sp_heav VW n := rfl
theorem sp_heav_lt {VW : Nat → Nat} {z : Nat} (hz : 0 < z) : sp_heav VW z < z := by
  have : ∀ n, sp_heav VW (n + 1) < n + 1 := by
    intro n
    induction n with
    | zero => rw [sp_heav_s]; split <;> first | exact Nat.one_pos | exact Nat.lt_succ_self 0
    | succ n ih => rw [sp_heav_s]; split <;> omega
  have h := this (z - 1)
  rwa [Nat.sub_add_cancel hz] at h
theorem sp_yess_lt {VK VW VC B : Nat → Nat} {f z : Nat} (hz : z ≤ 7) : sp_yess VK VW VC B f z < 128 := Nat.lt_of_lt_of_le mj_bits_lt (Nat.pow_le_pow_right (by decide) hz)
theorem sp_hvy_lt {VW VC B : Nat → Nat} {z : Nat} (hz : z ≤ 7) : sp_hvy VW VC B z < 128 := Nat.lt_of_lt_of_le mj_bits_lt (Nat.pow_le_pow_right (by decide) hz)
theorem sp_wet_lt {VK VW VC B : Nat → Nat} {f z : Nat} (hz : z ≤ 7) : sp_wet VK VW VC B f z < 128 := by
  unfold sp_wet; split
  · exact Nat.lt_of_le_of_lt Nat.and_le_left (sp_yess_lt hz)
  · decide
set_option maxHeartbeats 1000000 in
set_option maxRecDepth 10000 in
theorem ev_X7_kindOf {E : mj_E} {h : mj_H} {a kV wV cV z : Nat} {VK VW VC : Nat → Nat} (V : mj_Vo h a kV wV cV z VK VW VC) {v : Nat} (hv : v < 7) : mj_Ev E iX7_kindOf [.ref a, .int (nI v)] h (mj_R (some (.int (nI (VK v)))) h) := by
  refine mj_Ev.of (L0 := [some (.ref a), some (.int (nI v))]) pnRX7 (Nat.le_of_ble_eq_true rfl) rfl ?_
  refine gj_iload_n dX7_kindOf_0 rfl ?_
  refine gj_ic (w := 0) dX7_kindOf_1 ?_
  refine gj_bp 6 dX7_kindOf_2 (by decide) ?_
  refine gj_N1 lkX7_31 (ev_X10_within_t (by omega) (by omega) (by omega)) dX7_kindOf_4 rfl rfl rfl rfl rfl ?_
  refine gj_if_eqN (tgt := 19) (by omega) dX7_kindOf_7 rfl (fun zq0 => ?_) (fun zq0 => ?_)
  · exfalso; revert zq0; decide
  refine gj_aload_n dX7_kindOf_10 rfl ?_
  refine gfX7_9 rfl dX7_kindOf_11 V.1 rfl ?_
  refine gj_iload_n dX7_kindOf_14 rfl ?_
  refine gj_ialdN dX7_kindOf_15 V.2.1 (by omega) (by omega) ?_
  have hb1 := V.2.2.2.2.2.1 v
  refine gj_goto (tgt := 20) dX7_kindOf_16 rfl ?_
  exact gj_ir rfl dX7_kindOf_20 rfl rfl rfl
set_option maxHeartbeats 1000000 in
set_option maxRecDepth 10000 in
theorem ev_X7_weightOf {E : mj_E} {h : mj_H} {a kV wV cV z : Nat} {VK VW VC : Nat → Nat} (V : mj_Vo h a kV wV cV z VK VW VC) {v : Nat} (hv : v < 7) : mj_Ev E iX7_weightOf [.ref a, .int (nI v)] h (mj_R (some (.int (nI (VW v)))) h) := by
  refine mj_Ev.of (L0 := [some (.ref a), some (.int (nI v))]) pnRX7 (Nat.le_of_ble_eq_true rfl) rfl ?_
  refine gj_iload_n dX7_weightOf_0 rfl ?_
  refine gj_ic (w := 0) dX7_weightOf_1 ?_
  refine gj_bp 6 dX7_weightOf_2 (by decide) ?_
  refine gj_N1 lkX7_31 (ev_X10_within_t (by omega) (by omega) (by omega)) dX7_weightOf_4 rfl rfl rfl rfl rfl ?_
  refine gj_if_eqN (tgt := 19) (by omega) dX7_weightOf_7 rfl (fun zq0 => ?_) (fun zq0 => ?_)
  · exfalso; revert zq0; decide
  refine gj_aload_n dX7_weightOf_10 rfl ?_
  refine gfX7_15 rfl dX7_weightOf_11 V.1 rfl ?_
  refine gj_iload_n dX7_weightOf_14 rfl ?_
  refine gj_ialdN dX7_weightOf_15 V.2.2.1 (by omega) (by omega) ?_
  have hb1 := V.2.2.2.2.2.2.1 v
  refine gj_goto (tgt := 20) dX7_weightOf_16 rfl ?_
  exact gj_ir rfl dX7_weightOf_20 rfl rfl rfl
set_option maxHeartbeats 1000000 in
set_option maxRecDepth 10000 in
theorem ev_X7_cellOf {E : mj_E} {h : mj_H} {a kV wV cV z : Nat} {VK VW VC : Nat → Nat} (V : mj_Vo h a kV wV cV z VK VW VC) {v : Nat} (hv : v < 7) : mj_Ev E iX7_cellOf [.ref a, .int (nI v)] h (mj_R (some (.int (nI (VC v)))) h) := by
  refine mj_Ev.of (L0 := [some (.ref a), some (.int (nI v))]) pnRX7 (Nat.le_of_ble_eq_true rfl) rfl ?_
  refine gj_iload_n dX7_cellOf_0 rfl ?_
  refine gj_ic (w := 0) dX7_cellOf_1 ?_
  refine gj_bp 6 dX7_cellOf_2 (by decide) ?_
  refine gj_N1 lkX7_31 (ev_X10_within_t (by omega) (by omega) (by omega)) dX7_cellOf_4 rfl rfl rfl rfl rfl ?_
  refine gj_if_eqN (tgt := 19) (by omega) dX7_cellOf_7 rfl (fun zq0 => ?_) (fun zq0 => ?_)
  · exfalso; revert zq0; decide
  refine gj_aload_n dX7_cellOf_10 rfl ?_
  refine gfX7_18 rfl dX7_cellOf_11 V.1 rfl ?_
  refine gj_iload_n dX7_cellOf_14 rfl ?_
  refine gj_ialdN dX7_cellOf_15 V.2.2.2.1 (by omega) (by omega) ?_
  have hb1 := V.2.2.2.2.2.2.2 v
  refine gj_goto (tgt := 20) dX7_cellOf_16 rfl ?_
  exact gj_ir rfl dX7_cellOf_20 rfl rfl rfl
set_option maxHeartbeats 1000000 in
set_option maxRecDepth 10000 in
theorem ev_X7_sets {E : mj_E} {h : mj_H} {a kV wV cV z : Nat} {VK VW VC : Nat → Nat} (V : mj_Vo h a kV wV cV z VK VW VC)  : mj_Ev E iX7_sets [.ref a] h (mj_R (some (.int (nI (1 <<< z)))) h) := by
  have hz0 := V.2.2.2.2.1
  refine mj_Ev.of (L0 := [some (.ref a)]) pnRX7 (Nat.le_of_ble_eq_true rfl) rfl ?_
  refine gj_ic (w := 1) dX7_sets_0 ?_
  refine gj_aload_n dX7_sets_1 rfl ?_
  refine gfX7_21 rfl dX7_sets_2 V.1 rfl ?_
  refine gj_ishlN (by omega) dX7_sets_5 ?_
  exact gj_ir rfl dX7_sets_6 rfl rfl rfl
set_option maxHeartbeats 1000000 in
set_option maxRecDepth 10000 in
theorem ev_X7_add {E : mj_E} {h : mj_H} {a kV wV cV z : Nat} {VK VW VC : Nat → Nat} (V : mj_Vo h a kV wV cV z VK VW VC) {k w c : Nat} (hz : z < 7) (hn : kV ≠ wV ∧ kV ≠ cV ∧ wV ≠ cV) : mj_Ev E iX7_add [.ref a, .int (nI k), .int (nI w), .int (nI c)] h (mj_R none (mj_up (mj_up (mj_up (mj_up h kV (mj_ar 7 (mj_un VK z k))) wV (mj_ar 7 (mj_un VW z w))) cV (mj_ar 7 (mj_un VC z c))) a (.inr (5, [.ref kV, .ref wV, .ref cV, .int (nI (z + 1))])))) := by
  refine mj_Ev.of (L0 := [some (.ref a), some (.int (nI k)), some (.int (nI w)), some (.int (nI c))]) pnRX7 (Nat.le_of_ble_eq_true rfl) rfl ?_
  refine gj_aload_n dX7_add_0 rfl ?_
  refine gfX7_21 rfl dX7_add_1 V.1 rfl ?_
  refine gj_ic (w := 0) dX7_add_4 ?_
  refine gj_bp 6 dX7_add_5 (by decide) ?_
  refine gj_N1 lkX7_31 (ev_X10_within_t (by omega) (by omega) (by omega)) dX7_add_7 rfl rfl rfl rfl rfl ?_
  refine gj_if_eqN (tgt := 53) (by omega) dX7_add_10 rfl (fun zq0 => ?_) (fun zq0 => ?_)
  · exfalso; revert zq0; decide
  refine gj_aload_n dX7_add_13 rfl ?_
  refine gfX7_9 rfl dX7_add_14 V.1 rfl ?_
  refine gj_aload_n dX7_add_17 rfl ?_
  refine gfX7_21 rfl dX7_add_18 V.1 rfl ?_
  refine gj_iload_n dX7_add_21 rfl ?_
  refine gj_iastN dX7_add_22 V.2.1 (by omega) (by omega) ?_
  refine gj_aload_n dX7_add_23 rfl ?_
  refine gfX7_15 rfl dX7_add_24 ((mj_up_ne (mj_neOA V.1 V.2.1)).trans V.1) rfl ?_
  refine gj_aload_n dX7_add_27 rfl ?_
  refine gfX7_21 rfl dX7_add_28 ((mj_up_ne (mj_neOA V.1 V.2.1)).trans V.1) rfl ?_
  refine gj_iload_n dX7_add_31 rfl ?_
  refine gj_iastN dX7_add_32 ((mj_up_ne (Ne.symm hn.1)).trans V.2.2.1) (by omega) (by omega) ?_
  refine gj_aload_n dX7_add_33 rfl ?_
  refine gfX7_18 rfl dX7_add_34 ((mj_up_ne (mj_neOA V.1 V.2.2.1)).trans ((mj_up_ne (mj_neOA V.1 V.2.1)).trans V.1)) rfl ?_
  refine gj_aload_n dX7_add_37 rfl ?_
  refine gfX7_21 rfl dX7_add_38 ((mj_up_ne (mj_neOA V.1 V.2.2.1)).trans ((mj_up_ne (mj_neOA V.1 V.2.1)).trans V.1)) rfl ?_
  refine gj_iload_n dX7_add_41 rfl ?_
  refine gj_iastN dX7_add_42 ((mj_up_ne (Ne.symm hn.2.2)).trans ((mj_up_ne (Ne.symm hn.2.1)).trans V.2.2.2.1)) (by omega) (by omega) ?_
  refine gj_aload_n dX7_add_43 rfl ?_
  refine gj_dup dX7_add_44 rfl ?_
  refine gfX7_21 rfl dX7_add_45 ((mj_up_ne (mj_neOA V.1 V.2.2.2.1)).trans ((mj_up_ne (mj_neOA V.1 V.2.2.1)).trans ((mj_up_ne (mj_neOA V.1 V.2.1)).trans V.1))) rfl ?_
  refine gj_ic (w := 1) dX7_add_48 ?_
  refine gj_iaddN  dX7_add_49 ?_
  refine pfX7_21 rfl dX7_add_50 ((mj_up_ne (mj_neOA V.1 V.2.2.2.1)).trans ((mj_up_ne (mj_neOA V.1 V.2.2.1)).trans ((mj_up_ne (mj_neOA V.1 V.2.1)).trans V.1))) (Nat.le_of_ble_eq_true rfl) ?_
  show gj _ _ _ _ _ _ _ _ (mj_up (mj_up (mj_up (mj_up h kV (mj_ar 7 (mj_un VK z k))) wV (mj_ar 7 (mj_un VW z w))) cV (mj_ar 7 (mj_un VC z c))) a (.inr (5, [.ref kV, .ref wV, .ref cV, .int (nI (z + 1))])))
  exact gj_vr rfl dX7_add_53 rfl
set_option maxHeartbeats 1000000 in
set_option maxRecDepth 10000 in
theorem ev_X7_copy {E : mj_E} {h : mj_H} {a kV wV cV z : Nat} {VK VW VC : Nat → Nat} (V : mj_Vo h a kV wV cV z VK VW VC) {b k2 w2 c2 z2 : Nat} {VK2 VW2 VC2 : Nat → Nat} (V2 : mj_Vo h b k2 w2 c2 z2 VK2 VW2 VC2) (hn : kV ≠ wV ∧ kV ≠ cV ∧ wV ≠ cV) (hm : kV ≠ w2 ∧ kV ≠ c2 ∧ wV ≠ c2) : mj_Ev E iX7_copy [.ref a, .ref b] h (mj_R none (mj_up (mj_up (mj_up (mj_up h kV (mj_ar 7 VK2)) wV (mj_ar 7 VW2)) cV (mj_ar 7 VC2)) a (.inr (5, [.ref kV, .ref wV, .ref cV, .int (nI z2)])))) := by
  refine mj_Ev.of (L0 := [some (.ref a), some (.ref b)]) pnRX7 (Nat.le_of_ble_eq_true rfl) rfl ?_
  refine gj_aload_n dX7_copy_0 rfl ?_
  refine gfX7_9 rfl dX7_copy_1 V2.1 rfl ?_
  refine gj_ic (w := 0) dX7_copy_4 ?_
  refine gj_aload_n dX7_copy_5 rfl ?_
  refine gfX7_9 rfl dX7_copy_6 V.1 rfl ?_
  refine gj_ic (w := 0) dX7_copy_9 ?_
  refine gj_bp 7 dX7_copy_10 (by decide) ?_
  refine gj_copyN0 w_559 w_549 w_548 w_88 dX7_copy_12 V2.2.1 V.2.1 (by decide) rfl rfl ?_
  refine gj_aload_n dX7_copy_15 rfl ?_
  refine gfX7_15 rfl dX7_copy_16 ((mj_up_ne (mj_neOA V2.1 V.2.1)).trans V2.1) rfl ?_
  refine gj_ic (w := 0) dX7_copy_19 ?_
  refine gj_aload_n dX7_copy_20 rfl ?_
  refine gfX7_15 rfl dX7_copy_21 ((mj_up_ne (mj_neOA V.1 V.2.1)).trans V.1) rfl ?_
  refine gj_ic (w := 0) dX7_copy_24 ?_
  refine gj_bp 7 dX7_copy_25 (by decide) ?_
  refine gj_copyN0 w_559 w_549 w_548 w_88 dX7_copy_27 ((mj_up_ne (Ne.symm hm.1)).trans V2.2.2.1) ((mj_up_ne (Ne.symm hn.1)).trans V.2.2.1) (by decide) rfl rfl ?_
  refine gj_aload_n dX7_copy_30 rfl ?_
  refine gfX7_18 rfl dX7_copy_31 ((mj_up_ne (mj_neOA V2.1 V.2.2.1)).trans ((mj_up_ne (mj_neOA V2.1 V.2.1)).trans V2.1)) rfl ?_
  refine gj_ic (w := 0) dX7_copy_34 ?_
  refine gj_aload_n dX7_copy_35 rfl ?_
  refine gfX7_18 rfl dX7_copy_36 ((mj_up_ne (mj_neOA V.1 V.2.2.1)).trans ((mj_up_ne (mj_neOA V.1 V.2.1)).trans V.1)) rfl ?_
  refine gj_ic (w := 0) dX7_copy_39 ?_
  refine gj_bp 7 dX7_copy_40 (by decide) ?_
  refine gj_copyN0 w_559 w_549 w_548 w_88 dX7_copy_42 ((mj_up_ne (Ne.symm hm.2.2)).trans ((mj_up_ne (Ne.symm hm.2.1)).trans V2.2.2.2.1)) ((mj_up_ne (Ne.symm hn.2.2)).trans ((mj_up_ne (Ne.symm hn.2.1)).trans V.2.2.2.1)) (by decide) rfl rfl ?_
  refine gj_aload_n dX7_copy_45 rfl ?_
  refine gj_aload_n dX7_copy_46 rfl ?_
  refine gfX7_21 rfl dX7_copy_47 ((mj_up_ne (mj_neOA V2.1 V.2.2.2.1)).trans ((mj_up_ne (mj_neOA V2.1 V.2.2.1)).trans ((mj_up_ne (mj_neOA V2.1 V.2.1)).trans V2.1))) rfl ?_
  refine pfX7_21 rfl dX7_copy_50 ((mj_up_ne (mj_neOA V.1 V.2.2.2.1)).trans ((mj_up_ne (mj_neOA V.1 V.2.2.1)).trans ((mj_up_ne (mj_neOA V.1 V.2.1)).trans V.1))) (Nat.le_of_ble_eq_true rfl) ?_
  show gj _ _ _ _ _ _ _ _ (mj_up (mj_up (mj_up (mj_up h kV (mj_ar 7 VK2)) wV (mj_ar 7 VW2)) cV (mj_ar 7 VC2)) a (.inr (5, [.ref kV, .ref wV, .ref cV, .int (nI z2)])))
  exact gj_vr rfl dX7_copy_53 rfl
set_option maxHeartbeats 1000000 in
set_option maxRecDepth 10000 in
theorem ev_X7_heaviest {E : mj_E} {h : mj_H} {a kV wV cV z : Nat} {VK VW VC : Nat → Nat} (V : mj_Vo h a kV wV cV z VK VW VC) (hz : 0 < z) : mj_Ev E iX7_heaviest [.ref a] h (mj_R (some (.int (nI (sp_heav VW z)))) h) := by
  have hz0 := V.2.2.2.2.1
  refine mj_Ev.of (L0 := [some (.ref a), none, none]) pnRX7 (Nat.le_of_ble_eq_true rfl) rfl ?_
  refine gj_ic (w := 0) dX7_heaviest_0 ?_
  refine gj_istore_n (L' := [some (.ref a), some (.int (nI 0)), none]) dX7_heaviest_1 (Nat.le_of_ble_eq_true rfl) rfl ?_
  refine gj_ic (w := 1) dX7_heaviest_2 ?_
  refine gj_istore_n (L' := [some (.ref a), some (.int (nI 0)), some (.int (nI 1))]) dX7_heaviest_3 (Nat.le_of_ble_eq_true rfl) rfl ?_
  refine gj_cast (L' := [some (.ref a), some (.int (nI (sp_heav VW 1))), some (.int (nI 1))]) (st' := []) (h' := h) (by rw [show sp_heav VW 1 = 0 from if_neg (Nat.lt_irrefl _)]) rfl rfl ?_
  refine gj_loop (fun j => [some (.ref a), some (.int (nI (sp_heav VW j))), some (.int (nI j))]) (fun j => h) z ?_ (fun j hj ih => ?_) 1 (by omega)
  · show gj _ _ _ _ _ _ [some (.ref a), some (.int (nI (sp_heav VW z))), some (.int (nI z))] _ _
    refine gj_iload_n dX7_heaviest_4 rfl ?_
    refine gj_aload_n dX7_heaviest_5 rfl ?_
    refine gfX7_21 rfl dX7_heaviest_6 V.1 rfl ?_
    refine gj_icmp_geN (tgt := 33) (by omega) (by omega) dX7_heaviest_9 rfl (fun zq1 => ?_) (fun zq1 => ?_)
    rotate_left
    · exfalso; omega
    refine gj_iload_n dX7_heaviest_33 rfl ?_
    exact gj_ir rfl dX7_heaviest_34 rfl rfl rfl
  show gj _ _ _ _ _ _ [some (.ref a), some (.int (nI (sp_heav VW j))), some (.int (nI j))] _ _
  refine gj_iload_n dX7_heaviest_4 rfl ?_
  refine gj_aload_n dX7_heaviest_5 rfl ?_
  refine gfX7_21 rfl dX7_heaviest_6 V.1 rfl ?_
  refine gj_icmp_geN (tgt := 33) (by omega) (by omega) dX7_heaviest_9 rfl (fun zq2 => ?_) (fun zq2 => ?_)
  · exfalso; omega
  refine gj_aload_n dX7_heaviest_12 rfl ?_
  refine gj_iload_n dX7_heaviest_13 rfl ?_
  refine gj_V1 lkX7_63 V.1 rfl rfl (ev_X7_weightOf ⟨V.1, V.2.1, V.2.2.1, V.2.2.2.1, (by omega), V.2.2.2.2.2.1, V.2.2.2.2.2.2.1, V.2.2.2.2.2.2.2⟩ (by omega)) dX7_heaviest_14 rfl rfl rfl rfl rfl ?_
  have hb3 := V.2.2.2.2.2.2.1 j
  refine gj_aload_n dX7_heaviest_17 rfl ?_
  have hb9 : sp_heav VW j < 7 := by by_cases q : j = 0 <;> first | (subst q; exact (by decide : 0 < 7)) | (have := @sp_heav_lt VW j (by omega); omega)
  refine gj_iload_n dX7_heaviest_18 rfl ?_
  refine gj_V1 lkX7_63 V.1 rfl rfl (ev_X7_weightOf ⟨V.1, V.2.1, V.2.2.1, V.2.2.2.1, (by omega), V.2.2.2.2.2.1, V.2.2.2.2.2.2.1, V.2.2.2.2.2.2.2⟩ (by omega)) dX7_heaviest_19 rfl rfl rfl rfl rfl ?_
  have hb4 := V.2.2.2.2.2.2.1 (sp_heav VW j)
  refine gj_icmp_leN (tgt := 27) (by omega) (by omega) dX7_heaviest_22 rfl (fun zq5 => ?_) (fun zq5 => ?_)
  · -- 22 taken
    refine gj_iincN (L' := [some (.ref a), some (.int (nI (sp_heav VW j))), some (.int (nI (j + 1)))]) dX7_heaviest_27 rfl (Nat.le_of_ble_eq_true rfl) rfl ?_
    refine gj_goto (tgt := 4) dX7_heaviest_30 rfl ?_
    exact gj_cast (by first | rw [sp_heav_s, if_pos (by omega)] | rw [sp_heav_s, if_neg (by omega)]) rfl rfl ih
  refine gj_iload_n dX7_heaviest_25 rfl ?_
  refine gj_istore_n (L' := [some (.ref a), some (.int (nI j)), some (.int (nI j))]) dX7_heaviest_26 (Nat.le_of_ble_eq_true rfl) rfl ?_
  refine gj_iincN (L' := [some (.ref a), some (.int (nI j)), some (.int (nI (j + 1)))]) dX7_heaviest_27 rfl (Nat.le_of_ble_eq_true rfl) rfl ?_
  refine gj_goto (tgt := 4) dX7_heaviest_30 rfl ?_
  exact gj_cast (by first | rw [sp_heav_s, if_pos (by omega)] | rw [sp_heav_s, if_neg (by omega)]) rfl rfl ih
set_option maxHeartbeats 1000000 in
set_option maxRecDepth 10000 in
theorem ev_X7_carried {E : mj_E} {h : mj_H} {a kV wV cV z : Nat} {VK VW VC : Nat → Nat} (V : mj_Vo h a kV wV cV z VK VW VC) {s : Nat} (hs : s < 128) : mj_Ev E iX7_carried [.ref a, .int (nI s)] h (mj_R (some (.int (mj_b (sp_car VW z s)))) h) := by
  have hz0 := V.2.2.2.2.1
  refine mj_Ev.of (L0 := [some (.ref a), some (.int (nI s)), none]) pnRX7 (Nat.le_of_ble_eq_true rfl) rfl ?_
  refine gj_ic (w := 2) dX7_carried_0 ?_
  refine gj_iload_n dX7_carried_1 rfl ?_
  refine gj_S1 lkX7_50 (ev_J6_bitCount_0f7a4 hs) dX7_carried_2 rfl rfl rfl rfl rfl ?_
  have hb1 := @sp_pop_le s
  refine gj_imulN  dX7_carried_5 ?_
  refine gj_istore_n (L' := [some (.ref a), some (.int (nI s)), some (.int (nI (2 * (sp_pop s))))]) dX7_carried_6 (Nat.le_of_ble_eq_true rfl) rfl ?_
  refine gj_iload_n dX7_carried_7 rfl ?_
  refine gj_aload_n dX7_carried_8 rfl ?_
  refine gfX7_21 rfl dX7_carried_9 V.1 rfl ?_
  refine gj_icmp_gtN (tgt := 41) (by omega) (by omega) dX7_carried_12 rfl (fun zq2 => ?_) (fun zq2 => ?_)
  · -- 12 taken
    refine gj_ic (w := 1) dX7_carried_41 ?_
    refine gj_goto (tgt := 46) dX7_carried_42 rfl ?_
    exact gj_zr rfl dX7_carried_46 rfl (mj_b1 (by unfold sp_car; simp; first | omega | exact Or.inr ⟨by omega, by omega, by assumption⟩ | exact ⟨by omega, fun _ _ => by first | assumption | (exfalso; omega)⟩)) rfl
  refine gj_iload_n dX7_carried_15 rfl ?_
  refine gj_aload_n dX7_carried_16 rfl ?_
  refine gfX7_21 rfl dX7_carried_17 V.1 rfl ?_
  refine gj_icmp_neN (tgt := 45) (by omega) (by omega) dX7_carried_20 rfl (fun zq3 => ?_) (fun zq3 => ?_)
  · -- 20 taken
    refine gj_ic (w := 0) dX7_carried_45 ?_
    exact gj_zr rfl dX7_carried_46 rfl (mj_b0 (by unfold sp_car; simp; first | omega | exact Or.inr ⟨by omega, by omega, by assumption⟩ | exact ⟨by omega, fun _ _ => by first | assumption | (exfalso; omega)⟩)) rfl
  refine gj_aload_n dX7_carried_23 rfl ?_
  refine gfX7_21 rfl dX7_carried_24 V.1 rfl ?_
  refine gj_if_leN (tgt := 45) (by omega) dX7_carried_27 rfl (fun zq4 => ?_) (fun zq4 => ?_)
  · -- 27 taken
    refine gj_ic (w := 0) dX7_carried_45 ?_
    exact gj_zr rfl dX7_carried_46 rfl (mj_b0 (by unfold sp_car; simp; first | omega | exact Or.inr ⟨by omega, by omega, by assumption⟩ | exact ⟨by omega, fun _ _ => by first | assumption | (exfalso; omega)⟩)) rfl
  refine gj_iload_n dX7_carried_30 rfl ?_
  refine gj_aload_n dX7_carried_31 rfl ?_
  refine gj_V1 lkX7_55 V.1 rfl rfl (ev_X7_heaviest ⟨V.1, V.2.1, V.2.2.1, V.2.2.2.1, (by omega), V.2.2.2.2.2.1, V.2.2.2.2.2.2.1, V.2.2.2.2.2.2.2⟩ (by omega)) dX7_carried_32 rfl rfl rfl rfl rfl ?_
  have hb5 := @sp_heav_lt VW z (by omega)
  refine gj_N1 lkX7_59 (ev_X10_has (by omega) (by omega)) dX7_carried_35 rfl rfl rfl rfl rfl ?_
  refine gj_if_eqb (tgt := 45) dX7_carried_38 rfl (fun zq6 => ?_) (fun zq6 => ?_)
  · -- 38 taken
    refine gj_ic (w := 0) dX7_carried_45 ?_
    exact gj_zr rfl dX7_carried_46 rfl (mj_b0 (by unfold sp_car; simp; first | omega | exact Or.inr ⟨by omega, by omega, by assumption⟩ | exact ⟨by omega, fun _ _ => by first | assumption | (exfalso; omega)⟩)) rfl
  refine gj_ic (w := 1) dX7_carried_41 ?_
  refine gj_goto (tgt := 46) dX7_carried_42 rfl ?_
  exact gj_zr rfl dX7_carried_46 rfl (mj_b1 (by unfold sp_car; simp; first | omega | exact Or.inr ⟨by omega, by omega, by assumption⟩ | exact ⟨by omega, fun _ _ => by first | assumption | (exfalso; omega)⟩)) rfl
set_option maxHeartbeats 1000000 in
set_option maxRecDepth 10000 in
theorem ev_X7_heavy {E : mj_E} {h : mj_H} {a kV wV cV z : Nat} {VK VW VC : Nat → Nat} (V : mj_Vo h a kV wV cV z VK VW VC) {sA kA iA : Nat} {K I : Nat → Nat} (S : mj_Sh h sA kA iA K I)  : mj_Ev E iX7_heavy [.ref a, .ref sA] h (mj_R (some (.int (nI (sp_hvy VW VC (fun c => sp_bear (K c) (I c)) z)))) h) := by
  have hz0 := V.2.2.2.2.1
  refine mj_Ev.of (L0 := [some (.ref a), some (.ref sA), none, none]) pnRX7 (Nat.le_of_ble_eq_true rfl) rfl ?_
  refine gj_ic (w := 0) dX7_heavy_0 ?_
  refine gj_istore_n (L' := [some (.ref a), some (.ref sA), some (.int (nI 0)), none]) dX7_heavy_1 (Nat.le_of_ble_eq_true rfl) rfl ?_
  refine gj_ic (w := 0) dX7_heavy_2 ?_
  refine gj_istore_n (L' := [some (.ref a), some (.ref sA), some (.int (nI 0)), some (.int (nI 0))]) dX7_heavy_3 (Nat.le_of_ble_eq_true rfl) rfl ?_
  refine gj_cast (L' := [some (.ref a), some (.ref sA), some (.int (nI (sp_hvy VW VC (fun c => sp_bear (K c) (I c)) 0))), some (.int (nI 0))]) (st' := []) (h' := h) rfl rfl rfl ?_
  refine gj_loop (fun j => [some (.ref a), some (.ref sA), some (.int (nI (sp_hvy VW VC (fun c => sp_bear (K c) (I c)) j))), some (.int (nI j))]) (fun j => h) z ?_ (fun j hj ih => ?_) 0 (by omega)
  · show gj _ _ _ _ _ _ [some (.ref a), some (.ref sA), some (.int (nI (sp_hvy VW VC (fun c => sp_bear (K c) (I c)) z))), some (.int (nI z))] _ _
    refine gj_iload_n dX7_heavy_4 rfl ?_
    refine gj_aload_n dX7_heavy_5 rfl ?_
    refine gfX7_21 rfl dX7_heavy_6 V.1 rfl ?_
    refine gj_icmp_geN (tgt := 49) (by omega) (by omega) dX7_heavy_9 rfl (fun zq1 => ?_) (fun zq1 => ?_)
    rotate_left
    · exfalso; omega
    refine gj_iload_n dX7_heavy_49 rfl ?_
    exact gj_ir rfl dX7_heavy_50 rfl rfl rfl
  show gj _ _ _ _ _ _ [some (.ref a), some (.ref sA), some (.int (nI (sp_hvy VW VC (fun c => sp_bear (K c) (I c)) j))), some (.int (nI j))] _ _
  refine gj_iload_n dX7_heavy_4 rfl ?_
  refine gj_aload_n dX7_heavy_5 rfl ?_
  refine gfX7_21 rfl dX7_heavy_6 V.1 rfl ?_
  refine gj_icmp_geN (tgt := 49) (by omega) (by omega) dX7_heavy_9 rfl (fun zq2 => ?_) (fun zq2 => ?_)
  · exfalso; omega
  refine gj_iload_n dX7_heavy_12 rfl ?_
  refine gj_bp 7 dX7_heavy_13 (by decide) ?_
  refine gj_icmp_geN (tgt := 49) (by omega) (by omega) dX7_heavy_15 rfl (fun zq3 => ?_) (fun zq3 => ?_)
  · exfalso; omega
  refine gj_aload_n dX7_heavy_18 rfl ?_
  refine gj_aload_n dX7_heavy_19 rfl ?_
  refine gfX7_18 rfl dX7_heavy_20 V.1 rfl ?_
  refine gj_iload_n dX7_heavy_23 rfl ?_
  refine gj_ialdN dX7_heavy_24 V.2.2.2.1 (by omega) (by omega) ?_
  have hb4 := V.2.2.2.2.2.2.2 j
  refine gj_V1 lkX7_41 S.1 rfl rfl (ev_X4_bears ⟨S.1, S.2.1, S.2.2.1, S.2.2.2.1, S.2.2.2.2.1, S.2.2.2.2.2⟩ (by omega)) dX7_heavy_25 rfl rfl rfl rfl rfl ?_
  have hb5 := @sp_bear_le (K (VC j)) (I (VC j))
  have hb6 := S.2.2.2.2.2 (VC j)
  refine gj_aload_n dX7_heavy_28 rfl ?_
  refine gfX7_15 rfl dX7_heavy_29 V.1 rfl ?_
  refine gj_iload_n dX7_heavy_32 rfl ?_
  refine gj_ialdN dX7_heavy_33 V.2.2.1 (by omega) (by omega) ?_
  have hb7 := V.2.2.2.2.2.2.1 j
  refine gj_icmp_geN (tgt := 43) (by omega) (by omega) dX7_heavy_34 rfl (fun zq8 => ?_) (fun zq8 => ?_)
  · -- 34 taken
    refine gj_iincN (L' := [some (.ref a), some (.ref sA), some (.int (nI (sp_hvy VW VC (fun c => sp_bear (K c) (I c)) j))), some (.int (nI (j + 1)))]) dX7_heavy_43 rfl (Nat.le_of_ble_eq_true rfl) rfl ?_
    refine gj_goto (tgt := 4) dX7_heavy_46 rfl ?_
    exact gj_cast (by first | (rw [show sp_hvy VW VC (fun c => sp_bear (K c) (I c)) (j + 1) = _ from mj_bits_t (by first | assumption | (simp only [decide_eq_true_eq]; omega))]; rfl) | (rw [show sp_hvy VW VC (fun c => sp_bear (K c) (I c)) (j + 1) = _ from mj_bits_f (by first | assumption | (simp only [decide_eq_false_iff_not]; omega))]; rfl)) rfl rfl ih
  refine gj_iload_n dX7_heavy_37 rfl ?_
  refine gj_ic (w := 1) dX7_heavy_38 ?_
  refine gj_iload_n dX7_heavy_39 rfl ?_
  refine gj_ishlN (by omega) dX7_heavy_40 ?_
  refine gj_iorN  dX7_heavy_41 ?_
  refine gj_istore_n (L' := [some (.ref a), some (.ref sA), some (.int (nI ((sp_hvy VW VC (fun c => sp_bear (K c) (I c)) j) ||| (1 <<< j)))), some (.int (nI j))]) dX7_heavy_42 (Nat.le_of_ble_eq_true rfl) rfl ?_
  refine gj_iincN (L' := [some (.ref a), some (.ref sA), some (.int (nI ((sp_hvy VW VC (fun c => sp_bear (K c) (I c)) j) ||| (1 <<< j)))), some (.int (nI (j + 1)))]) dX7_heavy_43 rfl (Nat.le_of_ble_eq_true rfl) rfl ?_
  refine gj_goto (tgt := 4) dX7_heavy_46 rfl ?_
  exact gj_cast (by first | (rw [show sp_hvy VW VC (fun c => sp_bear (K c) (I c)) (j + 1) = _ from mj_bits_t (by first | assumption | (simp only [decide_eq_true_eq]; omega))]; rfl) | (rw [show sp_hvy VW VC (fun c => sp_bear (K c) (I c)) (j + 1) = _ from mj_bits_f (by first | assumption | (simp only [decide_eq_false_iff_not]; omega))]; rfl)) rfl rfl ih
set_option maxHeartbeats 1000000 in
set_option maxRecDepth 10000 in
theorem ev_X7_yes {E : mj_E} {h : mj_H} {a kV wV cV z : Nat} {VK VW VC : Nat → Nat} (V : mj_Vo h a kV wV cV z VK VW VC) {sA kA iA : Nat} {K I : Nat → Nat} (S : mj_Sh h sA kA iA K I) {f : Nat} (hf : f ≤ 9) : mj_Ev E iX7_yes [.ref a, .ref sA, .int (nI f)] h (mj_R (some (.int (nI (sp_yess VK VW VC (fun c => sp_bear (K c) (I c)) f z)))) h) := by
  have hz0 := V.2.2.2.2.1
  refine mj_Ev.of (L0 := [some (.ref a), some (.ref sA), some (.int (nI f)), none, none, none]) pnRX7 (Nat.le_of_ble_eq_true rfl) rfl ?_
  refine gj_ic (w := 0) dX7_yes_0 ?_
  refine gj_istore_n (L' := [some (.ref a), some (.ref sA), some (.int (nI f)), some (.int (nI 0)), none, none]) dX7_yes_1 (Nat.le_of_ble_eq_true rfl) rfl ?_
  refine gj_ic (w := 0) dX7_yes_2 ?_
  refine gj_istore (L' := [some (.ref a), some (.ref sA), some (.int (nI f)), some (.int (nI 0)), some (.int (nI 0)), none]) dX7_yes_3 (Nat.le_of_ble_eq_true rfl) rfl ?_
  refine gj_cast (L' := [some (.ref a), some (.ref sA), some (.int (nI f)), some (.int (nI (sp_yess VK VW VC (fun c => sp_bear (K c) (I c)) f 0))), some (.int (nI 0)), none]) (st' := []) (h' := h) rfl rfl rfl ?_
  refine gj_loop (fun j => [some (.ref a), some (.ref sA), some (.int (nI f)), some (.int (nI (sp_yess VK VW VC (fun c => sp_bear (K c) (I c)) f j))), some (.int (nI j)), none]) (fun j => h) z ?_ (fun j hj ih => ?_) 0 (by omega)
  · show gj _ _ _ _ _ _ [some (.ref a), some (.ref sA), some (.int (nI f)), some (.int (nI (sp_yess VK VW VC (fun c => sp_bear (K c) (I c)) f z))), some (.int (nI z)), none] _ _
    refine gj_iload dX7_yes_5 rfl ?_
    refine gj_aload_n dX7_yes_7 rfl ?_
    refine gfX7_21 rfl dX7_yes_8 V.1 rfl ?_
    refine gj_icmp_geN (tgt := 81) (by omega) (by omega) dX7_yes_11 rfl (fun zq1 => ?_) (fun zq1 => ?_)
    rotate_left
    · exfalso; omega
    refine gj_iload_n dX7_yes_81 rfl ?_
    exact gj_ir rfl dX7_yes_82 rfl rfl rfl
  show gj _ _ _ _ _ _ [some (.ref a), some (.ref sA), some (.int (nI f)), some (.int (nI (sp_yess VK VW VC (fun c => sp_bear (K c) (I c)) f j))), some (.int (nI j)), none] _ _
  refine gj_iload dX7_yes_5 rfl ?_
  refine gj_aload_n dX7_yes_7 rfl ?_
  refine gfX7_21 rfl dX7_yes_8 V.1 rfl ?_
  refine gj_icmp_geN (tgt := 81) (by omega) (by omega) dX7_yes_11 rfl (fun zq2 => ?_) (fun zq2 => ?_)
  · exfalso; omega
  refine gj_iload dX7_yes_14 rfl ?_
  refine gj_bp 7 dX7_yes_16 (by decide) ?_
  refine gj_icmp_geN (tgt := 81) (by omega) (by omega) dX7_yes_18 rfl (fun zq3 => ?_) (fun zq3 => ?_)
  · exfalso; omega
  refine gj_aload_n dX7_yes_21 rfl ?_
  refine gj_aload_n dX7_yes_22 rfl ?_
  refine gfX7_18 rfl dX7_yes_23 V.1 rfl ?_
  refine gj_iload dX7_yes_26 rfl ?_
  refine gj_ialdN dX7_yes_28 V.2.2.2.1 (by omega) (by omega) ?_
  have hb4 := V.2.2.2.2.2.2.2 j
  refine gj_V1 lkX7_35 S.1 rfl rfl (ev_X4_leastBeside ⟨S.1, S.2.1, S.2.2.1, S.2.2.2.1, S.2.2.2.2.1, S.2.2.2.2.2⟩ (by omega)) dX7_yes_29 rfl rfl rfl rfl rfl ?_
  have hb5 := @sp_least_le (fun c => sp_bear (K c) (I c)) (VC j)
  refine gj_istore (L' := [some (.ref a), some (.ref sA), some (.int (nI f)), some (.int (nI (sp_yess VK VW VC (fun c => sp_bear (K c) (I c)) f j))), some (.int (nI j)), some (.int (nI (sp_least (fun c => sp_bear (K c) (I c)) (VC j))))]) dX7_yes_32 (Nat.le_of_ble_eq_true rfl) rfl ?_
  refine gj_aload_n dX7_yes_34 rfl ?_
  refine gfX7_9 rfl dX7_yes_35 V.1 rfl ?_
  refine gj_iload dX7_yes_38 rfl ?_
  refine gj_ialdN dX7_yes_40 V.2.1 (by omega) (by omega) ?_
  have hb6 := V.2.2.2.2.2.1 j
  refine gj_aload_n dX7_yes_41 rfl ?_
  refine gfX7_15 rfl dX7_yes_42 V.1 rfl ?_
  refine gj_iload dX7_yes_45 rfl ?_
  refine gj_ialdN dX7_yes_47 V.2.2.1 (by omega) (by omega) ?_
  have hb7 := V.2.2.2.2.2.2.1 j
  refine gj_aload_n dX7_yes_48 rfl ?_
  refine gj_aload_n dX7_yes_49 rfl ?_
  refine gfX7_18 rfl dX7_yes_50 V.1 rfl ?_
  refine gj_iload dX7_yes_53 rfl ?_
  refine gj_ialdN dX7_yes_55 V.2.2.2.1 (by omega) (by omega) ?_
  have hb8 := V.2.2.2.2.2.2.2 j
  refine gj_V1 lkX7_41 S.1 rfl rfl (ev_X4_bears ⟨S.1, S.2.1, S.2.2.1, S.2.2.2.1, S.2.2.2.2.1, S.2.2.2.2.2⟩ (by omega)) dX7_yes_56 rfl rfl rfl rfl rfl ?_
  have hb9 := @sp_bear_le (K (VC j)) (I (VC j))
  have hb10 := S.2.2.2.2.2 (VC j)
  refine gj_iload dX7_yes_59 rfl ?_
  refine gj_iload_n dX7_yes_61 rfl ?_
  refine gj_S1 lkX7_44 (ev_X6_yes (by omega) (by omega) (by omega) (by omega) (by omega)) dX7_yes_62 rfl rfl rfl rfl rfl ?_
  refine gj_if_eqb (tgt := 75) dX7_yes_65 rfl (fun zq11 => ?_) (fun zq11 => ?_)
  · -- 65 taken
    refine gj_iincN (L' := [some (.ref a), some (.ref sA), some (.int (nI f)), some (.int (nI (sp_yess VK VW VC (fun c => sp_bear (K c) (I c)) f j))), some (.int (nI (j + 1))), some (.int (nI (sp_least (fun c => sp_bear (K c) (I c)) (VC j))))]) dX7_yes_75 rfl (Nat.le_of_ble_eq_true rfl) rfl ?_
    refine gj_goto (tgt := 5) dX7_yes_78 rfl ?_
    refine gj_forget (i := 5) (L' := [some (.ref a), some (.ref sA), some (.int (nI f)), some (.int (nI (sp_yess VK VW VC (fun c => sp_bear (K c) (I c)) f j))), some (.int (nI (j + 1))), none]) rfl ?_
    exact gj_cast (by first | (rw [show sp_yess VK VW VC (fun c => sp_bear (K c) (I c)) f (j + 1) = _ from mj_bits_t (by first | assumption | (simp only [decide_eq_true_eq]; omega))]; rfl) | (rw [show sp_yess VK VW VC (fun c => sp_bear (K c) (I c)) f (j + 1) = _ from mj_bits_f (by first | assumption | (simp only [decide_eq_false_iff_not]; omega))]; rfl)) rfl rfl ih
  refine gj_iload_n dX7_yes_68 rfl ?_
  refine gj_ic (w := 1) dX7_yes_69 ?_
  refine gj_iload dX7_yes_70 rfl ?_
  refine gj_ishlN (by omega) dX7_yes_72 ?_
  refine gj_iorN  dX7_yes_73 ?_
  refine gj_istore_n (L' := [some (.ref a), some (.ref sA), some (.int (nI f)), some (.int (nI ((sp_yess VK VW VC (fun c => sp_bear (K c) (I c)) f j) ||| (1 <<< j)))), some (.int (nI j)), some (.int (nI (sp_least (fun c => sp_bear (K c) (I c)) (VC j))))]) dX7_yes_74 (Nat.le_of_ble_eq_true rfl) rfl ?_
  refine gj_iincN (L' := [some (.ref a), some (.ref sA), some (.int (nI f)), some (.int (nI ((sp_yess VK VW VC (fun c => sp_bear (K c) (I c)) f j) ||| (1 <<< j)))), some (.int (nI (j + 1))), some (.int (nI (sp_least (fun c => sp_bear (K c) (I c)) (VC j))))]) dX7_yes_75 rfl (Nat.le_of_ble_eq_true rfl) rfl ?_
  refine gj_goto (tgt := 5) dX7_yes_78 rfl ?_
  refine gj_forget (i := 5) (L' := [some (.ref a), some (.ref sA), some (.int (nI f)), some (.int (nI ((sp_yess VK VW VC (fun c => sp_bear (K c) (I c)) f j) ||| (1 <<< j)))), some (.int (nI (j + 1))), none]) rfl ?_
  exact gj_cast (by first | (rw [show sp_yess VK VW VC (fun c => sp_bear (K c) (I c)) f (j + 1) = _ from mj_bits_t (by first | assumption | (simp only [decide_eq_true_eq]; omega))]; rfl) | (rw [show sp_yess VK VW VC (fun c => sp_bear (K c) (I c)) f (j + 1) = _ from mj_bits_f (by first | assumption | (simp only [decide_eq_false_iff_not]; omega))]; rfl)) rfl rfl ih
set_option maxHeartbeats 1000000 in
set_option maxRecDepth 10000 in
theorem ev_X7_wet {E : mj_E} {h : mj_H} {a kV wV cV z : Nat} {VK VW VC : Nat → Nat} (V : mj_Vo h a kV wV cV z VK VW VC) {sA kA iA : Nat} {K I : Nat → Nat} (S : mj_Sh h sA kA iA K I) {f : Nat} (hf : f ≤ 9) : mj_Ev E iX7_wet [.ref a, .ref sA, .int (nI f)] h (mj_R (some (.int (nI (sp_wet VK VW VC (fun c => sp_bear (K c) (I c)) f z)))) h) := by
  have hz0 := V.2.2.2.2.1
  refine mj_Ev.of (L0 := [some (.ref a), some (.ref sA), some (.int (nI f)), none]) pnRX7 (Nat.le_of_ble_eq_true rfl) rfl ?_
  refine gj_aload_n dX7_wet_0 rfl ?_
  refine gj_aload_n dX7_wet_1 rfl ?_
  refine gj_iload_n dX7_wet_2 rfl ?_
  refine gj_V1 lkX7_66 V.1 rfl rfl (ev_X7_yes ⟨V.1, V.2.1, V.2.2.1, V.2.2.2.1, (by omega), V.2.2.2.2.2.1, V.2.2.2.2.2.2.1, V.2.2.2.2.2.2.2⟩ ⟨S.1, S.2.1, S.2.2.1, S.2.2.2.1, S.2.2.2.2.1, S.2.2.2.2.2⟩ (by omega)) dX7_wet_3 rfl rfl rfl rfl rfl ?_
  have hb1 := @sp_yess_lt VK VW VC (fun c => sp_bear (K c) (I c)) f z (by omega)
  refine gj_istore_n (L' := [some (.ref a), some (.ref sA), some (.int (nI f)), some (.int (nI (sp_yess VK VW VC (fun c => sp_bear (K c) (I c)) f z)))]) dX7_wet_6 (Nat.le_of_ble_eq_true rfl) rfl ?_
  refine gj_aload_n dX7_wet_7 rfl ?_
  refine gj_iload_n dX7_wet_8 rfl ?_
  refine gj_V1 lkX7_69 V.1 rfl rfl (ev_X7_carried ⟨V.1, V.2.1, V.2.2.1, V.2.2.2.1, (by omega), V.2.2.2.2.2.1, V.2.2.2.2.2.2.1, V.2.2.2.2.2.2.2⟩ (by omega)) dX7_wet_9 rfl rfl rfl rfl rfl ?_
  refine gj_if_eqb (tgt := 25) dX7_wet_12 rfl (fun zq2 => ?_) (fun zq2 => ?_)
  · -- 12 taken
    refine gj_ic (w := 0) dX7_wet_25 ?_
    exact gj_ir rfl dX7_wet_26 rfl (congrArg nI (by simp [sp_wet, *])) rfl
  refine gj_iload_n dX7_wet_15 rfl ?_
  refine gj_aload_n dX7_wet_16 rfl ?_
  refine gj_aload_n dX7_wet_17 rfl ?_
  refine gj_V1 lkX7_73 V.1 rfl rfl (ev_X7_heavy ⟨V.1, V.2.1, V.2.2.1, V.2.2.2.1, (by omega), V.2.2.2.2.2.1, V.2.2.2.2.2.2.1, V.2.2.2.2.2.2.2⟩ ⟨S.1, S.2.1, S.2.2.1, S.2.2.2.1, S.2.2.2.2.1, S.2.2.2.2.2⟩) dX7_wet_18 rfl rfl rfl rfl rfl ?_
  have hb3 := @sp_hvy_lt VW VC (fun c => sp_bear (K c) (I c)) z (by omega)
  refine gj_iandN  dX7_wet_21 ?_
  refine gj_goto (tgt := 26) dX7_wet_22 rfl ?_
  exact gj_ir rfl dX7_wet_26 rfl (congrArg nI (by simp [sp_wet, *])) rfl
set_option maxHeartbeats 1000000 in
set_option maxRecDepth 10000 in
theorem ev_X7_gain {E : mj_E} {h : mj_H} {a kV wV cV z : Nat} {VK VW VC : Nat → Nat} (V : mj_Vo h a kV wV cV z VK VW VC) {v y u : Nat} (hv : v < 7) (hy : y < 128) (hu : u < 128) : mj_Ev E iX7_gain [.ref a, .int (nI v), .int (nI y), .int (nI u)] h (mj_R (some (.int (sp_gain (sp_car VW z y) (Nat.testBit u v) (Nat.testBit y v)))) h) := by
  have hz0 := V.2.2.2.2.1
  refine mj_Ev.of (L0 := [some (.ref a), some (.int (nI v)), some (.int (nI y)), some (.int (nI u))]) pnRX7 (Nat.le_of_ble_eq_true rfl) rfl ?_
  refine gj_aload_n dX7_gain_0 rfl ?_
  refine gj_iload_n dX7_gain_1 rfl ?_
  refine gj_V1 lkX7_69 V.1 rfl rfl (ev_X7_carried ⟨V.1, V.2.1, V.2.2.1, V.2.2.2.1, (by omega), V.2.2.2.2.2.1, V.2.2.2.2.2.2.1, V.2.2.2.2.2.2.2⟩ (by omega)) dX7_gain_2 rfl rfl rfl rfl rfl ?_
  refine gj_if_neb (tgt := 10) dX7_gain_5 rfl (fun zq1 => ?_) (fun zq1 => ?_)
  · -- 5 taken
    refine gj_iload_n dX7_gain_10 rfl ?_
    refine gj_iload_n dX7_gain_11 rfl ?_
    refine gj_N1 lkX7_59 (ev_X10_has (by omega) (by omega)) dX7_gain_12 rfl rfl rfl rfl rfl ?_
    refine gj_if_neb (tgt := 20) dX7_gain_15 rfl (fun zq2 => ?_) (fun zq2 => ?_)
    · -- 15 taken
      refine gj_iload_n dX7_gain_20 rfl ?_
      refine gj_iload_n dX7_gain_21 rfl ?_
      refine gj_N1 lkX7_59 (ev_X10_has (by omega) (by omega)) dX7_gain_22 rfl rfl rfl rfl rfl ?_
      refine gj_if_eqb (tgt := 33) dX7_gain_25 rfl (fun zq3 => ?_) (fun zq3 => ?_)
      · -- 25 taken
        refine gj_iconst (v := (-1)) dX7_gain_33 (by decide) ?_
        exact gj_ir rfl dX7_gain_34 rfl (by simp [sp_gain, *]) rfl
      refine gj_bipush (v := (-3)) dX7_gain_28 (by decide) ?_
      refine gj_goto (tgt := 34) dX7_gain_30 rfl ?_
      exact gj_ir rfl dX7_gain_34 rfl (by simp [sp_gain, *]) rfl
    refine gj_ic (w := 2) dX7_gain_18 ?_
    exact gj_ir rfl dX7_gain_19 rfl (by simp [sp_gain, *]) rfl
  refine gj_ic (w := 0) dX7_gain_8 ?_
  exact gj_ir rfl dX7_gain_9 rfl (by simp [sp_gain, *]) rfl
set_option maxHeartbeats 1000000 in
set_option maxRecDepth 10000 in
theorem ev_X7_fold {E : mj_E} {h : mj_H} {a kV wV cV z : Nat} {VK VW VC : Nat → Nat} (V : mj_Vo h a kV wV cV z VK VW VC) {x : Int64} : mj_Ev E iX7_fold [.ref a, .long x] h (mj_R (some (.long (sp_vfold VK VW VC x z))) h) := by
  have hz0 := V.2.2.2.2.1
  refine mj_Ev.of (L0 := [some (.ref a), some (.long x), none, none, none, none]) pnRX7 (Nat.le_of_ble_eq_true rfl) rfl ?_
  refine gj_lload_n dX7_fold_0 rfl ?_
  refine gj_lstore_n (L' := [some (.ref a), some (.long x), none, some (.long x), none, none]) dX7_fold_1 (Nat.le_of_ble_eq_true rfl) rfl ?_
  refine gj_ic (w := 0) dX7_fold_2 ?_
  refine gj_istore (L' := [some (.ref a), some (.long x), none, some (.long x), none, some (.int (nI 0))]) dX7_fold_3 (Nat.le_of_ble_eq_true rfl) rfl ?_
  refine gj_cast (L' := [some (.ref a), some (.long x), none, some (.long (sp_vfold VK VW VC x 0)), none, some (.int (nI 0))]) (st' := []) (h' := h) rfl rfl rfl ?_
  refine gj_loop (fun j => [some (.ref a), some (.long x), none, some (.long (sp_vfold VK VW VC x j)), none, some (.int (nI j))]) (fun j => h) z ?_ (fun j hj ih => ?_) 0 (by omega)
  · show gj _ _ _ _ _ _ [some (.ref a), some (.long x), none, some (.long (sp_vfold VK VW VC x z)), none, some (.int (nI z))] _ _
    refine gj_iload dX7_fold_5 rfl ?_
    refine gj_aload_n dX7_fold_7 rfl ?_
    refine gfX7_21 rfl dX7_fold_8 V.1 rfl ?_
    refine gj_icmp_geN (tgt := 68) (by omega) (by omega) dX7_fold_11 rfl (fun zq1 => ?_) (fun zq1 => ?_)
    rotate_left
    · exfalso; omega
    refine gj_lload_n dX7_fold_68 rfl ?_
    exact gj_lr rfl dX7_fold_69 rfl rfl rfl
  show gj _ _ _ _ _ _ [some (.ref a), some (.long x), none, some (.long (sp_vfold VK VW VC x j)), none, some (.int (nI j))] _ _
  refine gj_iload dX7_fold_5 rfl ?_
  refine gj_aload_n dX7_fold_7 rfl ?_
  refine gfX7_21 rfl dX7_fold_8 V.1 rfl ?_
  refine gj_icmp_geN (tgt := 68) (by omega) (by omega) dX7_fold_11 rfl (fun zq2 => ?_) (fun zq2 => ?_)
  · exfalso; omega
  refine gj_iload dX7_fold_14 rfl ?_
  refine gj_bp 7 dX7_fold_16 (by decide) ?_
  refine gj_icmp_geN (tgt := 68) (by omega) (by omega) dX7_fold_18 rfl (fun zq3 => ?_) (fun zq3 => ?_)
  · exfalso; omega
  refine gj_ldc2 (v := 31) w_975 dX7_fold_21 ?_
  refine gj_ldc2 (v := 31) w_975 dX7_fold_24 ?_
  refine gj_ldc2 (v := 31) w_975 dX7_fold_27 ?_
  refine gj_lload_n dX7_fold_30 rfl ?_
  refine gj_lmul dX7_fold_31  ?_
  refine gj_aload_n dX7_fold_32 rfl ?_
  refine gfX7_9 rfl dX7_fold_33 V.1 rfl ?_
  refine gj_iload dX7_fold_36 rfl ?_
  refine gj_ialdN dX7_fold_38 V.2.1 (by omega) (by omega) ?_
  have hb4 := V.2.2.2.2.2.1 j
  refine gj_i2l (v := (nI (VK j)).toInt64) dX7_fold_39 rfl ?_
  refine gj_ladd dX7_fold_40  ?_
  refine gj_lmul dX7_fold_41  ?_
  refine gj_aload_n dX7_fold_42 rfl ?_
  refine gfX7_15 rfl dX7_fold_43 V.1 rfl ?_
  refine gj_iload dX7_fold_46 rfl ?_
  refine gj_ialdN dX7_fold_48 V.2.2.1 (by omega) (by omega) ?_
  have hb5 := V.2.2.2.2.2.2.1 j
  refine gj_i2l (v := (nI (VW j)).toInt64) dX7_fold_49 rfl ?_
  refine gj_ladd dX7_fold_50  ?_
  refine gj_lmul dX7_fold_51  ?_
  refine gj_aload_n dX7_fold_52 rfl ?_
  refine gfX7_18 rfl dX7_fold_53 V.1 rfl ?_
  refine gj_iload dX7_fold_56 rfl ?_
  refine gj_ialdN dX7_fold_58 V.2.2.2.1 (by omega) (by omega) ?_
  have hb6 := V.2.2.2.2.2.2.2 j
  refine gj_i2l (v := (nI (VC j)).toInt64) dX7_fold_59 rfl ?_
  refine gj_ladd dX7_fold_60  ?_
  refine gj_lstore_n (L' := [some (.ref a), some (.long x), none, some (.long ((31 * ((31 * ((31 * (sp_vfold VK VW VC x j)) + ((nI (VK j)).toInt64))) + ((nI (VW j)).toInt64))) + ((nI (VC j)).toInt64))), none, some (.int (nI j))]) dX7_fold_61 (Nat.le_of_ble_eq_true rfl) rfl ?_
  refine gj_iincN (L' := [some (.ref a), some (.long x), none, some (.long ((31 * ((31 * ((31 * (sp_vfold VK VW VC x j)) + ((nI (VK j)).toInt64))) + ((nI (VW j)).toInt64))) + ((nI (VC j)).toInt64))), none, some (.int (nI (j + 1)))]) dX7_fold_62 rfl (Nat.le_of_ble_eq_true rfl) rfl ?_
  refine gj_goto (tgt := 5) dX7_fold_65 rfl ?_
  exact ih
theorem mj_sets_le {z : Nat} (hz : z ≤ 7) : 1 ≤ 1 <<< z ∧ 1 <<< z ≤ 128 := by
  rw [Nat.shiftLeft_eq, Nat.one_mul]
  exact ⟨Nat.one_le_two_pow, Nat.pow_le_pow_right (by decide) hz⟩
theorem mj_sets_le' (z : Nat) (hz : z ≤ 7) : 1 ≤ 1 <<< z ∧ 1 <<< z ≤ 128 := mj_sets_le hz
