set_option maxHeartbeats 1000000 in
set_option maxRecDepth 10000 in
theorem ev_X5_advance {E : mj_E} {κ : Nat → Bool} {C : Nat → Nat → Nat} (I : mj_CI κ C) (hx : mj_tx C) {t : Nat} (h0 : C 7 1 = t) (h1 : C 7 2 = sp_tt (C 8) (C 7 0) t) (h2 : t < sp_tE (C 8) (C 7 0)) : mj_Ev E iX5_advance [.ref 7] (hh κ C) (mj_R none (hh κ (mj_u C 7 (mj_row [C 7 0, t + 1, sp_tt (C 8) (C 7 0) (t + 1)])))) := by
  have hl7x : C 7 0 ≤ 150 := I.2.2.2.2.2.2.1
  have hB : ∀ c, C 8 c ≤ 127 := I.2.2.2.2.2.2.2.1
  have hE := sp_tE_le (B := C 8) hl7x
  refine mj_Ev.of (L0 := [some (.ref 7)]) pnRX5 (Nat.le_of_ble_eq_true rfl) rfl ?_
  refine gj_aload_n dX5_advance_0 rfl ?_
  refine gfX5_28 rfl dX5_advance_1 (hc7 κ C) rfl ?_
  refine gj_topN h1 ?_
  have htl := sp_tt_lt (n := C 7 0) (t := t) hB
  refine gj_iconst (v := (-1)) dX5_advance_4 (by decide) ?_
  refine gj_top (y := nI 4294967295) (by decide) ?_
  refine gj_icmp_eqW (tgt := 49) (by omega) (by omega) dX5_advance_5 rfl (fun zq1 => ?_) (fun zq1 => ?_)
  · exfalso; exact sp_tE_no h2 zq1
  refine gj_aload_n dX5_advance_8 rfl ?_
  refine gj_dup dX5_advance_9 rfl ?_
  refine gfX5_25 rfl dX5_advance_10 (hc7 κ C) rfl ?_
  refine gj_topN h0 ?_
  refine gj_ic (w := 1) dX5_advance_13 ?_
  refine gj_iaddN  dX5_advance_14 ?_
  refine pfX5_25 rfl dX5_advance_15 (hc7 κ C) (Nat.le_of_ble_eq_true rfl) ?_
  refine gj_cast (h' := hh κ (mj_u C 7 (mj_row [C 7 0, t + 1, C 7 2]))) rfl rfl (hu7 (C := C) (z0 := C 7 0) (z1 := t + 1) (z2 := C 7 2) rfl) ?_
  refine gj_aload_n dX5_advance_18 rfl ?_
  refine gj_aload_n dX5_advance_19 rfl ?_
  refine gfX5_25 rfl dX5_advance_20 (hc7 κ (mj_u C 7 (mj_row [C 7 0, t + 1, C 7 2]))) rfl ?_
  show gj _ _ _ _ _ _ _ ((.int (nI (t + 1)) : Value) :: _) _
  refine gj_ic (w := 0) dX5_advance_23 ?_
  refine gj_sp 150 dX5_advance_24 (by decide) ?_
  refine gj_N1 lkX5_31 (ev_X10_within_w (by omega) (by omega) (by omega)) dX5_advance_27 rfl rfl rfl rfl rfl ?_
  show gj _ _ _ _ _ _ _ ((.int (mj_b (decide (0 ≤ t + 1 ∧ t + 1 ≤ 150))) : Value) :: _) _
  refine gj_if_eqb (tgt := 45) dX5_advance_30 rfl (fun zq2 => ?_) (fun zq2 => ?_)
  · exfalso; exact absurd zq2 (by rw [decide_eq_true ⟨by omega, by omega⟩]; decide)
  refine gj_aload_n dX5_advance_33 rfl ?_
  refine gfX5_19 rfl dX5_advance_34 (hc7 κ (mj_u C 7 (mj_row [C 7 0, t + 1, C 7 2]))) rfl ?_
  refine gj_aload_n dX5_advance_37 rfl ?_
  refine gfX5_25 rfl dX5_advance_38 (hc7 κ (mj_u C 7 (mj_row [C 7 0, t + 1, C 7 2]))) rfl ?_
  show gj _ _ _ _ _ _ _ ((.int (nI (t + 1)) : Value) :: _) _
  refine gj_ialdN dX5_advance_41 (hc9 κ (mj_u C 7 (mj_row [C 7 0, t + 1, C 7 2]))) (by omega) (by omega) ?_
  show gj _ _ _ _ _ _ _ ((.int (nI (C 9 (t + 1))) : Value) :: _) _
  refine gj_topN (hx (t + 1) (by omega)).1 ?_
  refine gj_goto (tgt := 46) dX5_advance_42 rfl ?_
  refine pfX5_28 rfl dX5_advance_46 (hc7 κ (mj_u C 7 (mj_row [C 7 0, t + 1, C 7 2]))) (Nat.le_of_ble_eq_true rfl) ?_
  refine gj_cast (h' := hh κ (mj_u C 7 (mj_row [C 7 0, t + 1, sp_tt (C 8) (C 7 0) (t + 1)]))) rfl rfl ((hu7 (C := (mj_u C 7 (mj_row [C 7 0, t + 1, C 7 2]))) (z0 := C 7 0) (z1 := t + 1) (z2 := sp_tt (C 8) (C 7 0) (t + 1)) rfl).trans (congrArg (hh κ) mj_u_u)) ?_
  exact gj_vr rfl dX5_advance_49 rfl
set_option maxHeartbeats 1000000 in
set_option maxRecDepth 10000 in
theorem ev_X5_numberComes {E : mj_E} {κ : Nat → Bool} {C : Nat → Nat → Nat} (I : mj_CI κ C) (hx : mj_tx C) {t : Nat} {lo hi : Nat} (h0 : C 7 1 = t) (h1 : C 7 2 = sp_tt (C 8) (C 7 0) t) (h2 : t < sp_tE (C 8) (C 7 0)) (h3 : lo ≤ 127) (h4 : hi ≤ 127) : mj_Ev E iX5_numberComes [.ref 7, .int (nI lo), .int (nI hi)] (hh κ C) (mj_R (some (.int (mj_b (decide (lo ≤ sp_tt (C 8) (C 7 0) (t + 1) ∧ sp_tt (C 8) (C 7 0) (t + 1) ≤ hi))))) (hh κ (mj_u C 7 (mj_row [C 7 0, t + 1, sp_tt (C 8) (C 7 0) (t + 1)])))) := by
  have hl7x : C 7 0 ≤ 150 := I.2.2.2.2.2.2.1
  have hB : ∀ c, C 8 c ≤ 127 := I.2.2.2.2.2.2.2.1
  have hE := sp_tE_le (B := C 8) hl7x
  refine mj_Ev.of (L0 := [some (.ref 7), some (.int (nI lo)), some (.int (nI hi))]) pnRX5 (Nat.le_of_ble_eq_true rfl) rfl ?_
  refine gj_aload_n dX5_numberComes_0 rfl ?_
  refine gj_V0 lkX5_56 (hc7 κ C) rfl rfl (ev_X5_advance (C := C) (t := t) I (show mj_tx C from hx) h0 h1 (show t < sp_tE (C 8) (C 7 0) by omega) ) dX5_numberComes_1 rfl rfl rfl rfl rfl ?_
  refine gj_aload_n dX5_numberComes_4 rfl ?_
  refine gfX5_28 rfl dX5_numberComes_5 (hc7 κ (mj_u C 7 (mj_row [C 7 0, t + 1, sp_tt (C 8) (C 7 0) (t + 1)]))) rfl ?_
  show gj _ _ _ _ _ _ _ ((.int (nI (sp_tt (C 8) (C 7 0) (t + 1))) : Value) :: _) _
  have htl := sp_tt_lt (n := C 7 0) (t := t + 1) hB
  refine gj_iload_n dX5_numberComes_8 rfl ?_
  refine gj_iload_n dX5_numberComes_9 rfl ?_
  refine gj_N1 lkX5_31 (ev_X10_within_w (by omega) (by omega) (by omega)) dX5_numberComes_10 rfl rfl rfl rfl rfl ?_
  show gj _ _ _ _ _ _ _ ((.int (mj_b (decide (lo ≤ sp_tt (C 8) (C 7 0) (t + 1) ∧ sp_tt (C 8) (C 7 0) (t + 1) ≤ hi))) : Value) :: _) _
  exact gj_zr rfl dX5_numberComes_13 rfl rfl rfl
set_option maxHeartbeats 1000000 in
set_option maxRecDepth 10000 in
theorem ev_X5_stopComes {E : mj_E} {κ : Nat → Bool} {C : Nat → Nat → Nat} (I : mj_CI κ C) (hx : mj_tx C) {t : Nat} (h0 : C 7 1 = t) (h1 : C 7 2 = sp_tt (C 8) (C 7 0) t) (h2 : t < sp_tE (C 8) (C 7 0)) : mj_Ev E iX5_stopComes [.ref 7] (hh κ C) (mj_R (some (.int (mj_b (decide (sp_tt (C 8) (C 7 0) (t + 1) = 4294967294))))) (hh κ (mj_u C 7 (mj_row [C 7 0, t + 1, sp_tt (C 8) (C 7 0) (t + 1)])))) := by
  have hl7x : C 7 0 ≤ 150 := I.2.2.2.2.2.2.1
  have hB : ∀ c, C 8 c ≤ 127 := I.2.2.2.2.2.2.2.1
  have hE := sp_tE_le (B := C 8) hl7x
  refine mj_Ev.of (L0 := [some (.ref 7)]) pnRX5 (Nat.le_of_ble_eq_true rfl) rfl ?_
  refine gj_aload_n dX5_stopComes_0 rfl ?_
  refine gj_V0 lkX5_56 (hc7 κ C) rfl rfl (ev_X5_advance (C := C) (t := t) I (show mj_tx C from hx) h0 h1 (show t < sp_tE (C 8) (C 7 0) by omega) ) dX5_stopComes_1 rfl rfl rfl rfl rfl ?_
  refine gj_aload_n dX5_stopComes_4 rfl ?_
  refine gfX5_28 rfl dX5_stopComes_5 (hc7 κ (mj_u C 7 (mj_row [C 7 0, t + 1, sp_tt (C 8) (C 7 0) (t + 1)]))) rfl ?_
  show gj _ _ _ _ _ _ _ ((.int (nI (sp_tt (C 8) (C 7 0) (t + 1))) : Value) :: _) _
  have htl := sp_tt_lt (n := C 7 0) (t := t + 1) hB
  refine gj_bipush (v := (-2)) dX5_stopComes_8 (by decide) ?_
  refine gj_top (y := nI 4294967294) (by decide) ?_
  refine gj_icmp_neW (tgt := 17) (by omega) (by omega) dX5_stopComes_10 rfl (fun zq1 => ?_) (fun zq1 => ?_)
  · -- 10 taken
    have hs9 := zq1
    refine gj_ic (w := 0) dX5_stopComes_17 ?_
    exact gj_zr rfl dX5_stopComes_18 rfl (mj_b0 (by first | exact decide_eq_true hs9 | exact decide_eq_false hs9)) rfl
  have hs9 := zq1
  refine gj_ic (w := 1) dX5_stopComes_13 ?_
  refine gj_goto (tgt := 18) dX5_stopComes_14 rfl ?_
  exact gj_zr rfl dX5_stopComes_18 rfl (mj_b1 (by first | exact decide_eq_true hs9 | exact decide_eq_false hs9)) rfl
set_option maxHeartbeats 1000000 in
set_option maxRecDepth 10000 in
theorem ev_X5_fault {E : mj_E} {κ : Nat → Bool} {C : Nat → Nat → Nat} (I : mj_CI κ C) (hx : mj_tx C) {t : Nat} (h0 : C 7 1 = t) (h1 : C 7 2 = sp_tt (C 8) (C 7 0) t) (h2 : t ≤ sp_tE (C 8) (C 7 0)) : mj_Ev E iX5_fault [.ref 7] (hh κ C) (mj_R (some (.int ((nI 4294967286) - (nI (sp_ss (C 8) (C 7 0) t))))) (hh κ C)) := by
  have hl7x : C 7 0 ≤ 150 := I.2.2.2.2.2.2.1
  have hB : ∀ c, C 8 c ≤ 127 := I.2.2.2.2.2.2.2.1
  have hE := sp_tE_le (B := C 8) hl7x
  refine mj_Ev.of (L0 := [some (.ref 7)]) pnRX5 (Nat.le_of_ble_eq_true rfl) rfl ?_
  refine gj_bipush (v := (-10)) dX5_fault_0 (by decide) ?_
  refine gj_top (y := nI 4294967286) (by decide) ?_
  refine gj_aload_n dX5_fault_2 rfl ?_
  refine gfX5_25 rfl dX5_fault_3 (hc7 κ C) rfl ?_
  refine gj_topN h0 ?_
  refine gj_ic (w := 0) dX5_fault_6 ?_
  refine gj_sp 150 dX5_fault_7 (by decide) ?_
  refine gj_N1 lkX5_31 (ev_X10_within_w (by omega) (by omega) (by omega)) dX5_fault_10 rfl rfl rfl rfl rfl ?_
  refine gj_if_eqb (tgt := 28) dX5_fault_13 rfl (fun zq1 => ?_) (fun zq1 => ?_)
  · exfalso; exact absurd zq1 (by rw [decide_eq_true ⟨by omega, by omega⟩]; decide)
  refine gj_aload_n dX5_fault_16 rfl ?_
  refine gfX5_22 rfl dX5_fault_17 (hc7 κ C) rfl ?_
  refine gj_aload_n dX5_fault_20 rfl ?_
  refine gfX5_25 rfl dX5_fault_21 (hc7 κ C) rfl ?_
  refine gj_topN h0 ?_
  refine gj_ialdN dX5_fault_24 (hc10 κ C) (by omega) (by omega) ?_
  refine gj_topN (hx t (by omega)).2 ?_
  refine gj_goto (tgt := 32) dX5_fault_25 rfl ?_
  refine gj_isub dX5_fault_32 ?_
  exact gj_ir rfl dX5_fault_33 rfl rfl rfl
