def sp_wh (k : Nat) (F U : Nat → Nat) (day i w : Nat) (m : Nat) : Bool := decide (w ≤ sp_bear k (sp_icem k F U day i m))
def sp_hp (K F U : Nat → Nat) (day : Nat) (I : Nat → Nat) (w : Nat) (m : Nat) : Bool := decide (25 * w ≤ sp_sum (fun c => sp_bear (K c) (sp_days K F U day I m c)) 25)
theorem sp_sum_le {f : Nat → Nat} {n m : Nat} (h : ∀ c, f c ≤ m) : sp_sum f n ≤ n * m := by
  induction n with
  | zero => exact Nat.zero_le _
  | succ n ih => show sp_sum f n + f n ≤ _; have := h n; rw [Nat.succ_mul]; omega
theorem mj_bear2 {K I : Nat → Nat} {m : Nat} (h : ∀ c, I c ≤ m) : ∀ c, sp_bear (K c) (I c) ≤ 2 * m := fun c => by have := h c; have := @sp_bear_le (K c) (I c); omega
set_option maxHeartbeats 1000000 in
set_option maxRecDepth 10000 in
theorem ev_X10_when {E : mj_E} {κ : Nat → Bool} {C : Nat → Nat → Nat} (I : mj_CI κ C) {c w : Nat} (h0 : c < 25) (h1 : 1 ≤ w) (h2 : w ≤ 198) : mj_Ev E iX10_when [.ref 0, .int (nI c), .int (nI w)] (hh κ C) (mj_R (some (.int (nI (sp_or 61 (sp_fst (sp_wh (C 22 c) (C 25) (C 26) (C 20 0) (C 23 c) w) 61))))) (hh κ C)) := by
  have hl0 : C 20 0 ≤ 999 := I.1 0 (by decide) 0
  have hl7 : C 27 0 ≤ 7 := I.1 7 (by decide) 0
  have hl11 : C 31 0 ≤ 6 := I.1 11 (by decide) 0
  have hl13 : C 33 0 ≤ 6 := I.1 13 (by decide) 0
  have hl15 : C 35 0 ≤ 8 := I.1 15 (by decide) 0
  have hl7x : C 7 0 ≤ 150 := I.2.2.2.2.2.2.1
  refine mj_Ev.of (L0 := [some (.ref 0), some (.int (nI c)), some (.int (nI w)), none, none, none]) pnRX10 (Nat.le_of_ble_eq_true rfl) rfl ?_
  refine gj_iload_n dX10_when_0 rfl ?_
  refine gj_S1 lkX10_87 (ev_X10_isCell_t (by omega) (by omega)) dX10_when_1 rfl rfl rfl rfl rfl ?_
  refine gj_if_eqN (tgt := 14) (by omega) dX10_when_4 rfl (fun zq0 => ?_) (fun zq0 => ?_)
  · exfalso; revert zq0; decide
  refine gj_iload_n dX10_when_7 rfl ?_
  refine gj_S1 lkX10_211 (ev_X10_isBorne_t (by omega) (by omega)) dX10_when_8 rfl rfl rfl rfl rfl ?_
  refine gj_if_neN (tgt := 19) (by omega) dX10_when_11 rfl (fun zq0 => ?_) (fun zq0 => ?_)
  rotate_left
  · exfalso; revert zq0; decide
  refine gj_aload_n dX10_when_19 rfl ?_
  refine gfX10_10 rfl dX10_when_20 (hc0 κ C) rfl ?_
  refine gfX10_91 rfl dX10_when_23 (hc20 κ C) rfl ?_
  refine gj_iload_n dX10_when_26 rfl ?_
  refine gj_V1 lkX10_94 (hc21 κ C) rfl rfl (ev_X4_kindOf ⟨(hc21 κ C), (hc22 κ C), (hc23 κ C), (by decide), (show ∀ c, C 22 c ≤ 5 from I.1 2 (by decide)), (show ∀ c, C 23 c ≤ 99 from I.1 3 (by decide))⟩ (by omega)) dX10_when_27 rfl rfl rfl rfl rfl ?_
  have hb1 := (show ∀ c, C 22 c ≤ 5 from I.1 2 (by decide)) c
  refine gj_istore_n (L' := [some (.ref 0), some (.int (nI c)), some (.int (nI w)), some (.int (nI (C 22 c))), none, none]) dX10_when_30 (Nat.le_of_ble_eq_true rfl) rfl ?_
  refine gj_aload_n dX10_when_31 rfl ?_
  refine gfX10_10 rfl dX10_when_32 (hc0 κ C) rfl ?_
  refine gfX10_91 rfl dX10_when_35 (hc20 κ C) rfl ?_
  refine gj_iload_n dX10_when_38 rfl ?_
  refine gj_V1 lkX10_164 (hc21 κ C) rfl rfl (ev_X4_iceOf ⟨(hc21 κ C), (hc22 κ C), (hc23 κ C), (by decide), (show ∀ c, C 22 c ≤ 5 from I.1 2 (by decide)), (show ∀ c, C 23 c ≤ 99 from I.1 3 (by decide))⟩ (by omega)) dX10_when_39 rfl rfl rfl rfl rfl ?_
  have hb2 := (show ∀ c, C 23 c ≤ 99 from I.1 3 (by decide)) c
  refine gj_istore (L' := [some (.ref 0), some (.int (nI c)), some (.int (nI w)), some (.int (nI (C 22 c))), some (.int (nI (C 23 c))), none]) dX10_when_42 (Nat.le_of_ble_eq_true rfl) rfl ?_
  refine gj_ic (w := 0) dX10_when_44 ?_
  refine gj_istore (L' := [some (.ref 0), some (.int (nI c)), some (.int (nI w)), some (.int (nI (C 22 c))), some (.int (nI (C 23 c))), some (.int (nI 0))]) dX10_when_45 (Nat.le_of_ble_eq_true rfl) rfl ?_
  refine gj_cast (L' := [some (.ref 0), some (.int (nI c)), some (.int (nI w)), some (.int (nI (C 22 c))), some (.int (nI (sp_icem (C 22 c) (C 25) (C 26) (C 20 0) (C 23 c) 0))), some (.int (nI 0))]) (st' := []) (h' := (hh κ C)) rfl rfl rfl ?_
  refine gj_loopI (fun j => ∀ i, i < j → (sp_wh (C 22 c) (C 25) (C 26) (C 20 0) (C 23 c) w) i = false) (fun j => [some (.ref 0), some (.int (nI c)), some (.int (nI w)), some (.int (nI (C 22 c))), some (.int (nI (sp_icem (C 22 c) (C 25) (C 26) (C 20 0) (C 23 c) j))), some (.int (nI j))]) (fun j => (hh κ C)) 61 (fun hq => ?_) (fun j hj hq ih => ?_) 0 (by omega) (fun i hi => absurd hi (Nat.not_lt_zero _))
  · show gj _ _ _ _ _ _ [some (.ref 0), some (.int (nI c)), some (.int (nI w)), some (.int (nI (C 22 c))), some (.int (nI (sp_icem (C 22 c) (C 25) (C 26) (C 20 0) (C 23 c) 61))), some (.int (nI 61))] _ _
    refine gj_iload dX10_when_47 rfl ?_
    refine gj_bp 60 dX10_when_49 (by decide) ?_
    refine gj_icmp_gtN (tgt := 98) (by omega) (by omega) dX10_when_51 rfl (fun zq0 => ?_) (fun zq0 => ?_)
    rotate_left
    · exfalso; omega
    refine gj_iconst (v := (-1)) dX10_when_98 (by decide) ?_
    refine gj_top (y := nI 4294967295) (by decide) ?_
    exact gj_ir rfl dX10_when_99 rfl (congrArg nI (by unfold sp_or; rw [sp_fst_none (p := sp_wh (C 22 c) (C 25) (C 26) (C 20 0) (C 23 c) w) hq, if_neg (Nat.lt_irrefl 61)])) rfl
  show gj _ _ _ _ _ _ [some (.ref 0), some (.int (nI c)), some (.int (nI w)), some (.int (nI (C 22 c))), some (.int (nI (sp_icem (C 22 c) (C 25) (C 26) (C 20 0) (C 23 c) j))), some (.int (nI j))] _ _
  refine gj_iload dX10_when_47 rfl ?_
  refine gj_bp 60 dX10_when_49 (by decide) ?_
  refine gj_icmp_gtN (tgt := 98) (by omega) (by omega) dX10_when_51 rfl (fun zq3 => ?_) (fun zq3 => ?_)
  · exfalso; omega
  have hi9 := @sp_icem_le (C 22 c) (C 25) (C 26) (C 20 0) (C 23 c) j ((show ∀ c, C 23 c ≤ 99 from I.1 3 (by decide)) c)
  refine gj_iload_n dX10_when_54 rfl ?_
  refine gj_iload dX10_when_55 rfl ?_
  refine gj_S1 lkX10_207 (ev_X0_bears (by omega) (by omega)) dX10_when_57 rfl rfl rfl rfl rfl ?_
  have hb4 := @sp_bear_le (C 22 c) (sp_icem (C 22 c) (C 25) (C 26) (C 20 0) (C 23 c) j)
  refine gj_iload_n dX10_when_60 rfl ?_
  refine gj_icmp_ltN (tgt := 67) (by omega) (by omega) dX10_when_61 rfl (fun zq5 => ?_) (fun zq5 => ?_)
  · -- 61 taken
    have hn9 : sp_wh (C 22 c) (C 25) (C 26) (C 20 0) (C 23 c) w j = false := decide_eq_false (Nat.not_le.mpr zq5)
    refine gj_aload_n dX10_when_67 rfl ?_
    refine gfX10_10 rfl dX10_when_68 (hc0 κ C) rfl ?_
    refine gfX10_114 rfl dX10_when_71 (hc20 κ C) rfl ?_
    refine gj_iload_n dX10_when_74 rfl ?_
    refine gj_iload dX10_when_75 rfl ?_
    refine gj_aload_n dX10_when_77 rfl ?_
    refine gfX10_10 rfl dX10_when_78 (hc0 κ C) rfl ?_
    refine gfX10_184 rfl dX10_when_81 (hc20 κ C) rfl ?_
    refine gj_iload dX10_when_84 rfl ?_
    refine gj_iaddN  dX10_when_86 ?_
    refine gj_V1 lkX10_214 (hc24 κ C) rfl rfl (ev_X9_iceAfter ⟨(hc24 κ C), (hc25 κ C), (hc26 κ C), (by decide), (show ∀ c, C 25 c ≤ 9 from I.1 5 (by decide)), (show ∀ c, C 26 c ≤ 9 from I.1 6 (by decide))⟩ (by omega) (by omega) (by omega)) dX10_when_87 rfl rfl rfl rfl rfl ?_
    have hb6 := @sp_after_le (C 22 c) (sp_icem (C 22 c) (C 25) (C 26) (C 20 0) (C 23 c) j) (C 25 (((C 20 0) + j) % 7)) (C 26 (((C 20 0) + j) % 7))
    refine gj_istore (L' := [some (.ref 0), some (.int (nI c)), some (.int (nI w)), some (.int (nI (C 22 c))), some (.int (nI (sp_after (C 22 c) (sp_icem (C 22 c) (C 25) (C 26) (C 20 0) (C 23 c) j) (C 25 (((C 20 0) + j) % 7)) (C 26 (((C 20 0) + j) % 7))))), some (.int (nI j))]) dX10_when_90 (Nat.le_of_ble_eq_true rfl) rfl ?_
    refine gj_iincN (L' := [some (.ref 0), some (.int (nI c)), some (.int (nI w)), some (.int (nI (C 22 c))), some (.int (nI (sp_after (C 22 c) (sp_icem (C 22 c) (C 25) (C 26) (C 20 0) (C 23 c) j) (C 25 (((C 20 0) + j) % 7)) (C 26 (((C 20 0) + j) % 7))))), some (.int (nI (j + 1)))]) dX10_when_92 rfl (Nat.le_of_ble_eq_true rfl) rfl ?_
    refine gj_goto (tgt := 47) dX10_when_95 rfl ?_
    exact gj_cast rfl rfl rfl (ih (fun i hi => by by_cases q : i = j <;> first | (subst q; exact hn9) | exact hq i (by omega)))
  have hp9 : sp_wh (C 22 c) (C 25) (C 26) (C 20 0) (C 23 c) w j = true := decide_eq_true zq5
  refine gj_iload dX10_when_64 rfl ?_
  exact gj_ir rfl dX10_when_66 rfl (congrArg nI (by unfold sp_or; rw [sp_fst_at (p := sp_wh (C 22 c) (C 25) (C 26) (C 20 0) (C 23 c) w) hj hp9 hq, if_pos hj])) rfl
set_option maxHeartbeats 1000000 in
set_option maxRecDepth 10000 in
theorem ev_X10_where {E : mj_E} {κ : Nat → Bool} {C : Nat → Nat → Nat} (I : mj_CI κ C) {w m : Nat} (h0 : 1 ≤ w) (h1 : w ≤ 198) (h2 : m ≤ 60) : mj_Ev E iX10_where [.ref 0, .int (nI w), .int (nI m)] (hh κ C) (mj_R (some (.int (nI (sp_open (C 22) (sp_days (C 22) (C 25) (C 26) (C 20 0) (C 23) m) w)))) (hh κ (mj_u (mj_u C 2 (C 22)) 3 (sp_days (C 22) (C 25) (C 26) (C 20 0) (C 23) m)))) := by
  have hl0 : C 20 0 ≤ 999 := I.1 0 (by decide) 0
  have hl7 : C 27 0 ≤ 7 := I.1 7 (by decide) 0
  have hl11 : C 31 0 ≤ 6 := I.1 11 (by decide) 0
  have hl13 : C 33 0 ≤ 6 := I.1 13 (by decide) 0
  have hl15 : C 35 0 ≤ 8 := I.1 15 (by decide) 0
  have hl7x : C 7 0 ≤ 150 := I.2.2.2.2.2.2.1
  refine mj_Ev.of (L0 := [some (.ref 0), some (.int (nI w)), some (.int (nI m)), none]) pnRX10 (Nat.le_of_ble_eq_true rfl) rfl ?_
  refine gj_iload_n dX10_where_0 rfl ?_
  refine gj_S1 lkX10_211 (ev_X10_isBorne_t (by omega) (by omega)) dX10_where_1 rfl rfl rfl rfl rfl ?_
  refine gj_if_eqN (tgt := 17) (by omega) dX10_where_4 rfl (fun zq0 => ?_) (fun zq0 => ?_)
  · exfalso; revert zq0; decide
  refine gj_iload_n dX10_where_7 rfl ?_
  refine gj_ic (w := 0) dX10_where_8 ?_
  refine gj_bp 60 dX10_where_9 (by decide) ?_
  refine gj_S1 lkX10_65 (ev_X10_within_t (by omega) (by omega) (by omega)) dX10_where_11 rfl rfl rfl rfl rfl ?_
  refine gj_if_neN (tgt := 22) (by omega) dX10_where_14 rfl (fun zq0 => ?_) (fun zq0 => ?_)
  rotate_left
  · exfalso; revert zq0; decide
  refine gj_aload_n dX10_where_22 rfl ?_
  refine gfX10_26 rfl dX10_where_23 (hc0 κ C) rfl ?_
  refine gj_aload_n dX10_where_26 rfl ?_
  refine gfX10_10 rfl dX10_where_27 (hc0 κ C) rfl ?_
  refine gfX10_91 rfl dX10_where_30 (hc20 κ C) rfl ?_
  refine gj_V0 lkX10_218 (hc1 κ C) rfl rfl (ev_X4_copy ⟨(hc1 κ C), (hc2 κ C), (hc3 κ C), (by decide), I.2.2.2.2.1, I.2.2.2.2.2.1⟩ ⟨(hc21 κ C), (hc22 κ C), (hc23 κ C), (by decide), (show ∀ c, C 22 c ≤ 5 from I.1 2 (by decide)), (show ∀ c, C 23 c ≤ 99 from I.1 3 (by decide))⟩ (by decide)) dX10_where_33 rfl rfl rfl rfl rfl ?_
  refine gj_ic (w := 0) dX10_where_36 ?_
  refine gj_istore_n (L' := [some (.ref 0), some (.int (nI w)), some (.int (nI m)), some (.int (nI 0))]) dX10_where_37 (Nat.le_of_ble_eq_true rfl) rfl ?_
  refine gj_cast (L' := [some (.ref 0), some (.int (nI w)), some (.int (nI m)), some (.int (nI 0))]) (st' := []) (h' := mj_up (mj_up (hh κ C) 2 (mj_ar 25 (C 22))) 3 (mj_ar 25 (sp_days (C 22) (C 25) (C 26) (C 20 0) (C 23) 0))) rfl rfl rfl ?_
  refine gj_loop (fun j => [some (.ref 0), some (.int (nI w)), some (.int (nI m)), some (.int (nI j))]) (fun j => mj_up (mj_up (hh κ C) 2 (mj_ar 25 (C 22))) 3 (mj_ar 25 (sp_days (C 22) (C 25) (C 26) (C 20 0) (C 23) j))) m ?_ (fun j hj ih => ?_) 0 (by omega)
  · show gj _ _ _ _ _ _ [some (.ref 0), some (.int (nI w)), some (.int (nI m)), some (.int (nI m))] _ _
    refine gj_iload_n dX10_where_38 rfl ?_
    refine gj_iload_n dX10_where_39 rfl ?_
    refine gj_icmp_geN (tgt := 94) (by omega) (by omega) dX10_where_40 rfl (fun zq1 => ?_) (fun zq1 => ?_)
    rotate_left
    · exfalso; omega
    refine gj_aload_n dX10_where_94 rfl ?_
    refine gfX10_26 rfl dX10_where_95 ((mj_up_ne (by decide)).trans ((mj_up_ne (by decide)).trans (hc0 κ C))) rfl ?_
    refine gj_iload_n dX10_where_98 rfl ?_
    refine gj_V1 lkX10_224 ((mj_up_ne (by decide)).trans ((mj_up_ne (by decide)).trans (hc1 κ C))) rfl rfl (ev_X4_bearing ⟨((mj_up_ne (by decide)).trans ((mj_up_ne (by decide)).trans (hc1 κ C))), ((mj_up_ne (by decide)).trans (mj_up_eq _ _ _)), (mj_up_eq _ _ _), (by decide), (show ∀ c, C 22 c ≤ 5 from I.1 2 (by decide)), (show ∀ c, (sp_days (C 22) (C 25) (C 26) (C 20 0) (C 23) m) c ≤ 99 from fun c => sp_icem_le ((show ∀ c, C 23 c ≤ 99 from I.1 3 (by decide)) c))⟩ (by omega)) dX10_where_99 rfl rfl rfl rfl rfl ?_
    have hb2 := @sp_open_lt (C 22) (sp_days (C 22) (C 25) (C 26) (C 20 0) (C 23) m) w
    exact gj_ir rfl dX10_where_102 rfl rfl (hh_s (hh_s rfl rfl) rfl)
  show gj _ _ _ _ _ _ [some (.ref 0), some (.int (nI w)), some (.int (nI m)), some (.int (nI j))] _ _
  refine gj_iload_n dX10_where_38 rfl ?_
  refine gj_iload_n dX10_where_39 rfl ?_
  refine gj_icmp_geN (tgt := 94) (by omega) (by omega) dX10_where_40 rfl (fun zq3 => ?_) (fun zq3 => ?_)
  · exfalso; omega
  refine gj_aload_n dX10_where_43 rfl ?_
  refine gfX10_26 rfl dX10_where_44 ((mj_up_ne (by decide)).trans ((mj_up_ne (by decide)).trans (hc0 κ C))) rfl ?_
  refine gj_aload_n dX10_where_47 rfl ?_
  refine gfX10_10 rfl dX10_where_48 ((mj_up_ne (by decide)).trans ((mj_up_ne (by decide)).trans (hc0 κ C))) rfl ?_
  refine gfX10_114 rfl dX10_where_51 ((mj_up_ne (by decide)).trans ((mj_up_ne (by decide)).trans (hc20 κ C))) rfl ?_
  refine gj_aload_n dX10_where_54 rfl ?_
  refine gfX10_10 rfl dX10_where_55 ((mj_up_ne (by decide)).trans ((mj_up_ne (by decide)).trans (hc0 κ C))) rfl ?_
  refine gfX10_184 rfl dX10_where_58 ((mj_up_ne (by decide)).trans ((mj_up_ne (by decide)).trans (hc20 κ C))) rfl ?_
  refine gj_iload_n dX10_where_61 rfl ?_
  refine gj_iaddN  dX10_where_62 ?_
  refine gj_V1 lkX10_118 ((mj_up_ne (by decide)).trans ((mj_up_ne (by decide)).trans (hc24 κ C))) rfl rfl (ev_X9_frostOn ⟨((mj_up_ne (by decide)).trans ((mj_up_ne (by decide)).trans (hc24 κ C))), ((mj_up_ne (by decide)).trans ((mj_up_ne (by decide)).trans (hc25 κ C))), ((mj_up_ne (by decide)).trans ((mj_up_ne (by decide)).trans (hc26 κ C))), (by decide), (show ∀ c, C 25 c ≤ 9 from I.1 5 (by decide)), (show ∀ c, C 26 c ≤ 9 from I.1 6 (by decide))⟩ (by omega)) dX10_where_63 rfl rfl rfl rfl rfl ?_
  have hb4 := (show ∀ c, C 25 c ≤ 9 from I.1 5 (by decide)) (((C 20 0) + j) % 7)
  refine gj_aload_n dX10_where_66 rfl ?_
  refine gfX10_10 rfl dX10_where_67 ((mj_up_ne (by decide)).trans ((mj_up_ne (by decide)).trans (hc0 κ C))) rfl ?_
  refine gfX10_114 rfl dX10_where_70 ((mj_up_ne (by decide)).trans ((mj_up_ne (by decide)).trans (hc20 κ C))) rfl ?_
  refine gj_aload_n dX10_where_73 rfl ?_
  refine gfX10_10 rfl dX10_where_74 ((mj_up_ne (by decide)).trans ((mj_up_ne (by decide)).trans (hc0 κ C))) rfl ?_
  refine gfX10_184 rfl dX10_where_77 ((mj_up_ne (by decide)).trans ((mj_up_ne (by decide)).trans (hc20 κ C))) rfl ?_
  refine gj_iload_n dX10_where_80 rfl ?_
  refine gj_iaddN  dX10_where_81 ?_
  refine gj_V1 lkX10_123 ((mj_up_ne (by decide)).trans ((mj_up_ne (by decide)).trans (hc24 κ C))) rfl rfl (ev_X9_sunOn ⟨((mj_up_ne (by decide)).trans ((mj_up_ne (by decide)).trans (hc24 κ C))), ((mj_up_ne (by decide)).trans ((mj_up_ne (by decide)).trans (hc25 κ C))), ((mj_up_ne (by decide)).trans ((mj_up_ne (by decide)).trans (hc26 κ C))), (by decide), (show ∀ c, C 25 c ≤ 9 from I.1 5 (by decide)), (show ∀ c, C 26 c ≤ 9 from I.1 6 (by decide))⟩ (by omega)) dX10_where_82 rfl rfl rfl rfl rfl ?_
  have hb5 := (show ∀ c, C 26 c ≤ 9 from I.1 6 (by decide)) (((C 20 0) + j) % 7)
  refine gj_V0 lkX10_221 ((mj_up_ne (by decide)).trans ((mj_up_ne (by decide)).trans (hc1 κ C))) rfl rfl (ev_X4_passDay ⟨((mj_up_ne (by decide)).trans ((mj_up_ne (by decide)).trans (hc1 κ C))), ((mj_up_ne (by decide)).trans (mj_up_eq _ _ _)), (mj_up_eq _ _ _), (by decide), (show ∀ c, C 22 c ≤ 5 from I.1 2 (by decide)), (show ∀ c, (sp_days (C 22) (C 25) (C 26) (C 20 0) (C 23) j) c ≤ 99 from fun c => sp_icem_le ((show ∀ c, C 23 c ≤ 99 from I.1 3 (by decide)) c))⟩ (by omega) (by omega)) dX10_where_85 rfl rfl rfl rfl rfl ?_
  refine gj_iincN (L' := [some (.ref 0), some (.int (nI w)), some (.int (nI m)), some (.int (nI (j + 1)))]) dX10_where_88 rfl (Nat.le_of_ble_eq_true rfl) rfl ?_
  refine gj_goto (tgt := 38) dX10_where_91 rfl ?_
  exact gj_cast rfl rfl (by rw [mj_up_up]; rfl) ih
set_option maxHeartbeats 1000000 in
set_option maxRecDepth 10000 in
theorem ev_X10_horses {E : mj_E} {κ : Nat → Bool} {C : Nat → Nat → Nat} (I : mj_CI κ C) {w : Nat} (h0 : 1 ≤ w) (h1 : w ≤ 198) : mj_Ev E iX10_horses [.ref 0, .int (nI w)] (hh κ C) (mj_R (some (.int (nI (sp_or 61 (sp_fst (sp_hp (C 22) (C 25) (C 26) (C 20 0) (C 23) w) 61))))) (hh κ (mj_u (mj_u C 2 (C 22)) 3 (sp_days (C 22) (C 25) (C 26) (C 20 0) (C 23) (sp_fst (sp_hp (C 22) (C 25) (C 26) (C 20 0) (C 23) w) 61))))) := by
  have hl0 : C 20 0 ≤ 999 := I.1 0 (by decide) 0
  have hl7 : C 27 0 ≤ 7 := I.1 7 (by decide) 0
  have hl11 : C 31 0 ≤ 6 := I.1 11 (by decide) 0
  have hl13 : C 33 0 ≤ 6 := I.1 13 (by decide) 0
  have hl15 : C 35 0 ≤ 8 := I.1 15 (by decide) 0
  have hl7x : C 7 0 ≤ 150 := I.2.2.2.2.2.2.1
  refine mj_Ev.of (L0 := [some (.ref 0), some (.int (nI w)), none]) pnRX10 (Nat.le_of_ble_eq_true rfl) rfl ?_
  refine gj_iload_n dX10_horses_0 rfl ?_
  refine gj_S1 lkX10_211 (ev_X10_isBorne_t (by omega) (by omega)) dX10_horses_1 rfl rfl rfl rfl rfl ?_
  refine gj_if_neN (tgt := 12) (by omega) dX10_horses_4 rfl (fun zq0 => ?_) (fun zq0 => ?_)
  rotate_left
  · exfalso; revert zq0; decide
  refine gj_aload_n dX10_horses_12 rfl ?_
  refine gfX10_26 rfl dX10_horses_13 (hc0 κ C) rfl ?_
  refine gj_aload_n dX10_horses_16 rfl ?_
  refine gfX10_10 rfl dX10_horses_17 (hc0 κ C) rfl ?_
  refine gfX10_91 rfl dX10_horses_20 (hc20 κ C) rfl ?_
  refine gj_V0 lkX10_218 (hc1 κ C) rfl rfl (ev_X4_copy ⟨(hc1 κ C), (hc2 κ C), (hc3 κ C), (by decide), I.2.2.2.2.1, I.2.2.2.2.2.1⟩ ⟨(hc21 κ C), (hc22 κ C), (hc23 κ C), (by decide), (show ∀ c, C 22 c ≤ 5 from I.1 2 (by decide)), (show ∀ c, C 23 c ≤ 99 from I.1 3 (by decide))⟩ (by decide)) dX10_horses_23 rfl rfl rfl rfl rfl ?_
  refine gj_ic (w := 0) dX10_horses_26 ?_
  refine gj_istore_n (L' := [some (.ref 0), some (.int (nI w)), some (.int (nI 0))]) dX10_horses_27 (Nat.le_of_ble_eq_true rfl) rfl ?_
  refine gj_cast (L' := [some (.ref 0), some (.int (nI w)), some (.int (nI 0))]) (st' := []) (h' := mj_up (mj_up (hh κ C) 2 (mj_ar 25 (C 22))) 3 (mj_ar 25 (sp_days (C 22) (C 25) (C 26) (C 20 0) (C 23) 0))) rfl rfl rfl ?_
  refine gj_loopI (fun j => ∀ i, i < j → (sp_hp (C 22) (C 25) (C 26) (C 20 0) (C 23) w) i = false) (fun j => [some (.ref 0), some (.int (nI w)), some (.int (nI j))]) (fun j => mj_up (mj_up (hh κ C) 2 (mj_ar 25 (C 22))) 3 (mj_ar 25 (sp_days (C 22) (C 25) (C 26) (C 20 0) (C 23) j))) 61 (fun hq => ?_) (fun j hj hq ih => ?_) 0 (by omega) (fun i hi => absurd hi (Nat.not_lt_zero _))
  · show gj _ _ _ _ _ _ [some (.ref 0), some (.int (nI w)), some (.int (nI 61))] _ _
    refine gj_iload_n dX10_horses_28 rfl ?_
    refine gj_bp 60 dX10_horses_29 (by decide) ?_
    refine gj_icmp_gtN (tgt := 101) (by omega) (by omega) dX10_horses_31 rfl (fun zq0 => ?_) (fun zq0 => ?_)
    rotate_left
    · exfalso; omega
    refine gj_iconst (v := (-1)) dX10_horses_101 (by decide) ?_
    refine gj_top (y := nI 4294967295) (by decide) ?_
    exact gj_ir rfl dX10_horses_102 rfl (congrArg nI (by unfold sp_or; rw [sp_fst_none (p := sp_hp (C 22) (C 25) (C 26) (C 20 0) (C 23) w) hq, if_neg (Nat.lt_irrefl 61)])) (by rw [sp_fst_none (p := sp_hp (C 22) (C 25) (C 26) (C 20 0) (C 23) w) hq]; exact hh_s (hh_s rfl rfl) rfl)
  show gj _ _ _ _ _ _ [some (.ref 0), some (.int (nI w)), some (.int (nI j))] _ _
  refine gj_iload_n dX10_horses_28 rfl ?_
  refine gj_bp 60 dX10_horses_29 (by decide) ?_
  refine gj_icmp_gtN (tgt := 101) (by omega) (by omega) dX10_horses_31 rfl (fun zq1 => ?_) (fun zq1 => ?_)
  · exfalso; omega
  have hs9 := @sp_sum_le (fun c => sp_bear (C 22 c) (sp_days (C 22) (C 25) (C 26) (C 20 0) (C 23) j c)) 25 198 (mj_bear2 (fun c => sp_icem_le ((show ∀ c, C 23 c ≤ 99 from I.1 3 (by decide)) c)))
  refine gj_aload_n dX10_horses_34 rfl ?_
  refine gfX10_26 rfl dX10_horses_35 ((mj_up_ne (by decide)).trans ((mj_up_ne (by decide)).trans (hc0 κ C))) rfl ?_
  refine gj_V1 lkX10_227 ((mj_up_ne (by decide)).trans ((mj_up_ne (by decide)).trans (hc1 κ C))) rfl rfl (ev_X4_bearsTogether ⟨((mj_up_ne (by decide)).trans ((mj_up_ne (by decide)).trans (hc1 κ C))), ((mj_up_ne (by decide)).trans (mj_up_eq _ _ _)), (mj_up_eq _ _ _), (by decide), (show ∀ c, C 22 c ≤ 5 from I.1 2 (by decide)), (show ∀ c, (sp_days (C 22) (C 25) (C 26) (C 20 0) (C 23) j) c ≤ 99 from fun c => sp_icem_le ((show ∀ c, C 23 c ≤ 99 from I.1 3 (by decide)) c))⟩) dX10_horses_38 rfl rfl rfl rfl rfl ?_
  refine gj_bp 25 dX10_horses_41 (by decide) ?_
  refine gj_iload_n dX10_horses_43 rfl ?_
  refine gj_imulN  dX10_horses_44 ?_
  refine gj_icmp_ltN (tgt := 50) (by omega) (by omega) dX10_horses_45 rfl (fun zq2 => ?_) (fun zq2 => ?_)
  · -- 45 taken
    have hn9 : sp_hp (C 22) (C 25) (C 26) (C 20 0) (C 23) w j = false := decide_eq_false (Nat.not_le.mpr zq2)
    refine gj_aload_n dX10_horses_50 rfl ?_
    refine gfX10_26 rfl dX10_horses_51 ((mj_up_ne (by decide)).trans ((mj_up_ne (by decide)).trans (hc0 κ C))) rfl ?_
    refine gj_aload_n dX10_horses_54 rfl ?_
    refine gfX10_10 rfl dX10_horses_55 ((mj_up_ne (by decide)).trans ((mj_up_ne (by decide)).trans (hc0 κ C))) rfl ?_
    refine gfX10_114 rfl dX10_horses_58 ((mj_up_ne (by decide)).trans ((mj_up_ne (by decide)).trans (hc20 κ C))) rfl ?_
    refine gj_aload_n dX10_horses_61 rfl ?_
    refine gfX10_10 rfl dX10_horses_62 ((mj_up_ne (by decide)).trans ((mj_up_ne (by decide)).trans (hc0 κ C))) rfl ?_
    refine gfX10_184 rfl dX10_horses_65 ((mj_up_ne (by decide)).trans ((mj_up_ne (by decide)).trans (hc20 κ C))) rfl ?_
    refine gj_iload_n dX10_horses_68 rfl ?_
    refine gj_iaddN  dX10_horses_69 ?_
    refine gj_V1 lkX10_118 ((mj_up_ne (by decide)).trans ((mj_up_ne (by decide)).trans (hc24 κ C))) rfl rfl (ev_X9_frostOn ⟨((mj_up_ne (by decide)).trans ((mj_up_ne (by decide)).trans (hc24 κ C))), ((mj_up_ne (by decide)).trans ((mj_up_ne (by decide)).trans (hc25 κ C))), ((mj_up_ne (by decide)).trans ((mj_up_ne (by decide)).trans (hc26 κ C))), (by decide), (show ∀ c, C 25 c ≤ 9 from I.1 5 (by decide)), (show ∀ c, C 26 c ≤ 9 from I.1 6 (by decide))⟩ (by omega)) dX10_horses_70 rfl rfl rfl rfl rfl ?_
    have hb3 := (show ∀ c, C 25 c ≤ 9 from I.1 5 (by decide)) (((C 20 0) + j) % 7)
    refine gj_aload_n dX10_horses_73 rfl ?_
    refine gfX10_10 rfl dX10_horses_74 ((mj_up_ne (by decide)).trans ((mj_up_ne (by decide)).trans (hc0 κ C))) rfl ?_
    refine gfX10_114 rfl dX10_horses_77 ((mj_up_ne (by decide)).trans ((mj_up_ne (by decide)).trans (hc20 κ C))) rfl ?_
    refine gj_aload_n dX10_horses_80 rfl ?_
    refine gfX10_10 rfl dX10_horses_81 ((mj_up_ne (by decide)).trans ((mj_up_ne (by decide)).trans (hc0 κ C))) rfl ?_
    refine gfX10_184 rfl dX10_horses_84 ((mj_up_ne (by decide)).trans ((mj_up_ne (by decide)).trans (hc20 κ C))) rfl ?_
    refine gj_iload_n dX10_horses_87 rfl ?_
    refine gj_iaddN  dX10_horses_88 ?_
    refine gj_V1 lkX10_123 ((mj_up_ne (by decide)).trans ((mj_up_ne (by decide)).trans (hc24 κ C))) rfl rfl (ev_X9_sunOn ⟨((mj_up_ne (by decide)).trans ((mj_up_ne (by decide)).trans (hc24 κ C))), ((mj_up_ne (by decide)).trans ((mj_up_ne (by decide)).trans (hc25 κ C))), ((mj_up_ne (by decide)).trans ((mj_up_ne (by decide)).trans (hc26 κ C))), (by decide), (show ∀ c, C 25 c ≤ 9 from I.1 5 (by decide)), (show ∀ c, C 26 c ≤ 9 from I.1 6 (by decide))⟩ (by omega)) dX10_horses_89 rfl rfl rfl rfl rfl ?_
    have hb4 := (show ∀ c, C 26 c ≤ 9 from I.1 6 (by decide)) (((C 20 0) + j) % 7)
    refine gj_V0 lkX10_221 ((mj_up_ne (by decide)).trans ((mj_up_ne (by decide)).trans (hc1 κ C))) rfl rfl (ev_X4_passDay ⟨((mj_up_ne (by decide)).trans ((mj_up_ne (by decide)).trans (hc1 κ C))), ((mj_up_ne (by decide)).trans (mj_up_eq _ _ _)), (mj_up_eq _ _ _), (by decide), (show ∀ c, C 22 c ≤ 5 from I.1 2 (by decide)), (show ∀ c, (sp_days (C 22) (C 25) (C 26) (C 20 0) (C 23) j) c ≤ 99 from fun c => sp_icem_le ((show ∀ c, C 23 c ≤ 99 from I.1 3 (by decide)) c))⟩ (by omega) (by omega)) dX10_horses_92 rfl rfl rfl rfl rfl ?_
    refine gj_iincN (L' := [some (.ref 0), some (.int (nI w)), some (.int (nI (j + 1)))]) dX10_horses_95 rfl (Nat.le_of_ble_eq_true rfl) rfl ?_
    refine gj_goto (tgt := 28) dX10_horses_98 rfl ?_
    exact gj_cast rfl rfl (by rw [mj_up_up]; rfl) (ih (fun i hi => by by_cases q : i = j <;> first | (subst q; exact hn9) | exact hq i (by omega)))
  have hp9 : sp_hp (C 22) (C 25) (C 26) (C 20 0) (C 23) w j = true := decide_eq_true zq2
  refine gj_iload_n dX10_horses_48 rfl ?_
  exact gj_ir rfl dX10_horses_49 rfl (congrArg nI (by unfold sp_or; rw [sp_fst_at (p := sp_hp (C 22) (C 25) (C 26) (C 20 0) (C 23) w) hj hp9 hq, if_pos hj])) (by rw [sp_fst_at (p := sp_hp (C 22) (C 25) (C 26) (C 20 0) (C 23) w) hj hp9 hq]; exact hh_s (hh_s rfl rfl) rfl)
def sp_sfs (K I : Nat → Nat) (a c : Nat) (j m : Nat) : Nat := if m + 128 / 2 ^ j ≤ 198 then (if sp_jn (sp_open K I (m + 128 / 2 ^ j)) a c then m + 128 / 2 ^ j else m) else m
def sp_safe (K I : Nat → Nat) (a c : Nat) (n : Nat) : Nat := mj_fo (sp_sfs K I a c) 0 n
theorem sp_safe_s {K I : Nat → Nat} {a c n : Nat} : sp_safe K I a c (n + 1) = sp_sfs K I a c n (sp_safe K I a c n) := rfl
theorem sp_safe_le {K I : Nat → Nat} {a c n : Nat} : sp_safe K I a c n ≤ 198 := by
  induction n with
  | zero => exact Nat.zero_le _
  | succ n ih => rw [sp_safe_s]; unfold sp_sfs; split <;> (try split) <;> omega
theorem mj_bit {j : Nat} (h : j < 8) : 1 ≤ 128 / 2 ^ j ∧ 128 / 2 ^ j ≤ 128 := by
  have : ∀ j, j < 8 → 1 ≤ 128 / 2 ^ j ∧ 128 / 2 ^ j ≤ 128 := by decide +kernel
  exact this j h
theorem mj_bit_s (j : Nat) : 128 / 2 ^ j / 2 = 128 / 2 ^ (j + 1) := by rw [Nat.div_div_eq_div_mul, ← Nat.pow_succ]
set_option maxHeartbeats 1000000 in
set_option maxRecDepth 10000 in
theorem ev_X10_safe {E : mj_E} {κ : Nat → Bool} {C : Nat → Nat → Nat} (I : mj_CI κ C) {a c : Nat} (h0 : a < 25) (h1 : c < 25) : mj_Ev E iX10_safe [.ref 0, .int (nI a), .int (nI c)] (hh κ C) (mj_R (some (.int (nI (sp_safe (C 22) (C 23) a c 8)))) (hh κ C)) := by
  have hl0 : C 20 0 ≤ 999 := I.1 0 (by decide) 0
  have hl7 : C 27 0 ≤ 7 := I.1 7 (by decide) 0
  have hl11 : C 31 0 ≤ 6 := I.1 11 (by decide) 0
  have hl13 : C 33 0 ≤ 6 := I.1 13 (by decide) 0
  have hl15 : C 35 0 ≤ 8 := I.1 15 (by decide) 0
  have hl7x : C 7 0 ≤ 150 := I.2.2.2.2.2.2.1
  refine mj_Ev.of (L0 := [some (.ref 0), some (.int (nI a)), some (.int (nI c)), none, none, none]) pnRX10 (Nat.le_of_ble_eq_true rfl) rfl ?_
  refine gj_iload_n dX10_safe_0 rfl ?_
  refine gj_S1 lkX10_87 (ev_X10_isCell_t (by omega) (by omega)) dX10_safe_1 rfl rfl rfl rfl rfl ?_
  refine gj_if_eqN (tgt := 14) (by omega) dX10_safe_4 rfl (fun zq0 => ?_) (fun zq0 => ?_)
  · exfalso; revert zq0; decide
  refine gj_iload_n dX10_safe_7 rfl ?_
  refine gj_S1 lkX10_87 (ev_X10_isCell_t (by omega) (by omega)) dX10_safe_8 rfl rfl rfl rfl rfl ?_
  refine gj_if_neN (tgt := 19) (by omega) dX10_safe_11 rfl (fun zq0 => ?_) (fun zq0 => ?_)
  rotate_left
  · exfalso; revert zq0; decide
  refine gj_ic (w := 0) dX10_safe_19 ?_
  refine gj_istore_n (L' := [some (.ref 0), some (.int (nI a)), some (.int (nI c)), some (.int (nI 0)), none, none]) dX10_safe_20 (Nat.le_of_ble_eq_true rfl) rfl ?_
  refine gj_sp 128 dX10_safe_21 (by decide) ?_
  refine gj_istore (L' := [some (.ref 0), some (.int (nI a)), some (.int (nI c)), some (.int (nI 0)), some (.int (nI 128)), none]) dX10_safe_24 (Nat.le_of_ble_eq_true rfl) rfl ?_
  refine gj_cast (L' := [some (.ref 0), some (.int (nI a)), some (.int (nI c)), some (.int (nI (sp_safe (C 22) (C 23) a c 0))), some (.int (nI (128 / 2 ^ 0))), none]) (st' := []) (h' := (hh κ C)) rfl rfl rfl ?_
  refine gj_loop (fun j => [some (.ref 0), some (.int (nI a)), some (.int (nI c)), some (.int (nI (sp_safe (C 22) (C 23) a c j))), some (.int (nI (128 / 2 ^ j))), none]) (fun j => (hh κ C)) 8 ?_ (fun j hj ih => ?_) 0 (by omega)
  · show gj _ _ _ _ _ _ [some (.ref 0), some (.int (nI a)), some (.int (nI c)), some (.int (nI (sp_safe (C 22) (C 23) a c 8))), some (.int (nI (128 / 2 ^ 8))), none] _ _
    refine gj_iload dX10_safe_26 rfl ?_
    refine gj_if_leN (tgt := 77) (by first | (have := mj_bit hj; omega) | omega) dX10_safe_28 rfl (fun zq1 => ?_) (fun zq1 => ?_)
    rotate_left
    · exfalso; first | (have := mj_bit hj; omega) | omega
    refine gj_iload_n dX10_safe_77 rfl ?_
    exact gj_ir rfl dX10_safe_78 rfl rfl rfl
  show gj _ _ _ _ _ _ [some (.ref 0), some (.int (nI a)), some (.int (nI c)), some (.int (nI (sp_safe (C 22) (C 23) a c j))), some (.int (nI (128 / 2 ^ j))), none] _ _
  refine gj_iload dX10_safe_26 rfl ?_
  refine gj_if_leN (tgt := 77) (by first | (have := mj_bit hj; omega) | omega) dX10_safe_28 rfl (fun zq2 => ?_) (fun zq2 => ?_)
  · exfalso; first | (have := mj_bit hj; omega) | omega
  have hbt := mj_bit hj
  have hsf := @sp_safe_le (C 22) (C 23) a c j
  refine gj_iload_n dX10_safe_31 rfl ?_
  refine gj_iload dX10_safe_32 rfl ?_
  refine gj_iaddN  dX10_safe_34 ?_
  refine gj_istore (L' := [some (.ref 0), some (.int (nI a)), some (.int (nI c)), some (.int (nI (sp_safe (C 22) (C 23) a c j))), some (.int (nI (128 / 2 ^ j))), some (.int (nI ((sp_safe (C 22) (C 23) a c j) + (128 / 2 ^ j))))]) dX10_safe_35 (Nat.le_of_ble_eq_true rfl) rfl ?_
  refine gj_iload dX10_safe_37 rfl ?_
  refine gj_sp 198 dX10_safe_39 (by decide) ?_
  refine gj_icmp_gtN (tgt := 68) (by omega) (by omega) dX10_safe_42 rfl (fun zq3 => ?_) (fun zq3 => ?_)
  · -- 42 taken
    have hx9 := Nat.not_le.mpr zq3
    refine gj_iload dX10_safe_68 rfl ?_
    refine gj_ic (w := 2) dX10_safe_70 ?_
    refine gj_idivN (by omega) (by omega) (by omega) dX10_safe_71 ?_
    refine gj_istore (L' := [some (.ref 0), some (.int (nI a)), some (.int (nI c)), some (.int (nI (sp_safe (C 22) (C 23) a c j))), some (.int (nI ((128 / 2 ^ j) / 2))), some (.int (nI ((sp_safe (C 22) (C 23) a c j) + (128 / 2 ^ j))))]) dX10_safe_72 (Nat.le_of_ble_eq_true rfl) rfl ?_
    refine gj_goto (tgt := 26) dX10_safe_74 rfl ?_
    refine gj_forget (i := 5) (L' := [some (.ref 0), some (.int (nI a)), some (.int (nI c)), some (.int (nI (sp_safe (C 22) (C 23) a c j))), some (.int (nI ((128 / 2 ^ j) / 2))), none]) rfl ?_
    first | exact gj_cast (by rw [mj_bit_s, sp_safe_s]; unfold sp_sfs; rw [if_neg hx9]) rfl rfl ih | exact gj_cast (by rw [mj_bit_s, sp_safe_s]; unfold sp_sfs; rw [if_pos hx9, if_pos hy9]) rfl rfl ih | exact gj_cast (by rw [mj_bit_s, sp_safe_s]; unfold sp_sfs; rw [if_pos hx9, hy9]; rfl) rfl rfl ih
  have hx9 := zq3
  refine gj_aload_n dX10_safe_45 rfl ?_
  refine gfX10_10 rfl dX10_safe_46 (hc0 κ C) rfl ?_
  refine gfX10_91 rfl dX10_safe_49 (hc20 κ C) rfl ?_
  refine gj_iload dX10_safe_52 rfl ?_
  refine gj_V1 lkX10_224 (hc21 κ C) rfl rfl (ev_X4_bearing ⟨(hc21 κ C), (hc22 κ C), (hc23 κ C), (by decide), (show ∀ c, C 22 c ≤ 5 from I.1 2 (by decide)), (show ∀ c, C 23 c ≤ 99 from I.1 3 (by decide))⟩ (by omega)) dX10_safe_54 rfl rfl rfl rfl rfl ?_
  have hb4 := @sp_open_lt (C 22) (C 23) ((sp_safe (C 22) (C 23) a c j) + (128 / 2 ^ j))
  refine gj_iload_n dX10_safe_57 rfl ?_
  refine gj_iload_n dX10_safe_58 rfl ?_
  refine gj_S1 lkX10_236 (ev_X8_joined (by omega) (by omega) (by omega)) dX10_safe_59 rfl rfl rfl rfl rfl ?_
  refine gj_if_eqb (tgt := 68) dX10_safe_62 rfl (fun zq5 => ?_) (fun zq5 => ?_)
  · -- 62 taken
    have hy9 := zq5
    refine gj_iload dX10_safe_68 rfl ?_
    refine gj_ic (w := 2) dX10_safe_70 ?_
    refine gj_idivN (by omega) (by omega) (by omega) dX10_safe_71 ?_
    refine gj_istore (L' := [some (.ref 0), some (.int (nI a)), some (.int (nI c)), some (.int (nI (sp_safe (C 22) (C 23) a c j))), some (.int (nI ((128 / 2 ^ j) / 2))), some (.int (nI ((sp_safe (C 22) (C 23) a c j) + (128 / 2 ^ j))))]) dX10_safe_72 (Nat.le_of_ble_eq_true rfl) rfl ?_
    refine gj_goto (tgt := 26) dX10_safe_74 rfl ?_
    refine gj_forget (i := 5) (L' := [some (.ref 0), some (.int (nI a)), some (.int (nI c)), some (.int (nI (sp_safe (C 22) (C 23) a c j))), some (.int (nI ((128 / 2 ^ j) / 2))), none]) rfl ?_
    first | exact gj_cast (by rw [mj_bit_s, sp_safe_s]; unfold sp_sfs; rw [if_neg hx9]) rfl rfl ih | exact gj_cast (by rw [mj_bit_s, sp_safe_s]; unfold sp_sfs; rw [if_pos hx9, if_pos hy9]) rfl rfl ih | exact gj_cast (by rw [mj_bit_s, sp_safe_s]; unfold sp_sfs; rw [if_pos hx9, hy9]; rfl) rfl rfl ih
  have hy9 := zq5
  refine gj_iload dX10_safe_65 rfl ?_
  refine gj_istore_n (L' := [some (.ref 0), some (.int (nI a)), some (.int (nI c)), some (.int (nI ((sp_safe (C 22) (C 23) a c j) + (128 / 2 ^ j)))), some (.int (nI (128 / 2 ^ j))), some (.int (nI ((sp_safe (C 22) (C 23) a c j) + (128 / 2 ^ j))))]) dX10_safe_67 (Nat.le_of_ble_eq_true rfl) rfl ?_
  refine gj_iload dX10_safe_68 rfl ?_
  refine gj_ic (w := 2) dX10_safe_70 ?_
  refine gj_idivN (by omega) (by omega) (by omega) dX10_safe_71 ?_
  refine gj_istore (L' := [some (.ref 0), some (.int (nI a)), some (.int (nI c)), some (.int (nI ((sp_safe (C 22) (C 23) a c j) + (128 / 2 ^ j)))), some (.int (nI ((128 / 2 ^ j) / 2))), some (.int (nI ((sp_safe (C 22) (C 23) a c j) + (128 / 2 ^ j))))]) dX10_safe_72 (Nat.le_of_ble_eq_true rfl) rfl ?_
  refine gj_goto (tgt := 26) dX10_safe_74 rfl ?_
  refine gj_forget (i := 5) (L' := [some (.ref 0), some (.int (nI a)), some (.int (nI c)), some (.int (nI ((sp_safe (C 22) (C 23) a c j) + (128 / 2 ^ j)))), some (.int (nI ((128 / 2 ^ j) / 2))), none]) rfl ?_
  first | exact gj_cast (by rw [mj_bit_s, sp_safe_s]; unfold sp_sfs; rw [if_neg hx9]) rfl rfl ih | exact gj_cast (by rw [mj_bit_s, sp_safe_s]; unfold sp_sfs; rw [if_pos hx9, if_pos hy9]) rfl rfl ih | exact gj_cast (by rw [mj_bit_s, sp_safe_s]; unfold sp_sfs; rw [if_pos hx9, hy9]; rfl) rfl rfl ih
def sp_apn (q : Nat) : Nat := if q = 4294967295 ∨ q = 0 then q else if 992 ≤ q then 1 else 2
theorem sp_cut_or {o a c : Nat} : sp_cut o a c = 4294967295 ∨ sp_cut o a c < 1100 := by
  have h1 := @sp_fst_le (sp_c1 o a c) 25
  have h2 := @sp_fst_le (fun x => decide (sp_cy o a c x < 25)) 25
  have h3 : sp_cy o a c (sp_cx o a c) ≤ 25 := @sp_fst_le (sp_c2 o a c (sp_cx o a c)) 25
  unfold sp_cut sp_cx at *
  split
  · split
    · right; omega
    · split
      · right; omega
      · left; rfl
  · right; omega
set_option maxHeartbeats 1000000 in
set_option maxRecDepth 10000 in
theorem ev_X10_apart_1 {E : mj_E} {κ : Nat → Bool} {C : Nat → Nat → Nat} (I : mj_CI κ C) {w a c : Nat} (h0 : 1 ≤ w) (h1 : w ≤ 198) (h2 : a < 25) (h3 : c < 25) (h4 : ¬ a = c) : mj_Ev E iX10_apart [.ref 0, .int (nI w), .int (nI a), .int (nI c), .int (nI 1)] (hh κ C) (mj_R (some (.int (nI (sp_cut (sp_open (C 22) (C 23) w) a c)))) (hh κ C)) := by
  have hl0 : C 20 0 ≤ 999 := I.1 0 (by decide) 0
  have hl7 : C 27 0 ≤ 7 := I.1 7 (by decide) 0
  have hl11 : C 31 0 ≤ 6 := I.1 11 (by decide) 0
  have hl13 : C 33 0 ≤ 6 := I.1 13 (by decide) 0
  have hl15 : C 35 0 ≤ 8 := I.1 15 (by decide) 0
  have hl7x : C 7 0 ≤ 150 := I.2.2.2.2.2.2.1
  refine mj_Ev.of (L0 := [some (.ref 0), some (.int (nI w)), some (.int (nI a)), some (.int (nI c)), some (.int (nI 1)), none]) pnRX10 (Nat.le_of_ble_eq_true rfl) rfl ?_
  refine gj_iload_n dX10_apart_0 rfl ?_
  refine gj_S1 lkX10_211 (ev_X10_isBorne_t (by omega) (by omega)) dX10_apart_1 rfl rfl rfl rfl rfl ?_
  refine gj_if_eqN (tgt := 36) (by omega) dX10_apart_4 rfl (fun zq0 => ?_) (fun zq0 => ?_)
  · exfalso; revert zq0; decide
  refine gj_iload_n dX10_apart_7 rfl ?_
  refine gj_S1 lkX10_87 (ev_X10_isCell_t (by omega) (by omega)) dX10_apart_8 rfl rfl rfl rfl rfl ?_
  refine gj_if_eqN (tgt := 36) (by omega) dX10_apart_11 rfl (fun zq0 => ?_) (fun zq0 => ?_)
  · exfalso; revert zq0; decide
  refine gj_iload_n dX10_apart_14 rfl ?_
  refine gj_S1 lkX10_87 (ev_X10_isCell_t (by omega) (by omega)) dX10_apart_15 rfl rfl rfl rfl rfl ?_
  refine gj_if_eqN (tgt := 36) (by omega) dX10_apart_18 rfl (fun zq0 => ?_) (fun zq0 => ?_)
  · exfalso; revert zq0; decide
  refine gj_iload_n dX10_apart_21 rfl ?_
  refine gj_iload_n dX10_apart_22 rfl ?_
  refine gj_icmp_eqN (tgt := 36) (by omega) (by omega) dX10_apart_23 rfl (fun zq1 => ?_) (fun zq1 => ?_)
  · exfalso; omega
  refine gj_iload dX10_apart_26 rfl ?_
  refine gj_ic (w := 0) dX10_apart_28 ?_
  refine gj_ic (w := 1) dX10_apart_29 ?_
  refine gj_S1 lkX10_65 (ev_X10_within_t (by omega) (by omega) (by omega)) dX10_apart_30 rfl rfl rfl rfl rfl ?_
  refine gj_if_neN (tgt := 41) (by omega) dX10_apart_33 rfl (fun zq0 => ?_) (fun zq0 => ?_)
  rotate_left
  · exfalso; revert zq0; decide
  refine gj_aload_n dX10_apart_41 rfl ?_
  refine gfX10_10 rfl dX10_apart_42 (hc0 κ C) rfl ?_
  refine gfX10_91 rfl dX10_apart_45 (hc20 κ C) rfl ?_
  refine gj_iload_n dX10_apart_48 rfl ?_
  refine gj_V1 lkX10_224 (hc21 κ C) rfl rfl (ev_X4_bearing ⟨(hc21 κ C), (hc22 κ C), (hc23 κ C), (by decide), (show ∀ c, C 22 c ≤ 5 from I.1 2 (by decide)), (show ∀ c, C 23 c ≤ 99 from I.1 3 (by decide))⟩ (by omega)) dX10_apart_49 rfl rfl rfl rfl rfl ?_
  have hb2 := @sp_open_lt (C 22) (C 23) w
  refine gj_iload_n dX10_apart_52 rfl ?_
  refine gj_iload_n dX10_apart_53 rfl ?_
  refine gj_S1 lkX10_239 (ev_X8_cut (by omega) (by omega) (by omega)) dX10_apart_54 rfl rfl rfl rfl rfl ?_
  refine gj_istore (L' := [some (.ref 0), some (.int (nI w)), some (.int (nI a)), some (.int (nI c)), some (.int (nI 1)), some (.int (nI (sp_cut (sp_open (C 22) (C 23) w) a c)))]) dX10_apart_57 (Nat.le_of_ble_eq_true rfl) rfl ?_
  refine gj_iload dX10_apart_59 rfl ?_
  refine gj_ic (w := 1) dX10_apart_61 ?_
  refine gj_icmp_eqN (tgt := 76) (by omega) (by omega) dX10_apart_62 rfl (fun zq0 => ?_) (fun zq0 => ?_)
  rotate_left
  · exfalso; omega
  refine gj_iload dX10_apart_76 rfl ?_
  exact gj_ir rfl dX10_apart_78 rfl rfl rfl
set_option maxHeartbeats 1000000 in
set_option maxRecDepth 10000 in
theorem ev_X10_apart_0 {E : mj_E} {κ : Nat → Bool} {C : Nat → Nat → Nat} (I : mj_CI κ C) {w a c : Nat} (h0 : 1 ≤ w) (h1 : w ≤ 198) (h2 : a < 25) (h3 : c < 25) (h4 : ¬ a = c) : mj_Ev E iX10_apart [.ref 0, .int (nI w), .int (nI a), .int (nI c), .int (nI 0)] (hh κ C) (mj_R (some (.int (nI (sp_apn (sp_cut (sp_open (C 22) (C 23) w) a c))))) (hh κ C)) := by
  have hl0 : C 20 0 ≤ 999 := I.1 0 (by decide) 0
  have hl7 : C 27 0 ≤ 7 := I.1 7 (by decide) 0
  have hl11 : C 31 0 ≤ 6 := I.1 11 (by decide) 0
  have hl13 : C 33 0 ≤ 6 := I.1 13 (by decide) 0
  have hl15 : C 35 0 ≤ 8 := I.1 15 (by decide) 0
  have hl7x : C 7 0 ≤ 150 := I.2.2.2.2.2.2.1
  refine mj_Ev.of (L0 := [some (.ref 0), some (.int (nI w)), some (.int (nI a)), some (.int (nI c)), some (.int (nI 0)), none]) pnRX10 (Nat.le_of_ble_eq_true rfl) rfl ?_
  refine gj_iload_n dX10_apart_0 rfl ?_
  refine gj_S1 lkX10_211 (ev_X10_isBorne_t (by omega) (by omega)) dX10_apart_1 rfl rfl rfl rfl rfl ?_
  refine gj_if_eqN (tgt := 36) (by omega) dX10_apart_4 rfl (fun zq0 => ?_) (fun zq0 => ?_)
  · exfalso; revert zq0; decide
  refine gj_iload_n dX10_apart_7 rfl ?_
  refine gj_S1 lkX10_87 (ev_X10_isCell_t (by omega) (by omega)) dX10_apart_8 rfl rfl rfl rfl rfl ?_
  refine gj_if_eqN (tgt := 36) (by omega) dX10_apart_11 rfl (fun zq0 => ?_) (fun zq0 => ?_)
  · exfalso; revert zq0; decide
  refine gj_iload_n dX10_apart_14 rfl ?_
  refine gj_S1 lkX10_87 (ev_X10_isCell_t (by omega) (by omega)) dX10_apart_15 rfl rfl rfl rfl rfl ?_
  refine gj_if_eqN (tgt := 36) (by omega) dX10_apart_18 rfl (fun zq0 => ?_) (fun zq0 => ?_)
  · exfalso; revert zq0; decide
  refine gj_iload_n dX10_apart_21 rfl ?_
  refine gj_iload_n dX10_apart_22 rfl ?_
  refine gj_icmp_eqN (tgt := 36) (by omega) (by omega) dX10_apart_23 rfl (fun zq1 => ?_) (fun zq1 => ?_)
  · exfalso; omega
  refine gj_iload dX10_apart_26 rfl ?_
  refine gj_ic (w := 0) dX10_apart_28 ?_
  refine gj_ic (w := 1) dX10_apart_29 ?_
  refine gj_S1 lkX10_65 (ev_X10_within_t (by omega) (by omega) (by omega)) dX10_apart_30 rfl rfl rfl rfl rfl ?_
  refine gj_if_neN (tgt := 41) (by omega) dX10_apart_33 rfl (fun zq0 => ?_) (fun zq0 => ?_)
  rotate_left
  · exfalso; revert zq0; decide
  refine gj_aload_n dX10_apart_41 rfl ?_
  refine gfX10_10 rfl dX10_apart_42 (hc0 κ C) rfl ?_
  refine gfX10_91 rfl dX10_apart_45 (hc20 κ C) rfl ?_
  refine gj_iload_n dX10_apart_48 rfl ?_
  refine gj_V1 lkX10_224 (hc21 κ C) rfl rfl (ev_X4_bearing ⟨(hc21 κ C), (hc22 κ C), (hc23 κ C), (by decide), (show ∀ c, C 22 c ≤ 5 from I.1 2 (by decide)), (show ∀ c, C 23 c ≤ 99 from I.1 3 (by decide))⟩ (by omega)) dX10_apart_49 rfl rfl rfl rfl rfl ?_
  have hb2 := @sp_open_lt (C 22) (C 23) w
  refine gj_iload_n dX10_apart_52 rfl ?_
  refine gj_iload_n dX10_apart_53 rfl ?_
  refine gj_S1 lkX10_239 (ev_X8_cut (by omega) (by omega) (by omega)) dX10_apart_54 rfl rfl rfl rfl rfl ?_
  refine gj_istore (L' := [some (.ref 0), some (.int (nI w)), some (.int (nI a)), some (.int (nI c)), some (.int (nI 0)), some (.int (nI (sp_cut (sp_open (C 22) (C 23) w) a c)))]) dX10_apart_57 (Nat.le_of_ble_eq_true rfl) rfl ?_
  have hcu := @sp_cut_or (sp_open (C 22) (C 23) w) a c
  refine gj_iload dX10_apart_59 rfl ?_
  refine gj_ic (w := 1) dX10_apart_61 ?_
  refine gj_icmp_eqN (tgt := 76) (by omega) (by omega) dX10_apart_62 rfl (fun zq0 => ?_) (fun zq0 => ?_)
  · exfalso; omega
  refine gj_iload dX10_apart_65 rfl ?_
  refine gj_iconst (v := (-1)) dX10_apart_67 (by decide) ?_
  refine gj_top (y := nI 4294967295) (by decide) ?_
  refine gj_icmp_eqW (tgt := 76) (by omega) (by omega) dX10_apart_68 rfl (fun zq3 => ?_) (fun zq3 => ?_)
  · -- 68 taken
    refine gj_iload dX10_apart_76 rfl ?_
    exact gj_ir rfl dX10_apart_78 rfl (congrArg nI (by unfold sp_apn; first | rw [if_pos (by omega)] | rw [if_neg (by omega), if_pos (by omega)] | rw [if_neg (by omega), if_neg (by omega)])) rfl
  refine gj_iload dX10_apart_71 rfl ?_
  refine gj_if_neN (tgt := 79) (by omega) dX10_apart_73 rfl (fun zq4 => ?_) (fun zq4 => ?_)
  · -- 73 taken
    refine gj_iload dX10_apart_79 rfl ?_
    refine gj_sp 992 dX10_apart_81 (by decide) ?_
    refine gj_icmp_ltN (tgt := 91) (by omega) (by omega) dX10_apart_84 rfl (fun zq5 => ?_) (fun zq5 => ?_)
    · -- 84 taken
      refine gj_ic (w := 2) dX10_apart_91 ?_
      exact gj_ir rfl dX10_apart_92 rfl (congrArg nI (by unfold sp_apn; first | rw [if_pos (by omega)] | rw [if_neg (by omega), if_pos (by omega)] | rw [if_neg (by omega), if_neg (by omega)])) rfl
    refine gj_ic (w := 1) dX10_apart_87 ?_
    refine gj_goto (tgt := 92) dX10_apart_88 rfl ?_
    exact gj_ir rfl dX10_apart_92 rfl (congrArg nI (by unfold sp_apn; first | rw [if_pos (by omega)] | rw [if_neg (by omega), if_pos (by omega)] | rw [if_neg (by omega), if_neg (by omega)])) rfl
  refine gj_iload dX10_apart_76 rfl ?_
  exact gj_ir rfl dX10_apart_78 rfl (congrArg nI (by unfold sp_apn; first | rw [if_pos (by omega)] | rw [if_neg (by omega), if_pos (by omega)] | rw [if_neg (by omega), if_neg (by omega)])) rfl
def sp_stn (x y w a c : Nat) : Nat := if w ≤ x then (if w ≤ y then 4294967295 else c) else (if w ≤ y then a else 4294967295)
set_option maxHeartbeats 1000000 in
set_option maxRecDepth 10000 in
theorem ev_X10_stones {E : mj_E} {κ : Nat → Bool} {C : Nat → Nat → Nat} (I : mj_CI κ C) {w a c : Nat} (h0 : 1 ≤ w) (h1 : w ≤ 198) (h2 : a < 25) (h3 : c < 25) (h4 : ¬ a = c) : mj_Ev E iX10_stones [.ref 0, .int (nI w), .int (nI a), .int (nI c)] (hh κ C) (mj_R (some (.int (nI (sp_stn (sp_bear (C 22 a) (C 23 a)) (sp_bear (C 22 c) (C 23 c)) w a c)))) (hh κ C)) := by
  have hl0 : C 20 0 ≤ 999 := I.1 0 (by decide) 0
  have hl7 : C 27 0 ≤ 7 := I.1 7 (by decide) 0
  have hl11 : C 31 0 ≤ 6 := I.1 11 (by decide) 0
  have hl13 : C 33 0 ≤ 6 := I.1 13 (by decide) 0
  have hl15 : C 35 0 ≤ 8 := I.1 15 (by decide) 0
  have hl7x : C 7 0 ≤ 150 := I.2.2.2.2.2.2.1
  refine mj_Ev.of (L0 := [some (.ref 0), some (.int (nI w)), some (.int (nI a)), some (.int (nI c)), none, none]) pnRX10 (Nat.le_of_ble_eq_true rfl) rfl ?_
  refine gj_iload_n dX10_stones_0 rfl ?_
  refine gj_S1 lkX10_211 (ev_X10_isBorne_t (by omega) (by omega)) dX10_stones_1 rfl rfl rfl rfl rfl ?_
  refine gj_if_eqN (tgt := 26) (by omega) dX10_stones_4 rfl (fun zq0 => ?_) (fun zq0 => ?_)
  · exfalso; revert zq0; decide
  refine gj_iload_n dX10_stones_7 rfl ?_
  refine gj_S1 lkX10_87 (ev_X10_isCell_t (by omega) (by omega)) dX10_stones_8 rfl rfl rfl rfl rfl ?_
  refine gj_if_eqN (tgt := 26) (by omega) dX10_stones_11 rfl (fun zq0 => ?_) (fun zq0 => ?_)
  · exfalso; revert zq0; decide
  refine gj_iload_n dX10_stones_14 rfl ?_
  refine gj_S1 lkX10_87 (ev_X10_isCell_t (by omega) (by omega)) dX10_stones_15 rfl rfl rfl rfl rfl ?_
  refine gj_if_eqN (tgt := 26) (by omega) dX10_stones_18 rfl (fun zq0 => ?_) (fun zq0 => ?_)
  · exfalso; revert zq0; decide
  refine gj_iload_n dX10_stones_21 rfl ?_
  refine gj_iload_n dX10_stones_22 rfl ?_
  refine gj_icmp_neN (tgt := 31) (by omega) (by omega) dX10_stones_23 rfl (fun zq1 => ?_) (fun zq1 => ?_)
  rotate_left
  · exfalso; omega
  refine gj_aload_n dX10_stones_31 rfl ?_
  refine gfX10_10 rfl dX10_stones_32 (hc0 κ C) rfl ?_
  refine gfX10_91 rfl dX10_stones_35 (hc20 κ C) rfl ?_
  refine gj_iload_n dX10_stones_38 rfl ?_
  refine gj_V1 lkX10_161 (hc21 κ C) rfl rfl (ev_X4_bears ⟨(hc21 κ C), (hc22 κ C), (hc23 κ C), (by decide), (show ∀ c, C 22 c ≤ 5 from I.1 2 (by decide)), (show ∀ c, C 23 c ≤ 99 from I.1 3 (by decide))⟩ (by omega)) dX10_stones_39 rfl rfl rfl rfl rfl ?_
  have hb2 := @sp_bear_le (C 22 a) (C 23 a)
  have hb3 := (show ∀ c, C 23 c ≤ 99 from I.1 3 (by decide)) a
  refine gj_iload_n dX10_stones_42 rfl ?_
  refine gj_icmp_ltN (tgt := 50) (by omega) (by omega) dX10_stones_43 rfl (fun zq4 => ?_) (fun zq4 => ?_)
  · -- 43 taken
    refine gj_ic (w := 0) dX10_stones_50 ?_
    refine gj_istore (L' := [some (.ref 0), some (.int (nI w)), some (.int (nI a)), some (.int (nI c)), some (.int (nI 0)), none]) dX10_stones_51 (Nat.le_of_ble_eq_true rfl) rfl ?_
    refine gj_aload_n dX10_stones_53 rfl ?_
    refine gfX10_10 rfl dX10_stones_54 (hc0 κ C) rfl ?_
    refine gfX10_91 rfl dX10_stones_57 (hc20 κ C) rfl ?_
    refine gj_iload_n dX10_stones_60 rfl ?_
    refine gj_V1 lkX10_161 (hc21 κ C) rfl rfl (ev_X4_bears ⟨(hc21 κ C), (hc22 κ C), (hc23 κ C), (by decide), (show ∀ c, C 22 c ≤ 5 from I.1 2 (by decide)), (show ∀ c, C 23 c ≤ 99 from I.1 3 (by decide))⟩ (by omega)) dX10_stones_61 rfl rfl rfl rfl rfl ?_
    have hb5 := @sp_bear_le (C 22 c) (C 23 c)
    have hb6 := (show ∀ c, C 23 c ≤ 99 from I.1 3 (by decide)) c
    refine gj_iload_n dX10_stones_64 rfl ?_
    refine gj_icmp_ltN (tgt := 72) (by omega) (by omega) dX10_stones_65 rfl (fun zq7 => ?_) (fun zq7 => ?_)
    · -- 65 taken
      refine gj_ic (w := 0) dX10_stones_72 ?_
      refine gj_istore (L' := [some (.ref 0), some (.int (nI w)), some (.int (nI a)), some (.int (nI c)), some (.int (nI 0)), some (.int (nI 0))]) dX10_stones_73 (Nat.le_of_ble_eq_true rfl) rfl ?_
      refine gj_iload dX10_stones_75 rfl ?_
      refine gj_iload dX10_stones_77 rfl ?_
      refine gj_icmp_neN (tgt := 84) (by omega) (by omega) dX10_stones_79 rfl (fun zq0 => ?_) (fun zq0 => ?_)
      · exfalso; omega
      refine gj_iconst (v := (-1)) dX10_stones_82 (by decide) ?_
      refine gj_top (y := nI 4294967295) (by decide) ?_
      exact gj_ir rfl dX10_stones_83 rfl (congrArg nI (by unfold sp_stn; (repeat' split) <;> omega)) rfl
    refine gj_ic (w := 1) dX10_stones_68 ?_
    refine gj_goto (tgt := 73) dX10_stones_69 rfl ?_
    refine gj_istore (L' := [some (.ref 0), some (.int (nI w)), some (.int (nI a)), some (.int (nI c)), some (.int (nI 0)), some (.int (nI 1))]) dX10_stones_73 (Nat.le_of_ble_eq_true rfl) rfl ?_
    refine gj_iload dX10_stones_75 rfl ?_
    refine gj_iload dX10_stones_77 rfl ?_
    refine gj_icmp_neN (tgt := 84) (by omega) (by omega) dX10_stones_79 rfl (fun zq0 => ?_) (fun zq0 => ?_)
    rotate_left
    · exfalso; omega
    refine gj_iload dX10_stones_84 rfl ?_
    refine gj_if_eqN (tgt := 93) (by omega) dX10_stones_86 rfl (fun zq0 => ?_) (fun zq0 => ?_)
    rotate_left
    · exfalso; revert zq0; decide
    refine gj_iload_n dX10_stones_93 rfl ?_
    exact gj_ir rfl dX10_stones_94 rfl (congrArg nI (by unfold sp_stn; (repeat' split) <;> omega)) rfl
  refine gj_ic (w := 1) dX10_stones_46 ?_
  refine gj_goto (tgt := 51) dX10_stones_47 rfl ?_
  refine gj_istore (L' := [some (.ref 0), some (.int (nI w)), some (.int (nI a)), some (.int (nI c)), some (.int (nI 1)), none]) dX10_stones_51 (Nat.le_of_ble_eq_true rfl) rfl ?_
  refine gj_aload_n dX10_stones_53 rfl ?_
  refine gfX10_10 rfl dX10_stones_54 (hc0 κ C) rfl ?_
  refine gfX10_91 rfl dX10_stones_57 (hc20 κ C) rfl ?_
  refine gj_iload_n dX10_stones_60 rfl ?_
  refine gj_V1 lkX10_161 (hc21 κ C) rfl rfl (ev_X4_bears ⟨(hc21 κ C), (hc22 κ C), (hc23 κ C), (by decide), (show ∀ c, C 22 c ≤ 5 from I.1 2 (by decide)), (show ∀ c, C 23 c ≤ 99 from I.1 3 (by decide))⟩ (by omega)) dX10_stones_61 rfl rfl rfl rfl rfl ?_
  have hb8 := @sp_bear_le (C 22 c) (C 23 c)
  have hb9 := (show ∀ c, C 23 c ≤ 99 from I.1 3 (by decide)) c
  refine gj_iload_n dX10_stones_64 rfl ?_
  refine gj_icmp_ltN (tgt := 72) (by omega) (by omega) dX10_stones_65 rfl (fun zq10 => ?_) (fun zq10 => ?_)
  · -- 65 taken
    refine gj_ic (w := 0) dX10_stones_72 ?_
    refine gj_istore (L' := [some (.ref 0), some (.int (nI w)), some (.int (nI a)), some (.int (nI c)), some (.int (nI 1)), some (.int (nI 0))]) dX10_stones_73 (Nat.le_of_ble_eq_true rfl) rfl ?_
    refine gj_iload dX10_stones_75 rfl ?_
    refine gj_iload dX10_stones_77 rfl ?_
    refine gj_icmp_neN (tgt := 84) (by omega) (by omega) dX10_stones_79 rfl (fun zq0 => ?_) (fun zq0 => ?_)
    rotate_left
    · exfalso; omega
    refine gj_iload dX10_stones_84 rfl ?_
    refine gj_if_eqN (tgt := 93) (by omega) dX10_stones_86 rfl (fun zq0 => ?_) (fun zq0 => ?_)
    · exfalso; revert zq0; decide
    refine gj_iload_n dX10_stones_89 rfl ?_
    refine gj_goto (tgt := 94) dX10_stones_90 rfl ?_
    exact gj_ir rfl dX10_stones_94 rfl (congrArg nI (by unfold sp_stn; (repeat' split) <;> omega)) rfl
  refine gj_ic (w := 1) dX10_stones_68 ?_
  refine gj_goto (tgt := 73) dX10_stones_69 rfl ?_
  refine gj_istore (L' := [some (.ref 0), some (.int (nI w)), some (.int (nI a)), some (.int (nI c)), some (.int (nI 1)), some (.int (nI 1))]) dX10_stones_73 (Nat.le_of_ble_eq_true rfl) rfl ?_
  refine gj_iload dX10_stones_75 rfl ?_
  refine gj_iload dX10_stones_77 rfl ?_
  refine gj_icmp_neN (tgt := 84) (by omega) (by omega) dX10_stones_79 rfl (fun zq0 => ?_) (fun zq0 => ?_)
  · exfalso; omega
  refine gj_iconst (v := (-1)) dX10_stones_82 (by decide) ?_
  refine gj_top (y := nI 4294967295) (by decide) ?_
  exact gj_ir rfl dX10_stones_83 rfl (congrArg nI (by unfold sp_stn; (repeat' split) <;> omega)) rfl
set_option maxHeartbeats 1000000 in
set_option maxRecDepth 10000 in
theorem ev_X10_lies {E : mj_E} {κ : Nat → Bool} {C : Nat → Nat → Nat} (I : mj_CI κ C)  : mj_Ev E iX10_lies [.ref 0] (hh κ C) (mj_R (some (.int (nI (mj_bits (fun w => decide (sp_ward (C 23) w / 4 < C 38 w)) 4)))) (hh κ C)) := by
  have hl0 : C 20 0 ≤ 999 := I.1 0 (by decide) 0
  have hl7 : C 27 0 ≤ 7 := I.1 7 (by decide) 0
  have hl11 : C 31 0 ≤ 6 := I.1 11 (by decide) 0
  have hl13 : C 33 0 ≤ 6 := I.1 13 (by decide) 0
  have hl15 : C 35 0 ≤ 8 := I.1 15 (by decide) 0
  have hl7x : C 7 0 ≤ 150 := I.2.2.2.2.2.2.1
  refine mj_Ev.of (L0 := [some (.ref 0), none, none]) pnRX10 (Nat.le_of_ble_eq_true rfl) rfl ?_
  refine gj_ic (w := 0) dX10_lies_0 ?_
  refine gj_istore_n (L' := [some (.ref 0), some (.int (nI 0)), none]) dX10_lies_1 (Nat.le_of_ble_eq_true rfl) rfl ?_
  refine gj_ic (w := 0) dX10_lies_2 ?_
  refine gj_istore_n (L' := [some (.ref 0), some (.int (nI 0)), some (.int (nI 0))]) dX10_lies_3 (Nat.le_of_ble_eq_true rfl) rfl ?_
  refine gj_cast (L' := [some (.ref 0), some (.int (nI (mj_bits (fun w => decide (sp_ward (C 23) w / 4 < C 38 w)) 0))), some (.int (nI 0))]) (st' := []) (h' := (hh κ C)) rfl rfl rfl ?_
  refine gj_loop (fun j => [some (.ref 0), some (.int (nI (mj_bits (fun w => decide (sp_ward (C 23) w / 4 < C 38 w)) j))), some (.int (nI j))]) (fun j => (hh κ C)) 4 ?_ (fun j hj ih => ?_) 0 (by omega)
  · show gj _ _ _ _ _ _ [some (.ref 0), some (.int (nI (mj_bits (fun w => decide (sp_ward (C 23) w / 4 < C 38 w)) 4))), some (.int (nI 4))] _ _
    refine gj_iload_n dX10_lies_4 rfl ?_
    refine gj_ic (w := 4) dX10_lies_5 ?_
    refine gj_icmp_geN (tgt := 46) (by omega) (by omega) dX10_lies_6 rfl (fun zq0 => ?_) (fun zq0 => ?_)
    rotate_left
    · exfalso; omega
    refine gj_iload_n dX10_lies_46 rfl ?_
    exact gj_ir rfl dX10_lies_47 rfl rfl rfl
  show gj _ _ _ _ _ _ [some (.ref 0), some (.int (nI (mj_bits (fun w => decide (sp_ward (C 23) w / 4 < C 38 w)) j))), some (.int (nI j))] _ _
  refine gj_iload_n dX10_lies_4 rfl ?_
  refine gj_ic (w := 4) dX10_lies_5 ?_
  refine gj_icmp_geN (tgt := 46) (by omega) (by omega) dX10_lies_6 rfl (fun zq1 => ?_) (fun zq1 => ?_)
  · exfalso; omega
  have hb90 := (show ∀ c, C 23 c ≤ 99 from I.1 3 (by decide))
  have hw90 : sp_ward (C 23) j ≤ 396 := by unfold sp_ward; have q1 := hb90 (j / 2 * 3 * 5 + j % 2 * 3); have q2 := hb90 (j / 2 * 3 * 5 + j % 2 * 3 + 1); have q3 := hb90 (j / 2 * 3 * 5 + j % 2 * 3 + 5); have q4 := hb90 (j / 2 * 3 * 5 + j % 2 * 3 + 5 + 1); omega
  refine gj_aload_n dX10_lies_9 rfl ?_
  refine gfX10_10 rfl dX10_lies_10 (hc0 κ C) rfl ?_
  refine gfX10_130 rfl dX10_lies_13 (hc20 κ C) rfl ?_
  refine gj_iload_n dX10_lies_16 rfl ?_
  refine gj_ialdN dX10_lies_17 (hc38 κ C) (by omega) (by omega) ?_
  have hb2 := (show ∀ c, C 38 c ≤ 99 from I.1 18 (by decide)) j
  refine gj_aload_n dX10_lies_18 rfl ?_
  refine gfX10_10 rfl dX10_lies_19 (hc0 κ C) rfl ?_
  refine gfX10_91 rfl dX10_lies_22 (hc20 κ C) rfl ?_
  refine gj_iload_n dX10_lies_25 rfl ?_
  refine gj_V1 lkX10_263 (hc21 κ C) rfl rfl (ev_X4_iceOfWard ⟨(hc21 κ C), (hc22 κ C), (hc23 κ C), (by decide), (show ∀ c, C 22 c ≤ 5 from I.1 2 (by decide)), (show ∀ c, C 23 c ≤ 99 from I.1 3 (by decide))⟩ (by omega)) dX10_lies_26 rfl rfl rfl rfl rfl ?_
  refine gj_ic (w := 4) dX10_lies_29 ?_
  refine gj_idivN (by omega) (by omega) (by omega) dX10_lies_30 ?_
  refine gj_icmp_leN (tgt := 40) (by omega) (by omega) dX10_lies_31 rfl (fun zq3 => ?_) (fun zq3 => ?_)
  · -- 31 taken
    refine gj_iincN (L' := [some (.ref 0), some (.int (nI (mj_bits (fun w => decide (sp_ward (C 23) w / 4 < C 38 w)) j))), some (.int (nI (j + 1)))]) dX10_lies_40 rfl (Nat.le_of_ble_eq_true rfl) rfl ?_
    refine gj_goto (tgt := 4) dX10_lies_43 rfl ?_
    exact gj_cast (by first | rw [mj_bits_t (decide_eq_true (by omega))] | rw [mj_bits_f (decide_eq_false (by omega))]) rfl rfl ih
  refine gj_iload_n dX10_lies_34 rfl ?_
  refine gj_ic (w := 1) dX10_lies_35 ?_
  refine gj_iload_n dX10_lies_36 rfl ?_
  refine gj_ishlN (by omega) dX10_lies_37 ?_
  refine gj_iorN  dX10_lies_38 ?_
  refine gj_istore_n (L' := [some (.ref 0), some (.int (nI ((mj_bits (fun w => decide (sp_ward (C 23) w / 4 < C 38 w)) j) ||| (1 <<< j)))), some (.int (nI j))]) dX10_lies_39 (Nat.le_of_ble_eq_true rfl) rfl ?_
  refine gj_iincN (L' := [some (.ref 0), some (.int (nI ((mj_bits (fun w => decide (sp_ward (C 23) w / 4 < C 38 w)) j) ||| (1 <<< j)))), some (.int (nI (j + 1)))]) dX10_lies_40 rfl (Nat.le_of_ble_eq_true rfl) rfl ?_
  refine gj_goto (tgt := 4) dX10_lies_43 rfl ?_
  exact gj_cast (by first | rw [mj_bits_t (decide_eq_true (by omega))] | rw [mj_bits_f (decide_eq_false (by omega))]) rfl rfl ih
