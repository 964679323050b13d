set_option maxHeartbeats 1000000 in
set_option maxRecDepth 10000 in
theorem ev_X10_next_none {E : mj_E} {κ : Nat → Bool} {C : Nat → Nat → Nat} (I : mj_CI κ C) {c : Nat} (h0 : c < 25) (h1 : (sp_kn (C 32) (C 31 0) c) = 0) : mj_Ev E iX10_next [.ref 0, .int (nI c)] (hh κ C) (mj_R (some (.int (nI 4294967295))) (hh κ C)) := by
  have hl0 : C 20 0 ≤ 999 := I.1 0 (by decide) 0
  have hl7 : C 27 0 ≤ 7 := I.1 7 (by decide) 0
  have hl11 : C 31 0 ≤ 6 := I.1 11 (by decide) 0
  have hl13 : C 33 0 ≤ 6 := I.1 13 (by decide) 0
  have hl15 : C 35 0 ≤ 8 := I.1 15 (by decide) 0
  have hl7x : C 7 0 ≤ 150 := I.2.2.2.2.2.2.1
  refine mj_Ev.of (L0 := [some (.ref 0), some (.int (nI c)), none, none, none, none, none]) pnRX10 (Nat.le_of_ble_eq_true rfl) rfl ?_
  refine gj_iload_n dX10_next_0 rfl ?_
  refine gj_S1 lkX10_87 (ev_X10_isCell_t (by omega) (by omega)) dX10_next_1 rfl rfl rfl rfl rfl ?_
  refine gj_if_neN (tgt := 12) (by omega) dX10_next_4 rfl (fun zq0 => ?_) (fun zq0 => ?_)
  rotate_left
  · exfalso; revert zq0; decide
  refine gj_aload_n dX10_next_12 rfl ?_
  refine gj_iload_n dX10_next_13 rfl ?_
  refine gj_V1 lkX10_281 (hc0 κ C) rfl rfl (ev_X10_kindsNoted I (by omega)) dX10_next_14 rfl rfl rfl rfl rfl ?_
  have hb1 := @sp_kn_lt (C 32) (C 31 0) c
  refine gj_istore_n (L' := [some (.ref 0), some (.int (nI c)), some (.int (nI (sp_kn (C 32) (C 31 0) c))), none, none, none, none]) dX10_next_17 (Nat.le_of_ble_eq_true rfl) rfl ?_
  refine gj_iload_n dX10_next_18 rfl ?_
  refine gj_if_neN (tgt := 24) (by omega) dX10_next_19 rfl (fun zq2 => ?_) (fun zq2 => ?_)
  · exfalso; omega
  refine gj_iconst (v := (-1)) dX10_next_22 (by decide) ?_
  refine gj_top (y := nI 4294967295) (by decide) ?_
  exact gj_ir rfl dX10_next_23 rfl rfl rfl
set_option maxHeartbeats 1000000 in
set_option maxRecDepth 10000 in
theorem ev_X10_next {E : mj_E} {κ : Nat → Bool} {C : Nat → Nat → Nat} (I : mj_CI κ C) {c : Nat} (h0 : c < 25) (h1 : 0 < (sp_kn (C 32) (C 31 0) c)) : mj_Ev E iX10_next [.ref 0, .int (nI c)] (hh κ C) (mj_R (some (.int (nI ((sp_nx (sp_kn (C 32) (C 31 0) c) (C 23 c) 100).2)))) (hh κ (mj_u C 12 (sp_nxr (C 12) (sp_kn (C 32) (C 31 0) c) (C 23 c) 100)))) := by
  have hl0 : C 20 0 ≤ 999 := I.1 0 (by decide) 0
  have hl7 : C 27 0 ≤ 7 := I.1 7 (by decide) 0
  have hl11 : C 31 0 ≤ 6 := I.1 11 (by decide) 0
  have hl13 : C 33 0 ≤ 6 := I.1 13 (by decide) 0
  have hl15 : C 35 0 ≤ 8 := I.1 15 (by decide) 0
  have hl7x : C 7 0 ≤ 150 := I.2.2.2.2.2.2.1
  refine mj_Ev.of (L0 := [some (.ref 0), some (.int (nI c)), none, none, none, none, none]) pnRX10 (Nat.le_of_ble_eq_true rfl) rfl ?_
  refine gj_iload_n dX10_next_0 rfl ?_
  refine gj_S1 lkX10_87 (ev_X10_isCell_t (by omega) (by omega)) dX10_next_1 rfl rfl rfl rfl rfl ?_
  refine gj_if_neN (tgt := 12) (by omega) dX10_next_4 rfl (fun zq0 => ?_) (fun zq0 => ?_)
  rotate_left
  · exfalso; revert zq0; decide
  refine gj_aload_n dX10_next_12 rfl ?_
  refine gj_iload_n dX10_next_13 rfl ?_
  refine gj_V1 lkX10_281 (hc0 κ C) rfl rfl (ev_X10_kindsNoted I (by omega)) dX10_next_14 rfl rfl rfl rfl rfl ?_
  have hb1 := @sp_kn_lt (C 32) (C 31 0) c
  refine gj_istore_n (L' := [some (.ref 0), some (.int (nI c)), some (.int (nI (sp_kn (C 32) (C 31 0) c))), none, none, none, none]) dX10_next_17 (Nat.le_of_ble_eq_true rfl) rfl ?_
  refine gj_iload_n dX10_next_18 rfl ?_
  refine gj_if_neN (tgt := 24) (by omega) dX10_next_19 rfl (fun zq2 => ?_) (fun zq2 => ?_)
  rotate_left
  · exfalso; omega
  refine gj_iconst (v := (-1)) dX10_next_24 (by decide) ?_
  refine gj_top (y := nI 4294967295) (by decide) ?_
  refine gj_istore_n (L' := [some (.ref 0), some (.int (nI c)), some (.int (nI (sp_kn (C 32) (C 31 0) c))), some (.int (nI 4294967295)), none, none, none]) dX10_next_25 (Nat.le_of_ble_eq_true rfl) rfl ?_
  refine gj_bp 7 dX10_next_26 (by decide) ?_
  refine gj_istore (L' := [some (.ref 0), some (.int (nI c)), some (.int (nI (sp_kn (C 32) (C 31 0) c))), some (.int (nI 4294967295)), some (.int (nI 7)), none, none]) dX10_next_28 (Nat.le_of_ble_eq_true rfl) rfl ?_
  refine gj_ic (w := 0) dX10_next_30 ?_
  refine gj_istore (L' := [some (.ref 0), some (.int (nI c)), some (.int (nI (sp_kn (C 32) (C 31 0) c))), some (.int (nI 4294967295)), some (.int (nI 7)), some (.int (nI 0)), none]) dX10_next_31 (Nat.le_of_ble_eq_true rfl) rfl ?_
  refine gj_cast (L' := [some (.ref 0), some (.int (nI c)), some (.int (nI (sp_kn (C 32) (C 31 0) c))), some (.int (nI ((sp_nx (sp_kn (C 32) (C 31 0) c) (C 23 c) 0).2))), some (.int (nI ((sp_nx (sp_kn (C 32) (C 31 0) c) (C 23 c) 0).1))), some (.int (nI 0)), none]) (st' := []) (h' := hh κ (mj_u C 12 (sp_nxr (C 12) (sp_kn (C 32) (C 31 0) c) (C 23 c) 0))) rfl rfl (by rw [show sp_nxr (C 12) (sp_kn (C 32) (C 31 0) c) (C 23 c) 0 = C 12 from rfl, mj_u_self]) ?_
  refine gj_loop (fun j => [some (.ref 0), some (.int (nI c)), some (.int (nI (sp_kn (C 32) (C 31 0) c))), some (.int (nI ((sp_nx (sp_kn (C 32) (C 31 0) c) (C 23 c) j).2))), some (.int (nI ((sp_nx (sp_kn (C 32) (C 31 0) c) (C 23 c) j).1))), some (.int (nI j)), none]) (fun j => hh κ (mj_u C 12 (sp_nxr (C 12) (sp_kn (C 32) (C 31 0) c) (C 23 c) j))) 100 ?_ (fun j hj ih => ?_) 0 (by omega)
  · show gj _ _ _ _ _ _ [some (.ref 0), some (.int (nI c)), some (.int (nI (sp_kn (C 32) (C 31 0) c))), some (.int (nI ((sp_nx (sp_kn (C 32) (C 31 0) c) (C 23 c) 100).2))), some (.int (nI ((sp_nx (sp_kn (C 32) (C 31 0) c) (C 23 c) 100).1))), some (.int (nI 100)), none] _ _
    refine gj_iload dX10_next_33 rfl ?_
    refine gj_bp 100 dX10_next_35 (by decide) ?_
    refine gj_icmp_geN (tgt := 88) (by omega) (by omega) dX10_next_37 rfl (fun zq0 => ?_) (fun zq0 => ?_)
    rotate_left
    · exfalso; omega
    refine gj_iload_n dX10_next_88 rfl ?_
    exact gj_ir rfl dX10_next_89 rfl rfl rfl
  show gj _ _ _ _ _ _ [some (.ref 0), some (.int (nI c)), some (.int (nI (sp_kn (C 32) (C 31 0) c))), some (.int (nI ((sp_nx (sp_kn (C 32) (C 31 0) c) (C 23 c) j).2))), some (.int (nI ((sp_nx (sp_kn (C 32) (C 31 0) c) (C 23 c) j).1))), some (.int (nI j)), none] _ _
  refine gj_iload dX10_next_33 rfl ?_
  refine gj_bp 100 dX10_next_35 (by decide) ?_
  refine gj_icmp_geN (tgt := 88) (by omega) (by omega) dX10_next_37 rfl (fun zq3 => ?_) (fun zq3 => ?_)
  · exfalso; omega
  refine gj_aload_n dX10_next_40 rfl ?_
  refine gj_iload_n dX10_next_41 rfl ?_
  refine gj_aload_n dX10_next_42 rfl ?_
  refine gfX10_10 rfl dX10_next_43 (hc0 κ (mj_u C 12 (sp_nxr (C 12) (sp_kn (C 32) (C 31 0) c) (C 23 c) j))) rfl ?_
  refine gfX10_91 rfl dX10_next_46 (hc20 κ (mj_u C 12 (sp_nxr (C 12) (sp_kn (C 32) (C 31 0) c) (C 23 c) j))) rfl ?_
  refine gj_iload_n dX10_next_49 rfl ?_
  refine gj_V1 lkX10_164 (hc21 κ (mj_u C 12 (sp_nxr (C 12) (sp_kn (C 32) (C 31 0) c) (C 23 c) j))) rfl rfl (ev_X4_iceOf ⟨hc21 κ (mj_u C 12 (sp_nxr (C 12) (sp_kn (C 32) (C 31 0) c) (C 23 c) j)), hc22 κ (mj_u C 12 (sp_nxr (C 12) (sp_kn (C 32) (C 31 0) c) (C 23 c) j)), hc23 κ (mj_u C 12 (sp_nxr (C 12) (sp_kn (C 32) (C 31 0) c) (C 23 c) j)), (by decide), (show ∀ c, C 22 c ≤ 5 from I.1 2 (by decide)), (show ∀ c, C 23 c ≤ 99 from I.1 3 (by decide))⟩ (by omega)) dX10_next_50 rfl rfl rfl rfl rfl ?_
  show gj _ _ _ _ _ _ _ ((.int (nI (C 23 c)) : Value) :: _) _
  have hb4 := (show ∀ c, C 23 c ≤ 99 from I.1 3 (by decide)) c
  refine gj_iload dX10_next_53 rfl ?_
  refine gj_bp 10 dX10_next_55 (by decide) ?_
  refine gj_idivN (by omega) (by omega) (by omega) dX10_next_57 ?_
  refine gj_iload dX10_next_58 rfl ?_
  refine gj_bp 10 dX10_next_60 (by decide) ?_
  refine gj_iremN (by omega) (by omega) (by omega) dX10_next_62 ?_
  refine gj_V1 lkX10_284 (hc0 κ (mj_u C 12 (sp_nxr (C 12) (sp_kn (C 32) (C 31 0) c) (C 23 c) j))) rfl rfl (ev_X10_mostAlike (mj_CI_u I (by decide) (by decide) (by decide) (by decide) (by decide)) (by omega) (by omega) (by omega) (by omega)) dX10_next_63 rfl rfl rfl rfl rfl ?_
  have hb5 := @sp_ma_le (sp_lk (sp_kn (C 32) (C 31 0) c) (C 23 c) (j / 10) (j % 10)) 6
  refine gj_istore (L' := [some (.ref 0), some (.int (nI c)), some (.int (nI (sp_kn (C 32) (C 31 0) c))), some (.int (nI ((sp_nx (sp_kn (C 32) (C 31 0) c) (C 23 c) j).2))), some (.int (nI ((sp_nx (sp_kn (C 32) (C 31 0) c) (C 23 c) j).1))), some (.int (nI j)), some (.int (nI (sp_ma (sp_lk (sp_kn (C 32) (C 31 0) c) (C 23 c) (j / 10) (j % 10)) 6)))]) dX10_next_66 (Nat.le_of_ble_eq_true rfl) rfl ?_
  have hx9 := @sp_nx_le (sp_kn (C 32) (C 31 0) c) (C 23 c) j
  refine gj_iload dX10_next_68 rfl ?_
  refine gj_iload dX10_next_70 rfl ?_
  refine gj_icmp_geN (tgt := 82) (by omega) (by omega) dX10_next_72 rfl (fun zq6 => ?_) (fun zq6 => ?_)
  · -- 72 taken
    have hw9 : ¬ sp_nxv (sp_kn (C 32) (C 31 0) c) (C 23 c) j < (sp_nx (sp_kn (C 32) (C 31 0) c) (C 23 c) j).1 := Nat.not_lt.mpr zq6
    refine gj_iincN (L' := [some (.ref 0), some (.int (nI c)), some (.int (nI (sp_kn (C 32) (C 31 0) c))), some (.int (nI ((sp_nx (sp_kn (C 32) (C 31 0) c) (C 23 c) j).2))), some (.int (nI ((sp_nx (sp_kn (C 32) (C 31 0) c) (C 23 c) j).1))), some (.int (nI (j + 1))), some (.int (nI (sp_ma (sp_lk (sp_kn (C 32) (C 31 0) c) (C 23 c) (j / 10) (j % 10)) 6)))]) dX10_next_82 rfl (Nat.le_of_ble_eq_true rfl) rfl ?_
    refine gj_goto (tgt := 33) dX10_next_85 rfl ?_
    refine gj_forget (i := 6) (L' := [some (.ref 0), some (.int (nI c)), some (.int (nI (sp_kn (C 32) (C 31 0) c))), some (.int (nI ((sp_nx (sp_kn (C 32) (C 31 0) c) (C 23 c) j).2))), some (.int (nI ((sp_nx (sp_kn (C 32) (C 31 0) c) (C 23 c) j).1))), some (.int (nI (j + 1))), none]) rfl ?_
    exact gj_cast (by first | rw [sp_nx_t hw9]; rfl | rw [sp_nx_f hw9]) rfl (by rw [mj_u_u]; rfl) ih
  have hw9 : sp_nxv (sp_kn (C 32) (C 31 0) c) (C 23 c) j < (sp_nx (sp_kn (C 32) (C 31 0) c) (C 23 c) j).1 := zq6
  refine gj_iload dX10_next_75 rfl ?_
  refine gj_istore (L' := [some (.ref 0), some (.int (nI c)), some (.int (nI (sp_kn (C 32) (C 31 0) c))), some (.int (nI ((sp_nx (sp_kn (C 32) (C 31 0) c) (C 23 c) j).2))), some (.int (nI (sp_ma (sp_lk (sp_kn (C 32) (C 31 0) c) (C 23 c) (j / 10) (j % 10)) 6))), some (.int (nI j)), some (.int (nI (sp_ma (sp_lk (sp_kn (C 32) (C 31 0) c) (C 23 c) (j / 10) (j % 10)) 6)))]) dX10_next_77 (Nat.le_of_ble_eq_true rfl) rfl ?_
  refine gj_iload dX10_next_79 rfl ?_
  refine gj_istore_n (L' := [some (.ref 0), some (.int (nI c)), some (.int (nI (sp_kn (C 32) (C 31 0) c))), some (.int (nI j)), some (.int (nI (sp_ma (sp_lk (sp_kn (C 32) (C 31 0) c) (C 23 c) (j / 10) (j % 10)) 6))), some (.int (nI j)), some (.int (nI (sp_ma (sp_lk (sp_kn (C 32) (C 31 0) c) (C 23 c) (j / 10) (j % 10)) 6)))]) dX10_next_81 (Nat.le_of_ble_eq_true rfl) rfl ?_
  refine gj_iincN (L' := [some (.ref 0), some (.int (nI c)), some (.int (nI (sp_kn (C 32) (C 31 0) c))), some (.int (nI j)), some (.int (nI (sp_ma (sp_lk (sp_kn (C 32) (C 31 0) c) (C 23 c) (j / 10) (j % 10)) 6))), some (.int (nI (j + 1))), some (.int (nI (sp_ma (sp_lk (sp_kn (C 32) (C 31 0) c) (C 23 c) (j / 10) (j % 10)) 6)))]) dX10_next_82 rfl (Nat.le_of_ble_eq_true rfl) rfl ?_
  refine gj_goto (tgt := 33) dX10_next_85 rfl ?_
  refine gj_forget (i := 6) (L' := [some (.ref 0), some (.int (nI c)), some (.int (nI (sp_kn (C 32) (C 31 0) c))), some (.int (nI j)), some (.int (nI (sp_ma (sp_lk (sp_kn (C 32) (C 31 0) c) (C 23 c) (j / 10) (j % 10)) 6))), some (.int (nI (j + 1))), none]) rfl ?_
  exact gj_cast (by first | rw [sp_nx_t hw9]; rfl | rw [sp_nx_f hw9]) rfl (by rw [mj_u_u]; rfl) ih
set_option maxHeartbeats 4000000 in
set_option maxRecDepth 10000 in
theorem ev_X10_two {E : mj_E} {κ : Nat → Bool} {C : Nat → Nat → Nat} (I : mj_CI κ C) {a c : Nat} (h0 : a < C 27 0) (h1 : c < C 27 0) (h2 : ¬ a = c) : mj_Ev E iX10_two [.ref 0, .int (nI a), .int (nI c)] (hh κ C) (mj_R (some (.int (nI (mj_bits (fun j => sp_rst (C 29) (C 27 0) (sp_hvy (C 29) (C 30) (fun c => sp_bear (C 22 c) (C 23 c)) (C 27 0)) a (sp_tw (sp_wo (sp_wo (sp_yess (C 28) (C 29) (C 30) (fun c => sp_bear (C 22 c) (C 23 c)) (C 25 ((C 20 0) % 7)) (C 27 0)) a) c) a c j) && sp_rst (C 29) (C 27 0) (sp_hvy (C 29) (C 30) (fun c => sp_bear (C 22 c) (C 23 c)) (C 27 0)) c (sp_tw (sp_wo (sp_wo (sp_yess (C 28) (C 29) (C 30) (fun c => sp_bear (C 22 c) (C 23 c)) (C 25 ((C 20 0) % 7)) (C 27 0)) a) c) a c j)) 4)))) (hh κ C)) := by
  have hl0 : C 20 0 ≤ 999 := I.1 0 (by decide) 0
  have hl7 : C 27 0 ≤ 7 := I.1 7 (by decide) 0
  have hl11 : C 31 0 ≤ 6 := I.1 11 (by decide) 0
  have hl13 : C 33 0 ≤ 6 := I.1 13 (by decide) 0
  have hl15 : C 35 0 ≤ 8 := I.1 15 (by decide) 0
  have hl7x : C 7 0 ≤ 150 := I.2.2.2.2.2.2.1
  have hO : (sp_wo (sp_wo (sp_yess (C 28) (C 29) (C 30) (fun c => sp_bear (C 22 c) (C 23 c)) (C 25 ((C 20 0) % 7)) (C 27 0)) a) c) < 128 := Nat.lt_of_le_of_lt Nat.and_le_left (Nat.lt_of_le_of_lt Nat.and_le_left (sp_yess_lt (by omega)))
  refine mj_Ev.of (L0 := [some (.ref 0), some (.int (nI a)), some (.int (nI c)), none, none, none, none, none, none, none]) pnRX10 (Nat.le_of_ble_eq_true rfl) rfl ?_
  refine gj_aload_n dX10_two_0 rfl ?_
  refine gj_iload_n dX10_two_1 rfl ?_
  refine gj_V1 lkX10_187 (hc0 κ C) rfl rfl (ev_X10_isVoter I (by omega)) dX10_two_2 rfl rfl rfl rfl rfl ?_
  refine gj_if_eqN (tgt := 21) (by omega) dX10_two_5 rfl (fun zq0 => ?_) (fun zq0 => ?_)
  · exfalso; revert zq0; decide
  refine gj_aload_n dX10_two_8 rfl ?_
  refine gj_iload_n dX10_two_9 rfl ?_
  refine gj_V1 lkX10_187 (hc0 κ C) rfl rfl (ev_X10_isVoter I (by omega)) dX10_two_10 rfl rfl rfl rfl rfl ?_
  refine gj_if_eqN (tgt := 21) (by omega) dX10_two_13 rfl (fun zq0 => ?_) (fun zq0 => ?_)
  · exfalso; revert zq0; decide
  refine gj_iload_n dX10_two_16 rfl ?_
  refine gj_iload_n dX10_two_17 rfl ?_
  refine gj_icmp_neN (tgt := 26) (by omega) (by omega) dX10_two_18 rfl (fun zq1 => ?_) (fun zq1 => ?_)
  rotate_left
  · exfalso; omega
  refine gj_aload_n dX10_two_26 rfl ?_
  refine gfX10_10 rfl dX10_two_27 (hc0 κ C) rfl ?_
  refine gfX10_73 rfl dX10_two_30 (hc20 κ C) rfl ?_
  refine gj_aload_n dX10_two_33 rfl ?_
  refine gfX10_10 rfl dX10_two_34 (hc0 κ C) rfl ?_
  refine gfX10_91 rfl dX10_two_37 (hc20 κ C) rfl ?_
  refine gj_V1 lkX10_260 (hc27 κ C) rfl rfl (ev_X7_heavy ⟨(hc27 κ C), (hc28 κ C), (hc29 κ C), (hc30 κ C), (by omega), (show ∀ c, C 28 c ≤ 5 from I.1 8 (by decide)), (show ∀ c, C 29 c ≤ 99 from I.1 9 (by decide)), (show ∀ c, C 30 c ≤ 24 from I.1 10 (by decide))⟩ ⟨(hc21 κ C), (hc22 κ C), (hc23 κ C), (by decide), (show ∀ c, C 22 c ≤ 5 from I.1 2 (by decide)), (show ∀ c, C 23 c ≤ 99 from I.1 3 (by decide))⟩) dX10_two_40 rfl rfl rfl rfl rfl ?_
  have hb2 := @sp_hvy_lt (C 29) (C 30) (fun c => sp_bear (C 22 c) (C 23 c)) (C 27 0) (by omega)
  refine gj_istore_n (L' := [some (.ref 0), some (.int (nI a)), some (.int (nI c)), some (.int (nI (sp_hvy (C 29) (C 30) (fun c => sp_bear (C 22 c) (C 23 c)) (C 27 0)))), none, none, none, none, none, none]) dX10_two_43 (Nat.le_of_ble_eq_true rfl) rfl ?_
  refine gj_aload_n dX10_two_44 rfl ?_
  refine gj_V1 lkX10_197 (hc0 κ C) rfl rfl (ev_X10_yesNow I) dX10_two_45 rfl rfl rfl rfl rfl ?_
  have hb3 := @sp_yess_lt (C 28) (C 29) (C 30) (fun c => sp_bear (C 22 c) (C 23 c)) (C 25 ((C 20 0) % 7)) (C 27 0) (by omega)
  refine gj_ic (w := 1) dX10_two_48 ?_
  refine gj_iload_n dX10_two_49 rfl ?_
  refine gj_ishlN (by omega) dX10_two_50 ?_
  refine gj_iconst (v := (-1)) dX10_two_51 (by decide) ?_
  refine gj_top (y := nI 4294967295) (by decide) ?_
  refine gj_ixorN  dX10_two_52 ?_
  refine gj_iandN dX10_two_53 ?_
  refine gj_ic (w := 1) dX10_two_54 ?_
  refine gj_iload_n dX10_two_55 rfl ?_
  refine gj_ishlN (by omega) dX10_two_56 ?_
  refine gj_iconst (v := (-1)) dX10_two_57 (by decide) ?_
  refine gj_top (y := nI 4294967295) (by decide) ?_
  refine gj_ixorN  dX10_two_58 ?_
  refine gj_iandN dX10_two_59 ?_
  refine gj_istore (L' := [some (.ref 0), some (.int (nI a)), some (.int (nI c)), some (.int (nI (sp_hvy (C 29) (C 30) (fun c => sp_bear (C 22 c) (C 23 c)) (C 27 0)))), some (.int (nI (sp_wo (sp_wo (sp_yess (C 28) (C 29) (C 30) (fun c => sp_bear (C 22 c) (C 23 c)) (C 25 ((C 20 0) % 7)) (C 27 0)) a) c))), none, none, none, none, none]) dX10_two_60 (Nat.le_of_ble_eq_true rfl) rfl ?_
  refine gj_ic (w := 0) dX10_two_62 ?_
  refine gj_istore (L' := [some (.ref 0), some (.int (nI a)), some (.int (nI c)), some (.int (nI (sp_hvy (C 29) (C 30) (fun c => sp_bear (C 22 c) (C 23 c)) (C 27 0)))), some (.int (nI (sp_wo (sp_wo (sp_yess (C 28) (C 29) (C 30) (fun c => sp_bear (C 22 c) (C 23 c)) (C 25 ((C 20 0) % 7)) (C 27 0)) a) c))), some (.int (nI 0)), none, none, none, none]) dX10_two_63 (Nat.le_of_ble_eq_true rfl) rfl ?_
  refine gj_ic (w := 0) dX10_two_65 ?_
  refine gj_istore (L' := [some (.ref 0), some (.int (nI a)), some (.int (nI c)), some (.int (nI (sp_hvy (C 29) (C 30) (fun c => sp_bear (C 22 c) (C 23 c)) (C 27 0)))), some (.int (nI (sp_wo (sp_wo (sp_yess (C 28) (C 29) (C 30) (fun c => sp_bear (C 22 c) (C 23 c)) (C 25 ((C 20 0) % 7)) (C 27 0)) a) c))), some (.int (nI 0)), some (.int (nI 0)), none, none, none]) dX10_two_66 (Nat.le_of_ble_eq_true rfl) rfl ?_
  refine gj_cast (L' := [some (.ref 0), some (.int (nI a)), some (.int (nI c)), some (.int (nI (sp_hvy (C 29) (C 30) (fun c => sp_bear (C 22 c) (C 23 c)) (C 27 0)))), some (.int (nI (sp_wo (sp_wo (sp_yess (C 28) (C 29) (C 30) (fun c => sp_bear (C 22 c) (C 23 c)) (C 25 ((C 20 0) % 7)) (C 27 0)) a) c))), some (.int (nI (mj_bits (fun j => sp_rst (C 29) (C 27 0) (sp_hvy (C 29) (C 30) (fun c => sp_bear (C 22 c) (C 23 c)) (C 27 0)) a (sp_tw (sp_wo (sp_wo (sp_yess (C 28) (C 29) (C 30) (fun c => sp_bear (C 22 c) (C 23 c)) (C 25 ((C 20 0) % 7)) (C 27 0)) a) c) a c j) && sp_rst (C 29) (C 27 0) (sp_hvy (C 29) (C 30) (fun c => sp_bear (C 22 c) (C 23 c)) (C 27 0)) c (sp_tw (sp_wo (sp_wo (sp_yess (C 28) (C 29) (C 30) (fun c => sp_bear (C 22 c) (C 23 c)) (C 25 ((C 20 0) % 7)) (C 27 0)) a) c) a c j)) 0))), some (.int (nI 0)), none, none, none]) (st' := []) (h' := (hh κ C)) rfl rfl rfl ?_
  refine gj_loop (fun j => [some (.ref 0), some (.int (nI a)), some (.int (nI c)), some (.int (nI (sp_hvy (C 29) (C 30) (fun c => sp_bear (C 22 c) (C 23 c)) (C 27 0)))), some (.int (nI (sp_wo (sp_wo (sp_yess (C 28) (C 29) (C 30) (fun c => sp_bear (C 22 c) (C 23 c)) (C 25 ((C 20 0) % 7)) (C 27 0)) a) c))), some (.int (nI (mj_bits (fun j => sp_rst (C 29) (C 27 0) (sp_hvy (C 29) (C 30) (fun c => sp_bear (C 22 c) (C 23 c)) (C 27 0)) a (sp_tw (sp_wo (sp_wo (sp_yess (C 28) (C 29) (C 30) (fun c => sp_bear (C 22 c) (C 23 c)) (C 25 ((C 20 0) % 7)) (C 27 0)) a) c) a c j) && sp_rst (C 29) (C 27 0) (sp_hvy (C 29) (C 30) (fun c => sp_bear (C 22 c) (C 23 c)) (C 27 0)) c (sp_tw (sp_wo (sp_wo (sp_yess (C 28) (C 29) (C 30) (fun c => sp_bear (C 22 c) (C 23 c)) (C 25 ((C 20 0) % 7)) (C 27 0)) a) c) a c j)) j))), some (.int (nI j)), none, none, none]) (fun j => (hh κ C)) 4 ?_ (fun j hj ih => ?_) 0 (by omega)
  · show gj _ _ _ _ _ _ [some (.ref 0), some (.int (nI a)), some (.int (nI c)), some (.int (nI (sp_hvy (C 29) (C 30) (fun c => sp_bear (C 22 c) (C 23 c)) (C 27 0)))), some (.int (nI (sp_wo (sp_wo (sp_yess (C 28) (C 29) (C 30) (fun c => sp_bear (C 22 c) (C 23 c)) (C 25 ((C 20 0) % 7)) (C 27 0)) a) c))), some (.int (nI (mj_bits (fun j => sp_rst (C 29) (C 27 0) (sp_hvy (C 29) (C 30) (fun c => sp_bear (C 22 c) (C 23 c)) (C 27 0)) a (sp_tw (sp_wo (sp_wo (sp_yess (C 28) (C 29) (C 30) (fun c => sp_bear (C 22 c) (C 23 c)) (C 25 ((C 20 0) % 7)) (C 27 0)) a) c) a c j) && sp_rst (C 29) (C 27 0) (sp_hvy (C 29) (C 30) (fun c => sp_bear (C 22 c) (C 23 c)) (C 27 0)) c (sp_tw (sp_wo (sp_wo (sp_yess (C 28) (C 29) (C 30) (fun c => sp_bear (C 22 c) (C 23 c)) (C 25 ((C 20 0) % 7)) (C 27 0)) a) c) a c j)) 4))), some (.int (nI 4)), none, none, none] _ _
    refine gj_iload dX10_two_68 rfl ?_
    refine gj_ic (w := 4) dX10_two_70 ?_
    refine gj_icmp_geN (tgt := 221) (by omega) (by omega) dX10_two_71 rfl (fun zq0 => ?_) (fun zq0 => ?_)
    rotate_left
    · exfalso; omega
    refine gj_iload dX10_two_221 rfl ?_
    exact gj_ir rfl dX10_two_223 rfl rfl rfl
  show gj _ _ _ _ _ _ [some (.ref 0), some (.int (nI a)), some (.int (nI c)), some (.int (nI (sp_hvy (C 29) (C 30) (fun c => sp_bear (C 22 c) (C 23 c)) (C 27 0)))), some (.int (nI (sp_wo (sp_wo (sp_yess (C 28) (C 29) (C 30) (fun c => sp_bear (C 22 c) (C 23 c)) (C 25 ((C 20 0) % 7)) (C 27 0)) a) c))), some (.int (nI (mj_bits (fun j => sp_rst (C 29) (C 27 0) (sp_hvy (C 29) (C 30) (fun c => sp_bear (C 22 c) (C 23 c)) (C 27 0)) a (sp_tw (sp_wo (sp_wo (sp_yess (C 28) (C 29) (C 30) (fun c => sp_bear (C 22 c) (C 23 c)) (C 25 ((C 20 0) % 7)) (C 27 0)) a) c) a c j) && sp_rst (C 29) (C 27 0) (sp_hvy (C 29) (C 30) (fun c => sp_bear (C 22 c) (C 23 c)) (C 27 0)) c (sp_tw (sp_wo (sp_wo (sp_yess (C 28) (C 29) (C 30) (fun c => sp_bear (C 22 c) (C 23 c)) (C 25 ((C 20 0) % 7)) (C 27 0)) a) c) a c j)) j))), some (.int (nI j)), none, none, none] _ _
  refine gj_iload dX10_two_68 rfl ?_
  refine gj_ic (w := 4) dX10_two_70 ?_
  refine gj_icmp_geN (tgt := 221) (by omega) (by omega) dX10_two_71 rfl (fun zq4 => ?_) (fun zq4 => ?_)
  · exfalso; omega
  refine gj_cut 112 [some (.ref 0), some (.int (nI a)), some (.int (nI c)), some (.int (nI (sp_hvy (C 29) (C 30) (fun c => sp_bear (C 22 c) (C 23 c)) (C 27 0)))), some (.int (nI (sp_wo (sp_wo (sp_yess (C 28) (C 29) (C 30) (fun c => sp_bear (C 22 c) (C 23 c)) (C 25 ((C 20 0) % 7)) (C 27 0)) a) c))), some (.int (nI (mj_bits (fun j => sp_rst (C 29) (C 27 0) (sp_hvy (C 29) (C 30) (fun c => sp_bear (C 22 c) (C 23 c)) (C 27 0)) a (sp_tw (sp_wo (sp_wo (sp_yess (C 28) (C 29) (C 30) (fun c => sp_bear (C 22 c) (C 23 c)) (C 25 ((C 20 0) % 7)) (C 27 0)) a) c) a c j) && sp_rst (C 29) (C 27 0) (sp_hvy (C 29) (C 30) (fun c => sp_bear (C 22 c) (C 23 c)) (C 27 0)) c (sp_tw (sp_wo (sp_wo (sp_yess (C 28) (C 29) (C 30) (fun c => sp_bear (C 22 c) (C 23 c)) (C 25 ((C 20 0) % 7)) (C 27 0)) a) c) a c j)) j))), some (.int (nI j)), some (.int (nI (sp_tw (sp_wo (sp_wo (sp_yess (C 28) (C 29) (C 30) (fun c => sp_bear (C 22 c) (C 23 c)) (C 25 ((C 20 0) % 7)) (C 27 0)) a) c) a c j))), none, none] [] ((hh κ C)) ?_ (fun jn112 => ?_)
  · -- behind 112
    have hT : (sp_tw (sp_wo (sp_wo (sp_yess (C 28) (C 29) (C 30) (fun c => sp_bear (C 22 c) (C 23 c)) (C 25 ((C 20 0) % 7)) (C 27 0)) a) c) a c j) < 128 := sp_tw_lt hO (by omega) (by omega)
    refine gj_aload_n dX10_two_112 rfl ?_
    refine gfX10_10 rfl dX10_two_113 (hc0 κ C) rfl ?_
    refine gfX10_73 rfl dX10_two_116 (hc20 κ C) rfl ?_
    refine gj_iload_n dX10_two_119 rfl ?_
    refine gj_iload dX10_two_120 rfl ?_
    refine gj_iload_n dX10_two_122 rfl ?_
    refine gj_V1 lkX10_291 (hc27 κ C) rfl rfl (ev_X7_gain ⟨(hc27 κ C), (hc28 κ C), (hc29 κ C), (hc30 κ C), (by omega), (show ∀ c, C 28 c ≤ 5 from I.1 8 (by decide)), (show ∀ c, C 29 c ≤ 99 from I.1 9 (by decide)), (show ∀ c, C 30 c ≤ 24 from I.1 10 (by decide))⟩ (by omega) hT (by omega)) dX10_two_123 rfl rfl rfl rfl rfl ?_
    refine gj_aload_n dX10_two_126 rfl ?_
    refine gfX10_10 rfl dX10_two_127 (hc0 κ C) rfl ?_
    refine gfX10_73 rfl dX10_two_130 (hc20 κ C) rfl ?_
    refine gj_iload_n dX10_two_133 rfl ?_
    refine gj_iload dX10_two_134 rfl ?_
    refine gj_ic (w := 1) dX10_two_136 ?_
    refine gj_iload_n dX10_two_137 rfl ?_
    refine gj_ishlN (by omega) dX10_two_138 ?_
    refine gj_ixorN  dX10_two_139 ?_
    refine gj_iload_n dX10_two_140 rfl ?_
    refine gj_V1 lkX10_291 (hc27 κ C) rfl rfl (ev_X7_gain ⟨(hc27 κ C), (hc28 κ C), (hc29 κ C), (hc30 κ C), (by omega), (show ∀ c, C 28 c ≤ 5 from I.1 8 (by decide)), (show ∀ c, C 29 c ≤ 99 from I.1 9 (by decide)), (show ∀ c, C 30 c ≤ 24 from I.1 10 (by decide))⟩ (by omega) (Nat.xor_lt_two_pow (n := 7) hT (mj_sh128 (by omega))) (by omega)) dX10_two_141 rfl rfl rfl rfl rfl ?_
    refine gj_icmp_lt (tgt := 151) dX10_two_144 rfl (fun zq5 => ?_) (fun zq5 => ?_)
    · -- 144 taken
      have hr1 : sp_rst (C 29) (C 27 0) (sp_hvy (C 29) (C 30) (fun c => sp_bear (C 22 c) (C 23 c)) (C 27 0)) a (sp_tw (sp_wo (sp_wo (sp_yess (C 28) (C 29) (C 30) (fun c => sp_bear (C 22 c) (C 23 c)) (C 25 ((C 20 0) % 7)) (C 27 0)) a) c) a c j) = false := decide_eq_false (Int32.not_le.mpr zq5)
      refine gj_ic (w := 0) dX10_two_151 ?_
      refine gj_istore (L' := [some (.ref 0), some (.int (nI a)), some (.int (nI c)), some (.int (nI (sp_hvy (C 29) (C 30) (fun c => sp_bear (C 22 c) (C 23 c)) (C 27 0)))), some (.int (nI (sp_wo (sp_wo (sp_yess (C 28) (C 29) (C 30) (fun c => sp_bear (C 22 c) (C 23 c)) (C 25 ((C 20 0) % 7)) (C 27 0)) a) c))), some (.int (nI (mj_bits (fun j => sp_rst (C 29) (C 27 0) (sp_hvy (C 29) (C 30) (fun c => sp_bear (C 22 c) (C 23 c)) (C 27 0)) a (sp_tw (sp_wo (sp_wo (sp_yess (C 28) (C 29) (C 30) (fun c => sp_bear (C 22 c) (C 23 c)) (C 25 ((C 20 0) % 7)) (C 27 0)) a) c) a c j) && sp_rst (C 29) (C 27 0) (sp_hvy (C 29) (C 30) (fun c => sp_bear (C 22 c) (C 23 c)) (C 27 0)) c (sp_tw (sp_wo (sp_wo (sp_yess (C 28) (C 29) (C 30) (fun c => sp_bear (C 22 c) (C 23 c)) (C 25 ((C 20 0) % 7)) (C 27 0)) a) c) a c j)) j))), some (.int (nI j)), some (.int (nI (sp_tw (sp_wo (sp_wo (sp_yess (C 28) (C 29) (C 30) (fun c => sp_bear (C 22 c) (C 23 c)) (C 25 ((C 20 0) % 7)) (C 27 0)) a) c) a c j))), some (.int (nI 0)), none]) dX10_two_152 (Nat.le_of_ble_eq_true rfl) rfl ?_
      refine gj_aload_n dX10_two_154 rfl ?_
      refine gfX10_10 rfl dX10_two_155 (hc0 κ C) rfl ?_
      refine gfX10_73 rfl dX10_two_158 (hc20 κ C) rfl ?_
      refine gj_iload_n dX10_two_161 rfl ?_
      refine gj_iload dX10_two_162 rfl ?_
      refine gj_iload_n dX10_two_164 rfl ?_
      refine gj_V1 lkX10_291 (hc27 κ C) rfl rfl (ev_X7_gain ⟨(hc27 κ C), (hc28 κ C), (hc29 κ C), (hc30 κ C), (by omega), (show ∀ c, C 28 c ≤ 5 from I.1 8 (by decide)), (show ∀ c, C 29 c ≤ 99 from I.1 9 (by decide)), (show ∀ c, C 30 c ≤ 24 from I.1 10 (by decide))⟩ (by omega) hT (by omega)) dX10_two_165 rfl rfl rfl rfl rfl ?_
      refine gj_aload_n dX10_two_168 rfl ?_
      refine gfX10_10 rfl dX10_two_169 (hc0 κ C) rfl ?_
      refine gfX10_73 rfl dX10_two_172 (hc20 κ C) rfl ?_
      refine gj_iload_n dX10_two_175 rfl ?_
      refine gj_iload dX10_two_176 rfl ?_
      refine gj_ic (w := 1) dX10_two_178 ?_
      refine gj_iload_n dX10_two_179 rfl ?_
      refine gj_ishlN (by omega) dX10_two_180 ?_
      refine gj_ixorN  dX10_two_181 ?_
      refine gj_iload_n dX10_two_182 rfl ?_
      refine gj_V1 lkX10_291 (hc27 κ C) rfl rfl (ev_X7_gain ⟨(hc27 κ C), (hc28 κ C), (hc29 κ C), (hc30 κ C), (by omega), (show ∀ c, C 28 c ≤ 5 from I.1 8 (by decide)), (show ∀ c, C 29 c ≤ 99 from I.1 9 (by decide)), (show ∀ c, C 30 c ≤ 24 from I.1 10 (by decide))⟩ (by omega) (Nat.xor_lt_two_pow (n := 7) hT (mj_sh128 (by omega))) (by omega)) dX10_two_183 rfl rfl rfl rfl rfl ?_
      refine gj_icmp_lt (tgt := 193) dX10_two_186 rfl (fun zq6 => ?_) (fun zq6 => ?_)
      · -- 186 taken
        have hr2 : sp_rst (C 29) (C 27 0) (sp_hvy (C 29) (C 30) (fun c => sp_bear (C 22 c) (C 23 c)) (C 27 0)) c (sp_tw (sp_wo (sp_wo (sp_yess (C 28) (C 29) (C 30) (fun c => sp_bear (C 22 c) (C 23 c)) (C 25 ((C 20 0) % 7)) (C 27 0)) a) c) a c j) = false := decide_eq_false (Int32.not_le.mpr zq6)
        have hw9 : (fun j => sp_rst (C 29) (C 27 0) (sp_hvy (C 29) (C 30) (fun c => sp_bear (C 22 c) (C 23 c)) (C 27 0)) a (sp_tw (sp_wo (sp_wo (sp_yess (C 28) (C 29) (C 30) (fun c => sp_bear (C 22 c) (C 23 c)) (C 25 ((C 20 0) % 7)) (C 27 0)) a) c) a c j) && sp_rst (C 29) (C 27 0) (sp_hvy (C 29) (C 30) (fun c => sp_bear (C 22 c) (C 23 c)) (C 27 0)) c (sp_tw (sp_wo (sp_wo (sp_yess (C 28) (C 29) (C 30) (fun c => sp_bear (C 22 c) (C 23 c)) (C 25 ((C 20 0) % 7)) (C 27 0)) a) c) a c j)) j = false := by show (_ && _) = false; rw [hr2, Bool.and_false]
        refine gj_ic (w := 0) dX10_two_193 ?_
        refine gj_istore (L' := [some (.ref 0), some (.int (nI a)), some (.int (nI c)), some (.int (nI (sp_hvy (C 29) (C 30) (fun c => sp_bear (C 22 c) (C 23 c)) (C 27 0)))), some (.int (nI (sp_wo (sp_wo (sp_yess (C 28) (C 29) (C 30) (fun c => sp_bear (C 22 c) (C 23 c)) (C 25 ((C 20 0) % 7)) (C 27 0)) a) c))), some (.int (nI (mj_bits (fun j => sp_rst (C 29) (C 27 0) (sp_hvy (C 29) (C 30) (fun c => sp_bear (C 22 c) (C 23 c)) (C 27 0)) a (sp_tw (sp_wo (sp_wo (sp_yess (C 28) (C 29) (C 30) (fun c => sp_bear (C 22 c) (C 23 c)) (C 25 ((C 20 0) % 7)) (C 27 0)) a) c) a c j) && sp_rst (C 29) (C 27 0) (sp_hvy (C 29) (C 30) (fun c => sp_bear (C 22 c) (C 23 c)) (C 27 0)) c (sp_tw (sp_wo (sp_wo (sp_yess (C 28) (C 29) (C 30) (fun c => sp_bear (C 22 c) (C 23 c)) (C 25 ((C 20 0) % 7)) (C 27 0)) a) c) a c j)) j))), some (.int (nI j)), some (.int (nI (sp_tw (sp_wo (sp_wo (sp_yess (C 28) (C 29) (C 30) (fun c => sp_bear (C 22 c) (C 23 c)) (C 25 ((C 20 0) % 7)) (C 27 0)) a) c) a c j))), some (.int (nI 0)), some (.int (nI 0))]) dX10_two_194 (Nat.le_of_ble_eq_true rfl) rfl ?_
        refine gj_iload dX10_two_196 rfl ?_
        refine gj_if_eqN (tgt := 215) (by omega) dX10_two_198 rfl (fun zq0 => ?_) (fun zq0 => ?_)
        rotate_left
        · exfalso; revert zq0; decide
        refine gj_iincN (L' := [some (.ref 0), some (.int (nI a)), some (.int (nI c)), some (.int (nI (sp_hvy (C 29) (C 30) (fun c => sp_bear (C 22 c) (C 23 c)) (C 27 0)))), some (.int (nI (sp_wo (sp_wo (sp_yess (C 28) (C 29) (C 30) (fun c => sp_bear (C 22 c) (C 23 c)) (C 25 ((C 20 0) % 7)) (C 27 0)) a) c))), some (.int (nI (mj_bits (fun j => sp_rst (C 29) (C 27 0) (sp_hvy (C 29) (C 30) (fun c => sp_bear (C 22 c) (C 23 c)) (C 27 0)) a (sp_tw (sp_wo (sp_wo (sp_yess (C 28) (C 29) (C 30) (fun c => sp_bear (C 22 c) (C 23 c)) (C 25 ((C 20 0) % 7)) (C 27 0)) a) c) a c j) && sp_rst (C 29) (C 27 0) (sp_hvy (C 29) (C 30) (fun c => sp_bear (C 22 c) (C 23 c)) (C 27 0)) c (sp_tw (sp_wo (sp_wo (sp_yess (C 28) (C 29) (C 30) (fun c => sp_bear (C 22 c) (C 23 c)) (C 25 ((C 20 0) % 7)) (C 27 0)) a) c) a c j)) j))), some (.int (nI (j + 1))), some (.int (nI (sp_tw (sp_wo (sp_wo (sp_yess (C 28) (C 29) (C 30) (fun c => sp_bear (C 22 c) (C 23 c)) (C 25 ((C 20 0) % 7)) (C 27 0)) a) c) a c j))), some (.int (nI 0)), some (.int (nI 0))]) dX10_two_215 rfl (Nat.le_of_ble_eq_true rfl) rfl ?_
        refine gj_goto (tgt := 68) dX10_two_218 rfl ?_
        refine gj_forget (i := 7) (L' := [some (.ref 0), some (.int (nI a)), some (.int (nI c)), some (.int (nI (sp_hvy (C 29) (C 30) (fun c => sp_bear (C 22 c) (C 23 c)) (C 27 0)))), some (.int (nI (sp_wo (sp_wo (sp_yess (C 28) (C 29) (C 30) (fun c => sp_bear (C 22 c) (C 23 c)) (C 25 ((C 20 0) % 7)) (C 27 0)) a) c))), some (.int (nI (mj_bits (fun j => sp_rst (C 29) (C 27 0) (sp_hvy (C 29) (C 30) (fun c => sp_bear (C 22 c) (C 23 c)) (C 27 0)) a (sp_tw (sp_wo (sp_wo (sp_yess (C 28) (C 29) (C 30) (fun c => sp_bear (C 22 c) (C 23 c)) (C 25 ((C 20 0) % 7)) (C 27 0)) a) c) a c j) && sp_rst (C 29) (C 27 0) (sp_hvy (C 29) (C 30) (fun c => sp_bear (C 22 c) (C 23 c)) (C 27 0)) c (sp_tw (sp_wo (sp_wo (sp_yess (C 28) (C 29) (C 30) (fun c => sp_bear (C 22 c) (C 23 c)) (C 25 ((C 20 0) % 7)) (C 27 0)) a) c) a c j)) j))), some (.int (nI (j + 1))), none, some (.int (nI 0)), some (.int (nI 0))]) rfl ?_
        refine gj_forget (i := 8) (L' := [some (.ref 0), some (.int (nI a)), some (.int (nI c)), some (.int (nI (sp_hvy (C 29) (C 30) (fun c => sp_bear (C 22 c) (C 23 c)) (C 27 0)))), some (.int (nI (sp_wo (sp_wo (sp_yess (C 28) (C 29) (C 30) (fun c => sp_bear (C 22 c) (C 23 c)) (C 25 ((C 20 0) % 7)) (C 27 0)) a) c))), some (.int (nI (mj_bits (fun j => sp_rst (C 29) (C 27 0) (sp_hvy (C 29) (C 30) (fun c => sp_bear (C 22 c) (C 23 c)) (C 27 0)) a (sp_tw (sp_wo (sp_wo (sp_yess (C 28) (C 29) (C 30) (fun c => sp_bear (C 22 c) (C 23 c)) (C 25 ((C 20 0) % 7)) (C 27 0)) a) c) a c j) && sp_rst (C 29) (C 27 0) (sp_hvy (C 29) (C 30) (fun c => sp_bear (C 22 c) (C 23 c)) (C 27 0)) c (sp_tw (sp_wo (sp_wo (sp_yess (C 28) (C 29) (C 30) (fun c => sp_bear (C 22 c) (C 23 c)) (C 25 ((C 20 0) % 7)) (C 27 0)) a) c) a c j)) j))), some (.int (nI (j + 1))), none, none, some (.int (nI 0))]) rfl ?_
        refine gj_forget (i := 9) (L' := [some (.ref 0), some (.int (nI a)), some (.int (nI c)), some (.int (nI (sp_hvy (C 29) (C 30) (fun c => sp_bear (C 22 c) (C 23 c)) (C 27 0)))), some (.int (nI (sp_wo (sp_wo (sp_yess (C 28) (C 29) (C 30) (fun c => sp_bear (C 22 c) (C 23 c)) (C 25 ((C 20 0) % 7)) (C 27 0)) a) c))), some (.int (nI (mj_bits (fun j => sp_rst (C 29) (C 27 0) (sp_hvy (C 29) (C 30) (fun c => sp_bear (C 22 c) (C 23 c)) (C 27 0)) a (sp_tw (sp_wo (sp_wo (sp_yess (C 28) (C 29) (C 30) (fun c => sp_bear (C 22 c) (C 23 c)) (C 25 ((C 20 0) % 7)) (C 27 0)) a) c) a c j) && sp_rst (C 29) (C 27 0) (sp_hvy (C 29) (C 30) (fun c => sp_bear (C 22 c) (C 23 c)) (C 27 0)) c (sp_tw (sp_wo (sp_wo (sp_yess (C 28) (C 29) (C 30) (fun c => sp_bear (C 22 c) (C 23 c)) (C 25 ((C 20 0) % 7)) (C 27 0)) a) c) a c j)) j))), some (.int (nI (j + 1))), none, none, none]) rfl ?_
        exact gj_cast (by first | rw [mj_bits_t (p := (fun j => sp_rst (C 29) (C 27 0) (sp_hvy (C 29) (C 30) (fun c => sp_bear (C 22 c) (C 23 c)) (C 27 0)) a (sp_tw (sp_wo (sp_wo (sp_yess (C 28) (C 29) (C 30) (fun c => sp_bear (C 22 c) (C 23 c)) (C 25 ((C 20 0) % 7)) (C 27 0)) a) c) a c j) && sp_rst (C 29) (C 27 0) (sp_hvy (C 29) (C 30) (fun c => sp_bear (C 22 c) (C 23 c)) (C 27 0)) c (sp_tw (sp_wo (sp_wo (sp_yess (C 28) (C 29) (C 30) (fun c => sp_bear (C 22 c) (C 23 c)) (C 25 ((C 20 0) % 7)) (C 27 0)) a) c) a c j))) hw9] | rw [mj_bits_f (p := (fun j => sp_rst (C 29) (C 27 0) (sp_hvy (C 29) (C 30) (fun c => sp_bear (C 22 c) (C 23 c)) (C 27 0)) a (sp_tw (sp_wo (sp_wo (sp_yess (C 28) (C 29) (C 30) (fun c => sp_bear (C 22 c) (C 23 c)) (C 25 ((C 20 0) % 7)) (C 27 0)) a) c) a c j) && sp_rst (C 29) (C 27 0) (sp_hvy (C 29) (C 30) (fun c => sp_bear (C 22 c) (C 23 c)) (C 27 0)) c (sp_tw (sp_wo (sp_wo (sp_yess (C 28) (C 29) (C 30) (fun c => sp_bear (C 22 c) (C 23 c)) (C 25 ((C 20 0) % 7)) (C 27 0)) a) c) a c j))) hw9]) rfl rfl ih
      have hr2 : sp_rst (C 29) (C 27 0) (sp_hvy (C 29) (C 30) (fun c => sp_bear (C 22 c) (C 23 c)) (C 27 0)) c (sp_tw (sp_wo (sp_wo (sp_yess (C 28) (C 29) (C 30) (fun c => sp_bear (C 22 c) (C 23 c)) (C 25 ((C 20 0) % 7)) (C 27 0)) a) c) a c j) = true := decide_eq_true (Int32.not_lt.mp zq6)
      have hw9 : (fun j => sp_rst (C 29) (C 27 0) (sp_hvy (C 29) (C 30) (fun c => sp_bear (C 22 c) (C 23 c)) (C 27 0)) a (sp_tw (sp_wo (sp_wo (sp_yess (C 28) (C 29) (C 30) (fun c => sp_bear (C 22 c) (C 23 c)) (C 25 ((C 20 0) % 7)) (C 27 0)) a) c) a c j) && sp_rst (C 29) (C 27 0) (sp_hvy (C 29) (C 30) (fun c => sp_bear (C 22 c) (C 23 c)) (C 27 0)) c (sp_tw (sp_wo (sp_wo (sp_yess (C 28) (C 29) (C 30) (fun c => sp_bear (C 22 c) (C 23 c)) (C 25 ((C 20 0) % 7)) (C 27 0)) a) c) a c j)) j = sp_rst (C 29) (C 27 0) (sp_hvy (C 29) (C 30) (fun c => sp_bear (C 22 c) (C 23 c)) (C 27 0)) a (sp_tw (sp_wo (sp_wo (sp_yess (C 28) (C 29) (C 30) (fun c => sp_bear (C 22 c) (C 23 c)) (C 25 ((C 20 0) % 7)) (C 27 0)) a) c) a c j) := by show (_ && _) = _; rw [hr2, Bool.and_true]
      rw [hr1] at hw9
      refine gj_ic (w := 1) dX10_two_189 ?_
      refine gj_goto (tgt := 194) dX10_two_190 rfl ?_
      refine gj_istore (L' := [some (.ref 0), some (.int (nI a)), some (.int (nI c)), some (.int (nI (sp_hvy (C 29) (C 30) (fun c => sp_bear (C 22 c) (C 23 c)) (C 27 0)))), some (.int (nI (sp_wo (sp_wo (sp_yess (C 28) (C 29) (C 30) (fun c => sp_bear (C 22 c) (C 23 c)) (C 25 ((C 20 0) % 7)) (C 27 0)) a) c))), some (.int (nI (mj_bits (fun j => sp_rst (C 29) (C 27 0) (sp_hvy (C 29) (C 30) (fun c => sp_bear (C 22 c) (C 23 c)) (C 27 0)) a (sp_tw (sp_wo (sp_wo (sp_yess (C 28) (C 29) (C 30) (fun c => sp_bear (C 22 c) (C 23 c)) (C 25 ((C 20 0) % 7)) (C 27 0)) a) c) a c j) && sp_rst (C 29) (C 27 0) (sp_hvy (C 29) (C 30) (fun c => sp_bear (C 22 c) (C 23 c)) (C 27 0)) c (sp_tw (sp_wo (sp_wo (sp_yess (C 28) (C 29) (C 30) (fun c => sp_bear (C 22 c) (C 23 c)) (C 25 ((C 20 0) % 7)) (C 27 0)) a) c) a c j)) j))), some (.int (nI j)), some (.int (nI (sp_tw (sp_wo (sp_wo (sp_yess (C 28) (C 29) (C 30) (fun c => sp_bear (C 22 c) (C 23 c)) (C 25 ((C 20 0) % 7)) (C 27 0)) a) c) a c j))), some (.int (nI 0)), some (.int (nI 1))]) dX10_two_194 (Nat.le_of_ble_eq_true rfl) rfl ?_
      refine gj_iload dX10_two_196 rfl ?_
      refine gj_if_eqN (tgt := 215) (by omega) dX10_two_198 rfl (fun zq0 => ?_) (fun zq0 => ?_)
      rotate_left
      · exfalso; revert zq0; decide
      refine gj_iincN (L' := [some (.ref 0), some (.int (nI a)), some (.int (nI c)), some (.int (nI (sp_hvy (C 29) (C 30) (fun c => sp_bear (C 22 c) (C 23 c)) (C 27 0)))), some (.int (nI (sp_wo (sp_wo (sp_yess (C 28) (C 29) (C 30) (fun c => sp_bear (C 22 c) (C 23 c)) (C 25 ((C 20 0) % 7)) (C 27 0)) a) c))), some (.int (nI (mj_bits (fun j => sp_rst (C 29) (C 27 0) (sp_hvy (C 29) (C 30) (fun c => sp_bear (C 22 c) (C 23 c)) (C 27 0)) a (sp_tw (sp_wo (sp_wo (sp_yess (C 28) (C 29) (C 30) (fun c => sp_bear (C 22 c) (C 23 c)) (C 25 ((C 20 0) % 7)) (C 27 0)) a) c) a c j) && sp_rst (C 29) (C 27 0) (sp_hvy (C 29) (C 30) (fun c => sp_bear (C 22 c) (C 23 c)) (C 27 0)) c (sp_tw (sp_wo (sp_wo (sp_yess (C 28) (C 29) (C 30) (fun c => sp_bear (C 22 c) (C 23 c)) (C 25 ((C 20 0) % 7)) (C 27 0)) a) c) a c j)) j))), some (.int (nI (j + 1))), some (.int (nI (sp_tw (sp_wo (sp_wo (sp_yess (C 28) (C 29) (C 30) (fun c => sp_bear (C 22 c) (C 23 c)) (C 25 ((C 20 0) % 7)) (C 27 0)) a) c) a c j))), some (.int (nI 0)), some (.int (nI 1))]) dX10_two_215 rfl (Nat.le_of_ble_eq_true rfl) rfl ?_
      refine gj_goto (tgt := 68) dX10_two_218 rfl ?_
      refine gj_forget (i := 7) (L' := [some (.ref 0), some (.int (nI a)), some (.int (nI c)), some (.int (nI (sp_hvy (C 29) (C 30) (fun c => sp_bear (C 22 c) (C 23 c)) (C 27 0)))), some (.int (nI (sp_wo (sp_wo (sp_yess (C 28) (C 29) (C 30) (fun c => sp_bear (C 22 c) (C 23 c)) (C 25 ((C 20 0) % 7)) (C 27 0)) a) c))), some (.int (nI (mj_bits (fun j => sp_rst (C 29) (C 27 0) (sp_hvy (C 29) (C 30) (fun c => sp_bear (C 22 c) (C 23 c)) (C 27 0)) a (sp_tw (sp_wo (sp_wo (sp_yess (C 28) (C 29) (C 30) (fun c => sp_bear (C 22 c) (C 23 c)) (C 25 ((C 20 0) % 7)) (C 27 0)) a) c) a c j) && sp_rst (C 29) (C 27 0) (sp_hvy (C 29) (C 30) (fun c => sp_bear (C 22 c) (C 23 c)) (C 27 0)) c (sp_tw (sp_wo (sp_wo (sp_yess (C 28) (C 29) (C 30) (fun c => sp_bear (C 22 c) (C 23 c)) (C 25 ((C 20 0) % 7)) (C 27 0)) a) c) a c j)) j))), some (.int (nI (j + 1))), none, some (.int (nI 0)), some (.int (nI 1))]) rfl ?_
      refine gj_forget (i := 8) (L' := [some (.ref 0), some (.int (nI a)), some (.int (nI c)), some (.int (nI (sp_hvy (C 29) (C 30) (fun c => sp_bear (C 22 c) (C 23 c)) (C 27 0)))), some (.int (nI (sp_wo (sp_wo (sp_yess (C 28) (C 29) (C 30) (fun c => sp_bear (C 22 c) (C 23 c)) (C 25 ((C 20 0) % 7)) (C 27 0)) a) c))), some (.int (nI (mj_bits (fun j => sp_rst (C 29) (C 27 0) (sp_hvy (C 29) (C 30) (fun c => sp_bear (C 22 c) (C 23 c)) (C 27 0)) a (sp_tw (sp_wo (sp_wo (sp_yess (C 28) (C 29) (C 30) (fun c => sp_bear (C 22 c) (C 23 c)) (C 25 ((C 20 0) % 7)) (C 27 0)) a) c) a c j) && sp_rst (C 29) (C 27 0) (sp_hvy (C 29) (C 30) (fun c => sp_bear (C 22 c) (C 23 c)) (C 27 0)) c (sp_tw (sp_wo (sp_wo (sp_yess (C 28) (C 29) (C 30) (fun c => sp_bear (C 22 c) (C 23 c)) (C 25 ((C 20 0) % 7)) (C 27 0)) a) c) a c j)) j))), some (.int (nI (j + 1))), none, none, some (.int (nI 1))]) rfl ?_
      refine gj_forget (i := 9) (L' := [some (.ref 0), some (.int (nI a)), some (.int (nI c)), some (.int (nI (sp_hvy (C 29) (C 30) (fun c => sp_bear (C 22 c) (C 23 c)) (C 27 0)))), some (.int (nI (sp_wo (sp_wo (sp_yess (C 28) (C 29) (C 30) (fun c => sp_bear (C 22 c) (C 23 c)) (C 25 ((C 20 0) % 7)) (C 27 0)) a) c))), some (.int (nI (mj_bits (fun j => sp_rst (C 29) (C 27 0) (sp_hvy (C 29) (C 30) (fun c => sp_bear (C 22 c) (C 23 c)) (C 27 0)) a (sp_tw (sp_wo (sp_wo (sp_yess (C 28) (C 29) (C 30) (fun c => sp_bear (C 22 c) (C 23 c)) (C 25 ((C 20 0) % 7)) (C 27 0)) a) c) a c j) && sp_rst (C 29) (C 27 0) (sp_hvy (C 29) (C 30) (fun c => sp_bear (C 22 c) (C 23 c)) (C 27 0)) c (sp_tw (sp_wo (sp_wo (sp_yess (C 28) (C 29) (C 30) (fun c => sp_bear (C 22 c) (C 23 c)) (C 25 ((C 20 0) % 7)) (C 27 0)) a) c) a c j)) j))), some (.int (nI (j + 1))), none, none, none]) rfl ?_
      exact gj_cast (by first | rw [mj_bits_t (p := (fun j => sp_rst (C 29) (C 27 0) (sp_hvy (C 29) (C 30) (fun c => sp_bear (C 22 c) (C 23 c)) (C 27 0)) a (sp_tw (sp_wo (sp_wo (sp_yess (C 28) (C 29) (C 30) (fun c => sp_bear (C 22 c) (C 23 c)) (C 25 ((C 20 0) % 7)) (C 27 0)) a) c) a c j) && sp_rst (C 29) (C 27 0) (sp_hvy (C 29) (C 30) (fun c => sp_bear (C 22 c) (C 23 c)) (C 27 0)) c (sp_tw (sp_wo (sp_wo (sp_yess (C 28) (C 29) (C 30) (fun c => sp_bear (C 22 c) (C 23 c)) (C 25 ((C 20 0) % 7)) (C 27 0)) a) c) a c j))) hw9] | rw [mj_bits_f (p := (fun j => sp_rst (C 29) (C 27 0) (sp_hvy (C 29) (C 30) (fun c => sp_bear (C 22 c) (C 23 c)) (C 27 0)) a (sp_tw (sp_wo (sp_wo (sp_yess (C 28) (C 29) (C 30) (fun c => sp_bear (C 22 c) (C 23 c)) (C 25 ((C 20 0) % 7)) (C 27 0)) a) c) a c j) && sp_rst (C 29) (C 27 0) (sp_hvy (C 29) (C 30) (fun c => sp_bear (C 22 c) (C 23 c)) (C 27 0)) c (sp_tw (sp_wo (sp_wo (sp_yess (C 28) (C 29) (C 30) (fun c => sp_bear (C 22 c) (C 23 c)) (C 25 ((C 20 0) % 7)) (C 27 0)) a) c) a c j))) hw9]) rfl rfl ih
    have hr1 : sp_rst (C 29) (C 27 0) (sp_hvy (C 29) (C 30) (fun c => sp_bear (C 22 c) (C 23 c)) (C 27 0)) a (sp_tw (sp_wo (sp_wo (sp_yess (C 28) (C 29) (C 30) (fun c => sp_bear (C 22 c) (C 23 c)) (C 25 ((C 20 0) % 7)) (C 27 0)) a) c) a c j) = true := decide_eq_true (Int32.not_lt.mp zq5)
    refine gj_ic (w := 1) dX10_two_147 ?_
    refine gj_goto (tgt := 152) dX10_two_148 rfl ?_
    refine gj_istore (L' := [some (.ref 0), some (.int (nI a)), some (.int (nI c)), some (.int (nI (sp_hvy (C 29) (C 30) (fun c => sp_bear (C 22 c) (C 23 c)) (C 27 0)))), some (.int (nI (sp_wo (sp_wo (sp_yess (C 28) (C 29) (C 30) (fun c => sp_bear (C 22 c) (C 23 c)) (C 25 ((C 20 0) % 7)) (C 27 0)) a) c))), some (.int (nI (mj_bits (fun j => sp_rst (C 29) (C 27 0) (sp_hvy (C 29) (C 30) (fun c => sp_bear (C 22 c) (C 23 c)) (C 27 0)) a (sp_tw (sp_wo (sp_wo (sp_yess (C 28) (C 29) (C 30) (fun c => sp_bear (C 22 c) (C 23 c)) (C 25 ((C 20 0) % 7)) (C 27 0)) a) c) a c j) && sp_rst (C 29) (C 27 0) (sp_hvy (C 29) (C 30) (fun c => sp_bear (C 22 c) (C 23 c)) (C 27 0)) c (sp_tw (sp_wo (sp_wo (sp_yess (C 28) (C 29) (C 30) (fun c => sp_bear (C 22 c) (C 23 c)) (C 25 ((C 20 0) % 7)) (C 27 0)) a) c) a c j)) j))), some (.int (nI j)), some (.int (nI (sp_tw (sp_wo (sp_wo (sp_yess (C 28) (C 29) (C 30) (fun c => sp_bear (C 22 c) (C 23 c)) (C 25 ((C 20 0) % 7)) (C 27 0)) a) c) a c j))), some (.int (nI 1)), none]) dX10_two_152 (Nat.le_of_ble_eq_true rfl) rfl ?_
    refine gj_aload_n dX10_two_154 rfl ?_
    refine gfX10_10 rfl dX10_two_155 (hc0 κ C) rfl ?_
    refine gfX10_73 rfl dX10_two_158 (hc20 κ C) rfl ?_
    refine gj_iload_n dX10_two_161 rfl ?_
    refine gj_iload dX10_two_162 rfl ?_
    refine gj_iload_n dX10_two_164 rfl ?_
    refine gj_V1 lkX10_291 (hc27 κ C) rfl rfl (ev_X7_gain ⟨(hc27 κ C), (hc28 κ C), (hc29 κ C), (hc30 κ C), (by omega), (show ∀ c, C 28 c ≤ 5 from I.1 8 (by decide)), (show ∀ c, C 29 c ≤ 99 from I.1 9 (by decide)), (show ∀ c, C 30 c ≤ 24 from I.1 10 (by decide))⟩ (by omega) hT (by omega)) dX10_two_165 rfl rfl rfl rfl rfl ?_
    refine gj_aload_n dX10_two_168 rfl ?_
    refine gfX10_10 rfl dX10_two_169 (hc0 κ C) rfl ?_
    refine gfX10_73 rfl dX10_two_172 (hc20 κ C) rfl ?_
    refine gj_iload_n dX10_two_175 rfl ?_
    refine gj_iload dX10_two_176 rfl ?_
    refine gj_ic (w := 1) dX10_two_178 ?_
    refine gj_iload_n dX10_two_179 rfl ?_
    refine gj_ishlN (by omega) dX10_two_180 ?_
    refine gj_ixorN  dX10_two_181 ?_
    refine gj_iload_n dX10_two_182 rfl ?_
    refine gj_V1 lkX10_291 (hc27 κ C) rfl rfl (ev_X7_gain ⟨(hc27 κ C), (hc28 κ C), (hc29 κ C), (hc30 κ C), (by omega), (show ∀ c, C 28 c ≤ 5 from I.1 8 (by decide)), (show ∀ c, C 29 c ≤ 99 from I.1 9 (by decide)), (show ∀ c, C 30 c ≤ 24 from I.1 10 (by decide))⟩ (by omega) (Nat.xor_lt_two_pow (n := 7) hT (mj_sh128 (by omega))) (by omega)) dX10_two_183 rfl rfl rfl rfl rfl ?_
    refine gj_icmp_lt (tgt := 193) dX10_two_186 rfl (fun zq7 => ?_) (fun zq7 => ?_)
    · -- 186 taken
      have hr2 : sp_rst (C 29) (C 27 0) (sp_hvy (C 29) (C 30) (fun c => sp_bear (C 22 c) (C 23 c)) (C 27 0)) c (sp_tw (sp_wo (sp_wo (sp_yess (C 28) (C 29) (C 30) (fun c => sp_bear (C 22 c) (C 23 c)) (C 25 ((C 20 0) % 7)) (C 27 0)) a) c) a c j) = false := decide_eq_false (Int32.not_le.mpr zq7)
      have hw9 : (fun j => sp_rst (C 29) (C 27 0) (sp_hvy (C 29) (C 30) (fun c => sp_bear (C 22 c) (C 23 c)) (C 27 0)) a (sp_tw (sp_wo (sp_wo (sp_yess (C 28) (C 29) (C 30) (fun c => sp_bear (C 22 c) (C 23 c)) (C 25 ((C 20 0) % 7)) (C 27 0)) a) c) a c j) && sp_rst (C 29) (C 27 0) (sp_hvy (C 29) (C 30) (fun c => sp_bear (C 22 c) (C 23 c)) (C 27 0)) c (sp_tw (sp_wo (sp_wo (sp_yess (C 28) (C 29) (C 30) (fun c => sp_bear (C 22 c) (C 23 c)) (C 25 ((C 20 0) % 7)) (C 27 0)) a) c) a c j)) j = false := by show (_ && _) = false; rw [hr2, Bool.and_false]
      refine gj_ic (w := 0) dX10_two_193 ?_
      refine gj_istore (L' := [some (.ref 0), some (.int (nI a)), some (.int (nI c)), some (.int (nI (sp_hvy (C 29) (C 30) (fun c => sp_bear (C 22 c) (C 23 c)) (C 27 0)))), some (.int (nI (sp_wo (sp_wo (sp_yess (C 28) (C 29) (C 30) (fun c => sp_bear (C 22 c) (C 23 c)) (C 25 ((C 20 0) % 7)) (C 27 0)) a) c))), some (.int (nI (mj_bits (fun j => sp_rst (C 29) (C 27 0) (sp_hvy (C 29) (C 30) (fun c => sp_bear (C 22 c) (C 23 c)) (C 27 0)) a (sp_tw (sp_wo (sp_wo (sp_yess (C 28) (C 29) (C 30) (fun c => sp_bear (C 22 c) (C 23 c)) (C 25 ((C 20 0) % 7)) (C 27 0)) a) c) a c j) && sp_rst (C 29) (C 27 0) (sp_hvy (C 29) (C 30) (fun c => sp_bear (C 22 c) (C 23 c)) (C 27 0)) c (sp_tw (sp_wo (sp_wo (sp_yess (C 28) (C 29) (C 30) (fun c => sp_bear (C 22 c) (C 23 c)) (C 25 ((C 20 0) % 7)) (C 27 0)) a) c) a c j)) j))), some (.int (nI j)), some (.int (nI (sp_tw (sp_wo (sp_wo (sp_yess (C 28) (C 29) (C 30) (fun c => sp_bear (C 22 c) (C 23 c)) (C 25 ((C 20 0) % 7)) (C 27 0)) a) c) a c j))), some (.int (nI 1)), some (.int (nI 0))]) dX10_two_194 (Nat.le_of_ble_eq_true rfl) rfl ?_
      refine gj_iload dX10_two_196 rfl ?_
      refine gj_if_eqN (tgt := 215) (by omega) dX10_two_198 rfl (fun zq0 => ?_) (fun zq0 => ?_)
      · exfalso; revert zq0; decide
      refine gj_iload dX10_two_201 rfl ?_
      refine gj_if_eqN (tgt := 215) (by omega) dX10_two_203 rfl (fun zq0 => ?_) (fun zq0 => ?_)
      rotate_left
      · exfalso; revert zq0; decide
      refine gj_iincN (L' := [some (.ref 0), some (.int (nI a)), some (.int (nI c)), some (.int (nI (sp_hvy (C 29) (C 30) (fun c => sp_bear (C 22 c) (C 23 c)) (C 27 0)))), some (.int (nI (sp_wo (sp_wo (sp_yess (C 28) (C 29) (C 30) (fun c => sp_bear (C 22 c) (C 23 c)) (C 25 ((C 20 0) % 7)) (C 27 0)) a) c))), some (.int (nI (mj_bits (fun j => sp_rst (C 29) (C 27 0) (sp_hvy (C 29) (C 30) (fun c => sp_bear (C 22 c) (C 23 c)) (C 27 0)) a (sp_tw (sp_wo (sp_wo (sp_yess (C 28) (C 29) (C 30) (fun c => sp_bear (C 22 c) (C 23 c)) (C 25 ((C 20 0) % 7)) (C 27 0)) a) c) a c j) && sp_rst (C 29) (C 27 0) (sp_hvy (C 29) (C 30) (fun c => sp_bear (C 22 c) (C 23 c)) (C 27 0)) c (sp_tw (sp_wo (sp_wo (sp_yess (C 28) (C 29) (C 30) (fun c => sp_bear (C 22 c) (C 23 c)) (C 25 ((C 20 0) % 7)) (C 27 0)) a) c) a c j)) j))), some (.int (nI (j + 1))), some (.int (nI (sp_tw (sp_wo (sp_wo (sp_yess (C 28) (C 29) (C 30) (fun c => sp_bear (C 22 c) (C 23 c)) (C 25 ((C 20 0) % 7)) (C 27 0)) a) c) a c j))), some (.int (nI 1)), some (.int (nI 0))]) dX10_two_215 rfl (Nat.le_of_ble_eq_true rfl) rfl ?_
      refine gj_goto (tgt := 68) dX10_two_218 rfl ?_
      refine gj_forget (i := 7) (L' := [some (.ref 0), some (.int (nI a)), some (.int (nI c)), some (.int (nI (sp_hvy (C 29) (C 30) (fun c => sp_bear (C 22 c) (C 23 c)) (C 27 0)))), some (.int (nI (sp_wo (sp_wo (sp_yess (C 28) (C 29) (C 30) (fun c => sp_bear (C 22 c) (C 23 c)) (C 25 ((C 20 0) % 7)) (C 27 0)) a) c))), some (.int (nI (mj_bits (fun j => sp_rst (C 29) (C 27 0) (sp_hvy (C 29) (C 30) (fun c => sp_bear (C 22 c) (C 23 c)) (C 27 0)) a (sp_tw (sp_wo (sp_wo (sp_yess (C 28) (C 29) (C 30) (fun c => sp_bear (C 22 c) (C 23 c)) (C 25 ((C 20 0) % 7)) (C 27 0)) a) c) a c j) && sp_rst (C 29) (C 27 0) (sp_hvy (C 29) (C 30) (fun c => sp_bear (C 22 c) (C 23 c)) (C 27 0)) c (sp_tw (sp_wo (sp_wo (sp_yess (C 28) (C 29) (C 30) (fun c => sp_bear (C 22 c) (C 23 c)) (C 25 ((C 20 0) % 7)) (C 27 0)) a) c) a c j)) j))), some (.int (nI (j + 1))), none, some (.int (nI 1)), some (.int (nI 0))]) rfl ?_
      refine gj_forget (i := 8) (L' := [some (.ref 0), some (.int (nI a)), some (.int (nI c)), some (.int (nI (sp_hvy (C 29) (C 30) (fun c => sp_bear (C 22 c) (C 23 c)) (C 27 0)))), some (.int (nI (sp_wo (sp_wo (sp_yess (C 28) (C 29) (C 30) (fun c => sp_bear (C 22 c) (C 23 c)) (C 25 ((C 20 0) % 7)) (C 27 0)) a) c))), some (.int (nI (mj_bits (fun j => sp_rst (C 29) (C 27 0) (sp_hvy (C 29) (C 30) (fun c => sp_bear (C 22 c) (C 23 c)) (C 27 0)) a (sp_tw (sp_wo (sp_wo (sp_yess (C 28) (C 29) (C 30) (fun c => sp_bear (C 22 c) (C 23 c)) (C 25 ((C 20 0) % 7)) (C 27 0)) a) c) a c j) && sp_rst (C 29) (C 27 0) (sp_hvy (C 29) (C 30) (fun c => sp_bear (C 22 c) (C 23 c)) (C 27 0)) c (sp_tw (sp_wo (sp_wo (sp_yess (C 28) (C 29) (C 30) (fun c => sp_bear (C 22 c) (C 23 c)) (C 25 ((C 20 0) % 7)) (C 27 0)) a) c) a c j)) j))), some (.int (nI (j + 1))), none, none, some (.int (nI 0))]) rfl ?_
      refine gj_forget (i := 9) (L' := [some (.ref 0), some (.int (nI a)), some (.int (nI c)), some (.int (nI (sp_hvy (C 29) (C 30) (fun c => sp_bear (C 22 c) (C 23 c)) (C 27 0)))), some (.int (nI (sp_wo (sp_wo (sp_yess (C 28) (C 29) (C 30) (fun c => sp_bear (C 22 c) (C 23 c)) (C 25 ((C 20 0) % 7)) (C 27 0)) a) c))), some (.int (nI (mj_bits (fun j => sp_rst (C 29) (C 27 0) (sp_hvy (C 29) (C 30) (fun c => sp_bear (C 22 c) (C 23 c)) (C 27 0)) a (sp_tw (sp_wo (sp_wo (sp_yess (C 28) (C 29) (C 30) (fun c => sp_bear (C 22 c) (C 23 c)) (C 25 ((C 20 0) % 7)) (C 27 0)) a) c) a c j) && sp_rst (C 29) (C 27 0) (sp_hvy (C 29) (C 30) (fun c => sp_bear (C 22 c) (C 23 c)) (C 27 0)) c (sp_tw (sp_wo (sp_wo (sp_yess (C 28) (C 29) (C 30) (fun c => sp_bear (C 22 c) (C 23 c)) (C 25 ((C 20 0) % 7)) (C 27 0)) a) c) a c j)) j))), some (.int (nI (j + 1))), none, none, none]) rfl ?_
      exact gj_cast (by first | rw [mj_bits_t (p := (fun j => sp_rst (C 29) (C 27 0) (sp_hvy (C 29) (C 30) (fun c => sp_bear (C 22 c) (C 23 c)) (C 27 0)) a (sp_tw (sp_wo (sp_wo (sp_yess (C 28) (C 29) (C 30) (fun c => sp_bear (C 22 c) (C 23 c)) (C 25 ((C 20 0) % 7)) (C 27 0)) a) c) a c j) && sp_rst (C 29) (C 27 0) (sp_hvy (C 29) (C 30) (fun c => sp_bear (C 22 c) (C 23 c)) (C 27 0)) c (sp_tw (sp_wo (sp_wo (sp_yess (C 28) (C 29) (C 30) (fun c => sp_bear (C 22 c) (C 23 c)) (C 25 ((C 20 0) % 7)) (C 27 0)) a) c) a c j))) hw9] | rw [mj_bits_f (p := (fun j => sp_rst (C 29) (C 27 0) (sp_hvy (C 29) (C 30) (fun c => sp_bear (C 22 c) (C 23 c)) (C 27 0)) a (sp_tw (sp_wo (sp_wo (sp_yess (C 28) (C 29) (C 30) (fun c => sp_bear (C 22 c) (C 23 c)) (C 25 ((C 20 0) % 7)) (C 27 0)) a) c) a c j) && sp_rst (C 29) (C 27 0) (sp_hvy (C 29) (C 30) (fun c => sp_bear (C 22 c) (C 23 c)) (C 27 0)) c (sp_tw (sp_wo (sp_wo (sp_yess (C 28) (C 29) (C 30) (fun c => sp_bear (C 22 c) (C 23 c)) (C 25 ((C 20 0) % 7)) (C 27 0)) a) c) a c j))) hw9]) rfl rfl ih
    have hr2 : sp_rst (C 29) (C 27 0) (sp_hvy (C 29) (C 30) (fun c => sp_bear (C 22 c) (C 23 c)) (C 27 0)) c (sp_tw (sp_wo (sp_wo (sp_yess (C 28) (C 29) (C 30) (fun c => sp_bear (C 22 c) (C 23 c)) (C 25 ((C 20 0) % 7)) (C 27 0)) a) c) a c j) = true := decide_eq_true (Int32.not_lt.mp zq7)
    have hw9 : (fun j => sp_rst (C 29) (C 27 0) (sp_hvy (C 29) (C 30) (fun c => sp_bear (C 22 c) (C 23 c)) (C 27 0)) a (sp_tw (sp_wo (sp_wo (sp_yess (C 28) (C 29) (C 30) (fun c => sp_bear (C 22 c) (C 23 c)) (C 25 ((C 20 0) % 7)) (C 27 0)) a) c) a c j) && sp_rst (C 29) (C 27 0) (sp_hvy (C 29) (C 30) (fun c => sp_bear (C 22 c) (C 23 c)) (C 27 0)) c (sp_tw (sp_wo (sp_wo (sp_yess (C 28) (C 29) (C 30) (fun c => sp_bear (C 22 c) (C 23 c)) (C 25 ((C 20 0) % 7)) (C 27 0)) a) c) a c j)) j = sp_rst (C 29) (C 27 0) (sp_hvy (C 29) (C 30) (fun c => sp_bear (C 22 c) (C 23 c)) (C 27 0)) a (sp_tw (sp_wo (sp_wo (sp_yess (C 28) (C 29) (C 30) (fun c => sp_bear (C 22 c) (C 23 c)) (C 25 ((C 20 0) % 7)) (C 27 0)) a) c) a c j) := by show (_ && _) = _; rw [hr2, Bool.and_true]
    rw [hr1] at hw9
    refine gj_ic (w := 1) dX10_two_189 ?_
    refine gj_goto (tgt := 194) dX10_two_190 rfl ?_
    refine gj_istore (L' := [some (.ref 0), some (.int (nI a)), some (.int (nI c)), some (.int (nI (sp_hvy (C 29) (C 30) (fun c => sp_bear (C 22 c) (C 23 c)) (C 27 0)))), some (.int (nI (sp_wo (sp_wo (sp_yess (C 28) (C 29) (C 30) (fun c => sp_bear (C 22 c) (C 23 c)) (C 25 ((C 20 0) % 7)) (C 27 0)) a) c))), some (.int (nI (mj_bits (fun j => sp_rst (C 29) (C 27 0) (sp_hvy (C 29) (C 30) (fun c => sp_bear (C 22 c) (C 23 c)) (C 27 0)) a (sp_tw (sp_wo (sp_wo (sp_yess (C 28) (C 29) (C 30) (fun c => sp_bear (C 22 c) (C 23 c)) (C 25 ((C 20 0) % 7)) (C 27 0)) a) c) a c j) && sp_rst (C 29) (C 27 0) (sp_hvy (C 29) (C 30) (fun c => sp_bear (C 22 c) (C 23 c)) (C 27 0)) c (sp_tw (sp_wo (sp_wo (sp_yess (C 28) (C 29) (C 30) (fun c => sp_bear (C 22 c) (C 23 c)) (C 25 ((C 20 0) % 7)) (C 27 0)) a) c) a c j)) j))), some (.int (nI j)), some (.int (nI (sp_tw (sp_wo (sp_wo (sp_yess (C 28) (C 29) (C 30) (fun c => sp_bear (C 22 c) (C 23 c)) (C 25 ((C 20 0) % 7)) (C 27 0)) a) c) a c j))), some (.int (nI 1)), some (.int (nI 1))]) dX10_two_194 (Nat.le_of_ble_eq_true rfl) rfl ?_
    refine gj_iload dX10_two_196 rfl ?_
    refine gj_if_eqN (tgt := 215) (by omega) dX10_two_198 rfl (fun zq0 => ?_) (fun zq0 => ?_)
    · exfalso; revert zq0; decide
    refine gj_iload dX10_two_201 rfl ?_
    refine gj_if_eqN (tgt := 215) (by omega) dX10_two_203 rfl (fun zq0 => ?_) (fun zq0 => ?_)
    · exfalso; revert zq0; decide
    refine gj_iload dX10_two_206 rfl ?_
    refine gj_ic (w := 1) dX10_two_208 ?_
    refine gj_iload dX10_two_209 rfl ?_
    refine gj_ishlN (by omega) dX10_two_211 ?_
    refine gj_iorN  dX10_two_212 ?_
    refine gj_istore (L' := [some (.ref 0), some (.int (nI a)), some (.int (nI c)), some (.int (nI (sp_hvy (C 29) (C 30) (fun c => sp_bear (C 22 c) (C 23 c)) (C 27 0)))), some (.int (nI (sp_wo (sp_wo (sp_yess (C 28) (C 29) (C 30) (fun c => sp_bear (C 22 c) (C 23 c)) (C 25 ((C 20 0) % 7)) (C 27 0)) a) c))), some (.int (nI ((mj_bits (fun j => sp_rst (C 29) (C 27 0) (sp_hvy (C 29) (C 30) (fun c => sp_bear (C 22 c) (C 23 c)) (C 27 0)) a (sp_tw (sp_wo (sp_wo (sp_yess (C 28) (C 29) (C 30) (fun c => sp_bear (C 22 c) (C 23 c)) (C 25 ((C 20 0) % 7)) (C 27 0)) a) c) a c j) && sp_rst (C 29) (C 27 0) (sp_hvy (C 29) (C 30) (fun c => sp_bear (C 22 c) (C 23 c)) (C 27 0)) c (sp_tw (sp_wo (sp_wo (sp_yess (C 28) (C 29) (C 30) (fun c => sp_bear (C 22 c) (C 23 c)) (C 25 ((C 20 0) % 7)) (C 27 0)) a) c) a c j)) j) ||| (1 <<< j)))), some (.int (nI j)), some (.int (nI (sp_tw (sp_wo (sp_wo (sp_yess (C 28) (C 29) (C 30) (fun c => sp_bear (C 22 c) (C 23 c)) (C 25 ((C 20 0) % 7)) (C 27 0)) a) c) a c j))), some (.int (nI 1)), some (.int (nI 1))]) dX10_two_213 (Nat.le_of_ble_eq_true rfl) rfl ?_
    refine gj_iincN (L' := [some (.ref 0), some (.int (nI a)), some (.int (nI c)), some (.int (nI (sp_hvy (C 29) (C 30) (fun c => sp_bear (C 22 c) (C 23 c)) (C 27 0)))), some (.int (nI (sp_wo (sp_wo (sp_yess (C 28) (C 29) (C 30) (fun c => sp_bear (C 22 c) (C 23 c)) (C 25 ((C 20 0) % 7)) (C 27 0)) a) c))), some (.int (nI ((mj_bits (fun j => sp_rst (C 29) (C 27 0) (sp_hvy (C 29) (C 30) (fun c => sp_bear (C 22 c) (C 23 c)) (C 27 0)) a (sp_tw (sp_wo (sp_wo (sp_yess (C 28) (C 29) (C 30) (fun c => sp_bear (C 22 c) (C 23 c)) (C 25 ((C 20 0) % 7)) (C 27 0)) a) c) a c j) && sp_rst (C 29) (C 27 0) (sp_hvy (C 29) (C 30) (fun c => sp_bear (C 22 c) (C 23 c)) (C 27 0)) c (sp_tw (sp_wo (sp_wo (sp_yess (C 28) (C 29) (C 30) (fun c => sp_bear (C 22 c) (C 23 c)) (C 25 ((C 20 0) % 7)) (C 27 0)) a) c) a c j)) j) ||| (1 <<< j)))), some (.int (nI (j + 1))), some (.int (nI (sp_tw (sp_wo (sp_wo (sp_yess (C 28) (C 29) (C 30) (fun c => sp_bear (C 22 c) (C 23 c)) (C 25 ((C 20 0) % 7)) (C 27 0)) a) c) a c j))), some (.int (nI 1)), some (.int (nI 1))]) dX10_two_215 rfl (Nat.le_of_ble_eq_true rfl) rfl ?_
    refine gj_goto (tgt := 68) dX10_two_218 rfl ?_
    refine gj_forget (i := 7) (L' := [some (.ref 0), some (.int (nI a)), some (.int (nI c)), some (.int (nI (sp_hvy (C 29) (C 30) (fun c => sp_bear (C 22 c) (C 23 c)) (C 27 0)))), some (.int (nI (sp_wo (sp_wo (sp_yess (C 28) (C 29) (C 30) (fun c => sp_bear (C 22 c) (C 23 c)) (C 25 ((C 20 0) % 7)) (C 27 0)) a) c))), some (.int (nI ((mj_bits (fun j => sp_rst (C 29) (C 27 0) (sp_hvy (C 29) (C 30) (fun c => sp_bear (C 22 c) (C 23 c)) (C 27 0)) a (sp_tw (sp_wo (sp_wo (sp_yess (C 28) (C 29) (C 30) (fun c => sp_bear (C 22 c) (C 23 c)) (C 25 ((C 20 0) % 7)) (C 27 0)) a) c) a c j) && sp_rst (C 29) (C 27 0) (sp_hvy (C 29) (C 30) (fun c => sp_bear (C 22 c) (C 23 c)) (C 27 0)) c (sp_tw (sp_wo (sp_wo (sp_yess (C 28) (C 29) (C 30) (fun c => sp_bear (C 22 c) (C 23 c)) (C 25 ((C 20 0) % 7)) (C 27 0)) a) c) a c j)) j) ||| (1 <<< j)))), some (.int (nI (j + 1))), none, some (.int (nI 1)), some (.int (nI 1))]) rfl ?_
    refine gj_forget (i := 8) (L' := [some (.ref 0), some (.int (nI a)), some (.int (nI c)), some (.int (nI (sp_hvy (C 29) (C 30) (fun c => sp_bear (C 22 c) (C 23 c)) (C 27 0)))), some (.int (nI (sp_wo (sp_wo (sp_yess (C 28) (C 29) (C 30) (fun c => sp_bear (C 22 c) (C 23 c)) (C 25 ((C 20 0) % 7)) (C 27 0)) a) c))), some (.int (nI ((mj_bits (fun j => sp_rst (C 29) (C 27 0) (sp_hvy (C 29) (C 30) (fun c => sp_bear (C 22 c) (C 23 c)) (C 27 0)) a (sp_tw (sp_wo (sp_wo (sp_yess (C 28) (C 29) (C 30) (fun c => sp_bear (C 22 c) (C 23 c)) (C 25 ((C 20 0) % 7)) (C 27 0)) a) c) a c j) && sp_rst (C 29) (C 27 0) (sp_hvy (C 29) (C 30) (fun c => sp_bear (C 22 c) (C 23 c)) (C 27 0)) c (sp_tw (sp_wo (sp_wo (sp_yess (C 28) (C 29) (C 30) (fun c => sp_bear (C 22 c) (C 23 c)) (C 25 ((C 20 0) % 7)) (C 27 0)) a) c) a c j)) j) ||| (1 <<< j)))), some (.int (nI (j + 1))), none, none, some (.int (nI 1))]) rfl ?_
    refine gj_forget (i := 9) (L' := [some (.ref 0), some (.int (nI a)), some (.int (nI c)), some (.int (nI (sp_hvy (C 29) (C 30) (fun c => sp_bear (C 22 c) (C 23 c)) (C 27 0)))), some (.int (nI (sp_wo (sp_wo (sp_yess (C 28) (C 29) (C 30) (fun c => sp_bear (C 22 c) (C 23 c)) (C 25 ((C 20 0) % 7)) (C 27 0)) a) c))), some (.int (nI ((mj_bits (fun j => sp_rst (C 29) (C 27 0) (sp_hvy (C 29) (C 30) (fun c => sp_bear (C 22 c) (C 23 c)) (C 27 0)) a (sp_tw (sp_wo (sp_wo (sp_yess (C 28) (C 29) (C 30) (fun c => sp_bear (C 22 c) (C 23 c)) (C 25 ((C 20 0) % 7)) (C 27 0)) a) c) a c j) && sp_rst (C 29) (C 27 0) (sp_hvy (C 29) (C 30) (fun c => sp_bear (C 22 c) (C 23 c)) (C 27 0)) c (sp_tw (sp_wo (sp_wo (sp_yess (C 28) (C 29) (C 30) (fun c => sp_bear (C 22 c) (C 23 c)) (C 25 ((C 20 0) % 7)) (C 27 0)) a) c) a c j)) j) ||| (1 <<< j)))), some (.int (nI (j + 1))), none, none, none]) rfl ?_
    exact gj_cast (by first | rw [mj_bits_t (p := (fun j => sp_rst (C 29) (C 27 0) (sp_hvy (C 29) (C 30) (fun c => sp_bear (C 22 c) (C 23 c)) (C 27 0)) a (sp_tw (sp_wo (sp_wo (sp_yess (C 28) (C 29) (C 30) (fun c => sp_bear (C 22 c) (C 23 c)) (C 25 ((C 20 0) % 7)) (C 27 0)) a) c) a c j) && sp_rst (C 29) (C 27 0) (sp_hvy (C 29) (C 30) (fun c => sp_bear (C 22 c) (C 23 c)) (C 27 0)) c (sp_tw (sp_wo (sp_wo (sp_yess (C 28) (C 29) (C 30) (fun c => sp_bear (C 22 c) (C 23 c)) (C 25 ((C 20 0) % 7)) (C 27 0)) a) c) a c j))) hw9] | rw [mj_bits_f (p := (fun j => sp_rst (C 29) (C 27 0) (sp_hvy (C 29) (C 30) (fun c => sp_bear (C 22 c) (C 23 c)) (C 27 0)) a (sp_tw (sp_wo (sp_wo (sp_yess (C 28) (C 29) (C 30) (fun c => sp_bear (C 22 c) (C 23 c)) (C 25 ((C 20 0) % 7)) (C 27 0)) a) c) a c j) && sp_rst (C 29) (C 27 0) (sp_hvy (C 29) (C 30) (fun c => sp_bear (C 22 c) (C 23 c)) (C 27 0)) c (sp_tw (sp_wo (sp_wo (sp_yess (C 28) (C 29) (C 30) (fun c => sp_bear (C 22 c) (C 23 c)) (C 25 ((C 20 0) % 7)) (C 27 0)) a) c) a c j))) hw9]) rfl rfl ih
  refine gj_iload dX10_two_74 rfl ?_
  refine gj_iload dX10_two_76 rfl ?_
  refine gj_ic (w := 0) dX10_two_78 ?_
  refine gj_S1 lkX10_200 (ev_X10_has (by omega) (by omega)) dX10_two_79 rfl rfl rfl rfl rfl ?_
  refine gj_if_eqb (tgt := 91) dX10_two_82 rfl (fun zq8 => ?_) (fun zq8 => ?_)
  · -- 82 taken
    have hq1 := zq8
    refine gj_ic (w := 0) dX10_two_91 ?_
    refine gj_iorN  dX10_two_92 ?_
    refine gj_iload dX10_two_93 rfl ?_
    refine gj_ic (w := 1) dX10_two_95 ?_
    refine gj_S1 lkX10_200 (ev_X10_has (by omega) (by omega)) dX10_two_96 rfl rfl rfl rfl rfl ?_
    refine gj_if_eqb (tgt := 108) dX10_two_99 rfl (fun zq9 => ?_) (fun zq9 => ?_)
    · -- 99 taken
      have hq2 := zq9
      refine gj_ic (w := 0) dX10_two_108 ?_
      refine gj_iorN  dX10_two_109 ?_
      refine gj_istore (L' := [some (.ref 0), some (.int (nI a)), some (.int (nI c)), some (.int (nI (sp_hvy (C 29) (C 30) (fun c => sp_bear (C 22 c) (C 23 c)) (C 27 0)))), some (.int (nI (sp_wo (sp_wo (sp_yess (C 28) (C 29) (C 30) (fun c => sp_bear (C 22 c) (C 23 c)) (C 25 ((C 20 0) % 7)) (C 27 0)) a) c))), some (.int (nI (mj_bits (fun j => sp_rst (C 29) (C 27 0) (sp_hvy (C 29) (C 30) (fun c => sp_bear (C 22 c) (C 23 c)) (C 27 0)) a (sp_tw (sp_wo (sp_wo (sp_yess (C 28) (C 29) (C 30) (fun c => sp_bear (C 22 c) (C 23 c)) (C 25 ((C 20 0) % 7)) (C 27 0)) a) c) a c j) && sp_rst (C 29) (C 27 0) (sp_hvy (C 29) (C 30) (fun c => sp_bear (C 22 c) (C 23 c)) (C 27 0)) c (sp_tw (sp_wo (sp_wo (sp_yess (C 28) (C 29) (C 30) (fun c => sp_bear (C 22 c) (C 23 c)) (C 25 ((C 20 0) % 7)) (C 27 0)) a) c) a c j)) j))), some (.int (nI j)), some (.int (nI (((sp_wo (sp_wo (sp_yess (C 28) (C 29) (C 30) (fun c => sp_bear (C 22 c) (C 23 c)) (C 25 ((C 20 0) % 7)) (C 27 0)) a) c) ||| 0) ||| 0))), none, none]) dX10_two_110 (Nat.le_of_ble_eq_true rfl) rfl ?_
      exact gj_cast (by unfold sp_tw; first | rw [if_pos hq1, if_pos hq2] | rw [if_pos hq1, if_neg (by rw [hq2]; decide)] | rw [if_neg (by rw [hq1]; decide), if_pos hq2] | rw [if_neg (by rw [hq1]; decide), if_neg (by rw [hq2]; decide)]) rfl rfl jn112
    have hq2 := zq9
    refine gj_ic (w := 1) dX10_two_102 ?_
    refine gj_iload_n dX10_two_103 rfl ?_
    refine gj_ishlN (by omega) dX10_two_104 ?_
    refine gj_goto (tgt := 109) dX10_two_105 rfl ?_
    refine gj_iorN  dX10_two_109 ?_
    refine gj_istore (L' := [some (.ref 0), some (.int (nI a)), some (.int (nI c)), some (.int (nI (sp_hvy (C 29) (C 30) (fun c => sp_bear (C 22 c) (C 23 c)) (C 27 0)))), some (.int (nI (sp_wo (sp_wo (sp_yess (C 28) (C 29) (C 30) (fun c => sp_bear (C 22 c) (C 23 c)) (C 25 ((C 20 0) % 7)) (C 27 0)) a) c))), some (.int (nI (mj_bits (fun j => sp_rst (C 29) (C 27 0) (sp_hvy (C 29) (C 30) (fun c => sp_bear (C 22 c) (C 23 c)) (C 27 0)) a (sp_tw (sp_wo (sp_wo (sp_yess (C 28) (C 29) (C 30) (fun c => sp_bear (C 22 c) (C 23 c)) (C 25 ((C 20 0) % 7)) (C 27 0)) a) c) a c j) && sp_rst (C 29) (C 27 0) (sp_hvy (C 29) (C 30) (fun c => sp_bear (C 22 c) (C 23 c)) (C 27 0)) c (sp_tw (sp_wo (sp_wo (sp_yess (C 28) (C 29) (C 30) (fun c => sp_bear (C 22 c) (C 23 c)) (C 25 ((C 20 0) % 7)) (C 27 0)) a) c) a c j)) j))), some (.int (nI j)), some (.int (nI (((sp_wo (sp_wo (sp_yess (C 28) (C 29) (C 30) (fun c => sp_bear (C 22 c) (C 23 c)) (C 25 ((C 20 0) % 7)) (C 27 0)) a) c) ||| 0) ||| (1 <<< c)))), none, none]) dX10_two_110 (Nat.le_of_ble_eq_true rfl) rfl ?_
    exact gj_cast (by unfold sp_tw; first | rw [if_pos hq1, if_pos hq2] | rw [if_pos hq1, if_neg (by rw [hq2]; decide)] | rw [if_neg (by rw [hq1]; decide), if_pos hq2] | rw [if_neg (by rw [hq1]; decide), if_neg (by rw [hq2]; decide)]) rfl rfl jn112
  have hq1 := zq8
  refine gj_ic (w := 1) dX10_two_85 ?_
  refine gj_iload_n dX10_two_86 rfl ?_
  refine gj_ishlN (by omega) dX10_two_87 ?_
  refine gj_goto (tgt := 92) dX10_two_88 rfl ?_
  refine gj_iorN  dX10_two_92 ?_
  refine gj_iload dX10_two_93 rfl ?_
  refine gj_ic (w := 1) dX10_two_95 ?_
  refine gj_S1 lkX10_200 (ev_X10_has (by omega) (by omega)) dX10_two_96 rfl rfl rfl rfl rfl ?_
  refine gj_if_eqb (tgt := 108) dX10_two_99 rfl (fun zq10 => ?_) (fun zq10 => ?_)
  · -- 99 taken
    have hq2 := zq10
    refine gj_ic (w := 0) dX10_two_108 ?_
    refine gj_iorN  dX10_two_109 ?_
    refine gj_istore (L' := [some (.ref 0), some (.int (nI a)), some (.int (nI c)), some (.int (nI (sp_hvy (C 29) (C 30) (fun c => sp_bear (C 22 c) (C 23 c)) (C 27 0)))), some (.int (nI (sp_wo (sp_wo (sp_yess (C 28) (C 29) (C 30) (fun c => sp_bear (C 22 c) (C 23 c)) (C 25 ((C 20 0) % 7)) (C 27 0)) a) c))), some (.int (nI (mj_bits (fun j => sp_rst (C 29) (C 27 0) (sp_hvy (C 29) (C 30) (fun c => sp_bear (C 22 c) (C 23 c)) (C 27 0)) a (sp_tw (sp_wo (sp_wo (sp_yess (C 28) (C 29) (C 30) (fun c => sp_bear (C 22 c) (C 23 c)) (C 25 ((C 20 0) % 7)) (C 27 0)) a) c) a c j) && sp_rst (C 29) (C 27 0) (sp_hvy (C 29) (C 30) (fun c => sp_bear (C 22 c) (C 23 c)) (C 27 0)) c (sp_tw (sp_wo (sp_wo (sp_yess (C 28) (C 29) (C 30) (fun c => sp_bear (C 22 c) (C 23 c)) (C 25 ((C 20 0) % 7)) (C 27 0)) a) c) a c j)) j))), some (.int (nI j)), some (.int (nI (((sp_wo (sp_wo (sp_yess (C 28) (C 29) (C 30) (fun c => sp_bear (C 22 c) (C 23 c)) (C 25 ((C 20 0) % 7)) (C 27 0)) a) c) ||| (1 <<< a)) ||| 0))), none, none]) dX10_two_110 (Nat.le_of_ble_eq_true rfl) rfl ?_
    exact gj_cast (by unfold sp_tw; first | rw [if_pos hq1, if_pos hq2] | rw [if_pos hq1, if_neg (by rw [hq2]; decide)] | rw [if_neg (by rw [hq1]; decide), if_pos hq2] | rw [if_neg (by rw [hq1]; decide), if_neg (by rw [hq2]; decide)]) rfl rfl jn112
  have hq2 := zq10
  refine gj_ic (w := 1) dX10_two_102 ?_
  refine gj_iload_n dX10_two_103 rfl ?_
  refine gj_ishlN (by omega) dX10_two_104 ?_
  refine gj_goto (tgt := 109) dX10_two_105 rfl ?_
  refine gj_iorN  dX10_two_109 ?_
  refine gj_istore (L' := [some (.ref 0), some (.int (nI a)), some (.int (nI c)), some (.int (nI (sp_hvy (C 29) (C 30) (fun c => sp_bear (C 22 c) (C 23 c)) (C 27 0)))), some (.int (nI (sp_wo (sp_wo (sp_yess (C 28) (C 29) (C 30) (fun c => sp_bear (C 22 c) (C 23 c)) (C 25 ((C 20 0) % 7)) (C 27 0)) a) c))), some (.int (nI (mj_bits (fun j => sp_rst (C 29) (C 27 0) (sp_hvy (C 29) (C 30) (fun c => sp_bear (C 22 c) (C 23 c)) (C 27 0)) a (sp_tw (sp_wo (sp_wo (sp_yess (C 28) (C 29) (C 30) (fun c => sp_bear (C 22 c) (C 23 c)) (C 25 ((C 20 0) % 7)) (C 27 0)) a) c) a c j) && sp_rst (C 29) (C 27 0) (sp_hvy (C 29) (C 30) (fun c => sp_bear (C 22 c) (C 23 c)) (C 27 0)) c (sp_tw (sp_wo (sp_wo (sp_yess (C 28) (C 29) (C 30) (fun c => sp_bear (C 22 c) (C 23 c)) (C 25 ((C 20 0) % 7)) (C 27 0)) a) c) a c j)) j))), some (.int (nI j)), some (.int (nI (((sp_wo (sp_wo (sp_yess (C 28) (C 29) (C 30) (fun c => sp_bear (C 22 c) (C 23 c)) (C 25 ((C 20 0) % 7)) (C 27 0)) a) c) ||| (1 <<< a)) ||| (1 <<< c)))), none, none]) dX10_two_110 (Nat.le_of_ble_eq_true rfl) rfl ?_
  exact gj_cast (by unfold sp_tw; first | rw [if_pos hq1, if_pos hq2] | rw [if_pos hq1, if_neg (by rw [hq2]; decide)] | rw [if_neg (by rw [hq1]; decide), if_pos hq2] | rw [if_neg (by rw [hq1]; decide), if_neg (by rw [hq2]; decide)]) rfl rfl jn112
def sp_f2 (K I : Nat → Nat) (h : Int64) (n : Nat) : Int64 := mj_fo (fun j (h : Int64) => 31 * (31 * h + (nI (K j)).toInt64) + (nI (I j)).toInt64) h n
def sp_d7 (a b c d e f g : Nat) : Int64 := 31 * (31 * (31 * (31 * (31 * (31 * (31 * 1453 + (nI a).toInt64) + (nI b).toInt64) + (nI c).toInt64) + (nI d).toInt64) + (nI e).toInt64) + (nI f).toInt64) + (nI g).toInt64
set_option maxHeartbeats 1000000 in
set_option maxRecDepth 10000 in
theorem ev_X10_digest {E : mj_E} {κ : Nat → Bool} {C : Nat → Nat → Nat} (I : mj_CI κ C)  : mj_Ev E iX10_digest [.ref 0] (hh κ C) (mj_R (some (.long ((31 * ((31 * (sp_fold (C 34) (sp_fold (C 32) (sp_vfold (C 28) (C 29) (C 30) (sp_fold (C 38) (sp_f2 (C 25) (C 26) (sp_f2 (C 22) (C 23) (sp_d7 (C 27 0) (C 20 0) (sp_sum (C 23) 25) (C 31 0) (C 33 0) (C 35 0) (C 7 0)) 25) 7) 4) (C 27 0)) ((C 31 0) * 5)) ((C 33 0) * 5))) + (lN (C 0 0)))) + (lN (C 0 1))))) (hh κ C)) := by
  have hl0 : C 20 0 ≤ 999 := I.1 0 (by decide) 0
  have hl7 : C 27 0 ≤ 7 := I.1 7 (by decide) 0
  have hl11 : C 31 0 ≤ 6 := I.1 11 (by decide) 0
  have hl13 : C 33 0 ≤ 6 := I.1 13 (by decide) 0
  have hl15 : C 35 0 ≤ 8 := I.1 15 (by decide) 0
  have hl7x : C 7 0 ≤ 150 := I.2.2.2.2.2.2.1
  refine mj_Ev.of (L0 := [some (.ref 0), none, none, none]) pnRX10 (Nat.le_of_ble_eq_true rfl) rfl ?_
  refine gj_ldc2 (v := 1453) w_969 dX10_digest_0 ?_
  refine gj_lstore_n (L' := [some (.ref 0), some (.long 1453), none, none]) dX10_digest_3 (Nat.le_of_ble_eq_true rfl) rfl ?_
  refine gj_ic (w := 0) dX10_digest_4 ?_
  refine gj_istore_n (L' := [some (.ref 0), some (.long 1453), none, some (.int (nI 0))]) dX10_digest_5 (Nat.le_of_ble_eq_true rfl) rfl ?_
  refine gj_iload_n dX10_digest_6 rfl ?_
  refine gj_bp 6 dX10_digest_7 (by decide) ?_
  refine gj_icmp_gtN (tgt := 31) (by omega) (by omega) dX10_digest_9 rfl (fun zq0 => ?_) (fun zq0 => ?_)
  · exfalso; omega
  refine gj_ldc2 (v := 31) w_970 dX10_digest_12 ?_
  refine gj_lload_n dX10_digest_15 rfl ?_
  refine gj_lmul dX10_digest_16  ?_
  refine gj_aload_n dX10_digest_17 rfl ?_
  refine gj_iload_n dX10_digest_18 rfl ?_
  refine gj_V1 lkX10_324 (hc0 κ C) rfl rfl (ev_X10_amount_0 I) dX10_digest_19 rfl rfl rfl rfl rfl ?_
  refine gj_i2l (v := (nI (C 27 0)).toInt64) dX10_digest_22 rfl ?_
  refine gj_ladd dX10_digest_23  ?_
  refine gj_lstore_n (L' := [some (.ref 0), some (.long ((31 * 1453) + ((nI (C 27 0)).toInt64))), none, some (.int (nI 0))]) dX10_digest_24 (Nat.le_of_ble_eq_true rfl) rfl ?_
  refine gj_iincN (L' := [some (.ref 0), some (.long ((31 * 1453) + ((nI (C 27 0)).toInt64))), none, some (.int (nI 1))]) dX10_digest_25 rfl (Nat.le_of_ble_eq_true rfl) rfl ?_
  refine gj_goto (tgt := 6) dX10_digest_28 rfl ?_
  refine gj_iload_n dX10_digest_6 rfl ?_
  refine gj_bp 6 dX10_digest_7 (by decide) ?_
  refine gj_icmp_gtN (tgt := 31) (by omega) (by omega) dX10_digest_9 rfl (fun zq0 => ?_) (fun zq0 => ?_)
  · exfalso; omega
  refine gj_ldc2 (v := 31) w_970 dX10_digest_12 ?_
  refine gj_lload_n dX10_digest_15 rfl ?_
  refine gj_lmul dX10_digest_16  ?_
  refine gj_aload_n dX10_digest_17 rfl ?_
  refine gj_iload_n dX10_digest_18 rfl ?_
  refine gj_V1 lkX10_324 (hc0 κ C) rfl rfl (ev_X10_amount_1 I) dX10_digest_19 rfl rfl rfl rfl rfl ?_
  refine gj_i2l (v := (nI (C 20 0)).toInt64) dX10_digest_22 rfl ?_
  refine gj_ladd dX10_digest_23  ?_
  refine gj_lstore_n (L' := [some (.ref 0), some (.long ((31 * ((31 * 1453) + ((nI (C 27 0)).toInt64))) + ((nI (C 20 0)).toInt64))), none, some (.int (nI 1))]) dX10_digest_24 (Nat.le_of_ble_eq_true rfl) rfl ?_
  refine gj_iincN (L' := [some (.ref 0), some (.long ((31 * ((31 * 1453) + ((nI (C 27 0)).toInt64))) + ((nI (C 20 0)).toInt64))), none, some (.int (nI 2))]) dX10_digest_25 rfl (Nat.le_of_ble_eq_true rfl) rfl ?_
  refine gj_goto (tgt := 6) dX10_digest_28 rfl ?_
  refine gj_iload_n dX10_digest_6 rfl ?_
  refine gj_bp 6 dX10_digest_7 (by decide) ?_
  refine gj_icmp_gtN (tgt := 31) (by omega) (by omega) dX10_digest_9 rfl (fun zq0 => ?_) (fun zq0 => ?_)
  · exfalso; omega
  refine gj_ldc2 (v := 31) w_970 dX10_digest_12 ?_
  refine gj_lload_n dX10_digest_15 rfl ?_
  refine gj_lmul dX10_digest_16  ?_
  refine gj_aload_n dX10_digest_17 rfl ?_
  refine gj_iload_n dX10_digest_18 rfl ?_
  refine gj_V1 lkX10_324 (hc0 κ C) rfl rfl (ev_X10_amount_2 I) dX10_digest_19 rfl rfl rfl rfl rfl ?_
  refine gj_i2l (v := (nI (sp_sum (C 23) 25)).toInt64) dX10_digest_22 rfl ?_
  refine gj_ladd dX10_digest_23  ?_
  refine gj_lstore_n (L' := [some (.ref 0), some (.long ((31 * ((31 * ((31 * 1453) + ((nI (C 27 0)).toInt64))) + ((nI (C 20 0)).toInt64))) + ((nI (sp_sum (C 23) 25)).toInt64))), none, some (.int (nI 2))]) dX10_digest_24 (Nat.le_of_ble_eq_true rfl) rfl ?_
  refine gj_iincN (L' := [some (.ref 0), some (.long ((31 * ((31 * ((31 * 1453) + ((nI (C 27 0)).toInt64))) + ((nI (C 20 0)).toInt64))) + ((nI (sp_sum (C 23) 25)).toInt64))), none, some (.int (nI 3))]) dX10_digest_25 rfl (Nat.le_of_ble_eq_true rfl) rfl ?_
  refine gj_goto (tgt := 6) dX10_digest_28 rfl ?_
  refine gj_iload_n dX10_digest_6 rfl ?_
  refine gj_bp 6 dX10_digest_7 (by decide) ?_
  refine gj_icmp_gtN (tgt := 31) (by omega) (by omega) dX10_digest_9 rfl (fun zq0 => ?_) (fun zq0 => ?_)
  · exfalso; omega
  refine gj_ldc2 (v := 31) w_970 dX10_digest_12 ?_
  refine gj_lload_n dX10_digest_15 rfl ?_
  refine gj_lmul dX10_digest_16  ?_
  refine gj_aload_n dX10_digest_17 rfl ?_
  refine gj_iload_n dX10_digest_18 rfl ?_
  refine gj_V1 lkX10_324 (hc0 κ C) rfl rfl (ev_X10_amount_3 I) dX10_digest_19 rfl rfl rfl rfl rfl ?_
  refine gj_i2l (v := (nI (C 31 0)).toInt64) dX10_digest_22 rfl ?_
  refine gj_ladd dX10_digest_23  ?_
  refine gj_lstore_n (L' := [some (.ref 0), some (.long ((31 * ((31 * ((31 * ((31 * 1453) + ((nI (C 27 0)).toInt64))) + ((nI (C 20 0)).toInt64))) + ((nI (sp_sum (C 23) 25)).toInt64))) + ((nI (C 31 0)).toInt64))), none, some (.int (nI 3))]) dX10_digest_24 (Nat.le_of_ble_eq_true rfl) rfl ?_
  refine gj_iincN (L' := [some (.ref 0), some (.long ((31 * ((31 * ((31 * ((31 * 1453) + ((nI (C 27 0)).toInt64))) + ((nI (C 20 0)).toInt64))) + ((nI (sp_sum (C 23) 25)).toInt64))) + ((nI (C 31 0)).toInt64))), none, some (.int (nI 4))]) dX10_digest_25 rfl (Nat.le_of_ble_eq_true rfl) rfl ?_
  refine gj_goto (tgt := 6) dX10_digest_28 rfl ?_
  refine gj_iload_n dX10_digest_6 rfl ?_
  refine gj_bp 6 dX10_digest_7 (by decide) ?_
  refine gj_icmp_gtN (tgt := 31) (by omega) (by omega) dX10_digest_9 rfl (fun zq0 => ?_) (fun zq0 => ?_)
  · exfalso; omega
  refine gj_ldc2 (v := 31) w_970 dX10_digest_12 ?_
  refine gj_lload_n dX10_digest_15 rfl ?_
  refine gj_lmul dX10_digest_16  ?_
  refine gj_aload_n dX10_digest_17 rfl ?_
  refine gj_iload_n dX10_digest_18 rfl ?_
  refine gj_V1 lkX10_324 (hc0 κ C) rfl rfl (ev_X10_amount_4 I) dX10_digest_19 rfl rfl rfl rfl rfl ?_
  refine gj_i2l (v := (nI (C 33 0)).toInt64) dX10_digest_22 rfl ?_
  refine gj_ladd dX10_digest_23  ?_
  refine gj_lstore_n (L' := [some (.ref 0), some (.long ((31 * ((31 * ((31 * ((31 * ((31 * 1453) + ((nI (C 27 0)).toInt64))) + ((nI (C 20 0)).toInt64))) + ((nI (sp_sum (C 23) 25)).toInt64))) + ((nI (C 31 0)).toInt64))) + ((nI (C 33 0)).toInt64))), none, some (.int (nI 4))]) dX10_digest_24 (Nat.le_of_ble_eq_true rfl) rfl ?_
  refine gj_iincN (L' := [some (.ref 0), some (.long ((31 * ((31 * ((31 * ((31 * ((31 * 1453) + ((nI (C 27 0)).toInt64))) + ((nI (C 20 0)).toInt64))) + ((nI (sp_sum (C 23) 25)).toInt64))) + ((nI (C 31 0)).toInt64))) + ((nI (C 33 0)).toInt64))), none, some (.int (nI 5))]) dX10_digest_25 rfl (Nat.le_of_ble_eq_true rfl) rfl ?_
  refine gj_goto (tgt := 6) dX10_digest_28 rfl ?_
  refine gj_iload_n dX10_digest_6 rfl ?_
  refine gj_bp 6 dX10_digest_7 (by decide) ?_
  refine gj_icmp_gtN (tgt := 31) (by omega) (by omega) dX10_digest_9 rfl (fun zq0 => ?_) (fun zq0 => ?_)
  · exfalso; omega
  refine gj_ldc2 (v := 31) w_970 dX10_digest_12 ?_
  refine gj_lload_n dX10_digest_15 rfl ?_
  refine gj_lmul dX10_digest_16  ?_
  refine gj_aload_n dX10_digest_17 rfl ?_
  refine gj_iload_n dX10_digest_18 rfl ?_
  refine gj_V1 lkX10_324 (hc0 κ C) rfl rfl (ev_X10_amount_5 I) dX10_digest_19 rfl rfl rfl rfl rfl ?_
  refine gj_i2l (v := (nI (C 35 0)).toInt64) dX10_digest_22 rfl ?_
  refine gj_ladd dX10_digest_23  ?_
  refine gj_lstore_n (L' := [some (.ref 0), some (.long ((31 * ((31 * ((31 * ((31 * ((31 * ((31 * 1453) + ((nI (C 27 0)).toInt64))) + ((nI (C 20 0)).toInt64))) + ((nI (sp_sum (C 23) 25)).toInt64))) + ((nI (C 31 0)).toInt64))) + ((nI (C 33 0)).toInt64))) + ((nI (C 35 0)).toInt64))), none, some (.int (nI 5))]) dX10_digest_24 (Nat.le_of_ble_eq_true rfl) rfl ?_
  refine gj_iincN (L' := [some (.ref 0), some (.long ((31 * ((31 * ((31 * ((31 * ((31 * ((31 * 1453) + ((nI (C 27 0)).toInt64))) + ((nI (C 20 0)).toInt64))) + ((nI (sp_sum (C 23) 25)).toInt64))) + ((nI (C 31 0)).toInt64))) + ((nI (C 33 0)).toInt64))) + ((nI (C 35 0)).toInt64))), none, some (.int (nI 6))]) dX10_digest_25 rfl (Nat.le_of_ble_eq_true rfl) rfl ?_
  refine gj_goto (tgt := 6) dX10_digest_28 rfl ?_
  refine gj_iload_n dX10_digest_6 rfl ?_
  refine gj_bp 6 dX10_digest_7 (by decide) ?_
  refine gj_icmp_gtN (tgt := 31) (by omega) (by omega) dX10_digest_9 rfl (fun zq0 => ?_) (fun zq0 => ?_)
  · exfalso; omega
  refine gj_ldc2 (v := 31) w_970 dX10_digest_12 ?_
  refine gj_lload_n dX10_digest_15 rfl ?_
  refine gj_lmul dX10_digest_16  ?_
  refine gj_aload_n dX10_digest_17 rfl ?_
  refine gj_iload_n dX10_digest_18 rfl ?_
  refine gj_V1 lkX10_324 (hc0 κ C) rfl rfl (ev_X10_amount_6 I) dX10_digest_19 rfl rfl rfl rfl rfl ?_
  refine gj_i2l (v := (nI (C 7 0)).toInt64) dX10_digest_22 rfl ?_
  refine gj_ladd dX10_digest_23  ?_
  refine gj_lstore_n (L' := [some (.ref 0), some (.long ((31 * ((31 * ((31 * ((31 * ((31 * ((31 * ((31 * 1453) + ((nI (C 27 0)).toInt64))) + ((nI (C 20 0)).toInt64))) + ((nI (sp_sum (C 23) 25)).toInt64))) + ((nI (C 31 0)).toInt64))) + ((nI (C 33 0)).toInt64))) + ((nI (C 35 0)).toInt64))) + ((nI (C 7 0)).toInt64))), none, some (.int (nI 6))]) dX10_digest_24 (Nat.le_of_ble_eq_true rfl) rfl ?_
  refine gj_iincN (L' := [some (.ref 0), some (.long ((31 * ((31 * ((31 * ((31 * ((31 * ((31 * ((31 * 1453) + ((nI (C 27 0)).toInt64))) + ((nI (C 20 0)).toInt64))) + ((nI (sp_sum (C 23) 25)).toInt64))) + ((nI (C 31 0)).toInt64))) + ((nI (C 33 0)).toInt64))) + ((nI (C 35 0)).toInt64))) + ((nI (C 7 0)).toInt64))), none, some (.int (nI 7))]) dX10_digest_25 rfl (Nat.le_of_ble_eq_true rfl) rfl ?_
  refine gj_goto (tgt := 6) dX10_digest_28 rfl ?_
  refine gj_iload_n dX10_digest_6 rfl ?_
  refine gj_bp 6 dX10_digest_7 (by decide) ?_
  refine gj_icmp_gtN (tgt := 31) (by omega) (by omega) dX10_digest_9 rfl (fun zq0 => ?_) (fun zq0 => ?_)
  rotate_left
  · exfalso; omega
  refine gj_ic (w := 0) dX10_digest_31 ?_
  refine gj_istore_n (L' := [some (.ref 0), some (.long ((31 * ((31 * ((31 * ((31 * ((31 * ((31 * ((31 * 1453) + ((nI (C 27 0)).toInt64))) + ((nI (C 20 0)).toInt64))) + ((nI (sp_sum (C 23) 25)).toInt64))) + ((nI (C 31 0)).toInt64))) + ((nI (C 33 0)).toInt64))) + ((nI (C 35 0)).toInt64))) + ((nI (C 7 0)).toInt64))), none, some (.int (nI 0))]) dX10_digest_32 (Nat.le_of_ble_eq_true rfl) rfl ?_
  refine gj_cast (L' := [some (.ref 0), some (.long (sp_f2 (C 22) (C 23) (sp_d7 (C 27 0) (C 20 0) (sp_sum (C 23) 25) (C 31 0) (C 33 0) (C 35 0) (C 7 0)) 0)), none, some (.int (nI 0))]) (st' := []) (h' := (hh κ C)) rfl rfl rfl ?_
  refine gj_loop (fun j => [some (.ref 0), some (.long (sp_f2 (C 22) (C 23) (sp_d7 (C 27 0) (C 20 0) (sp_sum (C 23) 25) (C 31 0) (C 33 0) (C 35 0) (C 7 0)) j)), none, some (.int (nI j))]) (fun j => (hh κ C)) 25 ?_ (fun j hj ih => ?_) 0 (by omega)
  · show gj _ _ _ _ _ _ [some (.ref 0), some (.long (sp_f2 (C 22) (C 23) (sp_d7 (C 27 0) (C 20 0) (sp_sum (C 23) 25) (C 31 0) (C 33 0) (C 35 0) (C 7 0)) 25)), none, some (.int (nI 25))] _ _
    refine gj_iload_n dX10_digest_33 rfl ?_
    refine gj_bp 25 dX10_digest_34 (by decide) ?_
    refine gj_icmp_geN (tgt := 81) (by omega) (by omega) dX10_digest_36 rfl (fun zq0 => ?_) (fun zq0 => ?_)
    rotate_left
    · exfalso; omega
    refine gj_ic (w := 0) dX10_digest_81 ?_
    refine gj_istore_n (L' := [some (.ref 0), some (.long (sp_f2 (C 22) (C 23) (sp_d7 (C 27 0) (C 20 0) (sp_sum (C 23) 25) (C 31 0) (C 33 0) (C 35 0) (C 7 0)) 25)), none, some (.int (nI 0))]) dX10_digest_82 (Nat.le_of_ble_eq_true rfl) rfl ?_
    refine gj_cast (L' := [some (.ref 0), some (.long (sp_f2 (C 25) (C 26) (sp_f2 (C 22) (C 23) (sp_d7 (C 27 0) (C 20 0) (sp_sum (C 23) 25) (C 31 0) (C 33 0) (C 35 0) (C 7 0)) 25) 0)), none, some (.int (nI 0))]) (st' := []) (h' := (hh κ C)) rfl rfl rfl ?_
    refine gj_loop (fun j => [some (.ref 0), some (.long (sp_f2 (C 25) (C 26) (sp_f2 (C 22) (C 23) (sp_d7 (C 27 0) (C 20 0) (sp_sum (C 23) 25) (C 31 0) (C 33 0) (C 35 0) (C 7 0)) 25) j)), none, some (.int (nI j))]) (fun j => (hh κ C)) 7 ?_ (fun j hj ih => ?_) 0 (by omega)
    · show gj _ _ _ _ _ _ [some (.ref 0), some (.long (sp_f2 (C 25) (C 26) (sp_f2 (C 22) (C 23) (sp_d7 (C 27 0) (C 20 0) (sp_sum (C 23) 25) (C 31 0) (C 33 0) (C 35 0) (C 7 0)) 25) 7)), none, some (.int (nI 7))] _ _
      refine gj_iload_n dX10_digest_83 rfl ?_
      refine gj_bp 7 dX10_digest_84 (by decide) ?_
      refine gj_icmp_geN (tgt := 131) (by omega) (by omega) dX10_digest_86 rfl (fun zq0 => ?_) (fun zq0 => ?_)
      rotate_left
      · exfalso; omega
      refine gj_ic (w := 0) dX10_digest_131 ?_
      refine gj_istore_n (L' := [some (.ref 0), some (.long (sp_f2 (C 25) (C 26) (sp_f2 (C 22) (C 23) (sp_d7 (C 27 0) (C 20 0) (sp_sum (C 23) 25) (C 31 0) (C 33 0) (C 35 0) (C 7 0)) 25) 7)), none, some (.int (nI 0))]) dX10_digest_132 (Nat.le_of_ble_eq_true rfl) rfl ?_
      refine gj_cast (L' := [some (.ref 0), some (.long (sp_fold (C 38) (sp_f2 (C 25) (C 26) (sp_f2 (C 22) (C 23) (sp_d7 (C 27 0) (C 20 0) (sp_sum (C 23) 25) (C 31 0) (C 33 0) (C 35 0) (C 7 0)) 25) 7) 0)), none, some (.int (nI 0))]) (st' := []) (h' := (hh κ C)) rfl rfl rfl ?_
      refine gj_loop (fun j => [some (.ref 0), some (.long (sp_fold (C 38) (sp_f2 (C 25) (C 26) (sp_f2 (C 22) (C 23) (sp_d7 (C 27 0) (C 20 0) (sp_sum (C 23) 25) (C 31 0) (C 33 0) (C 35 0) (C 7 0)) 25) 7) j)), none, some (.int (nI j))]) (fun j => (hh κ C)) 4 ?_ (fun j hj ih => ?_) 0 (by omega)
      · show gj _ _ _ _ _ _ [some (.ref 0), some (.long (sp_fold (C 38) (sp_f2 (C 25) (C 26) (sp_f2 (C 22) (C 23) (sp_d7 (C 27 0) (C 20 0) (sp_sum (C 23) 25) (C 31 0) (C 33 0) (C 35 0) (C 7 0)) 25) 7) 4)), none, some (.int (nI 4))] _ _
        refine gj_iload_n dX10_digest_133 rfl ?_
        refine gj_ic (w := 4) dX10_digest_134 ?_
        refine gj_icmp_geN (tgt := 161) (by omega) (by omega) dX10_digest_135 rfl (fun zq0 => ?_) (fun zq0 => ?_)
        rotate_left
        · exfalso; omega
        refine gj_aload_n dX10_digest_161 rfl ?_
        refine gfX10_10 rfl dX10_digest_162 (hc0 κ C) rfl ?_
        refine gfX10_73 rfl dX10_digest_165 (hc20 κ C) rfl ?_
        refine gj_lload_n dX10_digest_168 rfl ?_
        refine gj_V1 lkX10_331 (hc27 κ C) rfl rfl (ev_X7_fold ⟨(hc27 κ C), (hc28 κ C), (hc29 κ C), (hc30 κ C), (by omega), (show ∀ c, C 28 c ≤ 5 from I.1 8 (by decide)), (show ∀ c, C 29 c ≤ 99 from I.1 9 (by decide)), (show ∀ c, C 30 c ≤ 24 from I.1 10 (by decide))⟩) dX10_digest_169 rfl rfl rfl rfl rfl ?_
        refine gj_lstore_n (L' := [some (.ref 0), some (.long (sp_vfold (C 28) (C 29) (C 30) (sp_fold (C 38) (sp_f2 (C 25) (C 26) (sp_f2 (C 22) (C 23) (sp_d7 (C 27 0) (C 20 0) (sp_sum (C 23) 25) (C 31 0) (C 33 0) (C 35 0) (C 7 0)) 25) 7) 4) (C 27 0))), none, some (.int (nI 4))]) dX10_digest_172 (Nat.le_of_ble_eq_true rfl) rfl ?_
        refine gj_aload_n dX10_digest_173 rfl ?_
        refine gfX10_10 rfl dX10_digest_174 (hc0 κ C) rfl ?_
        refine gfX10_266 rfl dX10_digest_177 (hc20 κ C) rfl ?_
        refine gj_lload_n dX10_digest_180 rfl ?_
        refine gj_V1 lkX10_335 (hc31 κ C) rfl rfl (ev_X3_fold (hc31 κ C) (hc32 κ C) (by omega)) dX10_digest_181 rfl rfl rfl rfl rfl ?_
        refine gj_lstore_n (L' := [some (.ref 0), some (.long (sp_fold (C 32) (sp_vfold (C 28) (C 29) (C 30) (sp_fold (C 38) (sp_f2 (C 25) (C 26) (sp_f2 (C 22) (C 23) (sp_d7 (C 27 0) (C 20 0) (sp_sum (C 23) 25) (C 31 0) (C 33 0) (C 35 0) (C 7 0)) 25) 7) 4) (C 27 0)) ((C 31 0) * 5))), none, some (.int (nI 4))]) dX10_digest_184 (Nat.le_of_ble_eq_true rfl) rfl ?_
        refine gj_aload_n dX10_digest_185 rfl ?_
        refine gfX10_10 rfl dX10_digest_186 (hc0 κ C) rfl ?_
        refine gfX10_276 rfl dX10_digest_189 (hc20 κ C) rfl ?_
        refine gj_lload_n dX10_digest_192 rfl ?_
        refine gj_V1 lkX10_335 (hc33 κ C) rfl rfl (ev_X3_fold (hc33 κ C) (hc34 κ C) (by omega)) dX10_digest_193 rfl rfl rfl rfl rfl ?_
        refine gj_lstore_n (L' := [some (.ref 0), some (.long (sp_fold (C 34) (sp_fold (C 32) (sp_vfold (C 28) (C 29) (C 30) (sp_fold (C 38) (sp_f2 (C 25) (C 26) (sp_f2 (C 22) (C 23) (sp_d7 (C 27 0) (C 20 0) (sp_sum (C 23) 25) (C 31 0) (C 33 0) (C 35 0) (C 7 0)) 25) 7) 4) (C 27 0)) ((C 31 0) * 5)) ((C 33 0) * 5))), none, some (.int (nI 4))]) dX10_digest_196 (Nat.le_of_ble_eq_true rfl) rfl ?_
        refine gj_ldc2 (v := 31) w_970 dX10_digest_197 ?_
        refine gj_ldc2 (v := 31) w_970 dX10_digest_200 ?_
        refine gj_lload_n dX10_digest_203 rfl ?_
        refine gj_lmul dX10_digest_204  ?_
        refine gj_aload_n dX10_digest_205 rfl ?_
        refine gfX10_58 rfl dX10_digest_206 (hc0 κ C) rfl ?_
        refine gj_ladd dX10_digest_209  ?_
        refine gj_lmul dX10_digest_210  ?_
        refine gj_aload_n dX10_digest_211 rfl ?_
        refine gfX10_62 rfl dX10_digest_212 (hc0 κ C) rfl ?_
        refine gj_ladd dX10_digest_215  ?_
        exact gj_lr rfl dX10_digest_216 rfl rfl rfl
      show gj _ _ _ _ _ _ [some (.ref 0), some (.long (sp_fold (C 38) (sp_f2 (C 25) (C 26) (sp_f2 (C 22) (C 23) (sp_d7 (C 27 0) (C 20 0) (sp_sum (C 23) 25) (C 31 0) (C 33 0) (C 35 0) (C 7 0)) 25) 7) j)), none, some (.int (nI j))] _ _
      refine gj_iload_n dX10_digest_133 rfl ?_
      refine gj_ic (w := 4) dX10_digest_134 ?_
      refine gj_icmp_geN (tgt := 161) (by omega) (by omega) dX10_digest_135 rfl (fun zq1 => ?_) (fun zq1 => ?_)
      · exfalso; omega
      refine gj_ldc2 (v := 31) w_970 dX10_digest_138 ?_
      refine gj_lload_n dX10_digest_141 rfl ?_
      refine gj_lmul dX10_digest_142  ?_
      refine gj_aload_n dX10_digest_143 rfl ?_
      refine gfX10_10 rfl dX10_digest_144 (hc0 κ C) rfl ?_
      refine gfX10_130 rfl dX10_digest_147 (hc20 κ C) rfl ?_
      refine gj_iload_n dX10_digest_150 rfl ?_
      refine gj_ialdN dX10_digest_151 (hc38 κ C) (by omega) (by omega) ?_
      have hb2 := (show ∀ c, C 38 c ≤ 99 from I.1 18 (by decide)) j
      refine gj_i2l (v := (nI (C 38 j)).toInt64) dX10_digest_152 rfl ?_
      refine gj_ladd dX10_digest_153  ?_
      refine gj_lstore_n (L' := [some (.ref 0), some (.long ((31 * (sp_fold (C 38) (sp_f2 (C 25) (C 26) (sp_f2 (C 22) (C 23) (sp_d7 (C 27 0) (C 20 0) (sp_sum (C 23) 25) (C 31 0) (C 33 0) (C 35 0) (C 7 0)) 25) 7) j)) + ((nI (C 38 j)).toInt64))), none, some (.int (nI j))]) dX10_digest_154 (Nat.le_of_ble_eq_true rfl) rfl ?_
      refine gj_iincN (L' := [some (.ref 0), some (.long ((31 * (sp_fold (C 38) (sp_f2 (C 25) (C 26) (sp_f2 (C 22) (C 23) (sp_d7 (C 27 0) (C 20 0) (sp_sum (C 23) 25) (C 31 0) (C 33 0) (C 35 0) (C 7 0)) 25) 7) j)) + ((nI (C 38 j)).toInt64))), none, some (.int (nI (j + 1)))]) dX10_digest_155 rfl (Nat.le_of_ble_eq_true rfl) rfl ?_
      refine gj_goto (tgt := 133) dX10_digest_158 rfl ?_
      exact ih
    show gj _ _ _ _ _ _ [some (.ref 0), some (.long (sp_f2 (C 25) (C 26) (sp_f2 (C 22) (C 23) (sp_d7 (C 27 0) (C 20 0) (sp_sum (C 23) 25) (C 31 0) (C 33 0) (C 35 0) (C 7 0)) 25) j)), none, some (.int (nI j))] _ _
    refine gj_iload_n dX10_digest_83 rfl ?_
    refine gj_bp 7 dX10_digest_84 (by decide) ?_
    refine gj_icmp_geN (tgt := 131) (by omega) (by omega) dX10_digest_86 rfl (fun zq3 => ?_) (fun zq3 => ?_)
    · exfalso; omega
    refine gj_ldc2 (v := 31) w_970 dX10_digest_89 ?_
    refine gj_ldc2 (v := 31) w_970 dX10_digest_92 ?_
    refine gj_lload_n dX10_digest_95 rfl ?_
    refine gj_lmul dX10_digest_96  ?_
    refine gj_aload_n dX10_digest_97 rfl ?_
    refine gfX10_10 rfl dX10_digest_98 (hc0 κ C) rfl ?_
    refine gfX10_114 rfl dX10_digest_101 (hc20 κ C) rfl ?_
    refine gj_iload_n dX10_digest_104 rfl ?_
    refine gj_V1 lkX10_118 (hc24 κ C) rfl rfl (ev_X9_frostOn ⟨(hc24 κ C), (hc25 κ C), (hc26 κ C), (by decide), (show ∀ c, C 25 c ≤ 9 from I.1 5 (by decide)), (show ∀ c, C 26 c ≤ 9 from I.1 6 (by decide))⟩ (by omega)) dX10_digest_105 rfl rfl rfl rfl rfl ?_
    have hb4 := (show ∀ c, C 25 c ≤ 9 from I.1 5 (by decide)) (j % 7)
    refine gj_topN (congrArg (C 25) (Nat.mod_eq_of_lt hj)) ?_
    refine gj_i2l (v := (nI (C 25 j)).toInt64) dX10_digest_108 rfl ?_
    refine gj_ladd dX10_digest_109  ?_
    refine gj_lmul dX10_digest_110  ?_
    refine gj_aload_n dX10_digest_111 rfl ?_
    refine gfX10_10 rfl dX10_digest_112 (hc0 κ C) rfl ?_
    refine gfX10_114 rfl dX10_digest_115 (hc20 κ C) rfl ?_
    refine gj_iload_n dX10_digest_118 rfl ?_
    refine gj_V1 lkX10_123 (hc24 κ C) rfl rfl (ev_X9_sunOn ⟨(hc24 κ C), (hc25 κ C), (hc26 κ C), (by decide), (show ∀ c, C 25 c ≤ 9 from I.1 5 (by decide)), (show ∀ c, C 26 c ≤ 9 from I.1 6 (by decide))⟩ (by omega)) dX10_digest_119 rfl rfl rfl rfl rfl ?_
    have hb5 := (show ∀ c, C 26 c ≤ 9 from I.1 6 (by decide)) (j % 7)
    refine gj_topN (congrArg (C 26) (Nat.mod_eq_of_lt hj)) ?_
    refine gj_i2l (v := (nI (C 26 j)).toInt64) dX10_digest_122 rfl ?_
    refine gj_ladd dX10_digest_123  ?_
    refine gj_lstore_n (L' := [some (.ref 0), some (.long ((31 * ((31 * (sp_f2 (C 25) (C 26) (sp_f2 (C 22) (C 23) (sp_d7 (C 27 0) (C 20 0) (sp_sum (C 23) 25) (C 31 0) (C 33 0) (C 35 0) (C 7 0)) 25) j)) + ((nI (C 25 j)).toInt64))) + ((nI (C 26 j)).toInt64))), none, some (.int (nI j))]) dX10_digest_124 (Nat.le_of_ble_eq_true rfl) rfl ?_
    refine gj_iincN (L' := [some (.ref 0), some (.long ((31 * ((31 * (sp_f2 (C 25) (C 26) (sp_f2 (C 22) (C 23) (sp_d7 (C 27 0) (C 20 0) (sp_sum (C 23) 25) (C 31 0) (C 33 0) (C 35 0) (C 7 0)) 25) j)) + ((nI (C 25 j)).toInt64))) + ((nI (C 26 j)).toInt64))), none, some (.int (nI (j + 1)))]) dX10_digest_125 rfl (Nat.le_of_ble_eq_true rfl) rfl ?_
    refine gj_goto (tgt := 83) dX10_digest_128 rfl ?_
    exact ih
  show gj _ _ _ _ _ _ [some (.ref 0), some (.long (sp_f2 (C 22) (C 23) (sp_d7 (C 27 0) (C 20 0) (sp_sum (C 23) 25) (C 31 0) (C 33 0) (C 35 0) (C 7 0)) j)), none, some (.int (nI j))] _ _
  refine gj_iload_n dX10_digest_33 rfl ?_
  refine gj_bp 25 dX10_digest_34 (by decide) ?_
  refine gj_icmp_geN (tgt := 81) (by omega) (by omega) dX10_digest_36 rfl (fun zq6 => ?_) (fun zq6 => ?_)
  · exfalso; omega
  refine gj_ldc2 (v := 31) w_970 dX10_digest_39 ?_
  refine gj_ldc2 (v := 31) w_970 dX10_digest_42 ?_
  refine gj_lload_n dX10_digest_45 rfl ?_
  refine gj_lmul dX10_digest_46  ?_
  refine gj_aload_n dX10_digest_47 rfl ?_
  refine gfX10_10 rfl dX10_digest_48 (hc0 κ C) rfl ?_
  refine gfX10_91 rfl dX10_digest_51 (hc20 κ C) rfl ?_
  refine gj_iload_n dX10_digest_54 rfl ?_
  refine gj_V1 lkX10_94 (hc21 κ C) rfl rfl (ev_X4_kindOf ⟨(hc21 κ C), (hc22 κ C), (hc23 κ C), (by decide), (show ∀ c, C 22 c ≤ 5 from I.1 2 (by decide)), (show ∀ c, C 23 c ≤ 99 from I.1 3 (by decide))⟩ (by omega)) dX10_digest_55 rfl rfl rfl rfl rfl ?_
  have hb7 := (show ∀ c, C 22 c ≤ 5 from I.1 2 (by decide)) j
  refine gj_i2l (v := (nI (C 22 j)).toInt64) dX10_digest_58 rfl ?_
  refine gj_ladd dX10_digest_59  ?_
  refine gj_lmul dX10_digest_60  ?_
  refine gj_aload_n dX10_digest_61 rfl ?_
  refine gfX10_10 rfl dX10_digest_62 (hc0 κ C) rfl ?_
  refine gfX10_91 rfl dX10_digest_65 (hc20 κ C) rfl ?_
  refine gj_iload_n dX10_digest_68 rfl ?_
  refine gj_V1 lkX10_164 (hc21 κ C) rfl rfl (ev_X4_iceOf ⟨(hc21 κ C), (hc22 κ C), (hc23 κ C), (by decide), (show ∀ c, C 22 c ≤ 5 from I.1 2 (by decide)), (show ∀ c, C 23 c ≤ 99 from I.1 3 (by decide))⟩ (by omega)) dX10_digest_69 rfl rfl rfl rfl rfl ?_
  have hb8 := (show ∀ c, C 23 c ≤ 99 from I.1 3 (by decide)) j
  refine gj_i2l (v := (nI (C 23 j)).toInt64) dX10_digest_72 rfl ?_
  refine gj_ladd dX10_digest_73  ?_
  refine gj_lstore_n (L' := [some (.ref 0), some (.long ((31 * ((31 * (sp_f2 (C 22) (C 23) (sp_d7 (C 27 0) (C 20 0) (sp_sum (C 23) 25) (C 31 0) (C 33 0) (C 35 0) (C 7 0)) j)) + ((nI (C 22 j)).toInt64))) + ((nI (C 23 j)).toInt64))), none, some (.int (nI j))]) dX10_digest_74 (Nat.le_of_ble_eq_true rfl) rfl ?_
  refine gj_iincN (L' := [some (.ref 0), some (.long ((31 * ((31 * (sp_f2 (C 22) (C 23) (sp_d7 (C 27 0) (C 20 0) (sp_sum (C 23) 25) (C 31 0) (C 33 0) (C 35 0) (C 7 0)) j)) + ((nI (C 22 j)).toInt64))) + ((nI (C 23 j)).toInt64))), none, some (.int (nI (j + 1)))]) dX10_digest_75 rfl (Nat.le_of_ble_eq_true rfl) rfl ?_
  refine gj_goto (tgt := 33) dX10_digest_78 rfl ?_
  exact ih
