set_option maxHeartbeats 1000000 in
set_option maxRecDepth 10000 in
theorem ev_X10_winters {E : mj_E} {κ : Nat → Bool} {C : Nat → Nat → Nat} (I : mj_CI κ C) {s m : Nat} (h0 : s ≤ 999999) (h1 : m ≤ 60) : mj_Ev E iX10_winters [.ref 0, .int (nI s), .int (nI m)] (hh κ C) (mj_R (some (.int (nI (sp_sum (sp_wd (C 28) (C 29) (C 30) (C 22) (C 23) (C 27 0) s) m)))) (hh κ (mj_u (mj_u C 2 (C 22)) 3 (sp_wi (C 22) (C 23) s m)))) := by
  have hl0 : C 20 0 ≤ 999 := I.1 0 (by decide) 0
  have hl7 : C 27 0 ≤ 7 := I.1 7 (by decide) 0
  have hl11 : C 31 0 ≤ 6 := I.1 11 (by decide) 0
  have hl13 : C 33 0 ≤ 6 := I.1 13 (by decide) 0
  have hl15 : C 35 0 ≤ 8 := I.1 15 (by decide) 0
  have hl7x : C 7 0 ≤ 150 := I.2.2.2.2.2.2.1
  refine mj_Ev.of (L0 := [some (.ref 0), some (.int (nI s)), some (.int (nI m)), none, none, none, none, none, none]) pnRX10 (Nat.le_of_ble_eq_true rfl) rfl ?_
  refine gj_iload_n dX10_winters_0 rfl ?_
  refine gj_ic (w := 0) dX10_winters_1 ?_
  refine gj_ldcw (v := nI 999999) w_935 dX10_winters_2 ?_
  refine gj_S1 lkX10_65 (ev_X10_within_t (by omega) (by omega) (by omega)) dX10_winters_5 rfl rfl rfl rfl rfl ?_
  refine gj_if_eqN (tgt := 21) (by omega) dX10_winters_8 rfl (fun zq0 => ?_) (fun zq0 => ?_)
  · exfalso; revert zq0; decide
  refine gj_iload_n dX10_winters_11 rfl ?_
  refine gj_ic (w := 0) dX10_winters_12 ?_
  refine gj_bp 60 dX10_winters_13 (by decide) ?_
  refine gj_S1 lkX10_65 (ev_X10_within_t (by omega) (by omega) (by omega)) dX10_winters_15 rfl rfl rfl rfl rfl ?_
  refine gj_if_neN (tgt := 26) (by omega) dX10_winters_18 rfl (fun zq0 => ?_) (fun zq0 => ?_)
  rotate_left
  · exfalso; revert zq0; decide
  refine gj_aload_n dX10_winters_26 rfl ?_
  refine gfX10_26 rfl dX10_winters_27 (hc0 κ C) rfl ?_
  refine gj_aload_n dX10_winters_30 rfl ?_
  refine gfX10_10 rfl dX10_winters_31 (hc0 κ C) rfl ?_
  refine gfX10_91 rfl dX10_winters_34 (hc20 κ C) rfl ?_
  refine gj_V0 lkX10_218 (hc1 κ C) rfl rfl (ev_X4_copy ⟨(hc1 κ C), (hc2 κ C), (hc3 κ C), (by decide), I.2.2.2.2.1, I.2.2.2.2.2.1⟩ ⟨(hc21 κ C), (hc22 κ C), (hc23 κ C), (by decide), (show ∀ c, C 22 c ≤ 5 from I.1 2 (by decide)), (show ∀ c, C 23 c ≤ 99 from I.1 3 (by decide))⟩ (by decide)) dX10_winters_37 rfl rfl rfl rfl rfl ?_
  refine gj_iload_n dX10_winters_40 rfl ?_
  refine gj_i2lN (by omega) dX10_winters_41 ?_
  refine gj_lstore_n (L' := [some (.ref 0), some (.int (nI s)), some (.int (nI m)), some (.long (lN s)), none, none, none, none, none]) dX10_winters_42 (Nat.le_of_ble_eq_true rfl) rfl ?_
  refine gj_ic (w := 0) dX10_winters_43 ?_
  refine gj_istore (L' := [some (.ref 0), some (.int (nI s)), some (.int (nI m)), some (.long (lN s)), none, some (.int (nI 0)), none, none, none]) dX10_winters_44 (Nat.le_of_ble_eq_true rfl) rfl ?_
  refine gj_ic (w := 0) dX10_winters_46 ?_
  refine gj_istore (L' := [some (.ref 0), some (.int (nI s)), some (.int (nI m)), some (.long (lN s)), none, some (.int (nI 0)), some (.int (nI 0)), none, none]) dX10_winters_47 (Nat.le_of_ble_eq_true rfl) rfl ?_
  refine gj_cast (L' := [some (.ref 0), some (.int (nI s)), some (.int (nI m)), some (.long (lN (sp_lcg s 0))), none, some (.int (nI (sp_sum (sp_wd (C 28) (C 29) (C 30) (C 22) (C 23) (C 27 0) s) 0))), some (.int (nI 0)), none, none]) (st' := []) (h' := mj_up (mj_up (hh κ C) 2 (mj_ar 25 (C 22))) 3 (mj_ar 25 (sp_wi (C 22) (C 23) s 0))) rfl rfl rfl ?_
  refine gj_loop (fun j => [some (.ref 0), some (.int (nI s)), some (.int (nI m)), some (.long (lN (sp_lcg s j))), none, some (.int (nI (sp_sum (sp_wd (C 28) (C 29) (C 30) (C 22) (C 23) (C 27 0) s) j))), some (.int (nI j)), none, none]) (fun j => mj_up (mj_up (hh κ C) 2 (mj_ar 25 (C 22))) 3 (mj_ar 25 (sp_wi (C 22) (C 23) s j))) m ?_ (fun j hj ih => ?_) 0 (by omega)
  · show gj _ _ _ _ _ _ [some (.ref 0), some (.int (nI s)), some (.int (nI m)), some (.long (lN (sp_lcg s m))), none, some (.int (nI (sp_sum (sp_wd (C 28) (C 29) (C 30) (C 22) (C 23) (C 27 0) s) m))), some (.int (nI m)), none, none] _ _
    refine gj_iload dX10_winters_49 rfl ?_
    refine gj_iload_n dX10_winters_51 rfl ?_
    refine gj_icmp_geN (tgt := 134) (by omega) (by omega) dX10_winters_52 rfl (fun zq1 => ?_) (fun zq1 => ?_)
    rotate_left
    · exfalso; omega
    refine gj_iload dX10_winters_134 rfl ?_
    exact gj_ir rfl dX10_winters_136 rfl rfl (hu3 (hu2 rfl))
  show gj _ _ _ _ _ _ [some (.ref 0), some (.int (nI s)), some (.int (nI m)), some (.long (lN (sp_lcg s j))), none, some (.int (nI (sp_sum (sp_wd (C 28) (C 29) (C 30) (C 22) (C 23) (C 27 0) s) j))), some (.int (nI j)), none, none] _ _
  refine gj_iload dX10_winters_49 rfl ?_
  refine gj_iload_n dX10_winters_51 rfl ?_
  refine gj_icmp_geN (tgt := 134) (by omega) (by omega) dX10_winters_52 rfl (fun zq2 => ?_) (fun zq2 => ?_)
  · exfalso; omega
  have hx9 := @sp_lcg_lt s j (by omega)
  refine gj_lload_n dX10_winters_55 rfl ?_
  refine gj_ldc2 (v := lN 1103515245) w_936 dX10_winters_56 ?_
  refine gj_lmulN  dX10_winters_59 ?_
  refine gj_ldc2 (v := lN 12345) w_937 dX10_winters_60 ?_
  refine gj_laddN  dX10_winters_63 ?_
  refine gj_ldc2 (v := lN 2147483648) w_938 dX10_winters_64 ?_
  refine gj_lremN (by omega) (by omega) (by omega) dX10_winters_67 ?_
  refine gj_topl (congrArg lN (sp_lcg_s (s := s) (n := j)).symm) ?_
  have hx8 := @sp_lcg_lt s (j + 1) (by omega)
  refine gj_lstore_n (L' := [some (.ref 0), some (.int (nI s)), some (.int (nI m)), some (.long (lN (sp_lcg s (j + 1)))), none, some (.int (nI (sp_sum (sp_wd (C 28) (C 29) (C 30) (C 22) (C 23) (C 27 0) s) j))), some (.int (nI j)), none, none]) dX10_winters_68 (Nat.le_of_ble_eq_true rfl) rfl ?_
  refine gj_lload_n dX10_winters_69 rfl ?_
  refine gj_ldc2 (v := lN 65536) w_939 dX10_winters_70 ?_
  refine gj_ldivN (by omega) (by omega) (by omega) dX10_winters_73 ?_
  refine gj_ldc2 (v := lN 10) w_926 dX10_winters_74 ?_
  refine gj_lremN (by omega) (by omega) (by omega) dX10_winters_77 ?_
  refine gj_l2iN dX10_winters_78 ?_
  refine gj_istore (L' := [some (.ref 0), some (.int (nI s)), some (.int (nI m)), some (.long (lN (sp_lcg s (j + 1)))), none, some (.int (nI (sp_sum (sp_wd (C 28) (C 29) (C 30) (C 22) (C 23) (C 27 0) s) j))), some (.int (nI j)), some (.int (nI (((sp_lcg s (j + 1)) / 65536) % 10))), none]) dX10_winters_79 (Nat.le_of_ble_eq_true rfl) rfl ?_
  refine gj_lload_n dX10_winters_81 rfl ?_
  refine gj_ldc2 (v := lN 1048576) w_940 dX10_winters_82 ?_
  refine gj_ldivN (by omega) (by omega) (by omega) dX10_winters_85 ?_
  refine gj_ldc2 (v := lN 10) w_926 dX10_winters_86 ?_
  refine gj_lremN (by omega) (by omega) (by omega) dX10_winters_89 ?_
  refine gj_l2iN dX10_winters_90 ?_
  refine gj_istore (L' := [some (.ref 0), some (.int (nI s)), some (.int (nI m)), some (.long (lN (sp_lcg s (j + 1)))), none, some (.int (nI (sp_sum (sp_wd (C 28) (C 29) (C 30) (C 22) (C 23) (C 27 0) s) j))), some (.int (nI j)), some (.int (nI (((sp_lcg s (j + 1)) / 65536) % 10))), some (.int (nI (((sp_lcg s (j + 1)) / 1048576) % 10)))]) dX10_winters_91 (Nat.le_of_ble_eq_true rfl) rfl ?_
  refine gj_aload_n dX10_winters_93 rfl ?_
  refine gfX10_26 rfl dX10_winters_94 ((mj_up_ne (by decide)).trans ((mj_up_ne (by decide)).trans (hc0 κ C))) rfl ?_
  refine gj_iload dX10_winters_97 rfl ?_
  refine gj_iload dX10_winters_99 rfl ?_
  refine gj_V0 lkX10_221 ((mj_up_ne (by decide)).trans ((mj_up_ne (by decide)).trans (hc1 κ C))) rfl rfl (ev_X4_passDay ⟨((mj_up_ne (by decide)).trans ((mj_up_ne (by decide)).trans (hc1 κ C))), ((mj_up_ne (by decide)).trans (mj_up_eq _ _ _)), (mj_up_eq _ _ _), (by decide), (show ∀ c, C 22 c ≤ 5 from I.1 2 (by decide)), (show ∀ c, (sp_wi (C 22) (C 23) s j) c ≤ 99 from sp_wi_le (show ∀ c, C 23 c ≤ 99 from I.1 3 (by decide)))⟩ (by omega) (by omega)) dX10_winters_101 rfl rfl rfl rfl rfl ?_
  refine gj_cast (h' := mj_up (mj_up (hh κ C) 2 (mj_ar 25 (C 22))) 3 (mj_ar 25 (sp_wi (C 22) (C 23) s (j + 1)))) rfl rfl (by rw [mj_up_up, sp_wi_s]) ?_
  refine gj_iload dX10_winters_104 rfl ?_
  refine gj_aload_n dX10_winters_106 rfl ?_
  refine gfX10_10 rfl dX10_winters_107 ((mj_up_ne (by decide)).trans ((mj_up_ne (by decide)).trans (hc0 κ C))) rfl ?_
  refine gfX10_73 rfl dX10_winters_110 ((mj_up_ne (by decide)).trans ((mj_up_ne (by decide)).trans (hc20 κ C))) rfl ?_
  refine gj_aload_n dX10_winters_113 rfl ?_
  refine gfX10_26 rfl dX10_winters_114 ((mj_up_ne (by decide)).trans ((mj_up_ne (by decide)).trans (hc0 κ C))) rfl ?_
  refine gj_iload dX10_winters_117 rfl ?_
  refine gj_V1 lkX10_248 ((mj_up_ne (by decide)).trans ((mj_up_ne (by decide)).trans (hc27 κ C))) rfl rfl (ev_X7_wet ⟨((mj_up_ne (by decide)).trans ((mj_up_ne (by decide)).trans (hc27 κ C))), ((mj_up_ne (by decide)).trans ((mj_up_ne (by decide)).trans (hc28 κ C))), ((mj_up_ne (by decide)).trans ((mj_up_ne (by decide)).trans (hc29 κ C))), ((mj_up_ne (by decide)).trans ((mj_up_ne (by decide)).trans (hc30 κ C))), (by omega), (show ∀ c, C 28 c ≤ 5 from I.1 8 (by decide)), (show ∀ c, C 29 c ≤ 99 from I.1 9 (by decide)), (show ∀ c, C 30 c ≤ 24 from I.1 10 (by decide))⟩ ⟨((mj_up_ne (by decide)).trans ((mj_up_ne (by decide)).trans (hc1 κ C))), ((mj_up_ne (by decide)).trans (mj_up_eq _ _ _)), (mj_up_eq _ _ _), (by decide), (show ∀ c, C 22 c ≤ 5 from I.1 2 (by decide)), (show ∀ c, (sp_wi (C 22) (C 23) s (j + 1)) c ≤ 99 from sp_wi_le (show ∀ c, C 23 c ≤ 99 from I.1 3 (by decide)))⟩ (by omega)) dX10_winters_119 rfl rfl rfl rfl rfl ?_
  have hb3 := @sp_wet_lt (C 28) (C 29) (C 30) (fun c => sp_bear (C 22 c) ((sp_wi (C 22) (C 23) s (j + 1)) c)) (((sp_lcg s (j + 1)) / 65536) % 10) (C 27 0) (by omega)
  refine gj_S1 lkX10_255 (ev_J6_bitCount_0f7a4 (by omega)) dX10_winters_122 rfl rfl rfl rfl rfl ?_
  have hb4 := @sp_pop_le (sp_wet (C 28) (C 29) (C 30) (fun c => sp_bear (C 22 c) ((sp_wi (C 22) (C 23) s (j + 1)) c)) (((sp_lcg s (j + 1)) / 65536) % 10) (C 27 0))
  refine gj_iaddN  dX10_winters_125 ?_
  refine gj_istore (L' := [some (.ref 0), some (.int (nI s)), some (.int (nI m)), some (.long (lN (sp_lcg s (j + 1)))), none, some (.int (nI ((sp_sum (sp_wd (C 28) (C 29) (C 30) (C 22) (C 23) (C 27 0) s) j) + (sp_pop (sp_wet (C 28) (C 29) (C 30) (fun c => sp_bear (C 22 c) ((sp_wi (C 22) (C 23) s (j + 1)) c)) (((sp_lcg s (j + 1)) / 65536) % 10) (C 27 0)))))), some (.int (nI j)), some (.int (nI (((sp_lcg s (j + 1)) / 65536) % 10))), some (.int (nI (((sp_lcg s (j + 1)) / 1048576) % 10)))]) dX10_winters_126 (Nat.le_of_ble_eq_true rfl) rfl ?_
  refine gj_iincN (L' := [some (.ref 0), some (.int (nI s)), some (.int (nI m)), some (.long (lN (sp_lcg s (j + 1)))), none, some (.int (nI ((sp_sum (sp_wd (C 28) (C 29) (C 30) (C 22) (C 23) (C 27 0) s) j) + (sp_pop (sp_wet (C 28) (C 29) (C 30) (fun c => sp_bear (C 22 c) ((sp_wi (C 22) (C 23) s (j + 1)) c)) (((sp_lcg s (j + 1)) / 65536) % 10) (C 27 0)))))), some (.int (nI (j + 1))), some (.int (nI (((sp_lcg s (j + 1)) / 65536) % 10))), some (.int (nI (((sp_lcg s (j + 1)) / 1048576) % 10)))]) dX10_winters_128 rfl (Nat.le_of_ble_eq_true rfl) rfl ?_
  refine gj_goto (tgt := 49) dX10_winters_131 rfl ?_
  refine gj_forget (i := 7) (L' := [some (.ref 0), some (.int (nI s)), some (.int (nI m)), some (.long (lN (sp_lcg s (j + 1)))), none, some (.int (nI ((sp_sum (sp_wd (C 28) (C 29) (C 30) (C 22) (C 23) (C 27 0) s) j) + (sp_pop (sp_wet (C 28) (C 29) (C 30) (fun c => sp_bear (C 22 c) ((sp_wi (C 22) (C 23) s (j + 1)) c)) (((sp_lcg s (j + 1)) / 65536) % 10) (C 27 0)))))), some (.int (nI (j + 1))), none, some (.int (nI (((sp_lcg s (j + 1)) / 1048576) % 10)))]) rfl ?_
  refine gj_forget (i := 8) (L' := [some (.ref 0), some (.int (nI s)), some (.int (nI m)), some (.long (lN (sp_lcg s (j + 1)))), none, some (.int (nI ((sp_sum (sp_wd (C 28) (C 29) (C 30) (C 22) (C 23) (C 27 0) s) j) + (sp_pop (sp_wet (C 28) (C 29) (C 30) (fun c => sp_bear (C 22 c) ((sp_wi (C 22) (C 23) s (j + 1)) c)) (((sp_lcg s (j + 1)) / 65536) % 10) (C 27 0)))))), some (.int (nI (j + 1))), none, none]) rfl ?_
  exact ih
