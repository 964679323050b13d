theorem sp_snc_le {P : Nat → Bool} {n : Nat} : sp_snc P n ≤ n := by
  induction n with
  | zero => exact Nat.le_refl _
  | succ n ih =>
    cases h : P n with
    | true => rw [sp_snc_t h]; omega
    | false => rw [sp_snc_f h]; omega
set_option maxHeartbeats 1000000 in
set_option maxRecDepth 10000 in
theorem ev_X11_seen_0 {E : mj_E} {h : mj_H} {a0 a1 y2 y3 y4 y5 y6 : Nat} (H0 : h 100 = some (mj_mo a0 a1 y2 y3 y4 y5 y6)) {T : Nat → Nat} (HT : h 101 = some (mj_ar 362 T)) {J : Nat → Nat} (HJ : h 105 = some (mj_ar 25 J)) (bT : mj_Tb T) {x : Nat} (h0 : x < 1 <<< T 0) : mj_Ev E iX11_seen [.ref 100, .int (nI x), .int (nI 0)] h (mj_R (some (.int (nI (sp_snc (sp_msn T (fun q => T (4 + q)) x) (1 <<< T 0))))) (mj_up h 105 (mj_ar 25 (fun q => T (4 + q))))) := by
  refine mj_Ev.of (L0 := [some (.ref 100), some (.int (nI x)), some (.int (nI 0)), none, none, none, none]) pnRX11 (Nat.le_of_ble_eq_true rfl) rfl ?_
  have hb0 := bT.1
  have hZ := mj_sets_le hb0
  refine gj_iload_n dX11_seen_0 rfl ?_
  refine gj_i2lN (by omega) dX11_seen_1 ?_
  refine gj_lconst (v := lN 0) dX11_seen_2 rfl ?_
  refine gj_ic (w := 1) dX11_seen_3 ?_
  refine gj_aload_n dX11_seen_4 rfl ?_
  refine gj_V1 lkX11_46 H0 rfl rfl (ev_X11_many H0 HT) dX11_seen_5 rfl rfl rfl rfl rfl ?_
  refine gj_ishlN (by omega) dX11_seen_8 ?_
  refine gj_ic (w := 1) dX11_seen_9 ?_
  refine gj_isubN (by omega) dX11_seen_10 ?_
  refine gj_i2lN (by omega) dX11_seen_11 ?_
  refine gj_S1 lkX11_50 (ev_X11_in_t (by omega) (by omega) (by omega)) dX11_seen_12 rfl rfl rfl rfl rfl ?_
  refine gj_if_eqN (tgt := 30) (by omega) dX11_seen_15 rfl (fun zq0 => ?_) (fun zq0 => ?_)
  · exfalso; revert zq0; decide
  refine gj_iload_n dX11_seen_18 rfl ?_
  refine gj_i2lN (by omega) dX11_seen_19 ?_
  refine gj_lconst (v := lN 0) dX11_seen_20 rfl ?_
  refine gj_ldc2 (v := lN 2) w_1154 dX11_seen_21 ?_
  refine gj_S1 lkX11_50 (ev_X11_in_t (by omega) (by omega) (by omega)) dX11_seen_24 rfl rfl rfl rfl rfl ?_
  refine gj_if_neN (tgt := 37) (by omega) dX11_seen_27 rfl (fun zq0 => ?_) (fun zq0 => ?_)
  rotate_left
  · exfalso; revert zq0; decide
  refine gj_ic (w := 0) dX11_seen_37 ?_
  refine gj_istore_n (L' := [some (.ref 100), some (.int (nI x)), some (.int (nI 0)), some (.int (nI 0)), none, none, none]) dX11_seen_38 (Nat.le_of_ble_eq_true rfl) rfl ?_
  refine gj_ic (w := 1) dX11_seen_39 ?_
  refine gj_aload_n dX11_seen_40 rfl ?_
  refine gj_V1 lkX11_46 H0 rfl rfl (ev_X11_many H0 HT) dX11_seen_41 rfl rfl rfl rfl rfl ?_
  refine gj_ishlN (by omega) dX11_seen_44 ?_
  refine gj_ic (w := 1) dX11_seen_45 ?_
  refine gj_isubN (by omega) dX11_seen_46 ?_
  refine gj_istore (L' := [some (.ref 100), some (.int (nI x)), some (.int (nI 0)), some (.int (nI 0)), some (.int (nI ((1 <<< (T 0)) - 1))), none, none]) dX11_seen_47 (Nat.le_of_ble_eq_true rfl) rfl ?_
  refine gj_ic (w := 0) dX11_seen_49 ?_
  refine gj_istore (L' := [some (.ref 100), some (.int (nI x)), some (.int (nI 0)), some (.int (nI 0)), some (.int (nI ((1 <<< (T 0)) - 1))), some (.int (nI 0)), none]) dX11_seen_50 (Nat.le_of_ble_eq_true rfl) rfl ?_
  refine gj_aload_n dX11_seen_52 rfl ?_
  refine gj_V0 lkX11_124 H0 rfl rfl (ev_X11_layIce H0 HT HJ bT) dX11_seen_53 rfl rfl rfl rfl rfl ?_
  refine gj_ic (w := 0) dX11_seen_56 ?_
  refine gj_istore (L' := [some (.ref 100), some (.int (nI x)), some (.int (nI 0)), some (.int (nI 0)), some (.int (nI ((1 <<< (T 0)) - 1))), some (.int (nI 0)), some (.int (nI 0))]) dX11_seen_57 (Nat.le_of_ble_eq_true rfl) rfl ?_
  refine gj_cast (L' := [some (.ref 100), some (.int (nI x)), some (.int (nI 0)), some (.int (nI (sp_snc (sp_msn T (fun q => T (4 + q)) x) 0))), some (.int (nI (sp_msa (sp_msn T (fun q => T (4 + q)) x) ((1 <<< T 0) - 1) 0))), some (.int (nI (sp_sns (sp_msn T (fun q => T (4 + q)) x) 0))), some (.int (nI 0))]) (st' := []) (h' := mj_up h 105 (mj_ar 25 (fun q => T (4 + q)))) rfl rfl rfl ?_
  refine gj_loop (fun j => [some (.ref 100), some (.int (nI x)), some (.int (nI 0)), some (.int (nI (sp_snc (sp_msn T (fun q => T (4 + q)) x) j))), some (.int (nI (sp_msa (sp_msn T (fun q => T (4 + q)) x) ((1 <<< T 0) - 1) j))), some (.int (nI (sp_sns (sp_msn T (fun q => T (4 + q)) x) j))), some (.int (nI j))]) (fun j => mj_up h 105 (mj_ar 25 (fun q => T (4 + q)))) (1 <<< T 0) ?_ (fun j hj ih => ?_) 0 (by omega)
  · show gj _ _ _ _ _ _ [some (.ref 100), some (.int (nI x)), some (.int (nI 0)), some (.int (nI (sp_snc (sp_msn T (fun q => T (4 + q)) x) (1 <<< T 0)))), some (.int (nI (sp_msa (sp_msn T (fun q => T (4 + q)) x) ((1 <<< T 0) - 1) (1 <<< T 0)))), some (.int (nI (sp_sns (sp_msn T (fun q => T (4 + q)) x) (1 <<< T 0)))), some (.int (nI (1 <<< T 0)))] _ _
    refine gj_iload dX11_seen_59 rfl ?_
    refine gj_ic (w := 1) dX11_seen_61 ?_
    refine gj_aload_n dX11_seen_62 rfl ?_
    refine gj_V1 lkX11_46 ((mj_up_ne (by decide)).trans H0) rfl rfl (ev_X11_many ((mj_up_ne (by decide)).trans H0) ((mj_up_ne (by decide)).trans HT)) dX11_seen_63 rfl rfl rfl rfl rfl ?_
    refine gj_ishlN (by omega) dX11_seen_66 ?_
    refine gj_icmp_geN (tgt := 112) (by omega) (by omega) dX11_seen_67 rfl (fun zq1 => ?_) (fun zq1 => ?_)
    rotate_left
    · exfalso; omega
    have hsn := @sp_snc_le (sp_msn T (fun q => T (4 + q)) x) (1 <<< T 0)
    refine gj_iload_n dX11_seen_112 rfl ?_
    refine gj_if_neN (tgt := 120) (by omega) dX11_seen_113 rfl (fun zq0 => ?_) (fun zq0 => ?_)
    · exfalso; revert zq0; decide
    refine gj_iload_n dX11_seen_116 rfl ?_
    refine gj_goto (tgt := 140) dX11_seen_117 rfl ?_
    exact gj_ir rfl dX11_seen_140 rfl rfl rfl
  show gj _ _ _ _ _ _ [some (.ref 100), some (.int (nI x)), some (.int (nI 0)), some (.int (nI (sp_snc (sp_msn T (fun q => T (4 + q)) x) j))), some (.int (nI (sp_msa (sp_msn T (fun q => T (4 + q)) x) ((1 <<< T 0) - 1) j))), some (.int (nI (sp_sns (sp_msn T (fun q => T (4 + q)) x) j))), some (.int (nI j))] _ _
  refine gj_iload dX11_seen_59 rfl ?_
  refine gj_ic (w := 1) dX11_seen_61 ?_
  refine gj_aload_n dX11_seen_62 rfl ?_
  refine gj_V1 lkX11_46 ((mj_up_ne (by decide)).trans H0) rfl rfl (ev_X11_many ((mj_up_ne (by decide)).trans H0) ((mj_up_ne (by decide)).trans HT)) dX11_seen_63 rfl rfl rfl rfl rfl ?_
  refine gj_ishlN (by omega) dX11_seen_66 ?_
  refine gj_icmp_geN (tgt := 112) (by omega) (by omega) dX11_seen_67 rfl (fun zq2 => ?_) (fun zq2 => ?_)
  · exfalso; omega
  refine gj_aload_n dX11_seen_70 rfl ?_
  refine gj_iload dX11_seen_71 rfl ?_
  refine gj_V1 lkX11_187 ((mj_up_ne (by decide)).trans H0) rfl rfl (ev_X11_isCarried ((mj_up_ne (by decide)).trans H0) ((mj_up_ne (by decide)).trans HT) bT (by omega)) dX11_seen_73 rfl rfl rfl rfl rfl ?_
  refine gj_if_eqb (tgt := 106) dX11_seen_76 rfl (fun zq3 => ?_) (fun zq3 => ?_)
  · -- 76 taken
    have hP9 : (sp_msn T (fun q => T (4 + q)) x) j = false := by unfold sp_msn; rw [zq3, Bool.false_and]
    refine gj_iincN (L' := [some (.ref 100), some (.int (nI x)), some (.int (nI 0)), some (.int (nI (sp_snc (sp_msn T (fun q => T (4 + q)) x) j))), some (.int (nI (sp_msa (sp_msn T (fun q => T (4 + q)) x) ((1 <<< T 0) - 1) j))), some (.int (nI (sp_sns (sp_msn T (fun q => T (4 + q)) x) j))), some (.int (nI (j + 1)))]) dX11_seen_106 rfl (Nat.le_of_ble_eq_true rfl) rfl ?_
    refine gj_goto (tgt := 59) dX11_seen_109 rfl ?_
    exact gj_cast (by first | rw [sp_snc_t hP9, sp_msa_t hP9, sp_sns_t hP9] | rw [sp_snc_f hP9, sp_msa_f hP9, sp_sns_f hP9]) rfl rfl ih
  have he9 := zq3
  refine gj_aload_n dX11_seen_79 rfl ?_
  refine gj_iload dX11_seen_80 rfl ?_
  refine gj_V1 lkX11_196 ((mj_up_ne (by decide)).trans H0) rfl rfl (ev_X11_wetOf ((mj_up_ne (by decide)).trans H0) ((mj_up_ne (by decide)).trans HT) (mj_up_eq _ _ _) bT bT.2.2.2.2.2.1 (by omega)) dX11_seen_82 rfl rfl rfl rfl rfl ?_
  have hb4 := @sp_mw_lt T (fun q => T (4 + q)) j (T 0) (by omega)
  refine gj_iload_n dX11_seen_85 rfl ?_
  refine gj_icmp_neN (tgt := 106) (by omega) (by omega) dX11_seen_86 rfl (fun zq5 => ?_) (fun zq5 => ?_)
  · -- 86 taken
    have hP9 : (sp_msn T (fun q => T (4 + q)) x) j = false := by unfold sp_msn; rw [decide_eq_false zq5, Bool.and_false]
    refine gj_iincN (L' := [some (.ref 100), some (.int (nI x)), some (.int (nI 0)), some (.int (nI (sp_snc (sp_msn T (fun q => T (4 + q)) x) j))), some (.int (nI (sp_msa (sp_msn T (fun q => T (4 + q)) x) ((1 <<< T 0) - 1) j))), some (.int (nI (sp_sns (sp_msn T (fun q => T (4 + q)) x) j))), some (.int (nI (j + 1)))]) dX11_seen_106 rfl (Nat.le_of_ble_eq_true rfl) rfl ?_
    refine gj_goto (tgt := 59) dX11_seen_109 rfl ?_
    exact gj_cast (by first | rw [sp_snc_t hP9, sp_msa_t hP9, sp_sns_t hP9] | rw [sp_snc_f hP9, sp_msa_f hP9, sp_sns_f hP9]) rfl rfl ih
  have hP9 : (sp_msn T (fun q => T (4 + q)) x) j = true := by unfold sp_msn; rw [he9, decide_eq_true zq5]; rfl
  refine gj_iload dX11_seen_89 rfl ?_
  refine gj_iload dX11_seen_91 rfl ?_
  refine gj_iandN  dX11_seen_93 ?_
  refine gj_istore (L' := [some (.ref 100), some (.int (nI x)), some (.int (nI 0)), some (.int (nI (sp_snc (sp_msn T (fun q => T (4 + q)) x) j))), some (.int (nI ((sp_msa (sp_msn T (fun q => T (4 + q)) x) ((1 <<< T 0) - 1) j) &&& j))), some (.int (nI (sp_sns (sp_msn T (fun q => T (4 + q)) x) j))), some (.int (nI j))]) dX11_seen_94 (Nat.le_of_ble_eq_true rfl) rfl ?_
  refine gj_iload dX11_seen_96 rfl ?_
  refine gj_iload dX11_seen_98 rfl ?_
  refine gj_iorN  dX11_seen_100 ?_
  refine gj_istore (L' := [some (.ref 100), some (.int (nI x)), some (.int (nI 0)), some (.int (nI (sp_snc (sp_msn T (fun q => T (4 + q)) x) j))), some (.int (nI ((sp_msa (sp_msn T (fun q => T (4 + q)) x) ((1 <<< T 0) - 1) j) &&& j))), some (.int (nI ((sp_sns (sp_msn T (fun q => T (4 + q)) x) j) ||| j))), some (.int (nI j))]) dX11_seen_101 (Nat.le_of_ble_eq_true rfl) rfl ?_
  refine gj_iincN (L' := [some (.ref 100), some (.int (nI x)), some (.int (nI 0)), some (.int (nI ((sp_snc (sp_msn T (fun q => T (4 + q)) x) j) + 1))), some (.int (nI ((sp_msa (sp_msn T (fun q => T (4 + q)) x) ((1 <<< T 0) - 1) j) &&& j))), some (.int (nI ((sp_sns (sp_msn T (fun q => T (4 + q)) x) j) ||| j))), some (.int (nI j))]) dX11_seen_103 rfl (Nat.le_of_ble_eq_true rfl) rfl ?_
  refine gj_iincN (L' := [some (.ref 100), some (.int (nI x)), some (.int (nI 0)), some (.int (nI ((sp_snc (sp_msn T (fun q => T (4 + q)) x) j) + 1))), some (.int (nI ((sp_msa (sp_msn T (fun q => T (4 + q)) x) ((1 <<< T 0) - 1) j) &&& j))), some (.int (nI ((sp_sns (sp_msn T (fun q => T (4 + q)) x) j) ||| j))), some (.int (nI (j + 1)))]) dX11_seen_106 rfl (Nat.le_of_ble_eq_true rfl) rfl ?_
  refine gj_goto (tgt := 59) dX11_seen_109 rfl ?_
  exact gj_cast (by first | rw [sp_snc_t hP9, sp_msa_t hP9, sp_sns_t hP9] | rw [sp_snc_f hP9, sp_msa_f hP9, sp_sns_f hP9]) rfl rfl ih
set_option maxHeartbeats 1000000 in
set_option maxRecDepth 10000 in
theorem ev_X11_seen_1 {E : mj_E} {h : mj_H} {a0 a1 y2 y3 y4 y5 y6 : Nat} (H0 : h 100 = some (mj_mo a0 a1 y2 y3 y4 y5 y6)) {T : Nat → Nat} (HT : h 101 = some (mj_ar 362 T)) {J : Nat → Nat} (HJ : h 105 = some (mj_ar 25 J)) (bT : mj_Tb T) {x : Nat} (h0 : x < 1 <<< T 0) : mj_Ev E iX11_seen [.ref 100, .int (nI x), .int (nI 1)] h (mj_R (some (.int (nI (if sp_snc (sp_msn T (fun q => T (4 + q)) x) (1 <<< T 0) = 0 then 4294967295 else sp_msa (sp_msn T (fun q => T (4 + q)) x) ((1 <<< T 0) - 1) (1 <<< T 0))))) (mj_up h 105 (mj_ar 25 (fun q => T (4 + q))))) := by
  refine mj_Ev.of (L0 := [some (.ref 100), some (.int (nI x)), some (.int (nI 1)), none, none, none, none]) pnRX11 (Nat.le_of_ble_eq_true rfl) rfl ?_
  have hb0 := bT.1
  have hZ := mj_sets_le hb0
  refine gj_iload_n dX11_seen_0 rfl ?_
  refine gj_i2lN (by omega) dX11_seen_1 ?_
  refine gj_lconst (v := lN 0) dX11_seen_2 rfl ?_
  refine gj_ic (w := 1) dX11_seen_3 ?_
  refine gj_aload_n dX11_seen_4 rfl ?_
  refine gj_V1 lkX11_46 H0 rfl rfl (ev_X11_many H0 HT) dX11_seen_5 rfl rfl rfl rfl rfl ?_
  refine gj_ishlN (by omega) dX11_seen_8 ?_
  refine gj_ic (w := 1) dX11_seen_9 ?_
  refine gj_isubN (by omega) dX11_seen_10 ?_
  refine gj_i2lN (by omega) dX11_seen_11 ?_
  refine gj_S1 lkX11_50 (ev_X11_in_t (by omega) (by omega) (by omega)) dX11_seen_12 rfl rfl rfl rfl rfl ?_
  refine gj_if_eqN (tgt := 30) (by omega) dX11_seen_15 rfl (fun zq0 => ?_) (fun zq0 => ?_)
  · exfalso; revert zq0; decide
  refine gj_iload_n dX11_seen_18 rfl ?_
  refine gj_i2lN (by omega) dX11_seen_19 ?_
  refine gj_lconst (v := lN 0) dX11_seen_20 rfl ?_
  refine gj_ldc2 (v := lN 2) w_1154 dX11_seen_21 ?_
  refine gj_S1 lkX11_50 (ev_X11_in_t (by omega) (by omega) (by omega)) dX11_seen_24 rfl rfl rfl rfl rfl ?_
  refine gj_if_neN (tgt := 37) (by omega) dX11_seen_27 rfl (fun zq0 => ?_) (fun zq0 => ?_)
  rotate_left
  · exfalso; revert zq0; decide
  refine gj_ic (w := 0) dX11_seen_37 ?_
  refine gj_istore_n (L' := [some (.ref 100), some (.int (nI x)), some (.int (nI 1)), some (.int (nI 0)), none, none, none]) dX11_seen_38 (Nat.le_of_ble_eq_true rfl) rfl ?_
  refine gj_ic (w := 1) dX11_seen_39 ?_
  refine gj_aload_n dX11_seen_40 rfl ?_
  refine gj_V1 lkX11_46 H0 rfl rfl (ev_X11_many H0 HT) dX11_seen_41 rfl rfl rfl rfl rfl ?_
  refine gj_ishlN (by omega) dX11_seen_44 ?_
  refine gj_ic (w := 1) dX11_seen_45 ?_
  refine gj_isubN (by omega) dX11_seen_46 ?_
  refine gj_istore (L' := [some (.ref 100), some (.int (nI x)), some (.int (nI 1)), some (.int (nI 0)), some (.int (nI ((1 <<< (T 0)) - 1))), none, none]) dX11_seen_47 (Nat.le_of_ble_eq_true rfl) rfl ?_
  refine gj_ic (w := 0) dX11_seen_49 ?_
  refine gj_istore (L' := [some (.ref 100), some (.int (nI x)), some (.int (nI 1)), some (.int (nI 0)), some (.int (nI ((1 <<< (T 0)) - 1))), some (.int (nI 0)), none]) dX11_seen_50 (Nat.le_of_ble_eq_true rfl) rfl ?_
  refine gj_aload_n dX11_seen_52 rfl ?_
  refine gj_V0 lkX11_124 H0 rfl rfl (ev_X11_layIce H0 HT HJ bT) dX11_seen_53 rfl rfl rfl rfl rfl ?_
  refine gj_ic (w := 0) dX11_seen_56 ?_
  refine gj_istore (L' := [some (.ref 100), some (.int (nI x)), some (.int (nI 1)), some (.int (nI 0)), some (.int (nI ((1 <<< (T 0)) - 1))), some (.int (nI 0)), some (.int (nI 0))]) dX11_seen_57 (Nat.le_of_ble_eq_true rfl) rfl ?_
  refine gj_cast (L' := [some (.ref 100), some (.int (nI x)), some (.int (nI 1)), some (.int (nI (sp_snc (sp_msn T (fun q => T (4 + q)) x) 0))), some (.int (nI (sp_msa (sp_msn T (fun q => T (4 + q)) x) ((1 <<< T 0) - 1) 0))), some (.int (nI (sp_sns (sp_msn T (fun q => T (4 + q)) x) 0))), some (.int (nI 0))]) (st' := []) (h' := mj_up h 105 (mj_ar 25 (fun q => T (4 + q)))) rfl rfl rfl ?_
  refine gj_loop (fun j => [some (.ref 100), some (.int (nI x)), some (.int (nI 1)), some (.int (nI (sp_snc (sp_msn T (fun q => T (4 + q)) x) j))), some (.int (nI (sp_msa (sp_msn T (fun q => T (4 + q)) x) ((1 <<< T 0) - 1) j))), some (.int (nI (sp_sns (sp_msn T (fun q => T (4 + q)) x) j))), some (.int (nI j))]) (fun j => mj_up h 105 (mj_ar 25 (fun q => T (4 + q)))) (1 <<< T 0) ?_ (fun j hj ih => ?_) 0 (by omega)
  · show gj _ _ _ _ _ _ [some (.ref 100), some (.int (nI x)), some (.int (nI 1)), some (.int (nI (sp_snc (sp_msn T (fun q => T (4 + q)) x) (1 <<< T 0)))), some (.int (nI (sp_msa (sp_msn T (fun q => T (4 + q)) x) ((1 <<< T 0) - 1) (1 <<< T 0)))), some (.int (nI (sp_sns (sp_msn T (fun q => T (4 + q)) x) (1 <<< T 0)))), some (.int (nI (1 <<< T 0)))] _ _
    refine gj_iload dX11_seen_59 rfl ?_
    refine gj_ic (w := 1) dX11_seen_61 ?_
    refine gj_aload_n dX11_seen_62 rfl ?_
    refine gj_V1 lkX11_46 ((mj_up_ne (by decide)).trans H0) rfl rfl (ev_X11_many ((mj_up_ne (by decide)).trans H0) ((mj_up_ne (by decide)).trans HT)) dX11_seen_63 rfl rfl rfl rfl rfl ?_
    refine gj_ishlN (by omega) dX11_seen_66 ?_
    refine gj_icmp_geN (tgt := 112) (by omega) (by omega) dX11_seen_67 rfl (fun zq1 => ?_) (fun zq1 => ?_)
    rotate_left
    · exfalso; omega
    have hsn := @sp_snc_le (sp_msn T (fun q => T (4 + q)) x) (1 <<< T 0)
    refine gj_iload_n dX11_seen_112 rfl ?_
    refine gj_if_neN (tgt := 120) (by omega) dX11_seen_113 rfl (fun zq0 => ?_) (fun zq0 => ?_)
    rotate_left
    · exfalso; revert zq0; decide
    refine gj_iload_n dX11_seen_120 rfl ?_
    refine gj_ic (w := 2) dX11_seen_121 ?_
    refine gj_icmp_neN (tgt := 130) (by omega) (by omega) dX11_seen_122 rfl (fun zq0 => ?_) (fun zq0 => ?_)
    rotate_left
    · exfalso; omega
    refine gj_iload_n dX11_seen_130 rfl ?_
    refine gj_if_neN (tgt := 138) (by omega) dX11_seen_131 rfl (fun zq2 => ?_) (fun zq2 => ?_)
    · -- 131 taken
      refine gj_iload dX11_seen_138 rfl ?_
      exact gj_ir rfl dX11_seen_140 rfl (congrArg nI (by first | rw [if_pos (by omega)] | rw [if_neg (by omega)])) rfl
    refine gj_iconst (v := (-1)) dX11_seen_134 (by decide) ?_
    refine gj_top (y := nI 4294967295) (by decide) ?_
    refine gj_goto (tgt := 140) dX11_seen_135 rfl ?_
    exact gj_ir rfl dX11_seen_140 rfl (congrArg nI (by first | rw [if_pos (by omega)] | rw [if_neg (by omega)])) rfl
  show gj _ _ _ _ _ _ [some (.ref 100), some (.int (nI x)), some (.int (nI 1)), some (.int (nI (sp_snc (sp_msn T (fun q => T (4 + q)) x) j))), some (.int (nI (sp_msa (sp_msn T (fun q => T (4 + q)) x) ((1 <<< T 0) - 1) j))), some (.int (nI (sp_sns (sp_msn T (fun q => T (4 + q)) x) j))), some (.int (nI j))] _ _
  refine gj_iload dX11_seen_59 rfl ?_
  refine gj_ic (w := 1) dX11_seen_61 ?_
  refine gj_aload_n dX11_seen_62 rfl ?_
  refine gj_V1 lkX11_46 ((mj_up_ne (by decide)).trans H0) rfl rfl (ev_X11_many ((mj_up_ne (by decide)).trans H0) ((mj_up_ne (by decide)).trans HT)) dX11_seen_63 rfl rfl rfl rfl rfl ?_
  refine gj_ishlN (by omega) dX11_seen_66 ?_
  refine gj_icmp_geN (tgt := 112) (by omega) (by omega) dX11_seen_67 rfl (fun zq3 => ?_) (fun zq3 => ?_)
  · exfalso; omega
  refine gj_aload_n dX11_seen_70 rfl ?_
  refine gj_iload dX11_seen_71 rfl ?_
  refine gj_V1 lkX11_187 ((mj_up_ne (by decide)).trans H0) rfl rfl (ev_X11_isCarried ((mj_up_ne (by decide)).trans H0) ((mj_up_ne (by decide)).trans HT) bT (by omega)) dX11_seen_73 rfl rfl rfl rfl rfl ?_
  refine gj_if_eqb (tgt := 106) dX11_seen_76 rfl (fun zq4 => ?_) (fun zq4 => ?_)
  · -- 76 taken
    have hP9 : (sp_msn T (fun q => T (4 + q)) x) j = false := by unfold sp_msn; rw [zq4, Bool.false_and]
    refine gj_iincN (L' := [some (.ref 100), some (.int (nI x)), some (.int (nI 1)), some (.int (nI (sp_snc (sp_msn T (fun q => T (4 + q)) x) j))), some (.int (nI (sp_msa (sp_msn T (fun q => T (4 + q)) x) ((1 <<< T 0) - 1) j))), some (.int (nI (sp_sns (sp_msn T (fun q => T (4 + q)) x) j))), some (.int (nI (j + 1)))]) dX11_seen_106 rfl (Nat.le_of_ble_eq_true rfl) rfl ?_
    refine gj_goto (tgt := 59) dX11_seen_109 rfl ?_
    exact gj_cast (by first | rw [sp_snc_t hP9, sp_msa_t hP9, sp_sns_t hP9] | rw [sp_snc_f hP9, sp_msa_f hP9, sp_sns_f hP9]) rfl rfl ih
  have he9 := zq4
  refine gj_aload_n dX11_seen_79 rfl ?_
  refine gj_iload dX11_seen_80 rfl ?_
  refine gj_V1 lkX11_196 ((mj_up_ne (by decide)).trans H0) rfl rfl (ev_X11_wetOf ((mj_up_ne (by decide)).trans H0) ((mj_up_ne (by decide)).trans HT) (mj_up_eq _ _ _) bT bT.2.2.2.2.2.1 (by omega)) dX11_seen_82 rfl rfl rfl rfl rfl ?_
  have hb5 := @sp_mw_lt T (fun q => T (4 + q)) j (T 0) (by omega)
  refine gj_iload_n dX11_seen_85 rfl ?_
  refine gj_icmp_neN (tgt := 106) (by omega) (by omega) dX11_seen_86 rfl (fun zq6 => ?_) (fun zq6 => ?_)
  · -- 86 taken
    have hP9 : (sp_msn T (fun q => T (4 + q)) x) j = false := by unfold sp_msn; rw [decide_eq_false zq6, Bool.and_false]
    refine gj_iincN (L' := [some (.ref 100), some (.int (nI x)), some (.int (nI 1)), some (.int (nI (sp_snc (sp_msn T (fun q => T (4 + q)) x) j))), some (.int (nI (sp_msa (sp_msn T (fun q => T (4 + q)) x) ((1 <<< T 0) - 1) j))), some (.int (nI (sp_sns (sp_msn T (fun q => T (4 + q)) x) j))), some (.int (nI (j + 1)))]) dX11_seen_106 rfl (Nat.le_of_ble_eq_true rfl) rfl ?_
    refine gj_goto (tgt := 59) dX11_seen_109 rfl ?_
    exact gj_cast (by first | rw [sp_snc_t hP9, sp_msa_t hP9, sp_sns_t hP9] | rw [sp_snc_f hP9, sp_msa_f hP9, sp_sns_f hP9]) rfl rfl ih
  have hP9 : (sp_msn T (fun q => T (4 + q)) x) j = true := by unfold sp_msn; rw [he9, decide_eq_true zq6]; rfl
  refine gj_iload dX11_seen_89 rfl ?_
  refine gj_iload dX11_seen_91 rfl ?_
  refine gj_iandN  dX11_seen_93 ?_
  refine gj_istore (L' := [some (.ref 100), some (.int (nI x)), some (.int (nI 1)), some (.int (nI (sp_snc (sp_msn T (fun q => T (4 + q)) x) j))), some (.int (nI ((sp_msa (sp_msn T (fun q => T (4 + q)) x) ((1 <<< T 0) - 1) j) &&& j))), some (.int (nI (sp_sns (sp_msn T (fun q => T (4 + q)) x) j))), some (.int (nI j))]) dX11_seen_94 (Nat.le_of_ble_eq_true rfl) rfl ?_
  refine gj_iload dX11_seen_96 rfl ?_
  refine gj_iload dX11_seen_98 rfl ?_
  refine gj_iorN  dX11_seen_100 ?_
  refine gj_istore (L' := [some (.ref 100), some (.int (nI x)), some (.int (nI 1)), some (.int (nI (sp_snc (sp_msn T (fun q => T (4 + q)) x) j))), some (.int (nI ((sp_msa (sp_msn T (fun q => T (4 + q)) x) ((1 <<< T 0) - 1) j) &&& j))), some (.int (nI ((sp_sns (sp_msn T (fun q => T (4 + q)) x) j) ||| j))), some (.int (nI j))]) dX11_seen_101 (Nat.le_of_ble_eq_true rfl) rfl ?_
  refine gj_iincN (L' := [some (.ref 100), some (.int (nI x)), some (.int (nI 1)), some (.int (nI ((sp_snc (sp_msn T (fun q => T (4 + q)) x) j) + 1))), some (.int (nI ((sp_msa (sp_msn T (fun q => T (4 + q)) x) ((1 <<< T 0) - 1) j) &&& j))), some (.int (nI ((sp_sns (sp_msn T (fun q => T (4 + q)) x) j) ||| j))), some (.int (nI j))]) dX11_seen_103 rfl (Nat.le_of_ble_eq_true rfl) rfl ?_
  refine gj_iincN (L' := [some (.ref 100), some (.int (nI x)), some (.int (nI 1)), some (.int (nI ((sp_snc (sp_msn T (fun q => T (4 + q)) x) j) + 1))), some (.int (nI ((sp_msa (sp_msn T (fun q => T (4 + q)) x) ((1 <<< T 0) - 1) j) &&& j))), some (.int (nI ((sp_sns (sp_msn T (fun q => T (4 + q)) x) j) ||| j))), some (.int (nI (j + 1)))]) dX11_seen_106 rfl (Nat.le_of_ble_eq_true rfl) rfl ?_
  refine gj_goto (tgt := 59) dX11_seen_109 rfl ?_
  exact gj_cast (by first | rw [sp_snc_t hP9, sp_msa_t hP9, sp_sns_t hP9] | rw [sp_snc_f hP9, sp_msa_f hP9, sp_sns_f hP9]) rfl rfl ih
set_option maxHeartbeats 1000000 in
set_option maxRecDepth 10000 in
theorem ev_X11_seen_2 {E : mj_E} {h : mj_H} {a0 a1 y2 y3 y4 y5 y6 : Nat} (H0 : h 100 = some (mj_mo a0 a1 y2 y3 y4 y5 y6)) {T : Nat → Nat} (HT : h 101 = some (mj_ar 362 T)) {J : Nat → Nat} (HJ : h 105 = some (mj_ar 25 J)) (bT : mj_Tb T) {x : Nat} (h0 : x < 1 <<< T 0) : mj_Ev E iX11_seen [.ref 100, .int (nI x), .int (nI 2)] h (mj_R (some (.int (nI (sp_sns (sp_msn T (fun q => T (4 + q)) x) (1 <<< T 0))))) (mj_up h 105 (mj_ar 25 (fun q => T (4 + q))))) := by
  refine mj_Ev.of (L0 := [some (.ref 100), some (.int (nI x)), some (.int (nI 2)), none, none, none, none]) pnRX11 (Nat.le_of_ble_eq_true rfl) rfl ?_
  have hb0 := bT.1
  have hZ := mj_sets_le hb0
  refine gj_iload_n dX11_seen_0 rfl ?_
  refine gj_i2lN (by omega) dX11_seen_1 ?_
  refine gj_lconst (v := lN 0) dX11_seen_2 rfl ?_
  refine gj_ic (w := 1) dX11_seen_3 ?_
  refine gj_aload_n dX11_seen_4 rfl ?_
  refine gj_V1 lkX11_46 H0 rfl rfl (ev_X11_many H0 HT) dX11_seen_5 rfl rfl rfl rfl rfl ?_
  refine gj_ishlN (by omega) dX11_seen_8 ?_
  refine gj_ic (w := 1) dX11_seen_9 ?_
  refine gj_isubN (by omega) dX11_seen_10 ?_
  refine gj_i2lN (by omega) dX11_seen_11 ?_
  refine gj_S1 lkX11_50 (ev_X11_in_t (by omega) (by omega) (by omega)) dX11_seen_12 rfl rfl rfl rfl rfl ?_
  refine gj_if_eqN (tgt := 30) (by omega) dX11_seen_15 rfl (fun zq0 => ?_) (fun zq0 => ?_)
  · exfalso; revert zq0; decide
  refine gj_iload_n dX11_seen_18 rfl ?_
  refine gj_i2lN (by omega) dX11_seen_19 ?_
  refine gj_lconst (v := lN 0) dX11_seen_20 rfl ?_
  refine gj_ldc2 (v := lN 2) w_1154 dX11_seen_21 ?_
  refine gj_S1 lkX11_50 (ev_X11_in_t (by omega) (by omega) (by omega)) dX11_seen_24 rfl rfl rfl rfl rfl ?_
  refine gj_if_neN (tgt := 37) (by omega) dX11_seen_27 rfl (fun zq0 => ?_) (fun zq0 => ?_)
  rotate_left
  · exfalso; revert zq0; decide
  refine gj_ic (w := 0) dX11_seen_37 ?_
  refine gj_istore_n (L' := [some (.ref 100), some (.int (nI x)), some (.int (nI 2)), some (.int (nI 0)), none, none, none]) dX11_seen_38 (Nat.le_of_ble_eq_true rfl) rfl ?_
  refine gj_ic (w := 1) dX11_seen_39 ?_
  refine gj_aload_n dX11_seen_40 rfl ?_
  refine gj_V1 lkX11_46 H0 rfl rfl (ev_X11_many H0 HT) dX11_seen_41 rfl rfl rfl rfl rfl ?_
  refine gj_ishlN (by omega) dX11_seen_44 ?_
  refine gj_ic (w := 1) dX11_seen_45 ?_
  refine gj_isubN (by omega) dX11_seen_46 ?_
  refine gj_istore (L' := [some (.ref 100), some (.int (nI x)), some (.int (nI 2)), some (.int (nI 0)), some (.int (nI ((1 <<< (T 0)) - 1))), none, none]) dX11_seen_47 (Nat.le_of_ble_eq_true rfl) rfl ?_
  refine gj_ic (w := 0) dX11_seen_49 ?_
  refine gj_istore (L' := [some (.ref 100), some (.int (nI x)), some (.int (nI 2)), some (.int (nI 0)), some (.int (nI ((1 <<< (T 0)) - 1))), some (.int (nI 0)), none]) dX11_seen_50 (Nat.le_of_ble_eq_true rfl) rfl ?_
  refine gj_aload_n dX11_seen_52 rfl ?_
  refine gj_V0 lkX11_124 H0 rfl rfl (ev_X11_layIce H0 HT HJ bT) dX11_seen_53 rfl rfl rfl rfl rfl ?_
  refine gj_ic (w := 0) dX11_seen_56 ?_
  refine gj_istore (L' := [some (.ref 100), some (.int (nI x)), some (.int (nI 2)), some (.int (nI 0)), some (.int (nI ((1 <<< (T 0)) - 1))), some (.int (nI 0)), some (.int (nI 0))]) dX11_seen_57 (Nat.le_of_ble_eq_true rfl) rfl ?_
  refine gj_cast (L' := [some (.ref 100), some (.int (nI x)), some (.int (nI 2)), some (.int (nI (sp_snc (sp_msn T (fun q => T (4 + q)) x) 0))), some (.int (nI (sp_msa (sp_msn T (fun q => T (4 + q)) x) ((1 <<< T 0) - 1) 0))), some (.int (nI (sp_sns (sp_msn T (fun q => T (4 + q)) x) 0))), some (.int (nI 0))]) (st' := []) (h' := mj_up h 105 (mj_ar 25 (fun q => T (4 + q)))) rfl rfl rfl ?_
  refine gj_loop (fun j => [some (.ref 100), some (.int (nI x)), some (.int (nI 2)), some (.int (nI (sp_snc (sp_msn T (fun q => T (4 + q)) x) j))), some (.int (nI (sp_msa (sp_msn T (fun q => T (4 + q)) x) ((1 <<< T 0) - 1) j))), some (.int (nI (sp_sns (sp_msn T (fun q => T (4 + q)) x) j))), some (.int (nI j))]) (fun j => mj_up h 105 (mj_ar 25 (fun q => T (4 + q)))) (1 <<< T 0) ?_ (fun j hj ih => ?_) 0 (by omega)
  · show gj _ _ _ _ _ _ [some (.ref 100), some (.int (nI x)), some (.int (nI 2)), some (.int (nI (sp_snc (sp_msn T (fun q => T (4 + q)) x) (1 <<< T 0)))), some (.int (nI (sp_msa (sp_msn T (fun q => T (4 + q)) x) ((1 <<< T 0) - 1) (1 <<< T 0)))), some (.int (nI (sp_sns (sp_msn T (fun q => T (4 + q)) x) (1 <<< T 0)))), some (.int (nI (1 <<< T 0)))] _ _
    refine gj_iload dX11_seen_59 rfl ?_
    refine gj_ic (w := 1) dX11_seen_61 ?_
    refine gj_aload_n dX11_seen_62 rfl ?_
    refine gj_V1 lkX11_46 ((mj_up_ne (by decide)).trans H0) rfl rfl (ev_X11_many ((mj_up_ne (by decide)).trans H0) ((mj_up_ne (by decide)).trans HT)) dX11_seen_63 rfl rfl rfl rfl rfl ?_
    refine gj_ishlN (by omega) dX11_seen_66 ?_
    refine gj_icmp_geN (tgt := 112) (by omega) (by omega) dX11_seen_67 rfl (fun zq1 => ?_) (fun zq1 => ?_)
    rotate_left
    · exfalso; omega
    have hsn := @sp_snc_le (sp_msn T (fun q => T (4 + q)) x) (1 <<< T 0)
    refine gj_iload_n dX11_seen_112 rfl ?_
    refine gj_if_neN (tgt := 120) (by omega) dX11_seen_113 rfl (fun zq0 => ?_) (fun zq0 => ?_)
    rotate_left
    · exfalso; revert zq0; decide
    refine gj_iload_n dX11_seen_120 rfl ?_
    refine gj_ic (w := 2) dX11_seen_121 ?_
    refine gj_icmp_neN (tgt := 130) (by omega) (by omega) dX11_seen_122 rfl (fun zq0 => ?_) (fun zq0 => ?_)
    · exfalso; omega
    refine gj_iload dX11_seen_125 rfl ?_
    refine gj_goto (tgt := 140) dX11_seen_127 rfl ?_
    exact gj_ir rfl dX11_seen_140 rfl rfl rfl
  show gj _ _ _ _ _ _ [some (.ref 100), some (.int (nI x)), some (.int (nI 2)), some (.int (nI (sp_snc (sp_msn T (fun q => T (4 + q)) x) j))), some (.int (nI (sp_msa (sp_msn T (fun q => T (4 + q)) x) ((1 <<< T 0) - 1) j))), some (.int (nI (sp_sns (sp_msn T (fun q => T (4 + q)) x) j))), some (.int (nI j))] _ _
  refine gj_iload dX11_seen_59 rfl ?_
  refine gj_ic (w := 1) dX11_seen_61 ?_
  refine gj_aload_n dX11_seen_62 rfl ?_
  refine gj_V1 lkX11_46 ((mj_up_ne (by decide)).trans H0) rfl rfl (ev_X11_many ((mj_up_ne (by decide)).trans H0) ((mj_up_ne (by decide)).trans HT)) dX11_seen_63 rfl rfl rfl rfl rfl ?_
  refine gj_ishlN (by omega) dX11_seen_66 ?_
  refine gj_icmp_geN (tgt := 112) (by omega) (by omega) dX11_seen_67 rfl (fun zq2 => ?_) (fun zq2 => ?_)
  · exfalso; omega
  refine gj_aload_n dX11_seen_70 rfl ?_
  refine gj_iload dX11_seen_71 rfl ?_
  refine gj_V1 lkX11_187 ((mj_up_ne (by decide)).trans H0) rfl rfl (ev_X11_isCarried ((mj_up_ne (by decide)).trans H0) ((mj_up_ne (by decide)).trans HT) bT (by omega)) dX11_seen_73 rfl rfl rfl rfl rfl ?_
  refine gj_if_eqb (tgt := 106) dX11_seen_76 rfl (fun zq3 => ?_) (fun zq3 => ?_)
  · -- 76 taken
    have hP9 : (sp_msn T (fun q => T (4 + q)) x) j = false := by unfold sp_msn; rw [zq3, Bool.false_and]
    refine gj_iincN (L' := [some (.ref 100), some (.int (nI x)), some (.int (nI 2)), some (.int (nI (sp_snc (sp_msn T (fun q => T (4 + q)) x) j))), some (.int (nI (sp_msa (sp_msn T (fun q => T (4 + q)) x) ((1 <<< T 0) - 1) j))), some (.int (nI (sp_sns (sp_msn T (fun q => T (4 + q)) x) j))), some (.int (nI (j + 1)))]) dX11_seen_106 rfl (Nat.le_of_ble_eq_true rfl) rfl ?_
    refine gj_goto (tgt := 59) dX11_seen_109 rfl ?_
    exact gj_cast (by first | rw [sp_snc_t hP9, sp_msa_t hP9, sp_sns_t hP9] | rw [sp_snc_f hP9, sp_msa_f hP9, sp_sns_f hP9]) rfl rfl ih
  have he9 := zq3
  refine gj_aload_n dX11_seen_79 rfl ?_
  refine gj_iload dX11_seen_80 rfl ?_
  refine gj_V1 lkX11_196 ((mj_up_ne (by decide)).trans H0) rfl rfl (ev_X11_wetOf ((mj_up_ne (by decide)).trans H0) ((mj_up_ne (by decide)).trans HT) (mj_up_eq _ _ _) bT bT.2.2.2.2.2.1 (by omega)) dX11_seen_82 rfl rfl rfl rfl rfl ?_
  have hb4 := @sp_mw_lt T (fun q => T (4 + q)) j (T 0) (by omega)
  refine gj_iload_n dX11_seen_85 rfl ?_
  refine gj_icmp_neN (tgt := 106) (by omega) (by omega) dX11_seen_86 rfl (fun zq5 => ?_) (fun zq5 => ?_)
  · -- 86 taken
    have hP9 : (sp_msn T (fun q => T (4 + q)) x) j = false := by unfold sp_msn; rw [decide_eq_false zq5, Bool.and_false]
    refine gj_iincN (L' := [some (.ref 100), some (.int (nI x)), some (.int (nI 2)), some (.int (nI (sp_snc (sp_msn T (fun q => T (4 + q)) x) j))), some (.int (nI (sp_msa (sp_msn T (fun q => T (4 + q)) x) ((1 <<< T 0) - 1) j))), some (.int (nI (sp_sns (sp_msn T (fun q => T (4 + q)) x) j))), some (.int (nI (j + 1)))]) dX11_seen_106 rfl (Nat.le_of_ble_eq_true rfl) rfl ?_
    refine gj_goto (tgt := 59) dX11_seen_109 rfl ?_
    exact gj_cast (by first | rw [sp_snc_t hP9, sp_msa_t hP9, sp_sns_t hP9] | rw [sp_snc_f hP9, sp_msa_f hP9, sp_sns_f hP9]) rfl rfl ih
  have hP9 : (sp_msn T (fun q => T (4 + q)) x) j = true := by unfold sp_msn; rw [he9, decide_eq_true zq5]; rfl
  refine gj_iload dX11_seen_89 rfl ?_
  refine gj_iload dX11_seen_91 rfl ?_
  refine gj_iandN  dX11_seen_93 ?_
  refine gj_istore (L' := [some (.ref 100), some (.int (nI x)), some (.int (nI 2)), some (.int (nI (sp_snc (sp_msn T (fun q => T (4 + q)) x) j))), some (.int (nI ((sp_msa (sp_msn T (fun q => T (4 + q)) x) ((1 <<< T 0) - 1) j) &&& j))), some (.int (nI (sp_sns (sp_msn T (fun q => T (4 + q)) x) j))), some (.int (nI j))]) dX11_seen_94 (Nat.le_of_ble_eq_true rfl) rfl ?_
  refine gj_iload dX11_seen_96 rfl ?_
  refine gj_iload dX11_seen_98 rfl ?_
  refine gj_iorN  dX11_seen_100 ?_
  refine gj_istore (L' := [some (.ref 100), some (.int (nI x)), some (.int (nI 2)), some (.int (nI (sp_snc (sp_msn T (fun q => T (4 + q)) x) j))), some (.int (nI ((sp_msa (sp_msn T (fun q => T (4 + q)) x) ((1 <<< T 0) - 1) j) &&& j))), some (.int (nI ((sp_sns (sp_msn T (fun q => T (4 + q)) x) j) ||| j))), some (.int (nI j))]) dX11_seen_101 (Nat.le_of_ble_eq_true rfl) rfl ?_
  refine gj_iincN (L' := [some (.ref 100), some (.int (nI x)), some (.int (nI 2)), some (.int (nI ((sp_snc (sp_msn T (fun q => T (4 + q)) x) j) + 1))), some (.int (nI ((sp_msa (sp_msn T (fun q => T (4 + q)) x) ((1 <<< T 0) - 1) j) &&& j))), some (.int (nI ((sp_sns (sp_msn T (fun q => T (4 + q)) x) j) ||| j))), some (.int (nI j))]) dX11_seen_103 rfl (Nat.le_of_ble_eq_true rfl) rfl ?_
  refine gj_iincN (L' := [some (.ref 100), some (.int (nI x)), some (.int (nI 2)), some (.int (nI ((sp_snc (sp_msn T (fun q => T (4 + q)) x) j) + 1))), some (.int (nI ((sp_msa (sp_msn T (fun q => T (4 + q)) x) ((1 <<< T 0) - 1) j) &&& j))), some (.int (nI ((sp_sns (sp_msn T (fun q => T (4 + q)) x) j) ||| j))), some (.int (nI (j + 1)))]) dX11_seen_106 rfl (Nat.le_of_ble_eq_true rfl) rfl ?_
  refine gj_goto (tgt := 59) dX11_seen_109 rfl ?_
  exact gj_cast (by first | rw [sp_snc_t hP9, sp_msa_t hP9, sp_sns_t hP9] | rw [sp_snc_f hP9, sp_msa_f hP9, sp_sns_f hP9]) rfl rfl ih
set_option maxHeartbeats 1000000 in
set_option maxRecDepth 10000 in
theorem ev_X11_lies {E : mj_E} {h : mj_H} {a0 a1 y2 y3 y4 y5 y6 : Nat} (H0 : h 100 = some (mj_mo a0 a1 y2 y3 y4 y5 y6)) {T : Nat → Nat} (HT : h 101 = some (mj_ar 362 T)) (bT : mj_Tb T)  : mj_Ev E iX11_lies [.ref 100] h (mj_R (some (.int (nI (mj_bits (fun w => decide (sp_ward (fun q => T (4 + q)) w / 4 < T (69 + w))) 4)))) h) := by
  refine mj_Ev.of (L0 := [some (.ref 100), none, none, none, none]) pnRX11 (Nat.le_of_ble_eq_true rfl) rfl ?_
  refine gj_ic (w := 0) dX11_lies_0 ?_
  refine gj_istore_n (L' := [some (.ref 100), some (.int (nI 0)), none, none, none]) dX11_lies_1 (Nat.le_of_ble_eq_true rfl) rfl ?_
  refine gj_ic (w := 0) dX11_lies_2 ?_
  refine gj_istore_n (L' := [some (.ref 100), some (.int (nI 0)), some (.int (nI 0)), none, none]) dX11_lies_3 (Nat.le_of_ble_eq_true rfl) rfl ?_
  refine gj_cast (L' := [some (.ref 100), some (.int (nI (mj_bits (fun w => decide (sp_ward (fun q => T (4 + q)) w / 4 < T (69 + w))) 0))), some (.int (nI 0)), none, none]) (st' := []) (h' := h) rfl rfl rfl ?_
  refine gj_loop (fun j => [some (.ref 100), some (.int (nI (mj_bits (fun w => decide (sp_ward (fun q => T (4 + q)) w / 4 < T (69 + w))) j))), some (.int (nI j)), none, none]) (fun j => h) 4 ?_ (fun j hj ih => ?_) 0 (by omega)
  · show gj _ _ _ _ _ _ [some (.ref 100), some (.int (nI (mj_bits (fun w => decide (sp_ward (fun q => T (4 + q)) w / 4 < T (69 + w))) 4))), some (.int (nI 4)), none, none] _ _
    refine gj_iload_n dX11_lies_4 rfl ?_
    refine gj_ic (w := 4) dX11_lies_5 ?_
    refine gj_icmp_geN (tgt := 111) (by omega) (by omega) dX11_lies_6 rfl (fun zq0 => ?_) (fun zq0 => ?_)
    rotate_left
    · exfalso; omega
    refine gj_iload_n dX11_lies_111 rfl ?_
    exact gj_ir rfl dX11_lies_112 rfl rfl rfl
  show gj _ _ _ _ _ _ [some (.ref 100), some (.int (nI (mj_bits (fun w => decide (sp_ward (fun q => T (4 + q)) w / 4 < T (69 + w))) j))), some (.int (nI j)), none, none] _ _
  refine gj_iload_n dX11_lies_4 rfl ?_
  refine gj_ic (w := 4) dX11_lies_5 ?_
  refine gj_icmp_geN (tgt := 111) (by omega) (by omega) dX11_lies_6 rfl (fun zq1 => ?_) (fun zq1 => ?_)
  · exfalso; omega
  rcases (by omega : j = 0 ∨ j = 1 ∨ j = 2 ∨ j = 3) with hj4 | hj4 | hj4 | hj4
  · subst hj4
    refine gj_iload_n dX11_lies_9 rfl ?_
    refine gj_ic (w := 2) dX11_lies_10 ?_
    refine gj_idivN (by omega) (by omega) (by omega) dX11_lies_11 ?_
    refine gj_topN (y := 0) rfl ?_
    refine gj_if_neN (tgt := 19) (by omega) dX11_lies_12 rfl (fun zq0 => ?_) (fun zq0 => ?_)
    · exfalso; revert zq0; decide
    refine gj_ic (w := 0) dX11_lies_15 ?_
    refine gj_goto (tgt := 21) dX11_lies_16 rfl ?_
    refine gj_iload_n dX11_lies_21 rfl ?_
    refine gj_ic (w := 2) dX11_lies_22 ?_
    refine gj_iremN (by omega) (by omega) (by omega) dX11_lies_23 ?_
    refine gj_topN (y := 0) rfl ?_
    refine gj_if_neN (tgt := 31) (by omega) dX11_lies_24 rfl (fun zq0 => ?_) (fun zq0 => ?_)
    · exfalso; revert zq0; decide
    refine gj_ic (w := 0) dX11_lies_27 ?_
    refine gj_goto (tgt := 32) dX11_lies_28 rfl ?_
    refine gj_iaddN  dX11_lies_32 ?_
    refine gj_istore_n (L' := [some (.ref 100), some (.int (nI (mj_bits (fun w => decide (sp_ward (fun q => T (4 + q)) w / 4 < T (69 + w))) 0))), some (.int (nI 0)), some (.int (nI (0 + 0))), none]) dX11_lies_33 (Nat.le_of_ble_eq_true rfl) rfl ?_
    refine gj_aload_n dX11_lies_34 rfl ?_
    refine gfX11_7 rfl dX11_lies_35 H0 rfl ?_
    refine gj_ic (w := 4) dX11_lies_38 ?_
    refine gj_iload_n dX11_lies_39 rfl ?_
    refine gj_iaddN  dX11_lies_40 ?_
    refine gj_ialdN dX11_lies_41 HT (by omega) (by omega) ?_
    have hb2 : T (4 + (0 + 0)) ≤ 99 := bT.2.2.2.2.2.1 0 (by decide)
    refine gj_aload_n dX11_lies_42 rfl ?_
    refine gfX11_7 rfl dX11_lies_43 H0 rfl ?_
    refine gj_ic (w := 4) dX11_lies_46 ?_
    refine gj_iload_n dX11_lies_47 rfl ?_
    refine gj_iaddN  dX11_lies_48 ?_
    refine gj_ic (w := 1) dX11_lies_49 ?_
    refine gj_iaddN  dX11_lies_50 ?_
    refine gj_ialdN dX11_lies_51 HT (by omega) (by omega) ?_
    have hb3 : T ((4 + (0 + 0)) + 1) ≤ 99 := bT.2.2.2.2.2.1 1 (by decide)
    refine gj_iaddN  dX11_lies_52 ?_
    refine gj_aload_n dX11_lies_53 rfl ?_
    refine gfX11_7 rfl dX11_lies_54 H0 rfl ?_
    refine gj_ic (w := 4) dX11_lies_57 ?_
    refine gj_iload_n dX11_lies_58 rfl ?_
    refine gj_iaddN  dX11_lies_59 ?_
    refine gj_ic (w := 5) dX11_lies_60 ?_
    refine gj_iaddN  dX11_lies_61 ?_
    refine gj_ialdN dX11_lies_62 HT (by omega) (by omega) ?_
    have hb4 : T ((4 + (0 + 0)) + 5) ≤ 99 := bT.2.2.2.2.2.1 5 (by decide)
    refine gj_iaddN  dX11_lies_63 ?_
    refine gj_aload_n dX11_lies_64 rfl ?_
    refine gfX11_7 rfl dX11_lies_65 H0 rfl ?_
    refine gj_ic (w := 4) dX11_lies_68 ?_
    refine gj_iload_n dX11_lies_69 rfl ?_
    refine gj_iaddN  dX11_lies_70 ?_
    refine gj_ic (w := 5) dX11_lies_71 ?_
    refine gj_iaddN  dX11_lies_72 ?_
    refine gj_ic (w := 1) dX11_lies_73 ?_
    refine gj_iaddN  dX11_lies_74 ?_
    refine gj_ialdN dX11_lies_75 HT (by omega) (by omega) ?_
    have hb5 : T (((4 + (0 + 0)) + 5) + 1) ≤ 99 := bT.2.2.2.2.2.1 6 (by decide)
    refine gj_iaddN  dX11_lies_76 ?_
    refine gj_istore (L' := [some (.ref 100), some (.int (nI (mj_bits (fun w => decide (sp_ward (fun q => T (4 + q)) w / 4 < T (69 + w))) 0))), some (.int (nI 0)), some (.int (nI (0 + 0))), some (.int (nI ((((T (4 + (0 + 0))) + (T ((4 + (0 + 0)) + 1))) + (T ((4 + (0 + 0)) + 5))) + (T (((4 + (0 + 0)) + 5) + 1)))))]) dX11_lies_77 (Nat.le_of_ble_eq_true rfl) rfl ?_
    refine gj_iload_n dX11_lies_79 rfl ?_
    refine gj_aload_n dX11_lies_80 rfl ?_
    refine gfX11_7 rfl dX11_lies_81 H0 rfl ?_
    refine gj_bp 69 dX11_lies_84 (by decide) ?_
    refine gj_iload_n dX11_lies_86 rfl ?_
    refine gj_iaddN  dX11_lies_87 ?_
    refine gj_ialdN dX11_lies_88 HT (by omega) (by omega) ?_
    have hb6 := bT.2.2.2.2.2.2.2.2.2.1 0 (by omega)
    refine gj_iload dX11_lies_89 rfl ?_
    refine gj_ic (w := 4) dX11_lies_91 ?_
    refine gj_idivN (by omega) (by omega) (by omega) dX11_lies_92 ?_
    refine gj_icmp_leN (tgt := 102) (by omega) (by omega) dX11_lies_93 rfl (fun zq7 => ?_) (fun zq7 => ?_)
    · -- 93 taken
      have hw9 : (fun w => decide (sp_ward (fun q => T (4 + q)) w / 4 < T (69 + w))) 0 = false := decide_eq_false (Nat.not_lt.mpr zq7)
      refine gj_ic (w := 0) dX11_lies_102 ?_
      refine gj_iorN  dX11_lies_103 ?_
      refine gj_istore_n (L' := [some (.ref 100), some (.int (nI ((mj_bits (fun w => decide (sp_ward (fun q => T (4 + q)) w / 4 < T (69 + w))) 0) ||| 0))), some (.int (nI 0)), some (.int (nI (0 + 0))), some (.int (nI ((((T (4 + (0 + 0))) + (T ((4 + (0 + 0)) + 1))) + (T ((4 + (0 + 0)) + 5))) + (T (((4 + (0 + 0)) + 5) + 1)))))]) dX11_lies_104 (Nat.le_of_ble_eq_true rfl) rfl ?_
      refine gj_iincN (L' := [some (.ref 100), some (.int (nI ((mj_bits (fun w => decide (sp_ward (fun q => T (4 + q)) w / 4 < T (69 + w))) 0) ||| 0))), some (.int (nI 1)), some (.int (nI (0 + 0))), some (.int (nI ((((T (4 + (0 + 0))) + (T ((4 + (0 + 0)) + 1))) + (T ((4 + (0 + 0)) + 5))) + (T (((4 + (0 + 0)) + 5) + 1)))))]) dX11_lies_105 rfl (Nat.le_of_ble_eq_true rfl) rfl ?_
      refine gj_goto (tgt := 4) dX11_lies_108 rfl ?_
      refine gj_forget (i := 3) (L' := [some (.ref 100), some (.int (nI ((mj_bits (fun w => decide (sp_ward (fun q => T (4 + q)) w / 4 < T (69 + w))) 0) ||| 0))), some (.int (nI 1)), none, some (.int (nI ((((T (4 + (0 + 0))) + (T ((4 + (0 + 0)) + 1))) + (T ((4 + (0 + 0)) + 5))) + (T (((4 + (0 + 0)) + 5) + 1)))))]) rfl ?_
      refine gj_forget (i := 4) (L' := [some (.ref 100), some (.int (nI ((mj_bits (fun w => decide (sp_ward (fun q => T (4 + q)) w / 4 < T (69 + w))) 0) ||| 0))), some (.int (nI 1)), none, none]) rfl ?_
      exact gj_cast (by first | (rw [show mj_bits (fun w => decide (sp_ward (fun q => T (4 + q)) w / 4 < T (69 + w))) (0 + 1) = _ from mj_bits_t (p := (fun w => decide (sp_ward (fun q => T (4 + q)) w / 4 < T (69 + w)))) hw9]; try rfl) | (rw [Nat.or_zero, show mj_bits (fun w => decide (sp_ward (fun q => T (4 + q)) w / 4 < T (69 + w))) (0 + 1) = _ from mj_bits_f (p := (fun w => decide (sp_ward (fun q => T (4 + q)) w / 4 < T (69 + w)))) hw9]; try rfl)) rfl rfl ih
    have hw9 : (fun w => decide (sp_ward (fun q => T (4 + q)) w / 4 < T (69 + w))) 0 = true := decide_eq_true zq7
    refine gj_ic (w := 1) dX11_lies_96 ?_
    refine gj_iload_n dX11_lies_97 rfl ?_
    refine gj_ishlN (by omega) dX11_lies_98 ?_
    refine gj_goto (tgt := 103) dX11_lies_99 rfl ?_
    refine gj_iorN  dX11_lies_103 ?_
    refine gj_istore_n (L' := [some (.ref 100), some (.int (nI ((mj_bits (fun w => decide (sp_ward (fun q => T (4 + q)) w / 4 < T (69 + w))) 0) ||| (1 <<< 0)))), some (.int (nI 0)), some (.int (nI (0 + 0))), some (.int (nI ((((T (4 + (0 + 0))) + (T ((4 + (0 + 0)) + 1))) + (T ((4 + (0 + 0)) + 5))) + (T (((4 + (0 + 0)) + 5) + 1)))))]) dX11_lies_104 (Nat.le_of_ble_eq_true rfl) rfl ?_
    refine gj_iincN (L' := [some (.ref 100), some (.int (nI ((mj_bits (fun w => decide (sp_ward (fun q => T (4 + q)) w / 4 < T (69 + w))) 0) ||| (1 <<< 0)))), some (.int (nI 1)), some (.int (nI (0 + 0))), some (.int (nI ((((T (4 + (0 + 0))) + (T ((4 + (0 + 0)) + 1))) + (T ((4 + (0 + 0)) + 5))) + (T (((4 + (0 + 0)) + 5) + 1)))))]) dX11_lies_105 rfl (Nat.le_of_ble_eq_true rfl) rfl ?_
    refine gj_goto (tgt := 4) dX11_lies_108 rfl ?_
    refine gj_forget (i := 3) (L' := [some (.ref 100), some (.int (nI ((mj_bits (fun w => decide (sp_ward (fun q => T (4 + q)) w / 4 < T (69 + w))) 0) ||| (1 <<< 0)))), some (.int (nI 1)), none, some (.int (nI ((((T (4 + (0 + 0))) + (T ((4 + (0 + 0)) + 1))) + (T ((4 + (0 + 0)) + 5))) + (T (((4 + (0 + 0)) + 5) + 1)))))]) rfl ?_
    refine gj_forget (i := 4) (L' := [some (.ref 100), some (.int (nI ((mj_bits (fun w => decide (sp_ward (fun q => T (4 + q)) w / 4 < T (69 + w))) 0) ||| (1 <<< 0)))), some (.int (nI 1)), none, none]) rfl ?_
    exact gj_cast (by first | (rw [show mj_bits (fun w => decide (sp_ward (fun q => T (4 + q)) w / 4 < T (69 + w))) (0 + 1) = _ from mj_bits_t (p := (fun w => decide (sp_ward (fun q => T (4 + q)) w / 4 < T (69 + w)))) hw9]; try rfl) | (rw [Nat.or_zero, show mj_bits (fun w => decide (sp_ward (fun q => T (4 + q)) w / 4 < T (69 + w))) (0 + 1) = _ from mj_bits_f (p := (fun w => decide (sp_ward (fun q => T (4 + q)) w / 4 < T (69 + w)))) hw9]; try rfl)) rfl rfl ih
  · subst hj4
    refine gj_iload_n dX11_lies_9 rfl ?_
    refine gj_ic (w := 2) dX11_lies_10 ?_
    refine gj_idivN (by omega) (by omega) (by omega) dX11_lies_11 ?_
    refine gj_topN (y := 0) rfl ?_
    refine gj_if_neN (tgt := 19) (by omega) dX11_lies_12 rfl (fun zq0 => ?_) (fun zq0 => ?_)
    · exfalso; revert zq0; decide
    refine gj_ic (w := 0) dX11_lies_15 ?_
    refine gj_goto (tgt := 21) dX11_lies_16 rfl ?_
    refine gj_iload_n dX11_lies_21 rfl ?_
    refine gj_ic (w := 2) dX11_lies_22 ?_
    refine gj_iremN (by omega) (by omega) (by omega) dX11_lies_23 ?_
    refine gj_topN (y := 1) rfl ?_
    refine gj_if_neN (tgt := 31) (by omega) dX11_lies_24 rfl (fun zq0 => ?_) (fun zq0 => ?_)
    rotate_left
    · exfalso; revert zq0; decide
    refine gj_ic (w := 3) dX11_lies_31 ?_
    refine gj_iaddN  dX11_lies_32 ?_
    refine gj_istore_n (L' := [some (.ref 100), some (.int (nI (mj_bits (fun w => decide (sp_ward (fun q => T (4 + q)) w / 4 < T (69 + w))) 1))), some (.int (nI 1)), some (.int (nI (0 + 3))), none]) dX11_lies_33 (Nat.le_of_ble_eq_true rfl) rfl ?_
    refine gj_aload_n dX11_lies_34 rfl ?_
    refine gfX11_7 rfl dX11_lies_35 H0 rfl ?_
    refine gj_ic (w := 4) dX11_lies_38 ?_
    refine gj_iload_n dX11_lies_39 rfl ?_
    refine gj_iaddN  dX11_lies_40 ?_
    refine gj_ialdN dX11_lies_41 HT (by omega) (by omega) ?_
    have hb8 : T (4 + (0 + 3)) ≤ 99 := bT.2.2.2.2.2.1 3 (by decide)
    refine gj_aload_n dX11_lies_42 rfl ?_
    refine gfX11_7 rfl dX11_lies_43 H0 rfl ?_
    refine gj_ic (w := 4) dX11_lies_46 ?_
    refine gj_iload_n dX11_lies_47 rfl ?_
    refine gj_iaddN  dX11_lies_48 ?_
    refine gj_ic (w := 1) dX11_lies_49 ?_
    refine gj_iaddN  dX11_lies_50 ?_
    refine gj_ialdN dX11_lies_51 HT (by omega) (by omega) ?_
    have hb9 : T ((4 + (0 + 3)) + 1) ≤ 99 := bT.2.2.2.2.2.1 4 (by decide)
    refine gj_iaddN  dX11_lies_52 ?_
    refine gj_aload_n dX11_lies_53 rfl ?_
    refine gfX11_7 rfl dX11_lies_54 H0 rfl ?_
    refine gj_ic (w := 4) dX11_lies_57 ?_
    refine gj_iload_n dX11_lies_58 rfl ?_
    refine gj_iaddN  dX11_lies_59 ?_
    refine gj_ic (w := 5) dX11_lies_60 ?_
    refine gj_iaddN  dX11_lies_61 ?_
    refine gj_ialdN dX11_lies_62 HT (by omega) (by omega) ?_
    have hb10 : T ((4 + (0 + 3)) + 5) ≤ 99 := bT.2.2.2.2.2.1 8 (by decide)
    refine gj_iaddN  dX11_lies_63 ?_
    refine gj_aload_n dX11_lies_64 rfl ?_
    refine gfX11_7 rfl dX11_lies_65 H0 rfl ?_
    refine gj_ic (w := 4) dX11_lies_68 ?_
    refine gj_iload_n dX11_lies_69 rfl ?_
    refine gj_iaddN  dX11_lies_70 ?_
    refine gj_ic (w := 5) dX11_lies_71 ?_
    refine gj_iaddN  dX11_lies_72 ?_
    refine gj_ic (w := 1) dX11_lies_73 ?_
    refine gj_iaddN  dX11_lies_74 ?_
    refine gj_ialdN dX11_lies_75 HT (by omega) (by omega) ?_
    have hb11 : T (((4 + (0 + 3)) + 5) + 1) ≤ 99 := bT.2.2.2.2.2.1 9 (by decide)
    refine gj_iaddN  dX11_lies_76 ?_
    refine gj_istore (L' := [some (.ref 100), some (.int (nI (mj_bits (fun w => decide (sp_ward (fun q => T (4 + q)) w / 4 < T (69 + w))) 1))), some (.int (nI 1)), some (.int (nI (0 + 3))), some (.int (nI ((((T (4 + (0 + 3))) + (T ((4 + (0 + 3)) + 1))) + (T ((4 + (0 + 3)) + 5))) + (T (((4 + (0 + 3)) + 5) + 1)))))]) dX11_lies_77 (Nat.le_of_ble_eq_true rfl) rfl ?_
    refine gj_iload_n dX11_lies_79 rfl ?_
    refine gj_aload_n dX11_lies_80 rfl ?_
    refine gfX11_7 rfl dX11_lies_81 H0 rfl ?_
    refine gj_bp 69 dX11_lies_84 (by decide) ?_
    refine gj_iload_n dX11_lies_86 rfl ?_
    refine gj_iaddN  dX11_lies_87 ?_
    refine gj_ialdN dX11_lies_88 HT (by omega) (by omega) ?_
    have hb12 := bT.2.2.2.2.2.2.2.2.2.1 1 (by omega)
    refine gj_iload dX11_lies_89 rfl ?_
    refine gj_ic (w := 4) dX11_lies_91 ?_
    refine gj_idivN (by omega) (by omega) (by omega) dX11_lies_92 ?_
    refine gj_icmp_leN (tgt := 102) (by omega) (by omega) dX11_lies_93 rfl (fun zq13 => ?_) (fun zq13 => ?_)
    · -- 93 taken
      have hw9 : (fun w => decide (sp_ward (fun q => T (4 + q)) w / 4 < T (69 + w))) 1 = false := decide_eq_false (Nat.not_lt.mpr zq13)
      refine gj_ic (w := 0) dX11_lies_102 ?_
      refine gj_iorN  dX11_lies_103 ?_
      refine gj_istore_n (L' := [some (.ref 100), some (.int (nI ((mj_bits (fun w => decide (sp_ward (fun q => T (4 + q)) w / 4 < T (69 + w))) 1) ||| 0))), some (.int (nI 1)), some (.int (nI (0 + 3))), some (.int (nI ((((T (4 + (0 + 3))) + (T ((4 + (0 + 3)) + 1))) + (T ((4 + (0 + 3)) + 5))) + (T (((4 + (0 + 3)) + 5) + 1)))))]) dX11_lies_104 (Nat.le_of_ble_eq_true rfl) rfl ?_
      refine gj_iincN (L' := [some (.ref 100), some (.int (nI ((mj_bits (fun w => decide (sp_ward (fun q => T (4 + q)) w / 4 < T (69 + w))) 1) ||| 0))), some (.int (nI 2)), some (.int (nI (0 + 3))), some (.int (nI ((((T (4 + (0 + 3))) + (T ((4 + (0 + 3)) + 1))) + (T ((4 + (0 + 3)) + 5))) + (T (((4 + (0 + 3)) + 5) + 1)))))]) dX11_lies_105 rfl (Nat.le_of_ble_eq_true rfl) rfl ?_
      refine gj_goto (tgt := 4) dX11_lies_108 rfl ?_
      refine gj_forget (i := 3) (L' := [some (.ref 100), some (.int (nI ((mj_bits (fun w => decide (sp_ward (fun q => T (4 + q)) w / 4 < T (69 + w))) 1) ||| 0))), some (.int (nI 2)), none, some (.int (nI ((((T (4 + (0 + 3))) + (T ((4 + (0 + 3)) + 1))) + (T ((4 + (0 + 3)) + 5))) + (T (((4 + (0 + 3)) + 5) + 1)))))]) rfl ?_
      refine gj_forget (i := 4) (L' := [some (.ref 100), some (.int (nI ((mj_bits (fun w => decide (sp_ward (fun q => T (4 + q)) w / 4 < T (69 + w))) 1) ||| 0))), some (.int (nI 2)), none, none]) rfl ?_
      exact gj_cast (by first | (rw [show mj_bits (fun w => decide (sp_ward (fun q => T (4 + q)) w / 4 < T (69 + w))) (1 + 1) = _ from mj_bits_t (p := (fun w => decide (sp_ward (fun q => T (4 + q)) w / 4 < T (69 + w)))) hw9]; try rfl) | (rw [Nat.or_zero, show mj_bits (fun w => decide (sp_ward (fun q => T (4 + q)) w / 4 < T (69 + w))) (1 + 1) = _ from mj_bits_f (p := (fun w => decide (sp_ward (fun q => T (4 + q)) w / 4 < T (69 + w)))) hw9]; try rfl)) rfl rfl ih
    have hw9 : (fun w => decide (sp_ward (fun q => T (4 + q)) w / 4 < T (69 + w))) 1 = true := decide_eq_true zq13
    refine gj_ic (w := 1) dX11_lies_96 ?_
    refine gj_iload_n dX11_lies_97 rfl ?_
    refine gj_ishlN (by omega) dX11_lies_98 ?_
    refine gj_goto (tgt := 103) dX11_lies_99 rfl ?_
    refine gj_iorN  dX11_lies_103 ?_
    refine gj_istore_n (L' := [some (.ref 100), some (.int (nI ((mj_bits (fun w => decide (sp_ward (fun q => T (4 + q)) w / 4 < T (69 + w))) 1) ||| (1 <<< 1)))), some (.int (nI 1)), some (.int (nI (0 + 3))), some (.int (nI ((((T (4 + (0 + 3))) + (T ((4 + (0 + 3)) + 1))) + (T ((4 + (0 + 3)) + 5))) + (T (((4 + (0 + 3)) + 5) + 1)))))]) dX11_lies_104 (Nat.le_of_ble_eq_true rfl) rfl ?_
    refine gj_iincN (L' := [some (.ref 100), some (.int (nI ((mj_bits (fun w => decide (sp_ward (fun q => T (4 + q)) w / 4 < T (69 + w))) 1) ||| (1 <<< 1)))), some (.int (nI 2)), some (.int (nI (0 + 3))), some (.int (nI ((((T (4 + (0 + 3))) + (T ((4 + (0 + 3)) + 1))) + (T ((4 + (0 + 3)) + 5))) + (T (((4 + (0 + 3)) + 5) + 1)))))]) dX11_lies_105 rfl (Nat.le_of_ble_eq_true rfl) rfl ?_
    refine gj_goto (tgt := 4) dX11_lies_108 rfl ?_
    refine gj_forget (i := 3) (L' := [some (.ref 100), some (.int (nI ((mj_bits (fun w => decide (sp_ward (fun q => T (4 + q)) w / 4 < T (69 + w))) 1) ||| (1 <<< 1)))), some (.int (nI 2)), none, some (.int (nI ((((T (4 + (0 + 3))) + (T ((4 + (0 + 3)) + 1))) + (T ((4 + (0 + 3)) + 5))) + (T (((4 + (0 + 3)) + 5) + 1)))))]) rfl ?_
    refine gj_forget (i := 4) (L' := [some (.ref 100), some (.int (nI ((mj_bits (fun w => decide (sp_ward (fun q => T (4 + q)) w / 4 < T (69 + w))) 1) ||| (1 <<< 1)))), some (.int (nI 2)), none, none]) rfl ?_
    exact gj_cast (by first | (rw [show mj_bits (fun w => decide (sp_ward (fun q => T (4 + q)) w / 4 < T (69 + w))) (1 + 1) = _ from mj_bits_t (p := (fun w => decide (sp_ward (fun q => T (4 + q)) w / 4 < T (69 + w)))) hw9]; try rfl) | (rw [Nat.or_zero, show mj_bits (fun w => decide (sp_ward (fun q => T (4 + q)) w / 4 < T (69 + w))) (1 + 1) = _ from mj_bits_f (p := (fun w => decide (sp_ward (fun q => T (4 + q)) w / 4 < T (69 + w)))) hw9]; try rfl)) rfl rfl ih
  · subst hj4
    refine gj_iload_n dX11_lies_9 rfl ?_
    refine gj_ic (w := 2) dX11_lies_10 ?_
    refine gj_idivN (by omega) (by omega) (by omega) dX11_lies_11 ?_
    refine gj_topN (y := 1) rfl ?_
    refine gj_if_neN (tgt := 19) (by omega) dX11_lies_12 rfl (fun zq0 => ?_) (fun zq0 => ?_)
    rotate_left
    · exfalso; revert zq0; decide
    refine gj_bp 15 dX11_lies_19 (by decide) ?_
    refine gj_iload_n dX11_lies_21 rfl ?_
    refine gj_ic (w := 2) dX11_lies_22 ?_
    refine gj_iremN (by omega) (by omega) (by omega) dX11_lies_23 ?_
    refine gj_topN (y := 0) rfl ?_
    refine gj_if_neN (tgt := 31) (by omega) dX11_lies_24 rfl (fun zq0 => ?_) (fun zq0 => ?_)
    · exfalso; revert zq0; decide
    refine gj_ic (w := 0) dX11_lies_27 ?_
    refine gj_goto (tgt := 32) dX11_lies_28 rfl ?_
    refine gj_iaddN  dX11_lies_32 ?_
    refine gj_istore_n (L' := [some (.ref 100), some (.int (nI (mj_bits (fun w => decide (sp_ward (fun q => T (4 + q)) w / 4 < T (69 + w))) 2))), some (.int (nI 2)), some (.int (nI (15 + 0))), none]) dX11_lies_33 (Nat.le_of_ble_eq_true rfl) rfl ?_
    refine gj_aload_n dX11_lies_34 rfl ?_
    refine gfX11_7 rfl dX11_lies_35 H0 rfl ?_
    refine gj_ic (w := 4) dX11_lies_38 ?_
    refine gj_iload_n dX11_lies_39 rfl ?_
    refine gj_iaddN  dX11_lies_40 ?_
    refine gj_ialdN dX11_lies_41 HT (by omega) (by omega) ?_
    have hb14 : T (4 + (15 + 0)) ≤ 99 := bT.2.2.2.2.2.1 15 (by decide)
    refine gj_aload_n dX11_lies_42 rfl ?_
    refine gfX11_7 rfl dX11_lies_43 H0 rfl ?_
    refine gj_ic (w := 4) dX11_lies_46 ?_
    refine gj_iload_n dX11_lies_47 rfl ?_
    refine gj_iaddN  dX11_lies_48 ?_
    refine gj_ic (w := 1) dX11_lies_49 ?_
    refine gj_iaddN  dX11_lies_50 ?_
    refine gj_ialdN dX11_lies_51 HT (by omega) (by omega) ?_
    have hb15 : T ((4 + (15 + 0)) + 1) ≤ 99 := bT.2.2.2.2.2.1 16 (by decide)
    refine gj_iaddN  dX11_lies_52 ?_
    refine gj_aload_n dX11_lies_53 rfl ?_
    refine gfX11_7 rfl dX11_lies_54 H0 rfl ?_
    refine gj_ic (w := 4) dX11_lies_57 ?_
    refine gj_iload_n dX11_lies_58 rfl ?_
    refine gj_iaddN  dX11_lies_59 ?_
    refine gj_ic (w := 5) dX11_lies_60 ?_
    refine gj_iaddN  dX11_lies_61 ?_
    refine gj_ialdN dX11_lies_62 HT (by omega) (by omega) ?_
    have hb16 : T ((4 + (15 + 0)) + 5) ≤ 99 := bT.2.2.2.2.2.1 20 (by decide)
    refine gj_iaddN  dX11_lies_63 ?_
    refine gj_aload_n dX11_lies_64 rfl ?_
    refine gfX11_7 rfl dX11_lies_65 H0 rfl ?_
    refine gj_ic (w := 4) dX11_lies_68 ?_
    refine gj_iload_n dX11_lies_69 rfl ?_
    refine gj_iaddN  dX11_lies_70 ?_
    refine gj_ic (w := 5) dX11_lies_71 ?_
    refine gj_iaddN  dX11_lies_72 ?_
    refine gj_ic (w := 1) dX11_lies_73 ?_
    refine gj_iaddN  dX11_lies_74 ?_
    refine gj_ialdN dX11_lies_75 HT (by omega) (by omega) ?_
    have hb17 : T (((4 + (15 + 0)) + 5) + 1) ≤ 99 := bT.2.2.2.2.2.1 21 (by decide)
    refine gj_iaddN  dX11_lies_76 ?_
    refine gj_istore (L' := [some (.ref 100), some (.int (nI (mj_bits (fun w => decide (sp_ward (fun q => T (4 + q)) w / 4 < T (69 + w))) 2))), some (.int (nI 2)), some (.int (nI (15 + 0))), some (.int (nI ((((T (4 + (15 + 0))) + (T ((4 + (15 + 0)) + 1))) + (T ((4 + (15 + 0)) + 5))) + (T (((4 + (15 + 0)) + 5) + 1)))))]) dX11_lies_77 (Nat.le_of_ble_eq_true rfl) rfl ?_
    refine gj_iload_n dX11_lies_79 rfl ?_
    refine gj_aload_n dX11_lies_80 rfl ?_
    refine gfX11_7 rfl dX11_lies_81 H0 rfl ?_
    refine gj_bp 69 dX11_lies_84 (by decide) ?_
    refine gj_iload_n dX11_lies_86 rfl ?_
    refine gj_iaddN  dX11_lies_87 ?_
    refine gj_ialdN dX11_lies_88 HT (by omega) (by omega) ?_
    have hb18 := bT.2.2.2.2.2.2.2.2.2.1 2 (by omega)
    refine gj_iload dX11_lies_89 rfl ?_
    refine gj_ic (w := 4) dX11_lies_91 ?_
    refine gj_idivN (by omega) (by omega) (by omega) dX11_lies_92 ?_
    refine gj_icmp_leN (tgt := 102) (by omega) (by omega) dX11_lies_93 rfl (fun zq19 => ?_) (fun zq19 => ?_)
    · -- 93 taken
      have hw9 : (fun w => decide (sp_ward (fun q => T (4 + q)) w / 4 < T (69 + w))) 2 = false := decide_eq_false (Nat.not_lt.mpr zq19)
      refine gj_ic (w := 0) dX11_lies_102 ?_
      refine gj_iorN  dX11_lies_103 ?_
      refine gj_istore_n (L' := [some (.ref 100), some (.int (nI ((mj_bits (fun w => decide (sp_ward (fun q => T (4 + q)) w / 4 < T (69 + w))) 2) ||| 0))), some (.int (nI 2)), some (.int (nI (15 + 0))), some (.int (nI ((((T (4 + (15 + 0))) + (T ((4 + (15 + 0)) + 1))) + (T ((4 + (15 + 0)) + 5))) + (T (((4 + (15 + 0)) + 5) + 1)))))]) dX11_lies_104 (Nat.le_of_ble_eq_true rfl) rfl ?_
      refine gj_iincN (L' := [some (.ref 100), some (.int (nI ((mj_bits (fun w => decide (sp_ward (fun q => T (4 + q)) w / 4 < T (69 + w))) 2) ||| 0))), some (.int (nI 3)), some (.int (nI (15 + 0))), some (.int (nI ((((T (4 + (15 + 0))) + (T ((4 + (15 + 0)) + 1))) + (T ((4 + (15 + 0)) + 5))) + (T (((4 + (15 + 0)) + 5) + 1)))))]) dX11_lies_105 rfl (Nat.le_of_ble_eq_true rfl) rfl ?_
      refine gj_goto (tgt := 4) dX11_lies_108 rfl ?_
      refine gj_forget (i := 3) (L' := [some (.ref 100), some (.int (nI ((mj_bits (fun w => decide (sp_ward (fun q => T (4 + q)) w / 4 < T (69 + w))) 2) ||| 0))), some (.int (nI 3)), none, some (.int (nI ((((T (4 + (15 + 0))) + (T ((4 + (15 + 0)) + 1))) + (T ((4 + (15 + 0)) + 5))) + (T (((4 + (15 + 0)) + 5) + 1)))))]) rfl ?_
      refine gj_forget (i := 4) (L' := [some (.ref 100), some (.int (nI ((mj_bits (fun w => decide (sp_ward (fun q => T (4 + q)) w / 4 < T (69 + w))) 2) ||| 0))), some (.int (nI 3)), none, none]) rfl ?_
      exact gj_cast (by first | (rw [show mj_bits (fun w => decide (sp_ward (fun q => T (4 + q)) w / 4 < T (69 + w))) (2 + 1) = _ from mj_bits_t (p := (fun w => decide (sp_ward (fun q => T (4 + q)) w / 4 < T (69 + w)))) hw9]; try rfl) | (rw [Nat.or_zero, show mj_bits (fun w => decide (sp_ward (fun q => T (4 + q)) w / 4 < T (69 + w))) (2 + 1) = _ from mj_bits_f (p := (fun w => decide (sp_ward (fun q => T (4 + q)) w / 4 < T (69 + w)))) hw9]; try rfl)) rfl rfl ih
    have hw9 : (fun w => decide (sp_ward (fun q => T (4 + q)) w / 4 < T (69 + w))) 2 = true := decide_eq_true zq19
    refine gj_ic (w := 1) dX11_lies_96 ?_
    refine gj_iload_n dX11_lies_97 rfl ?_
    refine gj_ishlN (by omega) dX11_lies_98 ?_
    refine gj_goto (tgt := 103) dX11_lies_99 rfl ?_
    refine gj_iorN  dX11_lies_103 ?_
    refine gj_istore_n (L' := [some (.ref 100), some (.int (nI ((mj_bits (fun w => decide (sp_ward (fun q => T (4 + q)) w / 4 < T (69 + w))) 2) ||| (1 <<< 2)))), some (.int (nI 2)), some (.int (nI (15 + 0))), some (.int (nI ((((T (4 + (15 + 0))) + (T ((4 + (15 + 0)) + 1))) + (T ((4 + (15 + 0)) + 5))) + (T (((4 + (15 + 0)) + 5) + 1)))))]) dX11_lies_104 (Nat.le_of_ble_eq_true rfl) rfl ?_
    refine gj_iincN (L' := [some (.ref 100), some (.int (nI ((mj_bits (fun w => decide (sp_ward (fun q => T (4 + q)) w / 4 < T (69 + w))) 2) ||| (1 <<< 2)))), some (.int (nI 3)), some (.int (nI (15 + 0))), some (.int (nI ((((T (4 + (15 + 0))) + (T ((4 + (15 + 0)) + 1))) + (T ((4 + (15 + 0)) + 5))) + (T (((4 + (15 + 0)) + 5) + 1)))))]) dX11_lies_105 rfl (Nat.le_of_ble_eq_true rfl) rfl ?_
    refine gj_goto (tgt := 4) dX11_lies_108 rfl ?_
    refine gj_forget (i := 3) (L' := [some (.ref 100), some (.int (nI ((mj_bits (fun w => decide (sp_ward (fun q => T (4 + q)) w / 4 < T (69 + w))) 2) ||| (1 <<< 2)))), some (.int (nI 3)), none, some (.int (nI ((((T (4 + (15 + 0))) + (T ((4 + (15 + 0)) + 1))) + (T ((4 + (15 + 0)) + 5))) + (T (((4 + (15 + 0)) + 5) + 1)))))]) rfl ?_
    refine gj_forget (i := 4) (L' := [some (.ref 100), some (.int (nI ((mj_bits (fun w => decide (sp_ward (fun q => T (4 + q)) w / 4 < T (69 + w))) 2) ||| (1 <<< 2)))), some (.int (nI 3)), none, none]) rfl ?_
    exact gj_cast (by first | (rw [show mj_bits (fun w => decide (sp_ward (fun q => T (4 + q)) w / 4 < T (69 + w))) (2 + 1) = _ from mj_bits_t (p := (fun w => decide (sp_ward (fun q => T (4 + q)) w / 4 < T (69 + w)))) hw9]; try rfl) | (rw [Nat.or_zero, show mj_bits (fun w => decide (sp_ward (fun q => T (4 + q)) w / 4 < T (69 + w))) (2 + 1) = _ from mj_bits_f (p := (fun w => decide (sp_ward (fun q => T (4 + q)) w / 4 < T (69 + w)))) hw9]; try rfl)) rfl rfl ih
  subst hj4
  refine gj_iload_n dX11_lies_9 rfl ?_
  refine gj_ic (w := 2) dX11_lies_10 ?_
  refine gj_idivN (by omega) (by omega) (by omega) dX11_lies_11 ?_
  refine gj_topN (y := 1) rfl ?_
  refine gj_if_neN (tgt := 19) (by omega) dX11_lies_12 rfl (fun zq0 => ?_) (fun zq0 => ?_)
  rotate_left
  · exfalso; revert zq0; decide
  refine gj_bp 15 dX11_lies_19 (by decide) ?_
  refine gj_iload_n dX11_lies_21 rfl ?_
  refine gj_ic (w := 2) dX11_lies_22 ?_
  refine gj_iremN (by omega) (by omega) (by omega) dX11_lies_23 ?_
  refine gj_topN (y := 1) rfl ?_
  refine gj_if_neN (tgt := 31) (by omega) dX11_lies_24 rfl (fun zq0 => ?_) (fun zq0 => ?_)
  rotate_left
  · exfalso; revert zq0; decide
  refine gj_ic (w := 3) dX11_lies_31 ?_
  refine gj_iaddN  dX11_lies_32 ?_
  refine gj_istore_n (L' := [some (.ref 100), some (.int (nI (mj_bits (fun w => decide (sp_ward (fun q => T (4 + q)) w / 4 < T (69 + w))) 3))), some (.int (nI 3)), some (.int (nI (15 + 3))), none]) dX11_lies_33 (Nat.le_of_ble_eq_true rfl) rfl ?_
  refine gj_aload_n dX11_lies_34 rfl ?_
  refine gfX11_7 rfl dX11_lies_35 H0 rfl ?_
  refine gj_ic (w := 4) dX11_lies_38 ?_
  refine gj_iload_n dX11_lies_39 rfl ?_
  refine gj_iaddN  dX11_lies_40 ?_
  refine gj_ialdN dX11_lies_41 HT (by omega) (by omega) ?_
  have hb20 : T (4 + (15 + 3)) ≤ 99 := bT.2.2.2.2.2.1 18 (by decide)
  refine gj_aload_n dX11_lies_42 rfl ?_
  refine gfX11_7 rfl dX11_lies_43 H0 rfl ?_
  refine gj_ic (w := 4) dX11_lies_46 ?_
  refine gj_iload_n dX11_lies_47 rfl ?_
  refine gj_iaddN  dX11_lies_48 ?_
  refine gj_ic (w := 1) dX11_lies_49 ?_
  refine gj_iaddN  dX11_lies_50 ?_
  refine gj_ialdN dX11_lies_51 HT (by omega) (by omega) ?_
  have hb21 : T ((4 + (15 + 3)) + 1) ≤ 99 := bT.2.2.2.2.2.1 19 (by decide)
  refine gj_iaddN  dX11_lies_52 ?_
  refine gj_aload_n dX11_lies_53 rfl ?_
  refine gfX11_7 rfl dX11_lies_54 H0 rfl ?_
  refine gj_ic (w := 4) dX11_lies_57 ?_
  refine gj_iload_n dX11_lies_58 rfl ?_
  refine gj_iaddN  dX11_lies_59 ?_
  refine gj_ic (w := 5) dX11_lies_60 ?_
  refine gj_iaddN  dX11_lies_61 ?_
  refine gj_ialdN dX11_lies_62 HT (by omega) (by omega) ?_
  have hb22 : T ((4 + (15 + 3)) + 5) ≤ 99 := bT.2.2.2.2.2.1 23 (by decide)
  refine gj_iaddN  dX11_lies_63 ?_
  refine gj_aload_n dX11_lies_64 rfl ?_
  refine gfX11_7 rfl dX11_lies_65 H0 rfl ?_
  refine gj_ic (w := 4) dX11_lies_68 ?_
  refine gj_iload_n dX11_lies_69 rfl ?_
  refine gj_iaddN  dX11_lies_70 ?_
  refine gj_ic (w := 5) dX11_lies_71 ?_
  refine gj_iaddN  dX11_lies_72 ?_
  refine gj_ic (w := 1) dX11_lies_73 ?_
  refine gj_iaddN  dX11_lies_74 ?_
  refine gj_ialdN dX11_lies_75 HT (by omega) (by omega) ?_
  have hb23 : T (((4 + (15 + 3)) + 5) + 1) ≤ 99 := bT.2.2.2.2.2.1 24 (by decide)
  refine gj_iaddN  dX11_lies_76 ?_
  refine gj_istore (L' := [some (.ref 100), some (.int (nI (mj_bits (fun w => decide (sp_ward (fun q => T (4 + q)) w / 4 < T (69 + w))) 3))), some (.int (nI 3)), some (.int (nI (15 + 3))), some (.int (nI ((((T (4 + (15 + 3))) + (T ((4 + (15 + 3)) + 1))) + (T ((4 + (15 + 3)) + 5))) + (T (((4 + (15 + 3)) + 5) + 1)))))]) dX11_lies_77 (Nat.le_of_ble_eq_true rfl) rfl ?_
  refine gj_iload_n dX11_lies_79 rfl ?_
  refine gj_aload_n dX11_lies_80 rfl ?_
  refine gfX11_7 rfl dX11_lies_81 H0 rfl ?_
  refine gj_bp 69 dX11_lies_84 (by decide) ?_
  refine gj_iload_n dX11_lies_86 rfl ?_
  refine gj_iaddN  dX11_lies_87 ?_
  refine gj_ialdN dX11_lies_88 HT (by omega) (by omega) ?_
  have hb24 := bT.2.2.2.2.2.2.2.2.2.1 3 (by omega)
  refine gj_iload dX11_lies_89 rfl ?_
  refine gj_ic (w := 4) dX11_lies_91 ?_
  refine gj_idivN (by omega) (by omega) (by omega) dX11_lies_92 ?_
  refine gj_icmp_leN (tgt := 102) (by omega) (by omega) dX11_lies_93 rfl (fun zq25 => ?_) (fun zq25 => ?_)
  · -- 93 taken
    have hw9 : (fun w => decide (sp_ward (fun q => T (4 + q)) w / 4 < T (69 + w))) 3 = false := decide_eq_false (Nat.not_lt.mpr zq25)
    refine gj_ic (w := 0) dX11_lies_102 ?_
    refine gj_iorN  dX11_lies_103 ?_
    refine gj_istore_n (L' := [some (.ref 100), some (.int (nI ((mj_bits (fun w => decide (sp_ward (fun q => T (4 + q)) w / 4 < T (69 + w))) 3) ||| 0))), some (.int (nI 3)), some (.int (nI (15 + 3))), some (.int (nI ((((T (4 + (15 + 3))) + (T ((4 + (15 + 3)) + 1))) + (T ((4 + (15 + 3)) + 5))) + (T (((4 + (15 + 3)) + 5) + 1)))))]) dX11_lies_104 (Nat.le_of_ble_eq_true rfl) rfl ?_
    refine gj_iincN (L' := [some (.ref 100), some (.int (nI ((mj_bits (fun w => decide (sp_ward (fun q => T (4 + q)) w / 4 < T (69 + w))) 3) ||| 0))), some (.int (nI 4)), some (.int (nI (15 + 3))), some (.int (nI ((((T (4 + (15 + 3))) + (T ((4 + (15 + 3)) + 1))) + (T ((4 + (15 + 3)) + 5))) + (T (((4 + (15 + 3)) + 5) + 1)))))]) dX11_lies_105 rfl (Nat.le_of_ble_eq_true rfl) rfl ?_
    refine gj_goto (tgt := 4) dX11_lies_108 rfl ?_
    refine gj_forget (i := 3) (L' := [some (.ref 100), some (.int (nI ((mj_bits (fun w => decide (sp_ward (fun q => T (4 + q)) w / 4 < T (69 + w))) 3) ||| 0))), some (.int (nI 4)), none, some (.int (nI ((((T (4 + (15 + 3))) + (T ((4 + (15 + 3)) + 1))) + (T ((4 + (15 + 3)) + 5))) + (T (((4 + (15 + 3)) + 5) + 1)))))]) rfl ?_
    refine gj_forget (i := 4) (L' := [some (.ref 100), some (.int (nI ((mj_bits (fun w => decide (sp_ward (fun q => T (4 + q)) w / 4 < T (69 + w))) 3) ||| 0))), some (.int (nI 4)), none, none]) rfl ?_
    exact gj_cast (by first | (rw [show mj_bits (fun w => decide (sp_ward (fun q => T (4 + q)) w / 4 < T (69 + w))) (3 + 1) = _ from mj_bits_t (p := (fun w => decide (sp_ward (fun q => T (4 + q)) w / 4 < T (69 + w)))) hw9]; try rfl) | (rw [Nat.or_zero, show mj_bits (fun w => decide (sp_ward (fun q => T (4 + q)) w / 4 < T (69 + w))) (3 + 1) = _ from mj_bits_f (p := (fun w => decide (sp_ward (fun q => T (4 + q)) w / 4 < T (69 + w)))) hw9]; try rfl)) rfl rfl ih
  have hw9 : (fun w => decide (sp_ward (fun q => T (4 + q)) w / 4 < T (69 + w))) 3 = true := decide_eq_true zq25
  refine gj_ic (w := 1) dX11_lies_96 ?_
  refine gj_iload_n dX11_lies_97 rfl ?_
  refine gj_ishlN (by omega) dX11_lies_98 ?_
  refine gj_goto (tgt := 103) dX11_lies_99 rfl ?_
  refine gj_iorN  dX11_lies_103 ?_
  refine gj_istore_n (L' := [some (.ref 100), some (.int (nI ((mj_bits (fun w => decide (sp_ward (fun q => T (4 + q)) w / 4 < T (69 + w))) 3) ||| (1 <<< 3)))), some (.int (nI 3)), some (.int (nI (15 + 3))), some (.int (nI ((((T (4 + (15 + 3))) + (T ((4 + (15 + 3)) + 1))) + (T ((4 + (15 + 3)) + 5))) + (T (((4 + (15 + 3)) + 5) + 1)))))]) dX11_lies_104 (Nat.le_of_ble_eq_true rfl) rfl ?_
  refine gj_iincN (L' := [some (.ref 100), some (.int (nI ((mj_bits (fun w => decide (sp_ward (fun q => T (4 + q)) w / 4 < T (69 + w))) 3) ||| (1 <<< 3)))), some (.int (nI 4)), some (.int (nI (15 + 3))), some (.int (nI ((((T (4 + (15 + 3))) + (T ((4 + (15 + 3)) + 1))) + (T ((4 + (15 + 3)) + 5))) + (T (((4 + (15 + 3)) + 5) + 1)))))]) dX11_lies_105 rfl (Nat.le_of_ble_eq_true rfl) rfl ?_
  refine gj_goto (tgt := 4) dX11_lies_108 rfl ?_
  refine gj_forget (i := 3) (L' := [some (.ref 100), some (.int (nI ((mj_bits (fun w => decide (sp_ward (fun q => T (4 + q)) w / 4 < T (69 + w))) 3) ||| (1 <<< 3)))), some (.int (nI 4)), none, some (.int (nI ((((T (4 + (15 + 3))) + (T ((4 + (15 + 3)) + 1))) + (T ((4 + (15 + 3)) + 5))) + (T (((4 + (15 + 3)) + 5) + 1)))))]) rfl ?_
  refine gj_forget (i := 4) (L' := [some (.ref 100), some (.int (nI ((mj_bits (fun w => decide (sp_ward (fun q => T (4 + q)) w / 4 < T (69 + w))) 3) ||| (1 <<< 3)))), some (.int (nI 4)), none, none]) rfl ?_
  exact gj_cast (by first | (rw [show mj_bits (fun w => decide (sp_ward (fun q => T (4 + q)) w / 4 < T (69 + w))) (3 + 1) = _ from mj_bits_t (p := (fun w => decide (sp_ward (fun q => T (4 + q)) w / 4 < T (69 + w)))) hw9]; try rfl) | (rw [Nat.or_zero, show mj_bits (fun w => decide (sp_ward (fun q => T (4 + q)) w / 4 < T (69 + w))) (3 + 1) = _ from mj_bits_f (p := (fun w => decide (sp_ward (fun q => T (4 + q)) w / 4 < T (69 + w)))) hw9]; try rfl)) rfl rfl ih
set_option maxHeartbeats 1000000 in
set_option maxRecDepth 10000 in
theorem ev_X11_stones {E : mj_E} {h : mj_H} {a0 a1 y2 y3 y4 y5 y6 : Nat} (H0 : h 100 = some (mj_mo a0 a1 y2 y3 y4 y5 y6)) {T : Nat → Nat} (HT : h 101 = some (mj_ar 362 T)) {J : Nat → Nat} (HJ : h 105 = some (mj_ar 25 J)) (bT : mj_Tb T) {w a c : Nat} (h0 : 1 ≤ w) (h1 : w ≤ 198) (h2 : a < 25) (h3 : c < 25) (h4 : ¬ a = c) : mj_Ev E iX11_stones [.ref 100, .int (nI w), .int (nI a), .int (nI c)] h (mj_R (some (.int (nI (sp_stn (sp_bear (T (30 + a)) (T (4 + a))) (sp_bear (T (30 + c)) (T (4 + c))) w a c)))) (mj_up h 105 (mj_ar 25 (fun q => T (4 + q))))) := by
  refine mj_Ev.of (L0 := [some (.ref 100), some (.int (nI w)), some (.int (nI a)), some (.int (nI c)), none, none]) pnRX11 (Nat.le_of_ble_eq_true rfl) rfl ?_
  refine gj_iload_n dX11_stones_0 rfl ?_
  refine gj_S1 lkX11_155 (ev_X11_isBurden_t (by omega) (by omega)) dX11_stones_1 rfl rfl rfl rfl rfl ?_
  refine gj_if_eqN (tgt := 26) (by omega) dX11_stones_4 rfl (fun zq0 => ?_) (fun zq0 => ?_)
  · exfalso; revert zq0; decide
  refine gj_iload_n dX11_stones_7 rfl ?_
  refine gj_S1 lkX11_70 (ev_X11_isCell_t (by omega) (by omega)) dX11_stones_8 rfl rfl rfl rfl rfl ?_
  refine gj_if_eqN (tgt := 26) (by omega) dX11_stones_11 rfl (fun zq0 => ?_) (fun zq0 => ?_)
  · exfalso; revert zq0; decide
  refine gj_iload_n dX11_stones_14 rfl ?_
  refine gj_S1 lkX11_70 (ev_X11_isCell_t (by omega) (by omega)) dX11_stones_15 rfl rfl rfl rfl rfl ?_
  refine gj_if_eqN (tgt := 26) (by omega) dX11_stones_18 rfl (fun zq0 => ?_) (fun zq0 => ?_)
  · exfalso; revert zq0; decide
  refine gj_iload_n dX11_stones_21 rfl ?_
  refine gj_iload_n dX11_stones_22 rfl ?_
  refine gj_icmp_neN (tgt := 33) (by omega) (by omega) dX11_stones_23 rfl (fun zq1 => ?_) (fun zq1 => ?_)
  rotate_left
  · exfalso; omega
  refine gj_aload_n dX11_stones_33 rfl ?_
  refine gj_V0 lkX11_124 H0 rfl rfl (ev_X11_layIce H0 HT HJ bT) dX11_stones_34 rfl rfl rfl rfl rfl ?_
  refine gj_aload_n dX11_stones_37 rfl ?_
  refine gj_iload_n dX11_stones_38 rfl ?_
  refine gj_V1 lkX11_116 ((mj_up_ne (by decide)).trans H0) rfl rfl (ev_X11_bears ((mj_up_ne (by decide)).trans H0) ((mj_up_ne (by decide)).trans HT) (mj_up_eq _ _ _) bT bT.2.2.2.2.2.1 (by omega)) dX11_stones_39 rfl rfl rfl rfl rfl ?_
  have hb2 := @sp_bear_le (T (30 + a)) ((T (4 + a)))
  have hb3 := bT.2.2.2.2.2.1 a (by omega)
  refine gj_iload_n dX11_stones_42 rfl ?_
  refine gj_icmp_ltN (tgt := 50) (by omega) (by omega) dX11_stones_43 rfl (fun zq4 => ?_) (fun zq4 => ?_)
  · -- 43 taken
    refine gj_ic (w := 0) dX11_stones_50 ?_
    refine gj_istore (L' := [some (.ref 100), some (.int (nI w)), some (.int (nI a)), some (.int (nI c)), some (.int (nI 0)), none]) dX11_stones_51 (Nat.le_of_ble_eq_true rfl) rfl ?_
    refine gj_aload_n dX11_stones_53 rfl ?_
    refine gj_iload_n dX11_stones_54 rfl ?_
    refine gj_V1 lkX11_116 ((mj_up_ne (by decide)).trans H0) rfl rfl (ev_X11_bears ((mj_up_ne (by decide)).trans H0) ((mj_up_ne (by decide)).trans HT) (mj_up_eq _ _ _) bT bT.2.2.2.2.2.1 (by omega)) dX11_stones_55 rfl rfl rfl rfl rfl ?_
    have hb5 := @sp_bear_le (T (30 + c)) ((T (4 + c)))
    have hb6 := bT.2.2.2.2.2.1 c (by omega)
    refine gj_iload_n dX11_stones_58 rfl ?_
    refine gj_icmp_ltN (tgt := 66) (by omega) (by omega) dX11_stones_59 rfl (fun zq7 => ?_) (fun zq7 => ?_)
    · -- 59 taken
      refine gj_ic (w := 0) dX11_stones_66 ?_
      refine gj_istore (L' := [some (.ref 100), some (.int (nI w)), some (.int (nI a)), some (.int (nI c)), some (.int (nI 0)), some (.int (nI 0))]) dX11_stones_67 (Nat.le_of_ble_eq_true rfl) rfl ?_
      refine gj_iload dX11_stones_69 rfl ?_
      refine gj_iload dX11_stones_71 rfl ?_
      refine gj_icmp_neN (tgt := 80) (by omega) (by omega) dX11_stones_73 rfl (fun zq0 => ?_) (fun zq0 => ?_)
      · exfalso; omega
      refine gj_iconst (v := (-1)) dX11_stones_76 (by decide) ?_
      refine gj_top (y := nI 4294967295) (by decide) ?_
      refine gj_goto (tgt := 90) dX11_stones_77 rfl ?_
      exact gj_ir rfl dX11_stones_90 rfl (congrArg nI (by unfold sp_stn; (repeat' split) <;> omega)) rfl
    refine gj_ic (w := 1) dX11_stones_62 ?_
    refine gj_goto (tgt := 67) dX11_stones_63 rfl ?_
    refine gj_istore (L' := [some (.ref 100), some (.int (nI w)), some (.int (nI a)), some (.int (nI c)), some (.int (nI 0)), some (.int (nI 1))]) dX11_stones_67 (Nat.le_of_ble_eq_true rfl) rfl ?_
    refine gj_iload dX11_stones_69 rfl ?_
    refine gj_iload dX11_stones_71 rfl ?_
    refine gj_icmp_neN (tgt := 80) (by omega) (by omega) dX11_stones_73 rfl (fun zq0 => ?_) (fun zq0 => ?_)
    rotate_left
    · exfalso; omega
    refine gj_iload dX11_stones_80 rfl ?_
    refine gj_if_eqN (tgt := 89) (by omega) dX11_stones_82 rfl (fun zq0 => ?_) (fun zq0 => ?_)
    rotate_left
    · exfalso; revert zq0; decide
    refine gj_iload_n dX11_stones_89 rfl ?_
    exact gj_ir rfl dX11_stones_90 rfl (congrArg nI (by unfold sp_stn; (repeat' split) <;> omega)) rfl
  refine gj_ic (w := 1) dX11_stones_46 ?_
  refine gj_goto (tgt := 51) dX11_stones_47 rfl ?_
  refine gj_istore (L' := [some (.ref 100), some (.int (nI w)), some (.int (nI a)), some (.int (nI c)), some (.int (nI 1)), none]) dX11_stones_51 (Nat.le_of_ble_eq_true rfl) rfl ?_
  refine gj_aload_n dX11_stones_53 rfl ?_
  refine gj_iload_n dX11_stones_54 rfl ?_
  refine gj_V1 lkX11_116 ((mj_up_ne (by decide)).trans H0) rfl rfl (ev_X11_bears ((mj_up_ne (by decide)).trans H0) ((mj_up_ne (by decide)).trans HT) (mj_up_eq _ _ _) bT bT.2.2.2.2.2.1 (by omega)) dX11_stones_55 rfl rfl rfl rfl rfl ?_
  have hb8 := @sp_bear_le (T (30 + c)) ((T (4 + c)))
  have hb9 := bT.2.2.2.2.2.1 c (by omega)
  refine gj_iload_n dX11_stones_58 rfl ?_
  refine gj_icmp_ltN (tgt := 66) (by omega) (by omega) dX11_stones_59 rfl (fun zq10 => ?_) (fun zq10 => ?_)
  · -- 59 taken
    refine gj_ic (w := 0) dX11_stones_66 ?_
    refine gj_istore (L' := [some (.ref 100), some (.int (nI w)), some (.int (nI a)), some (.int (nI c)), some (.int (nI 1)), some (.int (nI 0))]) dX11_stones_67 (Nat.le_of_ble_eq_true rfl) rfl ?_
    refine gj_iload dX11_stones_69 rfl ?_
    refine gj_iload dX11_stones_71 rfl ?_
    refine gj_icmp_neN (tgt := 80) (by omega) (by omega) dX11_stones_73 rfl (fun zq0 => ?_) (fun zq0 => ?_)
    rotate_left
    · exfalso; omega
    refine gj_iload dX11_stones_80 rfl ?_
    refine gj_if_eqN (tgt := 89) (by omega) dX11_stones_82 rfl (fun zq0 => ?_) (fun zq0 => ?_)
    · exfalso; revert zq0; decide
    refine gj_iload_n dX11_stones_85 rfl ?_
    refine gj_goto (tgt := 90) dX11_stones_86 rfl ?_
    exact gj_ir rfl dX11_stones_90 rfl (congrArg nI (by unfold sp_stn; (repeat' split) <;> omega)) rfl
  refine gj_ic (w := 1) dX11_stones_62 ?_
  refine gj_goto (tgt := 67) dX11_stones_63 rfl ?_
  refine gj_istore (L' := [some (.ref 100), some (.int (nI w)), some (.int (nI a)), some (.int (nI c)), some (.int (nI 1)), some (.int (nI 1))]) dX11_stones_67 (Nat.le_of_ble_eq_true rfl) rfl ?_
  refine gj_iload dX11_stones_69 rfl ?_
  refine gj_iload dX11_stones_71 rfl ?_
  refine gj_icmp_neN (tgt := 80) (by omega) (by omega) dX11_stones_73 rfl (fun zq0 => ?_) (fun zq0 => ?_)
  · exfalso; omega
  refine gj_iconst (v := (-1)) dX11_stones_76 (by decide) ?_
  refine gj_top (y := nI 4294967295) (by decide) ?_
  refine gj_goto (tgt := 90) dX11_stones_77 rfl ?_
  exact gj_ir rfl dX11_stones_90 rfl (congrArg nI (by unfold sp_stn; (repeat' split) <;> omega)) rfl
set_option maxHeartbeats 1000000 in
set_option maxRecDepth 10000 in
theorem ev_X11_note {E : mj_E} {h : mj_H} {a0 a1 y2 y3 y4 y5 y6 : Nat} (H0 : h 100 = some (mj_mo a0 a1 y2 y3 y4 y5 y6)) {T : Nat → Nat} (HT : h 101 = some (mj_ar 362 T)) (bT : mj_Tb T) {c i f s j : Nat} (h0 : c < 25) (h1 : i ≤ 99) (h2 : f ≤ 9) (h3 : s ≤ 9) (h4 : j ≤ 99) (h5 : T 1 < 6) : mj_Ev E iX11_note [.ref 100, .int (nI c), .int (nI i), .int (nI f), .int (nI s), .int (nI j)] h (mj_R (some (.int (nI (T 1 + 1)))) (mj_up (mj_up (mj_up (mj_up (mj_up (mj_up h 101 (mj_ar 362 (mj_un T (94 + (5 * (T 1))) c))) 101 (mj_ar 362 (mj_un (mj_un T (94 + (5 * (T 1))) c) ((94 + (5 * (T 1))) + 1) i))) 101 (mj_ar 362 (mj_un (mj_un (mj_un T (94 + (5 * (T 1))) c) ((94 + (5 * (T 1))) + 1) i) ((94 + (5 * (T 1))) + 2) f))) 101 (mj_ar 362 (mj_un (mj_un (mj_un (mj_un T (94 + (5 * (T 1))) c) ((94 + (5 * (T 1))) + 1) i) ((94 + (5 * (T 1))) + 2) f) ((94 + (5 * (T 1))) + 3) s))) 101 (mj_ar 362 (mj_un (mj_un (mj_un (mj_un (mj_un T (94 + (5 * (T 1))) c) ((94 + (5 * (T 1))) + 1) i) ((94 + (5 * (T 1))) + 2) f) ((94 + (5 * (T 1))) + 3) s) ((94 + (5 * (T 1))) + 4) j))) 101 (mj_ar 362 (mj_un (mj_un (mj_un (mj_un (mj_un (mj_un T (94 + (5 * (T 1))) c) ((94 + (5 * (T 1))) + 1) i) ((94 + (5 * (T 1))) + 2) f) ((94 + (5 * (T 1))) + 3) s) ((94 + (5 * (T 1))) + 4) j) 1 (((mj_un (mj_un (mj_un (mj_un (mj_un T (94 + (5 * (T 1))) c) ((94 + (5 * (T 1))) + 1) i) ((94 + (5 * (T 1))) + 2) f) ((94 + (5 * (T 1))) + 3) s) ((94 + (5 * (T 1))) + 4) j) 1) + 1))))) := by
  refine mj_Ev.of (L0 := [some (.ref 100), some (.int (nI c)), some (.int (nI i)), some (.int (nI f)), some (.int (nI s)), some (.int (nI j)), none]) pnRX11 (Nat.le_of_ble_eq_true rfl) rfl ?_
  refine gj_iload_n dX11_note_0 rfl ?_
  refine gj_S1 lkX11_70 (ev_X11_isCell_t (by omega) (by omega)) dX11_note_1 rfl rfl rfl rfl rfl ?_
  refine gj_if_eqN (tgt := 37) (by omega) dX11_note_4 rfl (fun zq0 => ?_) (fun zq0 => ?_)
  · exfalso; revert zq0; decide
  refine gj_iload_n dX11_note_7 rfl ?_
  refine gj_S1 lkX11_62 (ev_X11_isIce_t (by omega) (by omega)) dX11_note_8 rfl rfl rfl rfl rfl ?_
  refine gj_if_eqN (tgt := 37) (by omega) dX11_note_11 rfl (fun zq0 => ?_) (fun zq0 => ?_)
  · exfalso; revert zq0; decide
  refine gj_iload_n dX11_note_14 rfl ?_
  refine gj_S1 lkX11_77 (ev_X11_isWeather_t (by omega) (by omega)) dX11_note_15 rfl rfl rfl rfl rfl ?_
  refine gj_if_eqN (tgt := 37) (by omega) dX11_note_18 rfl (fun zq0 => ?_) (fun zq0 => ?_)
  · exfalso; revert zq0; decide
  refine gj_iload dX11_note_21 rfl ?_
  refine gj_S1 lkX11_77 (ev_X11_isWeather_t (by omega) (by omega)) dX11_note_23 rfl rfl rfl rfl rfl ?_
  refine gj_if_eqN (tgt := 37) (by omega) dX11_note_26 rfl (fun zq0 => ?_) (fun zq0 => ?_)
  · exfalso; revert zq0; decide
  refine gj_iload dX11_note_29 rfl ?_
  refine gj_S1 lkX11_62 (ev_X11_isIce_t (by omega) (by omega)) dX11_note_31 rfl rfl rfl rfl rfl ?_
  refine gj_if_neN (tgt := 44) (by omega) dX11_note_34 rfl (fun zq0 => ?_) (fun zq0 => ?_)
  rotate_left
  · exfalso; revert zq0; decide
  refine gj_aload_n dX11_note_44 rfl ?_
  refine gfX11_7 rfl dX11_note_45 H0 rfl ?_
  refine gj_ic (w := 1) dX11_note_48 ?_
  refine gj_ialdN dX11_note_49 HT (by omega) (by omega) ?_
  have hb1 := bT.2.1
  refine gj_bp 6 dX11_note_50 (by decide) ?_
  refine gj_icmp_neN (tgt := 60) (by omega) (by omega) dX11_note_52 rfl (fun zq2 => ?_) (fun zq2 => ?_)
  rotate_left
  · exfalso; omega
  refine gj_bp 94 dX11_note_60 (by decide) ?_
  refine gj_ic (w := 5) dX11_note_62 ?_
  refine gj_aload_n dX11_note_63 rfl ?_
  refine gfX11_7 rfl dX11_note_64 H0 rfl ?_
  refine gj_ic (w := 1) dX11_note_67 ?_
  refine gj_ialdN dX11_note_68 HT (by omega) (by omega) ?_
  have hb3 := bT.2.1
  refine gj_imulN  dX11_note_69 ?_
  refine gj_iaddN  dX11_note_70 ?_
  refine gj_istore (L' := [some (.ref 100), some (.int (nI c)), some (.int (nI i)), some (.int (nI f)), some (.int (nI s)), some (.int (nI j)), some (.int (nI (94 + (5 * (T 1)))))]) dX11_note_71 (Nat.le_of_ble_eq_true rfl) rfl ?_
  refine gj_aload_n dX11_note_73 rfl ?_
  refine gfX11_7 rfl dX11_note_74 H0 rfl ?_
  refine gj_iload dX11_note_77 rfl ?_
  refine gj_iload_n dX11_note_79 rfl ?_
  refine gj_iastN dX11_note_80 HT (by omega) (by omega) ?_
  refine gj_aload_n dX11_note_81 rfl ?_
  refine gfX11_7 rfl dX11_note_82 ((mj_up_ne (by decide)).trans H0) rfl ?_
  refine gj_iload dX11_note_85 rfl ?_
  refine gj_ic (w := 1) dX11_note_87 ?_
  refine gj_iaddN  dX11_note_88 ?_
  refine gj_iload_n dX11_note_89 rfl ?_
  refine gj_iastN dX11_note_90 (mj_up_eq _ _ _) (by omega) (by omega) ?_
  refine gj_aload_n dX11_note_91 rfl ?_
  refine gfX11_7 rfl dX11_note_92 ((mj_up_ne (by decide)).trans ((mj_up_ne (by decide)).trans H0)) rfl ?_
  refine gj_iload dX11_note_95 rfl ?_
  refine gj_ic (w := 2) dX11_note_97 ?_
  refine gj_iaddN  dX11_note_98 ?_
  refine gj_iload_n dX11_note_99 rfl ?_
  refine gj_iastN dX11_note_100 (mj_up_eq _ _ _) (by omega) (by omega) ?_
  refine gj_aload_n dX11_note_101 rfl ?_
  refine gfX11_7 rfl dX11_note_102 ((mj_up_ne (by decide)).trans ((mj_up_ne (by decide)).trans ((mj_up_ne (by decide)).trans H0))) rfl ?_
  refine gj_iload dX11_note_105 rfl ?_
  refine gj_ic (w := 3) dX11_note_107 ?_
  refine gj_iaddN  dX11_note_108 ?_
  refine gj_iload dX11_note_109 rfl ?_
  refine gj_iastN dX11_note_111 (mj_up_eq _ _ _) (by omega) (by omega) ?_
  refine gj_aload_n dX11_note_112 rfl ?_
  refine gfX11_7 rfl dX11_note_113 ((mj_up_ne (by decide)).trans ((mj_up_ne (by decide)).trans ((mj_up_ne (by decide)).trans ((mj_up_ne (by decide)).trans H0)))) rfl ?_
  refine gj_iload dX11_note_116 rfl ?_
  refine gj_ic (w := 4) dX11_note_118 ?_
  refine gj_iaddN  dX11_note_119 ?_
  refine gj_iload dX11_note_120 rfl ?_
  refine gj_iastN dX11_note_122 (mj_up_eq _ _ _) (by omega) (by omega) ?_
  refine gj_aload_n dX11_note_123 rfl ?_
  refine gfX11_7 rfl dX11_note_124 ((mj_up_ne (by decide)).trans ((mj_up_ne (by decide)).trans ((mj_up_ne (by decide)).trans ((mj_up_ne (by decide)).trans ((mj_up_ne (by decide)).trans H0))))) rfl ?_
  refine gj_ic (w := 1) dX11_note_127 ?_
  refine gj_dup2 dX11_note_128 rfl rfl ?_
  refine gj_ialdN dX11_note_129 (mj_up_eq _ _ _) (by omega) (by omega) ?_
  refine gj_ic (w := 1) dX11_note_130 ?_
  refine gj_iaddN  dX11_note_131 ?_
  refine gj_iastN dX11_note_132 (mj_up_eq _ _ _) (by omega) (by omega) ?_
  refine gj_aload_n dX11_note_133 rfl ?_
  refine gfX11_7 rfl dX11_note_134 ((mj_up_ne (by decide)).trans ((mj_up_ne (by decide)).trans ((mj_up_ne (by decide)).trans ((mj_up_ne (by decide)).trans ((mj_up_ne (by decide)).trans ((mj_up_ne (by decide)).trans H0)))))) rfl ?_
  refine gj_ic (w := 1) dX11_note_137 ?_
  refine gj_ialdN dX11_note_138 (mj_up_eq _ _ _) (by omega) (by omega) ?_
  exact gj_ir rfl dX11_note_139 rfl (congrArg nI (by rw [mj_un_eq, mj_un_ne (by omega), mj_un_ne (by omega), mj_un_ne (by omega), mj_un_ne (by omega), mj_un_ne (by omega)])) rfl
set_option maxHeartbeats 1000000 in
set_option maxRecDepth 10000 in
theorem ev_X11_note_full {E : mj_E} {h : mj_H} {a0 a1 y2 y3 y4 y5 y6 : Nat} (H0 : h 100 = some (mj_mo a0 a1 y2 y3 y4 y5 y6)) {T : Nat → Nat} (HT : h 101 = some (mj_ar 362 T)) {R : Nat → Nat} (HR : h 104 = some (mj_ar 3 R)) (bT : mj_Tb T) {c i f s j : Nat} (h0 : c < 25) (h1 : i ≤ 99) (h2 : f ≤ 9) (h3 : s ≤ 9) (h4 : j ≤ 99) (h5 : T 1 = 6) : mj_Ev E iX11_note [.ref 100, .int (nI c), .int (nI i), .int (nI f), .int (nI s), .int (nI j)] h (mj_R (some (.int (-4))) (mj_up h 104 (mj_ar 3 (mj_un R 2 ((R 2) + 1))))) := by
  refine mj_Ev.of (L0 := [some (.ref 100), some (.int (nI c)), some (.int (nI i)), some (.int (nI f)), some (.int (nI s)), some (.int (nI j)), none]) pnRX11 (Nat.le_of_ble_eq_true rfl) rfl ?_
  refine gj_iload_n dX11_note_0 rfl ?_
  refine gj_S1 lkX11_70 (ev_X11_isCell_t (by omega) (by omega)) dX11_note_1 rfl rfl rfl rfl rfl ?_
  refine gj_if_eqN (tgt := 37) (by omega) dX11_note_4 rfl (fun zq0 => ?_) (fun zq0 => ?_)
  · exfalso; revert zq0; decide
  refine gj_iload_n dX11_note_7 rfl ?_
  refine gj_S1 lkX11_62 (ev_X11_isIce_t (by omega) (by omega)) dX11_note_8 rfl rfl rfl rfl rfl ?_
  refine gj_if_eqN (tgt := 37) (by omega) dX11_note_11 rfl (fun zq0 => ?_) (fun zq0 => ?_)
  · exfalso; revert zq0; decide
  refine gj_iload_n dX11_note_14 rfl ?_
  refine gj_S1 lkX11_77 (ev_X11_isWeather_t (by omega) (by omega)) dX11_note_15 rfl rfl rfl rfl rfl ?_
  refine gj_if_eqN (tgt := 37) (by omega) dX11_note_18 rfl (fun zq0 => ?_) (fun zq0 => ?_)
  · exfalso; revert zq0; decide
  refine gj_iload dX11_note_21 rfl ?_
  refine gj_S1 lkX11_77 (ev_X11_isWeather_t (by omega) (by omega)) dX11_note_23 rfl rfl rfl rfl rfl ?_
  refine gj_if_eqN (tgt := 37) (by omega) dX11_note_26 rfl (fun zq0 => ?_) (fun zq0 => ?_)
  · exfalso; revert zq0; decide
  refine gj_iload dX11_note_29 rfl ?_
  refine gj_S1 lkX11_62 (ev_X11_isIce_t (by omega) (by omega)) dX11_note_31 rfl rfl rfl rfl rfl ?_
  refine gj_if_neN (tgt := 44) (by omega) dX11_note_34 rfl (fun zq0 => ?_) (fun zq0 => ?_)
  rotate_left
  · exfalso; revert zq0; decide
  refine gj_aload_n dX11_note_44 rfl ?_
  refine gfX11_7 rfl dX11_note_45 H0 rfl ?_
  refine gj_ic (w := 1) dX11_note_48 ?_
  refine gj_ialdN dX11_note_49 HT (by omega) (by omega) ?_
  have hb1 := bT.2.1
  refine gj_bp 6 dX11_note_50 (by decide) ?_
  refine gj_icmp_neN (tgt := 60) (by omega) (by omega) dX11_note_52 rfl (fun zq2 => ?_) (fun zq2 => ?_)
  · exfalso; omega
  refine gj_aload_n dX11_note_55 rfl ?_
  refine gj_V1 lkX11_82 H0 rfl rfl (ev_X11_full H0 HR) dX11_note_56 rfl rfl rfl rfl rfl ?_
  exact gj_ir rfl dX11_note_59 rfl rfl rfl
set_option maxHeartbeats 1000000 in
set_option maxRecDepth 10000 in
theorem ev_X11_voted {E : mj_E} {h : mj_H} {a0 a1 y2 y3 y4 y5 y6 : Nat} (H0 : h 100 = some (mj_mo a0 a1 y2 y3 y4 y5 y6)) {T : Nat → Nat} (HT : h 101 = some (mj_ar 362 T)) (bT : mj_Tb T) {v y p m f : Nat} (h0 : v < T 0) (h1 : y ≤ 1) (h2 : p ≤ 198) (h3 : m ≤ 198) (h4 : f ≤ 9) (h5 : T 2 < 6) : mj_Ev E iX11_voted [.ref 100, .int (nI v), .int (nI y), .int (nI p), .int (nI m), .int (nI f)] h (mj_R (some (.int (nI (T 2 + 1)))) (mj_up (mj_up (mj_up (mj_up (mj_up (mj_up h 101 (mj_ar 362 (mj_un T (124 + (5 * (T 2))) v))) 101 (mj_ar 362 (mj_un (mj_un T (124 + (5 * (T 2))) v) ((124 + (5 * (T 2))) + 1) y))) 101 (mj_ar 362 (mj_un (mj_un (mj_un T (124 + (5 * (T 2))) v) ((124 + (5 * (T 2))) + 1) y) ((124 + (5 * (T 2))) + 2) p))) 101 (mj_ar 362 (mj_un (mj_un (mj_un (mj_un T (124 + (5 * (T 2))) v) ((124 + (5 * (T 2))) + 1) y) ((124 + (5 * (T 2))) + 2) p) ((124 + (5 * (T 2))) + 3) m))) 101 (mj_ar 362 (mj_un (mj_un (mj_un (mj_un (mj_un T (124 + (5 * (T 2))) v) ((124 + (5 * (T 2))) + 1) y) ((124 + (5 * (T 2))) + 2) p) ((124 + (5 * (T 2))) + 3) m) ((124 + (5 * (T 2))) + 4) f))) 101 (mj_ar 362 (mj_un (mj_un (mj_un (mj_un (mj_un (mj_un T (124 + (5 * (T 2))) v) ((124 + (5 * (T 2))) + 1) y) ((124 + (5 * (T 2))) + 2) p) ((124 + (5 * (T 2))) + 3) m) ((124 + (5 * (T 2))) + 4) f) 2 (((mj_un (mj_un (mj_un (mj_un (mj_un T (124 + (5 * (T 2))) v) ((124 + (5 * (T 2))) + 1) y) ((124 + (5 * (T 2))) + 2) p) ((124 + (5 * (T 2))) + 3) m) ((124 + (5 * (T 2))) + 4) f) 2) + 1))))) := by
  refine mj_Ev.of (L0 := [some (.ref 100), some (.int (nI v)), some (.int (nI y)), some (.int (nI p)), some (.int (nI m)), some (.int (nI f)), none]) pnRX11 (Nat.le_of_ble_eq_true rfl) rfl ?_
  have hb2 := bT.2.2.1
  refine gj_aload_n dX11_voted_0 rfl ?_
  refine gj_iload_n dX11_voted_1 rfl ?_
  refine gj_V1 lkX11_146 H0 rfl rfl (ev_X11_isVoter_t H0 HT bT (by omega)) dX11_voted_2 rfl rfl rfl rfl rfl ?_
  refine gj_if_eqN (tgt := 51) (by omega) dX11_voted_5 rfl (fun zq0 => ?_) (fun zq0 => ?_)
  · exfalso; revert zq0; decide
  refine gj_iload_n dX11_voted_8 rfl ?_
  refine gj_i2lN (by omega) dX11_voted_9 ?_
  refine gj_lconst (v := lN 0) dX11_voted_10 rfl ?_
  refine gj_lconst (v := lN 1) dX11_voted_11 rfl ?_
  refine gj_S1 lkX11_50 (ev_X11_in_t (by omega) (by omega) (by omega)) dX11_voted_12 rfl rfl rfl rfl rfl ?_
  refine gj_if_eqN (tgt := 51) (by omega) dX11_voted_15 rfl (fun zq0 => ?_) (fun zq0 => ?_)
  · exfalso; revert zq0; decide
  refine gj_iload_n dX11_voted_18 rfl ?_
  refine gj_i2lN (by omega) dX11_voted_19 ?_
  refine gj_lconst (v := lN 0) dX11_voted_20 rfl ?_
  refine gj_ldc2 (v := lN 198) w_1197 dX11_voted_21 ?_
  refine gj_S1 lkX11_50 (ev_X11_in_t (by omega) (by omega) (by omega)) dX11_voted_24 rfl rfl rfl rfl rfl ?_
  refine gj_if_eqN (tgt := 51) (by omega) dX11_voted_27 rfl (fun zq0 => ?_) (fun zq0 => ?_)
  · exfalso; revert zq0; decide
  refine gj_iload dX11_voted_30 rfl ?_
  refine gj_i2lN (by omega) dX11_voted_32 ?_
  refine gj_lconst (v := lN 0) dX11_voted_33 rfl ?_
  refine gj_ldc2 (v := lN 198) w_1197 dX11_voted_34 ?_
  refine gj_S1 lkX11_50 (ev_X11_in_t (by omega) (by omega) (by omega)) dX11_voted_37 rfl rfl rfl rfl rfl ?_
  refine gj_if_eqN (tgt := 51) (by omega) dX11_voted_40 rfl (fun zq0 => ?_) (fun zq0 => ?_)
  · exfalso; revert zq0; decide
  refine gj_iload dX11_voted_43 rfl ?_
  refine gj_S1 lkX11_77 (ev_X11_isWeather_t (by omega) (by omega)) dX11_voted_45 rfl rfl rfl rfl rfl ?_
  refine gj_if_neN (tgt := 58) (by omega) dX11_voted_48 rfl (fun zq0 => ?_) (fun zq0 => ?_)
  rotate_left
  · exfalso; revert zq0; decide
  refine gj_aload_n dX11_voted_58 rfl ?_
  refine gfX11_7 rfl dX11_voted_59 H0 rfl ?_
  refine gj_ic (w := 2) dX11_voted_62 ?_
  refine gj_ialdN dX11_voted_63 HT (by omega) (by omega) ?_
  have hb1 := bT.2.2.1
  refine gj_bp 6 dX11_voted_64 (by decide) ?_
  refine gj_icmp_neN (tgt := 74) (by omega) (by omega) dX11_voted_66 rfl (fun zq2 => ?_) (fun zq2 => ?_)
  rotate_left
  · exfalso; omega
  refine gj_bp 124 dX11_voted_74 (by decide) ?_
  refine gj_ic (w := 5) dX11_voted_76 ?_
  refine gj_aload_n dX11_voted_77 rfl ?_
  refine gfX11_7 rfl dX11_voted_78 H0 rfl ?_
  refine gj_ic (w := 2) dX11_voted_81 ?_
  refine gj_ialdN dX11_voted_82 HT (by omega) (by omega) ?_
  have hb3 := bT.2.2.1
  refine gj_imulN  dX11_voted_83 ?_
  refine gj_iaddN  dX11_voted_84 ?_
  refine gj_istore (L' := [some (.ref 100), some (.int (nI v)), some (.int (nI y)), some (.int (nI p)), some (.int (nI m)), some (.int (nI f)), some (.int (nI (124 + (5 * (T 2)))))]) dX11_voted_85 (Nat.le_of_ble_eq_true rfl) rfl ?_
  refine gj_aload_n dX11_voted_87 rfl ?_
  refine gfX11_7 rfl dX11_voted_88 H0 rfl ?_
  refine gj_iload dX11_voted_91 rfl ?_
  refine gj_iload_n dX11_voted_93 rfl ?_
  refine gj_iastN dX11_voted_94 HT (by omega) (by omega) ?_
  refine gj_aload_n dX11_voted_95 rfl ?_
  refine gfX11_7 rfl dX11_voted_96 ((mj_up_ne (by decide)).trans H0) rfl ?_
  refine gj_iload dX11_voted_99 rfl ?_
  refine gj_ic (w := 1) dX11_voted_101 ?_
  refine gj_iaddN  dX11_voted_102 ?_
  refine gj_iload_n dX11_voted_103 rfl ?_
  refine gj_iastN dX11_voted_104 (mj_up_eq _ _ _) (by omega) (by omega) ?_
  refine gj_aload_n dX11_voted_105 rfl ?_
  refine gfX11_7 rfl dX11_voted_106 ((mj_up_ne (by decide)).trans ((mj_up_ne (by decide)).trans H0)) rfl ?_
  refine gj_iload dX11_voted_109 rfl ?_
  refine gj_ic (w := 2) dX11_voted_111 ?_
  refine gj_iaddN  dX11_voted_112 ?_
  refine gj_iload_n dX11_voted_113 rfl ?_
  refine gj_iastN dX11_voted_114 (mj_up_eq _ _ _) (by omega) (by omega) ?_
  refine gj_aload_n dX11_voted_115 rfl ?_
  refine gfX11_7 rfl dX11_voted_116 ((mj_up_ne (by decide)).trans ((mj_up_ne (by decide)).trans ((mj_up_ne (by decide)).trans H0))) rfl ?_
  refine gj_iload dX11_voted_119 rfl ?_
  refine gj_ic (w := 3) dX11_voted_121 ?_
  refine gj_iaddN  dX11_voted_122 ?_
  refine gj_iload dX11_voted_123 rfl ?_
  refine gj_iastN dX11_voted_125 (mj_up_eq _ _ _) (by omega) (by omega) ?_
  refine gj_aload_n dX11_voted_126 rfl ?_
  refine gfX11_7 rfl dX11_voted_127 ((mj_up_ne (by decide)).trans ((mj_up_ne (by decide)).trans ((mj_up_ne (by decide)).trans ((mj_up_ne (by decide)).trans H0)))) rfl ?_
  refine gj_iload dX11_voted_130 rfl ?_
  refine gj_ic (w := 4) dX11_voted_132 ?_
  refine gj_iaddN  dX11_voted_133 ?_
  refine gj_iload dX11_voted_134 rfl ?_
  refine gj_iastN dX11_voted_136 (mj_up_eq _ _ _) (by omega) (by omega) ?_
  refine gj_aload_n dX11_voted_137 rfl ?_
  refine gfX11_7 rfl dX11_voted_138 ((mj_up_ne (by decide)).trans ((mj_up_ne (by decide)).trans ((mj_up_ne (by decide)).trans ((mj_up_ne (by decide)).trans ((mj_up_ne (by decide)).trans H0))))) rfl ?_
  refine gj_ic (w := 2) dX11_voted_141 ?_
  refine gj_dup2 dX11_voted_142 rfl rfl ?_
  refine gj_ialdN dX11_voted_143 (mj_up_eq _ _ _) (by omega) (by omega) ?_
  refine gj_ic (w := 1) dX11_voted_144 ?_
  refine gj_iaddN  dX11_voted_145 ?_
  refine gj_iastN dX11_voted_146 (mj_up_eq _ _ _) (by omega) (by omega) ?_
  refine gj_aload_n dX11_voted_147 rfl ?_
  refine gfX11_7 rfl dX11_voted_148 ((mj_up_ne (by decide)).trans ((mj_up_ne (by decide)).trans ((mj_up_ne (by decide)).trans ((mj_up_ne (by decide)).trans ((mj_up_ne (by decide)).trans ((mj_up_ne (by decide)).trans H0)))))) rfl ?_
  refine gj_ic (w := 2) dX11_voted_151 ?_
  refine gj_ialdN dX11_voted_152 (mj_up_eq _ _ _) (by omega) (by omega) ?_
  exact gj_ir rfl dX11_voted_153 rfl (congrArg nI (by rw [mj_un_eq, mj_un_ne (by omega), mj_un_ne (by omega), mj_un_ne (by omega), mj_un_ne (by omega), mj_un_ne (by omega)])) rfl
set_option maxHeartbeats 1000000 in
set_option maxRecDepth 10000 in
theorem ev_X11_voted_full {E : mj_E} {h : mj_H} {a0 a1 y2 y3 y4 y5 y6 : Nat} (H0 : h 100 = some (mj_mo a0 a1 y2 y3 y4 y5 y6)) {T : Nat → Nat} (HT : h 101 = some (mj_ar 362 T)) {R : Nat → Nat} (HR : h 104 = some (mj_ar 3 R)) (bT : mj_Tb T) {v y p m f : Nat} (h0 : v < T 0) (h1 : y ≤ 1) (h2 : p ≤ 198) (h3 : m ≤ 198) (h4 : f ≤ 9) (h5 : T 2 = 6) : mj_Ev E iX11_voted [.ref 100, .int (nI v), .int (nI y), .int (nI p), .int (nI m), .int (nI f)] h (mj_R (some (.int (-4))) (mj_up h 104 (mj_ar 3 (mj_un R 2 ((R 2) + 1))))) := by
  refine mj_Ev.of (L0 := [some (.ref 100), some (.int (nI v)), some (.int (nI y)), some (.int (nI p)), some (.int (nI m)), some (.int (nI f)), none]) pnRX11 (Nat.le_of_ble_eq_true rfl) rfl ?_
  refine gj_aload_n dX11_voted_0 rfl ?_
  refine gj_iload_n dX11_voted_1 rfl ?_
  refine gj_V1 lkX11_146 H0 rfl rfl (ev_X11_isVoter_t H0 HT bT (by omega)) dX11_voted_2 rfl rfl rfl rfl rfl ?_
  refine gj_if_eqN (tgt := 51) (by omega) dX11_voted_5 rfl (fun zq0 => ?_) (fun zq0 => ?_)
  · exfalso; revert zq0; decide
  refine gj_iload_n dX11_voted_8 rfl ?_
  refine gj_i2lN (by omega) dX11_voted_9 ?_
  refine gj_lconst (v := lN 0) dX11_voted_10 rfl ?_
  refine gj_lconst (v := lN 1) dX11_voted_11 rfl ?_
  refine gj_S1 lkX11_50 (ev_X11_in_t (by omega) (by omega) (by omega)) dX11_voted_12 rfl rfl rfl rfl rfl ?_
  refine gj_if_eqN (tgt := 51) (by omega) dX11_voted_15 rfl (fun zq0 => ?_) (fun zq0 => ?_)
  · exfalso; revert zq0; decide
  refine gj_iload_n dX11_voted_18 rfl ?_
  refine gj_i2lN (by omega) dX11_voted_19 ?_
  refine gj_lconst (v := lN 0) dX11_voted_20 rfl ?_
  refine gj_ldc2 (v := lN 198) w_1197 dX11_voted_21 ?_
  refine gj_S1 lkX11_50 (ev_X11_in_t (by omega) (by omega) (by omega)) dX11_voted_24 rfl rfl rfl rfl rfl ?_
  refine gj_if_eqN (tgt := 51) (by omega) dX11_voted_27 rfl (fun zq0 => ?_) (fun zq0 => ?_)
  · exfalso; revert zq0; decide
  refine gj_iload dX11_voted_30 rfl ?_
  refine gj_i2lN (by omega) dX11_voted_32 ?_
  refine gj_lconst (v := lN 0) dX11_voted_33 rfl ?_
  refine gj_ldc2 (v := lN 198) w_1197 dX11_voted_34 ?_
  refine gj_S1 lkX11_50 (ev_X11_in_t (by omega) (by omega) (by omega)) dX11_voted_37 rfl rfl rfl rfl rfl ?_
  refine gj_if_eqN (tgt := 51) (by omega) dX11_voted_40 rfl (fun zq0 => ?_) (fun zq0 => ?_)
  · exfalso; revert zq0; decide
  refine gj_iload dX11_voted_43 rfl ?_
  refine gj_S1 lkX11_77 (ev_X11_isWeather_t (by omega) (by omega)) dX11_voted_45 rfl rfl rfl rfl rfl ?_
  refine gj_if_neN (tgt := 58) (by omega) dX11_voted_48 rfl (fun zq0 => ?_) (fun zq0 => ?_)
  rotate_left
  · exfalso; revert zq0; decide
  refine gj_aload_n dX11_voted_58 rfl ?_
  refine gfX11_7 rfl dX11_voted_59 H0 rfl ?_
  refine gj_ic (w := 2) dX11_voted_62 ?_
  refine gj_ialdN dX11_voted_63 HT (by omega) (by omega) ?_
  have hb1 := bT.2.2.1
  refine gj_bp 6 dX11_voted_64 (by decide) ?_
  refine gj_icmp_neN (tgt := 74) (by omega) (by omega) dX11_voted_66 rfl (fun zq2 => ?_) (fun zq2 => ?_)
  · exfalso; omega
  refine gj_aload_n dX11_voted_69 rfl ?_
  refine gj_V1 lkX11_82 H0 rfl rfl (ev_X11_full H0 HR) dX11_voted_70 rfl rfl rfl rfl rfl ?_
  exact gj_ir rfl dX11_voted_73 rfl rfl rfl
set_option maxHeartbeats 1000000 in
set_option maxRecDepth 10000 in
theorem ev_X11_forget_0 {E : mj_E} {h : mj_H} {a0 a1 y2 y3 y4 y5 y6 : Nat} (H0 : h 100 = some (mj_mo a0 a1 y2 y3 y4 y5 y6)) {T : Nat → Nat} (HT : h 101 = some (mj_ar 362 T))  : mj_Ev E iX11_forget [.ref 100, .int (nI 0)] h (mj_R (some (.int (nI (T (1 + 0))))) (mj_up h 101 (mj_ar 362 (mj_un T (1 + 0) 0)))) := by
  refine mj_Ev.of (L0 := [some (.ref 100), some (.int (nI 0)), none]) pnRX11 (Nat.le_of_ble_eq_true rfl) rfl ?_
  refine gj_iload_n dX11_forget_0 rfl ?_
  refine gj_i2lN (by omega) dX11_forget_1 ?_
  refine gj_lconst (v := lN 0) dX11_forget_2 rfl ?_
  refine gj_lconst (v := lN 1) dX11_forget_3 rfl ?_
  refine gj_S1 lkX11_50 (ev_X11_in_t (by omega) (by omega) (by omega)) dX11_forget_4 rfl rfl rfl rfl rfl ?_
  refine gj_if_neN (tgt := 17) (by omega) dX11_forget_7 rfl (fun zq0 => ?_) (fun zq0 => ?_)
  rotate_left
  · exfalso; revert zq0; decide
  refine gj_aload_n dX11_forget_17 rfl ?_
  refine gfX11_7 rfl dX11_forget_18 H0 rfl ?_
  refine gj_ic (w := 1) dX11_forget_21 ?_
  refine gj_iload_n dX11_forget_22 rfl ?_
  refine gj_iaddN  dX11_forget_23 ?_
  refine gj_ialdN dX11_forget_24 HT (by omega) (by omega) ?_
  refine gj_istore_n (L' := [some (.ref 100), some (.int (nI 0)), some (.int (nI (T (1 + 0))))]) dX11_forget_25 (Nat.le_of_ble_eq_true rfl) rfl ?_
  refine gj_aload_n dX11_forget_26 rfl ?_
  refine gfX11_7 rfl dX11_forget_27 H0 rfl ?_
  refine gj_ic (w := 1) dX11_forget_30 ?_
  refine gj_iload_n dX11_forget_31 rfl ?_
  refine gj_iaddN  dX11_forget_32 ?_
  refine gj_ic (w := 0) dX11_forget_33 ?_
  refine gj_iastN dX11_forget_34 HT (by omega) (by omega) ?_
  refine gj_iload_n dX11_forget_35 rfl ?_
  exact gj_ir rfl dX11_forget_36 rfl rfl rfl
set_option maxHeartbeats 1000000 in
set_option maxRecDepth 10000 in
theorem ev_X11_forget_1 {E : mj_E} {h : mj_H} {a0 a1 y2 y3 y4 y5 y6 : Nat} (H0 : h 100 = some (mj_mo a0 a1 y2 y3 y4 y5 y6)) {T : Nat → Nat} (HT : h 101 = some (mj_ar 362 T))  : mj_Ev E iX11_forget [.ref 100, .int (nI 1)] h (mj_R (some (.int (nI (T (1 + 1))))) (mj_up h 101 (mj_ar 362 (mj_un T (1 + 1) 0)))) := by
  refine mj_Ev.of (L0 := [some (.ref 100), some (.int (nI 1)), none]) pnRX11 (Nat.le_of_ble_eq_true rfl) rfl ?_
  refine gj_iload_n dX11_forget_0 rfl ?_
  refine gj_i2lN (by omega) dX11_forget_1 ?_
  refine gj_lconst (v := lN 0) dX11_forget_2 rfl ?_
  refine gj_lconst (v := lN 1) dX11_forget_3 rfl ?_
  refine gj_S1 lkX11_50 (ev_X11_in_t (by omega) (by omega) (by omega)) dX11_forget_4 rfl rfl rfl rfl rfl ?_
  refine gj_if_neN (tgt := 17) (by omega) dX11_forget_7 rfl (fun zq0 => ?_) (fun zq0 => ?_)
  rotate_left
  · exfalso; revert zq0; decide
  refine gj_aload_n dX11_forget_17 rfl ?_
  refine gfX11_7 rfl dX11_forget_18 H0 rfl ?_
  refine gj_ic (w := 1) dX11_forget_21 ?_
  refine gj_iload_n dX11_forget_22 rfl ?_
  refine gj_iaddN  dX11_forget_23 ?_
  refine gj_ialdN dX11_forget_24 HT (by omega) (by omega) ?_
  refine gj_istore_n (L' := [some (.ref 100), some (.int (nI 1)), some (.int (nI (T (1 + 1))))]) dX11_forget_25 (Nat.le_of_ble_eq_true rfl) rfl ?_
  refine gj_aload_n dX11_forget_26 rfl ?_
  refine gfX11_7 rfl dX11_forget_27 H0 rfl ?_
  refine gj_ic (w := 1) dX11_forget_30 ?_
  refine gj_iload_n dX11_forget_31 rfl ?_
  refine gj_iaddN  dX11_forget_32 ?_
  refine gj_ic (w := 0) dX11_forget_33 ?_
  refine gj_iastN dX11_forget_34 HT (by omega) (by omega) ?_
  refine gj_iload_n dX11_forget_35 rfl ?_
  exact gj_ir rfl dX11_forget_36 rfl rfl rfl
set_option maxHeartbeats 1000000 in
set_option maxRecDepth 10000 in
theorem ev_X11_status_0 {E : mj_E} {h : mj_H} {a0 a1 y2 y3 y4 y5 y6 : Nat} (H0 : h 100 = some (mj_mo a0 a1 y2 y3 y4 y5 y6)) {R : Nat → Nat} (HR : h 104 = some (mj_ar 3 R))  : mj_Ev E iX11_status [.ref 100, .int (nI 0)] h (mj_R (some (.int (nI (R 0)))) h) := by
  refine mj_Ev.of (L0 := [some (.ref 100), some (.int (nI 0))]) pnRX11 (Nat.le_of_ble_eq_true rfl) rfl ?_
  refine gj_iload_n dX11_status_0 rfl ?_
  refine gj_i2lN (by omega) dX11_status_1 ?_
  refine gj_lconst (v := lN 0) dX11_status_2 rfl ?_
  refine gj_ldc2 (v := lN 2) w_1154 dX11_status_3 ?_
  refine gj_S1 lkX11_50 (ev_X11_in_t (by omega) (by omega) (by omega)) dX11_status_6 rfl rfl rfl rfl rfl ?_
  refine gj_if_eqN (tgt := 21) (by omega) dX11_status_9 rfl (fun zq0 => ?_) (fun zq0 => ?_)
  · exfalso; revert zq0; decide
  refine gj_aload_n dX11_status_12 rfl ?_
  refine gfX11_20 rfl dX11_status_13 H0 rfl ?_
  refine gj_iload_n dX11_status_16 rfl ?_
  refine gj_ialdN dX11_status_17 HR (by omega) (by omega) ?_
  refine gj_goto (tgt := 26) dX11_status_18 rfl ?_
  exact gj_ir rfl dX11_status_26 rfl rfl rfl
set_option maxHeartbeats 1000000 in
set_option maxRecDepth 10000 in
theorem ev_X11_status_1 {E : mj_E} {h : mj_H} {a0 a1 y2 y3 y4 y5 y6 : Nat} (H0 : h 100 = some (mj_mo a0 a1 y2 y3 y4 y5 y6)) {R : Nat → Nat} (HR : h 104 = some (mj_ar 3 R))  : mj_Ev E iX11_status [.ref 100, .int (nI 1)] h (mj_R (some (.int (nI (R 1)))) h) := by
  refine mj_Ev.of (L0 := [some (.ref 100), some (.int (nI 1))]) pnRX11 (Nat.le_of_ble_eq_true rfl) rfl ?_
  refine gj_iload_n dX11_status_0 rfl ?_
  refine gj_i2lN (by omega) dX11_status_1 ?_
  refine gj_lconst (v := lN 0) dX11_status_2 rfl ?_
  refine gj_ldc2 (v := lN 2) w_1154 dX11_status_3 ?_
  refine gj_S1 lkX11_50 (ev_X11_in_t (by omega) (by omega) (by omega)) dX11_status_6 rfl rfl rfl rfl rfl ?_
  refine gj_if_eqN (tgt := 21) (by omega) dX11_status_9 rfl (fun zq0 => ?_) (fun zq0 => ?_)
  · exfalso; revert zq0; decide
  refine gj_aload_n dX11_status_12 rfl ?_
  refine gfX11_20 rfl dX11_status_13 H0 rfl ?_
  refine gj_iload_n dX11_status_16 rfl ?_
  refine gj_ialdN dX11_status_17 HR (by omega) (by omega) ?_
  refine gj_goto (tgt := 26) dX11_status_18 rfl ?_
  exact gj_ir rfl dX11_status_26 rfl rfl rfl
set_option maxHeartbeats 1000000 in
set_option maxRecDepth 10000 in
theorem ev_X11_status_2 {E : mj_E} {h : mj_H} {a0 a1 y2 y3 y4 y5 y6 : Nat} (H0 : h 100 = some (mj_mo a0 a1 y2 y3 y4 y5 y6)) {R : Nat → Nat} (HR : h 104 = some (mj_ar 3 R))  : mj_Ev E iX11_status [.ref 100, .int (nI 2)] h (mj_R (some (.int (nI (R 2)))) h) := by
  refine mj_Ev.of (L0 := [some (.ref 100), some (.int (nI 2))]) pnRX11 (Nat.le_of_ble_eq_true rfl) rfl ?_
  refine gj_iload_n dX11_status_0 rfl ?_
  refine gj_i2lN (by omega) dX11_status_1 ?_
  refine gj_lconst (v := lN 0) dX11_status_2 rfl ?_
  refine gj_ldc2 (v := lN 2) w_1154 dX11_status_3 ?_
  refine gj_S1 lkX11_50 (ev_X11_in_t (by omega) (by omega) (by omega)) dX11_status_6 rfl rfl rfl rfl rfl ?_
  refine gj_if_eqN (tgt := 21) (by omega) dX11_status_9 rfl (fun zq0 => ?_) (fun zq0 => ?_)
  · exfalso; revert zq0; decide
  refine gj_aload_n dX11_status_12 rfl ?_
  refine gfX11_20 rfl dX11_status_13 H0 rfl ?_
  refine gj_iload_n dX11_status_16 rfl ?_
  refine gj_ialdN dX11_status_17 HR (by omega) (by omega) ?_
  refine gj_goto (tgt := 26) dX11_status_18 rfl ?_
  exact gj_ir rfl dX11_status_26 rfl rfl rfl
set_option maxHeartbeats 1000000 in
set_option maxRecDepth 10000 in
theorem ev_X11_counted_0 {E : mj_E} {h : mj_H} {a0 a1 y2 y3 y4 y5 y6 : Nat} (H0 : h 100 = some (mj_mo a0 a1 y2 y3 y4 y5 y6)) {T : Nat → Nat} (HT : h 101 = some (mj_ar 362 T))  : mj_Ev E iX11_counted [.ref 100, .int (nI 0)] h (mj_R (some (.int (nI (T 0)))) h) := by
  refine mj_Ev.of (L0 := [some (.ref 100), some (.int (nI 0))]) pnRX11 (Nat.le_of_ble_eq_true rfl) rfl ?_
  refine gj_iload_n dX11_counted_0 rfl ?_
  refine gj_tabIn (a := 0) (tgt := 40) (by decide) dX11_counted_1 (by decide) (by decide) rfl rfl ?_
  refine gj_aload_n dX11_counted_40 rfl ?_
  refine gj_V1 lkX11_46 H0 rfl rfl (ev_X11_many H0 HT) dX11_counted_41 rfl rfl rfl rfl rfl ?_
  exact gj_ir rfl dX11_counted_44 rfl rfl rfl
set_option maxHeartbeats 1000000 in
set_option maxRecDepth 10000 in
theorem ev_X11_counted_1 {E : mj_E} {h : mj_H} {a0 a1 y2 y3 y4 y5 y6 : Nat} (H0 : h 100 = some (mj_mo a0 a1 y2 y3 y4 y5 y6)) {T : Nat → Nat} (HT : h 101 = some (mj_ar 362 T))  : mj_Ev E iX11_counted [.ref 100, .int (nI 1)] h (mj_R (some (.int (nI (T 29)))) h) := by
  refine mj_Ev.of (L0 := [some (.ref 100), some (.int (nI 1))]) pnRX11 (Nat.le_of_ble_eq_true rfl) rfl ?_
  refine gj_iload_n dX11_counted_0 rfl ?_
  refine gj_tabIn (a := 1) (tgt := 45) (by decide) dX11_counted_1 (by decide) (by decide) rfl rfl ?_
  refine gj_aload_n dX11_counted_45 rfl ?_
  refine gfX11_7 rfl dX11_counted_46 H0 rfl ?_
  refine gj_bp 29 dX11_counted_49 (by decide) ?_
  refine gj_ialdN dX11_counted_51 HT (by omega) (by omega) ?_
  exact gj_ir rfl dX11_counted_52 rfl rfl rfl
set_option maxHeartbeats 1000000 in
set_option maxRecDepth 10000 in
theorem ev_X11_counted_2 {E : mj_E} {h : mj_H} {a0 a1 y2 y3 y4 y5 y6 : Nat} (H0 : h 100 = some (mj_mo a0 a1 y2 y3 y4 y5 y6)) {T : Nat → Nat} (HT : h 101 = some (mj_ar 362 T))  : mj_Ev E iX11_counted [.ref 100, .int (nI 2)] h (mj_R (some (.int (nI (sp_sum (fun q => T (4 + q)) 25)))) h) := by
  refine mj_Ev.of (L0 := [some (.ref 100), some (.int (nI 2))]) pnRX11 (Nat.le_of_ble_eq_true rfl) rfl ?_
  refine gj_iload_n dX11_counted_0 rfl ?_
  refine gj_tabIn (a := 2) (tgt := 53) (by decide) dX11_counted_1 (by decide) (by decide) rfl rfl ?_
  refine gj_aload_n dX11_counted_53 rfl ?_
  refine gj_V1 lkX11_131 H0 rfl rfl (ev_X11_allIce H0 HT) dX11_counted_54 rfl rfl rfl rfl rfl ?_
  exact gj_ir rfl dX11_counted_57 rfl rfl rfl
set_option maxHeartbeats 1000000 in
set_option maxRecDepth 10000 in
theorem ev_X11_counted_3 {E : mj_E} {h : mj_H} {a0 a1 y2 y3 y4 y5 y6 : Nat} (H0 : h 100 = some (mj_mo a0 a1 y2 y3 y4 y5 y6)) {T : Nat → Nat} (HT : h 101 = some (mj_ar 362 T))  : mj_Ev E iX11_counted [.ref 100, .int (nI 3)] h (mj_R (some (.int (nI (T 1)))) h) := by
  refine mj_Ev.of (L0 := [some (.ref 100), some (.int (nI 3))]) pnRX11 (Nat.le_of_ble_eq_true rfl) rfl ?_
  refine gj_iload_n dX11_counted_0 rfl ?_
  refine gj_tabIn (a := 3) (tgt := 58) (by decide) dX11_counted_1 (by decide) (by decide) rfl rfl ?_
  refine gj_aload_n dX11_counted_58 rfl ?_
  refine gfX11_7 rfl dX11_counted_59 H0 rfl ?_
  refine gj_ic (w := 1) dX11_counted_62 ?_
  refine gj_ialdN dX11_counted_63 HT (by omega) (by omega) ?_
  exact gj_ir rfl dX11_counted_64 rfl rfl rfl
set_option maxHeartbeats 1000000 in
set_option maxRecDepth 10000 in
theorem ev_X11_counted_4 {E : mj_E} {h : mj_H} {a0 a1 y2 y3 y4 y5 y6 : Nat} (H0 : h 100 = some (mj_mo a0 a1 y2 y3 y4 y5 y6)) {T : Nat → Nat} (HT : h 101 = some (mj_ar 362 T))  : mj_Ev E iX11_counted [.ref 100, .int (nI 4)] h (mj_R (some (.int (nI (T 2)))) h) := by
  refine mj_Ev.of (L0 := [some (.ref 100), some (.int (nI 4))]) pnRX11 (Nat.le_of_ble_eq_true rfl) rfl ?_
  refine gj_iload_n dX11_counted_0 rfl ?_
  refine gj_tabIn (a := 4) (tgt := 65) (by decide) dX11_counted_1 (by decide) (by decide) rfl rfl ?_
  refine gj_aload_n dX11_counted_65 rfl ?_
  refine gfX11_7 rfl dX11_counted_66 H0 rfl ?_
  refine gj_ic (w := 2) dX11_counted_69 ?_
  refine gj_ialdN dX11_counted_70 HT (by omega) (by omega) ?_
  exact gj_ir rfl dX11_counted_71 rfl rfl rfl
set_option maxHeartbeats 1000000 in
set_option maxRecDepth 10000 in
theorem ev_X11_counted_5 {E : mj_E} {h : mj_H} {a0 a1 y2 y3 y4 y5 y6 : Nat} (H0 : h 100 = some (mj_mo a0 a1 y2 y3 y4 y5 y6)) {T : Nat → Nat} (HT : h 101 = some (mj_ar 362 T))  : mj_Ev E iX11_counted [.ref 100, .int (nI 5)] h (mj_R (some (.int (nI (T 3)))) h) := by
  refine mj_Ev.of (L0 := [some (.ref 100), some (.int (nI 5))]) pnRX11 (Nat.le_of_ble_eq_true rfl) rfl ?_
  refine gj_iload_n dX11_counted_0 rfl ?_
  refine gj_tabIn (a := 5) (tgt := 72) (by decide) dX11_counted_1 (by decide) (by decide) rfl rfl ?_
  refine gj_aload_n dX11_counted_72 rfl ?_
  refine gfX11_7 rfl dX11_counted_73 H0 rfl ?_
  refine gj_ic (w := 3) dX11_counted_76 ?_
  refine gj_ialdN dX11_counted_77 HT (by omega) (by omega) ?_
  exact gj_ir rfl dX11_counted_78 rfl rfl rfl
set_option maxHeartbeats 1000000 in
set_option maxRecDepth 10000 in
theorem ev_X11_counted_6 {E : mj_E} {h : mj_H} {a0 a1 y2 y3 y4 y5 y6 : Nat} (H0 : h 100 = some (mj_mo a0 a1 y2 y3 y4 y5 y6)) {T : Nat → Nat} (HT : h 101 = some (mj_ar 362 T))  : mj_Ev E iX11_counted [.ref 100, .int (nI 6)] h (mj_R (some (.int (nI y2))) h) := by
  refine mj_Ev.of (L0 := [some (.ref 100), some (.int (nI 6))]) pnRX11 (Nat.le_of_ble_eq_true rfl) rfl ?_
  refine gj_iload_n dX11_counted_0 rfl ?_
  refine gj_tabOut (a := 6) (tgt := 79) (by decide) dX11_counted_1 (by decide) rfl ?_
  refine gj_aload_n dX11_counted_79 rfl ?_
  refine gfX11_230 rfl dX11_counted_80 H0 rfl ?_
  exact gj_ir rfl dX11_counted_83 rfl rfl rfl
set_option maxHeartbeats 1000000 in
set_option maxRecDepth 10000 in
theorem ev_X11_count_0 {E : mj_E} {h : mj_H} {a0 a1 y2 y3 y4 y5 y6 : Nat} (H0 : h 100 = some (mj_mo a0 a1 y2 y3 y4 y5 y6)) {T : Nat → Nat} (HT : h 101 = some (mj_ar 362 T))  : mj_Ev E iX11_count [.ref 100, .int (nI 0)] h (mj_R (some (.int (nI (T 0)))) h) := by
  refine mj_Ev.of (L0 := [some (.ref 100), some (.int (nI 0))]) pnRX11 (Nat.le_of_ble_eq_true rfl) rfl ?_
  refine gj_iload_n dX11_count_0 rfl ?_
  refine gj_i2lN (by omega) dX11_count_1 ?_
  refine gj_lconst (v := lN 0) dX11_count_2 rfl ?_
  refine gj_ldc2 (v := lN 6) w_1072 dX11_count_3 ?_
  refine gj_S1 lkX11_50 (ev_X11_in_t (by omega) (by omega) (by omega)) dX11_count_6 rfl rfl rfl rfl rfl ?_
  refine gj_if_eqN (tgt := 20) (by omega) dX11_count_9 rfl (fun zq0 => ?_) (fun zq0 => ?_)
  · exfalso; revert zq0; decide
  refine gj_aload_n dX11_count_12 rfl ?_
  refine gj_iload_n dX11_count_13 rfl ?_
  refine gj_V1 lkX11_290 H0 rfl rfl (ev_X11_counted_0 H0 HT) dX11_count_14 rfl rfl rfl rfl rfl ?_
  refine gj_goto (tgt := 26) dX11_count_17 rfl ?_
  exact gj_ir rfl dX11_count_26 rfl rfl rfl
set_option maxHeartbeats 1000000 in
set_option maxRecDepth 10000 in
theorem ev_X11_count_1 {E : mj_E} {h : mj_H} {a0 a1 y2 y3 y4 y5 y6 : Nat} (H0 : h 100 = some (mj_mo a0 a1 y2 y3 y4 y5 y6)) {T : Nat → Nat} (HT : h 101 = some (mj_ar 362 T))  : mj_Ev E iX11_count [.ref 100, .int (nI 1)] h (mj_R (some (.int (nI (T 29)))) h) := by
  refine mj_Ev.of (L0 := [some (.ref 100), some (.int (nI 1))]) pnRX11 (Nat.le_of_ble_eq_true rfl) rfl ?_
  refine gj_iload_n dX11_count_0 rfl ?_
  refine gj_i2lN (by omega) dX11_count_1 ?_
  refine gj_lconst (v := lN 0) dX11_count_2 rfl ?_
  refine gj_ldc2 (v := lN 6) w_1072 dX11_count_3 ?_
  refine gj_S1 lkX11_50 (ev_X11_in_t (by omega) (by omega) (by omega)) dX11_count_6 rfl rfl rfl rfl rfl ?_
  refine gj_if_eqN (tgt := 20) (by omega) dX11_count_9 rfl (fun zq0 => ?_) (fun zq0 => ?_)
  · exfalso; revert zq0; decide
  refine gj_aload_n dX11_count_12 rfl ?_
  refine gj_iload_n dX11_count_13 rfl ?_
  refine gj_V1 lkX11_290 H0 rfl rfl (ev_X11_counted_1 H0 HT) dX11_count_14 rfl rfl rfl rfl rfl ?_
  refine gj_goto (tgt := 26) dX11_count_17 rfl ?_
  exact gj_ir rfl dX11_count_26 rfl rfl rfl
set_option maxHeartbeats 1000000 in
set_option maxRecDepth 10000 in
theorem ev_X11_count_2 {E : mj_E} {h : mj_H} {a0 a1 y2 y3 y4 y5 y6 : Nat} (H0 : h 100 = some (mj_mo a0 a1 y2 y3 y4 y5 y6)) {T : Nat → Nat} (HT : h 101 = some (mj_ar 362 T))  : mj_Ev E iX11_count [.ref 100, .int (nI 2)] h (mj_R (some (.int (nI (sp_sum (fun q => T (4 + q)) 25)))) h) := by
  refine mj_Ev.of (L0 := [some (.ref 100), some (.int (nI 2))]) pnRX11 (Nat.le_of_ble_eq_true rfl) rfl ?_
  refine gj_iload_n dX11_count_0 rfl ?_
  refine gj_i2lN (by omega) dX11_count_1 ?_
  refine gj_lconst (v := lN 0) dX11_count_2 rfl ?_
  refine gj_ldc2 (v := lN 6) w_1072 dX11_count_3 ?_
  refine gj_S1 lkX11_50 (ev_X11_in_t (by omega) (by omega) (by omega)) dX11_count_6 rfl rfl rfl rfl rfl ?_
  refine gj_if_eqN (tgt := 20) (by omega) dX11_count_9 rfl (fun zq0 => ?_) (fun zq0 => ?_)
  · exfalso; revert zq0; decide
  refine gj_aload_n dX11_count_12 rfl ?_
  refine gj_iload_n dX11_count_13 rfl ?_
  refine gj_V1 lkX11_290 H0 rfl rfl (ev_X11_counted_2 H0 HT) dX11_count_14 rfl rfl rfl rfl rfl ?_
  refine gj_goto (tgt := 26) dX11_count_17 rfl ?_
  exact gj_ir rfl dX11_count_26 rfl rfl rfl
set_option maxHeartbeats 1000000 in
set_option maxRecDepth 10000 in
theorem ev_X11_count_3 {E : mj_E} {h : mj_H} {a0 a1 y2 y3 y4 y5 y6 : Nat} (H0 : h 100 = some (mj_mo a0 a1 y2 y3 y4 y5 y6)) {T : Nat → Nat} (HT : h 101 = some (mj_ar 362 T))  : mj_Ev E iX11_count [.ref 100, .int (nI 3)] h (mj_R (some (.int (nI (T 1)))) h) := by
  refine mj_Ev.of (L0 := [some (.ref 100), some (.int (nI 3))]) pnRX11 (Nat.le_of_ble_eq_true rfl) rfl ?_
  refine gj_iload_n dX11_count_0 rfl ?_
  refine gj_i2lN (by omega) dX11_count_1 ?_
  refine gj_lconst (v := lN 0) dX11_count_2 rfl ?_
  refine gj_ldc2 (v := lN 6) w_1072 dX11_count_3 ?_
  refine gj_S1 lkX11_50 (ev_X11_in_t (by omega) (by omega) (by omega)) dX11_count_6 rfl rfl rfl rfl rfl ?_
  refine gj_if_eqN (tgt := 20) (by omega) dX11_count_9 rfl (fun zq0 => ?_) (fun zq0 => ?_)
  · exfalso; revert zq0; decide
  refine gj_aload_n dX11_count_12 rfl ?_
  refine gj_iload_n dX11_count_13 rfl ?_
  refine gj_V1 lkX11_290 H0 rfl rfl (ev_X11_counted_3 H0 HT) dX11_count_14 rfl rfl rfl rfl rfl ?_
  refine gj_goto (tgt := 26) dX11_count_17 rfl ?_
  exact gj_ir rfl dX11_count_26 rfl rfl rfl
set_option maxHeartbeats 1000000 in
set_option maxRecDepth 10000 in
theorem ev_X11_count_4 {E : mj_E} {h : mj_H} {a0 a1 y2 y3 y4 y5 y6 : Nat} (H0 : h 100 = some (mj_mo a0 a1 y2 y3 y4 y5 y6)) {T : Nat → Nat} (HT : h 101 = some (mj_ar 362 T))  : mj_Ev E iX11_count [.ref 100, .int (nI 4)] h (mj_R (some (.int (nI (T 2)))) h) := by
  refine mj_Ev.of (L0 := [some (.ref 100), some (.int (nI 4))]) pnRX11 (Nat.le_of_ble_eq_true rfl) rfl ?_
  refine gj_iload_n dX11_count_0 rfl ?_
  refine gj_i2lN (by omega) dX11_count_1 ?_
  refine gj_lconst (v := lN 0) dX11_count_2 rfl ?_
  refine gj_ldc2 (v := lN 6) w_1072 dX11_count_3 ?_
  refine gj_S1 lkX11_50 (ev_X11_in_t (by omega) (by omega) (by omega)) dX11_count_6 rfl rfl rfl rfl rfl ?_
  refine gj_if_eqN (tgt := 20) (by omega) dX11_count_9 rfl (fun zq0 => ?_) (fun zq0 => ?_)
  · exfalso; revert zq0; decide
  refine gj_aload_n dX11_count_12 rfl ?_
  refine gj_iload_n dX11_count_13 rfl ?_
  refine gj_V1 lkX11_290 H0 rfl rfl (ev_X11_counted_4 H0 HT) dX11_count_14 rfl rfl rfl rfl rfl ?_
  refine gj_goto (tgt := 26) dX11_count_17 rfl ?_
  exact gj_ir rfl dX11_count_26 rfl rfl rfl
set_option maxHeartbeats 1000000 in
set_option maxRecDepth 10000 in
theorem ev_X11_count_5 {E : mj_E} {h : mj_H} {a0 a1 y2 y3 y4 y5 y6 : Nat} (H0 : h 100 = some (mj_mo a0 a1 y2 y3 y4 y5 y6)) {T : Nat → Nat} (HT : h 101 = some (mj_ar 362 T))  : mj_Ev E iX11_count [.ref 100, .int (nI 5)] h (mj_R (some (.int (nI (T 3)))) h) := by
  refine mj_Ev.of (L0 := [some (.ref 100), some (.int (nI 5))]) pnRX11 (Nat.le_of_ble_eq_true rfl) rfl ?_
  refine gj_iload_n dX11_count_0 rfl ?_
  refine gj_i2lN (by omega) dX11_count_1 ?_
  refine gj_lconst (v := lN 0) dX11_count_2 rfl ?_
  refine gj_ldc2 (v := lN 6) w_1072 dX11_count_3 ?_
  refine gj_S1 lkX11_50 (ev_X11_in_t (by omega) (by omega) (by omega)) dX11_count_6 rfl rfl rfl rfl rfl ?_
  refine gj_if_eqN (tgt := 20) (by omega) dX11_count_9 rfl (fun zq0 => ?_) (fun zq0 => ?_)
  · exfalso; revert zq0; decide
  refine gj_aload_n dX11_count_12 rfl ?_
  refine gj_iload_n dX11_count_13 rfl ?_
  refine gj_V1 lkX11_290 H0 rfl rfl (ev_X11_counted_5 H0 HT) dX11_count_14 rfl rfl rfl rfl rfl ?_
  refine gj_goto (tgt := 26) dX11_count_17 rfl ?_
  exact gj_ir rfl dX11_count_26 rfl rfl rfl
set_option maxHeartbeats 1000000 in
set_option maxRecDepth 10000 in
theorem ev_X11_count_6 {E : mj_E} {h : mj_H} {a0 a1 y2 y3 y4 y5 y6 : Nat} (H0 : h 100 = some (mj_mo a0 a1 y2 y3 y4 y5 y6)) {T : Nat → Nat} (HT : h 101 = some (mj_ar 362 T))  : mj_Ev E iX11_count [.ref 100, .int (nI 6)] h (mj_R (some (.int (nI y2))) h) := by
  refine mj_Ev.of (L0 := [some (.ref 100), some (.int (nI 6))]) pnRX11 (Nat.le_of_ble_eq_true rfl) rfl ?_
  refine gj_iload_n dX11_count_0 rfl ?_
  refine gj_i2lN (by omega) dX11_count_1 ?_
  refine gj_lconst (v := lN 0) dX11_count_2 rfl ?_
  refine gj_ldc2 (v := lN 6) w_1072 dX11_count_3 ?_
  refine gj_S1 lkX11_50 (ev_X11_in_t (by omega) (by omega) (by omega)) dX11_count_6 rfl rfl rfl rfl rfl ?_
  refine gj_if_eqN (tgt := 20) (by omega) dX11_count_9 rfl (fun zq0 => ?_) (fun zq0 => ?_)
  · exfalso; revert zq0; decide
  refine gj_aload_n dX11_count_12 rfl ?_
  refine gj_iload_n dX11_count_13 rfl ?_
  refine gj_V1 lkX11_290 H0 rfl rfl (ev_X11_counted_6 H0 HT) dX11_count_14 rfl rfl rfl rfl rfl ?_
  refine gj_goto (tgt := 26) dX11_count_17 rfl ?_
  exact gj_ir rfl dX11_count_26 rfl rfl rfl
set_option maxHeartbeats 1000000 in
set_option maxRecDepth 10000 in
theorem ev_X11_part_0 {E : mj_E} {h : mj_H} {a0 a1 y2 y3 y4 y5 y6 : Nat} (H0 : h 100 = some (mj_mo a0 a1 y2 y3 y4 y5 y6))  : mj_Ev E iX11_part [.ref 100, .int (nI 0)] h (mj_R (some (.long (lN a0))) h) := by
  refine mj_Ev.of (L0 := [some (.ref 100), some (.int (nI 0))]) pnRX11 (Nat.le_of_ble_eq_true rfl) rfl ?_
  refine gj_iload_n dX11_part_0 rfl ?_
  refine gj_if_neN (tgt := 11) (by omega) dX11_part_1 rfl (fun zq0 => ?_) (fun zq0 => ?_)
  · exfalso; revert zq0; decide
  refine gj_aload_n dX11_part_4 rfl ?_
  refine gfX11_205 rfl dX11_part_5 H0 rfl ?_
  refine gj_goto (tgt := 30) dX11_part_8 rfl ?_
  exact gj_lr rfl dX11_part_30 rfl rfl rfl
set_option maxHeartbeats 1000000 in
set_option maxRecDepth 10000 in
theorem ev_X11_part_1 {E : mj_E} {h : mj_H} {a0 a1 y2 y3 y4 y5 y6 : Nat} (H0 : h 100 = some (mj_mo a0 a1 y2 y3 y4 y5 y6))  : mj_Ev E iX11_part [.ref 100, .int (nI 1)] h (mj_R (some (.long (lN a1))) h) := by
  refine mj_Ev.of (L0 := [some (.ref 100), some (.int (nI 1))]) pnRX11 (Nat.le_of_ble_eq_true rfl) rfl ?_
  refine gj_iload_n dX11_part_0 rfl ?_
  refine gj_if_neN (tgt := 11) (by omega) dX11_part_1 rfl (fun zq0 => ?_) (fun zq0 => ?_)
  rotate_left
  · exfalso; revert zq0; decide
  refine gj_iload_n dX11_part_11 rfl ?_
  refine gj_ic (w := 1) dX11_part_12 ?_
  refine gj_icmp_neN (tgt := 23) (by omega) (by omega) dX11_part_13 rfl (fun zq0 => ?_) (fun zq0 => ?_)
  · exfalso; omega
  refine gj_aload_n dX11_part_16 rfl ?_
  refine gfX11_23 rfl dX11_part_17 H0 rfl ?_
  refine gj_goto (tgt := 30) dX11_part_20 rfl ?_
  exact gj_lr rfl dX11_part_30 rfl rfl rfl
