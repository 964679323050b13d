set_option maxHeartbeats 1000000 in
set_option maxRecDepth 10000 in
theorem ev_X11_sums {E : mj_E} {h : mj_H} {a0 a1 y2 y3 y4 y5 y6 : Nat} (H0 : h 100 = some (mj_mo a0 a1 y2 y3 y4 y5 y6)) {T : Nat → Nat} (HT : h 101 = some (mj_ar 362 T)) {p m : Nat} {x : Int64} (h0 : p + m ≤ 362) : mj_Ev E iX11_sums [.ref 100, .long x, .int (nI p), .int (nI m)] h (mj_R (some (.long (sp_fold (fun q => T (p + q)) x m))) h) := by
  refine mj_Ev.of (L0 := [some (.ref 100), some (.long x), none, some (.int (nI p)), some (.int (nI m)), none, none, none]) pnRX11 (Nat.le_of_ble_eq_true rfl) rfl ?_
  refine gj_lload_n dX11_sums_0 rfl ?_
  refine gj_lstore (L' := [some (.ref 100), some (.long x), none, some (.int (nI p)), some (.int (nI m)), some (.long x), none, none]) dX11_sums_1 (Nat.le_of_ble_eq_true rfl) rfl ?_
  refine gj_ic (w := 0) dX11_sums_3 ?_
  refine gj_istore (L' := [some (.ref 100), some (.long x), none, some (.int (nI p)), some (.int (nI m)), some (.long x), none, some (.int (nI 0))]) dX11_sums_4 (Nat.le_of_ble_eq_true rfl) rfl ?_
  refine gj_cast (L' := [some (.ref 100), some (.long x), none, some (.int (nI p)), some (.int (nI m)), some (.long (sp_fold (fun q => T (p + q)) x 0)), none, some (.int (nI 0))]) (st' := []) (h' := h) rfl rfl rfl ?_
  refine gj_loop (fun j => [some (.ref 100), some (.long x), none, some (.int (nI p)), some (.int (nI m)), some (.long (sp_fold (fun q => T (p + q)) x j)), none, some (.int (nI j))]) (fun j => h) m ?_ (fun j hj ih => ?_) 0 (by omega)
  · show gj _ _ _ _ _ _ [some (.ref 100), some (.long x), none, some (.int (nI p)), some (.int (nI m)), some (.long (sp_fold (fun q => T (p + q)) x m)), none, some (.int (nI m))] _ _
    refine gj_iload dX11_sums_6 rfl ?_
    refine gj_iload dX11_sums_8 rfl ?_
    refine gj_icmp_geN (tgt := 38) (by omega) (by omega) dX11_sums_10 rfl (fun zq1 => ?_) (fun zq1 => ?_)
    rotate_left
    · exfalso; omega
    refine gj_lload dX11_sums_38 rfl ?_
    exact gj_lr rfl dX11_sums_40 rfl rfl rfl
  show gj _ _ _ _ _ _ [some (.ref 100), some (.long x), none, some (.int (nI p)), some (.int (nI m)), some (.long (sp_fold (fun q => T (p + q)) x j)), none, some (.int (nI j))] _ _
  refine gj_iload dX11_sums_6 rfl ?_
  refine gj_iload dX11_sums_8 rfl ?_
  refine gj_icmp_geN (tgt := 38) (by omega) (by omega) dX11_sums_10 rfl (fun zq2 => ?_) (fun zq2 => ?_)
  · exfalso; omega
  refine gj_ldc2 (v := 31) w_1436 dX11_sums_13 ?_
  refine gj_lload dX11_sums_16 rfl ?_
  refine gj_lmul dX11_sums_18  ?_
  refine gj_aload_n dX11_sums_19 rfl ?_
  refine gfX11_7 rfl dX11_sums_20 H0 rfl ?_
  refine gj_iload_n dX11_sums_23 rfl ?_
  refine gj_iload dX11_sums_24 rfl ?_
  refine gj_iaddN  dX11_sums_26 ?_
  refine gj_ialdN dX11_sums_27 HT (by omega) (by omega) ?_
  refine gj_i2l (v := (nI (T (p + j))).toInt64) dX11_sums_28 rfl ?_
  refine gj_ladd dX11_sums_29  ?_
  refine gj_lstore (L' := [some (.ref 100), some (.long x), none, some (.int (nI p)), some (.int (nI m)), some (.long ((31 * (sp_fold (fun q => T (p + q)) x j)) + ((nI (T (p + j))).toInt64))), none, some (.int (nI j))]) dX11_sums_30 (Nat.le_of_ble_eq_true rfl) rfl ?_
  refine gj_iincN (L' := [some (.ref 100), some (.long x), none, some (.int (nI p)), some (.int (nI m)), some (.long ((31 * (sp_fold (fun q => T (p + q)) x j)) + ((nI (T (p + j))).toInt64))), none, some (.int (nI (j + 1)))]) dX11_sums_32 rfl (Nat.le_of_ble_eq_true rfl) rfl ?_
  refine gj_goto (tgt := 6) dX11_sums_35 rfl ?_
  exact ih
set_option maxHeartbeats 1000000 in
set_option maxRecDepth 10000 in
theorem ev_X11_digest {E : mj_E} {h : mj_H} {a0 a1 y2 y3 y4 y5 y6 : Nat} (H0 : h 100 = some (mj_mo a0 a1 y2 y3 y4 y5 y6)) {T : Nat → Nat} (HT : h 101 = some (mj_ar 362 T)) (bT : mj_Tb T)  : mj_Ev E iX11_digest [.ref 100] h (mj_R (some (.long ((31 * ((31 * (sp_fold (fun q => T (124 + q)) (sp_fold (fun q => T (94 + q)) (sp_vfold (fun v => T (73 + v)) (fun v => T (80 + v)) (fun v => T (87 + v)) (sp_fold (fun q => T (69 + q)) (sp_f2 (fun q => T (55 + q)) (fun q => T (62 + q)) (sp_f2 (fun q => T (30 + q)) (fun q => T (4 + q)) (sp_d7 (T 0) (T 29) (sp_sum (fun q => T (4 + q)) 25) (T 1) (T 2) (T 3) y2) 25) 7) 4) (T 0)) (5 * (T 1))) (5 * (T 2)))) + (lN a0))) + (lN a1)))) h) := by
  refine mj_Ev.of (L0 := [some (.ref 100), none, none, none]) pnRX11 (Nat.le_of_ble_eq_true rfl) rfl ?_
  have hb0 := bT.1
  have hb1 := bT.2.1
  have hb2 := bT.2.2.1
  refine gj_ldc2 (v := 1453) w_1435 dX11_digest_0 ?_
  refine gj_lstore_n (L' := [some (.ref 100), some (.long 1453), none, none]) dX11_digest_3 (Nat.le_of_ble_eq_true rfl) rfl ?_
  refine gj_ic (w := 0) dX11_digest_4 ?_
  refine gj_istore_n (L' := [some (.ref 100), some (.long 1453), none, some (.int (nI 0))]) dX11_digest_5 (Nat.le_of_ble_eq_true rfl) rfl ?_
  refine gj_iload_n dX11_digest_6 rfl ?_
  refine gj_bp 7 dX11_digest_7 (by decide) ?_
  refine gj_icmp_geN (tgt := 31) (by omega) (by omega) dX11_digest_9 rfl (fun zq0 => ?_) (fun zq0 => ?_)
  · exfalso; omega
  refine gj_ldc2 (v := 31) w_1436 dX11_digest_12 ?_
  refine gj_lload_n dX11_digest_15 rfl ?_
  refine gj_lmul dX11_digest_16  ?_
  refine gj_aload_n dX11_digest_17 rfl ?_
  refine gj_iload_n dX11_digest_18 rfl ?_
  refine gj_V1 lkX11_290 H0 rfl rfl (ev_X11_counted_0 H0 HT) dX11_digest_19 rfl rfl rfl rfl rfl ?_
  refine gj_i2l (v := (nI (T 0)).toInt64) dX11_digest_22 rfl ?_
  refine gj_ladd dX11_digest_23  ?_
  refine gj_lstore_n (L' := [some (.ref 100), some (.long ((31 * 1453) + ((nI (T 0)).toInt64))), none, some (.int (nI 0))]) dX11_digest_24 (Nat.le_of_ble_eq_true rfl) rfl ?_
  refine gj_iincN (L' := [some (.ref 100), some (.long ((31 * 1453) + ((nI (T 0)).toInt64))), none, some (.int (nI 1))]) dX11_digest_25 rfl (Nat.le_of_ble_eq_true rfl) rfl ?_
  refine gj_goto (tgt := 6) dX11_digest_28 rfl ?_
  refine gj_iload_n dX11_digest_6 rfl ?_
  refine gj_bp 7 dX11_digest_7 (by decide) ?_
  refine gj_icmp_geN (tgt := 31) (by omega) (by omega) dX11_digest_9 rfl (fun zq0 => ?_) (fun zq0 => ?_)
  · exfalso; omega
  refine gj_ldc2 (v := 31) w_1436 dX11_digest_12 ?_
  refine gj_lload_n dX11_digest_15 rfl ?_
  refine gj_lmul dX11_digest_16  ?_
  refine gj_aload_n dX11_digest_17 rfl ?_
  refine gj_iload_n dX11_digest_18 rfl ?_
  refine gj_V1 lkX11_290 H0 rfl rfl (ev_X11_counted_1 H0 HT) dX11_digest_19 rfl rfl rfl rfl rfl ?_
  refine gj_i2l (v := (nI (T 29)).toInt64) dX11_digest_22 rfl ?_
  refine gj_ladd dX11_digest_23  ?_
  refine gj_lstore_n (L' := [some (.ref 100), some (.long ((31 * ((31 * 1453) + ((nI (T 0)).toInt64))) + ((nI (T 29)).toInt64))), none, some (.int (nI 1))]) dX11_digest_24 (Nat.le_of_ble_eq_true rfl) rfl ?_
  refine gj_iincN (L' := [some (.ref 100), some (.long ((31 * ((31 * 1453) + ((nI (T 0)).toInt64))) + ((nI (T 29)).toInt64))), none, some (.int (nI 2))]) dX11_digest_25 rfl (Nat.le_of_ble_eq_true rfl) rfl ?_
  refine gj_goto (tgt := 6) dX11_digest_28 rfl ?_
  refine gj_iload_n dX11_digest_6 rfl ?_
  refine gj_bp 7 dX11_digest_7 (by decide) ?_
  refine gj_icmp_geN (tgt := 31) (by omega) (by omega) dX11_digest_9 rfl (fun zq0 => ?_) (fun zq0 => ?_)
  · exfalso; omega
  refine gj_ldc2 (v := 31) w_1436 dX11_digest_12 ?_
  refine gj_lload_n dX11_digest_15 rfl ?_
  refine gj_lmul dX11_digest_16  ?_
  refine gj_aload_n dX11_digest_17 rfl ?_
  refine gj_iload_n dX11_digest_18 rfl ?_
  refine gj_V1 lkX11_290 H0 rfl rfl (ev_X11_counted_2 H0 HT) dX11_digest_19 rfl rfl rfl rfl rfl ?_
  refine gj_i2l (v := (nI (sp_sum (fun q => T (4 + q)) 25)).toInt64) dX11_digest_22 rfl ?_
  refine gj_ladd dX11_digest_23  ?_
  refine gj_lstore_n (L' := [some (.ref 100), some (.long ((31 * ((31 * ((31 * 1453) + ((nI (T 0)).toInt64))) + ((nI (T 29)).toInt64))) + ((nI (sp_sum (fun q => T (4 + q)) 25)).toInt64))), none, some (.int (nI 2))]) dX11_digest_24 (Nat.le_of_ble_eq_true rfl) rfl ?_
  refine gj_iincN (L' := [some (.ref 100), some (.long ((31 * ((31 * ((31 * 1453) + ((nI (T 0)).toInt64))) + ((nI (T 29)).toInt64))) + ((nI (sp_sum (fun q => T (4 + q)) 25)).toInt64))), none, some (.int (nI 3))]) dX11_digest_25 rfl (Nat.le_of_ble_eq_true rfl) rfl ?_
  refine gj_goto (tgt := 6) dX11_digest_28 rfl ?_
  refine gj_iload_n dX11_digest_6 rfl ?_
  refine gj_bp 7 dX11_digest_7 (by decide) ?_
  refine gj_icmp_geN (tgt := 31) (by omega) (by omega) dX11_digest_9 rfl (fun zq0 => ?_) (fun zq0 => ?_)
  · exfalso; omega
  refine gj_ldc2 (v := 31) w_1436 dX11_digest_12 ?_
  refine gj_lload_n dX11_digest_15 rfl ?_
  refine gj_lmul dX11_digest_16  ?_
  refine gj_aload_n dX11_digest_17 rfl ?_
  refine gj_iload_n dX11_digest_18 rfl ?_
  refine gj_V1 lkX11_290 H0 rfl rfl (ev_X11_counted_3 H0 HT) dX11_digest_19 rfl rfl rfl rfl rfl ?_
  refine gj_i2l (v := (nI (T 1)).toInt64) dX11_digest_22 rfl ?_
  refine gj_ladd dX11_digest_23  ?_
  refine gj_lstore_n (L' := [some (.ref 100), some (.long ((31 * ((31 * ((31 * ((31 * 1453) + ((nI (T 0)).toInt64))) + ((nI (T 29)).toInt64))) + ((nI (sp_sum (fun q => T (4 + q)) 25)).toInt64))) + ((nI (T 1)).toInt64))), none, some (.int (nI 3))]) dX11_digest_24 (Nat.le_of_ble_eq_true rfl) rfl ?_
  refine gj_iincN (L' := [some (.ref 100), some (.long ((31 * ((31 * ((31 * ((31 * 1453) + ((nI (T 0)).toInt64))) + ((nI (T 29)).toInt64))) + ((nI (sp_sum (fun q => T (4 + q)) 25)).toInt64))) + ((nI (T 1)).toInt64))), none, some (.int (nI 4))]) dX11_digest_25 rfl (Nat.le_of_ble_eq_true rfl) rfl ?_
  refine gj_goto (tgt := 6) dX11_digest_28 rfl ?_
  refine gj_iload_n dX11_digest_6 rfl ?_
  refine gj_bp 7 dX11_digest_7 (by decide) ?_
  refine gj_icmp_geN (tgt := 31) (by omega) (by omega) dX11_digest_9 rfl (fun zq0 => ?_) (fun zq0 => ?_)
  · exfalso; omega
  refine gj_ldc2 (v := 31) w_1436 dX11_digest_12 ?_
  refine gj_lload_n dX11_digest_15 rfl ?_
  refine gj_lmul dX11_digest_16  ?_
  refine gj_aload_n dX11_digest_17 rfl ?_
  refine gj_iload_n dX11_digest_18 rfl ?_
  refine gj_V1 lkX11_290 H0 rfl rfl (ev_X11_counted_4 H0 HT) dX11_digest_19 rfl rfl rfl rfl rfl ?_
  refine gj_i2l (v := (nI (T 2)).toInt64) dX11_digest_22 rfl ?_
  refine gj_ladd dX11_digest_23  ?_
  refine gj_lstore_n (L' := [some (.ref 100), some (.long ((31 * ((31 * ((31 * ((31 * ((31 * 1453) + ((nI (T 0)).toInt64))) + ((nI (T 29)).toInt64))) + ((nI (sp_sum (fun q => T (4 + q)) 25)).toInt64))) + ((nI (T 1)).toInt64))) + ((nI (T 2)).toInt64))), none, some (.int (nI 4))]) dX11_digest_24 (Nat.le_of_ble_eq_true rfl) rfl ?_
  refine gj_iincN (L' := [some (.ref 100), some (.long ((31 * ((31 * ((31 * ((31 * ((31 * 1453) + ((nI (T 0)).toInt64))) + ((nI (T 29)).toInt64))) + ((nI (sp_sum (fun q => T (4 + q)) 25)).toInt64))) + ((nI (T 1)).toInt64))) + ((nI (T 2)).toInt64))), none, some (.int (nI 5))]) dX11_digest_25 rfl (Nat.le_of_ble_eq_true rfl) rfl ?_
  refine gj_goto (tgt := 6) dX11_digest_28 rfl ?_
  refine gj_iload_n dX11_digest_6 rfl ?_
  refine gj_bp 7 dX11_digest_7 (by decide) ?_
  refine gj_icmp_geN (tgt := 31) (by omega) (by omega) dX11_digest_9 rfl (fun zq0 => ?_) (fun zq0 => ?_)
  · exfalso; omega
  refine gj_ldc2 (v := 31) w_1436 dX11_digest_12 ?_
  refine gj_lload_n dX11_digest_15 rfl ?_
  refine gj_lmul dX11_digest_16  ?_
  refine gj_aload_n dX11_digest_17 rfl ?_
  refine gj_iload_n dX11_digest_18 rfl ?_
  refine gj_V1 lkX11_290 H0 rfl rfl (ev_X11_counted_5 H0 HT) dX11_digest_19 rfl rfl rfl rfl rfl ?_
  refine gj_i2l (v := (nI (T 3)).toInt64) dX11_digest_22 rfl ?_
  refine gj_ladd dX11_digest_23  ?_
  refine gj_lstore_n (L' := [some (.ref 100), some (.long ((31 * ((31 * ((31 * ((31 * ((31 * ((31 * 1453) + ((nI (T 0)).toInt64))) + ((nI (T 29)).toInt64))) + ((nI (sp_sum (fun q => T (4 + q)) 25)).toInt64))) + ((nI (T 1)).toInt64))) + ((nI (T 2)).toInt64))) + ((nI (T 3)).toInt64))), none, some (.int (nI 5))]) dX11_digest_24 (Nat.le_of_ble_eq_true rfl) rfl ?_
  refine gj_iincN (L' := [some (.ref 100), some (.long ((31 * ((31 * ((31 * ((31 * ((31 * ((31 * 1453) + ((nI (T 0)).toInt64))) + ((nI (T 29)).toInt64))) + ((nI (sp_sum (fun q => T (4 + q)) 25)).toInt64))) + ((nI (T 1)).toInt64))) + ((nI (T 2)).toInt64))) + ((nI (T 3)).toInt64))), none, some (.int (nI 6))]) dX11_digest_25 rfl (Nat.le_of_ble_eq_true rfl) rfl ?_
  refine gj_goto (tgt := 6) dX11_digest_28 rfl ?_
  refine gj_iload_n dX11_digest_6 rfl ?_
  refine gj_bp 7 dX11_digest_7 (by decide) ?_
  refine gj_icmp_geN (tgt := 31) (by omega) (by omega) dX11_digest_9 rfl (fun zq0 => ?_) (fun zq0 => ?_)
  · exfalso; omega
  refine gj_ldc2 (v := 31) w_1436 dX11_digest_12 ?_
  refine gj_lload_n dX11_digest_15 rfl ?_
  refine gj_lmul dX11_digest_16  ?_
  refine gj_aload_n dX11_digest_17 rfl ?_
  refine gj_iload_n dX11_digest_18 rfl ?_
  refine gj_V1 lkX11_290 H0 rfl rfl (ev_X11_counted_6 H0 HT) dX11_digest_19 rfl rfl rfl rfl rfl ?_
  refine gj_i2l (v := (nI y2).toInt64) dX11_digest_22 rfl ?_
  refine gj_ladd dX11_digest_23  ?_
  refine gj_lstore_n (L' := [some (.ref 100), some (.long ((31 * ((31 * ((31 * ((31 * ((31 * ((31 * ((31 * 1453) + ((nI (T 0)).toInt64))) + ((nI (T 29)).toInt64))) + ((nI (sp_sum (fun q => T (4 + q)) 25)).toInt64))) + ((nI (T 1)).toInt64))) + ((nI (T 2)).toInt64))) + ((nI (T 3)).toInt64))) + ((nI y2).toInt64))), none, some (.int (nI 6))]) dX11_digest_24 (Nat.le_of_ble_eq_true rfl) rfl ?_
  refine gj_iincN (L' := [some (.ref 100), some (.long ((31 * ((31 * ((31 * ((31 * ((31 * ((31 * ((31 * 1453) + ((nI (T 0)).toInt64))) + ((nI (T 29)).toInt64))) + ((nI (sp_sum (fun q => T (4 + q)) 25)).toInt64))) + ((nI (T 1)).toInt64))) + ((nI (T 2)).toInt64))) + ((nI (T 3)).toInt64))) + ((nI y2).toInt64))), none, some (.int (nI 7))]) dX11_digest_25 rfl (Nat.le_of_ble_eq_true rfl) rfl ?_
  refine gj_goto (tgt := 6) dX11_digest_28 rfl ?_
  refine gj_iload_n dX11_digest_6 rfl ?_
  refine gj_bp 7 dX11_digest_7 (by decide) ?_
  refine gj_icmp_geN (tgt := 31) (by omega) (by omega) dX11_digest_9 rfl (fun zq0 => ?_) (fun zq0 => ?_)
  rotate_left
  · exfalso; omega
  refine gj_ic (w := 0) dX11_digest_31 ?_
  refine gj_istore_n (L' := [some (.ref 100), some (.long ((31 * ((31 * ((31 * ((31 * ((31 * ((31 * ((31 * 1453) + ((nI (T 0)).toInt64))) + ((nI (T 29)).toInt64))) + ((nI (sp_sum (fun q => T (4 + q)) 25)).toInt64))) + ((nI (T 1)).toInt64))) + ((nI (T 2)).toInt64))) + ((nI (T 3)).toInt64))) + ((nI y2).toInt64))), none, some (.int (nI 0))]) dX11_digest_32 (Nat.le_of_ble_eq_true rfl) rfl ?_
  refine gj_cast (L' := [some (.ref 100), some (.long (sp_f2 (fun q => T (30 + q)) (fun q => T (4 + q)) (sp_d7 (T 0) (T 29) (sp_sum (fun q => T (4 + q)) 25) (T 1) (T 2) (T 3) y2) 0)), none, some (.int (nI 0))]) (st' := []) (h' := h) rfl rfl rfl ?_
  refine gj_loop (fun j => [some (.ref 100), some (.long (sp_f2 (fun q => T (30 + q)) (fun q => T (4 + q)) (sp_d7 (T 0) (T 29) (sp_sum (fun q => T (4 + q)) 25) (T 1) (T 2) (T 3) y2) j)), none, some (.int (nI j))]) (fun j => h) 25 ?_ (fun j hj ih => ?_) 0 (by omega)
  · show gj _ _ _ _ _ _ [some (.ref 100), some (.long (sp_f2 (fun q => T (30 + q)) (fun q => T (4 + q)) (sp_d7 (T 0) (T 29) (sp_sum (fun q => T (4 + q)) 25) (T 1) (T 2) (T 3) y2) 25)), none, some (.int (nI 25))] _ _
    refine gj_iload_n dX11_digest_33 rfl ?_
    refine gj_bp 25 dX11_digest_34 (by decide) ?_
    refine gj_icmp_geN (tgt := 72) (by omega) (by omega) dX11_digest_36 rfl (fun zq0 => ?_) (fun zq0 => ?_)
    rotate_left
    · exfalso; omega
    refine gj_ic (w := 0) dX11_digest_72 ?_
    refine gj_istore_n (L' := [some (.ref 100), some (.long (sp_f2 (fun q => T (30 + q)) (fun q => T (4 + q)) (sp_d7 (T 0) (T 29) (sp_sum (fun q => T (4 + q)) 25) (T 1) (T 2) (T 3) y2) 25)), none, some (.int (nI 0))]) dX11_digest_73 (Nat.le_of_ble_eq_true rfl) rfl ?_
    refine gj_cast (L' := [some (.ref 100), some (.long (sp_f2 (fun q => T (55 + q)) (fun q => T (62 + q)) (sp_f2 (fun q => T (30 + q)) (fun q => T (4 + q)) (sp_d7 (T 0) (T 29) (sp_sum (fun q => T (4 + q)) 25) (T 1) (T 2) (T 3) y2) 25) 0)), none, some (.int (nI 0))]) (st' := []) (h' := h) rfl rfl rfl ?_
    refine gj_loop (fun j => [some (.ref 100), some (.long (sp_f2 (fun q => T (55 + q)) (fun q => T (62 + q)) (sp_f2 (fun q => T (30 + q)) (fun q => T (4 + q)) (sp_d7 (T 0) (T 29) (sp_sum (fun q => T (4 + q)) 25) (T 1) (T 2) (T 3) y2) 25) j)), none, some (.int (nI j))]) (fun j => h) 7 ?_ (fun j hj ih => ?_) 0 (by omega)
    · show gj _ _ _ _ _ _ [some (.ref 100), some (.long (sp_f2 (fun q => T (55 + q)) (fun q => T (62 + q)) (sp_f2 (fun q => T (30 + q)) (fun q => T (4 + q)) (sp_d7 (T 0) (T 29) (sp_sum (fun q => T (4 + q)) 25) (T 1) (T 2) (T 3) y2) 25) 7)), none, some (.int (nI 7))] _ _
      refine gj_iload_n dX11_digest_74 rfl ?_
      refine gj_bp 7 dX11_digest_75 (by decide) ?_
      refine gj_icmp_geN (tgt := 118) (by omega) (by omega) dX11_digest_77 rfl (fun zq0 => ?_) (fun zq0 => ?_)
      rotate_left
      · exfalso; omega
      refine gj_aload_n dX11_digest_118 rfl ?_
      refine gj_lload_n dX11_digest_119 rfl ?_
      refine gj_bp 69 dX11_digest_120 (by decide) ?_
      refine gj_ic (w := 4) dX11_digest_122 ?_
      refine gj_V1 lkX11_297 H0 rfl rfl (ev_X11_sums H0 HT (by omega)) dX11_digest_123 rfl rfl rfl rfl rfl ?_
      refine gj_lstore_n (L' := [some (.ref 100), some (.long (sp_fold (fun q => T (69 + q)) (sp_f2 (fun q => T (55 + q)) (fun q => T (62 + q)) (sp_f2 (fun q => T (30 + q)) (fun q => T (4 + q)) (sp_d7 (T 0) (T 29) (sp_sum (fun q => T (4 + q)) 25) (T 1) (T 2) (T 3) y2) 25) 7) 4)), none, some (.int (nI 7))]) dX11_digest_126 (Nat.le_of_ble_eq_true rfl) rfl ?_
      refine gj_ic (w := 0) dX11_digest_127 ?_
      refine gj_istore_n (L' := [some (.ref 100), some (.long (sp_fold (fun q => T (69 + q)) (sp_f2 (fun q => T (55 + q)) (fun q => T (62 + q)) (sp_f2 (fun q => T (30 + q)) (fun q => T (4 + q)) (sp_d7 (T 0) (T 29) (sp_sum (fun q => T (4 + q)) 25) (T 1) (T 2) (T 3) y2) 25) 7) 4)), none, some (.int (nI 0))]) dX11_digest_128 (Nat.le_of_ble_eq_true rfl) rfl ?_
      refine gj_cast (L' := [some (.ref 100), some (.long (sp_vfold (fun v => T (73 + v)) (fun v => T (80 + v)) (fun v => T (87 + v)) (sp_fold (fun q => T (69 + q)) (sp_f2 (fun q => T (55 + q)) (fun q => T (62 + q)) (sp_f2 (fun q => T (30 + q)) (fun q => T (4 + q)) (sp_d7 (T 0) (T 29) (sp_sum (fun q => T (4 + q)) 25) (T 1) (T 2) (T 3) y2) 25) 7) 4) 0)), none, some (.int (nI 0))]) (st' := []) (h' := h) rfl rfl rfl ?_
      refine gj_loop (fun j => [some (.ref 100), some (.long (sp_vfold (fun v => T (73 + v)) (fun v => T (80 + v)) (fun v => T (87 + v)) (sp_fold (fun q => T (69 + q)) (sp_f2 (fun q => T (55 + q)) (fun q => T (62 + q)) (sp_f2 (fun q => T (30 + q)) (fun q => T (4 + q)) (sp_d7 (T 0) (T 29) (sp_sum (fun q => T (4 + q)) 25) (T 1) (T 2) (T 3) y2) 25) 7) 4) j)), none, some (.int (nI j))]) (fun j => h) (T 0) ?_ (fun j hj ih => ?_) 0 (by omega)
      · show gj _ _ _ _ _ _ [some (.ref 100), some (.long (sp_vfold (fun v => T (73 + v)) (fun v => T (80 + v)) (fun v => T (87 + v)) (sp_fold (fun q => T (69 + q)) (sp_f2 (fun q => T (55 + q)) (fun q => T (62 + q)) (sp_f2 (fun q => T (30 + q)) (fun q => T (4 + q)) (sp_d7 (T 0) (T 29) (sp_sum (fun q => T (4 + q)) 25) (T 1) (T 2) (T 3) y2) 25) 7) 4) (T 0))), none, some (.int (nI (T 0)))] _ _
        refine gj_iload_n dX11_digest_129 rfl ?_
        refine gj_aload_n dX11_digest_130 rfl ?_
        refine gj_V1 lkX11_46 H0 rfl rfl (ev_X11_many H0 HT) dX11_digest_131 rfl rfl rfl rfl rfl ?_
        refine gj_icmp_geN (tgt := 190) (by omega) (by omega) dX11_digest_134 rfl (fun zq1 => ?_) (fun zq1 => ?_)
        rotate_left
        · exfalso; omega
        refine gj_aload_n dX11_digest_190 rfl ?_
        refine gj_lload_n dX11_digest_191 rfl ?_
        refine gj_bp 94 dX11_digest_192 (by decide) ?_
        refine gj_ic (w := 5) dX11_digest_194 ?_
        refine gj_aload_n dX11_digest_195 rfl ?_
        refine gfX11_7 rfl dX11_digest_196 H0 rfl ?_
        refine gj_ic (w := 1) dX11_digest_199 ?_
        refine gj_ialdN dX11_digest_200 HT (by omega) (by omega) ?_
        have hb2 := bT.2.1
        refine gj_imulN  dX11_digest_201 ?_
        refine gj_V1 lkX11_297 H0 rfl rfl (ev_X11_sums H0 HT (by omega)) dX11_digest_202 rfl rfl rfl rfl rfl ?_
        refine gj_lstore_n (L' := [some (.ref 100), some (.long (sp_fold (fun q => T (94 + q)) (sp_vfold (fun v => T (73 + v)) (fun v => T (80 + v)) (fun v => T (87 + v)) (sp_fold (fun q => T (69 + q)) (sp_f2 (fun q => T (55 + q)) (fun q => T (62 + q)) (sp_f2 (fun q => T (30 + q)) (fun q => T (4 + q)) (sp_d7 (T 0) (T 29) (sp_sum (fun q => T (4 + q)) 25) (T 1) (T 2) (T 3) y2) 25) 7) 4) (T 0)) (5 * (T 1)))), none, some (.int (nI (T 0)))]) dX11_digest_205 (Nat.le_of_ble_eq_true rfl) rfl ?_
        refine gj_aload_n dX11_digest_206 rfl ?_
        refine gj_lload_n dX11_digest_207 rfl ?_
        refine gj_bp 124 dX11_digest_208 (by decide) ?_
        refine gj_ic (w := 5) dX11_digest_210 ?_
        refine gj_aload_n dX11_digest_211 rfl ?_
        refine gfX11_7 rfl dX11_digest_212 H0 rfl ?_
        refine gj_ic (w := 2) dX11_digest_215 ?_
        refine gj_ialdN dX11_digest_216 HT (by omega) (by omega) ?_
        have hb3 := bT.2.2.1
        refine gj_imulN  dX11_digest_217 ?_
        refine gj_V1 lkX11_297 H0 rfl rfl (ev_X11_sums H0 HT (by omega)) dX11_digest_218 rfl rfl rfl rfl rfl ?_
        refine gj_lstore_n (L' := [some (.ref 100), some (.long (sp_fold (fun q => T (124 + q)) (sp_fold (fun q => T (94 + q)) (sp_vfold (fun v => T (73 + v)) (fun v => T (80 + v)) (fun v => T (87 + v)) (sp_fold (fun q => T (69 + q)) (sp_f2 (fun q => T (55 + q)) (fun q => T (62 + q)) (sp_f2 (fun q => T (30 + q)) (fun q => T (4 + q)) (sp_d7 (T 0) (T 29) (sp_sum (fun q => T (4 + q)) 25) (T 1) (T 2) (T 3) y2) 25) 7) 4) (T 0)) (5 * (T 1))) (5 * (T 2)))), none, some (.int (nI (T 0)))]) dX11_digest_221 (Nat.le_of_ble_eq_true rfl) rfl ?_
        refine gj_ldc2 (v := 31) w_1436 dX11_digest_222 ?_
        refine gj_ldc2 (v := 31) w_1436 dX11_digest_225 ?_
        refine gj_lload_n dX11_digest_228 rfl ?_
        refine gj_lmul dX11_digest_229  ?_
        refine gj_aload_n dX11_digest_230 rfl ?_
        refine gfX11_205 rfl dX11_digest_231 H0 rfl ?_
        refine gj_ladd dX11_digest_234  ?_
        refine gj_lmul dX11_digest_235  ?_
        refine gj_aload_n dX11_digest_236 rfl ?_
        refine gfX11_23 rfl dX11_digest_237 H0 rfl ?_
        refine gj_ladd dX11_digest_240  ?_
        exact gj_lr rfl dX11_digest_241 rfl rfl rfl
      show gj _ _ _ _ _ _ [some (.ref 100), some (.long (sp_vfold (fun v => T (73 + v)) (fun v => T (80 + v)) (fun v => T (87 + v)) (sp_fold (fun q => T (69 + q)) (sp_f2 (fun q => T (55 + q)) (fun q => T (62 + q)) (sp_f2 (fun q => T (30 + q)) (fun q => T (4 + q)) (sp_d7 (T 0) (T 29) (sp_sum (fun q => T (4 + q)) 25) (T 1) (T 2) (T 3) y2) 25) 7) 4) j)), none, some (.int (nI j))] _ _
      refine gj_iload_n dX11_digest_129 rfl ?_
      refine gj_aload_n dX11_digest_130 rfl ?_
      refine gj_V1 lkX11_46 H0 rfl rfl (ev_X11_many H0 HT) dX11_digest_131 rfl rfl rfl rfl rfl ?_
      refine gj_icmp_geN (tgt := 190) (by omega) (by omega) dX11_digest_134 rfl (fun zq4 => ?_) (fun zq4 => ?_)
      · exfalso; omega
      refine gj_ldc2 (v := 31) w_1436 dX11_digest_137 ?_
      refine gj_ldc2 (v := 31) w_1436 dX11_digest_140 ?_
      refine gj_ldc2 (v := 31) w_1436 dX11_digest_143 ?_
      refine gj_lload_n dX11_digest_146 rfl ?_
      refine gj_lmul dX11_digest_147  ?_
      refine gj_aload_n dX11_digest_148 rfl ?_
      refine gfX11_7 rfl dX11_digest_149 H0 rfl ?_
      refine gj_bp 73 dX11_digest_152 (by decide) ?_
      refine gj_iload_n dX11_digest_154 rfl ?_
      refine gj_iaddN  dX11_digest_155 ?_
      refine gj_ialdN dX11_digest_156 HT (by omega) (by omega) ?_
      have hb5 := bT.2.2.2.2.2.2.2.2.2.2.1 j (by omega)
      refine gj_i2l (v := (nI (T (73 + j))).toInt64) dX11_digest_157 rfl ?_
      refine gj_ladd dX11_digest_158  ?_
      refine gj_lmul dX11_digest_159  ?_
      refine gj_aload_n dX11_digest_160 rfl ?_
      refine gfX11_7 rfl dX11_digest_161 H0 rfl ?_
      refine gj_bp 80 dX11_digest_164 (by decide) ?_
      refine gj_iload_n dX11_digest_166 rfl ?_
      refine gj_iaddN  dX11_digest_167 ?_
      refine gj_ialdN dX11_digest_168 HT (by omega) (by omega) ?_
      have hb6 := bT.2.2.2.2.2.2.2.2.2.2.2.1 j (by omega)
      refine gj_i2l (v := (nI (T (80 + j))).toInt64) dX11_digest_169 rfl ?_
      refine gj_ladd dX11_digest_170  ?_
      refine gj_lmul dX11_digest_171  ?_
      refine gj_aload_n dX11_digest_172 rfl ?_
      refine gfX11_7 rfl dX11_digest_173 H0 rfl ?_
      refine gj_bp 87 dX11_digest_176 (by decide) ?_
      refine gj_iload_n dX11_digest_178 rfl ?_
      refine gj_iaddN  dX11_digest_179 ?_
      refine gj_ialdN dX11_digest_180 HT (by omega) (by omega) ?_
      have hb7 := bT.2.2.2.2.2.2.2.2.2.2.2.2.1 j (by omega)
      refine gj_i2l (v := (nI (T (87 + j))).toInt64) dX11_digest_181 rfl ?_
      refine gj_ladd dX11_digest_182  ?_
      refine gj_lstore_n (L' := [some (.ref 100), some (.long ((31 * ((31 * ((31 * (sp_vfold (fun v => T (73 + v)) (fun v => T (80 + v)) (fun v => T (87 + v)) (sp_fold (fun q => T (69 + q)) (sp_f2 (fun q => T (55 + q)) (fun q => T (62 + q)) (sp_f2 (fun q => T (30 + q)) (fun q => T (4 + q)) (sp_d7 (T 0) (T 29) (sp_sum (fun q => T (4 + q)) 25) (T 1) (T 2) (T 3) y2) 25) 7) 4) j)) + ((nI (T (73 + j))).toInt64))) + ((nI (T (80 + j))).toInt64))) + ((nI (T (87 + j))).toInt64))), none, some (.int (nI j))]) dX11_digest_183 (Nat.le_of_ble_eq_true rfl) rfl ?_
      refine gj_iincN (L' := [some (.ref 100), some (.long ((31 * ((31 * ((31 * (sp_vfold (fun v => T (73 + v)) (fun v => T (80 + v)) (fun v => T (87 + v)) (sp_fold (fun q => T (69 + q)) (sp_f2 (fun q => T (55 + q)) (fun q => T (62 + q)) (sp_f2 (fun q => T (30 + q)) (fun q => T (4 + q)) (sp_d7 (T 0) (T 29) (sp_sum (fun q => T (4 + q)) 25) (T 1) (T 2) (T 3) y2) 25) 7) 4) j)) + ((nI (T (73 + j))).toInt64))) + ((nI (T (80 + j))).toInt64))) + ((nI (T (87 + j))).toInt64))), none, some (.int (nI (j + 1)))]) dX11_digest_184 rfl (Nat.le_of_ble_eq_true rfl) rfl ?_
      refine gj_goto (tgt := 129) dX11_digest_187 rfl ?_
      exact ih
    show gj _ _ _ _ _ _ [some (.ref 100), some (.long (sp_f2 (fun q => T (55 + q)) (fun q => T (62 + q)) (sp_f2 (fun q => T (30 + q)) (fun q => T (4 + q)) (sp_d7 (T 0) (T 29) (sp_sum (fun q => T (4 + q)) 25) (T 1) (T 2) (T 3) y2) 25) j)), none, some (.int (nI j))] _ _
    refine gj_iload_n dX11_digest_74 rfl ?_
    refine gj_bp 7 dX11_digest_75 (by decide) ?_
    refine gj_icmp_geN (tgt := 118) (by omega) (by omega) dX11_digest_77 rfl (fun zq8 => ?_) (fun zq8 => ?_)
    · exfalso; omega
    refine gj_ldc2 (v := 31) w_1436 dX11_digest_80 ?_
    refine gj_ldc2 (v := 31) w_1436 dX11_digest_83 ?_
    refine gj_lload_n dX11_digest_86 rfl ?_
    refine gj_lmul dX11_digest_87  ?_
    refine gj_aload_n dX11_digest_88 rfl ?_
    refine gfX11_7 rfl dX11_digest_89 H0 rfl ?_
    refine gj_bp 55 dX11_digest_92 (by decide) ?_
    refine gj_iload_n dX11_digest_94 rfl ?_
    refine gj_iaddN  dX11_digest_95 ?_
    refine gj_ialdN dX11_digest_96 HT (by omega) (by omega) ?_
    have hb9 := bT.2.2.2.2.2.2.2.1 j (by omega)
    refine gj_i2l (v := (nI (T (55 + j))).toInt64) dX11_digest_97 rfl ?_
    refine gj_ladd dX11_digest_98  ?_
    refine gj_lmul dX11_digest_99  ?_
    refine gj_aload_n dX11_digest_100 rfl ?_
    refine gfX11_7 rfl dX11_digest_101 H0 rfl ?_
    refine gj_bp 62 dX11_digest_104 (by decide) ?_
    refine gj_iload_n dX11_digest_106 rfl ?_
    refine gj_iaddN  dX11_digest_107 ?_
    refine gj_ialdN dX11_digest_108 HT (by omega) (by omega) ?_
    have hb10 := bT.2.2.2.2.2.2.2.2.1 j (by omega)
    refine gj_i2l (v := (nI (T (62 + j))).toInt64) dX11_digest_109 rfl ?_
    refine gj_ladd dX11_digest_110  ?_
    refine gj_lstore_n (L' := [some (.ref 100), some (.long ((31 * ((31 * (sp_f2 (fun q => T (55 + q)) (fun q => T (62 + q)) (sp_f2 (fun q => T (30 + q)) (fun q => T (4 + q)) (sp_d7 (T 0) (T 29) (sp_sum (fun q => T (4 + q)) 25) (T 1) (T 2) (T 3) y2) 25) j)) + ((nI (T (55 + j))).toInt64))) + ((nI (T (62 + j))).toInt64))), none, some (.int (nI j))]) dX11_digest_111 (Nat.le_of_ble_eq_true rfl) rfl ?_
    refine gj_iincN (L' := [some (.ref 100), some (.long ((31 * ((31 * (sp_f2 (fun q => T (55 + q)) (fun q => T (62 + q)) (sp_f2 (fun q => T (30 + q)) (fun q => T (4 + q)) (sp_d7 (T 0) (T 29) (sp_sum (fun q => T (4 + q)) 25) (T 1) (T 2) (T 3) y2) 25) j)) + ((nI (T (55 + j))).toInt64))) + ((nI (T (62 + j))).toInt64))), none, some (.int (nI (j + 1)))]) dX11_digest_112 rfl (Nat.le_of_ble_eq_true rfl) rfl ?_
    refine gj_goto (tgt := 74) dX11_digest_115 rfl ?_
    exact ih
  show gj _ _ _ _ _ _ [some (.ref 100), some (.long (sp_f2 (fun q => T (30 + q)) (fun q => T (4 + q)) (sp_d7 (T 0) (T 29) (sp_sum (fun q => T (4 + q)) 25) (T 1) (T 2) (T 3) y2) j)), none, some (.int (nI j))] _ _
  refine gj_iload_n dX11_digest_33 rfl ?_
  refine gj_bp 25 dX11_digest_34 (by decide) ?_
  refine gj_icmp_geN (tgt := 72) (by omega) (by omega) dX11_digest_36 rfl (fun zq11 => ?_) (fun zq11 => ?_)
  · exfalso; omega
  refine gj_ldc2 (v := 31) w_1436 dX11_digest_39 ?_
  refine gj_ldc2 (v := 31) w_1436 dX11_digest_42 ?_
  refine gj_lload_n dX11_digest_45 rfl ?_
  refine gj_lmul dX11_digest_46  ?_
  refine gj_aload_n dX11_digest_47 rfl ?_
  refine gj_iload_n dX11_digest_48 rfl ?_
  refine gj_V1 lkX11_97 H0 rfl rfl (ev_X11_kindOf H0 HT bT (by omega)) dX11_digest_49 rfl rfl rfl rfl rfl ?_
  have hb12 := bT.2.2.2.2.2.2.1 j (by omega)
  refine gj_i2l (v := (nI (T (30 + j))).toInt64) dX11_digest_52 rfl ?_
  refine gj_ladd dX11_digest_53  ?_
  refine gj_lmul dX11_digest_54  ?_
  refine gj_aload_n dX11_digest_55 rfl ?_
  refine gfX11_7 rfl dX11_digest_56 H0 rfl ?_
  refine gj_ic (w := 4) dX11_digest_59 ?_
  refine gj_iload_n dX11_digest_60 rfl ?_
  refine gj_iaddN  dX11_digest_61 ?_
  refine gj_ialdN dX11_digest_62 HT (by omega) (by omega) ?_
  have hb13 := bT.2.2.2.2.2.1 j (by omega)
  refine gj_i2l (v := (nI (T (4 + j))).toInt64) dX11_digest_63 rfl ?_
  refine gj_ladd dX11_digest_64  ?_
  refine gj_lstore_n (L' := [some (.ref 100), some (.long ((31 * ((31 * (sp_f2 (fun q => T (30 + q)) (fun q => T (4 + q)) (sp_d7 (T 0) (T 29) (sp_sum (fun q => T (4 + q)) 25) (T 1) (T 2) (T 3) y2) j)) + ((nI (T (30 + j))).toInt64))) + ((nI (T (4 + j))).toInt64))), none, some (.int (nI j))]) dX11_digest_65 (Nat.le_of_ble_eq_true rfl) rfl ?_
  refine gj_iincN (L' := [some (.ref 100), some (.long ((31 * ((31 * (sp_f2 (fun q => T (30 + q)) (fun q => T (4 + q)) (sp_d7 (T 0) (T 29) (sp_sum (fun q => T (4 + q)) 25) (T 1) (T 2) (T 3) y2) j)) + ((nI (T (30 + j))).toInt64))) + ((nI (T (4 + j))).toInt64))), none, some (.int (nI (j + 1)))]) dX11_digest_66 rfl (Nat.le_of_ble_eq_true rfl) rfl ?_
  refine gj_goto (tgt := 33) dX11_digest_69 rfl ?_
  exact ih
def mj_br (K : Nat → Nat) : va_E := .inl (2, 2, .inl (fun j => nI (K j)))
section MJB
variable {E : mj_E} {X : mj_XT} {cc : ByteArray} {k n pc : Nat} {L : List (Option Value)} {st : List Value} {h : mj_H}
theorem gj_zaldN {a j : Nat} {K : Nat → Nat} (hd : decode cc pc = .ok (.baload, 1)) (he : h a = some (mj_br K)) (hj : j < 2) (kk : gj E X cc k n (pc + 1) L (.int (nI (K j)) :: st) h) : gj E X cc k n pc L (.int (nI j) :: .ref a :: st) h := gj_zald hd he (vp_in_nI hj (by decide)) (by rw [nI_clamp (by omega)]; exact kk)
theorem gj_zastN {a j : Nat} {K : Nat → Nat} (hd : decode cc pc = .ok (.bastore, 1)) (he : h a = some (mj_br K)) (hj : j < 2) (kk : gj E X cc k n (pc + 1) L st (mj_up h a (mj_br (mj_un K j 1)))) : gj E X cc k n pc L (.int (nI 1) :: .int (nI j) :: .ref a :: st) h := gj_zast hd he (vp_in_nI hj (by decide)) (by
  rw [nI_clamp (by omega), show vp_nar .boolean (nI 1) = nI 1 by decide, mj_upd]; exact kk)
end MJB
/-- the kept rows, with n places from b on out of all that is told -/
def sp_im (P T : Nat → Nat) (b n : Nat) : Nat → Nat := fun i => if b ≤ i ∧ i < b + n then T (i - b) else P i
theorem sp_im_0 {P T : Nat → Nat} {b : Nat} : sp_im P T b 0 = P := by funext i; exact if_neg (by omega)
theorem sp_im_s {P T : Nat → Nat} {b n : Nat} : mj_un (sp_im P T b n) (b + n) (T n) = sp_im P T b (n + 1) := by
  funext i
  unfold mj_un sp_im
  by_cases q : i = b + n
  · subst q; rw [if_pos rfl, if_pos (by omega)]; congr 1; omega
  · rw [if_neg q]
    by_cases z : b ≤ i ∧ i < b + n
    · rw [if_pos z, if_pos (by omega)]
    · rw [if_neg z, if_neg (by omega)]
def sp_mwd (T : Nat → Nat) (s d : Nat) : Nat := sp_pop (sp_mw T (sp_wi (fun q => T (30 + q)) (fun q => T (4 + q)) s (d + 1)) (sp_my T (sp_wi (fun q => T (30 + q)) (fun q => T (4 + q)) s (d + 1)) (sp_lcg s (d + 1) / 65536 % 10) (T 0)) (T 0))
theorem sp_wi_lim {K I : Nat → Nat} {s n : Nat} (h : ∀ q, q < 25 → I q ≤ 99) : ∀ q, q < 25 → sp_wi K I s n q ≤ 99 := by
  cases n with
  | zero => exact h
  | succ n => intro c _; rw [sp_wi_s]; exact sp_after_le
set_option maxHeartbeats 1000000 in
set_option maxRecDepth 10000 in
theorem ev_X11_image_0 {E : mj_E} {h : mj_H} {a0 a1 y2 y3 y4 y5 y6 : Nat} (H0 : h 100 = some (mj_mo a0 a1 y2 y3 y4 y5 y6)) {T : Nat → Nat} (HT : h 101 = some (mj_ar 362 T)) {P : Nat → Nat} (HP : h 102 = some (mj_ar 724 P)) {Q : Nat → Nat} (HQ : h 103 = some (mj_br Q))  : mj_Ev E iX11_image [.ref 100, .int (nI 0)] h (mj_R (some (.int (nI 1))) (mj_up (mj_up h 102 (mj_ar 724 (sp_im P T (362 * 0) 362))) 103 (mj_br (mj_un Q 0 1)))) := by
  refine mj_Ev.of (L0 := [some (.ref 100), some (.int (nI 0)), none]) pnRX11 (Nat.le_of_ble_eq_true rfl) rfl ?_
  refine gj_iload_n dX11_image_0 rfl ?_
  refine gj_i2lN (by omega) dX11_image_1 ?_
  refine gj_lconst (v := lN 0) dX11_image_2 rfl ?_
  refine gj_lconst (v := lN 1) dX11_image_3 rfl ?_
  refine gj_S1 lkX11_50 (ev_X11_in_t (by omega) (by omega) (by omega)) dX11_image_4 rfl rfl rfl rfl rfl ?_
  refine gj_if_neN (tgt := 17) (by omega) dX11_image_7 rfl (fun zq0 => ?_) (fun zq0 => ?_)
  rotate_left
  · exfalso; revert zq0; decide
  refine gj_ic (w := 0) dX11_image_17 ?_
  refine gj_istore_n (L' := [some (.ref 100), some (.int (nI 0)), some (.int (nI 0))]) dX11_image_18 (Nat.le_of_ble_eq_true rfl) rfl ?_
  refine gj_cast (L' := [some (.ref 100), some (.int (nI 0)), some (.int (nI 0))]) (st' := []) (h' := mj_up h 102 (mj_ar 724 (sp_im P T (362 * 0) 0))) rfl rfl (by rw [sp_im_0, mj_up_self HP]) ?_
  refine gj_loop (fun j => [some (.ref 100), some (.int (nI 0)), some (.int (nI j))]) (fun j => mj_up h 102 (mj_ar 724 (sp_im P T (362 * 0) j))) 362 ?_ (fun j hj ih => ?_) 0 (by omega)
  · show gj _ _ _ _ _ _ [some (.ref 100), some (.int (nI 0)), some (.int (nI 362))] _ _
    refine gj_iload_n dX11_image_19 rfl ?_
    refine gj_sp 362 dX11_image_20 (by decide) ?_
    refine gj_icmp_geN (tgt := 50) (by omega) (by omega) dX11_image_23 rfl (fun zq0 => ?_) (fun zq0 => ?_)
    rotate_left
    · exfalso; omega
    refine gj_aload_n dX11_image_50 rfl ?_
    refine gfX11_16 rfl dX11_image_51 ((mj_up_ne (by decide)).trans H0) rfl ?_
    refine gj_iload_n dX11_image_54 rfl ?_
    refine gj_ic (w := 1) dX11_image_55 ?_
    refine gj_zastN dX11_image_56 ((mj_up_ne (by decide)).trans HQ) (by decide) ?_
    refine gj_ic (w := 1) dX11_image_57 ?_
    exact gj_ir rfl dX11_image_58 rfl rfl rfl
  show gj _ _ _ _ _ _ [some (.ref 100), some (.int (nI 0)), some (.int (nI j))] _ _
  refine gj_iload_n dX11_image_19 rfl ?_
  refine gj_sp 362 dX11_image_20 (by decide) ?_
  refine gj_icmp_geN (tgt := 50) (by omega) (by omega) dX11_image_23 rfl (fun zq1 => ?_) (fun zq1 => ?_)
  · exfalso; omega
  refine gj_aload_n dX11_image_26 rfl ?_
  refine gfX11_13 rfl dX11_image_27 ((mj_up_ne (by decide)).trans H0) rfl ?_
  refine gj_sp 362 dX11_image_30 (by decide) ?_
  refine gj_iload_n dX11_image_33 rfl ?_
  refine gj_imulN  dX11_image_34 ?_
  refine gj_iload_n dX11_image_35 rfl ?_
  refine gj_iaddN  dX11_image_36 ?_
  refine gj_aload_n dX11_image_37 rfl ?_
  refine gfX11_7 rfl dX11_image_38 ((mj_up_ne (by decide)).trans H0) rfl ?_
  refine gj_iload_n dX11_image_41 rfl ?_
  refine gj_ialdN dX11_image_42 ((mj_up_ne (by decide)).trans HT) (by omega) (by omega) ?_
  refine gj_iastN dX11_image_43 (mj_up_eq _ _ _) (by omega) (by omega) ?_
  refine gj_iincN (L' := [some (.ref 100), some (.int (nI 0)), some (.int (nI (j + 1)))]) dX11_image_44 rfl (Nat.le_of_ble_eq_true rfl) rfl ?_
  refine gj_goto (tgt := 19) dX11_image_47 rfl ?_
  exact gj_cast rfl rfl (by rw [mj_up_up, sp_im_s]) ih
set_option maxHeartbeats 1000000 in
set_option maxRecDepth 10000 in
theorem ev_X11_from_0 {E : mj_E} {h : mj_H} {a0 a1 y2 y3 y4 y5 y6 : Nat} (H0 : h 100 = some (mj_mo a0 a1 y2 y3 y4 y5 y6)) {T : Nat → Nat} (HT : h 101 = some (mj_ar 362 T)) {P : Nat → Nat} (HP : h 102 = some (mj_ar 724 P)) {Q : Nat → Nat} (HQ : h 103 = some (mj_br Q)) (h0 : Q 0 = 1) : mj_Ev E iX11_from [.ref 100, .int (nI 0)] h (mj_R (some (.int (nI 1))) (mj_up h 101 (mj_ar 362 (fun q => P (362 * 0 + q))))) := by
  refine mj_Ev.of (L0 := [some (.ref 100), some (.int (nI 0)), none]) pnRX11 (Nat.le_of_ble_eq_true rfl) rfl ?_
  refine gj_iload_n dX11_from_0 rfl ?_
  refine gj_i2lN (by omega) dX11_from_1 ?_
  refine gj_lconst (v := lN 0) dX11_from_2 rfl ?_
  refine gj_lconst (v := lN 1) dX11_from_3 rfl ?_
  refine gj_S1 lkX11_50 (ev_X11_in_t (by omega) (by omega) (by omega)) dX11_from_4 rfl rfl rfl rfl rfl ?_
  refine gj_if_neN (tgt := 17) (by omega) dX11_from_7 rfl (fun zq0 => ?_) (fun zq0 => ?_)
  rotate_left
  · exfalso; revert zq0; decide
  refine gj_aload_n dX11_from_17 rfl ?_
  refine gfX11_16 rfl dX11_from_18 H0 rfl ?_
  refine gj_iload_n dX11_from_21 rfl ?_
  refine gj_zaldN dX11_from_22 HQ (by decide) ?_
  refine gj_if_neN (tgt := 31) (by omega) dX11_from_23 rfl (fun zq1 => ?_) (fun zq1 => ?_)
  rotate_left
  · exfalso; omega
  refine gj_ic (w := 0) dX11_from_31 ?_
  refine gj_istore_n (L' := [some (.ref 100), some (.int (nI 0)), some (.int (nI 0))]) dX11_from_32 (Nat.le_of_ble_eq_true rfl) rfl ?_
  refine gj_cast (L' := [some (.ref 100), some (.int (nI 0)), some (.int (nI 0))]) (st' := []) (h' := mj_up h 101 (mj_ar 362 (mj_mix (fun q => P (362 * 0 + q)) T 0))) rfl rfl (by rw [mj_mix_0, mj_up_self HT]) ?_
  refine gj_loop (fun j => [some (.ref 100), some (.int (nI 0)), some (.int (nI j))]) (fun j => mj_up h 101 (mj_ar 362 (mj_mix (fun q => P (362 * 0 + q)) T j))) 362 ?_ (fun j hj ih => ?_) 0 (by omega)
  · show gj _ _ _ _ _ _ [some (.ref 100), some (.int (nI 0)), some (.int (nI 362))] _ _
    refine gj_iload_n dX11_from_33 rfl ?_
    refine gj_sp 362 dX11_from_34 (by decide) ?_
    refine gj_icmp_geN (tgt := 64) (by omega) (by omega) dX11_from_37 rfl (fun zq0 => ?_) (fun zq0 => ?_)
    rotate_left
    · exfalso; omega
    refine gj_reN (g := fun q => P (362 * 0 + q)) (fun j hj => mj_mix_lt hj) ?_
    refine gj_ic (w := 1) dX11_from_64 ?_
    exact gj_ir rfl dX11_from_65 rfl rfl rfl
  show gj _ _ _ _ _ _ [some (.ref 100), some (.int (nI 0)), some (.int (nI j))] _ _
  refine gj_iload_n dX11_from_33 rfl ?_
  refine gj_sp 362 dX11_from_34 (by decide) ?_
  refine gj_icmp_geN (tgt := 64) (by omega) (by omega) dX11_from_37 rfl (fun zq2 => ?_) (fun zq2 => ?_)
  · exfalso; omega
  refine gj_aload_n dX11_from_40 rfl ?_
  refine gfX11_7 rfl dX11_from_41 ((mj_up_ne (by decide)).trans H0) rfl ?_
  refine gj_iload_n dX11_from_44 rfl ?_
  refine gj_aload_n dX11_from_45 rfl ?_
  refine gfX11_13 rfl dX11_from_46 ((mj_up_ne (by decide)).trans H0) rfl ?_
  refine gj_sp 362 dX11_from_49 (by decide) ?_
  refine gj_iload_n dX11_from_52 rfl ?_
  refine gj_imulN  dX11_from_53 ?_
  refine gj_iload_n dX11_from_54 rfl ?_
  refine gj_iaddN  dX11_from_55 ?_
  refine gj_ialdN dX11_from_56 ((mj_up_ne (by decide)).trans HP) (by omega) (by omega) ?_
  refine gj_iastN dX11_from_57 (mj_up_eq _ _ _) (by omega) (by omega) ?_
  refine gj_iincN (L' := [some (.ref 100), some (.int (nI 0)), some (.int (nI (j + 1)))]) dX11_from_58 rfl (Nat.le_of_ble_eq_true rfl) rfl ?_
  refine gj_goto (tgt := 33) dX11_from_61 rfl ?_
  exact gj_cast rfl rfl (by rw [mj_up_up, mj_mix_un rfl]) ih
set_option maxHeartbeats 1000000 in
set_option maxRecDepth 10000 in
theorem ev_X11_from_no_0 {E : mj_E} {h : mj_H} {a0 a1 y2 y3 y4 y5 y6 : Nat} (H0 : h 100 = some (mj_mo a0 a1 y2 y3 y4 y5 y6)) {R : Nat → Nat} (HR : h 104 = some (mj_ar 3 R)) {Q : Nat → Nat} (HQ : h 103 = some (mj_br Q)) (h0 : Q 0 = 0) : mj_Ev E iX11_from [.ref 100, .int (nI 0)] h (mj_R (some (.int (-3))) (mj_up h 104 (mj_ar 3 (mj_un R 1 ((R 1) + 1))))) := by
  refine mj_Ev.of (L0 := [some (.ref 100), some (.int (nI 0)), none]) pnRX11 (Nat.le_of_ble_eq_true rfl) rfl ?_
  refine gj_iload_n dX11_from_0 rfl ?_
  refine gj_i2lN (by omega) dX11_from_1 ?_
  refine gj_lconst (v := lN 0) dX11_from_2 rfl ?_
  refine gj_lconst (v := lN 1) dX11_from_3 rfl ?_
  refine gj_S1 lkX11_50 (ev_X11_in_t (by omega) (by omega) (by omega)) dX11_from_4 rfl rfl rfl rfl rfl ?_
  refine gj_if_neN (tgt := 17) (by omega) dX11_from_7 rfl (fun zq0 => ?_) (fun zq0 => ?_)
  rotate_left
  · exfalso; revert zq0; decide
  refine gj_aload_n dX11_from_17 rfl ?_
  refine gfX11_16 rfl dX11_from_18 H0 rfl ?_
  refine gj_iload_n dX11_from_21 rfl ?_
  refine gj_zaldN dX11_from_22 HQ (by decide) ?_
  refine gj_if_neN (tgt := 31) (by omega) dX11_from_23 rfl (fun zq1 => ?_) (fun zq1 => ?_)
  · exfalso; omega
  refine gj_aload_n dX11_from_26 rfl ?_
  refine gj_V1 lkX11_134 H0 rfl rfl (ev_X11_no H0 HR) dX11_from_27 rfl rfl rfl rfl rfl ?_
  exact gj_ir rfl dX11_from_30 rfl rfl rfl
set_option maxHeartbeats 1000000 in
set_option maxRecDepth 10000 in
theorem ev_X11_image_1 {E : mj_E} {h : mj_H} {a0 a1 y2 y3 y4 y5 y6 : Nat} (H0 : h 100 = some (mj_mo a0 a1 y2 y3 y4 y5 y6)) {T : Nat → Nat} (HT : h 101 = some (mj_ar 362 T)) {P : Nat → Nat} (HP : h 102 = some (mj_ar 724 P)) {Q : Nat → Nat} (HQ : h 103 = some (mj_br Q))  : mj_Ev E iX11_image [.ref 100, .int (nI 1)] h (mj_R (some (.int (nI 1))) (mj_up (mj_up h 102 (mj_ar 724 (sp_im P T (362 * 1) 362))) 103 (mj_br (mj_un Q 1 1)))) := by
  refine mj_Ev.of (L0 := [some (.ref 100), some (.int (nI 1)), none]) pnRX11 (Nat.le_of_ble_eq_true rfl) rfl ?_
  refine gj_iload_n dX11_image_0 rfl ?_
  refine gj_i2lN (by omega) dX11_image_1 ?_
  refine gj_lconst (v := lN 0) dX11_image_2 rfl ?_
  refine gj_lconst (v := lN 1) dX11_image_3 rfl ?_
  refine gj_S1 lkX11_50 (ev_X11_in_t (by omega) (by omega) (by omega)) dX11_image_4 rfl rfl rfl rfl rfl ?_
  refine gj_if_neN (tgt := 17) (by omega) dX11_image_7 rfl (fun zq0 => ?_) (fun zq0 => ?_)
  rotate_left
  · exfalso; revert zq0; decide
  refine gj_ic (w := 0) dX11_image_17 ?_
  refine gj_istore_n (L' := [some (.ref 100), some (.int (nI 1)), some (.int (nI 0))]) dX11_image_18 (Nat.le_of_ble_eq_true rfl) rfl ?_
  refine gj_cast (L' := [some (.ref 100), some (.int (nI 1)), some (.int (nI 0))]) (st' := []) (h' := mj_up h 102 (mj_ar 724 (sp_im P T (362 * 1) 0))) rfl rfl (by rw [sp_im_0, mj_up_self HP]) ?_
  refine gj_loop (fun j => [some (.ref 100), some (.int (nI 1)), some (.int (nI j))]) (fun j => mj_up h 102 (mj_ar 724 (sp_im P T (362 * 1) j))) 362 ?_ (fun j hj ih => ?_) 0 (by omega)
  · show gj _ _ _ _ _ _ [some (.ref 100), some (.int (nI 1)), some (.int (nI 362))] _ _
    refine gj_iload_n dX11_image_19 rfl ?_
    refine gj_sp 362 dX11_image_20 (by decide) ?_
    refine gj_icmp_geN (tgt := 50) (by omega) (by omega) dX11_image_23 rfl (fun zq0 => ?_) (fun zq0 => ?_)
    rotate_left
    · exfalso; omega
    refine gj_aload_n dX11_image_50 rfl ?_
    refine gfX11_16 rfl dX11_image_51 ((mj_up_ne (by decide)).trans H0) rfl ?_
    refine gj_iload_n dX11_image_54 rfl ?_
    refine gj_ic (w := 1) dX11_image_55 ?_
    refine gj_zastN dX11_image_56 ((mj_up_ne (by decide)).trans HQ) (by decide) ?_
    refine gj_ic (w := 1) dX11_image_57 ?_
    exact gj_ir rfl dX11_image_58 rfl rfl rfl
  show gj _ _ _ _ _ _ [some (.ref 100), some (.int (nI 1)), some (.int (nI j))] _ _
  refine gj_iload_n dX11_image_19 rfl ?_
  refine gj_sp 362 dX11_image_20 (by decide) ?_
  refine gj_icmp_geN (tgt := 50) (by omega) (by omega) dX11_image_23 rfl (fun zq1 => ?_) (fun zq1 => ?_)
  · exfalso; omega
  refine gj_aload_n dX11_image_26 rfl ?_
  refine gfX11_13 rfl dX11_image_27 ((mj_up_ne (by decide)).trans H0) rfl ?_
  refine gj_sp 362 dX11_image_30 (by decide) ?_
  refine gj_iload_n dX11_image_33 rfl ?_
  refine gj_imulN  dX11_image_34 ?_
  refine gj_iload_n dX11_image_35 rfl ?_
  refine gj_iaddN  dX11_image_36 ?_
  refine gj_aload_n dX11_image_37 rfl ?_
  refine gfX11_7 rfl dX11_image_38 ((mj_up_ne (by decide)).trans H0) rfl ?_
  refine gj_iload_n dX11_image_41 rfl ?_
  refine gj_ialdN dX11_image_42 ((mj_up_ne (by decide)).trans HT) (by omega) (by omega) ?_
  refine gj_iastN dX11_image_43 (mj_up_eq _ _ _) (by omega) (by omega) ?_
  refine gj_iincN (L' := [some (.ref 100), some (.int (nI 1)), some (.int (nI (j + 1)))]) dX11_image_44 rfl (Nat.le_of_ble_eq_true rfl) rfl ?_
  refine gj_goto (tgt := 19) dX11_image_47 rfl ?_
  exact gj_cast rfl rfl (by rw [mj_up_up, sp_im_s]) ih
set_option maxHeartbeats 1000000 in
set_option maxRecDepth 10000 in
theorem ev_X11_from_1 {E : mj_E} {h : mj_H} {a0 a1 y2 y3 y4 y5 y6 : Nat} (H0 : h 100 = some (mj_mo a0 a1 y2 y3 y4 y5 y6)) {T : Nat → Nat} (HT : h 101 = some (mj_ar 362 T)) {P : Nat → Nat} (HP : h 102 = some (mj_ar 724 P)) {Q : Nat → Nat} (HQ : h 103 = some (mj_br Q)) (h0 : Q 1 = 1) : mj_Ev E iX11_from [.ref 100, .int (nI 1)] h (mj_R (some (.int (nI 1))) (mj_up h 101 (mj_ar 362 (fun q => P (362 * 1 + q))))) := by
  refine mj_Ev.of (L0 := [some (.ref 100), some (.int (nI 1)), none]) pnRX11 (Nat.le_of_ble_eq_true rfl) rfl ?_
  refine gj_iload_n dX11_from_0 rfl ?_
  refine gj_i2lN (by omega) dX11_from_1 ?_
  refine gj_lconst (v := lN 0) dX11_from_2 rfl ?_
  refine gj_lconst (v := lN 1) dX11_from_3 rfl ?_
  refine gj_S1 lkX11_50 (ev_X11_in_t (by omega) (by omega) (by omega)) dX11_from_4 rfl rfl rfl rfl rfl ?_
  refine gj_if_neN (tgt := 17) (by omega) dX11_from_7 rfl (fun zq0 => ?_) (fun zq0 => ?_)
  rotate_left
  · exfalso; revert zq0; decide
  refine gj_aload_n dX11_from_17 rfl ?_
  refine gfX11_16 rfl dX11_from_18 H0 rfl ?_
  refine gj_iload_n dX11_from_21 rfl ?_
  refine gj_zaldN dX11_from_22 HQ (by decide) ?_
  refine gj_if_neN (tgt := 31) (by omega) dX11_from_23 rfl (fun zq1 => ?_) (fun zq1 => ?_)
  rotate_left
  · exfalso; omega
  refine gj_ic (w := 0) dX11_from_31 ?_
  refine gj_istore_n (L' := [some (.ref 100), some (.int (nI 1)), some (.int (nI 0))]) dX11_from_32 (Nat.le_of_ble_eq_true rfl) rfl ?_
  refine gj_cast (L' := [some (.ref 100), some (.int (nI 1)), some (.int (nI 0))]) (st' := []) (h' := mj_up h 101 (mj_ar 362 (mj_mix (fun q => P (362 * 1 + q)) T 0))) rfl rfl (by rw [mj_mix_0, mj_up_self HT]) ?_
  refine gj_loop (fun j => [some (.ref 100), some (.int (nI 1)), some (.int (nI j))]) (fun j => mj_up h 101 (mj_ar 362 (mj_mix (fun q => P (362 * 1 + q)) T j))) 362 ?_ (fun j hj ih => ?_) 0 (by omega)
  · show gj _ _ _ _ _ _ [some (.ref 100), some (.int (nI 1)), some (.int (nI 362))] _ _
    refine gj_iload_n dX11_from_33 rfl ?_
    refine gj_sp 362 dX11_from_34 (by decide) ?_
    refine gj_icmp_geN (tgt := 64) (by omega) (by omega) dX11_from_37 rfl (fun zq0 => ?_) (fun zq0 => ?_)
    rotate_left
    · exfalso; omega
    refine gj_reN (g := fun q => P (362 * 1 + q)) (fun j hj => mj_mix_lt hj) ?_
    refine gj_ic (w := 1) dX11_from_64 ?_
    exact gj_ir rfl dX11_from_65 rfl rfl rfl
  show gj _ _ _ _ _ _ [some (.ref 100), some (.int (nI 1)), some (.int (nI j))] _ _
  refine gj_iload_n dX11_from_33 rfl ?_
  refine gj_sp 362 dX11_from_34 (by decide) ?_
  refine gj_icmp_geN (tgt := 64) (by omega) (by omega) dX11_from_37 rfl (fun zq2 => ?_) (fun zq2 => ?_)
  · exfalso; omega
  refine gj_aload_n dX11_from_40 rfl ?_
  refine gfX11_7 rfl dX11_from_41 ((mj_up_ne (by decide)).trans H0) rfl ?_
  refine gj_iload_n dX11_from_44 rfl ?_
  refine gj_aload_n dX11_from_45 rfl ?_
  refine gfX11_13 rfl dX11_from_46 ((mj_up_ne (by decide)).trans H0) rfl ?_
  refine gj_sp 362 dX11_from_49 (by decide) ?_
  refine gj_iload_n dX11_from_52 rfl ?_
  refine gj_imulN  dX11_from_53 ?_
  refine gj_iload_n dX11_from_54 rfl ?_
  refine gj_iaddN  dX11_from_55 ?_
  refine gj_ialdN dX11_from_56 ((mj_up_ne (by decide)).trans HP) (by omega) (by omega) ?_
  refine gj_iastN dX11_from_57 (mj_up_eq _ _ _) (by omega) (by omega) ?_
  refine gj_iincN (L' := [some (.ref 100), some (.int (nI 1)), some (.int (nI (j + 1)))]) dX11_from_58 rfl (Nat.le_of_ble_eq_true rfl) rfl ?_
  refine gj_goto (tgt := 33) dX11_from_61 rfl ?_
  exact gj_cast rfl rfl (by rw [mj_up_up, mj_mix_un rfl]) ih
set_option maxHeartbeats 1000000 in
set_option maxRecDepth 10000 in
theorem ev_X11_from_no_1 {E : mj_E} {h : mj_H} {a0 a1 y2 y3 y4 y5 y6 : Nat} (H0 : h 100 = some (mj_mo a0 a1 y2 y3 y4 y5 y6)) {R : Nat → Nat} (HR : h 104 = some (mj_ar 3 R)) {Q : Nat → Nat} (HQ : h 103 = some (mj_br Q)) (h0 : Q 1 = 0) : mj_Ev E iX11_from [.ref 100, .int (nI 1)] h (mj_R (some (.int (-3))) (mj_up h 104 (mj_ar 3 (mj_un R 1 ((R 1) + 1))))) := by
  refine mj_Ev.of (L0 := [some (.ref 100), some (.int (nI 1)), none]) pnRX11 (Nat.le_of_ble_eq_true rfl) rfl ?_
  refine gj_iload_n dX11_from_0 rfl ?_
  refine gj_i2lN (by omega) dX11_from_1 ?_
  refine gj_lconst (v := lN 0) dX11_from_2 rfl ?_
  refine gj_lconst (v := lN 1) dX11_from_3 rfl ?_
  refine gj_S1 lkX11_50 (ev_X11_in_t (by omega) (by omega) (by omega)) dX11_from_4 rfl rfl rfl rfl rfl ?_
  refine gj_if_neN (tgt := 17) (by omega) dX11_from_7 rfl (fun zq0 => ?_) (fun zq0 => ?_)
  rotate_left
  · exfalso; revert zq0; decide
  refine gj_aload_n dX11_from_17 rfl ?_
  refine gfX11_16 rfl dX11_from_18 H0 rfl ?_
  refine gj_iload_n dX11_from_21 rfl ?_
  refine gj_zaldN dX11_from_22 HQ (by decide) ?_
  refine gj_if_neN (tgt := 31) (by omega) dX11_from_23 rfl (fun zq1 => ?_) (fun zq1 => ?_)
  · exfalso; omega
  refine gj_aload_n dX11_from_26 rfl ?_
  refine gj_V1 lkX11_134 H0 rfl rfl (ev_X11_no H0 HR) dX11_from_27 rfl rfl rfl rfl rfl ?_
  exact gj_ir rfl dX11_from_30 rfl rfl rfl
set_option maxHeartbeats 1000000 in
set_option maxRecDepth 10000 in
theorem ev_X11_winters {E : mj_E} {h : mj_H} {a0 a1 y2 y3 y4 y5 y6 : Nat} (H0 : h 100 = some (mj_mo a0 a1 y2 y3 y4 y5 y6)) {T : Nat → Nat} (HT : h 101 = some (mj_ar 362 T)) {J : Nat → Nat} (HJ : h 105 = some (mj_ar 25 J)) (bT : mj_Tb T) {s m : Nat} (h0 : s ≤ 999999) (h1 : m ≤ 60) : mj_Ev E iX11_winters [.ref 100, .int (nI s), .int (nI m)] h (mj_R (some (.int (nI (sp_sum (sp_mwd T s) m)))) (mj_up h 105 (mj_ar 25 (sp_wi (fun q => T (30 + q)) (fun q => T (4 + q)) s m)))) := by
  refine mj_Ev.of (L0 := [some (.ref 100), some (.int (nI s)), some (.int (nI m)), none, none, none, none, none]) pnRX11 (Nat.le_of_ble_eq_true rfl) rfl ?_
  have hb0 := bT.1
  refine gj_iload_n dX11_winters_0 rfl ?_
  refine gj_i2lN (by omega) dX11_winters_1 ?_
  refine gj_lconst (v := lN 0) dX11_winters_2 rfl ?_
  refine gj_ldc2 (v := lN 999999) w_1342 dX11_winters_3 ?_
  refine gj_S1 lkX11_50 (ev_X11_in_t (by omega) (by omega) (by omega)) dX11_winters_6 rfl rfl rfl rfl rfl ?_
  refine gj_if_eqN (tgt := 24) (by omega) dX11_winters_9 rfl (fun zq0 => ?_) (fun zq0 => ?_)
  · exfalso; revert zq0; decide
  refine gj_iload_n dX11_winters_12 rfl ?_
  refine gj_i2lN (by omega) dX11_winters_13 ?_
  refine gj_lconst (v := lN 0) dX11_winters_14 rfl ?_
  refine gj_ldc2 (v := lN 60) w_1097 dX11_winters_15 ?_
  refine gj_S1 lkX11_50 (ev_X11_in_t (by omega) (by omega) (by omega)) dX11_winters_18 rfl rfl rfl rfl rfl ?_
  refine gj_if_neN (tgt := 31) (by omega) dX11_winters_21 rfl (fun zq0 => ?_) (fun zq0 => ?_)
  rotate_left
  · exfalso; revert zq0; decide
  refine gj_iload_n dX11_winters_31 rfl ?_
  refine gj_i2lN (by omega) dX11_winters_32 ?_
  refine gj_lstore_n (L' := [some (.ref 100), some (.int (nI s)), some (.int (nI m)), some (.long (lN s)), none, none, none, none]) dX11_winters_33 (Nat.le_of_ble_eq_true rfl) rfl ?_
  refine gj_ic (w := 0) dX11_winters_34 ?_
  refine gj_istore (L' := [some (.ref 100), some (.int (nI s)), some (.int (nI m)), some (.long (lN s)), none, some (.int (nI 0)), none, none]) dX11_winters_35 (Nat.le_of_ble_eq_true rfl) rfl ?_
  refine gj_aload_n dX11_winters_37 rfl ?_
  refine gj_V0 lkX11_124 H0 rfl rfl (ev_X11_layIce H0 HT HJ bT) dX11_winters_38 rfl rfl rfl rfl rfl ?_
  refine gj_ic (w := 0) dX11_winters_41 ?_
  refine gj_istore (L' := [some (.ref 100), some (.int (nI s)), some (.int (nI m)), some (.long (lN s)), none, some (.int (nI 0)), some (.int (nI 0)), none]) dX11_winters_42 (Nat.le_of_ble_eq_true rfl) rfl ?_
  refine gj_cast (L' := [some (.ref 100), some (.int (nI s)), some (.int (nI m)), some (.long (lN (sp_lcg s 0))), none, some (.int (nI (sp_sum (sp_mwd T s) 0))), some (.int (nI 0)), none]) (st' := []) (h' := mj_up h 105 (mj_ar 25 (sp_wi (fun q => T (30 + q)) (fun q => T (4 + q)) s 0))) rfl rfl rfl ?_
  refine gj_loop (fun j => [some (.ref 100), some (.int (nI s)), some (.int (nI m)), some (.long (lN (sp_lcg s j))), none, some (.int (nI (sp_sum (sp_mwd T s) j))), some (.int (nI j)), none]) (fun j => mj_up h 105 (mj_ar 25 (sp_wi (fun q => T (30 + q)) (fun q => T (4 + q)) s j))) m ?_ (fun j hj ih => ?_) 0 (by omega)
  · show gj _ _ _ _ _ _ [some (.ref 100), some (.int (nI s)), some (.int (nI m)), some (.long (lN (sp_lcg s m))), none, some (.int (nI (sp_sum (sp_mwd T s) m))), some (.int (nI m)), none] _ _
    refine gj_iload dX11_winters_44 rfl ?_
    refine gj_iload_n dX11_winters_46 rfl ?_
    refine gj_icmp_geN (tgt := 116) (by omega) (by omega) dX11_winters_47 rfl (fun zq1 => ?_) (fun zq1 => ?_)
    rotate_left
    · exfalso; omega
    refine gj_iload dX11_winters_116 rfl ?_
    exact gj_ir rfl dX11_winters_118 rfl rfl rfl
  show gj _ _ _ _ _ _ [some (.ref 100), some (.int (nI s)), some (.int (nI m)), some (.long (lN (sp_lcg s j))), none, some (.int (nI (sp_sum (sp_mwd T s) j))), some (.int (nI j)), none] _ _
  refine gj_iload dX11_winters_44 rfl ?_
  refine gj_iload_n dX11_winters_46 rfl ?_
  refine gj_icmp_geN (tgt := 116) (by omega) (by omega) dX11_winters_47 rfl (fun zq2 => ?_) (fun zq2 => ?_)
  · exfalso; omega
  have hx9 := @sp_lcg_lt s j (by omega)
  refine gj_lload_n dX11_winters_50 rfl ?_
  refine gj_ldc2 (v := lN 1103515245) w_1343 dX11_winters_51 ?_
  refine gj_lmulN  dX11_winters_54 ?_
  refine gj_ldc2 (v := lN 12345) w_1344 dX11_winters_55 ?_
  refine gj_laddN  dX11_winters_58 ?_
  refine gj_ldc2 (v := lN 2147483648) w_1345 dX11_winters_59 ?_
  refine gj_lremN (by omega) (by omega) (by omega) dX11_winters_62 ?_
  refine gj_topl (congrArg lN (sp_lcg_s (s := s) (n := j)).symm) ?_
  have hx8 := @sp_lcg_lt s (j + 1) (by omega)
  refine gj_lstore_n (L' := [some (.ref 100), some (.int (nI s)), some (.int (nI m)), some (.long (lN (sp_lcg s (j + 1)))), none, some (.int (nI (sp_sum (sp_mwd T s) j))), some (.int (nI j)), none]) dX11_winters_63 (Nat.le_of_ble_eq_true rfl) rfl ?_
  refine gj_lload_n dX11_winters_64 rfl ?_
  refine gj_ldc2 (v := lN 65536) w_1346 dX11_winters_65 ?_
  refine gj_ldivN (by omega) (by omega) (by omega) dX11_winters_68 ?_
  refine gj_ldc2 (v := lN 10) w_1333 dX11_winters_69 ?_
  refine gj_lremN (by omega) (by omega) (by omega) dX11_winters_72 ?_
  refine gj_l2iN dX11_winters_73 ?_
  refine gj_istore (L' := [some (.ref 100), some (.int (nI s)), some (.int (nI m)), some (.long (lN (sp_lcg s (j + 1)))), none, some (.int (nI (sp_sum (sp_mwd T s) j))), some (.int (nI j)), some (.int (nI (((sp_lcg s (j + 1)) / 65536) % 10)))]) dX11_winters_74 (Nat.le_of_ble_eq_true rfl) rfl ?_
  refine gj_aload_n dX11_winters_76 rfl ?_
  refine gj_iload dX11_winters_77 rfl ?_
  refine gj_lload_n dX11_winters_79 rfl ?_
  refine gj_ldc2 (v := lN 1048576) w_1347 dX11_winters_80 ?_
  refine gj_ldivN (by omega) (by omega) (by omega) dX11_winters_83 ?_
  refine gj_ldc2 (v := lN 10) w_1333 dX11_winters_84 ?_
  refine gj_lremN (by omega) (by omega) (by omega) dX11_winters_87 ?_
  refine gj_l2iN dX11_winters_88 ?_
  refine gj_V0 lkX11_107 ((mj_up_ne (by decide)).trans H0) rfl rfl (ev_X11_goDay ((mj_up_ne (by decide)).trans H0) ((mj_up_ne (by decide)).trans HT) (mj_up_eq _ _ _) bT (show ∀ q, q < 25 → (sp_wi (fun q => T (30 + q)) (fun q => T (4 + q)) s j) q ≤ 99 from sp_wi_lim bT.2.2.2.2.2.1) (by omega) (by omega)) dX11_winters_89 rfl rfl rfl rfl rfl ?_
  refine gj_cast (h' := mj_up h 105 (mj_ar 25 (sp_wi (fun q => T (30 + q)) (fun q => T (4 + q)) s (j + 1)))) rfl rfl (by rw [mj_up_up, sp_wi_s]) ?_
  refine gj_iload dX11_winters_92 rfl ?_
  refine gj_aload_n dX11_winters_94 rfl ?_
  refine gj_aload_n dX11_winters_95 rfl ?_
  refine gj_iload dX11_winters_96 rfl ?_
  refine gj_V1 lkX11_193 ((mj_up_ne (by decide)).trans H0) rfl rfl (ev_X11_yesOf ((mj_up_ne (by decide)).trans H0) ((mj_up_ne (by decide)).trans HT) (mj_up_eq _ _ _) bT (show ∀ q, q < 25 → (sp_wi (fun q => T (30 + q)) (fun q => T (4 + q)) s (j + 1)) q ≤ 99 from sp_wi_lim bT.2.2.2.2.2.1) (by omega)) dX11_winters_98 rfl rfl rfl rfl rfl ?_
  have hb3 := @sp_my_lt T (sp_wi (fun q => T (30 + q)) (fun q => T (4 + q)) s (j + 1)) (((sp_lcg s (j + 1)) / 65536) % 10) (T 0) (by omega)
  refine gj_V1 lkX11_196 ((mj_up_ne (by decide)).trans H0) rfl rfl (ev_X11_wetOf ((mj_up_ne (by decide)).trans H0) ((mj_up_ne (by decide)).trans HT) (mj_up_eq _ _ _) bT (show ∀ q, q < 25 → (sp_wi (fun q => T (30 + q)) (fun q => T (4 + q)) s (j + 1)) q ≤ 99 from sp_wi_lim bT.2.2.2.2.2.1) (by omega)) dX11_winters_101 rfl rfl rfl rfl rfl ?_
  have hb4 := @sp_mw_lt T (sp_wi (fun q => T (30 + q)) (fun q => T (4 + q)) s (j + 1)) (sp_my T (sp_wi (fun q => T (30 + q)) (fun q => T (4 + q)) s (j + 1)) (((sp_lcg s (j + 1)) / 65536) % 10) (T 0)) (T 0) (by omega)
  refine gj_S1 lkX11_181 (ev_X11_bits (by omega)) dX11_winters_104 rfl rfl rfl rfl rfl ?_
  have hb5 := @sp_pop_le (sp_mw T (sp_wi (fun q => T (30 + q)) (fun q => T (4 + q)) s (j + 1)) (sp_my T (sp_wi (fun q => T (30 + q)) (fun q => T (4 + q)) s (j + 1)) (((sp_lcg s (j + 1)) / 65536) % 10) (T 0)) (T 0))
  refine gj_iaddN  dX11_winters_107 ?_
  refine gj_istore (L' := [some (.ref 100), some (.int (nI s)), some (.int (nI m)), some (.long (lN (sp_lcg s (j + 1)))), none, some (.int (nI ((sp_sum (sp_mwd T s) j) + (sp_pop (sp_mw T (sp_wi (fun q => T (30 + q)) (fun q => T (4 + q)) s (j + 1)) (sp_my T (sp_wi (fun q => T (30 + q)) (fun q => T (4 + q)) s (j + 1)) (((sp_lcg s (j + 1)) / 65536) % 10) (T 0)) (T 0)))))), some (.int (nI j)), some (.int (nI (((sp_lcg s (j + 1)) / 65536) % 10)))]) dX11_winters_108 (Nat.le_of_ble_eq_true rfl) rfl ?_
  refine gj_iincN (L' := [some (.ref 100), some (.int (nI s)), some (.int (nI m)), some (.long (lN (sp_lcg s (j + 1)))), none, some (.int (nI ((sp_sum (sp_mwd T s) j) + (sp_pop (sp_mw T (sp_wi (fun q => T (30 + q)) (fun q => T (4 + q)) s (j + 1)) (sp_my T (sp_wi (fun q => T (30 + q)) (fun q => T (4 + q)) s (j + 1)) (((sp_lcg s (j + 1)) / 65536) % 10) (T 0)) (T 0)))))), some (.int (nI (j + 1))), some (.int (nI (((sp_lcg s (j + 1)) / 65536) % 10)))]) dX11_winters_110 rfl (Nat.le_of_ble_eq_true rfl) rfl ?_
  refine gj_goto (tgt := 44) dX11_winters_113 rfl ?_
  refine gj_forget (i := 7) (L' := [some (.ref 100), some (.int (nI s)), some (.int (nI m)), some (.long (lN (sp_lcg s (j + 1)))), none, some (.int (nI ((sp_sum (sp_mwd T s) j) + (sp_pop (sp_mw T (sp_wi (fun q => T (30 + q)) (fun q => T (4 + q)) s (j + 1)) (sp_my T (sp_wi (fun q => T (30 + q)) (fun q => T (4 + q)) s (j + 1)) (((sp_lcg s (j + 1)) / 65536) % 10) (T 0)) (T 0)))))), some (.int (nI (j + 1))), none]) rfl ?_
  exact ih
