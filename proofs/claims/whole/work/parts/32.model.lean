set_option maxHeartbeats 1000000 in
set_option maxRecDepth 10000 in
theorem ev_X11_bad {E : mj_E} {h : mj_H} {a0 a1 y2 y3 y4 y5 y6 : Nat} (H0 : h 100 = some (mj_mo a0 a1 y2 y3 y4 y5 y6)) {R : Nat → Nat} (HR : h 104 = some (mj_ar 3 R)) {e : Int32}  : mj_Ev E iX11_bad [.ref 100, .int e] h (mj_R (some (.int e)) (mj_up h 104 (mj_ar 3 (mj_un R 0 ((R 0) + 1))))) := by
  refine mj_Ev.of (L0 := [some (.ref 100), some (.int e)]) pnRX11 (Nat.le_of_ble_eq_true rfl) rfl ?_
  refine gj_aload_n dX11_bad_0 rfl ?_
  refine gfX11_20 rfl dX11_bad_1 H0 rfl ?_
  refine gj_ic (w := 0) dX11_bad_4 ?_
  refine gj_dup2 dX11_bad_5 rfl rfl ?_
  refine gj_ialdN dX11_bad_6 HR (by omega) (by omega) ?_
  refine gj_ic (w := 1) dX11_bad_7 ?_
  refine gj_iaddN  dX11_bad_8 ?_
  refine gj_iastN dX11_bad_9 HR (by omega) (by omega) ?_
  refine gj_iload_n dX11_bad_10 rfl ?_
  exact gj_ir rfl dX11_bad_11 rfl rfl rfl
set_option maxHeartbeats 1000000 in
set_option maxRecDepth 10000 in
theorem ev_X11_no {E : mj_E} {h : mj_H} {a0 a1 y2 y3 y4 y5 y6 : Nat} (H0 : h 100 = some (mj_mo a0 a1 y2 y3 y4 y5 y6)) {R : Nat → Nat} (HR : h 104 = some (mj_ar 3 R))  : mj_Ev E iX11_no [.ref 100] h (mj_R (some (.int (-3))) (mj_up h 104 (mj_ar 3 (mj_un R 1 ((R 1) + 1))))) := by
  refine mj_Ev.of (L0 := [some (.ref 100)]) pnRX11 (Nat.le_of_ble_eq_true rfl) rfl ?_
  refine gj_aload_n dX11_no_0 rfl ?_
  refine gfX11_20 rfl dX11_no_1 H0 rfl ?_
  refine gj_ic (w := 1) dX11_no_4 ?_
  refine gj_dup2 dX11_no_5 rfl rfl ?_
  refine gj_ialdN dX11_no_6 HR (by omega) (by omega) ?_
  refine gj_ic (w := 1) dX11_no_7 ?_
  refine gj_iaddN  dX11_no_8 ?_
  refine gj_iastN dX11_no_9 HR (by omega) (by omega) ?_
  refine gj_bipush (v := (-3)) dX11_no_10 (by decide) ?_
  exact gj_ir rfl dX11_no_12 rfl rfl rfl
set_option maxHeartbeats 1000000 in
set_option maxRecDepth 10000 in
theorem ev_X11_full {E : mj_E} {h : mj_H} {a0 a1 y2 y3 y4 y5 y6 : Nat} (H0 : h 100 = some (mj_mo a0 a1 y2 y3 y4 y5 y6)) {R : Nat → Nat} (HR : h 104 = some (mj_ar 3 R))  : mj_Ev E iX11_full [.ref 100] h (mj_R (some (.int (-4))) (mj_up h 104 (mj_ar 3 (mj_un R 2 ((R 2) + 1))))) := by
  refine mj_Ev.of (L0 := [some (.ref 100)]) pnRX11 (Nat.le_of_ble_eq_true rfl) rfl ?_
  refine gj_aload_n dX11_full_0 rfl ?_
  refine gfX11_20 rfl dX11_full_1 H0 rfl ?_
  refine gj_ic (w := 2) dX11_full_4 ?_
  refine gj_dup2 dX11_full_5 rfl rfl ?_
  refine gj_ialdN dX11_full_6 HR (by omega) (by omega) ?_
  refine gj_ic (w := 1) dX11_full_7 ?_
  refine gj_iaddN  dX11_full_8 ?_
  refine gj_iastN dX11_full_9 HR (by omega) (by omega) ?_
  refine gj_bipush (v := (-4)) dX11_full_10 (by decide) ?_
  exact gj_ir rfl dX11_full_12 rfl rfl rfl
theorem mj_asc {a c d : Nat} : a + c + d = a + (c + d) := Nat.add_assoc a c d
set_option maxHeartbeats 1000000 in
set_option maxRecDepth 10000 in
theorem ev_X11_keep_a {E : mj_E} {h : mj_H} {a0 a1 y2 y3 y4 y5 y6 : Nat} (H0 : h 100 = some (mj_mo a0 a1 y2 y3 y4 y5 y6)) {T : Nat → Nat} (HT : h 101 = some (mj_ar 362 T)) (bT : mj_Tb T) (h0 : T 3 < 8) : mj_Ev E iX11_keep [.ref 100] h (mj_R none (mj_up h 101 (mj_ar 362 (mj_un (sp_kc T (154 + 26 * T 3) 26) 3 (T 3 + 1))))) := by
  refine mj_Ev.of (L0 := [some (.ref 100), none]) pnRX11 (Nat.le_of_ble_eq_true rfl) rfl ?_
  refine gj_aload_n dX11_keep_0 rfl ?_
  refine gfX11_7 rfl dX11_keep_1 H0 rfl ?_
  refine gj_ic (w := 3) dX11_keep_4 ?_
  refine gj_ialdN dX11_keep_5 HT (by omega) (by omega) ?_
  have hb1 := bT.2.2.2.1
  refine gj_bp 8 dX11_keep_6 (by decide) ?_
  refine gj_icmp_neN (tgt := 54) (by omega) (by omega) dX11_keep_8 rfl (fun zq2 => ?_) (fun zq2 => ?_)
  rotate_left
  · exfalso; omega
  refine gj_ic (w := 0) dX11_keep_54 ?_
  refine gj_istore_n (L' := [some (.ref 100), some (.int (nI 0))]) dX11_keep_55 (Nat.le_of_ble_eq_true rfl) rfl ?_
  refine gj_cast (L' := [some (.ref 100), some (.int (nI 0))]) (st' := []) (h' := mj_up h 101 (mj_ar 362 (sp_kc T (154 + 26 * T 3) 0))) rfl rfl (by rw [sp_kc_0, mj_up_self HT]) ?_
  refine gj_loop (fun j => [some (.ref 100), some (.int (nI j))]) (fun j => mj_up h 101 (mj_ar 362 (sp_kc T (154 + 26 * T 3) j))) 26 ?_ (fun j hj ih => ?_) 0 (by omega)
  · show gj _ _ _ _ _ _ [some (.ref 100), some (.int (nI 26))] _ _
    refine gj_iload_n dX11_keep_56 rfl ?_
    refine gj_bp 26 dX11_keep_57 (by decide) ?_
    refine gj_icmp_geN (tgt := 96) (by omega) (by omega) dX11_keep_59 rfl (fun zq0 => ?_) (fun zq0 => ?_)
    rotate_left
    · exfalso; omega
    have hx3 : sp_kc T (154 + 26 * T 3) 26 3 = T 3 := if_neg (by omega)
    refine gj_aload_n dX11_keep_96 rfl ?_
    refine gfX11_7 rfl dX11_keep_97 ((mj_up_ne (by decide)).trans H0) rfl ?_
    refine gj_ic (w := 3) dX11_keep_100 ?_
    refine gj_dup2 dX11_keep_101 rfl rfl ?_
    refine gj_ialdN dX11_keep_102 (mj_up_eq _ _ _) (by omega) (by omega) ?_
    refine gj_ic (w := 1) dX11_keep_103 ?_
    refine gj_iaddN  dX11_keep_104 ?_
    refine gj_iastN dX11_keep_105 (mj_up_eq _ _ _) (by omega) (by omega) ?_
    exact gj_vr rfl dX11_keep_106 (by rw [mj_up_up, hx3])
  show gj _ _ _ _ _ _ [some (.ref 100), some (.int (nI j))] _ _
  refine gj_iload_n dX11_keep_56 rfl ?_
  refine gj_bp 26 dX11_keep_57 (by decide) ?_
  refine gj_icmp_geN (tgt := 96) (by omega) (by omega) dX11_keep_59 rfl (fun zq3 => ?_) (fun zq3 => ?_)
  · exfalso; omega
  have hx1 : sp_kc T (154 + 26 * T 3) j 3 = T 3 := if_neg (by omega)
  have hx2 : sp_kc T (154 + 26 * T 3) j 3 < 8 := by omega
  refine gj_aload_n dX11_keep_62 rfl ?_
  refine gfX11_7 rfl dX11_keep_63 ((mj_up_ne (by decide)).trans H0) rfl ?_
  refine gj_sp 154 dX11_keep_66 (by decide) ?_
  refine gj_bp 26 dX11_keep_69 (by decide) ?_
  refine gj_aload_n dX11_keep_71 rfl ?_
  refine gfX11_7 rfl dX11_keep_72 ((mj_up_ne (by decide)).trans H0) rfl ?_
  refine gj_ic (w := 3) dX11_keep_75 ?_
  refine gj_ialdN dX11_keep_76 (mj_up_eq _ _ _) (by omega) (by omega) ?_
  refine gj_imulN  dX11_keep_77 ?_
  refine gj_iaddN  dX11_keep_78 ?_
  refine gj_iload_n dX11_keep_79 rfl ?_
  refine gj_iaddN  dX11_keep_80 ?_
  refine gj_aload_n dX11_keep_81 rfl ?_
  refine gfX11_7 rfl dX11_keep_82 ((mj_up_ne (by decide)).trans H0) rfl ?_
  refine gj_ic (w := 4) dX11_keep_85 ?_
  refine gj_iload_n dX11_keep_86 rfl ?_
  refine gj_iaddN  dX11_keep_87 ?_
  refine gj_ialdN dX11_keep_88 (mj_up_eq _ _ _) (by omega) (by omega) ?_
  refine gj_iastN dX11_keep_89 (mj_up_eq _ _ _) (by omega) (by omega) ?_
  refine gj_iincN (L' := [some (.ref 100), some (.int (nI (j + 1)))]) dX11_keep_90 rfl (Nat.le_of_ble_eq_true rfl) rfl ?_
  refine gj_goto (tgt := 56) dX11_keep_93 rfl ?_
  exact gj_cast rfl rfl (by rw [mj_up_up, hx1, sp_kc_s (by omega)]) ih
set_option maxHeartbeats 1000000 in
set_option maxRecDepth 10000 in
theorem ev_X11_keep_b {E : mj_E} {h : mj_H} {a0 a1 y2 y3 y4 y5 y6 : Nat} (H0 : h 100 = some (mj_mo a0 a1 y2 y3 y4 y5 y6)) {T : Nat → Nat} (HT : h 101 = some (mj_ar 362 T)) (bT : mj_Tb T) (h0 : T 3 = 8) : mj_Ev E iX11_keep [.ref 100] h (mj_R none (mj_up h 101 (mj_ar 362 (mj_un (sp_kc (mj_un (sp_ks T 182) 3 7) 336 26) 3 8)))) := by
  refine mj_Ev.of (L0 := [some (.ref 100), none]) pnRX11 (Nat.le_of_ble_eq_true rfl) rfl ?_
  refine gj_aload_n dX11_keep_0 rfl ?_
  refine gfX11_7 rfl dX11_keep_1 H0 rfl ?_
  refine gj_ic (w := 3) dX11_keep_4 ?_
  refine gj_ialdN dX11_keep_5 HT (by omega) (by omega) ?_
  have hb1 := bT.2.2.2.1
  refine gj_bp 8 dX11_keep_6 (by decide) ?_
  refine gj_icmp_neN (tgt := 54) (by omega) (by omega) dX11_keep_8 rfl (fun zq2 => ?_) (fun zq2 => ?_)
  · exfalso; omega
  refine gj_ic (w := 0) dX11_keep_11 ?_
  refine gj_istore_n (L' := [some (.ref 100), some (.int (nI 0))]) dX11_keep_12 (Nat.le_of_ble_eq_true rfl) rfl ?_
  refine gj_cast (L' := [some (.ref 100), some (.int (nI 0))]) (st' := []) (h' := mj_up h 101 (mj_ar 362 (sp_ks T 0))) rfl rfl (by rw [sp_ks_0, mj_up_self HT]) ?_
  refine gj_loop (fun j => [some (.ref 100), some (.int (nI j))]) (fun j => mj_up h 101 (mj_ar 362 (sp_ks T j))) 182 ?_ (fun j hj ih => ?_) 0 (by omega)
  · show gj _ _ _ _ _ _ [some (.ref 100), some (.int (nI 182))] _ _
    refine gj_iload_n dX11_keep_13 rfl ?_
    refine gj_sp 182 dX11_keep_14 (by decide) ?_
    refine gj_icmp_geN (tgt := 46) (by omega) (by omega) dX11_keep_17 rfl (fun zq0 => ?_) (fun zq0 => ?_)
    rotate_left
    · exfalso; omega
    refine gj_aload_n dX11_keep_46 rfl ?_
    refine gfX11_7 rfl dX11_keep_47 ((mj_up_ne (by decide)).trans H0) rfl ?_
    refine gj_ic (w := 3) dX11_keep_50 ?_
    refine gj_bp 7 dX11_keep_51 (by decide) ?_
    refine gj_iastN dX11_keep_53 (mj_up_eq _ _ _) (by omega) (by omega) ?_
    refine gj_ic (w := 0) dX11_keep_54 ?_
    refine gj_istore_n (L' := [some (.ref 100), some (.int (nI 0))]) dX11_keep_55 (Nat.le_of_ble_eq_true rfl) rfl ?_
    refine gj_cast (L' := [some (.ref 100), some (.int (nI 0))]) (st' := []) (h' := mj_up h 101 (mj_ar 362 (sp_kc (mj_un (sp_ks T 182) 3 7) 336 0))) rfl rfl (by rw [sp_kc_0, mj_up_up]) ?_
    refine gj_loop (fun j => [some (.ref 100), some (.int (nI j))]) (fun j => mj_up h 101 (mj_ar 362 (sp_kc (mj_un (sp_ks T 182) 3 7) 336 j))) 26 ?_ (fun j hj ih => ?_) 0 (by omega)
    · show gj _ _ _ _ _ _ [some (.ref 100), some (.int (nI 26))] _ _
      refine gj_iload_n dX11_keep_56 rfl ?_
      refine gj_bp 26 dX11_keep_57 (by decide) ?_
      refine gj_icmp_geN (tgt := 96) (by omega) (by omega) dX11_keep_59 rfl (fun zq0 => ?_) (fun zq0 => ?_)
      rotate_left
      · exfalso; omega
      have hx3 : sp_kc (mj_un (sp_ks T 182) 3 7) 336 26 3 = 7 := if_neg (by omega)
      refine gj_aload_n dX11_keep_96 rfl ?_
      refine gfX11_7 rfl dX11_keep_97 ((mj_up_ne (by decide)).trans H0) rfl ?_
      refine gj_ic (w := 3) dX11_keep_100 ?_
      refine gj_dup2 dX11_keep_101 rfl rfl ?_
      refine gj_ialdN dX11_keep_102 (mj_up_eq _ _ _) (by omega) (by omega) ?_
      refine gj_ic (w := 1) dX11_keep_103 ?_
      refine gj_iaddN  dX11_keep_104 ?_
      refine gj_iastN dX11_keep_105 (mj_up_eq _ _ _) (by omega) (by omega) ?_
      exact gj_vr rfl dX11_keep_106 (by rw [mj_up_up, hx3])
    show gj _ _ _ _ _ _ [some (.ref 100), some (.int (nI j))] _ _
    refine gj_iload_n dX11_keep_56 rfl ?_
    refine gj_bp 26 dX11_keep_57 (by decide) ?_
    refine gj_icmp_geN (tgt := 96) (by omega) (by omega) dX11_keep_59 rfl (fun zq3 => ?_) (fun zq3 => ?_)
    · exfalso; omega
    have hx1 : sp_kc (mj_un (sp_ks T 182) 3 7) 336 j 3 = 7 := if_neg (by omega)
    refine gj_aload_n dX11_keep_62 rfl ?_
    refine gfX11_7 rfl dX11_keep_63 ((mj_up_ne (by decide)).trans H0) rfl ?_
    refine gj_sp 154 dX11_keep_66 (by decide) ?_
    refine gj_bp 26 dX11_keep_69 (by decide) ?_
    refine gj_aload_n dX11_keep_71 rfl ?_
    refine gfX11_7 rfl dX11_keep_72 ((mj_up_ne (by decide)).trans H0) rfl ?_
    refine gj_ic (w := 3) dX11_keep_75 ?_
    refine gj_ialdN dX11_keep_76 (mj_up_eq _ _ _) (by omega) (by omega) ?_
    refine gj_imulN  dX11_keep_77 ?_
    refine gj_iaddN  dX11_keep_78 ?_
    refine gj_iload_n dX11_keep_79 rfl ?_
    refine gj_iaddN  dX11_keep_80 ?_
    refine gj_aload_n dX11_keep_81 rfl ?_
    refine gfX11_7 rfl dX11_keep_82 ((mj_up_ne (by decide)).trans H0) rfl ?_
    refine gj_ic (w := 4) dX11_keep_85 ?_
    refine gj_iload_n dX11_keep_86 rfl ?_
    refine gj_iaddN  dX11_keep_87 ?_
    refine gj_ialdN dX11_keep_88 (mj_up_eq _ _ _) (by omega) (by omega) ?_
    refine gj_iastN dX11_keep_89 (mj_up_eq _ _ _) (by omega) (by omega) ?_
    refine gj_iincN (L' := [some (.ref 100), some (.int (nI (j + 1)))]) dX11_keep_90 rfl (Nat.le_of_ble_eq_true rfl) rfl ?_
    refine gj_goto (tgt := 56) dX11_keep_93 rfl ?_
    exact gj_cast rfl rfl (by rw [mj_up_up, hx1, show 154 + 26 * 7 + j = 336 + j by omega, sp_kc_s (by omega)]) ih
  show gj _ _ _ _ _ _ [some (.ref 100), some (.int (nI j))] _ _
  refine gj_iload_n dX11_keep_13 rfl ?_
  refine gj_sp 182 dX11_keep_14 (by decide) ?_
  refine gj_icmp_geN (tgt := 46) (by omega) (by omega) dX11_keep_17 rfl (fun zq4 => ?_) (fun zq4 => ?_)
  · exfalso; omega
  refine gj_aload_n dX11_keep_20 rfl ?_
  refine gfX11_7 rfl dX11_keep_21 ((mj_up_ne (by decide)).trans H0) rfl ?_
  refine gj_sp 154 dX11_keep_24 (by decide) ?_
  refine gj_iload_n dX11_keep_27 rfl ?_
  refine gj_iaddN  dX11_keep_28 ?_
  refine gj_aload_n dX11_keep_29 rfl ?_
  refine gfX11_7 rfl dX11_keep_30 ((mj_up_ne (by decide)).trans H0) rfl ?_
  refine gj_sp 180 dX11_keep_33 (by decide) ?_
  refine gj_iload_n dX11_keep_36 rfl ?_
  refine gj_iaddN  dX11_keep_37 ?_
  refine gj_ialdN dX11_keep_38 (mj_up_eq _ _ _) (by omega) (by omega) ?_
  refine gj_iastN dX11_keep_39 (mj_up_eq _ _ _) (by omega) (by omega) ?_
  refine gj_iincN (L' := [some (.ref 100), some (.int (nI (j + 1)))]) dX11_keep_40 rfl (Nat.le_of_ble_eq_true rfl) rfl ?_
  refine gj_goto (tgt := 13) dX11_keep_43 rfl ?_
  exact gj_cast rfl rfl (by rw [mj_up_up, sp_ks_s]) ih
theorem ev_X11_keep {E : mj_E} {h : mj_H} {a0 a1 y2 y3 y4 y5 y6 : Nat} (H0 : h 100 = some (mj_mo a0 a1 y2 y3 y4 y5 y6)) {T : Nat → Nat} (HT : h 101 = some (mj_ar 362 T)) (bT : mj_Tb T) : mj_Ev E iX11_keep [.ref 100] h (mj_R none (mj_up h 101 (mj_ar 362 (sp_kp T)))) := by
  have hb := bT.2.2.2.1
  by_cases q : T 3 < 8
  · rw [show sp_kp T = _ from if_pos q]; exact ev_X11_keep_a H0 HT bT q
  · rw [show sp_kp T = _ from if_neg q]; exact ev_X11_keep_b H0 HT bT (by omega)
set_option maxHeartbeats 1000000 in
set_option maxRecDepth 10000 in
theorem ev_X11_allIce {E : mj_E} {h : mj_H} {a0 a1 y2 y3 y4 y5 y6 : Nat} (H0 : h 100 = some (mj_mo a0 a1 y2 y3 y4 y5 y6)) {T : Nat → Nat} (HT : h 101 = some (mj_ar 362 T))  : mj_Ev E iX11_allIce [.ref 100] h (mj_R (some (.int (nI (sp_sum (fun q => T (4 + q)) 25)))) h) := by
  refine mj_Ev.of (L0 := [some (.ref 100), none, none]) pnRX11 (Nat.le_of_ble_eq_true rfl) rfl ?_
  refine gj_ic (w := 0) dX11_allIce_0 ?_
  refine gj_istore_n (L' := [some (.ref 100), some (.int (nI 0)), none]) dX11_allIce_1 (Nat.le_of_ble_eq_true rfl) rfl ?_
  refine gj_ic (w := 0) dX11_allIce_2 ?_
  refine gj_istore_n (L' := [some (.ref 100), some (.int (nI 0)), some (.int (nI 0))]) dX11_allIce_3 (Nat.le_of_ble_eq_true rfl) rfl ?_
  refine gj_cast (L' := [some (.ref 100), some (.int (nI (sp_sum (fun q => T (4 + q)) 0))), some (.int (nI 0))]) (st' := []) (h' := h) rfl rfl rfl ?_
  refine gj_loop (fun j => [some (.ref 100), some (.int (nI (sp_sum (fun q => T (4 + q)) j))), some (.int (nI j))]) (fun j => h) 25 ?_ (fun j hj ih => ?_) 0 (by omega)
  · show gj _ _ _ _ _ _ [some (.ref 100), some (.int (nI (sp_sum (fun q => T (4 + q)) 25))), some (.int (nI 25))] _ _
    refine gj_iload_n dX11_allIce_4 rfl ?_
    refine gj_bp 25 dX11_allIce_5 (by decide) ?_
    refine gj_icmp_geN (tgt := 27) (by omega) (by omega) dX11_allIce_7 rfl (fun zq0 => ?_) (fun zq0 => ?_)
    rotate_left
    · exfalso; omega
    refine gj_iload_n dX11_allIce_27 rfl ?_
    exact gj_ir rfl dX11_allIce_28 rfl rfl rfl
  show gj _ _ _ _ _ _ [some (.ref 100), some (.int (nI (sp_sum (fun q => T (4 + q)) j))), some (.int (nI j))] _ _
  refine gj_iload_n dX11_allIce_4 rfl ?_
  refine gj_bp 25 dX11_allIce_5 (by decide) ?_
  refine gj_icmp_geN (tgt := 27) (by omega) (by omega) dX11_allIce_7 rfl (fun zq1 => ?_) (fun zq1 => ?_)
  · exfalso; omega
  refine gj_iload_n dX11_allIce_10 rfl ?_
  refine gj_aload_n dX11_allIce_11 rfl ?_
  refine gfX11_7 rfl dX11_allIce_12 H0 rfl ?_
  refine gj_ic (w := 4) dX11_allIce_15 ?_
  refine gj_iload_n dX11_allIce_16 rfl ?_
  refine gj_iaddN  dX11_allIce_17 ?_
  refine gj_ialdN dX11_allIce_18 HT (by omega) (by omega) ?_
  refine gj_iaddN  dX11_allIce_19 ?_
  refine gj_istore_n (L' := [some (.ref 100), some (.int (nI ((sp_sum (fun q => T (4 + q)) j) + (T (4 + j))))), some (.int (nI j))]) dX11_allIce_20 (Nat.le_of_ble_eq_true rfl) rfl ?_
  refine gj_iincN (L' := [some (.ref 100), some (.int (nI ((sp_sum (fun q => T (4 + q)) j) + (T (4 + j))))), some (.int (nI (j + 1)))]) dX11_allIce_21 rfl (Nat.le_of_ble_eq_true rfl) rfl ?_
  refine gj_goto (tgt := 4) dX11_allIce_24 rfl ?_
  exact ih
/-- a row of all that is told, as at first: ice i of each cell; what is behind the undone stays -/
def sp_beg (T : Nat → Nat) (i : Nat) : Nat → Nat := fun k => if 4 ≤ k ∧ k < 29 then i else if k < 154 then 0 else T k
theorem sp_beg_s {T : Nat → Nat} {i j : Nat} (hj : j < 25) : mj_un (fun k => if 4 ≤ k ∧ k < 4 + j then i else if k < 154 then 0 else T k) (4 + j) i = fun k => if 4 ≤ k ∧ k < 4 + (j + 1) then i else if k < 154 then 0 else T k := by
  funext k
  unfold mj_un
  by_cases q : k = 4 + j
  · subst q; rw [if_pos rfl, if_pos (by omega)]
  · rw [if_neg q]
    dsimp only
    by_cases z : 4 ≤ k ∧ k < 4 + j
    · rw [if_pos z, if_pos (by omega)]
    · rw [if_neg z, if_neg (show ¬ (4 ≤ k ∧ k < 4 + (j + 1)) by omega)]
set_option maxHeartbeats 1000000 in
set_option maxRecDepth 10000 in
theorem ev_X11_begin {E : mj_E} {h : mj_H} {t N i : Nat} {T : Nat → Nat} (Ht : h t = some (mj_ar N T)) (hN : 154 ≤ N) (hN2 : N < 2 ^ 31) : mj_Ev E iX11_begin [.ref t, .int (nI i)] h (mj_R none (mj_up h t (mj_ar N (sp_beg T i)))) := by
  refine mj_Ev.of (L0 := [some (.ref t), some (.int (nI i)), none]) pnRX11 (Nat.le_of_ble_eq_true rfl) rfl ?_
  refine gj_ic (w := 0) dX11_begin_0 ?_
  refine gj_istore_n (L' := [some (.ref t), some (.int (nI i)), some (.int (nI 0))]) dX11_begin_1 (Nat.le_of_ble_eq_true rfl) rfl ?_
  refine gj_cast (L' := [some (.ref t), some (.int (nI i)), some (.int (nI 0))]) (st' := []) (h' := mj_up h t (mj_ar N (mj_mix (fun _ => 0) T 0))) rfl rfl (by rw [mj_mix_0, mj_up_self Ht]) ?_
  refine gj_loop (fun j => [some (.ref t), some (.int (nI i)), some (.int (nI j))]) (fun j => mj_up h t (mj_ar N (mj_mix (fun _ => 0) T j))) 154 ?_ (fun j hj ih => ?_) 0 (by omega)
  · show gj _ _ _ _ _ _ [some (.ref t), some (.int (nI i)), some (.int (nI 154))] _ _
    refine gj_iload_n dX11_begin_2 rfl ?_
    refine gj_sp 154 dX11_begin_3 (by decide) ?_
    refine gj_icmp_geN (tgt := 19) (by omega) (by omega) dX11_begin_6 rfl (fun zq0 => ?_) (fun zq0 => ?_)
    rotate_left
    · exfalso; omega
    refine gj_ic (w := 0) dX11_begin_19 ?_
    refine gj_istore_n (L' := [some (.ref t), some (.int (nI i)), some (.int (nI 0))]) dX11_begin_20 (Nat.le_of_ble_eq_true rfl) rfl ?_
    refine gj_cast (L' := [some (.ref t), some (.int (nI i)), some (.int (nI 0))]) (st' := []) (h' := mj_up h t (mj_ar N (fun k => if 4 ≤ k ∧ k < 4 + 0 then i else if k < 154 then 0 else T k))) rfl rfl (congrArg (fun K => mj_up h t (mj_ar N K)) (by funext k; unfold mj_mix; rw [if_neg (show ¬ (4 ≤ k ∧ k < 4 + 0) by omega)])) ?_
    refine gj_loop (fun j => [some (.ref t), some (.int (nI i)), some (.int (nI j))]) (fun j => mj_up h t (mj_ar N (fun k => if 4 ≤ k ∧ k < 4 + j then i else if k < 154 then 0 else T k))) 25 ?_ (fun j hj ih => ?_) 0 (by omega)
    · show gj _ _ _ _ _ _ [some (.ref t), some (.int (nI i)), some (.int (nI 25))] _ _
      refine gj_iload_n dX11_begin_21 rfl ?_
      refine gj_bp 25 dX11_begin_22 (by decide) ?_
      refine gj_icmp_geN (tgt := 39) (by omega) (by omega) dX11_begin_24 rfl (fun zq0 => ?_) (fun zq0 => ?_)
      rotate_left
      · exfalso; omega
      exact gj_vr rfl dX11_begin_39 rfl
    show gj _ _ _ _ _ _ [some (.ref t), some (.int (nI i)), some (.int (nI j))] _ _
    refine gj_iload_n dX11_begin_21 rfl ?_
    refine gj_bp 25 dX11_begin_22 (by decide) ?_
    refine gj_icmp_geN (tgt := 39) (by omega) (by omega) dX11_begin_24 rfl (fun zq1 => ?_) (fun zq1 => ?_)
    · exfalso; omega
    refine gj_aload_n dX11_begin_27 rfl ?_
    refine gj_ic (w := 4) dX11_begin_28 ?_
    refine gj_iload_n dX11_begin_29 rfl ?_
    refine gj_iaddN  dX11_begin_30 ?_
    refine gj_iload_n dX11_begin_31 rfl ?_
    refine gj_iastN dX11_begin_32 (mj_up_eq _ _ _) (by omega) (by omega) ?_
    refine gj_iincN (L' := [some (.ref t), some (.int (nI i)), some (.int (nI (j + 1)))]) dX11_begin_33 rfl (Nat.le_of_ble_eq_true rfl) rfl ?_
    refine gj_goto (tgt := 21) dX11_begin_36 rfl ?_
    exact gj_cast rfl rfl (by rw [mj_up_up, sp_beg_s hj]) ih
  show gj _ _ _ _ _ _ [some (.ref t), some (.int (nI i)), some (.int (nI j))] _ _
  refine gj_iload_n dX11_begin_2 rfl ?_
  refine gj_sp 154 dX11_begin_3 (by decide) ?_
  refine gj_icmp_geN (tgt := 19) (by omega) (by omega) dX11_begin_6 rfl (fun zq2 => ?_) (fun zq2 => ?_)
  · exfalso; omega
  refine gj_aload_n dX11_begin_9 rfl ?_
  refine gj_iload_n dX11_begin_10 rfl ?_
  refine gj_ic (w := 0) dX11_begin_11 ?_
  refine gj_iastN dX11_begin_12 (mj_up_eq _ _ _) (by omega) (by omega) ?_
  refine gj_iincN (L' := [some (.ref t), some (.int (nI i)), some (.int (nI (j + 1)))]) dX11_begin_13 rfl (Nat.le_of_ble_eq_true rfl) rfl ?_
  refine gj_goto (tgt := 2) dX11_begin_16 rfl ?_
  exact gj_cast rfl rfl (by rw [mj_up_up, mj_mix_un rfl]) ih
set_option maxHeartbeats 1000000 in
set_option maxRecDepth 10000 in
theorem ev_X11_lake {E : mj_E} {h : mj_H} {a0 a1 y2 y3 y4 y5 y6 : Nat} (H0 : h 100 = some (mj_mo a0 a1 y2 y3 y4 y5 y6)) {T : Nat → Nat} (HT : h 101 = some (mj_ar 362 T)) {i : Nat} (h0 : i ≤ 99) : mj_Ev E iX11_lake [.ref 100, .int (nI i)] h (mj_R (some (.int (nI (T 0)))) (mj_up h 101 (mj_ar 362 (sp_beg T i)))) := by
  refine mj_Ev.of (L0 := [some (.ref 100), some (.int (nI i)), none]) pnRX11 (Nat.le_of_ble_eq_true rfl) rfl ?_
  refine gj_iload_n dX11_lake_0 rfl ?_
  refine gj_S1 lkX11_62 (ev_X11_isIce_t (by omega) (by omega)) dX11_lake_1 rfl rfl rfl rfl rfl ?_
  refine gj_if_neN (tgt := 14) (by omega) dX11_lake_4 rfl (fun zq0 => ?_) (fun zq0 => ?_)
  rotate_left
  · exfalso; revert zq0; decide
  refine gj_aload_n dX11_lake_14 rfl ?_
  refine gj_V1 lkX11_46 H0 rfl rfl (ev_X11_many H0 HT) dX11_lake_15 rfl rfl rfl rfl rfl ?_
  refine gj_istore_n (L' := [some (.ref 100), some (.int (nI i)), some (.int (nI (T 0)))]) dX11_lake_18 (Nat.le_of_ble_eq_true rfl) rfl ?_
  refine gj_aload_n dX11_lake_19 rfl ?_
  refine gfX11_7 rfl dX11_lake_20 H0 rfl ?_
  refine gj_iload_n dX11_lake_23 rfl ?_
  refine gj_S0 lkX11_42 (ev_X11_begin HT (by omega) (by omega)) dX11_lake_24 rfl rfl rfl rfl rfl ?_
  refine gj_iload_n dX11_lake_27 rfl ?_
  exact gj_ir rfl dX11_lake_28 rfl rfl rfl
set_option maxHeartbeats 1000000 in
set_option maxRecDepth 10000 in
theorem ev_X11_cell {E : mj_E} {h : mj_H} {a0 a1 y2 y3 y4 y5 y6 : Nat} (H0 : h 100 = some (mj_mo a0 a1 y2 y3 y4 y5 y6)) {T : Nat → Nat} (HT : h 101 = some (mj_ar 362 T)) (bT : mj_Tb T) {c k : Nat} (h0 : c < 25) (h1 : k ≤ 5) : mj_Ev E iX11_cell [.ref 100, .int (nI c), .int (nI k)] h (mj_R (some (.int (nI (T (30 + c))))) (mj_up (mj_up h 101 (mj_ar 362 (mj_un T (30 + c) k))) 101 (mj_ar 362 (mj_un (mj_un T (30 + c) k) 3 0)))) := by
  refine mj_Ev.of (L0 := [some (.ref 100), some (.int (nI c)), some (.int (nI k)), none]) pnRX11 (Nat.le_of_ble_eq_true rfl) rfl ?_
  refine gj_iload_n dX11_cell_0 rfl ?_
  refine gj_S1 lkX11_70 (ev_X11_isCell_t (by omega) (by omega)) dX11_cell_1 rfl rfl rfl rfl rfl ?_
  refine gj_if_eqN (tgt := 19) (by omega) dX11_cell_4 rfl (fun zq0 => ?_) (fun zq0 => ?_)
  · exfalso; revert zq0; decide
  refine gj_iload_n dX11_cell_7 rfl ?_
  refine gj_i2lN (by omega) dX11_cell_8 ?_
  refine gj_lconst (v := lN 0) dX11_cell_9 rfl ?_
  refine gj_ldc2 (v := lN 5) w_1067 dX11_cell_10 ?_
  refine gj_S1 lkX11_50 (ev_X11_in_t (by omega) (by omega) (by omega)) dX11_cell_13 rfl rfl rfl rfl rfl ?_
  refine gj_if_neN (tgt := 26) (by omega) dX11_cell_16 rfl (fun zq0 => ?_) (fun zq0 => ?_)
  rotate_left
  · exfalso; revert zq0; decide
  refine gj_aload_n dX11_cell_26 rfl ?_
  refine gfX11_7 rfl dX11_cell_27 H0 rfl ?_
  refine gj_bp 30 dX11_cell_30 (by decide) ?_
  refine gj_iload_n dX11_cell_32 rfl ?_
  refine gj_iaddN  dX11_cell_33 ?_
  refine gj_ialdN dX11_cell_34 HT (by omega) (by omega) ?_
  have hb1 := bT.2.2.2.2.2.2.1 c (by omega)
  refine gj_istore_n (L' := [some (.ref 100), some (.int (nI c)), some (.int (nI k)), some (.int (nI (T (30 + c))))]) dX11_cell_35 (Nat.le_of_ble_eq_true rfl) rfl ?_
  refine gj_aload_n dX11_cell_36 rfl ?_
  refine gfX11_7 rfl dX11_cell_37 H0 rfl ?_
  refine gj_bp 30 dX11_cell_40 (by decide) ?_
  refine gj_iload_n dX11_cell_42 rfl ?_
  refine gj_iaddN  dX11_cell_43 ?_
  refine gj_iload_n dX11_cell_44 rfl ?_
  refine gj_iastN dX11_cell_45 HT (by omega) (by omega) ?_
  refine gj_aload_n dX11_cell_46 rfl ?_
  refine gfX11_7 rfl dX11_cell_47 ((mj_up_ne (by decide)).trans H0) rfl ?_
  refine gj_ic (w := 3) dX11_cell_50 ?_
  refine gj_ic (w := 0) dX11_cell_51 ?_
  refine gj_iastN dX11_cell_52 (mj_up_eq _ _ _) (by omega) (by omega) ?_
  refine gj_iload_n dX11_cell_53 rfl ?_
  exact gj_ir rfl dX11_cell_54 rfl rfl rfl
set_option maxHeartbeats 1000000 in
set_option maxRecDepth 10000 in
theorem ev_X11_weather {E : mj_E} {h : mj_H} {a0 a1 y2 y3 y4 y5 y6 : Nat} (H0 : h 100 = some (mj_mo a0 a1 y2 y3 y4 y5 y6)) {T : Nat → Nat} (HT : h 101 = some (mj_ar 362 T)) (bT : mj_Tb T) {d f s : Nat} (h0 : d < 7) (h1 : f ≤ 9) (h2 : s ≤ 9) : mj_Ev E iX11_weather [.ref 100, .int (nI d), .int (nI f), .int (nI s)] h (mj_R (some (.int (nI ((10 * (T (55 + d))) + (T (62 + d)))))) (mj_up (mj_up (mj_up h 101 (mj_ar 362 (mj_un T (55 + d) f))) 101 (mj_ar 362 (mj_un (mj_un T (55 + d) f) (62 + d) s))) 101 (mj_ar 362 (mj_un (mj_un (mj_un T (55 + d) f) (62 + d) s) 3 0)))) := by
  refine mj_Ev.of (L0 := [some (.ref 100), some (.int (nI d)), some (.int (nI f)), some (.int (nI s)), none]) pnRX11 (Nat.le_of_ble_eq_true rfl) rfl ?_
  refine gj_iload_n dX11_weather_0 rfl ?_
  refine gj_i2lN (by omega) dX11_weather_1 ?_
  refine gj_lconst (v := lN 0) dX11_weather_2 rfl ?_
  refine gj_ldc2 (v := lN 6) w_1072 dX11_weather_3 ?_
  refine gj_S1 lkX11_50 (ev_X11_in_t (by omega) (by omega) (by omega)) dX11_weather_6 rfl rfl rfl rfl rfl ?_
  refine gj_if_eqN (tgt := 26) (by omega) dX11_weather_9 rfl (fun zq0 => ?_) (fun zq0 => ?_)
  · exfalso; revert zq0; decide
  refine gj_iload_n dX11_weather_12 rfl ?_
  refine gj_S1 lkX11_77 (ev_X11_isWeather_t (by omega) (by omega)) dX11_weather_13 rfl rfl rfl rfl rfl ?_
  refine gj_if_eqN (tgt := 26) (by omega) dX11_weather_16 rfl (fun zq0 => ?_) (fun zq0 => ?_)
  · exfalso; revert zq0; decide
  refine gj_iload_n dX11_weather_19 rfl ?_
  refine gj_S1 lkX11_77 (ev_X11_isWeather_t (by omega) (by omega)) dX11_weather_20 rfl rfl rfl rfl rfl ?_
  refine gj_if_neN (tgt := 33) (by omega) dX11_weather_23 rfl (fun zq0 => ?_) (fun zq0 => ?_)
  rotate_left
  · exfalso; revert zq0; decide
  refine gj_bp 10 dX11_weather_33 (by decide) ?_
  refine gj_aload_n dX11_weather_35 rfl ?_
  refine gfX11_7 rfl dX11_weather_36 H0 rfl ?_
  refine gj_bp 55 dX11_weather_39 (by decide) ?_
  refine gj_iload_n dX11_weather_41 rfl ?_
  refine gj_iaddN  dX11_weather_42 ?_
  refine gj_ialdN dX11_weather_43 HT (by omega) (by omega) ?_
  have hb1 := bT.2.2.2.2.2.2.2.1 d (by omega)
  refine gj_imulN  dX11_weather_44 ?_
  refine gj_aload_n dX11_weather_45 rfl ?_
  refine gfX11_7 rfl dX11_weather_46 H0 rfl ?_
  refine gj_bp 62 dX11_weather_49 (by decide) ?_
  refine gj_iload_n dX11_weather_51 rfl ?_
  refine gj_iaddN  dX11_weather_52 ?_
  refine gj_ialdN dX11_weather_53 HT (by omega) (by omega) ?_
  have hb2 := bT.2.2.2.2.2.2.2.2.1 d (by omega)
  refine gj_iaddN  dX11_weather_54 ?_
  refine gj_istore (L' := [some (.ref 100), some (.int (nI d)), some (.int (nI f)), some (.int (nI s)), some (.int (nI ((10 * (T (55 + d))) + (T (62 + d)))))]) dX11_weather_55 (Nat.le_of_ble_eq_true rfl) rfl ?_
  refine gj_aload_n dX11_weather_57 rfl ?_
  refine gfX11_7 rfl dX11_weather_58 H0 rfl ?_
  refine gj_bp 55 dX11_weather_61 (by decide) ?_
  refine gj_iload_n dX11_weather_63 rfl ?_
  refine gj_iaddN  dX11_weather_64 ?_
  refine gj_iload_n dX11_weather_65 rfl ?_
  refine gj_iastN dX11_weather_66 HT (by omega) (by omega) ?_
  refine gj_aload_n dX11_weather_67 rfl ?_
  refine gfX11_7 rfl dX11_weather_68 ((mj_up_ne (by decide)).trans H0) rfl ?_
  refine gj_bp 62 dX11_weather_71 (by decide) ?_
  refine gj_iload_n dX11_weather_73 rfl ?_
  refine gj_iaddN  dX11_weather_74 ?_
  refine gj_iload_n dX11_weather_75 rfl ?_
  refine gj_iastN dX11_weather_76 (mj_up_eq _ _ _) (by omega) (by omega) ?_
  refine gj_aload_n dX11_weather_77 rfl ?_
  refine gfX11_7 rfl dX11_weather_78 ((mj_up_ne (by decide)).trans ((mj_up_ne (by decide)).trans H0)) rfl ?_
  refine gj_ic (w := 3) dX11_weather_81 ?_
  refine gj_ic (w := 0) dX11_weather_82 ?_
  refine gj_iastN dX11_weather_83 (mj_up_eq _ _ _) (by omega) (by omega) ?_
  refine gj_iload dX11_weather_84 rfl ?_
  exact gj_ir rfl dX11_weather_86 rfl rfl rfl
set_option maxHeartbeats 1000000 in
set_option maxRecDepth 10000 in
theorem ev_X11_ward {E : mj_E} {h : mj_H} {a0 a1 y2 y3 y4 y5 y6 : Nat} (H0 : h 100 = some (mj_mo a0 a1 y2 y3 y4 y5 y6)) {T : Nat → Nat} (HT : h 101 = some (mj_ar 362 T)) (bT : mj_Tb T) {w x : Nat} (h0 : w < 4) (h1 : x ≤ 99) : mj_Ev E iX11_ward [.ref 100, .int (nI w), .int (nI x)] h (mj_R (some (.int (nI (T (69 + w))))) (mj_up (mj_up h 101 (mj_ar 362 (mj_un T (69 + w) x))) 101 (mj_ar 362 (mj_un (mj_un T (69 + w) x) 3 0)))) := by
  refine mj_Ev.of (L0 := [some (.ref 100), some (.int (nI w)), some (.int (nI x)), none]) pnRX11 (Nat.le_of_ble_eq_true rfl) rfl ?_
  refine gj_iload_n dX11_ward_0 rfl ?_
  refine gj_i2lN (by omega) dX11_ward_1 ?_
  refine gj_lconst (v := lN 0) dX11_ward_2 rfl ?_
  refine gj_ldc2 (v := lN 3) w_1081 dX11_ward_3 ?_
  refine gj_S1 lkX11_50 (ev_X11_in_t (by omega) (by omega) (by omega)) dX11_ward_6 rfl rfl rfl rfl rfl ?_
  refine gj_if_eqN (tgt := 19) (by omega) dX11_ward_9 rfl (fun zq0 => ?_) (fun zq0 => ?_)
  · exfalso; revert zq0; decide
  refine gj_iload_n dX11_ward_12 rfl ?_
  refine gj_S1 lkX11_62 (ev_X11_isIce_t (by omega) (by omega)) dX11_ward_13 rfl rfl rfl rfl rfl ?_
  refine gj_if_neN (tgt := 26) (by omega) dX11_ward_16 rfl (fun zq0 => ?_) (fun zq0 => ?_)
  rotate_left
  · exfalso; revert zq0; decide
  refine gj_aload_n dX11_ward_26 rfl ?_
  refine gfX11_7 rfl dX11_ward_27 H0 rfl ?_
  refine gj_bp 69 dX11_ward_30 (by decide) ?_
  refine gj_iload_n dX11_ward_32 rfl ?_
  refine gj_iaddN  dX11_ward_33 ?_
  refine gj_ialdN dX11_ward_34 HT (by omega) (by omega) ?_
  have hb1 := bT.2.2.2.2.2.2.2.2.2.1 w (by omega)
  refine gj_istore_n (L' := [some (.ref 100), some (.int (nI w)), some (.int (nI x)), some (.int (nI (T (69 + w))))]) dX11_ward_35 (Nat.le_of_ble_eq_true rfl) rfl ?_
  refine gj_aload_n dX11_ward_36 rfl ?_
  refine gfX11_7 rfl dX11_ward_37 H0 rfl ?_
  refine gj_bp 69 dX11_ward_40 (by decide) ?_
  refine gj_iload_n dX11_ward_42 rfl ?_
  refine gj_iaddN  dX11_ward_43 ?_
  refine gj_iload_n dX11_ward_44 rfl ?_
  refine gj_iastN dX11_ward_45 HT (by omega) (by omega) ?_
  refine gj_aload_n dX11_ward_46 rfl ?_
  refine gfX11_7 rfl dX11_ward_47 ((mj_up_ne (by decide)).trans H0) rfl ?_
  refine gj_ic (w := 3) dX11_ward_50 ?_
  refine gj_ic (w := 0) dX11_ward_51 ?_
  refine gj_iastN dX11_ward_52 (mj_up_eq _ _ _) (by omega) (by omega) ?_
  refine gj_iload_n dX11_ward_53 rfl ?_
  exact gj_ir rfl dX11_ward_54 rfl rfl rfl
set_option maxHeartbeats 1000000 in
set_option maxRecDepth 10000 in
theorem ev_X11_layVoter {E : mj_E} {h : mj_H} {t N k w c : Nat} {T : Nat → Nat} (Ht : h t = some (mj_ar N T)) (hN : 154 ≤ N) (hN2 : N < 2 ^ 31) (hz : T 0 < 7) : mj_Ev E iX11_layVoter [.ref t, .int (nI k), .int (nI w), .int (nI c)] h (mj_R none (mj_up h t (mj_ar N (mj_un (mj_un (mj_un (mj_un T (73 + T 0) k) (80 + T 0) w) (87 + T 0) c) 0 (T 0 + 1))))) := by
  have hx3 : mj_un (mj_un (mj_un T (73 + T 0) k) (80 + T 0) w) (87 + T 0) c 0 = T 0 := by rw [mj_un_ne (by omega), mj_un_ne (by omega), mj_un_ne (by omega)]
  refine mj_Ev.of (L0 := [some (.ref t), some (.int (nI k)), some (.int (nI w)), some (.int (nI c)), none]) pnRX11 (Nat.le_of_ble_eq_true rfl) rfl ?_
  refine gj_aload_n dX11_layVoter_0 rfl ?_
  refine gj_ic (w := 0) dX11_layVoter_1 ?_
  refine gj_ialdN dX11_layVoter_2 Ht (by omega) (by omega) ?_
  refine gj_istore (L' := [some (.ref t), some (.int (nI k)), some (.int (nI w)), some (.int (nI c)), some (.int (nI (T 0)))]) dX11_layVoter_3 (Nat.le_of_ble_eq_true rfl) rfl ?_
  refine gj_aload_n dX11_layVoter_5 rfl ?_
  refine gj_bp 73 dX11_layVoter_6 (by decide) ?_
  refine gj_iload dX11_layVoter_8 rfl ?_
  refine gj_iaddN  dX11_layVoter_10 ?_
  refine gj_iload_n dX11_layVoter_11 rfl ?_
  refine gj_iastN dX11_layVoter_12 Ht (by omega) (by omega) ?_
  refine gj_aload_n dX11_layVoter_13 rfl ?_
  refine gj_bp 80 dX11_layVoter_14 (by decide) ?_
  refine gj_iload dX11_layVoter_16 rfl ?_
  refine gj_iaddN  dX11_layVoter_18 ?_
  refine gj_iload_n dX11_layVoter_19 rfl ?_
  refine gj_iastN dX11_layVoter_20 (mj_up_eq _ _ _) (by omega) (by omega) ?_
  refine gj_aload_n dX11_layVoter_21 rfl ?_
  refine gj_bp 87 dX11_layVoter_22 (by decide) ?_
  refine gj_iload dX11_layVoter_24 rfl ?_
  refine gj_iaddN  dX11_layVoter_26 ?_
  refine gj_iload_n dX11_layVoter_27 rfl ?_
  refine gj_iastN dX11_layVoter_28 (mj_up_eq _ _ _) (by omega) (by omega) ?_
  refine gj_aload_n dX11_layVoter_29 rfl ?_
  refine gj_ic (w := 0) dX11_layVoter_30 ?_
  refine gj_dup2 dX11_layVoter_31 rfl rfl ?_
  refine gj_ialdN dX11_layVoter_32 (mj_up_eq _ _ _) (by omega) (by omega) ?_
  refine gj_ic (w := 1) dX11_layVoter_33 ?_
  refine gj_iaddN  dX11_layVoter_34 ?_
  refine gj_iastN dX11_layVoter_35 (mj_up_eq _ _ _) (by omega) (by omega) ?_
  exact gj_vr rfl dX11_layVoter_36 (by simp only [mj_up_up]; rw [hx3])
