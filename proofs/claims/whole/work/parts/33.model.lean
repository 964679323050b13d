theorem ev_X11_isVoter_x {E : mj_E} {h : mj_H} {a0 a1 y2 y3 y4 y5 y6 : Nat} (H0 : h 100 = some (mj_mo a0 a1 y2 y3 y4 y5 y6)) {T : Nat → Nat} (HT : h 101 = some (mj_ar 362 T)) (bT : mj_Tb T) {v : Int32} : mj_Ev E iX11_isVoter [.ref 100, .int v] h (mj_R (some (.int (mj_b (decide (nI 0 ≤ v ∧ v < nI (T 0)))))) h) := by
  have hb := bT.1
  have e1 : decide (lN 0 ≤ v.toInt64 ∧ v.toInt64 ≤ (nI (T 0) - nI 1).toInt64) = decide (nI 0 ≤ v ∧ v < nI (T 0)) := by
    rw [← mj_vlt hb]
    refine decide_eq_decide.mpr ?_
    rw [Int64.le_iff_toInt_le, Int64.le_iff_toInt_le, Int32.le_iff_toInt_le, Int32.le_iff_toInt_le, Int32.toInt_toInt64, Int32.toInt_toInt64, nI_toInt (by decide), lN_toInt (by decide)]
  refine mj_Ev.of (L0 := [some (.ref 100), some (.int v)]) pnRX11 (Nat.le_of_ble_eq_true rfl) rfl ?_
  refine gj_iload_n dX11_isVoter_0 rfl ?_
  refine gj_i2l (v := v.toInt64) dX11_isVoter_1 rfl ?_
  refine gj_lconst (v := lN 0) dX11_isVoter_2 rfl ?_
  refine gj_aload_n dX11_isVoter_3 rfl ?_
  refine gj_V1 lkX11_46 H0 rfl rfl (ev_X11_many H0 HT) dX11_isVoter_4 rfl rfl rfl rfl rfl ?_
  refine gj_ic (w := 1) dX11_isVoter_7 ?_
  refine gj_isub dX11_isVoter_8 ?_
  refine gj_i2l (v := (nI (T 0) - nI 1).toInt64) dX11_isVoter_9 rfl ?_
  refine gj_S1 lkX11_50 ev_X11_in dX11_isVoter_10 rfl rfl rfl rfl rfl ?_
  exact gj_zr rfl dX11_isVoter_13 rfl (congrArg mj_b e1) rfl
theorem ev_X11_isVoter_t {E : mj_E} {h : mj_H} {a0 a1 y2 y3 y4 y5 y6 : Nat} (H0 : h 100 = some (mj_mo a0 a1 y2 y3 y4 y5 y6)) {T : Nat → Nat} (HT : h 101 = some (mj_ar 362 T)) (bT : mj_Tb T) {v : Nat} (hv : v < T 0) : mj_Ev E iX11_isVoter [.ref 100, .int (nI v)] h (mj_R (some (.int (nI 1))) h) := by
  have := ev_X11_isVoter_x (E := E) H0 HT bT (v := nI v)
  have hb := bT.1
  rw [decide_eq_true ⟨mj_leN (Nat.zero_le v) (by omega), (nI_ltI (by omega) (by omega)).mpr hv⟩] at this
  exact this
set_option maxHeartbeats 1000000 in
set_option maxRecDepth 10000 in
theorem ev_X11_voter {E : mj_E} {h : mj_H} {a0 a1 y2 y3 y4 y5 y6 : Nat} (H0 : h 100 = some (mj_mo a0 a1 y2 y3 y4 y5 y6)) {T : Nat → Nat} (HT : h 101 = some (mj_ar 362 T)) (bT : mj_Tb T) {k w c : Nat} (h0 : k ≤ 5) (h1 : 1 ≤ w) (h2 : w ≤ 99) (h3 : c < 25) (h4 : T 0 < 7) : mj_Ev E iX11_voter [.ref 100, .int (nI k), .int (nI w), .int (nI c)] h (mj_R (some (.int (nI ((T 0 + 1) - 1)))) (mj_up (mj_up h 101 (mj_ar 362 (mj_un (mj_un (mj_un (mj_un T (73 + T 0) k) (80 + T 0) w) (87 + T 0) c) 0 (T 0 + 1)))) 101 (mj_ar 362 (mj_un (mj_un (mj_un (mj_un (mj_un T (73 + T 0) k) (80 + T 0) w) (87 + T 0) c) 0 (T 0 + 1)) 3 0)))) := by
  refine mj_Ev.of (L0 := [some (.ref 100), some (.int (nI k)), some (.int (nI w)), some (.int (nI c))]) pnRX11 (Nat.le_of_ble_eq_true rfl) rfl ?_
  refine gj_iload_n dX11_voter_0 rfl ?_
  refine gj_i2lN (by omega) dX11_voter_1 ?_
  refine gj_lconst (v := lN 0) dX11_voter_2 rfl ?_
  refine gj_ldc2 (v := lN 5) w_1067 dX11_voter_3 ?_
  refine gj_S1 lkX11_50 (ev_X11_in_t (by omega) (by omega) (by omega)) dX11_voter_6 rfl rfl rfl rfl rfl ?_
  refine gj_if_eqN (tgt := 31) (by omega) dX11_voter_9 rfl (fun zq0 => ?_) (fun zq0 => ?_)
  · exfalso; revert zq0; decide
  refine gj_iload_n dX11_voter_12 rfl ?_
  refine gj_i2lN (by omega) dX11_voter_13 ?_
  refine gj_lconst (v := lN 1) dX11_voter_14 rfl ?_
  refine gj_ldc2 (v := lN 99) w_1047 dX11_voter_15 ?_
  refine gj_S1 lkX11_50 (ev_X11_in_t (by omega) (by omega) (by omega)) dX11_voter_18 rfl rfl rfl rfl rfl ?_
  refine gj_if_eqN (tgt := 31) (by omega) dX11_voter_21 rfl (fun zq0 => ?_) (fun zq0 => ?_)
  · exfalso; revert zq0; decide
  refine gj_iload_n dX11_voter_24 rfl ?_
  refine gj_S1 lkX11_70 (ev_X11_isCell_t (by omega) (by omega)) dX11_voter_25 rfl rfl rfl rfl rfl ?_
  refine gj_if_neN (tgt := 38) (by omega) dX11_voter_28 rfl (fun zq0 => ?_) (fun zq0 => ?_)
  rotate_left
  · exfalso; revert zq0; decide
  refine gj_aload_n dX11_voter_38 rfl ?_
  refine gj_V1 lkX11_46 H0 rfl rfl (ev_X11_many H0 HT) dX11_voter_39 rfl rfl rfl rfl rfl ?_
  refine gj_bp 7 dX11_voter_42 (by decide) ?_
  refine gj_icmp_neN (tgt := 52) (by omega) (by omega) dX11_voter_44 rfl (fun zq1 => ?_) (fun zq1 => ?_)
  rotate_left
  · exfalso; omega
  refine gj_aload_n dX11_voter_52 rfl ?_
  refine gfX11_7 rfl dX11_voter_53 H0 rfl ?_
  refine gj_iload_n dX11_voter_56 rfl ?_
  refine gj_iload_n dX11_voter_57 rfl ?_
  refine gj_iload_n dX11_voter_58 rfl ?_
  refine gj_S0 lkX11_85 (ev_X11_layVoter HT (by omega) (by omega) (by omega)) dX11_voter_59 rfl rfl rfl rfl rfl ?_
  refine gj_aload_n dX11_voter_62 rfl ?_
  refine gfX11_7 rfl dX11_voter_63 ((mj_up_ne (by decide)).trans H0) rfl ?_
  refine gj_ic (w := 3) dX11_voter_66 ?_
  refine gj_ic (w := 0) dX11_voter_67 ?_
  refine gj_iastN dX11_voter_68 (mj_up_eq _ _ _) (by omega) (by omega) ?_
  refine gj_aload_n dX11_voter_69 rfl ?_
  refine gj_V1 lkX11_46 ((mj_up_ne (by decide)).trans ((mj_up_ne (by decide)).trans H0)) rfl rfl (ev_X11_many ((mj_up_ne (by decide)).trans ((mj_up_ne (by decide)).trans H0)) (mj_up_eq _ _ _)) dX11_voter_70 rfl rfl rfl rfl rfl ?_
  refine gj_topN (by rw [mj_un_ne (by decide), mj_un_eq]) ?_
  refine gj_ic (w := 1) dX11_voter_73 ?_
  refine gj_isubN (by omega) dX11_voter_74 ?_
  exact gj_ir rfl dX11_voter_75 rfl rfl rfl
set_option maxHeartbeats 1000000 in
set_option maxRecDepth 10000 in
theorem ev_X11_voter_full {E : mj_E} {h : mj_H} {a0 a1 y2 y3 y4 y5 y6 : Nat} (H0 : h 100 = some (mj_mo a0 a1 y2 y3 y4 y5 y6)) {T : Nat → Nat} (HT : h 101 = some (mj_ar 362 T)) {R : Nat → Nat} (HR : h 104 = some (mj_ar 3 R)) (bT : mj_Tb T) {k w c : Nat} (h0 : k ≤ 5) (h1 : 1 ≤ w) (h2 : w ≤ 99) (h3 : c < 25) (h4 : T 0 = 7) : mj_Ev E iX11_voter [.ref 100, .int (nI k), .int (nI w), .int (nI c)] h (mj_R (some (.int (-4))) (mj_up h 104 (mj_ar 3 (mj_un R 2 ((R 2) + 1))))) := by
  refine mj_Ev.of (L0 := [some (.ref 100), some (.int (nI k)), some (.int (nI w)), some (.int (nI c))]) pnRX11 (Nat.le_of_ble_eq_true rfl) rfl ?_
  refine gj_iload_n dX11_voter_0 rfl ?_
  refine gj_i2lN (by omega) dX11_voter_1 ?_
  refine gj_lconst (v := lN 0) dX11_voter_2 rfl ?_
  refine gj_ldc2 (v := lN 5) w_1067 dX11_voter_3 ?_
  refine gj_S1 lkX11_50 (ev_X11_in_t (by omega) (by omega) (by omega)) dX11_voter_6 rfl rfl rfl rfl rfl ?_
  refine gj_if_eqN (tgt := 31) (by omega) dX11_voter_9 rfl (fun zq0 => ?_) (fun zq0 => ?_)
  · exfalso; revert zq0; decide
  refine gj_iload_n dX11_voter_12 rfl ?_
  refine gj_i2lN (by omega) dX11_voter_13 ?_
  refine gj_lconst (v := lN 1) dX11_voter_14 rfl ?_
  refine gj_ldc2 (v := lN 99) w_1047 dX11_voter_15 ?_
  refine gj_S1 lkX11_50 (ev_X11_in_t (by omega) (by omega) (by omega)) dX11_voter_18 rfl rfl rfl rfl rfl ?_
  refine gj_if_eqN (tgt := 31) (by omega) dX11_voter_21 rfl (fun zq0 => ?_) (fun zq0 => ?_)
  · exfalso; revert zq0; decide
  refine gj_iload_n dX11_voter_24 rfl ?_
  refine gj_S1 lkX11_70 (ev_X11_isCell_t (by omega) (by omega)) dX11_voter_25 rfl rfl rfl rfl rfl ?_
  refine gj_if_neN (tgt := 38) (by omega) dX11_voter_28 rfl (fun zq0 => ?_) (fun zq0 => ?_)
  rotate_left
  · exfalso; revert zq0; decide
  refine gj_aload_n dX11_voter_38 rfl ?_
  refine gj_V1 lkX11_46 H0 rfl rfl (ev_X11_many H0 HT) dX11_voter_39 rfl rfl rfl rfl rfl ?_
  refine gj_bp 7 dX11_voter_42 (by decide) ?_
  refine gj_icmp_neN (tgt := 52) (by omega) (by omega) dX11_voter_44 rfl (fun zq1 => ?_) (fun zq1 => ?_)
  · exfalso; omega
  refine gj_aload_n dX11_voter_47 rfl ?_
  refine gj_V1 lkX11_82 H0 rfl rfl (ev_X11_full H0 HR) dX11_voter_48 rfl rfl rfl rfl rfl ?_
  exact gj_ir rfl dX11_voter_51 rfl rfl rfl
set_option maxHeartbeats 1000000 in
set_option maxRecDepth 10000 in
theorem ev_X11_type {E : mj_E} {h : mj_H} {a0 a1 y2 y3 y4 y5 y6 : Nat} (H0 : h 100 = some (mj_mo a0 a1 y2 y3 y4 y5 y6)) {B : Nat → Nat} (HB : h 107 = some (mj_ar 150 B)) {c : Nat} (h0 : c ≤ 127) (h1 : y2 < 150) : mj_Ev E iX11_type [.ref 100, .int (nI c)] h (mj_R (some (.int (nI (y2 + 1)))) (mj_up (mj_up h 107 (mj_ar 150 (mj_un B y2 c))) 100 (.inr (9, [.ref 101, .ref 102, .ref 103, .ref 104, .long (lN a0), .long (lN a1), .ref 105, .ref 106, .ref 107, .int (nI (y2 + 1)), .int (nI y3), .int (nI y4), .int (nI y5), .int (nI y6), .ref 108, .ref 109])))) := by
  refine mj_Ev.of (L0 := [some (.ref 100), some (.int (nI c))]) pnRX11 (Nat.le_of_ble_eq_true rfl) rfl ?_
  refine gj_iload_n dX11_type_0 rfl ?_
  refine gj_i2lN (by omega) dX11_type_1 ?_
  refine gj_lconst (v := lN 0) dX11_type_2 rfl ?_
  refine gj_ldc2 (v := lN 127) w_1352 dX11_type_3 ?_
  refine gj_S1 lkX11_50 (ev_X11_in_t (by omega) (by omega) (by omega)) dX11_type_6 rfl rfl rfl rfl rfl ?_
  refine gj_if_neN (tgt := 19) (by omega) dX11_type_9 rfl (fun zq0 => ?_) (fun zq0 => ?_)
  rotate_left
  · exfalso; revert zq0; decide
  refine gj_aload_n dX11_type_19 rfl ?_
  refine gfX11_230 rfl dX11_type_20 H0 rfl ?_
  refine gj_sp 150 dX11_type_23 (by decide) ?_
  refine gj_icmp_neN (tgt := 34) (by omega) (by omega) dX11_type_26 rfl (fun zq1 => ?_) (fun zq1 => ?_)
  rotate_left
  · exfalso; omega
  refine gj_aload_n dX11_type_34 rfl ?_
  refine gfX11_33 rfl dX11_type_35 H0 rfl ?_
  refine gj_aload_n dX11_type_38 rfl ?_
  refine gfX11_230 rfl dX11_type_39 H0 rfl ?_
  refine gj_iload_n dX11_type_42 rfl ?_
  refine gj_iastN dX11_type_43 HB (by omega) (by omega) ?_
  refine gj_aload_n dX11_type_44 rfl ?_
  refine gj_dup dX11_type_45 rfl ?_
  refine gfX11_230 rfl dX11_type_46 ((mj_up_ne (by decide)).trans H0) rfl ?_
  refine gj_ic (w := 1) dX11_type_49 ?_
  refine gj_iaddN  dX11_type_50 ?_
  refine pfX11_230 rfl dX11_type_51 ((mj_up_ne (by decide)).trans H0) (Nat.le_of_ble_eq_true rfl) ?_
  show gj _ _ _ _ _ _ _ _ (mj_up (mj_up h 107 (mj_ar 150 (mj_un B y2 c))) 100 (.inr (9, [.ref 101, .ref 102, .ref 103, .ref 104, .long (lN a0), .long (lN a1), .ref 105, .ref 106, .ref 107, .int (nI (y2 + 1)), .int (nI y3), .int (nI y4), .int (nI y5), .int (nI y6), .ref 108, .ref 109])))
  refine gj_aload_n dX11_type_54 rfl ?_
  refine gfX11_230 rfl dX11_type_55 (mj_up_eq _ _ _) rfl ?_
  exact gj_ir rfl dX11_type_58 rfl rfl rfl
set_option maxHeartbeats 1000000 in
set_option maxRecDepth 10000 in
theorem ev_X11_type_full {E : mj_E} {h : mj_H} {a0 a1 y2 y3 y4 y5 y6 : Nat} (H0 : h 100 = some (mj_mo a0 a1 y2 y3 y4 y5 y6)) {B : Nat → Nat} (HB : h 107 = some (mj_ar 150 B)) {R : Nat → Nat} (HR : h 104 = some (mj_ar 3 R)) {c : Nat} (h0 : c ≤ 127) (h1 : y2 = 150) : mj_Ev E iX11_type [.ref 100, .int (nI c)] h (mj_R (some (.int (-4))) (mj_up h 104 (mj_ar 3 (mj_un R 2 ((R 2) + 1))))) := by
  refine mj_Ev.of (L0 := [some (.ref 100), some (.int (nI c))]) pnRX11 (Nat.le_of_ble_eq_true rfl) rfl ?_
  refine gj_iload_n dX11_type_0 rfl ?_
  refine gj_i2lN (by omega) dX11_type_1 ?_
  refine gj_lconst (v := lN 0) dX11_type_2 rfl ?_
  refine gj_ldc2 (v := lN 127) w_1352 dX11_type_3 ?_
  refine gj_S1 lkX11_50 (ev_X11_in_t (by omega) (by omega) (by omega)) dX11_type_6 rfl rfl rfl rfl rfl ?_
  refine gj_if_neN (tgt := 19) (by omega) dX11_type_9 rfl (fun zq0 => ?_) (fun zq0 => ?_)
  rotate_left
  · exfalso; revert zq0; decide
  refine gj_aload_n dX11_type_19 rfl ?_
  refine gfX11_230 rfl dX11_type_20 H0 rfl ?_
  refine gj_sp 150 dX11_type_23 (by decide) ?_
  refine gj_icmp_neN (tgt := 34) (by omega) (by omega) dX11_type_26 rfl (fun zq1 => ?_) (fun zq1 => ?_)
  · exfalso; omega
  refine gj_aload_n dX11_type_29 rfl ?_
  refine gj_V1 lkX11_82 H0 rfl rfl (ev_X11_full H0 HR) dX11_type_30 rfl rfl rfl rfl rfl ?_
  exact gj_ir rfl dX11_type_33 rfl rfl rfl
set_option maxHeartbeats 1000000 in
set_option maxRecDepth 10000 in
theorem ev_X11_clear {E : mj_E} {h : mj_H} {a0 a1 y2 y3 y4 y5 y6 : Nat} (H0 : h 100 = some (mj_mo a0 a1 y2 y3 y4 y5 y6))  : mj_Ev E iX11_clear [.ref 100] h (mj_R (some (.int (nI y2))) (mj_up h 100 (.inr (9, [.ref 101, .ref 102, .ref 103, .ref 104, .long (lN a0), .long (lN a1), .ref 105, .ref 106, .ref 107, .int (nI 0), .int (nI y3), .int (nI y4), .int (nI y5), .int (nI y6), .ref 108, .ref 109])))) := by
  refine mj_Ev.of (L0 := [some (.ref 100), none]) pnRX11 (Nat.le_of_ble_eq_true rfl) rfl ?_
  refine gj_aload_n dX11_clear_0 rfl ?_
  refine gfX11_230 rfl dX11_clear_1 H0 rfl ?_
  refine gj_istore_n (L' := [some (.ref 100), some (.int (nI y2))]) dX11_clear_4 (Nat.le_of_ble_eq_true rfl) rfl ?_
  refine gj_aload_n dX11_clear_5 rfl ?_
  refine gj_ic (w := 0) dX11_clear_6 ?_
  refine pfX11_230 rfl dX11_clear_7 H0 (Nat.le_of_ble_eq_true rfl) ?_
  show gj _ _ _ _ _ _ _ _ (mj_up h 100 (.inr (9, [.ref 101, .ref 102, .ref 103, .ref 104, .long (lN a0), .long (lN a1), .ref 105, .ref 106, .ref 107, .int (nI 0), .int (nI y3), .int (nI y4), .int (nI y5), .int (nI y6), .ref 108, .ref 109])))
  refine gj_iload_n dX11_clear_10 rfl ?_
  exact gj_ir rfl dX11_clear_11 rfl rfl rfl
def sp_pt (T J : Nat → Nat) (n : Nat) : Nat → Nat := fun i => if 4 ≤ i ∧ i < 4 + n then J (i - 4) else T i
theorem sp_pt_0 {T J : Nat → Nat} : sp_pt T J 0 = T := by funext i; exact if_neg (by omega)
theorem sp_pt_s {T J : Nat → Nat} {n : Nat} : mj_un (sp_pt T J n) (4 + n) (J n) = sp_pt T J (n + 1) := by
  funext i
  unfold mj_un sp_pt
  by_cases q : i = 4 + n
  · subst q; rw [if_pos rfl, if_pos (by omega)]; congr 1; omega
  · rw [if_neg q]
    by_cases z : 4 ≤ i ∧ i < 4 + n
    · rw [if_pos z, if_pos (by omega)]
    · rw [if_neg z, if_neg (by omega)]
def sp_bk (T : Nat → Nat) (P n : Nat) : Nat → Nat := fun i => if 4 ≤ i ∧ i < 4 + n then T (P + (i - 4)) else T i
theorem sp_bk_0 {T : Nat → Nat} {P : Nat} : sp_bk T P 0 = T := by funext i; exact if_neg (by omega)
theorem sp_bk_s {T : Nat → Nat} {P n : Nat} (h : n < 26) (h2 : 100 ≤ P) : mj_un (sp_bk T P n) (4 + n) (sp_bk T P n (P + n)) = sp_bk T P (n + 1) := by
  funext i
  unfold mj_un sp_bk
  by_cases q : i = 4 + n
  · subst q; rw [if_pos rfl, if_neg (by omega), if_pos (by omega)]; congr 1; omega
  · rw [if_neg q]
    by_cases z : 4 ≤ i ∧ i < 4 + n
    · rw [if_pos z, if_pos (by omega)]
    · rw [if_neg z, if_neg (by omega)]
set_option maxHeartbeats 1000000 in
set_option maxRecDepth 10000 in
theorem ev_X11_day_0 {E : mj_E} {h : mj_H} {a0 a1 y2 y3 y4 y5 y6 : Nat} (H0 : h 100 = some (mj_mo a0 a1 y2 y3 y4 y5 y6)) {T : Nat → Nat} (HT : h 101 = some (mj_ar 362 T)) {J : Nat → Nat} (HJ : h 105 = some (mj_ar 25 J)) (bT : mj_Tb T) {m : Nat} (h0 : 1 ≤ m) (h1 : m ≤ 60) (h2 : T 29 + m ≤ 999) : mj_Ev E iX11_day [.ref 100, .int (nI m)] h (mj_R (some (.int (nI (sp_sum (fun q => (mj_un (sp_pt (sp_kp T) (sp_days (fun q => sp_kp T (30 + q)) (fun q => sp_kp T (55 + q)) (fun q => sp_kp T (62 + q)) (sp_kp T 29) (fun q => sp_kp T (4 + q)) m) 25) 29 (((sp_pt (sp_kp T) (sp_days (fun q => sp_kp T (30 + q)) (fun q => sp_kp T (55 + q)) (fun q => sp_kp T (62 + q)) (sp_kp T 29) (fun q => sp_kp T (4 + q)) m) 25) 29) + m)) (4 + q)) 25)))) (mj_up (mj_up (mj_up (mj_up (mj_up h 101 (mj_ar 362 (sp_kp T))) 105 (mj_ar 25 (fun q => sp_kp T (4 + q)))) 105 (mj_ar 25 (sp_days (fun q => sp_kp T (30 + q)) (fun q => sp_kp T (55 + q)) (fun q => sp_kp T (62 + q)) (sp_kp T 29) (fun q => sp_kp T (4 + q)) m))) 101 (mj_ar 362 (sp_pt (sp_kp T) (sp_days (fun q => sp_kp T (30 + q)) (fun q => sp_kp T (55 + q)) (fun q => sp_kp T (62 + q)) (sp_kp T 29) (fun q => sp_kp T (4 + q)) m) 25))) 101 (mj_ar 362 (mj_un (sp_pt (sp_kp T) (sp_days (fun q => sp_kp T (30 + q)) (fun q => sp_kp T (55 + q)) (fun q => sp_kp T (62 + q)) (sp_kp T 29) (fun q => sp_kp T (4 + q)) m) 25) 29 (((sp_pt (sp_kp T) (sp_days (fun q => sp_kp T (30 + q)) (fun q => sp_kp T (55 + q)) (fun q => sp_kp T (62 + q)) (sp_kp T 29) (fun q => sp_kp T (4 + q)) m) 25) 29) + m))))) := by
  refine mj_Ev.of (L0 := [some (.ref 100), some (.int (nI m)), none, none]) pnRX11 (Nat.le_of_ble_eq_true rfl) rfl ?_
  have hb29 := bT.2.2.2.2.1
  have hbk := (mj_Tb_kp bT).2.2.2.2.1
  refine gj_iload_n dX11_day_0 rfl ?_
  refine gj_i2lN (by omega) dX11_day_1 ?_
  refine gj_lconst (v := lN 1) dX11_day_2 rfl ?_
  refine gj_ldc2 (v := lN 60) w_1097 dX11_day_3 ?_
  refine gj_S1 lkX11_50 (ev_X11_in_t (by omega) (by omega) (by omega)) dX11_day_6 rfl rfl rfl rfl rfl ?_
  refine gj_if_neN (tgt := 19) (by omega) dX11_day_9 rfl (fun zq0 => ?_) (fun zq0 => ?_)
  rotate_left
  · exfalso; revert zq0; decide
  refine gj_aload_n dX11_day_19 rfl ?_
  refine gfX11_7 rfl dX11_day_20 H0 rfl ?_
  refine gj_bp 29 dX11_day_23 (by decide) ?_
  refine gj_ialdN dX11_day_25 HT (by omega) (by omega) ?_
  have hb1 := bT.2.2.2.2.1
  refine gj_iload_n dX11_day_26 rfl ?_
  refine gj_iaddN  dX11_day_27 ?_
  refine gj_sp 999 dX11_day_28 (by decide) ?_
  refine gj_icmp_leN (tgt := 48) (by omega) (by omega) dX11_day_31 rfl (fun zq2 => ?_) (fun zq2 => ?_)
  rotate_left
  · exfalso; omega
  refine gj_iload_n dX11_day_48 rfl ?_
  refine gj_istore_n (L' := [some (.ref 100), some (.int (nI m)), some (.int (nI m)), none]) dX11_day_49 (Nat.le_of_ble_eq_true rfl) rfl ?_
  refine gj_aload_n dX11_day_50 rfl ?_
  refine gj_V0 lkX11_121 H0 rfl rfl (ev_X11_keep H0 HT bT) dX11_day_51 rfl rfl rfl rfl rfl ?_
  refine gj_aload_n dX11_day_54 rfl ?_
  refine gj_V0 lkX11_124 ((mj_up_ne (by decide)).trans H0) rfl rfl (ev_X11_layIce ((mj_up_ne (by decide)).trans H0) (mj_up_eq _ _ _) ((mj_up_ne (by decide)).trans HJ) (mj_Tb_kp bT)) dX11_day_55 rfl rfl rfl rfl rfl ?_
  refine gj_aload_n dX11_day_58 rfl ?_
  refine gj_iload_n dX11_day_59 rfl ?_
  refine gj_V0 lkX11_127 ((mj_up_ne (by decide)).trans ((mj_up_ne (by decide)).trans H0)) rfl rfl (ev_X11_goDays ((mj_up_ne (by decide)).trans ((mj_up_ne (by decide)).trans H0)) ((mj_up_ne (by decide)).trans (mj_up_eq _ _ _)) (mj_up_eq _ _ _) (mj_Tb_kp bT) (mj_Tb_kp bT).2.2.2.2.2.1 (by omega)) dX11_day_60 rfl rfl rfl rfl rfl ?_
  refine gj_ic (w := 0) dX11_day_63 ?_
  refine gj_istore_n (L' := [some (.ref 100), some (.int (nI m)), some (.int (nI m)), some (.int (nI 0))]) dX11_day_64 (Nat.le_of_ble_eq_true rfl) rfl ?_
  refine gj_cast (L' := [some (.ref 100), some (.int (nI m)), some (.int (nI m)), some (.int (nI 0))]) (st' := []) (h' := mj_up (mj_up (mj_up (mj_up h 101 (mj_ar 362 (sp_kp T))) 105 (mj_ar 25 (fun q => sp_kp T (4 + q)))) 105 (mj_ar 25 (sp_days (fun q => sp_kp T (30 + q)) (fun q => sp_kp T (55 + q)) (fun q => sp_kp T (62 + q)) (sp_kp T 29) (fun q => sp_kp T (4 + q)) m))) 101 (mj_ar 362 (sp_pt (sp_kp T) (sp_days (fun q => sp_kp T (30 + q)) (fun q => sp_kp T (55 + q)) (fun q => sp_kp T (62 + q)) (sp_kp T 29) (fun q => sp_kp T (4 + q)) m) 0))) rfl rfl (by rw [sp_pt_0]; exact (mj_up_self ((mj_up_ne (by decide)).trans ((mj_up_ne (by decide)).trans (mj_up_eq _ _ _)))).symm) ?_
  refine gj_loop (fun j => [some (.ref 100), some (.int (nI m)), some (.int (nI m)), some (.int (nI j))]) (fun j => mj_up (mj_up (mj_up (mj_up h 101 (mj_ar 362 (sp_kp T))) 105 (mj_ar 25 (fun q => sp_kp T (4 + q)))) 105 (mj_ar 25 (sp_days (fun q => sp_kp T (30 + q)) (fun q => sp_kp T (55 + q)) (fun q => sp_kp T (62 + q)) (sp_kp T 29) (fun q => sp_kp T (4 + q)) m))) 101 (mj_ar 362 (sp_pt (sp_kp T) (sp_days (fun q => sp_kp T (30 + q)) (fun q => sp_kp T (55 + q)) (fun q => sp_kp T (62 + q)) (sp_kp T 29) (fun q => sp_kp T (4 + q)) m) j))) 25 ?_ (fun j hj ih => ?_) 0 (by omega)
  · show gj _ _ _ _ _ _ [some (.ref 100), some (.int (nI m)), some (.int (nI m)), some (.int (nI 25))] _ _
    refine gj_iload_n dX11_day_65 rfl ?_
    refine gj_bp 25 dX11_day_66 (by decide) ?_
    refine gj_icmp_geN (tgt := 91) (by omega) (by omega) dX11_day_68 rfl (fun zq0 => ?_) (fun zq0 => ?_)
    rotate_left
    · exfalso; omega
    refine gj_aload_n dX11_day_91 rfl ?_
    refine gfX11_7 rfl dX11_day_92 ((mj_up_ne (by decide)).trans ((mj_up_ne (by decide)).trans ((mj_up_ne (by decide)).trans ((mj_up_ne (by decide)).trans H0)))) rfl ?_
    refine gj_bp 29 dX11_day_95 (by decide) ?_
    refine gj_dup2 dX11_day_97 rfl rfl ?_
    refine gj_ialdN dX11_day_98 (mj_up_eq _ _ _) (by omega) (by omega) ?_
    refine gj_iload_n dX11_day_99 rfl ?_
    refine gj_iaddN  dX11_day_100 ?_
    refine gj_iastN dX11_day_101 (mj_up_eq _ _ _) (by omega) (by omega) ?_
    refine gj_aload_n dX11_day_102 rfl ?_
    refine gj_V1 lkX11_131 ((mj_up_ne (by decide)).trans ((mj_up_ne (by decide)).trans ((mj_up_ne (by decide)).trans ((mj_up_ne (by decide)).trans ((mj_up_ne (by decide)).trans H0))))) rfl rfl (ev_X11_allIce ((mj_up_ne (by decide)).trans ((mj_up_ne (by decide)).trans ((mj_up_ne (by decide)).trans ((mj_up_ne (by decide)).trans ((mj_up_ne (by decide)).trans H0))))) (mj_up_eq _ _ _)) dX11_day_103 rfl rfl rfl rfl rfl ?_
    exact gj_ir rfl dX11_day_106 rfl rfl rfl
  show gj _ _ _ _ _ _ [some (.ref 100), some (.int (nI m)), some (.int (nI m)), some (.int (nI j))] _ _
  refine gj_iload_n dX11_day_65 rfl ?_
  refine gj_bp 25 dX11_day_66 (by decide) ?_
  refine gj_icmp_geN (tgt := 91) (by omega) (by omega) dX11_day_68 rfl (fun zq3 => ?_) (fun zq3 => ?_)
  · exfalso; omega
  refine gj_aload_n dX11_day_71 rfl ?_
  refine gfX11_7 rfl dX11_day_72 ((mj_up_ne (by decide)).trans ((mj_up_ne (by decide)).trans ((mj_up_ne (by decide)).trans ((mj_up_ne (by decide)).trans H0)))) rfl ?_
  refine gj_ic (w := 4) dX11_day_75 ?_
  refine gj_iload_n dX11_day_76 rfl ?_
  refine gj_iaddN  dX11_day_77 ?_
  refine gj_aload_n dX11_day_78 rfl ?_
  refine gfX11_27 rfl dX11_day_79 ((mj_up_ne (by decide)).trans ((mj_up_ne (by decide)).trans ((mj_up_ne (by decide)).trans ((mj_up_ne (by decide)).trans H0)))) rfl ?_
  refine gj_iload_n dX11_day_82 rfl ?_
  refine gj_ialdN dX11_day_83 ((mj_up_ne (by decide)).trans (mj_up_eq _ _ _)) (by omega) (by omega) ?_
  refine gj_iastN dX11_day_84 (mj_up_eq _ _ _) (by omega) (by omega) ?_
  refine gj_iincN (L' := [some (.ref 100), some (.int (nI m)), some (.int (nI m)), some (.int (nI (j + 1)))]) dX11_day_85 rfl (Nat.le_of_ble_eq_true rfl) rfl ?_
  refine gj_goto (tgt := 65) dX11_day_88 rfl ?_
  exact gj_cast rfl rfl (by rw [mj_up_up, sp_pt_s]) ih
set_option maxHeartbeats 1000000 in
set_option maxRecDepth 10000 in
theorem ev_X11_day_1 {E : mj_E} {h : mj_H} {a0 a1 y2 y3 y4 y5 y6 : Nat} (H0 : h 100 = some (mj_mo a0 a1 y2 y3 y4 y5 y6)) {T : Nat → Nat} (HT : h 101 = some (mj_ar 362 T)) {J : Nat → Nat} (HJ : h 105 = some (mj_ar 25 J)) (bT : mj_Tb T) {m : Nat} (h0 : 1 ≤ m) (h1 : m ≤ 60) (h2 : 999 < T 29 + m) : mj_Ev E iX11_day [.ref 100, .int (nI m)] h (mj_R (some (.int (nI (sp_sum (fun q => (mj_un (sp_pt (sp_kp T) (sp_days (fun q => sp_kp T (30 + q)) (fun q => sp_kp T (55 + q)) (fun q => sp_kp T (62 + q)) (sp_kp T 29) (fun q => sp_kp T (4 + q)) (999 - T 29)) 25) 29 (((sp_pt (sp_kp T) (sp_days (fun q => sp_kp T (30 + q)) (fun q => sp_kp T (55 + q)) (fun q => sp_kp T (62 + q)) (sp_kp T 29) (fun q => sp_kp T (4 + q)) (999 - T 29)) 25) 29) + (999 - T 29))) (4 + q)) 25)))) (mj_up (mj_up (mj_up (mj_up (mj_up h 101 (mj_ar 362 (sp_kp T))) 105 (mj_ar 25 (fun q => sp_kp T (4 + q)))) 105 (mj_ar 25 (sp_days (fun q => sp_kp T (30 + q)) (fun q => sp_kp T (55 + q)) (fun q => sp_kp T (62 + q)) (sp_kp T 29) (fun q => sp_kp T (4 + q)) (999 - T 29)))) 101 (mj_ar 362 (sp_pt (sp_kp T) (sp_days (fun q => sp_kp T (30 + q)) (fun q => sp_kp T (55 + q)) (fun q => sp_kp T (62 + q)) (sp_kp T 29) (fun q => sp_kp T (4 + q)) (999 - T 29)) 25))) 101 (mj_ar 362 (mj_un (sp_pt (sp_kp T) (sp_days (fun q => sp_kp T (30 + q)) (fun q => sp_kp T (55 + q)) (fun q => sp_kp T (62 + q)) (sp_kp T 29) (fun q => sp_kp T (4 + q)) (999 - T 29)) 25) 29 (((sp_pt (sp_kp T) (sp_days (fun q => sp_kp T (30 + q)) (fun q => sp_kp T (55 + q)) (fun q => sp_kp T (62 + q)) (sp_kp T 29) (fun q => sp_kp T (4 + q)) (999 - T 29)) 25) 29) + (999 - T 29)))))) := by
  refine mj_Ev.of (L0 := [some (.ref 100), some (.int (nI m)), none, none]) pnRX11 (Nat.le_of_ble_eq_true rfl) rfl ?_
  have hb29 := bT.2.2.2.2.1
  have hbk := (mj_Tb_kp bT).2.2.2.2.1
  refine gj_iload_n dX11_day_0 rfl ?_
  refine gj_i2lN (by omega) dX11_day_1 ?_
  refine gj_lconst (v := lN 1) dX11_day_2 rfl ?_
  refine gj_ldc2 (v := lN 60) w_1097 dX11_day_3 ?_
  refine gj_S1 lkX11_50 (ev_X11_in_t (by omega) (by omega) (by omega)) dX11_day_6 rfl rfl rfl rfl rfl ?_
  refine gj_if_neN (tgt := 19) (by omega) dX11_day_9 rfl (fun zq0 => ?_) (fun zq0 => ?_)
  rotate_left
  · exfalso; revert zq0; decide
  refine gj_aload_n dX11_day_19 rfl ?_
  refine gfX11_7 rfl dX11_day_20 H0 rfl ?_
  refine gj_bp 29 dX11_day_23 (by decide) ?_
  refine gj_ialdN dX11_day_25 HT (by omega) (by omega) ?_
  have hb1 := bT.2.2.2.2.1
  refine gj_iload_n dX11_day_26 rfl ?_
  refine gj_iaddN  dX11_day_27 ?_
  refine gj_sp 999 dX11_day_28 (by decide) ?_
  refine gj_icmp_leN (tgt := 48) (by omega) (by omega) dX11_day_31 rfl (fun zq2 => ?_) (fun zq2 => ?_)
  · exfalso; omega
  refine gj_sp 999 dX11_day_34 (by decide) ?_
  refine gj_aload_n dX11_day_37 rfl ?_
  refine gfX11_7 rfl dX11_day_38 H0 rfl ?_
  refine gj_bp 29 dX11_day_41 (by decide) ?_
  refine gj_ialdN dX11_day_43 HT (by omega) (by omega) ?_
  have hb3 := bT.2.2.2.2.1
  refine gj_isubN (by omega) dX11_day_44 ?_
  refine gj_goto (tgt := 49) dX11_day_45 rfl ?_
  refine gj_istore_n (L' := [some (.ref 100), some (.int (nI m)), some (.int (nI (999 - (T 29)))), none]) dX11_day_49 (Nat.le_of_ble_eq_true rfl) rfl ?_
  refine gj_aload_n dX11_day_50 rfl ?_
  refine gj_V0 lkX11_121 H0 rfl rfl (ev_X11_keep H0 HT bT) dX11_day_51 rfl rfl rfl rfl rfl ?_
  refine gj_aload_n dX11_day_54 rfl ?_
  refine gj_V0 lkX11_124 ((mj_up_ne (by decide)).trans H0) rfl rfl (ev_X11_layIce ((mj_up_ne (by decide)).trans H0) (mj_up_eq _ _ _) ((mj_up_ne (by decide)).trans HJ) (mj_Tb_kp bT)) dX11_day_55 rfl rfl rfl rfl rfl ?_
  refine gj_aload_n dX11_day_58 rfl ?_
  refine gj_iload_n dX11_day_59 rfl ?_
  refine gj_V0 lkX11_127 ((mj_up_ne (by decide)).trans ((mj_up_ne (by decide)).trans H0)) rfl rfl (ev_X11_goDays ((mj_up_ne (by decide)).trans ((mj_up_ne (by decide)).trans H0)) ((mj_up_ne (by decide)).trans (mj_up_eq _ _ _)) (mj_up_eq _ _ _) (mj_Tb_kp bT) (mj_Tb_kp bT).2.2.2.2.2.1 (by omega)) dX11_day_60 rfl rfl rfl rfl rfl ?_
  refine gj_ic (w := 0) dX11_day_63 ?_
  refine gj_istore_n (L' := [some (.ref 100), some (.int (nI m)), some (.int (nI (999 - (T 29)))), some (.int (nI 0))]) dX11_day_64 (Nat.le_of_ble_eq_true rfl) rfl ?_
  refine gj_cast (L' := [some (.ref 100), some (.int (nI m)), some (.int (nI (999 - T 29))), some (.int (nI 0))]) (st' := []) (h' := mj_up (mj_up (mj_up (mj_up h 101 (mj_ar 362 (sp_kp T))) 105 (mj_ar 25 (fun q => sp_kp T (4 + q)))) 105 (mj_ar 25 (sp_days (fun q => sp_kp T (30 + q)) (fun q => sp_kp T (55 + q)) (fun q => sp_kp T (62 + q)) (sp_kp T 29) (fun q => sp_kp T (4 + q)) (999 - T 29)))) 101 (mj_ar 362 (sp_pt (sp_kp T) (sp_days (fun q => sp_kp T (30 + q)) (fun q => sp_kp T (55 + q)) (fun q => sp_kp T (62 + q)) (sp_kp T 29) (fun q => sp_kp T (4 + q)) (999 - T 29)) 0))) rfl rfl (by rw [sp_pt_0]; exact (mj_up_self ((mj_up_ne (by decide)).trans ((mj_up_ne (by decide)).trans (mj_up_eq _ _ _)))).symm) ?_
  refine gj_loop (fun j => [some (.ref 100), some (.int (nI m)), some (.int (nI (999 - T 29))), some (.int (nI j))]) (fun j => mj_up (mj_up (mj_up (mj_up h 101 (mj_ar 362 (sp_kp T))) 105 (mj_ar 25 (fun q => sp_kp T (4 + q)))) 105 (mj_ar 25 (sp_days (fun q => sp_kp T (30 + q)) (fun q => sp_kp T (55 + q)) (fun q => sp_kp T (62 + q)) (sp_kp T 29) (fun q => sp_kp T (4 + q)) (999 - T 29)))) 101 (mj_ar 362 (sp_pt (sp_kp T) (sp_days (fun q => sp_kp T (30 + q)) (fun q => sp_kp T (55 + q)) (fun q => sp_kp T (62 + q)) (sp_kp T 29) (fun q => sp_kp T (4 + q)) (999 - T 29)) j))) 25 ?_ (fun j hj ih => ?_) 0 (by omega)
  · show gj _ _ _ _ _ _ [some (.ref 100), some (.int (nI m)), some (.int (nI (999 - T 29))), some (.int (nI 25))] _ _
    refine gj_iload_n dX11_day_65 rfl ?_
    refine gj_bp 25 dX11_day_66 (by decide) ?_
    refine gj_icmp_geN (tgt := 91) (by omega) (by omega) dX11_day_68 rfl (fun zq0 => ?_) (fun zq0 => ?_)
    rotate_left
    · exfalso; omega
    refine gj_aload_n dX11_day_91 rfl ?_
    refine gfX11_7 rfl dX11_day_92 ((mj_up_ne (by decide)).trans ((mj_up_ne (by decide)).trans ((mj_up_ne (by decide)).trans ((mj_up_ne (by decide)).trans H0)))) rfl ?_
    refine gj_bp 29 dX11_day_95 (by decide) ?_
    refine gj_dup2 dX11_day_97 rfl rfl ?_
    refine gj_ialdN dX11_day_98 (mj_up_eq _ _ _) (by omega) (by omega) ?_
    refine gj_iload_n dX11_day_99 rfl ?_
    refine gj_iaddN  dX11_day_100 ?_
    refine gj_iastN dX11_day_101 (mj_up_eq _ _ _) (by omega) (by omega) ?_
    refine gj_aload_n dX11_day_102 rfl ?_
    refine gj_V1 lkX11_131 ((mj_up_ne (by decide)).trans ((mj_up_ne (by decide)).trans ((mj_up_ne (by decide)).trans ((mj_up_ne (by decide)).trans ((mj_up_ne (by decide)).trans H0))))) rfl rfl (ev_X11_allIce ((mj_up_ne (by decide)).trans ((mj_up_ne (by decide)).trans ((mj_up_ne (by decide)).trans ((mj_up_ne (by decide)).trans ((mj_up_ne (by decide)).trans H0))))) (mj_up_eq _ _ _)) dX11_day_103 rfl rfl rfl rfl rfl ?_
    exact gj_ir rfl dX11_day_106 rfl rfl rfl
  show gj _ _ _ _ _ _ [some (.ref 100), some (.int (nI m)), some (.int (nI (999 - T 29))), some (.int (nI j))] _ _
  refine gj_iload_n dX11_day_65 rfl ?_
  refine gj_bp 25 dX11_day_66 (by decide) ?_
  refine gj_icmp_geN (tgt := 91) (by omega) (by omega) dX11_day_68 rfl (fun zq4 => ?_) (fun zq4 => ?_)
  · exfalso; omega
  refine gj_aload_n dX11_day_71 rfl ?_
  refine gfX11_7 rfl dX11_day_72 ((mj_up_ne (by decide)).trans ((mj_up_ne (by decide)).trans ((mj_up_ne (by decide)).trans ((mj_up_ne (by decide)).trans H0)))) rfl ?_
  refine gj_ic (w := 4) dX11_day_75 ?_
  refine gj_iload_n dX11_day_76 rfl ?_
  refine gj_iaddN  dX11_day_77 ?_
  refine gj_aload_n dX11_day_78 rfl ?_
  refine gfX11_27 rfl dX11_day_79 ((mj_up_ne (by decide)).trans ((mj_up_ne (by decide)).trans ((mj_up_ne (by decide)).trans ((mj_up_ne (by decide)).trans H0)))) rfl ?_
  refine gj_iload_n dX11_day_82 rfl ?_
  refine gj_ialdN dX11_day_83 ((mj_up_ne (by decide)).trans (mj_up_eq _ _ _)) (by omega) (by omega) ?_
  refine gj_iastN dX11_day_84 (mj_up_eq _ _ _) (by omega) (by omega) ?_
  refine gj_iincN (L' := [some (.ref 100), some (.int (nI m)), some (.int (nI (999 - T 29))), some (.int (nI (j + 1)))]) dX11_day_85 rfl (Nat.le_of_ble_eq_true rfl) rfl ?_
  refine gj_goto (tgt := 65) dX11_day_88 rfl ?_
  exact gj_cast rfl rfl (by rw [mj_up_up, sp_pt_s]) ih
set_option maxHeartbeats 1000000 in
set_option maxRecDepth 10000 in
theorem ev_X11_tread_1 {E : mj_E} {h : mj_H} {a0 a1 y2 y3 y4 y5 y6 : Nat} (H0 : h 100 = some (mj_mo a0 a1 y2 y3 y4 y5 y6)) {T : Nat → Nat} (HT : h 101 = some (mj_ar 362 T)) (bT : mj_Tb T) {c w : Nat} (h0 : c < 25) (h1 : 1 ≤ w) (h2 : w ≤ 99) (h3 : w ≤ sp_bear (T (30 + c)) (T (4 + c))) : mj_Ev E iX11_tread [.ref 100, .int (nI c), .int (nI w)] h (mj_R (some (.int (nI 1))) (mj_up (mj_up h 101 (mj_ar 362 (sp_kp T))) 101 (mj_ar 362 (mj_un (sp_kp T) (4 + c) ((T (4 + c)) - 1))))) := by
  refine mj_Ev.of (L0 := [some (.ref 100), some (.int (nI c)), some (.int (nI w)), none, none]) pnRX11 (Nat.le_of_ble_eq_true rfl) rfl ?_
  refine gj_iload_n dX11_tread_0 rfl ?_
  refine gj_S1 lkX11_70 (ev_X11_isCell_t (by omega) (by omega)) dX11_tread_1 rfl rfl rfl rfl rfl ?_
  refine gj_if_eqN (tgt := 19) (by omega) dX11_tread_4 rfl (fun zq0 => ?_) (fun zq0 => ?_)
  · exfalso; revert zq0; decide
  refine gj_iload_n dX11_tread_7 rfl ?_
  refine gj_i2lN (by omega) dX11_tread_8 ?_
  refine gj_lconst (v := lN 1) dX11_tread_9 rfl ?_
  refine gj_ldc2 (v := lN 99) w_1047 dX11_tread_10 ?_
  refine gj_S1 lkX11_50 (ev_X11_in_t (by omega) (by omega) (by omega)) dX11_tread_13 rfl rfl rfl rfl rfl ?_
  refine gj_if_neN (tgt := 26) (by omega) dX11_tread_16 rfl (fun zq0 => ?_) (fun zq0 => ?_)
  rotate_left
  · exfalso; revert zq0; decide
  refine gj_aload_n dX11_tread_26 rfl ?_
  refine gfX11_7 rfl dX11_tread_27 H0 rfl ?_
  refine gj_ic (w := 4) dX11_tread_30 ?_
  refine gj_iload_n dX11_tread_31 rfl ?_
  refine gj_iaddN  dX11_tread_32 ?_
  refine gj_ialdN dX11_tread_33 HT (by omega) (by omega) ?_
  have hb1 := bT.2.2.2.2.2.1 c (by omega)
  refine gj_istore_n (L' := [some (.ref 100), some (.int (nI c)), some (.int (nI w)), some (.int (nI (T (4 + c)))), none]) dX11_tread_34 (Nat.le_of_ble_eq_true rfl) rfl ?_
  refine gj_aload_n dX11_tread_35 rfl ?_
  refine gj_iload_n dX11_tread_36 rfl ?_
  refine gj_V1 lkX11_97 H0 rfl rfl (ev_X11_kindOf H0 HT bT (by omega)) dX11_tread_37 rfl rfl rfl rfl rfl ?_
  have hb2 := bT.2.2.2.2.2.2.1 c (by omega)
  refine gj_iload_n dX11_tread_40 rfl ?_
  refine gj_S1 lkX11_100 (ev_X11_bearsAs (by omega) (by omega)) dX11_tread_41 rfl rfl rfl rfl rfl ?_
  have hb3 := @sp_bear_le (T (30 + c)) (T (4 + c))
  refine gj_iload_n dX11_tread_44 rfl ?_
  refine gj_icmp_ltN (tgt := 52) (by omega) (by omega) dX11_tread_45 rfl (fun zq4 => ?_) (fun zq4 => ?_)
  · exfalso; omega
  refine gj_ic (w := 1) dX11_tread_48 ?_
  refine gj_goto (tgt := 53) dX11_tread_49 rfl ?_
  refine gj_istore (L' := [some (.ref 100), some (.int (nI c)), some (.int (nI w)), some (.int (nI (T (4 + c)))), some (.int (nI 1))]) dX11_tread_53 (Nat.le_of_ble_eq_true rfl) rfl ?_
  refine gj_aload_n dX11_tread_55 rfl ?_
  refine gj_V0 lkX11_121 H0 rfl rfl (ev_X11_keep H0 HT bT) dX11_tread_56 rfl rfl rfl rfl rfl ?_
  refine gj_aload_n dX11_tread_59 rfl ?_
  refine gfX11_7 rfl dX11_tread_60 ((mj_up_ne (by decide)).trans H0) rfl ?_
  refine gj_ic (w := 4) dX11_tread_63 ?_
  refine gj_iload_n dX11_tread_64 rfl ?_
  refine gj_iaddN  dX11_tread_65 ?_
  refine gj_iload dX11_tread_66 rfl ?_
  refine gj_if_eqN (tgt := 81) (by omega) dX11_tread_68 rfl (fun zq0 => ?_) (fun zq0 => ?_)
  · exfalso; revert zq0; decide
  refine gj_iload_n dX11_tread_71 rfl ?_
  refine gj_if_leN (tgt := 81) (by omega) dX11_tread_72 rfl (fun zq5 => ?_) (fun zq5 => ?_)
  · exfalso; omega
  refine gj_iload_n dX11_tread_75 rfl ?_
  refine gj_ic (w := 1) dX11_tread_76 ?_
  refine gj_isubN (by omega) dX11_tread_77 ?_
  refine gj_goto (tgt := 82) dX11_tread_78 rfl ?_
  refine gj_iastN dX11_tread_82 (mj_up_eq _ _ _) (by omega) (by omega) ?_
  refine gj_iload dX11_tread_83 rfl ?_
  refine gj_if_eqN (tgt := 92) (by omega) dX11_tread_85 rfl (fun zq0 => ?_) (fun zq0 => ?_)
  · exfalso; revert zq0; decide
  refine gj_ic (w := 1) dX11_tread_88 ?_
  refine gj_goto (tgt := 93) dX11_tread_89 rfl ?_
  exact gj_ir rfl dX11_tread_93 rfl rfl rfl
set_option maxHeartbeats 1000000 in
set_option maxRecDepth 10000 in
theorem ev_X11_tread_0 {E : mj_E} {h : mj_H} {a0 a1 y2 y3 y4 y5 y6 : Nat} (H0 : h 100 = some (mj_mo a0 a1 y2 y3 y4 y5 y6)) {T : Nat → Nat} (HT : h 101 = some (mj_ar 362 T)) (bT : mj_Tb T) {c w : Nat} (h0 : c < 25) (h1 : 1 ≤ w) (h2 : w ≤ 99) (h3 : sp_bear (T (30 + c)) (T (4 + c)) < w) : mj_Ev E iX11_tread [.ref 100, .int (nI c), .int (nI w)] h (mj_R (some (.int (nI 0))) (mj_up (mj_up h 101 (mj_ar 362 (sp_kp T))) 101 (mj_ar 362 (mj_un (sp_kp T) (4 + c) 0)))) := by
  refine mj_Ev.of (L0 := [some (.ref 100), some (.int (nI c)), some (.int (nI w)), none, none]) pnRX11 (Nat.le_of_ble_eq_true rfl) rfl ?_
  refine gj_iload_n dX11_tread_0 rfl ?_
  refine gj_S1 lkX11_70 (ev_X11_isCell_t (by omega) (by omega)) dX11_tread_1 rfl rfl rfl rfl rfl ?_
  refine gj_if_eqN (tgt := 19) (by omega) dX11_tread_4 rfl (fun zq0 => ?_) (fun zq0 => ?_)
  · exfalso; revert zq0; decide
  refine gj_iload_n dX11_tread_7 rfl ?_
  refine gj_i2lN (by omega) dX11_tread_8 ?_
  refine gj_lconst (v := lN 1) dX11_tread_9 rfl ?_
  refine gj_ldc2 (v := lN 99) w_1047 dX11_tread_10 ?_
  refine gj_S1 lkX11_50 (ev_X11_in_t (by omega) (by omega) (by omega)) dX11_tread_13 rfl rfl rfl rfl rfl ?_
  refine gj_if_neN (tgt := 26) (by omega) dX11_tread_16 rfl (fun zq0 => ?_) (fun zq0 => ?_)
  rotate_left
  · exfalso; revert zq0; decide
  refine gj_aload_n dX11_tread_26 rfl ?_
  refine gfX11_7 rfl dX11_tread_27 H0 rfl ?_
  refine gj_ic (w := 4) dX11_tread_30 ?_
  refine gj_iload_n dX11_tread_31 rfl ?_
  refine gj_iaddN  dX11_tread_32 ?_
  refine gj_ialdN dX11_tread_33 HT (by omega) (by omega) ?_
  have hb1 := bT.2.2.2.2.2.1 c (by omega)
  refine gj_istore_n (L' := [some (.ref 100), some (.int (nI c)), some (.int (nI w)), some (.int (nI (T (4 + c)))), none]) dX11_tread_34 (Nat.le_of_ble_eq_true rfl) rfl ?_
  refine gj_aload_n dX11_tread_35 rfl ?_
  refine gj_iload_n dX11_tread_36 rfl ?_
  refine gj_V1 lkX11_97 H0 rfl rfl (ev_X11_kindOf H0 HT bT (by omega)) dX11_tread_37 rfl rfl rfl rfl rfl ?_
  have hb2 := bT.2.2.2.2.2.2.1 c (by omega)
  refine gj_iload_n dX11_tread_40 rfl ?_
  refine gj_S1 lkX11_100 (ev_X11_bearsAs (by omega) (by omega)) dX11_tread_41 rfl rfl rfl rfl rfl ?_
  have hb3 := @sp_bear_le (T (30 + c)) (T (4 + c))
  refine gj_iload_n dX11_tread_44 rfl ?_
  refine gj_icmp_ltN (tgt := 52) (by omega) (by omega) dX11_tread_45 rfl (fun zq4 => ?_) (fun zq4 => ?_)
  rotate_left
  · exfalso; omega
  refine gj_ic (w := 0) dX11_tread_52 ?_
  refine gj_istore (L' := [some (.ref 100), some (.int (nI c)), some (.int (nI w)), some (.int (nI (T (4 + c)))), some (.int (nI 0))]) dX11_tread_53 (Nat.le_of_ble_eq_true rfl) rfl ?_
  refine gj_aload_n dX11_tread_55 rfl ?_
  refine gj_V0 lkX11_121 H0 rfl rfl (ev_X11_keep H0 HT bT) dX11_tread_56 rfl rfl rfl rfl rfl ?_
  refine gj_aload_n dX11_tread_59 rfl ?_
  refine gfX11_7 rfl dX11_tread_60 ((mj_up_ne (by decide)).trans H0) rfl ?_
  refine gj_ic (w := 4) dX11_tread_63 ?_
  refine gj_iload_n dX11_tread_64 rfl ?_
  refine gj_iaddN  dX11_tread_65 ?_
  refine gj_iload dX11_tread_66 rfl ?_
  refine gj_if_eqN (tgt := 81) (by omega) dX11_tread_68 rfl (fun zq0 => ?_) (fun zq0 => ?_)
  rotate_left
  · exfalso; revert zq0; decide
  refine gj_ic (w := 0) dX11_tread_81 ?_
  refine gj_iastN dX11_tread_82 (mj_up_eq _ _ _) (by omega) (by omega) ?_
  refine gj_iload dX11_tread_83 rfl ?_
  refine gj_if_eqN (tgt := 92) (by omega) dX11_tread_85 rfl (fun zq0 => ?_) (fun zq0 => ?_)
  rotate_left
  · exfalso; revert zq0; decide
  refine gj_ic (w := 0) dX11_tread_92 ?_
  exact gj_ir rfl dX11_tread_93 rfl rfl rfl
set_option maxHeartbeats 1000000 in
set_option maxRecDepth 10000 in
theorem ev_X11_stone {E : mj_E} {h : mj_H} {a0 a1 y2 y3 y4 y5 y6 : Nat} (H0 : h 100 = some (mj_mo a0 a1 y2 y3 y4 y5 y6)) {T : Nat → Nat} (HT : h 101 = some (mj_ar 362 T)) (bT : mj_Tb T) {c : Nat} (h0 : c < 25) : mj_Ev E iX11_stone [.ref 100, .int (nI c)] h (mj_R (some (.int (nI ((mj_un (sp_kp T) (4 + c) ((sp_kp T (4 + c)) / 2)) (4 + c))))) (mj_up (mj_up h 101 (mj_ar 362 (sp_kp T))) 101 (mj_ar 362 (mj_un (sp_kp T) (4 + c) ((sp_kp T (4 + c)) / 2))))) := by
  refine mj_Ev.of (L0 := [some (.ref 100), some (.int (nI c))]) pnRX11 (Nat.le_of_ble_eq_true rfl) rfl ?_
  refine gj_iload_n dX11_stone_0 rfl ?_
  refine gj_S1 lkX11_70 (ev_X11_isCell_t (by omega) (by omega)) dX11_stone_1 rfl rfl rfl rfl rfl ?_
  refine gj_if_neN (tgt := 14) (by omega) dX11_stone_4 rfl (fun zq0 => ?_) (fun zq0 => ?_)
  rotate_left
  · exfalso; revert zq0; decide
  refine gj_aload_n dX11_stone_14 rfl ?_
  refine gj_V0 lkX11_121 H0 rfl rfl (ev_X11_keep H0 HT bT) dX11_stone_15 rfl rfl rfl rfl rfl ?_
  refine gj_aload_n dX11_stone_18 rfl ?_
  refine gfX11_7 rfl dX11_stone_19 ((mj_up_ne (by decide)).trans H0) rfl ?_
  refine gj_ic (w := 4) dX11_stone_22 ?_
  refine gj_iload_n dX11_stone_23 rfl ?_
  refine gj_iaddN  dX11_stone_24 ?_
  refine gj_dup2 dX11_stone_25 rfl rfl ?_
  refine gj_ialdN dX11_stone_26 (mj_up_eq _ _ _) (by omega) (by omega) ?_
  have hb1 := (mj_Tb_kp bT).2.2.2.2.2.1 c (by omega)
  refine gj_ic (w := 2) dX11_stone_27 ?_
  refine gj_idivN (by omega) (by omega) (by omega) dX11_stone_28 ?_
  refine gj_iastN dX11_stone_29 (mj_up_eq _ _ _) (by omega) (by omega) ?_
  refine gj_aload_n dX11_stone_30 rfl ?_
  refine gfX11_7 rfl dX11_stone_31 ((mj_up_ne (by decide)).trans ((mj_up_ne (by decide)).trans H0)) rfl ?_
  refine gj_ic (w := 4) dX11_stone_34 ?_
  refine gj_iload_n dX11_stone_35 rfl ?_
  refine gj_iaddN  dX11_stone_36 ?_
  refine gj_ialdN dX11_stone_37 (mj_up_eq _ _ _) (by omega) (by omega) ?_
  exact gj_ir rfl dX11_stone_38 rfl rfl rfl
set_option maxHeartbeats 1000000 in
set_option maxRecDepth 10000 in
theorem ev_X11_undo {E : mj_E} {h : mj_H} {a0 a1 y2 y3 y4 y5 y6 : Nat} (H0 : h 100 = some (mj_mo a0 a1 y2 y3 y4 y5 y6)) {T : Nat → Nat} (HT : h 101 = some (mj_ar 362 T)) (bT : mj_Tb T) (h0 : 0 < T 3) : mj_Ev E iX11_undo [.ref 100] h (mj_R (some (.int (nI ((sp_bk (mj_un T 3 (T 3 - 1)) (154 + 26 * (T 3 - 1)) 26) 29)))) (mj_up h 101 (mj_ar 362 (sp_bk (mj_un T 3 (T 3 - 1)) (154 + 26 * (T 3 - 1)) 26)))) := by
  refine mj_Ev.of (L0 := [some (.ref 100), none]) pnRX11 (Nat.le_of_ble_eq_true rfl) rfl ?_
  have hb3 := bT.2.2.2.1
  refine gj_aload_n dX11_undo_0 rfl ?_
  refine gfX11_7 rfl dX11_undo_1 H0 rfl ?_
  refine gj_ic (w := 3) dX11_undo_4 ?_
  refine gj_ialdN dX11_undo_5 HT (by omega) (by omega) ?_
  have hb1 := bT.2.2.2.1
  refine gj_if_neN (tgt := 14) (by omega) dX11_undo_6 rfl (fun zq2 => ?_) (fun zq2 => ?_)
  rotate_left
  · exfalso; omega
  refine gj_aload_n dX11_undo_14 rfl ?_
  refine gfX11_7 rfl dX11_undo_15 H0 rfl ?_
  refine gj_ic (w := 3) dX11_undo_18 ?_
  refine gj_dup2 dX11_undo_19 rfl rfl ?_
  refine gj_ialdN dX11_undo_20 HT (by omega) (by omega) ?_
  have hb3 := bT.2.2.2.1
  refine gj_ic (w := 1) dX11_undo_21 ?_
  refine gj_isubN (by omega) dX11_undo_22 ?_
  refine gj_iastN dX11_undo_23 HT (by omega) (by omega) ?_
  refine gj_ic (w := 0) dX11_undo_24 ?_
  refine gj_istore_n (L' := [some (.ref 100), some (.int (nI 0))]) dX11_undo_25 (Nat.le_of_ble_eq_true rfl) rfl ?_
  refine gj_cast (L' := [some (.ref 100), some (.int (nI 0))]) (st' := []) (h' := mj_up h 101 (mj_ar 362 (sp_bk (mj_un T 3 (T 3 - 1)) (154 + 26 * (T 3 - 1)) 0))) rfl rfl (by rw [sp_bk_0]) ?_
  refine gj_loop (fun j => [some (.ref 100), some (.int (nI j))]) (fun j => mj_up h 101 (mj_ar 362 (sp_bk (mj_un T 3 (T 3 - 1)) (154 + 26 * (T 3 - 1)) j))) 26 ?_ (fun j hj ih => ?_) 0 (by omega)
  · show gj _ _ _ _ _ _ [some (.ref 100), some (.int (nI 26))] _ _
    refine gj_iload_n dX11_undo_26 rfl ?_
    refine gj_bp 26 dX11_undo_27 (by decide) ?_
    refine gj_icmp_geN (tgt := 66) (by omega) (by omega) dX11_undo_29 rfl (fun zq0 => ?_) (fun zq0 => ?_)
    rotate_left
    · exfalso; omega
    refine gj_aload_n dX11_undo_66 rfl ?_
    refine gfX11_7 rfl dX11_undo_67 ((mj_up_ne (by decide)).trans H0) rfl ?_
    refine gj_bp 29 dX11_undo_70 (by decide) ?_
    refine gj_ialdN dX11_undo_72 (mj_up_eq _ _ _) (by omega) (by omega) ?_
    exact gj_ir rfl dX11_undo_73 rfl rfl rfl
  show gj _ _ _ _ _ _ [some (.ref 100), some (.int (nI j))] _ _
  refine gj_iload_n dX11_undo_26 rfl ?_
  refine gj_bp 26 dX11_undo_27 (by decide) ?_
  refine gj_icmp_geN (tgt := 66) (by omega) (by omega) dX11_undo_29 rfl (fun zq4 => ?_) (fun zq4 => ?_)
  · exfalso; omega
  have hx1 : sp_bk (mj_un T 3 (T 3 - 1)) (154 + 26 * (T 3 - 1)) j 3 = T 3 - 1 := (if_neg (by omega)).trans (mj_un_eq _ _ _)
  refine gj_aload_n dX11_undo_32 rfl ?_
  refine gfX11_7 rfl dX11_undo_33 ((mj_up_ne (by decide)).trans H0) rfl ?_
  refine gj_ic (w := 4) dX11_undo_36 ?_
  refine gj_iload_n dX11_undo_37 rfl ?_
  refine gj_iaddN  dX11_undo_38 ?_
  refine gj_aload_n dX11_undo_39 rfl ?_
  refine gfX11_7 rfl dX11_undo_40 ((mj_up_ne (by decide)).trans H0) rfl ?_
  refine gj_sp 154 dX11_undo_43 (by decide) ?_
  refine gj_bp 26 dX11_undo_46 (by decide) ?_
  refine gj_aload_n dX11_undo_48 rfl ?_
  refine gfX11_7 rfl dX11_undo_49 ((mj_up_ne (by decide)).trans H0) rfl ?_
  refine gj_ic (w := 3) dX11_undo_52 ?_
  refine gj_ialdN dX11_undo_53 (mj_up_eq _ _ _) (by omega) (by omega) ?_
  refine gj_imulN  dX11_undo_54 ?_
  refine gj_iaddN  dX11_undo_55 ?_
  refine gj_iload_n dX11_undo_56 rfl ?_
  refine gj_iaddN  dX11_undo_57 ?_
  refine gj_ialdN dX11_undo_58 (mj_up_eq _ _ _) (by omega) (by omega) ?_
  refine gj_iastN dX11_undo_59 (mj_up_eq _ _ _) (by omega) (by omega) ?_
  refine gj_iincN (L' := [some (.ref 100), some (.int (nI (j + 1)))]) dX11_undo_60 rfl (Nat.le_of_ble_eq_true rfl) rfl ?_
  refine gj_goto (tgt := 26) dX11_undo_63 rfl ?_
  exact gj_cast rfl rfl (by rw [mj_up_up, hx1, sp_bk_s (by omega) (by omega)]) ih
set_option maxHeartbeats 1000000 in
set_option maxRecDepth 10000 in
theorem ev_X11_undo_no {E : mj_E} {h : mj_H} {a0 a1 y2 y3 y4 y5 y6 : Nat} (H0 : h 100 = some (mj_mo a0 a1 y2 y3 y4 y5 y6)) {T : Nat → Nat} (HT : h 101 = some (mj_ar 362 T)) {R : Nat → Nat} (HR : h 104 = some (mj_ar 3 R)) (bT : mj_Tb T) (h0 : T 3 = 0) : mj_Ev E iX11_undo [.ref 100] h (mj_R (some (.int (-3))) (mj_up h 104 (mj_ar 3 (mj_un R 1 ((R 1) + 1))))) := by
  refine mj_Ev.of (L0 := [some (.ref 100), none]) pnRX11 (Nat.le_of_ble_eq_true rfl) rfl ?_
  refine gj_aload_n dX11_undo_0 rfl ?_
  refine gfX11_7 rfl dX11_undo_1 H0 rfl ?_
  refine gj_ic (w := 3) dX11_undo_4 ?_
  refine gj_ialdN dX11_undo_5 HT (by omega) (by omega) ?_
  have hb1 := bT.2.2.2.1
  refine gj_if_neN (tgt := 14) (by omega) dX11_undo_6 rfl (fun zq2 => ?_) (fun zq2 => ?_)
  · exfalso; omega
  refine gj_aload_n dX11_undo_9 rfl ?_
  refine gj_V1 lkX11_134 H0 rfl rfl (ev_X11_no H0 HR) dX11_undo_10 rfl rfl rfl rfl rfl ?_
  exact gj_ir rfl dX11_undo_13 rfl rfl rfl
set_option maxHeartbeats 1000000 in
set_option maxRecDepth 10000 in
theorem ev_X11_of_0 {E : mj_E} {h : mj_H} {a0 a1 y2 y3 y4 y5 y6 : Nat} (H0 : h 100 = some (mj_mo a0 a1 y2 y3 y4 y5 y6)) {T : Nat → Nat} (HT : h 101 = some (mj_ar 362 T)) (bT : mj_Tb T) {c : Nat} (h0 : c < 25) : mj_Ev E iX11_of [.ref 100, .int (nI c), .int (nI 0)] h (mj_R (some (.int (nI (T (30 + c))))) h) := by
  refine mj_Ev.of (L0 := [some (.ref 100), some (.int (nI c)), some (.int (nI 0))]) pnRX11 (Nat.le_of_ble_eq_true rfl) rfl ?_
  refine gj_iload_n dX11_of_0 rfl ?_
  refine gj_S1 lkX11_70 (ev_X11_isCell_t (by omega) (by omega)) dX11_of_1 rfl rfl rfl rfl rfl ?_
  refine gj_if_eqN (tgt := 19) (by omega) dX11_of_4 rfl (fun zq0 => ?_) (fun zq0 => ?_)
  · exfalso; revert zq0; decide
  refine gj_iload_n dX11_of_7 rfl ?_
  refine gj_i2lN (by omega) dX11_of_8 ?_
  refine gj_lconst (v := lN 0) dX11_of_9 rfl ?_
  refine gj_ldc2 (v := lN 2) w_1154 dX11_of_10 ?_
  refine gj_S1 lkX11_50 (ev_X11_in_t (by omega) (by omega) (by omega)) dX11_of_13 rfl rfl rfl rfl rfl ?_
  refine gj_if_neN (tgt := 26) (by omega) dX11_of_16 rfl (fun zq0 => ?_) (fun zq0 => ?_)
  rotate_left
  · exfalso; revert zq0; decide
  refine gj_iload_n dX11_of_26 rfl ?_
  refine gj_if_neN (tgt := 38) (by omega) dX11_of_27 rfl (fun zq0 => ?_) (fun zq0 => ?_)
  · exfalso; revert zq0; decide
  refine gj_aload_n dX11_of_30 rfl ?_
  refine gj_iload_n dX11_of_31 rfl ?_
  refine gj_V1 lkX11_97 H0 rfl rfl (ev_X11_kindOf H0 HT bT (by omega)) dX11_of_32 rfl rfl rfl rfl rfl ?_
  have hb1 := bT.2.2.2.2.2.2.1 c (by omega)
  refine gj_goto (tgt := 70) dX11_of_35 rfl ?_
  exact gj_ir rfl dX11_of_70 rfl rfl rfl
set_option maxHeartbeats 1000000 in
set_option maxRecDepth 10000 in
theorem ev_X11_of_1 {E : mj_E} {h : mj_H} {a0 a1 y2 y3 y4 y5 y6 : Nat} (H0 : h 100 = some (mj_mo a0 a1 y2 y3 y4 y5 y6)) {T : Nat → Nat} (HT : h 101 = some (mj_ar 362 T)) (bT : mj_Tb T) {c : Nat} (h0 : c < 25) : mj_Ev E iX11_of [.ref 100, .int (nI c), .int (nI 1)] h (mj_R (some (.int (nI (T (4 + c))))) h) := by
  refine mj_Ev.of (L0 := [some (.ref 100), some (.int (nI c)), some (.int (nI 1))]) pnRX11 (Nat.le_of_ble_eq_true rfl) rfl ?_
  refine gj_iload_n dX11_of_0 rfl ?_
  refine gj_S1 lkX11_70 (ev_X11_isCell_t (by omega) (by omega)) dX11_of_1 rfl rfl rfl rfl rfl ?_
  refine gj_if_eqN (tgt := 19) (by omega) dX11_of_4 rfl (fun zq0 => ?_) (fun zq0 => ?_)
  · exfalso; revert zq0; decide
  refine gj_iload_n dX11_of_7 rfl ?_
  refine gj_i2lN (by omega) dX11_of_8 ?_
  refine gj_lconst (v := lN 0) dX11_of_9 rfl ?_
  refine gj_ldc2 (v := lN 2) w_1154 dX11_of_10 ?_
  refine gj_S1 lkX11_50 (ev_X11_in_t (by omega) (by omega) (by omega)) dX11_of_13 rfl rfl rfl rfl rfl ?_
  refine gj_if_neN (tgt := 26) (by omega) dX11_of_16 rfl (fun zq0 => ?_) (fun zq0 => ?_)
  rotate_left
  · exfalso; revert zq0; decide
  refine gj_iload_n dX11_of_26 rfl ?_
  refine gj_if_neN (tgt := 38) (by omega) dX11_of_27 rfl (fun zq0 => ?_) (fun zq0 => ?_)
  rotate_left
  · exfalso; revert zq0; decide
  refine gj_iload_n dX11_of_38 rfl ?_
  refine gj_ic (w := 1) dX11_of_39 ?_
  refine gj_icmp_neN (tgt := 54) (by omega) (by omega) dX11_of_40 rfl (fun zq0 => ?_) (fun zq0 => ?_)
  · exfalso; omega
  refine gj_aload_n dX11_of_43 rfl ?_
  refine gfX11_7 rfl dX11_of_44 H0 rfl ?_
  refine gj_ic (w := 4) dX11_of_47 ?_
  refine gj_iload_n dX11_of_48 rfl ?_
  refine gj_iaddN  dX11_of_49 ?_
  refine gj_ialdN dX11_of_50 HT (by omega) (by omega) ?_
  have hb1 := bT.2.2.2.2.2.1 c (by omega)
  refine gj_goto (tgt := 70) dX11_of_51 rfl ?_
  exact gj_ir rfl dX11_of_70 rfl rfl rfl
set_option maxHeartbeats 1000000 in
set_option maxRecDepth 10000 in
theorem ev_X11_of_2 {E : mj_E} {h : mj_H} {a0 a1 y2 y3 y4 y5 y6 : Nat} (H0 : h 100 = some (mj_mo a0 a1 y2 y3 y4 y5 y6)) {T : Nat → Nat} (HT : h 101 = some (mj_ar 362 T)) (bT : mj_Tb T) {c : Nat} (h0 : c < 25) : mj_Ev E iX11_of [.ref 100, .int (nI c), .int (nI 2)] h (mj_R (some (.int (nI (sp_bear (T (30 + c)) (T (4 + c)))))) h) := by
  refine mj_Ev.of (L0 := [some (.ref 100), some (.int (nI c)), some (.int (nI 2))]) pnRX11 (Nat.le_of_ble_eq_true rfl) rfl ?_
  refine gj_iload_n dX11_of_0 rfl ?_
  refine gj_S1 lkX11_70 (ev_X11_isCell_t (by omega) (by omega)) dX11_of_1 rfl rfl rfl rfl rfl ?_
  refine gj_if_eqN (tgt := 19) (by omega) dX11_of_4 rfl (fun zq0 => ?_) (fun zq0 => ?_)
  · exfalso; revert zq0; decide
  refine gj_iload_n dX11_of_7 rfl ?_
  refine gj_i2lN (by omega) dX11_of_8 ?_
  refine gj_lconst (v := lN 0) dX11_of_9 rfl ?_
  refine gj_ldc2 (v := lN 2) w_1154 dX11_of_10 ?_
  refine gj_S1 lkX11_50 (ev_X11_in_t (by omega) (by omega) (by omega)) dX11_of_13 rfl rfl rfl rfl rfl ?_
  refine gj_if_neN (tgt := 26) (by omega) dX11_of_16 rfl (fun zq0 => ?_) (fun zq0 => ?_)
  rotate_left
  · exfalso; revert zq0; decide
  refine gj_iload_n dX11_of_26 rfl ?_
  refine gj_if_neN (tgt := 38) (by omega) dX11_of_27 rfl (fun zq0 => ?_) (fun zq0 => ?_)
  rotate_left
  · exfalso; revert zq0; decide
  refine gj_iload_n dX11_of_38 rfl ?_
  refine gj_ic (w := 1) dX11_of_39 ?_
  refine gj_icmp_neN (tgt := 54) (by omega) (by omega) dX11_of_40 rfl (fun zq0 => ?_) (fun zq0 => ?_)
  rotate_left
  · exfalso; omega
  refine gj_aload_n dX11_of_54 rfl ?_
  refine gj_iload_n dX11_of_55 rfl ?_
  refine gj_V1 lkX11_97 H0 rfl rfl (ev_X11_kindOf H0 HT bT (by omega)) dX11_of_56 rfl rfl rfl rfl rfl ?_
  have hb1 := bT.2.2.2.2.2.2.1 c (by omega)
  refine gj_aload_n dX11_of_59 rfl ?_
  refine gfX11_7 rfl dX11_of_60 H0 rfl ?_
  refine gj_ic (w := 4) dX11_of_63 ?_
  refine gj_iload_n dX11_of_64 rfl ?_
  refine gj_iaddN  dX11_of_65 ?_
  refine gj_ialdN dX11_of_66 HT (by omega) (by omega) ?_
  have hb2 := bT.2.2.2.2.2.1 c (by omega)
  refine gj_S1 lkX11_100 (ev_X11_bearsAs (by omega) (by omega)) dX11_of_67 rfl rfl rfl rfl rfl ?_
  have hb3 := @sp_bear_le (T (30 + c)) (T (4 + c))
  exact gj_ir rfl dX11_of_70 rfl rfl rfl
set_option maxHeartbeats 1000000 in
set_option maxRecDepth 10000 in
theorem ev_X11_about_0 {E : mj_E} {h : mj_H} {a0 a1 y2 y3 y4 y5 y6 : Nat} (H0 : h 100 = some (mj_mo a0 a1 y2 y3 y4 y5 y6)) {T : Nat → Nat} (HT : h 101 = some (mj_ar 362 T)) {J : Nat → Nat} (HJ : h 105 = some (mj_ar 25 J)) (bT : mj_Tb T) {v : Nat} (h0 : v < T 0) : mj_Ev E iX11_about [.ref 100, .int (nI v), .int (nI 0)] h (mj_R (some (.int (nI (T (73 + v))))) (mj_up h 105 (mj_ar 25 (fun q => T (4 + q))))) := by
  refine mj_Ev.of (L0 := [some (.ref 100), some (.int (nI v)), some (.int (nI 0)), none]) pnRX11 (Nat.le_of_ble_eq_true rfl) rfl ?_
  have hb0 := bT.1
  refine gj_aload_n dX11_about_0 rfl ?_
  refine gj_iload_n dX11_about_1 rfl ?_
  refine gj_V1 lkX11_146 H0 rfl rfl (ev_X11_isVoter_t H0 HT bT (by omega)) dX11_about_2 rfl rfl rfl rfl rfl ?_
  refine gj_if_eqN (tgt := 20) (by omega) dX11_about_5 rfl (fun zq0 => ?_) (fun zq0 => ?_)
  · exfalso; revert zq0; decide
  refine gj_iload_n dX11_about_8 rfl ?_
  refine gj_i2lN (by omega) dX11_about_9 ?_
  refine gj_lconst (v := lN 0) dX11_about_10 rfl ?_
  refine gj_ldc2 (v := lN 3) w_1081 dX11_about_11 ?_
  refine gj_S1 lkX11_50 (ev_X11_in_t (by omega) (by omega) (by omega)) dX11_about_14 rfl rfl rfl rfl rfl ?_
  refine gj_if_neN (tgt := 27) (by omega) dX11_about_17 rfl (fun zq0 => ?_) (fun zq0 => ?_)
  rotate_left
  · exfalso; revert zq0; decide
  refine gj_aload_n dX11_about_27 rfl ?_
  refine gj_V0 lkX11_124 H0 rfl rfl (ev_X11_layIce H0 HT HJ bT) dX11_about_28 rfl rfl rfl rfl rfl ?_
  refine gj_aload_n dX11_about_31 rfl ?_
  refine gj_iload_n dX11_about_32 rfl ?_
  refine gj_aload_n dX11_about_33 rfl ?_
  refine gj_V1 lkX11_149 ((mj_up_ne (by decide)).trans H0) rfl rfl (ev_X11_frostNow ((mj_up_ne (by decide)).trans H0) ((mj_up_ne (by decide)).trans HT) bT) dX11_about_34 rfl rfl rfl rfl rfl ?_
  have hb1 := bT.2.2.2.2.2.2.2.1 (T 29 % 7) (by omega)
  refine gj_V1 lkX11_152 ((mj_up_ne (by decide)).trans H0) rfl rfl (ev_X11_votesYes ((mj_up_ne (by decide)).trans H0) ((mj_up_ne (by decide)).trans HT) (mj_up_eq _ _ _) bT bT.2.2.2.2.2.1 (by omega) (by omega)) dX11_about_37 rfl rfl rfl rfl rfl ?_
  refine gj_cut 49 [some (.ref 100), some (.int (nI v)), some (.int (nI 0)), none] [] (mj_up h 105 (mj_ar 25 (fun q => T (4 + q)))) ?_ (fun jn49 => ?_)
  · -- behind 49
    refine gj_iload_n dX11_about_49 rfl ?_
    refine gj_if_neN (tgt := 65) (by omega) dX11_about_50 rfl (fun zq0 => ?_) (fun zq0 => ?_)
    · exfalso; revert zq0; decide
    refine gj_aload_n dX11_about_53 rfl ?_
    refine gfX11_7 rfl dX11_about_54 ((mj_up_ne (by decide)).trans H0) rfl ?_
    refine gj_bp 73 dX11_about_57 (by decide) ?_
    refine gj_iload_n dX11_about_59 rfl ?_
    refine gj_iaddN  dX11_about_60 ?_
    refine gj_ialdN dX11_about_61 ((mj_up_ne (by decide)).trans HT) (by omega) (by omega) ?_
    have hb2 := bT.2.2.2.2.2.2.2.2.2.2.1 v (by omega)
    refine gj_goto (tgt := 100) dX11_about_62 rfl ?_
    exact gj_ir rfl dX11_about_100 rfl rfl rfl
  refine gj_if_eqb (tgt := 47) dX11_about_40 rfl (fun zq3 => ?_) (fun zq3 => ?_)
  · -- 40 taken
    refine gj_ic (w := 0) dX11_about_47 ?_
    refine gj_istore_n (L' := [some (.ref 100), some (.int (nI v)), some (.int (nI 0)), some (.int (nI 0))]) dX11_about_48 (Nat.le_of_ble_eq_true rfl) rfl ?_
    refine gj_forget (i := 3) (L' := [some (.ref 100), some (.int (nI v)), some (.int (nI 0)), none]) rfl ?_
    exact jn49
  refine gj_ic (w := 1) dX11_about_43 ?_
  refine gj_goto (tgt := 48) dX11_about_44 rfl ?_
  refine gj_istore_n (L' := [some (.ref 100), some (.int (nI v)), some (.int (nI 0)), some (.int (nI 1))]) dX11_about_48 (Nat.le_of_ble_eq_true rfl) rfl ?_
  refine gj_forget (i := 3) (L' := [some (.ref 100), some (.int (nI v)), some (.int (nI 0)), none]) rfl ?_
  exact jn49
set_option maxHeartbeats 1000000 in
set_option maxRecDepth 10000 in
theorem ev_X11_about_1 {E : mj_E} {h : mj_H} {a0 a1 y2 y3 y4 y5 y6 : Nat} (H0 : h 100 = some (mj_mo a0 a1 y2 y3 y4 y5 y6)) {T : Nat → Nat} (HT : h 101 = some (mj_ar 362 T)) {J : Nat → Nat} (HJ : h 105 = some (mj_ar 25 J)) (bT : mj_Tb T) {v : Nat} (h0 : v < T 0) : mj_Ev E iX11_about [.ref 100, .int (nI v), .int (nI 1)] h (mj_R (some (.int (nI (T (80 + v))))) (mj_up h 105 (mj_ar 25 (fun q => T (4 + q))))) := by
  refine mj_Ev.of (L0 := [some (.ref 100), some (.int (nI v)), some (.int (nI 1)), none]) pnRX11 (Nat.le_of_ble_eq_true rfl) rfl ?_
  have hb0 := bT.1
  refine gj_aload_n dX11_about_0 rfl ?_
  refine gj_iload_n dX11_about_1 rfl ?_
  refine gj_V1 lkX11_146 H0 rfl rfl (ev_X11_isVoter_t H0 HT bT (by omega)) dX11_about_2 rfl rfl rfl rfl rfl ?_
  refine gj_if_eqN (tgt := 20) (by omega) dX11_about_5 rfl (fun zq0 => ?_) (fun zq0 => ?_)
  · exfalso; revert zq0; decide
  refine gj_iload_n dX11_about_8 rfl ?_
  refine gj_i2lN (by omega) dX11_about_9 ?_
  refine gj_lconst (v := lN 0) dX11_about_10 rfl ?_
  refine gj_ldc2 (v := lN 3) w_1081 dX11_about_11 ?_
  refine gj_S1 lkX11_50 (ev_X11_in_t (by omega) (by omega) (by omega)) dX11_about_14 rfl rfl rfl rfl rfl ?_
  refine gj_if_neN (tgt := 27) (by omega) dX11_about_17 rfl (fun zq0 => ?_) (fun zq0 => ?_)
  rotate_left
  · exfalso; revert zq0; decide
  refine gj_aload_n dX11_about_27 rfl ?_
  refine gj_V0 lkX11_124 H0 rfl rfl (ev_X11_layIce H0 HT HJ bT) dX11_about_28 rfl rfl rfl rfl rfl ?_
  refine gj_aload_n dX11_about_31 rfl ?_
  refine gj_iload_n dX11_about_32 rfl ?_
  refine gj_aload_n dX11_about_33 rfl ?_
  refine gj_V1 lkX11_149 ((mj_up_ne (by decide)).trans H0) rfl rfl (ev_X11_frostNow ((mj_up_ne (by decide)).trans H0) ((mj_up_ne (by decide)).trans HT) bT) dX11_about_34 rfl rfl rfl rfl rfl ?_
  have hb1 := bT.2.2.2.2.2.2.2.1 (T 29 % 7) (by omega)
  refine gj_V1 lkX11_152 ((mj_up_ne (by decide)).trans H0) rfl rfl (ev_X11_votesYes ((mj_up_ne (by decide)).trans H0) ((mj_up_ne (by decide)).trans HT) (mj_up_eq _ _ _) bT bT.2.2.2.2.2.1 (by omega) (by omega)) dX11_about_37 rfl rfl rfl rfl rfl ?_
  refine gj_cut 49 [some (.ref 100), some (.int (nI v)), some (.int (nI 1)), none] [] (mj_up h 105 (mj_ar 25 (fun q => T (4 + q)))) ?_ (fun jn49 => ?_)
  · -- behind 49
    refine gj_iload_n dX11_about_49 rfl ?_
    refine gj_if_neN (tgt := 65) (by omega) dX11_about_50 rfl (fun zq0 => ?_) (fun zq0 => ?_)
    rotate_left
    · exfalso; revert zq0; decide
    refine gj_iload_n dX11_about_65 rfl ?_
    refine gj_ic (w := 1) dX11_about_66 ?_
    refine gj_icmp_neN (tgt := 82) (by omega) (by omega) dX11_about_67 rfl (fun zq0 => ?_) (fun zq0 => ?_)
    · exfalso; omega
    refine gj_aload_n dX11_about_70 rfl ?_
    refine gfX11_7 rfl dX11_about_71 ((mj_up_ne (by decide)).trans H0) rfl ?_
    refine gj_bp 80 dX11_about_74 (by decide) ?_
    refine gj_iload_n dX11_about_76 rfl ?_
    refine gj_iaddN  dX11_about_77 ?_
    refine gj_ialdN dX11_about_78 ((mj_up_ne (by decide)).trans HT) (by omega) (by omega) ?_
    have hb2 := bT.2.2.2.2.2.2.2.2.2.2.2.1 v (by omega)
    refine gj_goto (tgt := 100) dX11_about_79 rfl ?_
    exact gj_ir rfl dX11_about_100 rfl rfl rfl
  refine gj_if_eqb (tgt := 47) dX11_about_40 rfl (fun zq3 => ?_) (fun zq3 => ?_)
  · -- 40 taken
    refine gj_ic (w := 0) dX11_about_47 ?_
    refine gj_istore_n (L' := [some (.ref 100), some (.int (nI v)), some (.int (nI 1)), some (.int (nI 0))]) dX11_about_48 (Nat.le_of_ble_eq_true rfl) rfl ?_
    refine gj_forget (i := 3) (L' := [some (.ref 100), some (.int (nI v)), some (.int (nI 1)), none]) rfl ?_
    exact jn49
  refine gj_ic (w := 1) dX11_about_43 ?_
  refine gj_goto (tgt := 48) dX11_about_44 rfl ?_
  refine gj_istore_n (L' := [some (.ref 100), some (.int (nI v)), some (.int (nI 1)), some (.int (nI 1))]) dX11_about_48 (Nat.le_of_ble_eq_true rfl) rfl ?_
  refine gj_forget (i := 3) (L' := [some (.ref 100), some (.int (nI v)), some (.int (nI 1)), none]) rfl ?_
  exact jn49
set_option maxHeartbeats 1000000 in
set_option maxRecDepth 10000 in
theorem ev_X11_about_2 {E : mj_E} {h : mj_H} {a0 a1 y2 y3 y4 y5 y6 : Nat} (H0 : h 100 = some (mj_mo a0 a1 y2 y3 y4 y5 y6)) {T : Nat → Nat} (HT : h 101 = some (mj_ar 362 T)) {J : Nat → Nat} (HJ : h 105 = some (mj_ar 25 J)) (bT : mj_Tb T) {v : Nat} (h0 : v < T 0) : mj_Ev E iX11_about [.ref 100, .int (nI v), .int (nI 2)] h (mj_R (some (.int (nI (T (87 + v))))) (mj_up h 105 (mj_ar 25 (fun q => T (4 + q))))) := by
  refine mj_Ev.of (L0 := [some (.ref 100), some (.int (nI v)), some (.int (nI 2)), none]) pnRX11 (Nat.le_of_ble_eq_true rfl) rfl ?_
  have hb0 := bT.1
  refine gj_aload_n dX11_about_0 rfl ?_
  refine gj_iload_n dX11_about_1 rfl ?_
  refine gj_V1 lkX11_146 H0 rfl rfl (ev_X11_isVoter_t H0 HT bT (by omega)) dX11_about_2 rfl rfl rfl rfl rfl ?_
  refine gj_if_eqN (tgt := 20) (by omega) dX11_about_5 rfl (fun zq0 => ?_) (fun zq0 => ?_)
  · exfalso; revert zq0; decide
  refine gj_iload_n dX11_about_8 rfl ?_
  refine gj_i2lN (by omega) dX11_about_9 ?_
  refine gj_lconst (v := lN 0) dX11_about_10 rfl ?_
  refine gj_ldc2 (v := lN 3) w_1081 dX11_about_11 ?_
  refine gj_S1 lkX11_50 (ev_X11_in_t (by omega) (by omega) (by omega)) dX11_about_14 rfl rfl rfl rfl rfl ?_
  refine gj_if_neN (tgt := 27) (by omega) dX11_about_17 rfl (fun zq0 => ?_) (fun zq0 => ?_)
  rotate_left
  · exfalso; revert zq0; decide
  refine gj_aload_n dX11_about_27 rfl ?_
  refine gj_V0 lkX11_124 H0 rfl rfl (ev_X11_layIce H0 HT HJ bT) dX11_about_28 rfl rfl rfl rfl rfl ?_
  refine gj_aload_n dX11_about_31 rfl ?_
  refine gj_iload_n dX11_about_32 rfl ?_
  refine gj_aload_n dX11_about_33 rfl ?_
  refine gj_V1 lkX11_149 ((mj_up_ne (by decide)).trans H0) rfl rfl (ev_X11_frostNow ((mj_up_ne (by decide)).trans H0) ((mj_up_ne (by decide)).trans HT) bT) dX11_about_34 rfl rfl rfl rfl rfl ?_
  have hb1 := bT.2.2.2.2.2.2.2.1 (T 29 % 7) (by omega)
  refine gj_V1 lkX11_152 ((mj_up_ne (by decide)).trans H0) rfl rfl (ev_X11_votesYes ((mj_up_ne (by decide)).trans H0) ((mj_up_ne (by decide)).trans HT) (mj_up_eq _ _ _) bT bT.2.2.2.2.2.1 (by omega) (by omega)) dX11_about_37 rfl rfl rfl rfl rfl ?_
  refine gj_cut 49 [some (.ref 100), some (.int (nI v)), some (.int (nI 2)), none] [] (mj_up h 105 (mj_ar 25 (fun q => T (4 + q)))) ?_ (fun jn49 => ?_)
  · -- behind 49
    refine gj_iload_n dX11_about_49 rfl ?_
    refine gj_if_neN (tgt := 65) (by omega) dX11_about_50 rfl (fun zq0 => ?_) (fun zq0 => ?_)
    rotate_left
    · exfalso; revert zq0; decide
    refine gj_iload_n dX11_about_65 rfl ?_
    refine gj_ic (w := 1) dX11_about_66 ?_
    refine gj_icmp_neN (tgt := 82) (by omega) (by omega) dX11_about_67 rfl (fun zq0 => ?_) (fun zq0 => ?_)
    rotate_left
    · exfalso; omega
    refine gj_iload_n dX11_about_82 rfl ?_
    refine gj_ic (w := 2) dX11_about_83 ?_
    refine gj_icmp_neN (tgt := 99) (by omega) (by omega) dX11_about_84 rfl (fun zq0 => ?_) (fun zq0 => ?_)
    · exfalso; omega
    refine gj_aload_n dX11_about_87 rfl ?_
    refine gfX11_7 rfl dX11_about_88 ((mj_up_ne (by decide)).trans H0) rfl ?_
    refine gj_bp 87 dX11_about_91 (by decide) ?_
    refine gj_iload_n dX11_about_93 rfl ?_
    refine gj_iaddN  dX11_about_94 ?_
    refine gj_ialdN dX11_about_95 ((mj_up_ne (by decide)).trans HT) (by omega) (by omega) ?_
    have hb2 := bT.2.2.2.2.2.2.2.2.2.2.2.2.1 v (by omega)
    refine gj_goto (tgt := 100) dX11_about_96 rfl ?_
    exact gj_ir rfl dX11_about_100 rfl rfl rfl
  refine gj_if_eqb (tgt := 47) dX11_about_40 rfl (fun zq3 => ?_) (fun zq3 => ?_)
  · -- 40 taken
    refine gj_ic (w := 0) dX11_about_47 ?_
    refine gj_istore_n (L' := [some (.ref 100), some (.int (nI v)), some (.int (nI 2)), some (.int (nI 0))]) dX11_about_48 (Nat.le_of_ble_eq_true rfl) rfl ?_
    refine gj_forget (i := 3) (L' := [some (.ref 100), some (.int (nI v)), some (.int (nI 2)), none]) rfl ?_
    exact jn49
  refine gj_ic (w := 1) dX11_about_43 ?_
  refine gj_goto (tgt := 48) dX11_about_44 rfl ?_
  refine gj_istore_n (L' := [some (.ref 100), some (.int (nI v)), some (.int (nI 2)), some (.int (nI 1))]) dX11_about_48 (Nat.le_of_ble_eq_true rfl) rfl ?_
  refine gj_forget (i := 3) (L' := [some (.ref 100), some (.int (nI v)), some (.int (nI 2)), none]) rfl ?_
  exact jn49
set_option maxHeartbeats 1000000 in
set_option maxRecDepth 10000 in
theorem ev_X11_about_3 {E : mj_E} {h : mj_H} {a0 a1 y2 y3 y4 y5 y6 : Nat} (H0 : h 100 = some (mj_mo a0 a1 y2 y3 y4 y5 y6)) {T : Nat → Nat} (HT : h 101 = some (mj_ar 362 T)) {J : Nat → Nat} (HJ : h 105 = some (mj_ar 25 J)) (bT : mj_Tb T) {v : Nat} (h0 : v < T 0) : mj_Ev E iX11_about [.ref 100, .int (nI v), .int (nI 3)] h (mj_R (some (.int (nI (if sp_mv T (fun q => T (4 + q)) (T (55 + T 29 % 7)) v then 1 else 0)))) (mj_up h 105 (mj_ar 25 (fun q => T (4 + q))))) := by
  refine mj_Ev.of (L0 := [some (.ref 100), some (.int (nI v)), some (.int (nI 3)), none]) pnRX11 (Nat.le_of_ble_eq_true rfl) rfl ?_
  have hb0 := bT.1
  refine gj_aload_n dX11_about_0 rfl ?_
  refine gj_iload_n dX11_about_1 rfl ?_
  refine gj_V1 lkX11_146 H0 rfl rfl (ev_X11_isVoter_t H0 HT bT (by omega)) dX11_about_2 rfl rfl rfl rfl rfl ?_
  refine gj_if_eqN (tgt := 20) (by omega) dX11_about_5 rfl (fun zq0 => ?_) (fun zq0 => ?_)
  · exfalso; revert zq0; decide
  refine gj_iload_n dX11_about_8 rfl ?_
  refine gj_i2lN (by omega) dX11_about_9 ?_
  refine gj_lconst (v := lN 0) dX11_about_10 rfl ?_
  refine gj_ldc2 (v := lN 3) w_1081 dX11_about_11 ?_
  refine gj_S1 lkX11_50 (ev_X11_in_t (by omega) (by omega) (by omega)) dX11_about_14 rfl rfl rfl rfl rfl ?_
  refine gj_if_neN (tgt := 27) (by omega) dX11_about_17 rfl (fun zq0 => ?_) (fun zq0 => ?_)
  rotate_left
  · exfalso; revert zq0; decide
  refine gj_aload_n dX11_about_27 rfl ?_
  refine gj_V0 lkX11_124 H0 rfl rfl (ev_X11_layIce H0 HT HJ bT) dX11_about_28 rfl rfl rfl rfl rfl ?_
  refine gj_aload_n dX11_about_31 rfl ?_
  refine gj_iload_n dX11_about_32 rfl ?_
  refine gj_aload_n dX11_about_33 rfl ?_
  refine gj_V1 lkX11_149 ((mj_up_ne (by decide)).trans H0) rfl rfl (ev_X11_frostNow ((mj_up_ne (by decide)).trans H0) ((mj_up_ne (by decide)).trans HT) bT) dX11_about_34 rfl rfl rfl rfl rfl ?_
  have hb1 := bT.2.2.2.2.2.2.2.1 (T 29 % 7) (by omega)
  refine gj_V1 lkX11_152 ((mj_up_ne (by decide)).trans H0) rfl rfl (ev_X11_votesYes ((mj_up_ne (by decide)).trans H0) ((mj_up_ne (by decide)).trans HT) (mj_up_eq _ _ _) bT bT.2.2.2.2.2.1 (by omega) (by omega)) dX11_about_37 rfl rfl rfl rfl rfl ?_
  refine gj_if_eqb (tgt := 47) dX11_about_40 rfl (fun zq2 => ?_) (fun zq2 => ?_)
  · -- 40 taken
    have hw9 := zq2
    refine gj_ic (w := 0) dX11_about_47 ?_
    refine gj_istore_n (L' := [some (.ref 100), some (.int (nI v)), some (.int (nI 3)), some (.int (nI 0))]) dX11_about_48 (Nat.le_of_ble_eq_true rfl) rfl ?_
    refine gj_iload_n dX11_about_49 rfl ?_
    refine gj_if_neN (tgt := 65) (by omega) dX11_about_50 rfl (fun zq0 => ?_) (fun zq0 => ?_)
    rotate_left
    · exfalso; revert zq0; decide
    refine gj_iload_n dX11_about_65 rfl ?_
    refine gj_ic (w := 1) dX11_about_66 ?_
    refine gj_icmp_neN (tgt := 82) (by omega) (by omega) dX11_about_67 rfl (fun zq0 => ?_) (fun zq0 => ?_)
    rotate_left
    · exfalso; omega
    refine gj_iload_n dX11_about_82 rfl ?_
    refine gj_ic (w := 2) dX11_about_83 ?_
    refine gj_icmp_neN (tgt := 99) (by omega) (by omega) dX11_about_84 rfl (fun zq0 => ?_) (fun zq0 => ?_)
    rotate_left
    · exfalso; omega
    refine gj_iload_n dX11_about_99 rfl ?_
    exact gj_ir rfl dX11_about_100 rfl (congrArg nI (by simp [hw9])) rfl
  have hw9 := zq2
  refine gj_ic (w := 1) dX11_about_43 ?_
  refine gj_goto (tgt := 48) dX11_about_44 rfl ?_
  refine gj_istore_n (L' := [some (.ref 100), some (.int (nI v)), some (.int (nI 3)), some (.int (nI 1))]) dX11_about_48 (Nat.le_of_ble_eq_true rfl) rfl ?_
  refine gj_iload_n dX11_about_49 rfl ?_
  refine gj_if_neN (tgt := 65) (by omega) dX11_about_50 rfl (fun zq0 => ?_) (fun zq0 => ?_)
  rotate_left
  · exfalso; revert zq0; decide
  refine gj_iload_n dX11_about_65 rfl ?_
  refine gj_ic (w := 1) dX11_about_66 ?_
  refine gj_icmp_neN (tgt := 82) (by omega) (by omega) dX11_about_67 rfl (fun zq0 => ?_) (fun zq0 => ?_)
  rotate_left
  · exfalso; omega
  refine gj_iload_n dX11_about_82 rfl ?_
  refine gj_ic (w := 2) dX11_about_83 ?_
  refine gj_icmp_neN (tgt := 99) (by omega) (by omega) dX11_about_84 rfl (fun zq0 => ?_) (fun zq0 => ?_)
  rotate_left
  · exfalso; omega
  refine gj_iload_n dX11_about_99 rfl ?_
  exact gj_ir rfl dX11_about_100 rfl (congrArg nI (by simp [hw9])) rfl
set_option maxHeartbeats 1000000 in
set_option maxRecDepth 10000 in
theorem ev_X11_then_0 {E : mj_E} {h : mj_H} {a0 a1 y2 y3 y4 y5 y6 : Nat} (H0 : h 100 = some (mj_mo a0 a1 y2 y3 y4 y5 y6)) {T : Nat → Nat} (HT : h 101 = some (mj_ar 362 T)) {J : Nat → Nat} (HJ : h 105 = some (mj_ar 25 J)) (bT : mj_Tb T) {c m : Nat} (h0 : c < 25) (h1 : m ≤ 60) : mj_Ev E iX11_then [.ref 100, .int (nI c), .int (nI m), .int (nI 0)] h (mj_R (some (.int (nI ((sp_days (fun q => T (30 + q)) (fun q => T (55 + q)) (fun q => T (62 + q)) (T 29) (fun q => T (4 + q)) m) c)))) (mj_up (mj_up h 105 (mj_ar 25 (fun q => T (4 + q)))) 105 (mj_ar 25 (sp_days (fun q => T (30 + q)) (fun q => T (55 + q)) (fun q => T (62 + q)) (T 29) (fun q => T (4 + q)) m)))) := by
  refine mj_Ev.of (L0 := [some (.ref 100), some (.int (nI c)), some (.int (nI m)), some (.int (nI 0))]) pnRX11 (Nat.le_of_ble_eq_true rfl) rfl ?_
  refine gj_iload_n dX11_then_0 rfl ?_
  refine gj_S1 lkX11_70 (ev_X11_isCell_t (by omega) (by omega)) dX11_then_1 rfl rfl rfl rfl rfl ?_
  refine gj_if_eqN (tgt := 29) (by omega) dX11_then_4 rfl (fun zq0 => ?_) (fun zq0 => ?_)
  · exfalso; revert zq0; decide
  refine gj_iload_n dX11_then_7 rfl ?_
  refine gj_i2lN (by omega) dX11_then_8 ?_
  refine gj_lconst (v := lN 0) dX11_then_9 rfl ?_
  refine gj_ldc2 (v := lN 60) w_1097 dX11_then_10 ?_
  refine gj_S1 lkX11_50 (ev_X11_in_t (by omega) (by omega) (by omega)) dX11_then_13 rfl rfl rfl rfl rfl ?_
  refine gj_if_eqN (tgt := 29) (by omega) dX11_then_16 rfl (fun zq0 => ?_) (fun zq0 => ?_)
  · exfalso; revert zq0; decide
  refine gj_iload_n dX11_then_19 rfl ?_
  refine gj_i2lN (by omega) dX11_then_20 ?_
  refine gj_lconst (v := lN 0) dX11_then_21 rfl ?_
  refine gj_lconst (v := lN 1) dX11_then_22 rfl ?_
  refine gj_S1 lkX11_50 (ev_X11_in_t (by omega) (by omega) (by omega)) dX11_then_23 rfl rfl rfl rfl rfl ?_
  refine gj_if_neN (tgt := 36) (by omega) dX11_then_26 rfl (fun zq0 => ?_) (fun zq0 => ?_)
  rotate_left
  · exfalso; revert zq0; decide
  refine gj_aload_n dX11_then_36 rfl ?_
  refine gj_V0 lkX11_124 H0 rfl rfl (ev_X11_layIce H0 HT HJ bT) dX11_then_37 rfl rfl rfl rfl rfl ?_
  refine gj_aload_n dX11_then_40 rfl ?_
  refine gj_iload_n dX11_then_41 rfl ?_
  refine gj_V0 lkX11_127 ((mj_up_ne (by decide)).trans H0) rfl rfl (ev_X11_goDays ((mj_up_ne (by decide)).trans H0) ((mj_up_ne (by decide)).trans HT) (mj_up_eq _ _ _) bT bT.2.2.2.2.2.1 (by omega)) dX11_then_42 rfl rfl rfl rfl rfl ?_
  refine gj_iload_n dX11_then_45 rfl ?_
  refine gj_if_neN (tgt := 58) (by omega) dX11_then_46 rfl (fun zq0 => ?_) (fun zq0 => ?_)
  · exfalso; revert zq0; decide
  refine gj_aload_n dX11_then_49 rfl ?_
  refine gfX11_27 rfl dX11_then_50 ((mj_up_ne (by decide)).trans ((mj_up_ne (by decide)).trans H0)) rfl ?_
  refine gj_iload_n dX11_then_53 rfl ?_
  refine gj_ialdN dX11_then_54 (mj_up_eq _ _ _) (by omega) (by omega) ?_
  have hb1 := (show ∀ q, q < 25 → (sp_days (fun q => T (30 + q)) (fun q => T (55 + q)) (fun q => T (62 + q)) (T 29) (fun q => T (4 + q)) m) q ≤ 99 from fun q hq => sp_icem_le (bT.2.2.2.2.2.1 q hq)) c (by omega)
  refine gj_goto (tgt := 63) dX11_then_55 rfl ?_
  exact gj_ir rfl dX11_then_63 rfl rfl rfl
set_option maxHeartbeats 1000000 in
set_option maxRecDepth 10000 in
theorem ev_X11_then_1 {E : mj_E} {h : mj_H} {a0 a1 y2 y3 y4 y5 y6 : Nat} (H0 : h 100 = some (mj_mo a0 a1 y2 y3 y4 y5 y6)) {T : Nat → Nat} (HT : h 101 = some (mj_ar 362 T)) {J : Nat → Nat} (HJ : h 105 = some (mj_ar 25 J)) (bT : mj_Tb T) {c m : Nat} (h0 : c < 25) (h1 : m ≤ 60) : mj_Ev E iX11_then [.ref 100, .int (nI c), .int (nI m), .int (nI 1)] h (mj_R (some (.int (nI (sp_bear (T (30 + c)) ((sp_days (fun q => T (30 + q)) (fun q => T (55 + q)) (fun q => T (62 + q)) (T 29) (fun q => T (4 + q)) m) c))))) (mj_up (mj_up h 105 (mj_ar 25 (fun q => T (4 + q)))) 105 (mj_ar 25 (sp_days (fun q => T (30 + q)) (fun q => T (55 + q)) (fun q => T (62 + q)) (T 29) (fun q => T (4 + q)) m)))) := by
  refine mj_Ev.of (L0 := [some (.ref 100), some (.int (nI c)), some (.int (nI m)), some (.int (nI 1))]) pnRX11 (Nat.le_of_ble_eq_true rfl) rfl ?_
  refine gj_iload_n dX11_then_0 rfl ?_
  refine gj_S1 lkX11_70 (ev_X11_isCell_t (by omega) (by omega)) dX11_then_1 rfl rfl rfl rfl rfl ?_
  refine gj_if_eqN (tgt := 29) (by omega) dX11_then_4 rfl (fun zq0 => ?_) (fun zq0 => ?_)
  · exfalso; revert zq0; decide
  refine gj_iload_n dX11_then_7 rfl ?_
  refine gj_i2lN (by omega) dX11_then_8 ?_
  refine gj_lconst (v := lN 0) dX11_then_9 rfl ?_
  refine gj_ldc2 (v := lN 60) w_1097 dX11_then_10 ?_
  refine gj_S1 lkX11_50 (ev_X11_in_t (by omega) (by omega) (by omega)) dX11_then_13 rfl rfl rfl rfl rfl ?_
  refine gj_if_eqN (tgt := 29) (by omega) dX11_then_16 rfl (fun zq0 => ?_) (fun zq0 => ?_)
  · exfalso; revert zq0; decide
  refine gj_iload_n dX11_then_19 rfl ?_
  refine gj_i2lN (by omega) dX11_then_20 ?_
  refine gj_lconst (v := lN 0) dX11_then_21 rfl ?_
  refine gj_lconst (v := lN 1) dX11_then_22 rfl ?_
  refine gj_S1 lkX11_50 (ev_X11_in_t (by omega) (by omega) (by omega)) dX11_then_23 rfl rfl rfl rfl rfl ?_
  refine gj_if_neN (tgt := 36) (by omega) dX11_then_26 rfl (fun zq0 => ?_) (fun zq0 => ?_)
  rotate_left
  · exfalso; revert zq0; decide
  refine gj_aload_n dX11_then_36 rfl ?_
  refine gj_V0 lkX11_124 H0 rfl rfl (ev_X11_layIce H0 HT HJ bT) dX11_then_37 rfl rfl rfl rfl rfl ?_
  refine gj_aload_n dX11_then_40 rfl ?_
  refine gj_iload_n dX11_then_41 rfl ?_
  refine gj_V0 lkX11_127 ((mj_up_ne (by decide)).trans H0) rfl rfl (ev_X11_goDays ((mj_up_ne (by decide)).trans H0) ((mj_up_ne (by decide)).trans HT) (mj_up_eq _ _ _) bT bT.2.2.2.2.2.1 (by omega)) dX11_then_42 rfl rfl rfl rfl rfl ?_
  refine gj_iload_n dX11_then_45 rfl ?_
  refine gj_if_neN (tgt := 58) (by omega) dX11_then_46 rfl (fun zq0 => ?_) (fun zq0 => ?_)
  rotate_left
  · exfalso; revert zq0; decide
  refine gj_aload_n dX11_then_58 rfl ?_
  refine gj_iload_n dX11_then_59 rfl ?_
  refine gj_V1 lkX11_116 ((mj_up_ne (by decide)).trans ((mj_up_ne (by decide)).trans H0)) rfl rfl (ev_X11_bears ((mj_up_ne (by decide)).trans ((mj_up_ne (by decide)).trans H0)) ((mj_up_ne (by decide)).trans ((mj_up_ne (by decide)).trans HT)) (mj_up_eq _ _ _) bT (show ∀ q, q < 25 → (sp_days (fun q => T (30 + q)) (fun q => T (55 + q)) (fun q => T (62 + q)) (T 29) (fun q => T (4 + q)) m) q ≤ 99 from fun q hq => sp_icem_le (bT.2.2.2.2.2.1 q hq)) (by omega)) dX11_then_60 rfl rfl rfl rfl rfl ?_
  have hb1 := @sp_bear_le (T (30 + c)) ((sp_days (fun q => T (30 + q)) (fun q => T (55 + q)) (fun q => T (62 + q)) (T 29) (fun q => T (4 + q)) m) c)
  have hb2 := (show ∀ q, q < 25 → (sp_days (fun q => T (30 + q)) (fun q => T (55 + q)) (fun q => T (62 + q)) (T 29) (fun q => T (4 + q)) m) q ≤ 99 from fun q hq => sp_icem_le (bT.2.2.2.2.2.1 q hq)) c (by omega)
  exact gj_ir rfl dX11_then_63 rfl rfl rfl
