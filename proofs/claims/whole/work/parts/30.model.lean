def mj_mo (a0 a1 y2 y3 y4 y5 y6 : Nat) : va_E := .inr (9, [.ref 101, .ref 102, .ref 103, .ref 104, .long (lN a0), .long (lN a1), .ref 105, .ref 106, .ref 107, .int (nI y2), .int (nI y3), .int (nI y4), .int (nI y5), .int (nI y6), .ref 108, .ref 109])
/-- what the reference's row of all that is told holds at the most -/
def mj_Tb (T : Nat → Nat) : Prop := T 0 ≤ 7 ∧ T 1 ≤ 6 ∧ T 2 ≤ 6 ∧ T 3 ≤ 8 ∧ T 29 ≤ 999 ∧ (∀ q, q < 25 → T (4 + q) ≤ 99) ∧ (∀ q, q < 25 → T (30 + q) ≤ 5) ∧ (∀ q, q < 7 → T (55 + q) ≤ 9) ∧ (∀ q, q < 7 → T (62 + q) ≤ 9) ∧ (∀ q, q < 4 → T (69 + q) ≤ 99) ∧ (∀ q, q < 7 → T (73 + q) ≤ 5) ∧ (∀ q, q < 7 → T (80 + q) ≤ 99) ∧ (∀ q, q < 7 → T (87 + q) ≤ 24) ∧ (∀ q, q < 30 → T (94 + q) ≤ 99) ∧ (∀ q, q < 30 → T (124 + q) ≤ 198) ∧ ∀ q, q < 6 → T (94 + 5 * q + 2) ≤ 9 ∧ T (94 + 5 * q + 3) ≤ 9
theorem mj_li1 {x lo hi : Int64} (c : lg_cmp x lo < 0) : decide (lo ≤ x ∧ x ≤ hi) = false := by simp only [decide_eq_false_iff_not]; exact fun z => Int64.not_le.mpr ((lg_cmp_lt _ _).mp c) z.1
theorem mj_li2 {x lo hi : Int64} (c : 0 < lg_cmp x hi) : decide (lo ≤ x ∧ x ≤ hi) = false := by simp only [decide_eq_false_iff_not]; exact fun z => Int64.not_le.mpr ((lg_cmp_gt _ _).mp c) z.2
theorem mj_li3 {x lo hi : Int64} (c : ¬ lg_cmp x lo < 0) (d : ¬ 0 < lg_cmp x hi) : decide (lo ≤ x ∧ x ≤ hi) = true := by simp only [decide_eq_true_eq]; exact ⟨Int64.not_lt.mp (fun q => c ((lg_cmp_lt _ _).mpr q)), Int64.not_lt.mp (fun q => d ((lg_cmp_gt _ _).mpr q))⟩
set_option maxHeartbeats 1000000 in
set_option maxRecDepth 10000 in
theorem ev_X11_in {E : mj_E} {h : mj_H} {x lo hi : Int64} : mj_Ev E iX11_in [.long x, .long lo, .long hi] h (mj_R (some (.int (mj_b (decide (lo ≤ x ∧ x ≤ hi))))) h) := by
  refine mj_Ev.of (L0 := [some (.long x), none, some (.long lo), none, some (.long hi), none]) pnRX11 (Nat.le_of_ble_eq_true rfl) rfl ?_
  refine gj_lload_n dX11_in_0 rfl ?_
  refine gj_lload_n dX11_in_1 rfl ?_
  refine gj_lcmp dX11_in_2 ?_
  refine gj_if_lt (tgt := 17) dX11_in_3 rfl (fun zq1 => ?_) (fun zq1 => ?_)
  · -- 3 taken
    refine gj_ic (w := 0) dX11_in_17 ?_
    exact gj_zr rfl dX11_in_18 rfl (mj_b0 (by first | exact mj_li1 zq1 | exact mj_li2 zq2 | exact mj_li3 zq1 zq2)) rfl
  refine gj_lload_n dX11_in_6 rfl ?_
  refine gj_lload dX11_in_7 rfl ?_
  refine gj_lcmp dX11_in_9 ?_
  refine gj_if_gt (tgt := 17) dX11_in_10 rfl (fun zq2 => ?_) (fun zq2 => ?_)
  · -- 10 taken
    refine gj_ic (w := 0) dX11_in_17 ?_
    exact gj_zr rfl dX11_in_18 rfl (mj_b0 (by first | exact mj_li1 zq1 | exact mj_li2 zq2 | exact mj_li3 zq1 zq2)) rfl
  refine gj_ic (w := 1) dX11_in_13 ?_
  refine gj_goto (tgt := 18) dX11_in_14 rfl ?_
  exact gj_zr rfl dX11_in_18 rfl (mj_b1 (by first | exact mj_li1 zq1 | exact mj_li2 zq2 | exact mj_li3 zq1 zq2)) rfl
theorem ev_X11_in_t {E : mj_E} {h : mj_H} {x lo hi : Nat} (h1 : lo ≤ x) (h2 : x ≤ hi) (h3 : hi < 2 ^ 31) : mj_Ev E iX11_in [.long (lN x), .long (lN lo), .long (lN hi)] h (mj_R (some (.int (nI 1))) h) := by
  have := ev_X11_in (E := E) (h := h) (x := lN x) (lo := lN lo) (hi := lN hi)
  rw [decide_eq_true ⟨(lN_le (by omega) (by omega)).mpr h1, (lN_le (by omega) (by omega)).mpr h2⟩] at this
  exact this
theorem mj_inx {x : Int32} {lo hi : Nat} (h1 : lo < 2 ^ 31) (h3 : hi < 2 ^ 31) : decide (lN lo ≤ x.toInt64 ∧ x.toInt64 ≤ lN hi) = decide (nI lo ≤ x ∧ x ≤ nI hi) := by
  refine decide_eq_decide.mpr ?_
  rw [Int64.le_iff_toInt_le, Int64.le_iff_toInt_le, Int32.le_iff_toInt_le, Int32.le_iff_toInt_le, Int32.toInt_toInt64, nI_toInt h1, nI_toInt h3, lN_toInt h1, lN_toInt h3]
theorem ev_X11_in_x {E : mj_E} {h : mj_H} {x : Int32} {lo hi : Nat} (h1 : lo < 2 ^ 31) (h3 : hi < 2 ^ 31) : mj_Ev E iX11_in [.long x.toInt64, .long (lN lo), .long (lN hi)] h (mj_R (some (.int (mj_b (decide (nI lo ≤ x ∧ x ≤ nI hi))))) h) := by
  have := ev_X11_in (E := E) (h := h) (x := x.toInt64) (lo := lN lo) (hi := lN hi)
  rw [mj_inx h1 h3] at this
  exact this
set_option maxHeartbeats 1000000 in
set_option maxRecDepth 10000 in
theorem ev_X11_isCell {E : mj_E} {h : mj_H} {x : Int32} : mj_Ev E iX11_isCell [.int x] h (mj_R (some (.int (mj_b (decide (nI 0 ≤ x ∧ x ≤ nI 24))))) h) := by
  refine mj_Ev.of (L0 := [some (.int x)]) pnRX11 (Nat.le_of_ble_eq_true rfl) rfl ?_
  refine gj_iload_n dX11_isCell_0 rfl ?_
  refine gj_i2l (v := x.toInt64) dX11_isCell_1 rfl ?_
  refine gj_lconst (v := lN 0) dX11_isCell_2 rfl ?_
  refine gj_ldc2 (v := lN 24) w_1066 dX11_isCell_3 ?_
  refine gj_S1 lkX11_50 (ev_X11_in_x (by omega) (by omega)) dX11_isCell_6 rfl rfl rfl rfl rfl ?_
  exact gj_zr rfl dX11_isCell_9 rfl rfl rfl
theorem ev_X11_isCell_t {E : mj_E} {h : mj_H} {x : Nat} (h1 : 0 ≤ x) (h2 : x ≤ 24) : mj_Ev E iX11_isCell [.int (nI x)] h (mj_R (some (.int (nI 1))) h) := by
  have := ev_X11_isCell (E := E) (h := h) (x := nI x)
  rw [decide_eq_true ⟨mj_leN h1 (by omega), mj_leN h2 (by decide)⟩] at this
  exact this
set_option maxHeartbeats 1000000 in
set_option maxRecDepth 10000 in
theorem ev_X11_isIce {E : mj_E} {h : mj_H} {x : Int32} : mj_Ev E iX11_isIce [.int x] h (mj_R (some (.int (mj_b (decide (nI 0 ≤ x ∧ x ≤ nI 99))))) h) := by
  refine mj_Ev.of (L0 := [some (.int x)]) pnRX11 (Nat.le_of_ble_eq_true rfl) rfl ?_
  refine gj_iload_n dX11_isIce_0 rfl ?_
  refine gj_i2l (v := x.toInt64) dX11_isIce_1 rfl ?_
  refine gj_lconst (v := lN 0) dX11_isIce_2 rfl ?_
  refine gj_ldc2 (v := lN 99) w_1047 dX11_isIce_3 ?_
  refine gj_S1 lkX11_50 (ev_X11_in_x (by omega) (by omega)) dX11_isIce_6 rfl rfl rfl rfl rfl ?_
  exact gj_zr rfl dX11_isIce_9 rfl rfl rfl
theorem ev_X11_isIce_t {E : mj_E} {h : mj_H} {x : Nat} (h1 : 0 ≤ x) (h2 : x ≤ 99) : mj_Ev E iX11_isIce [.int (nI x)] h (mj_R (some (.int (nI 1))) h) := by
  have := ev_X11_isIce (E := E) (h := h) (x := nI x)
  rw [decide_eq_true ⟨mj_leN h1 (by omega), mj_leN h2 (by decide)⟩] at this
  exact this
set_option maxHeartbeats 1000000 in
set_option maxRecDepth 10000 in
theorem ev_X11_isWeather {E : mj_E} {h : mj_H} {x : Int32} : mj_Ev E iX11_isWeather [.int x] h (mj_R (some (.int (mj_b (decide (nI 0 ≤ x ∧ x ≤ nI 9))))) h) := by
  refine mj_Ev.of (L0 := [some (.int x)]) pnRX11 (Nat.le_of_ble_eq_true rfl) rfl ?_
  refine gj_iload_n dX11_isWeather_0 rfl ?_
  refine gj_i2l (v := x.toInt64) dX11_isWeather_1 rfl ?_
  refine gj_lconst (v := lN 0) dX11_isWeather_2 rfl ?_
  refine gj_ldc2 (v := lN 9) w_1076 dX11_isWeather_3 ?_
  refine gj_S1 lkX11_50 (ev_X11_in_x (by omega) (by omega)) dX11_isWeather_6 rfl rfl rfl rfl rfl ?_
  exact gj_zr rfl dX11_isWeather_9 rfl rfl rfl
theorem ev_X11_isWeather_t {E : mj_E} {h : mj_H} {x : Nat} (h1 : 0 ≤ x) (h2 : x ≤ 9) : mj_Ev E iX11_isWeather [.int (nI x)] h (mj_R (some (.int (nI 1))) h) := by
  have := ev_X11_isWeather (E := E) (h := h) (x := nI x)
  rw [decide_eq_true ⟨mj_leN h1 (by omega), mj_leN h2 (by decide)⟩] at this
  exact this
set_option maxHeartbeats 1000000 in
set_option maxRecDepth 10000 in
theorem ev_X11_isBurden {E : mj_E} {h : mj_H} {x : Int32} : mj_Ev E iX11_isBurden [.int x] h (mj_R (some (.int (mj_b (decide (nI 1 ≤ x ∧ x ≤ nI 198))))) h) := by
  refine mj_Ev.of (L0 := [some (.int x)]) pnRX11 (Nat.le_of_ble_eq_true rfl) rfl ?_
  refine gj_iload_n dX11_isBurden_0 rfl ?_
  refine gj_i2l (v := x.toInt64) dX11_isBurden_1 rfl ?_
  refine gj_lconst (v := lN 1) dX11_isBurden_2 rfl ?_
  refine gj_ldc2 (v := lN 198) w_1197 dX11_isBurden_3 ?_
  refine gj_S1 lkX11_50 (ev_X11_in_x (by omega) (by omega)) dX11_isBurden_6 rfl rfl rfl rfl rfl ?_
  exact gj_zr rfl dX11_isBurden_9 rfl rfl rfl
theorem ev_X11_isBurden_t {E : mj_E} {h : mj_H} {x : Nat} (h1 : 1 ≤ x) (h2 : x ≤ 198) : mj_Ev E iX11_isBurden [.int (nI x)] h (mj_R (some (.int (nI 1))) h) := by
  have := ev_X11_isBurden (E := E) (h := h) (x := nI x)
  rw [decide_eq_true ⟨mj_leN h1 (by omega), mj_leN h2 (by decide)⟩] at this
  exact this
set_option maxHeartbeats 1000000 in
set_option maxRecDepth 10000 in
theorem ev_X11_has {E : mj_E} {h : mj_H} {s i : Nat} (hs : s < 2 ^ 31) (hi : i < 31) : mj_Ev E iX11_has [.int (nI s), .int (nI i)] h (mj_R (some (.int (mj_b (Nat.testBit s i)))) h) := by
  refine mj_Ev.of (L0 := [some (.int (nI s)), some (.int (nI i))]) pnRX11 (Nat.le_of_ble_eq_true rfl) rfl ?_
  refine gj_iload_n dX11_has_0 rfl ?_
  refine gj_iload_n dX11_has_1 rfl ?_
  refine gj_ishrN (by omega) (by omega) dX11_has_2 ?_
  refine gj_ic (w := 1) dX11_has_3 ?_
  refine gj_iandN  dX11_has_4 ?_
  refine gj_ic (w := 1) dX11_has_5 ?_
  refine gj_icmp_neN (tgt := 13) (Nat.lt_of_le_of_lt Nat.and_le_right (by decide)) (by omega) dX11_has_6 rfl (fun zq1 => ?_) (fun zq1 => ?_)
  · -- 6 taken
    refine gj_ic (w := 0) dX11_has_13 ?_
    exact gj_zr rfl dX11_has_14 rfl (mj_b0 (by rw [mj_tb1] at zq1; simpa using zq1)) rfl
  refine gj_ic (w := 1) dX11_has_9 ?_
  refine gj_goto (tgt := 14) dX11_has_10 rfl ?_
  exact gj_zr rfl dX11_has_14 rfl (mj_b1 (by rw [mj_tb1] at zq1; simpa using zq1)) rfl
set_option maxHeartbeats 1000000 in
set_option maxRecDepth 10000 in
theorem ev_X11_growsAs {E : mj_E} {h : mj_H} {k i f : Nat} (hk : k ≤ 5) (hi : i < 2 ^ 30) (hf : f < 2 ^ 30) : mj_Ev E iX11_growsAs [.int (nI k), .int (nI i), .int (nI f)] h (mj_R (some (.int (nI (sp_grow k i f)))) h) := by
  refine mj_Ev.of (L0 := [some (.int (nI k)), some (.int (nI i)), some (.int (nI f))]) pnRX11 (Nat.le_of_ble_eq_true rfl) rfl ?_
  refine gj_iload_n dX11_growsAs_0 rfl ?_
  rcases (by omega : k = 0 ∨ k = 1 ∨ k = 2 ∨ k = 3 ∨ k = 4 ∨ k = 5) with zq1 | zq1 | zq1 | zq1 | zq1 | zq1
  · -- 0
    subst zq1
    refine gj_tabOut (a := 0) (tgt := 80) (by decide) dX11_growsAs_1 (by decide) rfl ?_
    refine gj_iload_n dX11_growsAs_80 rfl ?_
    exact gj_ir rfl dX11_growsAs_81 rfl (congrArg nI (by unfold sp_grow; (repeat' split) <;> omega)) rfl
  · -- 1
    subst zq1
    refine gj_tabIn (a := 1) (tgt := 36) (by decide) dX11_growsAs_1 (by decide) (by decide) rfl rfl ?_
    refine gj_iload_n dX11_growsAs_36 rfl ?_
    refine gj_ic (w := 2) dX11_growsAs_37 ?_
    refine gj_idivN (by omega) (by omega) (by omega) dX11_growsAs_38 ?_
    exact gj_ir rfl dX11_growsAs_39 rfl (congrArg nI (by unfold sp_grow; (repeat' split) <;> omega)) rfl
  · -- 2
    subst zq1
    refine gj_tabIn (a := 2) (tgt := 54) (by decide) dX11_growsAs_1 (by decide) (by decide) rfl rfl ?_
    refine gj_iload_n dX11_growsAs_54 rfl ?_
    refine gj_ic (w := 2) dX11_growsAs_55 ?_
    refine gj_icmp_leN (tgt := 65) (by omega) (by omega) dX11_growsAs_56 rfl (fun zq2 => ?_) (fun zq2 => ?_)
    · -- 56 taken
      refine gj_ic (w := 0) dX11_growsAs_65 ?_
      exact gj_ir rfl dX11_growsAs_66 rfl (congrArg nI (by unfold sp_grow; (repeat' split) <;> omega)) rfl
    refine gj_iload_n dX11_growsAs_59 rfl ?_
    refine gj_ic (w := 2) dX11_growsAs_60 ?_
    refine gj_isubN (by omega) dX11_growsAs_61 ?_
    refine gj_goto (tgt := 66) dX11_growsAs_62 rfl ?_
    exact gj_ir rfl dX11_growsAs_66 rfl (congrArg nI (by unfold sp_grow; (repeat' split) <;> omega)) rfl
  · -- 3
    subst zq1
    refine gj_tabIn (a := 3) (tgt := 67) (by decide) dX11_growsAs_1 (by decide) (by decide) rfl rfl ?_
    refine gj_iload_n dX11_growsAs_67 rfl ?_
    refine gj_ic (w := 1) dX11_growsAs_68 ?_
    refine gj_icmp_ltN (tgt := 78) (by omega) (by omega) dX11_growsAs_69 rfl (fun zq3 => ?_) (fun zq3 => ?_)
    · -- 69 taken
      refine gj_iload_n dX11_growsAs_78 rfl ?_
      exact gj_ir rfl dX11_growsAs_79 rfl (congrArg nI (by unfold sp_grow; (repeat' split) <;> omega)) rfl
    refine gj_iload_n dX11_growsAs_72 rfl ?_
    refine gj_ic (w := 1) dX11_growsAs_73 ?_
    refine gj_iaddN  dX11_growsAs_74 ?_
    refine gj_goto (tgt := 79) dX11_growsAs_75 rfl ?_
    exact gj_ir rfl dX11_growsAs_79 rfl (congrArg nI (by unfold sp_grow; (repeat' split) <;> omega)) rfl
  · -- 4
    subst zq1
    refine gj_tabIn (a := 4) (tgt := 40) (by decide) dX11_growsAs_1 (by decide) (by decide) rfl rfl ?_
    refine gj_iload_n dX11_growsAs_40 rfl ?_
    refine gj_bp 10 dX11_growsAs_41 (by decide) ?_
    refine gj_icmp_geN (tgt := 50) (by omega) (by omega) dX11_growsAs_43 rfl (fun zq4 => ?_) (fun zq4 => ?_)
    · -- 43 taken
      refine gj_iload_n dX11_growsAs_50 rfl ?_
      refine gj_ic (w := 2) dX11_growsAs_51 ?_
      refine gj_idivN (by omega) (by omega) (by omega) dX11_growsAs_52 ?_
      exact gj_ir rfl dX11_growsAs_53 rfl (congrArg nI (by unfold sp_grow; (repeat' split) <;> omega)) rfl
    refine gj_ic (w := 0) dX11_growsAs_46 ?_
    refine gj_goto (tgt := 53) dX11_growsAs_47 rfl ?_
    exact gj_ir rfl dX11_growsAs_53 rfl (congrArg nI (by unfold sp_grow; (repeat' split) <;> omega)) rfl
  subst zq1
  refine gj_tabIn (a := 5) (tgt := 54) (by decide) dX11_growsAs_1 (by decide) (by decide) rfl rfl ?_
  refine gj_iload_n dX11_growsAs_54 rfl ?_
  refine gj_ic (w := 2) dX11_growsAs_55 ?_
  refine gj_icmp_leN (tgt := 65) (by omega) (by omega) dX11_growsAs_56 rfl (fun zq5 => ?_) (fun zq5 => ?_)
  · -- 56 taken
    refine gj_ic (w := 0) dX11_growsAs_65 ?_
    exact gj_ir rfl dX11_growsAs_66 rfl (congrArg nI (by unfold sp_grow; (repeat' split) <;> omega)) rfl
  refine gj_iload_n dX11_growsAs_59 rfl ?_
  refine gj_ic (w := 2) dX11_growsAs_60 ?_
  refine gj_isubN (by omega) dX11_growsAs_61 ?_
  refine gj_goto (tgt := 66) dX11_growsAs_62 rfl ?_
  exact gj_ir rfl dX11_growsAs_66 rfl (congrArg nI (by unfold sp_grow; (repeat' split) <;> omega)) rfl
set_option maxHeartbeats 1000000 in
set_option maxRecDepth 10000 in
theorem ev_X11_meltsAs {E : mj_E} {h : mj_H} {k f : Nat} (hk : k ≤ 5) (hf : f < 2 ^ 30) : mj_Ev E iX11_meltsAs [.int (nI k), .int (nI f)] h (mj_R (some (.int (nI (sp_melt k f)))) h) := by
  refine mj_Ev.of (L0 := [some (.int (nI k)), some (.int (nI f))]) pnRX11 (Nat.le_of_ble_eq_true rfl) rfl ?_
  refine gj_iload_n dX11_meltsAs_0 rfl ?_
  refine gj_ic (w := 1) dX11_meltsAs_1 ?_
  refine gj_icmp_eqN (tgt := 10) (by omega) (by omega) dX11_meltsAs_2 rfl (fun zq1 => ?_) (fun zq1 => ?_)
  · -- 2 taken
    refine gj_iload_n dX11_meltsAs_10 rfl ?_
    refine gj_ic (w := 1) dX11_meltsAs_11 ?_
    refine gj_iaddN  dX11_meltsAs_12 ?_
    refine gj_goto (tgt := 33) dX11_meltsAs_13 rfl ?_
    exact gj_ir rfl dX11_meltsAs_33 rfl (congrArg nI (by unfold sp_melt; (repeat' split) <;> omega)) rfl
  refine gj_iload_n dX11_meltsAs_5 rfl ?_
  refine gj_ic (w := 4) dX11_meltsAs_6 ?_
  refine gj_icmp_neN (tgt := 16) (by omega) (by omega) dX11_meltsAs_7 rfl (fun zq2 => ?_) (fun zq2 => ?_)
  · -- 7 taken
    refine gj_iload_n dX11_meltsAs_16 rfl ?_
    refine gj_ic (w := 2) dX11_meltsAs_17 ?_
    refine gj_icmp_eqN (tgt := 26) (by omega) (by omega) dX11_meltsAs_18 rfl (fun zq3 => ?_) (fun zq3 => ?_)
    · -- 18 taken
      refine gj_iload_n dX11_meltsAs_26 rfl ?_
      refine gj_ic (w := 2) dX11_meltsAs_27 ?_
      refine gj_idivN (by omega) (by omega) (by omega) dX11_meltsAs_28 ?_
      refine gj_goto (tgt := 33) dX11_meltsAs_29 rfl ?_
      exact gj_ir rfl dX11_meltsAs_33 rfl (congrArg nI (by unfold sp_melt; (repeat' split) <;> omega)) rfl
    refine gj_iload_n dX11_meltsAs_21 rfl ?_
    refine gj_ic (w := 5) dX11_meltsAs_22 ?_
    refine gj_icmp_neN (tgt := 32) (by omega) (by omega) dX11_meltsAs_23 rfl (fun zq4 => ?_) (fun zq4 => ?_)
    · -- 23 taken
      refine gj_iload_n dX11_meltsAs_32 rfl ?_
      exact gj_ir rfl dX11_meltsAs_33 rfl (congrArg nI (by unfold sp_melt; (repeat' split) <;> omega)) rfl
    refine gj_iload_n dX11_meltsAs_26 rfl ?_
    refine gj_ic (w := 2) dX11_meltsAs_27 ?_
    refine gj_idivN (by omega) (by omega) (by omega) dX11_meltsAs_28 ?_
    refine gj_goto (tgt := 33) dX11_meltsAs_29 rfl ?_
    exact gj_ir rfl dX11_meltsAs_33 rfl (congrArg nI (by unfold sp_melt; (repeat' split) <;> omega)) rfl
  refine gj_iload_n dX11_meltsAs_10 rfl ?_
  refine gj_ic (w := 1) dX11_meltsAs_11 ?_
  refine gj_iaddN  dX11_meltsAs_12 ?_
  refine gj_goto (tgt := 33) dX11_meltsAs_13 rfl ?_
  exact gj_ir rfl dX11_meltsAs_33 rfl (congrArg nI (by unfold sp_melt; (repeat' split) <;> omega)) rfl
set_option maxHeartbeats 1000000 in
set_option maxRecDepth 10000 in
theorem ev_X11_bearsAs {E : mj_E} {h : mj_H} {k i : Nat} (hk : k ≤ 5) (hi : i < 2 ^ 29) : mj_Ev E iX11_bearsAs [.int (nI k), .int (nI i)] h (mj_R (some (.int (nI (sp_bear k i)))) h) := by
  refine mj_Ev.of (L0 := [some (.int (nI k)), some (.int (nI i)), none]) pnRX11 (Nat.le_of_ble_eq_true rfl) rfl ?_
  refine gj_ic (w := 2) dX11_bearsAs_0 ?_
  refine gj_iload_n dX11_bearsAs_1 rfl ?_
  refine gj_imulN  dX11_bearsAs_2 ?_
  refine gj_istore_n (L' := [some (.int (nI k)), some (.int (nI i)), some (.int (nI (2 * i)))]) dX11_bearsAs_3 (Nat.le_of_ble_eq_true rfl) rfl ?_
  refine gj_iload_n dX11_bearsAs_4 rfl ?_
  refine gj_ic (w := 4) dX11_bearsAs_5 ?_
  refine gj_icmp_neN (tgt := 24) (by omega) (by omega) dX11_bearsAs_6 rfl (fun zq1 => ?_) (fun zq1 => ?_)
  · -- 6 taken
    refine gj_iload_n dX11_bearsAs_24 rfl ?_
    refine gj_ic (w := 5) dX11_bearsAs_25 ?_
    refine gj_icmp_neN (tgt := 37) (by omega) (by omega) dX11_bearsAs_26 rfl (fun zq2 => ?_) (fun zq2 => ?_)
    · -- 26 taken
      refine gj_iload_n dX11_bearsAs_37 rfl ?_
      exact gj_ir rfl dX11_bearsAs_38 rfl (congrArg nI (by unfold sp_bear; (repeat' split) <;> omega)) rfl
    refine gj_iload_n dX11_bearsAs_29 rfl ?_
    refine gj_ic (w := 1) dX11_bearsAs_30 ?_
    refine gj_iaddN  dX11_bearsAs_31 ?_
    refine gj_ic (w := 2) dX11_bearsAs_32 ?_
    refine gj_idivN (by omega) (by omega) (by omega) dX11_bearsAs_33 ?_
    refine gj_goto (tgt := 38) dX11_bearsAs_34 rfl ?_
    exact gj_ir rfl dX11_bearsAs_38 rfl (congrArg nI (by unfold sp_bear; (repeat' split) <;> omega)) rfl
  refine gj_iload_n dX11_bearsAs_9 rfl ?_
  refine gj_ic (w := 5) dX11_bearsAs_10 ?_
  refine gj_icmp_geN (tgt := 18) (by omega) (by omega) dX11_bearsAs_11 rfl (fun zq3 => ?_) (fun zq3 => ?_)
  · -- 11 taken
    refine gj_iload_n dX11_bearsAs_18 rfl ?_
    refine gj_ic (w := 5) dX11_bearsAs_19 ?_
    refine gj_isubN (by omega) dX11_bearsAs_20 ?_
    refine gj_goto (tgt := 38) dX11_bearsAs_21 rfl ?_
    exact gj_ir rfl dX11_bearsAs_38 rfl (congrArg nI (by unfold sp_bear; (repeat' split) <;> omega)) rfl
  refine gj_ic (w := 0) dX11_bearsAs_14 ?_
  refine gj_goto (tgt := 38) dX11_bearsAs_15 rfl ?_
  exact gj_ir rfl dX11_bearsAs_38 rfl (congrArg nI (by unfold sp_bear; (repeat' split) <;> omega)) rfl
theorem mj_sub_ge {a b : Nat} (ha : a < 2 ^ 31) (hb : b < 2 ^ 31) : (0 : Int32) ≤ nI a - nI b ↔ b ≤ a := by
  have e : (nI a - nI b).toInt = (a : Int) - b := by
    rw [Int32.toInt_sub, nI_toInt ha, nI_toInt hb]
    exact Int.bmod_eq_of_le (by omega) (by omega)
  rw [Int32.le_iff_toInt_le, e]
  show (0 : Int) ≤ _ ↔ _
  omega
set_option maxHeartbeats 1000000 in
set_option maxRecDepth 10000 in
theorem ev_X11_behindDay {E : mj_E} {h : mj_H} {k i f s : Nat} (hk : k ≤ 5) (hi : i ≤ 99) (hf : f ≤ 9) (hs : s ≤ 9) : mj_Ev E iX11_behindDay [.int (nI k), .int (nI i), .int (nI f), .int (nI s)] h (mj_R (some (.int (nI (sp_after k i f s)))) h) := by
  refine mj_Ev.of (L0 := [some (.int (nI k)), some (.int (nI i)), some (.int (nI f)), some (.int (nI s)), none, none]) pnRX11 (Nat.le_of_ble_eq_true rfl) rfl ?_
  refine gj_iload_n dX11_behindDay_0 rfl ?_
  refine gj_iload_n dX11_behindDay_1 rfl ?_
  refine gj_iload_n dX11_behindDay_2 rfl ?_
  refine gj_iload_n dX11_behindDay_3 rfl ?_
  refine gj_S1 lkX11_89 (ev_X11_growsAs (by omega) (by omega) (by omega)) dX11_behindDay_4 rfl rfl rfl rfl rfl ?_
  have hb1 := @sp_grow_le k i f
  refine gj_iaddN  dX11_behindDay_7 ?_
  refine gj_istore (L' := [some (.int (nI k)), some (.int (nI i)), some (.int (nI f)), some (.int (nI s)), some (.int (nI (i + (sp_grow k i f)))), none]) dX11_behindDay_8 (Nat.le_of_ble_eq_true rfl) rfl ?_
  refine gj_iload dX11_behindDay_10 rfl ?_
  refine gj_bp 99 dX11_behindDay_12 (by decide) ?_
  refine gj_icmp_leN (tgt := 22) (by omega) (by omega) dX11_behindDay_14 rfl (fun zq2 => ?_) (fun zq2 => ?_)
  · -- 14 taken
    refine gj_iload dX11_behindDay_22 rfl ?_
    refine gj_iload_n dX11_behindDay_24 rfl ?_
    refine gj_iload_n dX11_behindDay_25 rfl ?_
    refine gj_S1 lkX11_93 (ev_X11_meltsAs (by omega) (by omega)) dX11_behindDay_26 rfl rfl rfl rfl rfl ?_
    have hb3 := @sp_melt_le k s
    refine gj_isub dX11_behindDay_29 ?_
    refine gj_istore (L' := [some (.int (nI k)), some (.int (nI i)), some (.int (nI f)), some (.int (nI s)), some (.int (nI (i + (sp_grow k i f)))), some (.int ((nI (i + (sp_grow k i f))) - (nI (sp_melt k s))))]) dX11_behindDay_30 (Nat.le_of_ble_eq_true rfl) rfl ?_
    refine gj_iload dX11_behindDay_32 rfl ?_
    refine gj_if_ge (tgt := 41) dX11_behindDay_34 rfl (fun zq4 => ?_) (fun zq4 => ?_)
    · -- 34 taken
      have hz9 := (mj_sub_ge (by omega) (by omega)).mp zq4
      refine gj_iload dX11_behindDay_41 rfl ?_
      exact gj_ir rfl dX11_behindDay_43 rfl (by first | (rw [pk_sub hz9]; refine congrArg nI ?_; unfold sp_after; omega) | (unfold sp_after; omega)) rfl
    have hz9 := Nat.not_le.mp (fun z => zq4 ((mj_sub_ge (by omega) (by omega)).mpr z))
    refine gj_ic (w := 0) dX11_behindDay_37 ?_
    refine gj_goto (tgt := 43) dX11_behindDay_38 rfl ?_
    exact gj_ir rfl dX11_behindDay_43 rfl (congrArg nI (by first | (rw [pk_sub hz9]; refine congrArg nI ?_; unfold sp_after; omega) | (unfold sp_after; omega))) rfl
  refine gj_bp 99 dX11_behindDay_17 (by decide) ?_
  refine gj_goto (tgt := 24) dX11_behindDay_19 rfl ?_
  refine gj_iload_n dX11_behindDay_24 rfl ?_
  refine gj_iload_n dX11_behindDay_25 rfl ?_
  refine gj_S1 lkX11_93 (ev_X11_meltsAs (by omega) (by omega)) dX11_behindDay_26 rfl rfl rfl rfl rfl ?_
  have hb5 := @sp_melt_le k s
  refine gj_isub dX11_behindDay_29 ?_
  refine gj_istore (L' := [some (.int (nI k)), some (.int (nI i)), some (.int (nI f)), some (.int (nI s)), some (.int (nI (i + (sp_grow k i f)))), some (.int ((nI 99) - (nI (sp_melt k s))))]) dX11_behindDay_30 (Nat.le_of_ble_eq_true rfl) rfl ?_
  refine gj_iload dX11_behindDay_32 rfl ?_
  refine gj_if_ge (tgt := 41) dX11_behindDay_34 rfl (fun zq6 => ?_) (fun zq6 => ?_)
  · -- 34 taken
    have hz9 := (mj_sub_ge (by omega) (by omega)).mp zq6
    refine gj_iload dX11_behindDay_41 rfl ?_
    exact gj_ir rfl dX11_behindDay_43 rfl (by first | (rw [pk_sub hz9]; refine congrArg nI ?_; unfold sp_after; omega) | (unfold sp_after; omega)) rfl
  have hz9 := Nat.not_le.mp (fun z => zq6 ((mj_sub_ge (by omega) (by omega)).mpr z))
  refine gj_ic (w := 0) dX11_behindDay_37 ?_
  refine gj_goto (tgt := 43) dX11_behindDay_38 rfl ?_
  exact gj_ir rfl dX11_behindDay_43 rfl (congrArg nI (by first | (rw [pk_sub hz9]; refine congrArg nI ?_; unfold sp_after; omega) | (unfold sp_after; omega))) rfl
set_option maxHeartbeats 1000000 in
set_option maxRecDepth 10000 in
theorem ev_X11_votesAs {E : mj_E} {h : mj_H} {k w c m f : Nat} (hk : k ≤ 5) (hw : w < 2 ^ 31) (hc : c < 2 ^ 31) (hm : m < 2 ^ 31) (hf : f < 2 ^ 31) : mj_Ev E iX11_votesAs [.int (nI k), .int (nI w), .int (nI c), .int (nI m), .int (nI f)] h (mj_R (some (.int (mj_b (sp_yes k w c m f)))) h) := by
  refine mj_Ev.of (L0 := [some (.int (nI k)), some (.int (nI w)), some (.int (nI c)), some (.int (nI m)), some (.int (nI f)), none, none, none]) pnRX11 (Nat.le_of_ble_eq_true rfl) rfl ?_
  refine gj_iload_n dX11_votesAs_0 rfl ?_
  refine gj_iload_n dX11_votesAs_1 rfl ?_
  refine gj_icmp_ltN (tgt := 9) (by omega) (by omega) dX11_votesAs_2 rfl (fun zq1 => ?_) (fun zq1 => ?_)
  · -- 2 taken
    refine gj_ic (w := 0) dX11_votesAs_9 ?_
    refine gj_istore (L' := [some (.int (nI k)), some (.int (nI w)), some (.int (nI c)), some (.int (nI m)), some (.int (nI f)), some (.int (nI 0)), none, none]) dX11_votesAs_10 (Nat.le_of_ble_eq_true rfl) rfl ?_
    refine gj_iload dX11_votesAs_12 rfl ?_
    refine gj_if_eqN (tgt := 27) (by omega) dX11_votesAs_14 rfl (fun zq0 => ?_) (fun zq0 => ?_)
    rotate_left
    · exfalso; revert zq0; decide
    refine gj_ic (w := 0) dX11_votesAs_27 ?_
    refine gj_istore (L' := [some (.int (nI k)), some (.int (nI w)), some (.int (nI c)), some (.int (nI m)), some (.int (nI f)), some (.int (nI 0)), some (.int (nI 0)), none]) dX11_votesAs_28 (Nat.le_of_ble_eq_true rfl) rfl ?_
    refine gj_iload dX11_votesAs_30 rfl ?_
    refine gj_if_neN (tgt := 42) (by omega) dX11_votesAs_32 rfl (fun zq0 => ?_) (fun zq0 => ?_)
    · exfalso; revert zq0; decide
    refine gj_iload dX11_votesAs_35 rfl ?_
    refine gj_bp 6 dX11_votesAs_37 (by decide) ?_
    refine gj_icmp_ltN (tgt := 46) (by omega) (by omega) dX11_votesAs_39 rfl (fun zq2 => ?_) (fun zq2 => ?_)
    · -- 39 taken
      refine gj_ic (w := 0) dX11_votesAs_46 ?_
      refine gj_istore (L' := [some (.int (nI k)), some (.int (nI w)), some (.int (nI c)), some (.int (nI m)), some (.int (nI f)), some (.int (nI 0)), some (.int (nI 0)), some (.int (nI 0))]) dX11_votesAs_47 (Nat.le_of_ble_eq_true rfl) rfl ?_
      refine gj_iload_n dX11_votesAs_49 rfl ?_
      rcases (by omega : k = 0 ∨ k = 1 ∨ k = 2 ∨ k = 3 ∨ k = 4 ∨ k = 5) with zq3 | zq3 | zq3 | zq3 | zq3 | zq3
      · -- 0
        subst zq3
        refine gj_tabOut (a := 0) (tgt := 125) (by decide) dX11_votesAs_50 (by decide) rfl ?_
        refine gj_iload dX11_votesAs_125 rfl ?_
        exact gj_zr rfl dX11_votesAs_127 rfl (mj_b0 (by simp [sp_yes]; try omega)) rfl
      · -- 1
        subst zq3
        refine gj_tabIn (a := 1) (tgt := 84) (by decide) dX11_votesAs_50 (by decide) (by decide) rfl rfl ?_
        refine gj_iload dX11_votesAs_84 rfl ?_
        exact gj_zr rfl dX11_votesAs_86 rfl (mj_b0 (by simp [sp_yes]; try omega)) rfl
      · -- 2
        subst zq3
        refine gj_tabIn (a := 2) (tgt := 87) (by decide) dX11_votesAs_50 (by decide) (by decide) rfl rfl ?_
        refine gj_ic (w := 0) dX11_votesAs_87 ?_
        exact gj_zr rfl dX11_votesAs_88 rfl (mj_b0 (by simp [sp_yes]; try omega)) rfl
      · -- 3
        subst zq3
        refine gj_tabIn (a := 3) (tgt := 89) (by decide) dX11_votesAs_50 (by decide) (by decide) rfl rfl ?_
        refine gj_iload dX11_votesAs_89 rfl ?_
        exact gj_zr rfl dX11_votesAs_91 rfl (mj_b0 (by simp [sp_yes]; try omega)) rfl
      · -- 4
        subst zq3
        refine gj_tabIn (a := 4) (tgt := 92) (by decide) dX11_votesAs_50 (by decide) (by decide) rfl rfl ?_
        refine gj_iload dX11_votesAs_92 rfl ?_
        refine gj_ic (w := 1) dX11_votesAs_94 ?_
        refine gj_icmp_geN (tgt := 103) (by omega) (by omega) dX11_votesAs_95 rfl (fun zq4 => ?_) (fun zq4 => ?_)
        · -- 95 taken
          refine gj_ic (w := 1) dX11_votesAs_103 ?_
          refine gj_goto (tgt := 108) dX11_votesAs_104 rfl ?_
          exact gj_zr rfl dX11_votesAs_108 rfl (mj_b1 (by simp [sp_yes]; try omega)) rfl
        refine gj_iload dX11_votesAs_98 rfl ?_
        refine gj_if_eqN (tgt := 107) (by omega) dX11_votesAs_100 rfl (fun zq0 => ?_) (fun zq0 => ?_)
        rotate_left
        · exfalso; revert zq0; decide
        refine gj_ic (w := 0) dX11_votesAs_107 ?_
        exact gj_zr rfl dX11_votesAs_108 rfl (mj_b0 (by simp [sp_yes]; try omega)) rfl
      subst zq3
      refine gj_tabIn (a := 5) (tgt := 109) (by decide) dX11_votesAs_50 (by decide) (by decide) rfl rfl ?_
      refine gj_iload dX11_votesAs_109 rfl ?_
      refine gj_if_eqN (tgt := 123) (by omega) dX11_votesAs_111 rfl (fun zq0 => ?_) (fun zq0 => ?_)
      rotate_left
      · exfalso; revert zq0; decide
      refine gj_ic (w := 0) dX11_votesAs_123 ?_
      exact gj_zr rfl dX11_votesAs_124 rfl (mj_b0 (by simp [sp_yes]; try omega)) rfl
    refine gj_ic (w := 1) dX11_votesAs_42 ?_
    refine gj_goto (tgt := 47) dX11_votesAs_43 rfl ?_
    refine gj_istore (L' := [some (.int (nI k)), some (.int (nI w)), some (.int (nI c)), some (.int (nI m)), some (.int (nI f)), some (.int (nI 0)), some (.int (nI 0)), some (.int (nI 1))]) dX11_votesAs_47 (Nat.le_of_ble_eq_true rfl) rfl ?_
    refine gj_iload_n dX11_votesAs_49 rfl ?_
    rcases (by omega : k = 0 ∨ k = 1 ∨ k = 2 ∨ k = 3 ∨ k = 4 ∨ k = 5) with zq5 | zq5 | zq5 | zq5 | zq5 | zq5
    · -- 0
      subst zq5
      refine gj_tabOut (a := 0) (tgt := 125) (by decide) dX11_votesAs_50 (by decide) rfl ?_
      refine gj_iload dX11_votesAs_125 rfl ?_
      exact gj_zr rfl dX11_votesAs_127 rfl (mj_b0 (by simp [sp_yes]; try omega)) rfl
    · -- 1
      subst zq5
      refine gj_tabIn (a := 1) (tgt := 84) (by decide) dX11_votesAs_50 (by decide) (by decide) rfl rfl ?_
      refine gj_iload dX11_votesAs_84 rfl ?_
      exact gj_zr rfl dX11_votesAs_86 rfl (mj_b0 (by simp [sp_yes]; try omega)) rfl
    · -- 2
      subst zq5
      refine gj_tabIn (a := 2) (tgt := 87) (by decide) dX11_votesAs_50 (by decide) (by decide) rfl rfl ?_
      refine gj_ic (w := 0) dX11_votesAs_87 ?_
      exact gj_zr rfl dX11_votesAs_88 rfl (mj_b0 (by simp [sp_yes]; try omega)) rfl
    · -- 3
      subst zq5
      refine gj_tabIn (a := 3) (tgt := 89) (by decide) dX11_votesAs_50 (by decide) (by decide) rfl rfl ?_
      refine gj_iload dX11_votesAs_89 rfl ?_
      exact gj_zr rfl dX11_votesAs_91 rfl (mj_b1 (by simp [sp_yes]; try omega)) rfl
    · -- 4
      subst zq5
      refine gj_tabIn (a := 4) (tgt := 92) (by decide) dX11_votesAs_50 (by decide) (by decide) rfl rfl ?_
      refine gj_iload dX11_votesAs_92 rfl ?_
      refine gj_ic (w := 1) dX11_votesAs_94 ?_
      refine gj_icmp_geN (tgt := 103) (by omega) (by omega) dX11_votesAs_95 rfl (fun zq6 => ?_) (fun zq6 => ?_)
      · -- 95 taken
        refine gj_ic (w := 1) dX11_votesAs_103 ?_
        refine gj_goto (tgt := 108) dX11_votesAs_104 rfl ?_
        exact gj_zr rfl dX11_votesAs_108 rfl (mj_b1 (by simp [sp_yes]; try omega)) rfl
      refine gj_iload dX11_votesAs_98 rfl ?_
      refine gj_if_eqN (tgt := 107) (by omega) dX11_votesAs_100 rfl (fun zq0 => ?_) (fun zq0 => ?_)
      · exfalso; revert zq0; decide
      refine gj_ic (w := 1) dX11_votesAs_103 ?_
      refine gj_goto (tgt := 108) dX11_votesAs_104 rfl ?_
      exact gj_zr rfl dX11_votesAs_108 rfl (mj_b1 (by simp [sp_yes]; try omega)) rfl
    subst zq5
    refine gj_tabIn (a := 5) (tgt := 109) (by decide) dX11_votesAs_50 (by decide) (by decide) rfl rfl ?_
    refine gj_iload dX11_votesAs_109 rfl ?_
    refine gj_if_eqN (tgt := 123) (by omega) dX11_votesAs_111 rfl (fun zq0 => ?_) (fun zq0 => ?_)
    rotate_left
    · exfalso; revert zq0; decide
    refine gj_ic (w := 0) dX11_votesAs_123 ?_
    exact gj_zr rfl dX11_votesAs_124 rfl (mj_b0 (by simp [sp_yes]; try omega)) rfl
  refine gj_ic (w := 1) dX11_votesAs_5 ?_
  refine gj_goto (tgt := 10) dX11_votesAs_6 rfl ?_
  refine gj_istore (L' := [some (.int (nI k)), some (.int (nI w)), some (.int (nI c)), some (.int (nI m)), some (.int (nI f)), some (.int (nI 1)), none, none]) dX11_votesAs_10 (Nat.le_of_ble_eq_true rfl) rfl ?_
  refine gj_iload dX11_votesAs_12 rfl ?_
  refine gj_if_eqN (tgt := 27) (by omega) dX11_votesAs_14 rfl (fun zq0 => ?_) (fun zq0 => ?_)
  · exfalso; revert zq0; decide
  refine gj_iload_n dX11_votesAs_17 rfl ?_
  refine gj_bp 40 dX11_votesAs_18 (by decide) ?_
  refine gj_icmp_ltN (tgt := 27) (by omega) (by omega) dX11_votesAs_20 rfl (fun zq7 => ?_) (fun zq7 => ?_)
  · -- 20 taken
    refine gj_ic (w := 0) dX11_votesAs_27 ?_
    refine gj_istore (L' := [some (.int (nI k)), some (.int (nI w)), some (.int (nI c)), some (.int (nI m)), some (.int (nI f)), some (.int (nI 1)), some (.int (nI 0)), none]) dX11_votesAs_28 (Nat.le_of_ble_eq_true rfl) rfl ?_
    refine gj_iload dX11_votesAs_30 rfl ?_
    refine gj_if_neN (tgt := 42) (by omega) dX11_votesAs_32 rfl (fun zq0 => ?_) (fun zq0 => ?_)
    rotate_left
    · exfalso; revert zq0; decide
    refine gj_ic (w := 1) dX11_votesAs_42 ?_
    refine gj_goto (tgt := 47) dX11_votesAs_43 rfl ?_
    refine gj_istore (L' := [some (.int (nI k)), some (.int (nI w)), some (.int (nI c)), some (.int (nI m)), some (.int (nI f)), some (.int (nI 1)), some (.int (nI 0)), some (.int (nI 1))]) dX11_votesAs_47 (Nat.le_of_ble_eq_true rfl) rfl ?_
    refine gj_iload_n dX11_votesAs_49 rfl ?_
    rcases (by omega : k = 0 ∨ k = 1 ∨ k = 2 ∨ k = 3 ∨ k = 4 ∨ k = 5) with zq8 | zq8 | zq8 | zq8 | zq8 | zq8
    · -- 0
      subst zq8
      refine gj_tabOut (a := 0) (tgt := 125) (by decide) dX11_votesAs_50 (by decide) rfl ?_
      refine gj_iload dX11_votesAs_125 rfl ?_
      exact gj_zr rfl dX11_votesAs_127 rfl (mj_b1 (by simp [sp_yes]; try omega)) rfl
    · -- 1
      subst zq8
      refine gj_tabIn (a := 1) (tgt := 84) (by decide) dX11_votesAs_50 (by decide) (by decide) rfl rfl ?_
      refine gj_iload dX11_votesAs_84 rfl ?_
      exact gj_zr rfl dX11_votesAs_86 rfl (mj_b0 (by simp [sp_yes]; try omega)) rfl
    · -- 2
      subst zq8
      refine gj_tabIn (a := 2) (tgt := 87) (by decide) dX11_votesAs_50 (by decide) (by decide) rfl rfl ?_
      refine gj_ic (w := 0) dX11_votesAs_87 ?_
      exact gj_zr rfl dX11_votesAs_88 rfl (mj_b0 (by simp [sp_yes]; try omega)) rfl
    · -- 3
      subst zq8
      refine gj_tabIn (a := 3) (tgt := 89) (by decide) dX11_votesAs_50 (by decide) (by decide) rfl rfl ?_
      refine gj_iload dX11_votesAs_89 rfl ?_
      exact gj_zr rfl dX11_votesAs_91 rfl (mj_b1 (by simp [sp_yes]; try omega)) rfl
    · -- 4
      subst zq8
      refine gj_tabIn (a := 4) (tgt := 92) (by decide) dX11_votesAs_50 (by decide) (by decide) rfl rfl ?_
      refine gj_iload dX11_votesAs_92 rfl ?_
      refine gj_ic (w := 1) dX11_votesAs_94 ?_
      refine gj_icmp_geN (tgt := 103) (by omega) (by omega) dX11_votesAs_95 rfl (fun zq9 => ?_) (fun zq9 => ?_)
      · -- 95 taken
        refine gj_ic (w := 1) dX11_votesAs_103 ?_
        refine gj_goto (tgt := 108) dX11_votesAs_104 rfl ?_
        exact gj_zr rfl dX11_votesAs_108 rfl (mj_b1 (by simp [sp_yes]; try omega)) rfl
      refine gj_iload dX11_votesAs_98 rfl ?_
      refine gj_if_eqN (tgt := 107) (by omega) dX11_votesAs_100 rfl (fun zq0 => ?_) (fun zq0 => ?_)
      · exfalso; revert zq0; decide
      refine gj_ic (w := 1) dX11_votesAs_103 ?_
      refine gj_goto (tgt := 108) dX11_votesAs_104 rfl ?_
      exact gj_zr rfl dX11_votesAs_108 rfl (mj_b1 (by simp [sp_yes]; try omega)) rfl
    subst zq8
    refine gj_tabIn (a := 5) (tgt := 109) (by decide) dX11_votesAs_50 (by decide) (by decide) rfl rfl ?_
    refine gj_iload dX11_votesAs_109 rfl ?_
    refine gj_if_eqN (tgt := 123) (by omega) dX11_votesAs_111 rfl (fun zq0 => ?_) (fun zq0 => ?_)
    rotate_left
    · exfalso; revert zq0; decide
    refine gj_ic (w := 0) dX11_votesAs_123 ?_
    exact gj_zr rfl dX11_votesAs_124 rfl (mj_b0 (by simp [sp_yes]; try omega)) rfl
  refine gj_ic (w := 1) dX11_votesAs_23 ?_
  refine gj_goto (tgt := 28) dX11_votesAs_24 rfl ?_
  refine gj_istore (L' := [some (.int (nI k)), some (.int (nI w)), some (.int (nI c)), some (.int (nI m)), some (.int (nI f)), some (.int (nI 1)), some (.int (nI 1)), none]) dX11_votesAs_28 (Nat.le_of_ble_eq_true rfl) rfl ?_
  refine gj_iload dX11_votesAs_30 rfl ?_
  refine gj_if_neN (tgt := 42) (by omega) dX11_votesAs_32 rfl (fun zq0 => ?_) (fun zq0 => ?_)
  rotate_left
  · exfalso; revert zq0; decide
  refine gj_ic (w := 1) dX11_votesAs_42 ?_
  refine gj_goto (tgt := 47) dX11_votesAs_43 rfl ?_
  refine gj_istore (L' := [some (.int (nI k)), some (.int (nI w)), some (.int (nI c)), some (.int (nI m)), some (.int (nI f)), some (.int (nI 1)), some (.int (nI 1)), some (.int (nI 1))]) dX11_votesAs_47 (Nat.le_of_ble_eq_true rfl) rfl ?_
  refine gj_iload_n dX11_votesAs_49 rfl ?_
  rcases (by omega : k = 0 ∨ k = 1 ∨ k = 2 ∨ k = 3 ∨ k = 4 ∨ k = 5) with zq10 | zq10 | zq10 | zq10 | zq10 | zq10
  · -- 0
    subst zq10
    refine gj_tabOut (a := 0) (tgt := 125) (by decide) dX11_votesAs_50 (by decide) rfl ?_
    refine gj_iload dX11_votesAs_125 rfl ?_
    exact gj_zr rfl dX11_votesAs_127 rfl (mj_b1 (by simp [sp_yes]; try omega)) rfl
  · -- 1
    subst zq10
    refine gj_tabIn (a := 1) (tgt := 84) (by decide) dX11_votesAs_50 (by decide) (by decide) rfl rfl ?_
    refine gj_iload dX11_votesAs_84 rfl ?_
    exact gj_zr rfl dX11_votesAs_86 rfl (mj_b1 (by simp [sp_yes]; try omega)) rfl
  · -- 2
    subst zq10
    refine gj_tabIn (a := 2) (tgt := 87) (by decide) dX11_votesAs_50 (by decide) (by decide) rfl rfl ?_
    refine gj_ic (w := 0) dX11_votesAs_87 ?_
    exact gj_zr rfl dX11_votesAs_88 rfl (mj_b0 (by simp [sp_yes]; try omega)) rfl
  · -- 3
    subst zq10
    refine gj_tabIn (a := 3) (tgt := 89) (by decide) dX11_votesAs_50 (by decide) (by decide) rfl rfl ?_
    refine gj_iload dX11_votesAs_89 rfl ?_
    exact gj_zr rfl dX11_votesAs_91 rfl (mj_b1 (by simp [sp_yes]; try omega)) rfl
  · -- 4
    subst zq10
    refine gj_tabIn (a := 4) (tgt := 92) (by decide) dX11_votesAs_50 (by decide) (by decide) rfl rfl ?_
    refine gj_iload dX11_votesAs_92 rfl ?_
    refine gj_ic (w := 1) dX11_votesAs_94 ?_
    refine gj_icmp_geN (tgt := 103) (by omega) (by omega) dX11_votesAs_95 rfl (fun zq11 => ?_) (fun zq11 => ?_)
    · -- 95 taken
      refine gj_ic (w := 1) dX11_votesAs_103 ?_
      refine gj_goto (tgt := 108) dX11_votesAs_104 rfl ?_
      exact gj_zr rfl dX11_votesAs_108 rfl (mj_b1 (by simp [sp_yes]; try omega)) rfl
    refine gj_iload dX11_votesAs_98 rfl ?_
    refine gj_if_eqN (tgt := 107) (by omega) dX11_votesAs_100 rfl (fun zq0 => ?_) (fun zq0 => ?_)
    · exfalso; revert zq0; decide
    refine gj_ic (w := 1) dX11_votesAs_103 ?_
    refine gj_goto (tgt := 108) dX11_votesAs_104 rfl ?_
    exact gj_zr rfl dX11_votesAs_108 rfl (mj_b1 (by simp [sp_yes]; try omega)) rfl
  subst zq10
  refine gj_tabIn (a := 5) (tgt := 109) (by decide) dX11_votesAs_50 (by decide) (by decide) rfl rfl ?_
  refine gj_iload dX11_votesAs_109 rfl ?_
  refine gj_if_eqN (tgt := 123) (by omega) dX11_votesAs_111 rfl (fun zq0 => ?_) (fun zq0 => ?_)
  · exfalso; revert zq0; decide
  refine gj_iload_n dX11_votesAs_114 rfl ?_
  refine gj_iload_n dX11_votesAs_115 rfl ?_
  refine gj_icmp_ltN (tgt := 123) (by omega) (by omega) dX11_votesAs_116 rfl (fun zq12 => ?_) (fun zq12 => ?_)
  · -- 116 taken
    refine gj_ic (w := 0) dX11_votesAs_123 ?_
    exact gj_zr rfl dX11_votesAs_124 rfl (mj_b0 (by simp [sp_yes]; try omega)) rfl
  refine gj_ic (w := 1) dX11_votesAs_119 ?_
  refine gj_goto (tgt := 124) dX11_votesAs_120 rfl ?_
  exact gj_zr rfl dX11_votesAs_124 rfl (mj_b1 (by simp [sp_yes]; try omega)) rfl
def sp_pn (s n : Nat) : Nat := mj_fo (fun j a => if Nat.testBit s j then a + 1 else a) 0 n
theorem sp_pn_s {s n : Nat} : sp_pn s (n + 1) = sp_pn s n + ((s >>> n) &&& 1) := by
  show (if Nat.testBit s n then sp_pn s n + 1 else sp_pn s n) = _
  by_cases q : (s >>> n) &&& 1 = 1
  · rw [if_pos ((mj_tb1 s n).mp q), q]
  · have h : (s >>> n) &&& 1 < 2 := Nat.lt_of_le_of_lt Nat.and_le_right (by decide)
    rw [if_neg (fun z => q ((mj_tb1 s n).mpr z)), show (s >>> n) &&& 1 = 0 by omega]; rfl
theorem sp_pn_0 {s n : Nat} (h : s >>> n = 0) : ∀ d, sp_pn s (n + d) = sp_pn s n := by
  intro d
  induction d with
  | zero => rfl
  | succ d ih => rw [← Nat.add_assoc, sp_pn_s, ih, Nat.shiftRight_add, h, Nat.zero_shiftRight, Nat.zero_and]; rfl
theorem sp_pn_e {s n : Nat} (hn : n ≤ 7) (h : s >>> n = 0) : sp_pn s n = sp_pop s := by
  have := sp_pn_0 h (7 - n)
  rw [show n + (7 - n) = 7 by omega] at this
  exact this.symm
theorem mj_shr7 {s n : Nat} (h : s < 128) : s >>> n < 128 := by rw [Nat.shiftRight_eq_div_pow]; exact Nat.lt_of_le_of_lt (Nat.div_le_self _ _) h
theorem mj_shr70 {s : Nat} (h : s < 128) : s >>> 7 = 0 := by rw [Nat.shiftRight_eq_div_pow]; exact Nat.div_eq_of_lt h
set_option maxHeartbeats 1000000 in
set_option maxRecDepth 10000 in
theorem ev_X11_bits {E : mj_E} {h : mj_H} {s : Nat} (hs : s < 128) : mj_Ev E iX11_bits [.int (nI s)] h (mj_R (some (.int (nI (sp_pop s)))) h) := by
  refine mj_Ev.of (L0 := [some (.int (nI s)), none, none]) pnRX11 (Nat.le_of_ble_eq_true rfl) rfl ?_
  refine gj_ic (w := 0) dX11_bits_0 ?_
  refine gj_istore_n (L' := [some (.int (nI s)), some (.int (nI 0)), none]) dX11_bits_1 (Nat.le_of_ble_eq_true rfl) rfl ?_
  refine gj_iload_n dX11_bits_2 rfl ?_
  refine gj_istore_n (L' := [some (.int (nI s)), some (.int (nI 0)), some (.int (nI s))]) dX11_bits_3 (Nat.le_of_ble_eq_true rfl) rfl ?_
  refine gj_cast (L' := [some (.int (nI s)), some (.int (nI (sp_pn s 0))), some (.int (nI (s >>> 0)))]) (st' := []) (h' := h) rfl rfl rfl ?_
  refine gj_loop (fun j => [some (.int (nI s)), some (.int (nI (sp_pn s j))), some (.int (nI (s >>> j)))]) (fun j => h) 7 ?_ (fun j hj ih => ?_) 0 (by omega)
  · show gj _ _ _ _ _ _ [some (.int (nI s)), some (.int (nI (sp_pn s 7))), some (.int (nI (s >>> 7)))] _ _
    refine gj_iload_n dX11_bits_4 rfl ?_
    refine gj_if_leN (tgt := 21) (Nat.lt_trans (mj_shr7 hs) (by decide)) dX11_bits_5 rfl (fun zq1 => ?_) (fun zq1 => ?_)
    rotate_left
    · exfalso; have := mj_shr70 hs; omega
    refine gj_iload_n dX11_bits_21 rfl ?_
    exact gj_ir rfl dX11_bits_22 rfl (congrArg nI (by first | exact sp_pn_e (Nat.le_of_lt hj) hz9 | exact sp_pn_e (Nat.le_refl 7) (mj_shr70 hs))) rfl
  show gj _ _ _ _ _ _ [some (.int (nI s)), some (.int (nI (sp_pn s j))), some (.int (nI (s >>> j)))] _ _
  refine gj_iload_n dX11_bits_4 rfl ?_
  refine gj_if_leN (tgt := 21) (Nat.lt_trans (mj_shr7 hs) (by decide)) dX11_bits_5 rfl (fun zq2 => ?_) (fun zq2 => ?_)
  · -- 5 taken
    have hz9 := zq2
    refine gj_iload_n dX11_bits_21 rfl ?_
    exact gj_ir rfl dX11_bits_22 rfl (congrArg nI (by first | exact sp_pn_e (Nat.le_of_lt hj) hz9 | exact sp_pn_e (Nat.le_refl 7) (mj_shr70 hs))) rfl
  refine gj_iload_n dX11_bits_8 rfl ?_
  refine gj_iload_n dX11_bits_9 rfl ?_
  refine gj_ic (w := 1) dX11_bits_10 ?_
  refine gj_iandN  dX11_bits_11 ?_
  refine gj_iaddN  dX11_bits_12 ?_
  refine gj_istore_n (L' := [some (.int (nI s)), some (.int (nI ((sp_pn s j) + ((s >>> j) &&& 1)))), some (.int (nI (s >>> j)))]) dX11_bits_13 (Nat.le_of_ble_eq_true rfl) rfl ?_
  refine gj_iload_n dX11_bits_14 rfl ?_
  refine gj_ic (w := 1) dX11_bits_15 ?_
  refine gj_ishrN (Nat.lt_trans (mj_shr7 hs) (by decide)) (by omega) dX11_bits_16 ?_
  refine gj_istore_n (L' := [some (.int (nI s)), some (.int (nI ((sp_pn s j) + ((s >>> j) &&& 1)))), some (.int (nI ((s >>> j) >>> 1)))]) dX11_bits_17 (Nat.le_of_ble_eq_true rfl) rfl ?_
  refine gj_goto (tgt := 4) dX11_bits_18 rfl ?_
  exact gj_cast (by rw [sp_pn_s, Nat.shiftRight_add]) rfl rfl ih
/-- whether two cells are beside one another -/
def sp_abs (a c : Nat) : Bool := decide ((a / 5 = c / 5 ∧ (a % 5 + 1 = c % 5 ∨ c % 5 + 1 = a % 5)) ∨ (a % 5 = c % 5 ∧ (a / 5 + 1 = c / 5 ∨ c / 5 + 1 = a / 5)))
theorem mj_abs : ∀ a, a < 25 → ∀ c, c < 25 → decide ((nI (a / 5) - nI (c / 5)) * (nI (a / 5) - nI (c / 5)) + (nI (a % 5) - nI (c % 5)) * (nI (a % 5) - nI (c % 5)) = nI 1) = sp_abs a c := by decide +kernel
set_option maxHeartbeats 1000000 in
set_option maxRecDepth 10000 in
theorem ev_X11_areBeside {E : mj_E} {h : mj_H} {a c : Nat} (ha : a < 25) (hc : c < 25) : mj_Ev E iX11_areBeside [.int (nI a), .int (nI c)] h (mj_R (some (.int (mj_b (sp_abs a c)))) h) := by
  refine mj_Ev.of (L0 := [some (.int (nI a)), some (.int (nI c)), none, none]) pnRX11 (Nat.le_of_ble_eq_true rfl) rfl ?_
  refine gj_iload_n dX11_areBeside_0 rfl ?_
  refine gj_ic (w := 5) dX11_areBeside_1 ?_
  refine gj_idivN (by omega) (by omega) (by omega) dX11_areBeside_2 ?_
  refine gj_iload_n dX11_areBeside_3 rfl ?_
  refine gj_ic (w := 5) dX11_areBeside_4 ?_
  refine gj_idivN (by omega) (by omega) (by omega) dX11_areBeside_5 ?_
  refine gj_isub dX11_areBeside_6 ?_
  refine gj_istore_n (L' := [some (.int (nI a)), some (.int (nI c)), some (.int ((nI (a / 5)) - (nI (c / 5)))), none]) dX11_areBeside_7 (Nat.le_of_ble_eq_true rfl) rfl ?_
  refine gj_iload_n dX11_areBeside_8 rfl ?_
  refine gj_ic (w := 5) dX11_areBeside_9 ?_
  refine gj_iremN (by omega) (by omega) (by omega) dX11_areBeside_10 ?_
  refine gj_iload_n dX11_areBeside_11 rfl ?_
  refine gj_ic (w := 5) dX11_areBeside_12 ?_
  refine gj_iremN (by omega) (by omega) (by omega) dX11_areBeside_13 ?_
  refine gj_isub dX11_areBeside_14 ?_
  refine gj_istore_n (L' := [some (.int (nI a)), some (.int (nI c)), some (.int ((nI (a / 5)) - (nI (c / 5)))), some (.int ((nI (a % 5)) - (nI (c % 5))))]) dX11_areBeside_15 (Nat.le_of_ble_eq_true rfl) rfl ?_
  refine gj_iload_n dX11_areBeside_16 rfl ?_
  refine gj_iload_n dX11_areBeside_17 rfl ?_
  refine gj_imul dX11_areBeside_18 ?_
  refine gj_iload_n dX11_areBeside_19 rfl ?_
  refine gj_iload_n dX11_areBeside_20 rfl ?_
  refine gj_imul dX11_areBeside_21 ?_
  refine gj_iadd dX11_areBeside_22 ?_
  refine gj_ic (w := 1) dX11_areBeside_23 ?_
  refine gj_icmp_ne (tgt := 31) dX11_areBeside_24 rfl (fun zq1 => ?_) (fun zq1 => ?_)
  · -- 24 taken
    refine gj_ic (w := 0) dX11_areBeside_31 ?_
    exact gj_zr rfl dX11_areBeside_32 rfl (mj_b0 (by rw [← mj_abs a ha c hc]; first | exact decide_eq_true (by assumption) | exact decide_eq_false (by assumption))) rfl
  refine gj_ic (w := 1) dX11_areBeside_27 ?_
  refine gj_goto (tgt := 32) dX11_areBeside_28 rfl ?_
  exact gj_zr rfl dX11_areBeside_32 rfl (mj_b1 (by rw [← mj_abs a ha c hc]; first | exact decide_eq_true (by assumption) | exact decide_eq_false (by assumption))) rfl
