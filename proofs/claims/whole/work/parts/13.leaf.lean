set_option maxHeartbeats 1000000 in
set_option maxRecDepth 10000 in
theorem ev_J7_fill_53178 {E : mj_E} {h : mj_H} {a N v : Nat} {K : Nat → Nat} (Ha : h a = some (mj_ar N K)) (hN : N < 2 ^ 31) : mj_Ev E iJ7_fill_53178 [.ref a, .int (nI v)] h (mj_R none (mj_up h a (mj_ar N (fun _ => v)))) := by
  refine mj_Ev.of (L0 := [some (.ref a), some (.int (nI v)), none, none]) pnRJ7 (Nat.le_of_ble_eq_true rfl) rfl ?_
  refine gj_ic (w := 0) dJ7_fill_53178_0 ?_
  refine gj_istore_n (L' := [some (.ref a), some (.int (nI v)), some (.int (nI 0)), none]) dJ7_fill_53178_1 (Nat.le_of_ble_eq_true rfl) rfl ?_
  refine gj_aload_n dJ7_fill_53178_2 rfl ?_
  refine gj_alen (t := 0) rfl dJ7_fill_53178_3 Ha ?_
  refine gj_istore_n (L' := [some (.ref a), some (.int (nI v)), some (.int (nI 0)), some (.int (nI N))]) dJ7_fill_53178_4 (Nat.le_of_ble_eq_true rfl) rfl ?_
  refine gj_cast (L' := [some (.ref a), some (.int (nI v)), some (.int (nI 0)), some (.int (nI N))]) (st' := []) (h' := mj_up h a (mj_ar N (mj_mix (fun _ => v) K 0))) rfl rfl (by rw [mj_mix_0, mj_up_self Ha]) ?_
  refine gj_loop (fun j => [some (.ref a), some (.int (nI v)), some (.int (nI j)), some (.int (nI N))]) (fun j => mj_up h a (mj_ar N (mj_mix (fun _ => v) K j))) N ?_ (fun j hj ih => ?_) 0 (by omega)
  · show gj _ _ _ _ _ _ [some (.ref a), some (.int (nI v)), some (.int (nI N)), some (.int (nI N))] _ _
    refine gj_iload_n dJ7_fill_53178_5 rfl ?_
    refine gj_iload_n dJ7_fill_53178_6 rfl ?_
    refine gj_icmp_geN (tgt := 20) (by omega) (by omega) dJ7_fill_53178_7 rfl (fun zq1 => ?_) (fun zq1 => ?_)
    rotate_left
    · exfalso; omega
    refine gj_reN (g := fun _ => v) (fun j hj => mj_mix_lt hj) ?_
    exact gj_vr rfl dJ7_fill_53178_20 rfl
  show gj _ _ _ _ _ _ [some (.ref a), some (.int (nI v)), some (.int (nI j)), some (.int (nI N))] _ _
  refine gj_iload_n dJ7_fill_53178_5 rfl ?_
  refine gj_iload_n dJ7_fill_53178_6 rfl ?_
  refine gj_icmp_geN (tgt := 20) (by omega) (by omega) dJ7_fill_53178_7 rfl (fun zq2 => ?_) (fun zq2 => ?_)
  · exfalso; omega
  refine gj_aload_n dJ7_fill_53178_10 rfl ?_
  refine gj_iload_n dJ7_fill_53178_11 rfl ?_
  refine gj_iload_n dJ7_fill_53178_12 rfl ?_
  refine gj_iastN dJ7_fill_53178_13 (mj_up_eq _ _ _) (by omega) (by omega) ?_
  refine gj_iincN (L' := [some (.ref a), some (.int (nI v)), some (.int (nI (j + 1))), some (.int (nI N))]) dJ7_fill_53178_14 rfl (Nat.le_of_ble_eq_true rfl) rfl ?_
  refine gj_goto (tgt := 5) dJ7_fill_53178_17 rfl ?_
  exact gj_cast rfl rfl (by rw [mj_up_up, mj_mix_un rfl]) ih
set_option maxHeartbeats 1000000 in
set_option maxRecDepth 10000 in
theorem ev_J9_floorMod_7cf53 {E : mj_E} {h : mj_H} {a : Nat} (ha : a < 2 ^ 31) : mj_Ev E iJ9_floorMod_7cf53 [.int (nI a), .int (nI 7)] h (mj_R (some (.int (nI (a % 7)))) h) := by
  refine mj_Ev.ofF (L0 := [some (.int (nI a)), some (.int (nI 7)), none]) pfJ9_floorMod (Nat.le_of_ble_eq_true rfl) rfl ?_
  refine gj_iload_n dJ9_floorMod_7cf53_0 rfl ?_
  refine gj_iload_n dJ9_floorMod_7cf53_1 rfl ?_
  refine gj_iremN (by omega) (by omega) (by omega) dJ9_floorMod_7cf53_2 ?_
  refine gj_istore_n (L' := [some (.int (nI a)), some (.int (nI 7)), some (.int (nI (a % 7)))]) dJ9_floorMod_7cf53_3 (Nat.le_of_ble_eq_true rfl) rfl ?_
  refine gj_iload_n dJ9_floorMod_7cf53_4 rfl ?_
  refine gj_iload_n dJ9_floorMod_7cf53_5 rfl ?_
  refine gj_ixorN  dJ9_floorMod_7cf53_6 ?_
  refine gj_if_geN (tgt := 18) (Nat.xor_lt_two_pow (n := 31) (by omega) (by decide)) dJ9_floorMod_7cf53_7 rfl (fun zq1 => ?_) (fun zq1 => ?_)
  rotate_left
  · exfalso; exact zq1
  refine gj_iload_n dJ9_floorMod_7cf53_18 rfl ?_
  exact gj_ir rfl dJ9_floorMod_7cf53_19 rfl rfl rfl
theorem mj_b1 {q : Bool} (h : q = true) : nI 1 = mj_b q := by rw [h]; rfl
theorem mj_b0 {q : Bool} (h : q = false) : nI 0 = mj_b q := by rw [h]; rfl
theorem mj_wi1 {x lo hi : Int32} (c : x < lo) : decide (lo ≤ x ∧ x ≤ hi) = false := by simp only [decide_eq_false_iff_not]; exact fun z => Int32.not_le.mpr c z.1
theorem mj_wi2 {x lo hi : Int32} (c : hi < x) : decide (lo ≤ x ∧ x ≤ hi) = false := by simp only [decide_eq_false_iff_not]; exact fun z => Int32.not_le.mpr c z.2
theorem mj_wi3 {x lo hi : Int32} (c : ¬ x < lo) (d : ¬ hi < x) : decide (lo ≤ x ∧ x ≤ hi) = true := by simp only [decide_eq_true_eq]; exact ⟨Int32.not_lt.mp c, Int32.not_lt.mp d⟩
set_option maxHeartbeats 1000000 in
set_option maxRecDepth 10000 in
theorem ev_X10_within {E : mj_E} {h : mj_H} {x lo hi : Int32} : mj_Ev E iX10_within [.int x, .int lo, .int hi] h (mj_R (some (.int (mj_b (decide (lo ≤ x ∧ x ≤ hi))))) h) := by
  refine mj_Ev.of (L0 := [some (.int x), some (.int lo), some (.int hi)]) pnRX10 (Nat.le_of_ble_eq_true rfl) rfl ?_
  refine gj_iload_n dX10_within_0 rfl ?_
  refine gj_iload_n dX10_within_1 rfl ?_
  refine gj_icmp_lt (tgt := 14) dX10_within_2 rfl (fun zq1 => ?_) (fun zq1 => ?_)
  · -- 2 taken
    refine gj_ic (w := 0) dX10_within_14 ?_
    exact gj_zr rfl dX10_within_15 rfl (mj_b0 (by first | exact mj_wi1 zq1 | exact mj_wi2 zq2 | exact mj_wi3 zq1 zq2)) rfl
  refine gj_iload_n dX10_within_5 rfl ?_
  refine gj_iload_n dX10_within_6 rfl ?_
  refine gj_icmp_gt (tgt := 14) dX10_within_7 rfl (fun zq2 => ?_) (fun zq2 => ?_)
  · -- 7 taken
    refine gj_ic (w := 0) dX10_within_14 ?_
    exact gj_zr rfl dX10_within_15 rfl (mj_b0 (by first | exact mj_wi1 zq1 | exact mj_wi2 zq2 | exact mj_wi3 zq1 zq2)) rfl
  refine gj_ic (w := 1) dX10_within_10 ?_
  refine gj_goto (tgt := 15) dX10_within_11 rfl ?_
  exact gj_zr rfl dX10_within_15 rfl (mj_b1 (by first | exact mj_wi1 zq1 | exact mj_wi2 zq2 | exact mj_wi3 zq1 zq2)) rfl
theorem mj_leN {a b : Nat} (h : a ≤ b) (hb : b < 2 ^ 31) : nI a ≤ nI b := (nI_leI (by omega) hb).mpr h
theorem ev_X10_within_t {E : mj_E} {h : mj_H} {x lo hi : Nat} (h1 : lo ≤ x) (h2 : x ≤ hi) (h3 : hi < 2 ^ 31) : mj_Ev E iX10_within [.int (nI x), .int (nI lo), .int (nI hi)] h (mj_R (some (.int (nI 1))) h) := by
  have := ev_X10_within (E := E) (h := h) (x := nI x) (lo := nI lo) (hi := nI hi)
  rw [decide_eq_true ⟨mj_leN h1 (by omega), mj_leN h2 h3⟩] at this
  exact this
set_option maxHeartbeats 1000000 in
set_option maxRecDepth 10000 in
theorem ev_X10_isCell {E : mj_E} {h : mj_H} {x : Int32} : mj_Ev E iX10_isCell [.int x] h (mj_R (some (.int (mj_b (decide (nI 0 ≤ x ∧ x ≤ nI 24))))) h) := by
  refine mj_Ev.of (L0 := [some (.int x)]) pnRX10 (Nat.le_of_ble_eq_true rfl) rfl ?_
  refine gj_iload_n dX10_isCell_0 rfl ?_
  refine gj_ic (w := 0) dX10_isCell_1 ?_
  refine gj_bp 24 dX10_isCell_2 (by decide) ?_
  refine gj_S1 lkX10_65 ev_X10_within dX10_isCell_4 rfl rfl rfl rfl rfl ?_
  exact gj_zr rfl dX10_isCell_7 rfl rfl rfl
theorem ev_X10_isCell_t {E : mj_E} {h : mj_H} {x : Nat} (h1 : 0 ≤ x) (h2 : x ≤ 24) : mj_Ev E iX10_isCell [.int (nI x)] h (mj_R (some (.int (nI 1))) h) := by
  have := ev_X10_isCell (E := E) (h := h) (x := nI x)
  rw [decide_eq_true ⟨mj_leN h1 (by omega), mj_leN h2 (by decide)⟩] at this
  exact this
set_option maxHeartbeats 1000000 in
set_option maxRecDepth 10000 in
theorem ev_X10_isSky {E : mj_E} {h : mj_H} {x : Int32} : mj_Ev E iX10_isSky [.int x] h (mj_R (some (.int (mj_b (decide (nI 0 ≤ x ∧ x ≤ nI 9))))) h) := by
  refine mj_Ev.of (L0 := [some (.int x)]) pnRX10 (Nat.le_of_ble_eq_true rfl) rfl ?_
  refine gj_iload_n dX10_isSky_0 rfl ?_
  refine gj_ic (w := 0) dX10_isSky_1 ?_
  refine gj_bp 9 dX10_isSky_2 (by decide) ?_
  refine gj_S1 lkX10_65 ev_X10_within dX10_isSky_4 rfl rfl rfl rfl rfl ?_
  exact gj_zr rfl dX10_isSky_7 rfl rfl rfl
theorem ev_X10_isSky_t {E : mj_E} {h : mj_H} {x : Nat} (h1 : 0 ≤ x) (h2 : x ≤ 9) : mj_Ev E iX10_isSky [.int (nI x)] h (mj_R (some (.int (nI 1))) h) := by
  have := ev_X10_isSky (E := E) (h := h) (x := nI x)
  rw [decide_eq_true ⟨mj_leN h1 (by omega), mj_leN h2 (by decide)⟩] at this
  exact this
set_option maxHeartbeats 1000000 in
set_option maxRecDepth 10000 in
theorem ev_X10_isBorne {E : mj_E} {h : mj_H} {x : Int32} : mj_Ev E iX10_isBorne [.int x] h (mj_R (some (.int (mj_b (decide (nI 1 ≤ x ∧ x ≤ nI 198))))) h) := by
  refine mj_Ev.of (L0 := [some (.int x)]) pnRX10 (Nat.le_of_ble_eq_true rfl) rfl ?_
  refine gj_iload_n dX10_isBorne_0 rfl ?_
  refine gj_ic (w := 1) dX10_isBorne_1 ?_
  refine gj_sp 198 dX10_isBorne_2 (by decide) ?_
  refine gj_S1 lkX10_65 ev_X10_within dX10_isBorne_5 rfl rfl rfl rfl rfl ?_
  exact gj_zr rfl dX10_isBorne_8 rfl rfl rfl
theorem ev_X10_isBorne_t {E : mj_E} {h : mj_H} {x : Nat} (h1 : 1 ≤ x) (h2 : x ≤ 198) : mj_Ev E iX10_isBorne [.int (nI x)] h (mj_R (some (.int (nI 1))) h) := by
  have := ev_X10_isBorne (E := E) (h := h) (x := nI x)
  rw [decide_eq_true ⟨mj_leN h1 (by omega), mj_leN h2 (by decide)⟩] at this
  exact this
theorem mj_tb1 (s i : Nat) : ((s >>> i) &&& 1 = 1) ↔ Nat.testBit s i = true := by
  rw [Nat.testBit, Nat.and_comm]
  have : (1 &&& s >>> i) = 0 ∨ (1 &&& s >>> i) = 1 := by
    rw [Nat.one_and_eq_mod_two]; omega
  rcases this with q | q <;> simp [q]
set_option maxHeartbeats 1000000 in
set_option maxRecDepth 10000 in
theorem ev_X10_has {E : mj_E} {h : mj_H} {s i : Nat} (hs : s < 2 ^ 31) (hi : i < 31) : mj_Ev E iX10_has [.int (nI s), .int (nI i)] h (mj_R (some (.int (mj_b (Nat.testBit s i)))) h) := by
  refine mj_Ev.of (L0 := [some (.int (nI s)), some (.int (nI i))]) pnRX10 (Nat.le_of_ble_eq_true rfl) rfl ?_
  refine gj_iload_n dX10_has_0 rfl ?_
  refine gj_iload_n dX10_has_1 rfl ?_
  refine gj_ishrN (by omega) (by omega) dX10_has_2 ?_
  refine gj_ic (w := 1) dX10_has_3 ?_
  refine gj_iandN  dX10_has_4 ?_
  refine gj_ic (w := 1) dX10_has_5 ?_
  refine gj_icmp_neN (tgt := 13) (Nat.lt_of_le_of_lt Nat.and_le_right (by decide)) (by omega) dX10_has_6 rfl (fun zq1 => ?_) (fun zq1 => ?_)
  · -- 6 taken
    refine gj_ic (w := 0) dX10_has_13 ?_
    exact gj_zr rfl dX10_has_14 rfl (mj_b0 (by rw [mj_tb1] at zq1; simpa using zq1)) rfl
  refine gj_ic (w := 1) dX10_has_9 ?_
  refine gj_goto (tgt := 14) dX10_has_10 rfl ?_
  exact gj_zr rfl dX10_has_14 rfl (mj_b1 (by rw [mj_tb1] at zq1; simpa using zq1)) rfl
set_option maxHeartbeats 1000000 in
set_option maxRecDepth 10000 in
theorem ev_X0_streamGrows {E : mj_E} {h : mj_H} {f : Nat} (hf : f < 2 ^ 31) : mj_Ev E iX0_streamGrows [.int (nI f)] h (mj_R (some (.int (nI (f / 2)))) h) := by
  refine mj_Ev.of (L0 := [some (.int (nI f))]) pnRX0 (Nat.le_of_ble_eq_true rfl) rfl ?_
  refine gj_iload_n dX0_streamGrows_0 rfl ?_
  refine gj_ic (w := 2) dX0_streamGrows_1 ?_
  refine gj_idivN (by omega) (by omega) (by omega) dX0_streamGrows_2 ?_
  exact gj_ir rfl dX0_streamGrows_3 rfl rfl rfl
set_option maxHeartbeats 1000000 in
set_option maxRecDepth 10000 in
theorem ev_X0_grows {E : mj_E} {h : mj_H} {k i f : Nat} (hk : k ≤ 5) (hi : i < 2 ^ 30) (hf : f < 2 ^ 30) : mj_Ev E iX0_grows [.int (nI k), .int (nI i), .int (nI f)] h (mj_R (some (.int (nI (sp_grow k i f)))) h) := by
  refine mj_Ev.of (L0 := [some (.int (nI k)), some (.int (nI i)), some (.int (nI f))]) pnRX0 (Nat.le_of_ble_eq_true rfl) rfl ?_
  refine gj_iload_n dX0_grows_0 rfl ?_
  rcases (by omega : k = 0 ∨ k = 1 ∨ k = 2 ∨ k = 3 ∨ k = 4 ∨ k = 5) with zq1 | zq1 | zq1 | zq1 | zq1 | zq1
  · -- 0
    subst zq1
    refine gj_tabOut (a := 0) (tgt := 77) (by decide) dX0_grows_1 (by decide) rfl ?_
    refine gj_iload_n dX0_grows_77 rfl ?_
    exact gj_ir rfl dX0_grows_78 rfl (congrArg nI (by unfold sp_grow; (repeat' split) <;> omega)) rfl
  · -- 1
    subst zq1
    refine gj_tabIn (a := 1) (tgt := 36) (by decide) dX0_grows_1 (by decide) (by decide) rfl rfl ?_
    refine gj_iload_n dX0_grows_36 rfl ?_
    refine gj_S1 lkX0_27 (ev_X0_streamGrows (by omega)) dX0_grows_37 rfl rfl rfl rfl rfl ?_
    exact gj_ir rfl dX0_grows_40 rfl (congrArg nI (by unfold sp_grow; (repeat' split) <;> omega)) rfl
  · -- 2
    subst zq1
    refine gj_tabIn (a := 2) (tgt := 41) (by decide) dX0_grows_1 (by decide) (by decide) rfl rfl ?_
    refine gj_ic (w := 0) dX0_grows_41 ?_
    refine gj_iload_n dX0_grows_42 rfl ?_
    refine gj_ic (w := 2) dX0_grows_43 ?_
    refine gj_isub dX0_grows_44 ?_
    refine gj_max0 w_608 w_609 w_83 w_610 (by omega) (by omega) dX0_grows_45 rfl rfl ?_
    exact gj_ir rfl dX0_grows_48 rfl (congrArg nI (by unfold sp_grow; (repeat' split) <;> omega)) rfl
  · -- 3
    subst zq1
    refine gj_tabIn (a := 3) (tgt := 49) (by decide) dX0_grows_1 (by decide) (by decide) rfl rfl ?_
    refine gj_iload_n dX0_grows_49 rfl ?_
    refine gj_ic (w := 1) dX0_grows_50 ?_
    refine gj_icmp_ltN (tgt := 60) (by omega) (by omega) dX0_grows_51 rfl (fun zq2 => ?_) (fun zq2 => ?_)
    · -- 51 taken
      refine gj_iload_n dX0_grows_60 rfl ?_
      exact gj_ir rfl dX0_grows_61 rfl (congrArg nI (by unfold sp_grow; (repeat' split) <;> omega)) rfl
    refine gj_iload_n dX0_grows_54 rfl ?_
    refine gj_ic (w := 1) dX0_grows_55 ?_
    refine gj_iaddN  dX0_grows_56 ?_
    refine gj_goto (tgt := 61) dX0_grows_57 rfl ?_
    exact gj_ir rfl dX0_grows_61 rfl (congrArg nI (by unfold sp_grow; (repeat' split) <;> omega)) rfl
  · -- 4
    subst zq1
    refine gj_tabIn (a := 4) (tgt := 62) (by decide) dX0_grows_1 (by decide) (by decide) rfl rfl ?_
    refine gj_iload_n dX0_grows_62 rfl ?_
    refine gj_bp 10 dX0_grows_63 (by decide) ?_
    refine gj_icmp_geN (tgt := 72) (by omega) (by omega) dX0_grows_65 rfl (fun zq3 => ?_) (fun zq3 => ?_)
    · -- 65 taken
      refine gj_iload_n dX0_grows_72 rfl ?_
      refine gj_S1 lkX0_27 (ev_X0_streamGrows (by omega)) dX0_grows_73 rfl rfl rfl rfl rfl ?_
      exact gj_ir rfl dX0_grows_76 rfl (congrArg nI (by unfold sp_grow; (repeat' split) <;> omega)) rfl
    refine gj_ic (w := 0) dX0_grows_68 ?_
    refine gj_goto (tgt := 76) dX0_grows_69 rfl ?_
    exact gj_ir rfl dX0_grows_76 rfl (congrArg nI (by unfold sp_grow; (repeat' split) <;> omega)) rfl
  subst zq1
  refine gj_tabIn (a := 5) (tgt := 41) (by decide) dX0_grows_1 (by decide) (by decide) rfl rfl ?_
  refine gj_ic (w := 0) dX0_grows_41 ?_
  refine gj_iload_n dX0_grows_42 rfl ?_
  refine gj_ic (w := 2) dX0_grows_43 ?_
  refine gj_isub dX0_grows_44 ?_
  refine gj_max0 w_608 w_609 w_83 w_610 (by omega) (by omega) dX0_grows_45 rfl rfl ?_
  exact gj_ir rfl dX0_grows_48 rfl (congrArg nI (by unfold sp_grow; (repeat' split) <;> omega)) rfl
set_option maxHeartbeats 1000000 in
set_option maxRecDepth 10000 in
theorem ev_X0_melts {E : mj_E} {h : mj_H} {k f : Nat} (hk : k ≤ 5) (hf : f < 2 ^ 30) : mj_Ev E iX0_melts [.int (nI k), .int (nI f)] h (mj_R (some (.int (nI (sp_melt k f)))) h) := by
  refine mj_Ev.of (L0 := [some (.int (nI k)), some (.int (nI f))]) pnRX0 (Nat.le_of_ble_eq_true rfl) rfl ?_
  refine gj_iload_n dX0_melts_0 rfl ?_
  rcases (by omega : k = 0 ∨ k = 1 ∨ k = 2 ∨ k = 3 ∨ k = 4 ∨ k = 5) with zq1 | zq1 | zq1 | zq1 | zq1 | zq1
  · -- 0
    subst zq1
    refine gj_tabOut (a := 0) (tgt := 44) (by decide) dX0_melts_1 (by decide) rfl ?_
    refine gj_iload_n dX0_melts_44 rfl ?_
    exact gj_ir rfl dX0_melts_45 rfl (congrArg nI (by simp [sp_melt])) rfl
  · -- 1
    subst zq1
    refine gj_tabIn (a := 1) (tgt := 36) (by decide) dX0_melts_1 (by decide) (by decide) rfl rfl ?_
    refine gj_iload_n dX0_melts_36 rfl ?_
    refine gj_ic (w := 1) dX0_melts_37 ?_
    refine gj_iaddN  dX0_melts_38 ?_
    exact gj_ir rfl dX0_melts_39 rfl (congrArg nI (by simp [sp_melt])) rfl
  · -- 2
    subst zq1
    refine gj_tabIn (a := 2) (tgt := 40) (by decide) dX0_melts_1 (by decide) (by decide) rfl rfl ?_
    refine gj_iload_n dX0_melts_40 rfl ?_
    refine gj_ic (w := 2) dX0_melts_41 ?_
    refine gj_idivN (by omega) (by omega) (by omega) dX0_melts_42 ?_
    exact gj_ir rfl dX0_melts_43 rfl (congrArg nI (by simp [sp_melt])) rfl
  · -- 3
    subst zq1
    refine gj_tabIn (a := 3) (tgt := 44) (by decide) dX0_melts_1 (by decide) (by decide) rfl rfl ?_
    refine gj_iload_n dX0_melts_44 rfl ?_
    exact gj_ir rfl dX0_melts_45 rfl (congrArg nI (by simp [sp_melt])) rfl
  · -- 4
    subst zq1
    refine gj_tabIn (a := 4) (tgt := 36) (by decide) dX0_melts_1 (by decide) (by decide) rfl rfl ?_
    refine gj_iload_n dX0_melts_36 rfl ?_
    refine gj_ic (w := 1) dX0_melts_37 ?_
    refine gj_iaddN  dX0_melts_38 ?_
    exact gj_ir rfl dX0_melts_39 rfl (congrArg nI (by simp [sp_melt])) rfl
  subst zq1
  refine gj_tabIn (a := 5) (tgt := 40) (by decide) dX0_melts_1 (by decide) (by decide) rfl rfl ?_
  refine gj_iload_n dX0_melts_40 rfl ?_
  refine gj_ic (w := 2) dX0_melts_41 ?_
  refine gj_idivN (by omega) (by omega) (by omega) dX0_melts_42 ?_
  exact gj_ir rfl dX0_melts_43 rfl (congrArg nI (by simp [sp_melt])) rfl
set_option maxHeartbeats 1000000 in
set_option maxRecDepth 10000 in
theorem ev_X0_bears {E : mj_E} {h : mj_H} {k i : Nat} (hk : k ≤ 5) (hi : i < 2 ^ 29) : mj_Ev E iX0_bears [.int (nI k), .int (nI i)] h (mj_R (some (.int (nI (sp_bear k i)))) h) := by
  refine mj_Ev.of (L0 := [some (.int (nI k)), some (.int (nI i)), none]) pnRX0 (Nat.le_of_ble_eq_true rfl) rfl ?_
  refine gj_ic (w := 2) dX0_bears_0 ?_
  refine gj_iload_n dX0_bears_1 rfl ?_
  refine gj_imulN  dX0_bears_2 ?_
  refine gj_istore_n (L' := [some (.int (nI k)), some (.int (nI i)), some (.int (nI (2 * i)))]) dX0_bears_3 (Nat.le_of_ble_eq_true rfl) rfl ?_
  refine gj_iload_n dX0_bears_4 rfl ?_
  rcases (by omega : k = 0 ∨ k = 1 ∨ k = 2 ∨ k = 3 ∨ k = 4 ∨ k = 5) with zq1 | zq1 | zq1 | zq1 | zq1 | zq1
  · -- 0
    subst zq1
    refine gj_lkp (a := 0) (tgt := 46) (by decide) dX0_bears_5 (by decide) rfl rfl ?_
    refine gj_iload_n dX0_bears_46 rfl ?_
    exact gj_ir rfl dX0_bears_47 rfl (congrArg nI (by simp [sp_bear])) rfl
  · -- 1
    subst zq1
    refine gj_lkp (a := 1) (tgt := 46) (by decide) dX0_bears_5 (by decide) rfl rfl ?_
    refine gj_iload_n dX0_bears_46 rfl ?_
    exact gj_ir rfl dX0_bears_47 rfl (congrArg nI (by simp [sp_bear])) rfl
  · -- 2
    subst zq1
    refine gj_lkp (a := 2) (tgt := 46) (by decide) dX0_bears_5 (by decide) rfl rfl ?_
    refine gj_iload_n dX0_bears_46 rfl ?_
    exact gj_ir rfl dX0_bears_47 rfl (congrArg nI (by simp [sp_bear])) rfl
  · -- 3
    subst zq1
    refine gj_lkp (a := 3) (tgt := 46) (by decide) dX0_bears_5 (by decide) rfl rfl ?_
    refine gj_iload_n dX0_bears_46 rfl ?_
    exact gj_ir rfl dX0_bears_47 rfl (congrArg nI (by simp [sp_bear])) rfl
  · -- 4
    subst zq1
    refine gj_lkp (a := 4) (tgt := 32) (by decide) dX0_bears_5 (by decide) rfl rfl ?_
    refine gj_ic (w := 0) dX0_bears_32 ?_
    refine gj_iload_n dX0_bears_33 rfl ?_
    refine gj_ic (w := 5) dX0_bears_34 ?_
    refine gj_isub dX0_bears_35 ?_
    refine gj_max0 w_608 w_609 w_83 w_610 (by omega) (by omega) dX0_bears_36 rfl rfl ?_
    exact gj_ir rfl dX0_bears_39 rfl (congrArg nI (by simp [sp_bear])) rfl
  subst zq1
  refine gj_lkp (a := 5) (tgt := 40) (by decide) dX0_bears_5 (by decide) rfl rfl ?_
  refine gj_iload_n dX0_bears_40 rfl ?_
  refine gj_ic (w := 1) dX0_bears_41 ?_
  refine gj_iaddN  dX0_bears_42 ?_
  refine gj_ic (w := 2) dX0_bears_43 ?_
  refine gj_idivN (by omega) (by omega) (by omega) dX0_bears_44 ?_
  exact gj_ir rfl dX0_bears_45 rfl (congrArg nI (by simp [sp_bear])) rfl
set_option maxHeartbeats 1000000 in
set_option maxRecDepth 10000 in
theorem ev_X0_after {E : mj_E} {h : mj_H} {k i f s : Nat} (hk : k ≤ 5) (hi : i ≤ 99) (hf : f ≤ 9) (hs : s ≤ 9) : mj_Ev E iX0_after [.int (nI k), .int (nI i), .int (nI f), .int (nI s)] h (mj_R (some (.int (nI (sp_after k i f s)))) h) := by
  refine mj_Ev.of (L0 := [some (.int (nI k)), some (.int (nI i)), some (.int (nI f)), some (.int (nI s)), none]) pnRX0 (Nat.le_of_ble_eq_true rfl) rfl ?_
  refine gj_bp 99 dX0_after_0 (by decide) ?_
  refine gj_iload_n dX0_after_2 rfl ?_
  refine gj_iload_n dX0_after_3 rfl ?_
  refine gj_iload_n dX0_after_4 rfl ?_
  refine gj_iload_n dX0_after_5 rfl ?_
  refine gj_S1 lkX0_9 (ev_X0_grows (by omega) (by omega) (by omega)) dX0_after_6 rfl rfl rfl rfl rfl ?_
  have hb1 := @sp_grow_le k i f
  refine gj_iaddN  dX0_after_9 ?_
  refine gj_minN w_611 w_433 w_83 w_434 (by omega) (by omega) dX0_after_10 rfl rfl ?_
  refine gj_istore (L' := [some (.int (nI k)), some (.int (nI i)), some (.int (nI f)), some (.int (nI s)), some (.int (nI (min 99 (i + (sp_grow k i f)))))]) dX0_after_13 (Nat.le_of_ble_eq_true rfl) rfl ?_
  refine gj_ic (w := 0) dX0_after_15 ?_
  refine gj_iload dX0_after_16 rfl ?_
  refine gj_iload_n dX0_after_18 rfl ?_
  refine gj_iload_n dX0_after_19 rfl ?_
  refine gj_S1 lkX0_21 (ev_X0_melts (by omega) (by omega)) dX0_after_20 rfl rfl rfl rfl rfl ?_
  have hb2 := @sp_melt_le k s
  refine gj_isub dX0_after_23 ?_
  refine gj_max0 w_608 w_609 w_83 w_610 (by omega) (by omega) dX0_after_24 rfl rfl ?_
  exact gj_ir rfl dX0_after_27 rfl rfl rfl
set_option maxHeartbeats 1000000 in
set_option maxRecDepth 10000 in
theorem ev_X6_yes {E : mj_E} {h : mj_H} {k w c m f : Nat} (hk : k ≤ 5) (hw : w < 2 ^ 31) (hc : c < 2 ^ 31) (hm : m < 2 ^ 31) (hf : f < 2 ^ 31) : mj_Ev E iX6_yes [.int (nI k), .int (nI w), .int (nI c), .int (nI m), .int (nI f)] h (mj_R (some (.int (mj_b (sp_yes k w c m f)))) h) := by
  refine mj_Ev.of (L0 := [some (.int (nI k)), some (.int (nI w)), some (.int (nI c)), some (.int (nI m)), some (.int (nI f)), none, none, none]) pnRX6 (Nat.le_of_ble_eq_true rfl) rfl ?_
  refine gj_iload_n dX6_yes_0 rfl ?_
  refine gj_iload_n dX6_yes_1 rfl ?_
  refine gj_icmp_ltN (tgt := 9) (by omega) (by omega) dX6_yes_2 rfl (fun zq1 => ?_) (fun zq1 => ?_)
  · -- 2 taken
    refine gj_ic (w := 0) dX6_yes_9 ?_
    refine gj_istore (L' := [some (.int (nI k)), some (.int (nI w)), some (.int (nI c)), some (.int (nI m)), some (.int (nI f)), some (.int (nI 0)), none, none]) dX6_yes_10 (Nat.le_of_ble_eq_true rfl) rfl ?_
    refine gj_iload dX6_yes_12 rfl ?_
    refine gj_if_eqN (tgt := 27) (by omega) dX6_yes_14 rfl (fun zq0 => ?_) (fun zq0 => ?_)
    rotate_left
    · exfalso; revert zq0; decide
    refine gj_ic (w := 0) dX6_yes_27 ?_
    refine gj_istore (L' := [some (.int (nI k)), some (.int (nI w)), some (.int (nI c)), some (.int (nI m)), some (.int (nI f)), some (.int (nI 0)), some (.int (nI 0)), none]) dX6_yes_28 (Nat.le_of_ble_eq_true rfl) rfl ?_
    refine gj_iload dX6_yes_30 rfl ?_
    refine gj_if_neN (tgt := 42) (by omega) dX6_yes_32 rfl (fun zq0 => ?_) (fun zq0 => ?_)
    · exfalso; revert zq0; decide
    refine gj_iload dX6_yes_35 rfl ?_
    refine gj_bp 6 dX6_yes_37 (by decide) ?_
    refine gj_icmp_ltN (tgt := 46) (by omega) (by omega) dX6_yes_39 rfl (fun zq2 => ?_) (fun zq2 => ?_)
    · -- 39 taken
      refine gj_ic (w := 0) dX6_yes_46 ?_
      refine gj_istore (L' := [some (.int (nI k)), some (.int (nI w)), some (.int (nI c)), some (.int (nI m)), some (.int (nI f)), some (.int (nI 0)), some (.int (nI 0)), some (.int (nI 0))]) dX6_yes_47 (Nat.le_of_ble_eq_true rfl) rfl ?_
      refine gj_iload_n dX6_yes_49 rfl ?_
      rcases (by omega : k = 0 ∨ k = 1 ∨ k = 2 ∨ k = 3 ∨ k = 4 ∨ k = 5) with zq3 | zq3 | zq3 | zq3 | zq3 | zq3
      · -- 0
        subst zq3
        refine gj_tabOut (a := 0) (tgt := 125) (by decide) dX6_yes_50 (by decide) rfl ?_
        refine gj_iload dX6_yes_125 rfl ?_
        exact gj_zr rfl dX6_yes_127 rfl (mj_b0 (by simp [sp_yes]; try omega)) rfl
      · -- 1
        subst zq3
        refine gj_tabIn (a := 1) (tgt := 84) (by decide) dX6_yes_50 (by decide) (by decide) rfl rfl ?_
        refine gj_iload dX6_yes_84 rfl ?_
        exact gj_zr rfl dX6_yes_86 rfl (mj_b0 (by simp [sp_yes]; try omega)) rfl
      · -- 2
        subst zq3
        refine gj_tabIn (a := 2) (tgt := 87) (by decide) dX6_yes_50 (by decide) (by decide) rfl rfl ?_
        refine gj_ic (w := 0) dX6_yes_87 ?_
        exact gj_zr rfl dX6_yes_88 rfl (mj_b0 (by simp [sp_yes]; try omega)) rfl
      · -- 3
        subst zq3
        refine gj_tabIn (a := 3) (tgt := 89) (by decide) dX6_yes_50 (by decide) (by decide) rfl rfl ?_
        refine gj_iload dX6_yes_89 rfl ?_
        exact gj_zr rfl dX6_yes_91 rfl (mj_b0 (by simp [sp_yes]; try omega)) rfl
      · -- 4
        subst zq3
        refine gj_tabIn (a := 4) (tgt := 92) (by decide) dX6_yes_50 (by decide) (by decide) rfl rfl ?_
        refine gj_iload dX6_yes_92 rfl ?_
        refine gj_ic (w := 1) dX6_yes_94 ?_
        refine gj_icmp_geN (tgt := 103) (by omega) (by omega) dX6_yes_95 rfl (fun zq4 => ?_) (fun zq4 => ?_)
        · -- 95 taken
          refine gj_ic (w := 1) dX6_yes_103 ?_
          refine gj_goto (tgt := 108) dX6_yes_104 rfl ?_
          exact gj_zr rfl dX6_yes_108 rfl (mj_b1 (by simp [sp_yes]; try omega)) rfl
        refine gj_iload dX6_yes_98 rfl ?_
        refine gj_if_eqN (tgt := 107) (by omega) dX6_yes_100 rfl (fun zq0 => ?_) (fun zq0 => ?_)
        rotate_left
        · exfalso; revert zq0; decide
        refine gj_ic (w := 0) dX6_yes_107 ?_
        exact gj_zr rfl dX6_yes_108 rfl (mj_b0 (by simp [sp_yes]; try omega)) rfl
      subst zq3
      refine gj_tabIn (a := 5) (tgt := 109) (by decide) dX6_yes_50 (by decide) (by decide) rfl rfl ?_
      refine gj_iload dX6_yes_109 rfl ?_
      refine gj_if_eqN (tgt := 123) (by omega) dX6_yes_111 rfl (fun zq0 => ?_) (fun zq0 => ?_)
      rotate_left
      · exfalso; revert zq0; decide
      refine gj_ic (w := 0) dX6_yes_123 ?_
      exact gj_zr rfl dX6_yes_124 rfl (mj_b0 (by simp [sp_yes]; try omega)) rfl
    refine gj_ic (w := 1) dX6_yes_42 ?_
    refine gj_goto (tgt := 47) dX6_yes_43 rfl ?_
    refine gj_istore (L' := [some (.int (nI k)), some (.int (nI w)), some (.int (nI c)), some (.int (nI m)), some (.int (nI f)), some (.int (nI 0)), some (.int (nI 0)), some (.int (nI 1))]) dX6_yes_47 (Nat.le_of_ble_eq_true rfl) rfl ?_
    refine gj_iload_n dX6_yes_49 rfl ?_
    rcases (by omega : k = 0 ∨ k = 1 ∨ k = 2 ∨ k = 3 ∨ k = 4 ∨ k = 5) with zq5 | zq5 | zq5 | zq5 | zq5 | zq5
    · -- 0
      subst zq5
      refine gj_tabOut (a := 0) (tgt := 125) (by decide) dX6_yes_50 (by decide) rfl ?_
      refine gj_iload dX6_yes_125 rfl ?_
      exact gj_zr rfl dX6_yes_127 rfl (mj_b0 (by simp [sp_yes]; try omega)) rfl
    · -- 1
      subst zq5
      refine gj_tabIn (a := 1) (tgt := 84) (by decide) dX6_yes_50 (by decide) (by decide) rfl rfl ?_
      refine gj_iload dX6_yes_84 rfl ?_
      exact gj_zr rfl dX6_yes_86 rfl (mj_b0 (by simp [sp_yes]; try omega)) rfl
    · -- 2
      subst zq5
      refine gj_tabIn (a := 2) (tgt := 87) (by decide) dX6_yes_50 (by decide) (by decide) rfl rfl ?_
      refine gj_ic (w := 0) dX6_yes_87 ?_
      exact gj_zr rfl dX6_yes_88 rfl (mj_b0 (by simp [sp_yes]; try omega)) rfl
    · -- 3
      subst zq5
      refine gj_tabIn (a := 3) (tgt := 89) (by decide) dX6_yes_50 (by decide) (by decide) rfl rfl ?_
      refine gj_iload dX6_yes_89 rfl ?_
      exact gj_zr rfl dX6_yes_91 rfl (mj_b1 (by simp [sp_yes]; try omega)) rfl
    · -- 4
      subst zq5
      refine gj_tabIn (a := 4) (tgt := 92) (by decide) dX6_yes_50 (by decide) (by decide) rfl rfl ?_
      refine gj_iload dX6_yes_92 rfl ?_
      refine gj_ic (w := 1) dX6_yes_94 ?_
      refine gj_icmp_geN (tgt := 103) (by omega) (by omega) dX6_yes_95 rfl (fun zq6 => ?_) (fun zq6 => ?_)
      · -- 95 taken
        refine gj_ic (w := 1) dX6_yes_103 ?_
        refine gj_goto (tgt := 108) dX6_yes_104 rfl ?_
        exact gj_zr rfl dX6_yes_108 rfl (mj_b1 (by simp [sp_yes]; try omega)) rfl
      refine gj_iload dX6_yes_98 rfl ?_
      refine gj_if_eqN (tgt := 107) (by omega) dX6_yes_100 rfl (fun zq0 => ?_) (fun zq0 => ?_)
      · exfalso; revert zq0; decide
      refine gj_ic (w := 1) dX6_yes_103 ?_
      refine gj_goto (tgt := 108) dX6_yes_104 rfl ?_
      exact gj_zr rfl dX6_yes_108 rfl (mj_b1 (by simp [sp_yes]; try omega)) rfl
    subst zq5
    refine gj_tabIn (a := 5) (tgt := 109) (by decide) dX6_yes_50 (by decide) (by decide) rfl rfl ?_
    refine gj_iload dX6_yes_109 rfl ?_
    refine gj_if_eqN (tgt := 123) (by omega) dX6_yes_111 rfl (fun zq0 => ?_) (fun zq0 => ?_)
    rotate_left
    · exfalso; revert zq0; decide
    refine gj_ic (w := 0) dX6_yes_123 ?_
    exact gj_zr rfl dX6_yes_124 rfl (mj_b0 (by simp [sp_yes]; try omega)) rfl
  refine gj_ic (w := 1) dX6_yes_5 ?_
  refine gj_goto (tgt := 10) dX6_yes_6 rfl ?_
  refine gj_istore (L' := [some (.int (nI k)), some (.int (nI w)), some (.int (nI c)), some (.int (nI m)), some (.int (nI f)), some (.int (nI 1)), none, none]) dX6_yes_10 (Nat.le_of_ble_eq_true rfl) rfl ?_
  refine gj_iload dX6_yes_12 rfl ?_
  refine gj_if_eqN (tgt := 27) (by omega) dX6_yes_14 rfl (fun zq0 => ?_) (fun zq0 => ?_)
  · exfalso; revert zq0; decide
  refine gj_iload_n dX6_yes_17 rfl ?_
  refine gj_bp 40 dX6_yes_18 (by decide) ?_
  refine gj_icmp_ltN (tgt := 27) (by omega) (by omega) dX6_yes_20 rfl (fun zq7 => ?_) (fun zq7 => ?_)
  · -- 20 taken
    refine gj_ic (w := 0) dX6_yes_27 ?_
    refine gj_istore (L' := [some (.int (nI k)), some (.int (nI w)), some (.int (nI c)), some (.int (nI m)), some (.int (nI f)), some (.int (nI 1)), some (.int (nI 0)), none]) dX6_yes_28 (Nat.le_of_ble_eq_true rfl) rfl ?_
    refine gj_iload dX6_yes_30 rfl ?_
    refine gj_if_neN (tgt := 42) (by omega) dX6_yes_32 rfl (fun zq0 => ?_) (fun zq0 => ?_)
    rotate_left
    · exfalso; revert zq0; decide
    refine gj_ic (w := 1) dX6_yes_42 ?_
    refine gj_goto (tgt := 47) dX6_yes_43 rfl ?_
    refine gj_istore (L' := [some (.int (nI k)), some (.int (nI w)), some (.int (nI c)), some (.int (nI m)), some (.int (nI f)), some (.int (nI 1)), some (.int (nI 0)), some (.int (nI 1))]) dX6_yes_47 (Nat.le_of_ble_eq_true rfl) rfl ?_
    refine gj_iload_n dX6_yes_49 rfl ?_
    rcases (by omega : k = 0 ∨ k = 1 ∨ k = 2 ∨ k = 3 ∨ k = 4 ∨ k = 5) with zq8 | zq8 | zq8 | zq8 | zq8 | zq8
    · -- 0
      subst zq8
      refine gj_tabOut (a := 0) (tgt := 125) (by decide) dX6_yes_50 (by decide) rfl ?_
      refine gj_iload dX6_yes_125 rfl ?_
      exact gj_zr rfl dX6_yes_127 rfl (mj_b1 (by simp [sp_yes]; try omega)) rfl
    · -- 1
      subst zq8
      refine gj_tabIn (a := 1) (tgt := 84) (by decide) dX6_yes_50 (by decide) (by decide) rfl rfl ?_
      refine gj_iload dX6_yes_84 rfl ?_
      exact gj_zr rfl dX6_yes_86 rfl (mj_b0 (by simp [sp_yes]; try omega)) rfl
    · -- 2
      subst zq8
      refine gj_tabIn (a := 2) (tgt := 87) (by decide) dX6_yes_50 (by decide) (by decide) rfl rfl ?_
      refine gj_ic (w := 0) dX6_yes_87 ?_
      exact gj_zr rfl dX6_yes_88 rfl (mj_b0 (by simp [sp_yes]; try omega)) rfl
    · -- 3
      subst zq8
      refine gj_tabIn (a := 3) (tgt := 89) (by decide) dX6_yes_50 (by decide) (by decide) rfl rfl ?_
      refine gj_iload dX6_yes_89 rfl ?_
      exact gj_zr rfl dX6_yes_91 rfl (mj_b1 (by simp [sp_yes]; try omega)) rfl
    · -- 4
      subst zq8
      refine gj_tabIn (a := 4) (tgt := 92) (by decide) dX6_yes_50 (by decide) (by decide) rfl rfl ?_
      refine gj_iload dX6_yes_92 rfl ?_
      refine gj_ic (w := 1) dX6_yes_94 ?_
      refine gj_icmp_geN (tgt := 103) (by omega) (by omega) dX6_yes_95 rfl (fun zq9 => ?_) (fun zq9 => ?_)
      · -- 95 taken
        refine gj_ic (w := 1) dX6_yes_103 ?_
        refine gj_goto (tgt := 108) dX6_yes_104 rfl ?_
        exact gj_zr rfl dX6_yes_108 rfl (mj_b1 (by simp [sp_yes]; try omega)) rfl
      refine gj_iload dX6_yes_98 rfl ?_
      refine gj_if_eqN (tgt := 107) (by omega) dX6_yes_100 rfl (fun zq0 => ?_) (fun zq0 => ?_)
      · exfalso; revert zq0; decide
      refine gj_ic (w := 1) dX6_yes_103 ?_
      refine gj_goto (tgt := 108) dX6_yes_104 rfl ?_
      exact gj_zr rfl dX6_yes_108 rfl (mj_b1 (by simp [sp_yes]; try omega)) rfl
    subst zq8
    refine gj_tabIn (a := 5) (tgt := 109) (by decide) dX6_yes_50 (by decide) (by decide) rfl rfl ?_
    refine gj_iload dX6_yes_109 rfl ?_
    refine gj_if_eqN (tgt := 123) (by omega) dX6_yes_111 rfl (fun zq0 => ?_) (fun zq0 => ?_)
    rotate_left
    · exfalso; revert zq0; decide
    refine gj_ic (w := 0) dX6_yes_123 ?_
    exact gj_zr rfl dX6_yes_124 rfl (mj_b0 (by simp [sp_yes]; try omega)) rfl
  refine gj_ic (w := 1) dX6_yes_23 ?_
  refine gj_goto (tgt := 28) dX6_yes_24 rfl ?_
  refine gj_istore (L' := [some (.int (nI k)), some (.int (nI w)), some (.int (nI c)), some (.int (nI m)), some (.int (nI f)), some (.int (nI 1)), some (.int (nI 1)), none]) dX6_yes_28 (Nat.le_of_ble_eq_true rfl) rfl ?_
  refine gj_iload dX6_yes_30 rfl ?_
  refine gj_if_neN (tgt := 42) (by omega) dX6_yes_32 rfl (fun zq0 => ?_) (fun zq0 => ?_)
  rotate_left
  · exfalso; revert zq0; decide
  refine gj_ic (w := 1) dX6_yes_42 ?_
  refine gj_goto (tgt := 47) dX6_yes_43 rfl ?_
  refine gj_istore (L' := [some (.int (nI k)), some (.int (nI w)), some (.int (nI c)), some (.int (nI m)), some (.int (nI f)), some (.int (nI 1)), some (.int (nI 1)), some (.int (nI 1))]) dX6_yes_47 (Nat.le_of_ble_eq_true rfl) rfl ?_
  refine gj_iload_n dX6_yes_49 rfl ?_
  rcases (by omega : k = 0 ∨ k = 1 ∨ k = 2 ∨ k = 3 ∨ k = 4 ∨ k = 5) with zq10 | zq10 | zq10 | zq10 | zq10 | zq10
  · -- 0
    subst zq10
    refine gj_tabOut (a := 0) (tgt := 125) (by decide) dX6_yes_50 (by decide) rfl ?_
    refine gj_iload dX6_yes_125 rfl ?_
    exact gj_zr rfl dX6_yes_127 rfl (mj_b1 (by simp [sp_yes]; try omega)) rfl
  · -- 1
    subst zq10
    refine gj_tabIn (a := 1) (tgt := 84) (by decide) dX6_yes_50 (by decide) (by decide) rfl rfl ?_
    refine gj_iload dX6_yes_84 rfl ?_
    exact gj_zr rfl dX6_yes_86 rfl (mj_b1 (by simp [sp_yes]; try omega)) rfl
  · -- 2
    subst zq10
    refine gj_tabIn (a := 2) (tgt := 87) (by decide) dX6_yes_50 (by decide) (by decide) rfl rfl ?_
    refine gj_ic (w := 0) dX6_yes_87 ?_
    exact gj_zr rfl dX6_yes_88 rfl (mj_b0 (by simp [sp_yes]; try omega)) rfl
  · -- 3
    subst zq10
    refine gj_tabIn (a := 3) (tgt := 89) (by decide) dX6_yes_50 (by decide) (by decide) rfl rfl ?_
    refine gj_iload dX6_yes_89 rfl ?_
    exact gj_zr rfl dX6_yes_91 rfl (mj_b1 (by simp [sp_yes]; try omega)) rfl
  · -- 4
    subst zq10
    refine gj_tabIn (a := 4) (tgt := 92) (by decide) dX6_yes_50 (by decide) (by decide) rfl rfl ?_
    refine gj_iload dX6_yes_92 rfl ?_
    refine gj_ic (w := 1) dX6_yes_94 ?_
    refine gj_icmp_geN (tgt := 103) (by omega) (by omega) dX6_yes_95 rfl (fun zq11 => ?_) (fun zq11 => ?_)
    · -- 95 taken
      refine gj_ic (w := 1) dX6_yes_103 ?_
      refine gj_goto (tgt := 108) dX6_yes_104 rfl ?_
      exact gj_zr rfl dX6_yes_108 rfl (mj_b1 (by simp [sp_yes]; try omega)) rfl
    refine gj_iload dX6_yes_98 rfl ?_
    refine gj_if_eqN (tgt := 107) (by omega) dX6_yes_100 rfl (fun zq0 => ?_) (fun zq0 => ?_)
    · exfalso; revert zq0; decide
    refine gj_ic (w := 1) dX6_yes_103 ?_
    refine gj_goto (tgt := 108) dX6_yes_104 rfl ?_
    exact gj_zr rfl dX6_yes_108 rfl (mj_b1 (by simp [sp_yes]; try omega)) rfl
  subst zq10
  refine gj_tabIn (a := 5) (tgt := 109) (by decide) dX6_yes_50 (by decide) (by decide) rfl rfl ?_
  refine gj_iload dX6_yes_109 rfl ?_
  refine gj_if_eqN (tgt := 123) (by omega) dX6_yes_111 rfl (fun zq0 => ?_) (fun zq0 => ?_)
  · exfalso; revert zq0; decide
  refine gj_iload_n dX6_yes_114 rfl ?_
  refine gj_iload_n dX6_yes_115 rfl ?_
  refine gj_icmp_ltN (tgt := 123) (by omega) (by omega) dX6_yes_116 rfl (fun zq12 => ?_) (fun zq12 => ?_)
  · -- 116 taken
    refine gj_ic (w := 0) dX6_yes_123 ?_
    exact gj_zr rfl dX6_yes_124 rfl (mj_b0 (by simp [sp_yes]; try omega)) rfl
  refine gj_ic (w := 1) dX6_yes_119 ?_
  refine gj_goto (tgt := 124) dX6_yes_120 rfl ?_
  exact gj_zr rfl dX6_yes_124 rfl (mj_b1 (by simp [sp_yes]; try omega)) rfl
/-- a sheet: its object, kinds, ice -/
def mj_Sh (h : mj_H) (a kA iA : Nat) (K I : Nat → Nat) : Prop := h a = some (.inr (3, [.ref kA, .ref iA])) ∧ h kA = some (mj_ar 25 K) ∧ h iA = some (mj_ar 25 I) ∧ kA ≠ iA ∧ (∀ c, K c ≤ 5) ∧ (∀ c, I c ≤ 99)
def mj_Wk (h : mj_H) (a kA iA : Nat) (F U : Nat → Nat) : Prop := h a = some (.inr (7, [.ref kA, .ref iA])) ∧ h kA = some (mj_ar 7 F) ∧ h iA = some (mj_ar 7 U) ∧ kA ≠ iA ∧ (∀ c, F c ≤ 9) ∧ (∀ c, U c ≤ 9)
set_option maxHeartbeats 1000000 in
set_option maxRecDepth 10000 in
theorem ev_X4_kindOf {E : mj_E} {h : mj_H} {a kA iA : Nat} {K I : Nat → Nat} (S : mj_Sh h a kA iA K I) {c : Nat} (hc : c < 25) : mj_Ev E iX4_kindOf [.ref a, .int (nI c)] h (mj_R (some (.int (nI (K c)))) h) := by
  refine mj_Ev.of (L0 := [some (.ref a), some (.int (nI c))]) pnRX4 (Nat.le_of_ble_eq_true rfl) rfl ?_
  refine gj_iload_n dX4_kindOf_0 rfl ?_
  refine gj_N1 lkX4_30 (ev_X10_isCell_t (by omega) (by omega)) dX4_kindOf_1 rfl rfl rfl rfl rfl ?_
  refine gj_if_eqN (tgt := 16) (by omega) dX4_kindOf_4 rfl (fun zq0 => ?_) (fun zq0 => ?_)
  · exfalso; revert zq0; decide
  refine gj_aload_n dX4_kindOf_7 rfl ?_
  refine gfX4_9 rfl dX4_kindOf_8 S.1 rfl ?_
  refine gj_iload_n dX4_kindOf_11 rfl ?_
  refine gj_ialdN dX4_kindOf_12 S.2.1 (by omega) (by omega) ?_
  have hb1 := S.2.2.2.2.1 c
  refine gj_goto (tgt := 17) dX4_kindOf_13 rfl ?_
  exact gj_ir rfl dX4_kindOf_17 rfl rfl rfl
set_option maxHeartbeats 1000000 in
set_option maxRecDepth 10000 in
theorem ev_X4_iceOf {E : mj_E} {h : mj_H} {a kA iA : Nat} {K I : Nat → Nat} (S : mj_Sh h a kA iA K I) {c : Nat} (hc : c < 25) : mj_Ev E iX4_iceOf [.ref a, .int (nI c)] h (mj_R (some (.int (nI (I c)))) h) := by
  refine mj_Ev.of (L0 := [some (.ref a), some (.int (nI c))]) pnRX4 (Nat.le_of_ble_eq_true rfl) rfl ?_
  refine gj_iload_n dX4_iceOf_0 rfl ?_
  refine gj_N1 lkX4_30 (ev_X10_isCell_t (by omega) (by omega)) dX4_iceOf_1 rfl rfl rfl rfl rfl ?_
  refine gj_if_eqN (tgt := 16) (by omega) dX4_iceOf_4 rfl (fun zq0 => ?_) (fun zq0 => ?_)
  · exfalso; revert zq0; decide
  refine gj_aload_n dX4_iceOf_7 rfl ?_
  refine gfX4_15 rfl dX4_iceOf_8 S.1 rfl ?_
  refine gj_iload_n dX4_iceOf_11 rfl ?_
  refine gj_ialdN dX4_iceOf_12 S.2.2.1 (by omega) (by omega) ?_
  have hb1 := S.2.2.2.2.2 c
  refine gj_goto (tgt := 17) dX4_iceOf_13 rfl ?_
  exact gj_ir rfl dX4_iceOf_17 rfl rfl rfl
set_option maxHeartbeats 1000000 in
set_option maxRecDepth 10000 in
theorem ev_X4_bears {E : mj_E} {h : mj_H} {a kA iA : Nat} {K I : Nat → Nat} (S : mj_Sh h a kA iA K I) {c : Nat} (hc : c < 25) : mj_Ev E iX4_bears [.ref a, .int (nI c)] h (mj_R (some (.int (nI (sp_bear (K c) (I c))))) h) := by
  refine mj_Ev.of (L0 := [some (.ref a), some (.int (nI c))]) pnRX4 (Nat.le_of_ble_eq_true rfl) rfl ?_
  refine gj_iload_n dX4_bears_0 rfl ?_
  refine gj_N1 lkX4_30 (ev_X10_isCell_t (by omega) (by omega)) dX4_bears_1 rfl rfl rfl rfl rfl ?_
  refine gj_if_eqN (tgt := 25) (by omega) dX4_bears_4 rfl (fun zq0 => ?_) (fun zq0 => ?_)
  · exfalso; revert zq0; decide
  refine gj_aload_n dX4_bears_7 rfl ?_
  refine gfX4_9 rfl dX4_bears_8 S.1 rfl ?_
  refine gj_iload_n dX4_bears_11 rfl ?_
  refine gj_ialdN dX4_bears_12 S.2.1 (by omega) (by omega) ?_
  have hb1 := S.2.2.2.2.1 c
  refine gj_aload_n dX4_bears_13 rfl ?_
  refine gfX4_15 rfl dX4_bears_14 S.1 rfl ?_
  refine gj_iload_n dX4_bears_17 rfl ?_
  refine gj_ialdN dX4_bears_18 S.2.2.1 (by omega) (by omega) ?_
  have hb2 := S.2.2.2.2.2 c
  refine gj_S1 lkX4_34 (ev_X0_bears (by omega) (by omega)) dX4_bears_19 rfl rfl rfl rfl rfl ?_
  have hb3 := @sp_bear_le (K c) (I c)
  refine gj_goto (tgt := 26) dX4_bears_22 rfl ?_
  exact gj_ir rfl dX4_bears_26 rfl rfl rfl
set_option maxHeartbeats 1000000 in
set_option maxRecDepth 10000 in
theorem ev_X4_setKind {E : mj_E} {h : mj_H} {a kA iA : Nat} {K I : Nat → Nat} (S : mj_Sh h a kA iA K I) {c t : Nat} (hc : c < 25) : mj_Ev E iX4_setKind [.ref a, .int (nI c), .int (nI t)] h (mj_R none (mj_up h kA (mj_ar 25 (mj_un K c t)))) := by
  refine mj_Ev.of (L0 := [some (.ref a), some (.int (nI c)), some (.int (nI t))]) pnRX4 (Nat.le_of_ble_eq_true rfl) rfl ?_
  refine gj_iload_n dX4_setKind_0 rfl ?_
  refine gj_N1 lkX4_30 (ev_X10_isCell_t (by omega) (by omega)) dX4_setKind_1 rfl rfl rfl rfl rfl ?_
  refine gj_if_eqN (tgt := 14) (by omega) dX4_setKind_4 rfl (fun zq0 => ?_) (fun zq0 => ?_)
  · exfalso; revert zq0; decide
  refine gj_aload_n dX4_setKind_7 rfl ?_
  refine gfX4_9 rfl dX4_setKind_8 S.1 rfl ?_
  refine gj_iload_n dX4_setKind_11 rfl ?_
  refine gj_iload_n dX4_setKind_12 rfl ?_
  refine gj_iastN dX4_setKind_13 S.2.1 (by omega) (by omega) ?_
  exact gj_vr rfl dX4_setKind_14 rfl
set_option maxHeartbeats 1000000 in
set_option maxRecDepth 10000 in
theorem ev_X4_setIce {E : mj_E} {h : mj_H} {a kA iA : Nat} {K I : Nat → Nat} (S : mj_Sh h a kA iA K I) {c t : Nat} (hc : c < 25) : mj_Ev E iX4_setIce [.ref a, .int (nI c), .int (nI t)] h (mj_R none (mj_up h iA (mj_ar 25 (mj_un I c t)))) := by
  refine mj_Ev.of (L0 := [some (.ref a), some (.int (nI c)), some (.int (nI t))]) pnRX4 (Nat.le_of_ble_eq_true rfl) rfl ?_
  refine gj_iload_n dX4_setIce_0 rfl ?_
  refine gj_N1 lkX4_30 (ev_X10_isCell_t (by omega) (by omega)) dX4_setIce_1 rfl rfl rfl rfl rfl ?_
  refine gj_if_eqN (tgt := 14) (by omega) dX4_setIce_4 rfl (fun zq0 => ?_) (fun zq0 => ?_)
  · exfalso; revert zq0; decide
  refine gj_aload_n dX4_setIce_7 rfl ?_
  refine gfX4_15 rfl dX4_setIce_8 S.1 rfl ?_
  refine gj_iload_n dX4_setIce_11 rfl ?_
  refine gj_iload_n dX4_setIce_12 rfl ?_
  refine gj_iastN dX4_setIce_13 S.2.2.1 (by omega) (by omega) ?_
  exact gj_vr rfl dX4_setIce_14 rfl
set_option maxHeartbeats 1000000 in
set_option maxRecDepth 10000 in
theorem ev_X4_passDay {E : mj_E} {h : mj_H} {a kA iA : Nat} {K I : Nat → Nat} (S : mj_Sh h a kA iA K I) {f s : Nat} (hf : f ≤ 9) (hs : s ≤ 9) : mj_Ev E iX4_passDay [.ref a, .int (nI f), .int (nI s)] h (mj_R none (mj_up h iA (mj_ar 25 (fun c => sp_after (K c) (I c) f s)))) := by
  refine mj_Ev.of (L0 := [some (.ref a), some (.int (nI f)), some (.int (nI s)), none]) pnRX4 (Nat.le_of_ble_eq_true rfl) rfl ?_
  refine gj_ic (w := 0) dX4_passDay_0 ?_
  refine gj_istore_n (L' := [some (.ref a), some (.int (nI f)), some (.int (nI s)), some (.int (nI 0))]) dX4_passDay_1 (Nat.le_of_ble_eq_true rfl) rfl ?_
  refine gj_cast (L' := [some (.ref a), some (.int (nI f)), some (.int (nI s)), some (.int (nI 0))]) (st' := []) (h' := mj_up h iA (mj_ar 25 (mj_mix (fun c => sp_after (K c) (I c) f s) I 0))) rfl rfl (by rw [mj_mix_0, mj_up_self S.2.2.1]) ?_
  refine gj_loop (fun j => [some (.ref a), some (.int (nI f)), some (.int (nI s)), some (.int (nI j))]) (fun j => mj_up h iA (mj_ar 25 (mj_mix (fun c => sp_after (K c) (I c) f s) I j))) 25 ?_ (fun j hj ih => ?_) 0 (by omega)
  · show gj _ _ _ _ _ _ [some (.ref a), some (.int (nI f)), some (.int (nI s)), some (.int (nI 25))] _ _
    refine gj_iload_n dX4_passDay_2 rfl ?_
    refine gj_bp 25 dX4_passDay_3 (by decide) ?_
    refine gj_icmp_geN (tgt := 37) (by omega) (by omega) dX4_passDay_5 rfl (fun zq0 => ?_) (fun zq0 => ?_)
    rotate_left
    · exfalso; omega
    refine gj_reN (g := fun c => sp_after (K c) (I c) f s) (fun j hj => mj_mix_lt hj) ?_
    exact gj_vr rfl dX4_passDay_37 rfl
  show gj _ _ _ _ _ _ [some (.ref a), some (.int (nI f)), some (.int (nI s)), some (.int (nI j))] _ _
  refine gj_iload_n dX4_passDay_2 rfl ?_
  refine gj_bp 25 dX4_passDay_3 (by decide) ?_
  refine gj_icmp_geN (tgt := 37) (by omega) (by omega) dX4_passDay_5 rfl (fun zq1 => ?_) (fun zq1 => ?_)
  · exfalso; omega
  refine gj_aload_n dX4_passDay_8 rfl ?_
  refine gfX4_15 rfl dX4_passDay_9 ((mj_up_ne (mj_neOA S.1 S.2.2.1)).trans S.1) rfl ?_
  refine gj_iload_n dX4_passDay_12 rfl ?_
  refine gj_aload_n dX4_passDay_13 rfl ?_
  refine gfX4_9 rfl dX4_passDay_14 ((mj_up_ne (mj_neOA S.1 S.2.2.1)).trans S.1) rfl ?_
  refine gj_iload_n dX4_passDay_17 rfl ?_
  refine gj_ialdN dX4_passDay_18 ((mj_up_ne S.2.2.2.1).trans S.2.1) (by omega) (by omega) ?_
  have hb2 := S.2.2.2.2.1 j
  refine gj_aload_n dX4_passDay_19 rfl ?_
  refine gfX4_15 rfl dX4_passDay_20 ((mj_up_ne (mj_neOA S.1 S.2.2.1)).trans S.1) rfl ?_
  refine gj_iload_n dX4_passDay_23 rfl ?_
  refine gj_ialdN dX4_passDay_24 (mj_up_eq _ _ _) (by omega) (by omega) ?_
  refine gj_topN (mj_mix_ge (Nat.le_refl _)) ?_
  have hbI := S.2.2.2.2.2 j
  refine gj_iload_n dX4_passDay_25 rfl ?_
  refine gj_iload_n dX4_passDay_26 rfl ?_
  refine gj_S1 lkX4_40 (ev_X0_after (by omega) (by omega) (by omega) (by omega)) dX4_passDay_27 rfl rfl rfl rfl rfl ?_
  have hb3 := @sp_after_le (K j) (I j) f s
  refine gj_iastN dX4_passDay_30 (mj_up_eq _ _ _) (by omega) (by omega) ?_
  refine gj_iincN (L' := [some (.ref a), some (.int (nI f)), some (.int (nI s)), some (.int (nI (j + 1)))]) dX4_passDay_31 rfl (Nat.le_of_ble_eq_true rfl) rfl ?_
  refine gj_goto (tgt := 2) dX4_passDay_34 rfl ?_
  exact gj_cast rfl rfl (by rw [mj_up_up, mj_mix_un rfl]) ih
set_option maxHeartbeats 1000000 in
set_option maxRecDepth 10000 in
theorem ev_X4_together {E : mj_E} {h : mj_H} {a kA iA : Nat} {K I : Nat → Nat} (S : mj_Sh h a kA iA K I)  : mj_Ev E iX4_together [.ref a] h (mj_R (some (.int (nI (sp_sum I 25)))) h) := by
  refine mj_Ev.of (L0 := [some (.ref a), none, none]) pnRX4 (Nat.le_of_ble_eq_true rfl) rfl ?_
  refine gj_ic (w := 0) dX4_together_0 ?_
  refine gj_istore_n (L' := [some (.ref a), some (.int (nI 0)), none]) dX4_together_1 (Nat.le_of_ble_eq_true rfl) rfl ?_
  refine gj_ic (w := 0) dX4_together_2 ?_
  refine gj_istore_n (L' := [some (.ref a), some (.int (nI 0)), some (.int (nI 0))]) dX4_together_3 (Nat.le_of_ble_eq_true rfl) rfl ?_
  refine gj_cast (L' := [some (.ref a), some (.int (nI (sp_sum I 0))), some (.int (nI 0))]) (st' := []) (h' := h) rfl rfl rfl ?_
  refine gj_loop (fun j => [some (.ref a), some (.int (nI (sp_sum I j))), some (.int (nI j))]) (fun j => h) 25 ?_ (fun j hj ih => ?_) 0 (by omega)
  · show gj _ _ _ _ _ _ [some (.ref a), some (.int (nI (sp_sum I 25))), some (.int (nI 25))] _ _
    refine gj_iload_n dX4_together_4 rfl ?_
    refine gj_bp 25 dX4_together_5 (by decide) ?_
    refine gj_icmp_geN (tgt := 25) (by omega) (by omega) dX4_together_7 rfl (fun zq0 => ?_) (fun zq0 => ?_)
    rotate_left
    · exfalso; omega
    refine gj_iload_n dX4_together_25 rfl ?_
    exact gj_ir rfl dX4_together_26 rfl rfl rfl
  show gj _ _ _ _ _ _ [some (.ref a), some (.int (nI (sp_sum I j))), some (.int (nI j))] _ _
  refine gj_iload_n dX4_together_4 rfl ?_
  refine gj_bp 25 dX4_together_5 (by decide) ?_
  refine gj_icmp_geN (tgt := 25) (by omega) (by omega) dX4_together_7 rfl (fun zq1 => ?_) (fun zq1 => ?_)
  · exfalso; omega
  refine gj_iload_n dX4_together_10 rfl ?_
  refine gj_aload_n dX4_together_11 rfl ?_
  refine gfX4_15 rfl dX4_together_12 S.1 rfl ?_
  refine gj_iload_n dX4_together_15 rfl ?_
  refine gj_ialdN dX4_together_16 S.2.2.1 (by omega) (by omega) ?_
  have hb2 := S.2.2.2.2.2 j
  refine gj_iaddN  dX4_together_17 ?_
  refine gj_istore_n (L' := [some (.ref a), some (.int (nI ((sp_sum I j) + (I j)))), some (.int (nI j))]) dX4_together_18 (Nat.le_of_ble_eq_true rfl) rfl ?_
  refine gj_iincN (L' := [some (.ref a), some (.int (nI ((sp_sum I j) + (I j)))), some (.int (nI (j + 1)))]) dX4_together_19 rfl (Nat.le_of_ble_eq_true rfl) rfl ?_
  refine gj_goto (tgt := 4) dX4_together_22 rfl ?_
  exact ih
set_option maxHeartbeats 1000000 in
set_option maxRecDepth 10000 in
theorem ev_X4_bearsTogether {E : mj_E} {h : mj_H} {a kA iA : Nat} {K I : Nat → Nat} (S : mj_Sh h a kA iA K I)  : mj_Ev E iX4_bearsTogether [.ref a] h (mj_R (some (.int (nI (sp_sum (fun c => sp_bear (K c) (I c)) 25)))) h) := by
  refine mj_Ev.of (L0 := [some (.ref a), none, none]) pnRX4 (Nat.le_of_ble_eq_true rfl) rfl ?_
  refine gj_ic (w := 0) dX4_bearsTogether_0 ?_
  refine gj_istore_n (L' := [some (.ref a), some (.int (nI 0)), none]) dX4_bearsTogether_1 (Nat.le_of_ble_eq_true rfl) rfl ?_
  refine gj_ic (w := 0) dX4_bearsTogether_2 ?_
  refine gj_istore_n (L' := [some (.ref a), some (.int (nI 0)), some (.int (nI 0))]) dX4_bearsTogether_3 (Nat.le_of_ble_eq_true rfl) rfl ?_
  refine gj_cast (L' := [some (.ref a), some (.int (nI (sp_sum (fun c => sp_bear (K c) (I c)) 0))), some (.int (nI 0))]) (st' := []) (h' := h) rfl rfl rfl ?_
  refine gj_loop (fun j => [some (.ref a), some (.int (nI (sp_sum (fun c => sp_bear (K c) (I c)) j))), some (.int (nI j))]) (fun j => h) 25 ?_ (fun j hj ih => ?_) 0 (by omega)
  · show gj _ _ _ _ _ _ [some (.ref a), some (.int (nI (sp_sum (fun c => sp_bear (K c) (I c)) 25))), some (.int (nI 25))] _ _
    refine gj_iload_n dX4_bearsTogether_4 rfl ?_
    refine gj_bp 25 dX4_bearsTogether_5 (by decide) ?_
    refine gj_icmp_geN (tgt := 24) (by omega) (by omega) dX4_bearsTogether_7 rfl (fun zq0 => ?_) (fun zq0 => ?_)
    rotate_left
    · exfalso; omega
    refine gj_iload_n dX4_bearsTogether_24 rfl ?_
    exact gj_ir rfl dX4_bearsTogether_25 rfl rfl rfl
  show gj _ _ _ _ _ _ [some (.ref a), some (.int (nI (sp_sum (fun c => sp_bear (K c) (I c)) j))), some (.int (nI j))] _ _
  refine gj_iload_n dX4_bearsTogether_4 rfl ?_
  refine gj_bp 25 dX4_bearsTogether_5 (by decide) ?_
  refine gj_icmp_geN (tgt := 24) (by omega) (by omega) dX4_bearsTogether_7 rfl (fun zq1 => ?_) (fun zq1 => ?_)
  · exfalso; omega
  refine gj_iload_n dX4_bearsTogether_10 rfl ?_
  refine gj_aload_n dX4_bearsTogether_11 rfl ?_
  refine gj_iload_n dX4_bearsTogether_12 rfl ?_
  refine gj_V1 lkX4_44 S.1 rfl rfl (ev_X4_bears ⟨S.1, S.2.1, S.2.2.1, S.2.2.2.1, S.2.2.2.2.1, S.2.2.2.2.2⟩ (by omega)) dX4_bearsTogether_13 rfl rfl rfl rfl rfl ?_
  have hb2 := @sp_bear_le (K j) (I j)
  have hb3 := S.2.2.2.2.2 j
  refine gj_iaddN  dX4_bearsTogether_16 ?_
  refine gj_istore_n (L' := [some (.ref a), some (.int (nI ((sp_sum (fun c => sp_bear (K c) (I c)) j) + (sp_bear (K j) (I j))))), some (.int (nI j))]) dX4_bearsTogether_17 (Nat.le_of_ble_eq_true rfl) rfl ?_
  refine gj_iincN (L' := [some (.ref a), some (.int (nI ((sp_sum (fun c => sp_bear (K c) (I c)) j) + (sp_bear (K j) (I j))))), some (.int (nI (j + 1)))]) dX4_bearsTogether_18 rfl (Nat.le_of_ble_eq_true rfl) rfl ?_
  refine gj_goto (tgt := 4) dX4_bearsTogether_21 rfl ?_
  exact ih
/-- the cells (bits) that bear w or more -/
def sp_open (K I : Nat → Nat) (w : Nat) : Nat := mj_bits (fun c => decide (w ≤ sp_bear (K c) (I c))) 25
theorem sp_open_lt {K I : Nat → Nat} {w : Nat} : sp_open K I w < 2 ^ 25 := mj_bits_lt
set_option maxHeartbeats 1000000 in
set_option maxRecDepth 10000 in
theorem ev_X4_bearing {E : mj_E} {h : mj_H} {a kA iA : Nat} {K I : Nat → Nat} (S : mj_Sh h a kA iA K I) {w : Nat} (hw : w < 2 ^ 31) : mj_Ev E iX4_bearing [.ref a, .int (nI w)] h (mj_R (some (.int (nI (sp_open K I w)))) h) := by
  refine mj_Ev.of (L0 := [some (.ref a), some (.int (nI w)), none, none]) pnRX4 (Nat.le_of_ble_eq_true rfl) rfl ?_
  refine gj_ic (w := 0) dX4_bearing_0 ?_
  refine gj_istore_n (L' := [some (.ref a), some (.int (nI w)), some (.int (nI 0)), none]) dX4_bearing_1 (Nat.le_of_ble_eq_true rfl) rfl ?_
  refine gj_ic (w := 0) dX4_bearing_2 ?_
  refine gj_istore_n (L' := [some (.ref a), some (.int (nI w)), some (.int (nI 0)), some (.int (nI 0))]) dX4_bearing_3 (Nat.le_of_ble_eq_true rfl) rfl ?_
  refine gj_cast (L' := [some (.ref a), some (.int (nI w)), some (.int (nI (mj_bits (fun c => decide (w ≤ sp_bear (K c) (I c))) 0))), some (.int (nI 0))]) (st' := []) (h' := h) rfl rfl rfl ?_
  refine gj_loop (fun j => [some (.ref a), some (.int (nI w)), some (.int (nI (mj_bits (fun c => decide (w ≤ sp_bear (K c) (I c))) j))), some (.int (nI j))]) (fun j => h) 25 ?_ (fun j hj ih => ?_) 0 (by omega)
  · show gj _ _ _ _ _ _ [some (.ref a), some (.int (nI w)), some (.int (nI (mj_bits (fun c => decide (w ≤ sp_bear (K c) (I c))) 25))), some (.int (nI 25))] _ _
    refine gj_iload_n dX4_bearing_4 rfl ?_
    refine gj_bp 25 dX4_bearing_5 (by decide) ?_
    refine gj_icmp_geN (tgt := 31) (by omega) (by omega) dX4_bearing_7 rfl (fun zq0 => ?_) (fun zq0 => ?_)
    rotate_left
    · exfalso; omega
    refine gj_iload_n dX4_bearing_31 rfl ?_
    exact gj_ir rfl dX4_bearing_32 rfl rfl rfl
  show gj _ _ _ _ _ _ [some (.ref a), some (.int (nI w)), some (.int (nI (mj_bits (fun c => decide (w ≤ sp_bear (K c) (I c))) j))), some (.int (nI j))] _ _
  refine gj_iload_n dX4_bearing_4 rfl ?_
  refine gj_bp 25 dX4_bearing_5 (by decide) ?_
  refine gj_icmp_geN (tgt := 31) (by omega) (by omega) dX4_bearing_7 rfl (fun zq1 => ?_) (fun zq1 => ?_)
  · exfalso; omega
  refine gj_aload_n dX4_bearing_10 rfl ?_
  refine gj_iload_n dX4_bearing_11 rfl ?_
  refine gj_V1 lkX4_44 S.1 rfl rfl (ev_X4_bears ⟨S.1, S.2.1, S.2.2.1, S.2.2.2.1, S.2.2.2.2.1, S.2.2.2.2.2⟩ (by omega)) dX4_bearing_12 rfl rfl rfl rfl rfl ?_
  have hb2 := @sp_bear_le (K j) (I j)
  have hb3 := S.2.2.2.2.2 j
  refine gj_iload_n dX4_bearing_15 rfl ?_
  refine gj_icmp_ltN (tgt := 25) (by omega) (by omega) dX4_bearing_16 rfl (fun zq4 => ?_) (fun zq4 => ?_)
  · -- 16 taken
    refine gj_iincN (L' := [some (.ref a), some (.int (nI w)), some (.int (nI (mj_bits (fun c => decide (w ≤ sp_bear (K c) (I c))) j))), some (.int (nI (j + 1)))]) dX4_bearing_25 rfl (Nat.le_of_ble_eq_true rfl) rfl ?_
    refine gj_goto (tgt := 4) dX4_bearing_28 rfl ?_
    exact gj_cast (by first | rw [mj_bits_t (decide_eq_true (by omega))] | rw [mj_bits_f (decide_eq_false (by omega))]) rfl rfl ih
  refine gj_iload_n dX4_bearing_19 rfl ?_
  refine gj_ic (w := 1) dX4_bearing_20 ?_
  refine gj_iload_n dX4_bearing_21 rfl ?_
  refine gj_ishlN (by omega) dX4_bearing_22 ?_
  refine gj_iorN  dX4_bearing_23 ?_
  refine gj_istore_n (L' := [some (.ref a), some (.int (nI w)), some (.int (nI ((mj_bits (fun c => decide (w ≤ sp_bear (K c) (I c))) j) ||| (1 <<< j)))), some (.int (nI j))]) dX4_bearing_24 (Nat.le_of_ble_eq_true rfl) rfl ?_
  refine gj_iincN (L' := [some (.ref a), some (.int (nI w)), some (.int (nI ((mj_bits (fun c => decide (w ≤ sp_bear (K c) (I c))) j) ||| (1 <<< j)))), some (.int (nI (j + 1)))]) dX4_bearing_25 rfl (Nat.le_of_ble_eq_true rfl) rfl ?_
  refine gj_goto (tgt := 4) dX4_bearing_28 rfl ?_
  exact gj_cast (by first | rw [mj_bits_t (decide_eq_true (by omega))] | rw [mj_bits_f (decide_eq_false (by omega))]) rfl rfl ih
/-- the least that the cells beside c bear, by what each one bears -/
def sp_l1 (B : Nat → Nat) (c : Nat) : Nat := if 0 < c % 5 then min 198 (B (c - 1)) else 198
def sp_l2 (B : Nat → Nat) (c : Nat) : Nat := if c % 5 < 4 then min (sp_l1 B c) (B (c + 1)) else sp_l1 B c
def sp_l3 (B : Nat → Nat) (c : Nat) : Nat := if 5 ≤ c then min (sp_l2 B c) (B (c - 5)) else sp_l2 B c
def sp_least (B : Nat → Nat) (c : Nat) : Nat := if c + 5 < 25 then min (sp_l3 B c) (B (c + 5)) else sp_l3 B c
theorem sp_l1_le {B : Nat → Nat} {c : Nat} : sp_l1 B c ≤ 198 := by unfold sp_l1; split <;> omega
theorem sp_l2_le {B : Nat → Nat} {c : Nat} : sp_l2 B c ≤ 198 := by unfold sp_l2; have := @sp_l1_le B c; split <;> omega
theorem sp_l3_le {B : Nat → Nat} {c : Nat} : sp_l3 B c ≤ 198 := by unfold sp_l3; have := @sp_l2_le B c; split <;> omega
theorem sp_least_le {B : Nat → Nat} {c : Nat} : sp_least B c ≤ 198 := by unfold sp_least; have := @sp_l3_le B c; split <;> omega
/-- the ice of a ward's four cells together -/
def sp_ward (I : Nat → Nat) (w : Nat) : Nat := I (w / 2 * 3 * 5 + w % 2 * 3) + I (w / 2 * 3 * 5 + w % 2 * 3 + 1) + I (w / 2 * 3 * 5 + w % 2 * 3 + 5) + I (w / 2 * 3 * 5 + w % 2 * 3 + 5 + 1)
set_option maxHeartbeats 1000000 in
set_option maxRecDepth 10000 in
theorem ev_X4_leastBeside {E : mj_E} {h : mj_H} {a kA iA : Nat} {K I : Nat → Nat} (S : mj_Sh h a kA iA K I) {c : Nat} (hc : c < 25) : mj_Ev E iX4_leastBeside [.ref a, .int (nI c)] h (mj_R (some (.int (nI (sp_least (fun c => sp_bear (K c) (I c)) c)))) h) := by
  have hb0 := @sp_l1_le (fun c => sp_bear (K c) (I c)) c
  have hb01 := @sp_l2_le (fun c => sp_bear (K c) (I c)) c
  have hb02 := @sp_l3_le (fun c => sp_bear (K c) (I c)) c
  refine mj_Ev.of (L0 := [some (.ref a), some (.int (nI c)), none]) pnRX4 (Nat.le_of_ble_eq_true rfl) rfl ?_
  refine gj_sp 198 dX4_leastBeside_0 (by decide) ?_
  refine gj_istore_n (L' := [some (.ref a), some (.int (nI c)), some (.int (nI 198))]) dX4_leastBeside_3 (Nat.le_of_ble_eq_true rfl) rfl ?_
  refine gj_cut 22 [some (.ref a), some (.int (nI c)), some (.int (nI (sp_l1 (fun c => sp_bear (K c) (I c)) c)))] [] (h) ?_ (fun jn22 => ?_)
  · -- behind 22
    refine gj_cut 41 [some (.ref a), some (.int (nI c)), some (.int (nI (sp_l2 (fun c => sp_bear (K c) (I c)) c)))] [] (h) ?_ (fun jn41 => ?_)
    · -- behind 41
      refine gj_cut 58 [some (.ref a), some (.int (nI c)), some (.int (nI (sp_l3 (fun c => sp_bear (K c) (I c)) c)))] [] (h) ?_ (fun jn58 => ?_)
      · -- behind 58
        refine gj_cut 78 [some (.ref a), some (.int (nI c)), some (.int (nI (sp_least (fun c => sp_bear (K c) (I c)) c)))] [] (h) ?_ (fun jn78 => ?_)
        · -- behind 78
          refine gj_iload_n dX4_leastBeside_78 rfl ?_
          exact gj_ir rfl dX4_leastBeside_79 rfl rfl rfl
        refine gj_iload_n dX4_leastBeside_58 rfl ?_
        refine gj_ic (w := 5) dX4_leastBeside_59 ?_
        refine gj_iaddN  dX4_leastBeside_60 ?_
        refine gj_bp 25 dX4_leastBeside_61 (by decide) ?_
        refine gj_icmp_geN (tgt := 78) (by omega) (by omega) dX4_leastBeside_63 rfl (fun zq1 => ?_) (fun zq1 => ?_)
        · -- 63 taken
          exact gj_cast (by first | rw [show sp_least (fun c => sp_bear (K c) (I c)) c = _ from if_pos (by omega)] | rw [show sp_least (fun c => sp_bear (K c) (I c)) c = _ from if_neg (by omega)]) rfl rfl jn78
        refine gj_iload_n dX4_leastBeside_66 rfl ?_
        refine gj_aload_n dX4_leastBeside_67 rfl ?_
        refine gj_iload_n dX4_leastBeside_68 rfl ?_
        refine gj_ic (w := 5) dX4_leastBeside_69 ?_
        refine gj_iaddN  dX4_leastBeside_70 ?_
        refine gj_V1 lkX4_44 S.1 rfl rfl (ev_X4_bears ⟨S.1, S.2.1, S.2.2.1, S.2.2.2.1, S.2.2.2.2.1, S.2.2.2.2.2⟩ (by omega)) dX4_leastBeside_71 rfl rfl rfl rfl rfl ?_
        have hb2 := @sp_bear_le (K (c + 5)) (I (c + 5))
        have hb3 := S.2.2.2.2.2 (c + 5)
        refine gj_minN w_696 w_433 w_83 w_434 (by omega) (by omega) dX4_leastBeside_74 rfl rfl ?_
        refine gj_istore_n (L' := [some (.ref a), some (.int (nI c)), some (.int (nI (min (sp_l3 (fun c => sp_bear (K c) (I c)) c) (sp_bear (K (c + 5)) (I (c + 5))))))]) dX4_leastBeside_77 (Nat.le_of_ble_eq_true rfl) rfl ?_
        exact gj_cast (by first | rw [show sp_least (fun c => sp_bear (K c) (I c)) c = _ from if_pos (by omega)] | rw [show sp_least (fun c => sp_bear (K c) (I c)) c = _ from if_neg (by omega)]) rfl rfl jn78
      refine gj_iload_n dX4_leastBeside_41 rfl ?_
      refine gj_ic (w := 5) dX4_leastBeside_42 ?_
      refine gj_icmp_ltN (tgt := 58) (by omega) (by omega) dX4_leastBeside_43 rfl (fun zq4 => ?_) (fun zq4 => ?_)
      · -- 43 taken
        exact gj_cast (by first | rw [show sp_l3 (fun c => sp_bear (K c) (I c)) c = _ from if_pos (by omega)] | rw [show sp_l3 (fun c => sp_bear (K c) (I c)) c = _ from if_neg (by omega)]) rfl rfl jn58
      refine gj_iload_n dX4_leastBeside_46 rfl ?_
      refine gj_aload_n dX4_leastBeside_47 rfl ?_
      refine gj_iload_n dX4_leastBeside_48 rfl ?_
      refine gj_ic (w := 5) dX4_leastBeside_49 ?_
      refine gj_isubN (by omega) dX4_leastBeside_50 ?_
      refine gj_V1 lkX4_44 S.1 rfl rfl (ev_X4_bears ⟨S.1, S.2.1, S.2.2.1, S.2.2.2.1, S.2.2.2.2.1, S.2.2.2.2.2⟩ (by omega)) dX4_leastBeside_51 rfl rfl rfl rfl rfl ?_
      have hb5 := @sp_bear_le (K (c - 5)) (I (c - 5))
      have hb6 := S.2.2.2.2.2 (c - 5)
      refine gj_minN w_696 w_433 w_83 w_434 (by omega) (by omega) dX4_leastBeside_54 rfl rfl ?_
      refine gj_istore_n (L' := [some (.ref a), some (.int (nI c)), some (.int (nI (min (sp_l2 (fun c => sp_bear (K c) (I c)) c) (sp_bear (K (c - 5)) (I (c - 5))))))]) dX4_leastBeside_57 (Nat.le_of_ble_eq_true rfl) rfl ?_
      exact gj_cast (by first | rw [show sp_l3 (fun c => sp_bear (K c) (I c)) c = _ from if_pos (by omega)] | rw [show sp_l3 (fun c => sp_bear (K c) (I c)) c = _ from if_neg (by omega)]) rfl rfl jn58
    refine gj_iload_n dX4_leastBeside_22 rfl ?_
    refine gj_ic (w := 5) dX4_leastBeside_23 ?_
    refine gj_iremN (by omega) (by omega) (by omega) dX4_leastBeside_24 ?_
    refine gj_ic (w := 4) dX4_leastBeside_25 ?_
    refine gj_icmp_geN (tgt := 41) (by omega) (by omega) dX4_leastBeside_26 rfl (fun zq7 => ?_) (fun zq7 => ?_)
    · -- 26 taken
      exact gj_cast (by first | rw [show sp_l2 (fun c => sp_bear (K c) (I c)) c = _ from if_pos (by omega)] | rw [show sp_l2 (fun c => sp_bear (K c) (I c)) c = _ from if_neg (by omega)]) rfl rfl jn41
    refine gj_iload_n dX4_leastBeside_29 rfl ?_
    refine gj_aload_n dX4_leastBeside_30 rfl ?_
    refine gj_iload_n dX4_leastBeside_31 rfl ?_
    refine gj_ic (w := 1) dX4_leastBeside_32 ?_
    refine gj_iaddN  dX4_leastBeside_33 ?_
    refine gj_V1 lkX4_44 S.1 rfl rfl (ev_X4_bears ⟨S.1, S.2.1, S.2.2.1, S.2.2.2.1, S.2.2.2.2.1, S.2.2.2.2.2⟩ (by omega)) dX4_leastBeside_34 rfl rfl rfl rfl rfl ?_
    have hb8 := @sp_bear_le (K (c + 1)) (I (c + 1))
    have hb9 := S.2.2.2.2.2 (c + 1)
    refine gj_minN w_696 w_433 w_83 w_434 (by omega) (by omega) dX4_leastBeside_37 rfl rfl ?_
    refine gj_istore_n (L' := [some (.ref a), some (.int (nI c)), some (.int (nI (min (sp_l1 (fun c => sp_bear (K c) (I c)) c) (sp_bear (K (c + 1)) (I (c + 1))))))]) dX4_leastBeside_40 (Nat.le_of_ble_eq_true rfl) rfl ?_
    exact gj_cast (by first | rw [show sp_l2 (fun c => sp_bear (K c) (I c)) c = _ from if_pos (by omega)] | rw [show sp_l2 (fun c => sp_bear (K c) (I c)) c = _ from if_neg (by omega)]) rfl rfl jn41
  refine gj_iload_n dX4_leastBeside_4 rfl ?_
  refine gj_ic (w := 5) dX4_leastBeside_5 ?_
  refine gj_iremN (by omega) (by omega) (by omega) dX4_leastBeside_6 ?_
  refine gj_if_leN (tgt := 22) (by omega) dX4_leastBeside_7 rfl (fun zq10 => ?_) (fun zq10 => ?_)
  · -- 7 taken
    exact gj_cast (by first | rw [show sp_l1 (fun c => sp_bear (K c) (I c)) c = _ from if_pos (by omega)] | rw [show sp_l1 (fun c => sp_bear (K c) (I c)) c = _ from if_neg (by omega)]) rfl rfl jn22
  refine gj_iload_n dX4_leastBeside_10 rfl ?_
  refine gj_aload_n dX4_leastBeside_11 rfl ?_
  refine gj_iload_n dX4_leastBeside_12 rfl ?_
  refine gj_ic (w := 1) dX4_leastBeside_13 ?_
  refine gj_isubN (by omega) dX4_leastBeside_14 ?_
  refine gj_V1 lkX4_44 S.1 rfl rfl (ev_X4_bears ⟨S.1, S.2.1, S.2.2.1, S.2.2.2.1, S.2.2.2.2.1, S.2.2.2.2.2⟩ (by omega)) dX4_leastBeside_15 rfl rfl rfl rfl rfl ?_
  have hb11 := @sp_bear_le (K (c - 1)) (I (c - 1))
  have hb12 := S.2.2.2.2.2 (c - 1)
  refine gj_minN w_696 w_433 w_83 w_434 (by omega) (by omega) dX4_leastBeside_18 rfl rfl ?_
  refine gj_istore_n (L' := [some (.ref a), some (.int (nI c)), some (.int (nI (min 198 (sp_bear (K (c - 1)) (I (c - 1))))))]) dX4_leastBeside_21 (Nat.le_of_ble_eq_true rfl) rfl ?_
  exact gj_cast (by first | rw [show sp_l1 (fun c => sp_bear (K c) (I c)) c = _ from if_pos (by omega)] | rw [show sp_l1 (fun c => sp_bear (K c) (I c)) c = _ from if_neg (by omega)]) rfl rfl jn22
set_option maxHeartbeats 1000000 in
set_option maxRecDepth 10000 in
theorem ev_X4_iceOfWard {E : mj_E} {h : mj_H} {a kA iA : Nat} {K I : Nat → Nat} (S : mj_Sh h a kA iA K I) {w : Nat} (hw : w < 4) : mj_Ev E iX4_iceOfWard [.ref a, .int (nI w)] h (mj_R (some (.int (nI (sp_ward I w)))) h) := by
  refine mj_Ev.of (L0 := [some (.ref a), some (.int (nI w)), none]) pnRX4 (Nat.le_of_ble_eq_true rfl) rfl ?_
  refine gj_iload_n dX4_iceOfWard_0 rfl ?_
  refine gj_ic (w := 2) dX4_iceOfWard_1 ?_
  refine gj_idivN (by omega) (by omega) (by omega) dX4_iceOfWard_2 ?_
  refine gj_ic (w := 3) dX4_iceOfWard_3 ?_
  refine gj_imulN  dX4_iceOfWard_4 ?_
  refine gj_ic (w := 5) dX4_iceOfWard_5 ?_
  refine gj_imulN  dX4_iceOfWard_6 ?_
  refine gj_iload_n dX4_iceOfWard_7 rfl ?_
  refine gj_ic (w := 2) dX4_iceOfWard_8 ?_
  refine gj_iremN (by omega) (by omega) (by omega) dX4_iceOfWard_9 ?_
  refine gj_ic (w := 3) dX4_iceOfWard_10 ?_
  refine gj_imulN  dX4_iceOfWard_11 ?_
  refine gj_iaddN  dX4_iceOfWard_12 ?_
  refine gj_istore_n (L' := [some (.ref a), some (.int (nI w)), some (.int (nI ((((w / 2) * 3) * 5) + ((w % 2) * 3))))]) dX4_iceOfWard_13 (Nat.le_of_ble_eq_true rfl) rfl ?_
  refine gj_aload_n dX4_iceOfWard_14 rfl ?_
  refine gj_iload_n dX4_iceOfWard_15 rfl ?_
  refine gj_V1 lkX4_52 S.1 rfl rfl (ev_X4_iceOf ⟨S.1, S.2.1, S.2.2.1, S.2.2.2.1, S.2.2.2.2.1, S.2.2.2.2.2⟩ (by omega)) dX4_iceOfWard_16 rfl rfl rfl rfl rfl ?_
  have hb1 := S.2.2.2.2.2 ((((w / 2) * 3) * 5) + ((w % 2) * 3))
  refine gj_aload_n dX4_iceOfWard_19 rfl ?_
  refine gj_iload_n dX4_iceOfWard_20 rfl ?_
  refine gj_ic (w := 1) dX4_iceOfWard_21 ?_
  refine gj_iaddN  dX4_iceOfWard_22 ?_
  refine gj_V1 lkX4_52 S.1 rfl rfl (ev_X4_iceOf ⟨S.1, S.2.1, S.2.2.1, S.2.2.2.1, S.2.2.2.2.1, S.2.2.2.2.2⟩ (by omega)) dX4_iceOfWard_23 rfl rfl rfl rfl rfl ?_
  have hb2 := S.2.2.2.2.2 (((((w / 2) * 3) * 5) + ((w % 2) * 3)) + 1)
  refine gj_iaddN  dX4_iceOfWard_26 ?_
  refine gj_aload_n dX4_iceOfWard_27 rfl ?_
  refine gj_iload_n dX4_iceOfWard_28 rfl ?_
  refine gj_ic (w := 5) dX4_iceOfWard_29 ?_
  refine gj_iaddN  dX4_iceOfWard_30 ?_
  refine gj_V1 lkX4_52 S.1 rfl rfl (ev_X4_iceOf ⟨S.1, S.2.1, S.2.2.1, S.2.2.2.1, S.2.2.2.2.1, S.2.2.2.2.2⟩ (by omega)) dX4_iceOfWard_31 rfl rfl rfl rfl rfl ?_
  have hb3 := S.2.2.2.2.2 (((((w / 2) * 3) * 5) + ((w % 2) * 3)) + 5)
  refine gj_iaddN  dX4_iceOfWard_34 ?_
  refine gj_aload_n dX4_iceOfWard_35 rfl ?_
  refine gj_iload_n dX4_iceOfWard_36 rfl ?_
  refine gj_ic (w := 5) dX4_iceOfWard_37 ?_
  refine gj_iaddN  dX4_iceOfWard_38 ?_
  refine gj_ic (w := 1) dX4_iceOfWard_39 ?_
  refine gj_iaddN  dX4_iceOfWard_40 ?_
  refine gj_V1 lkX4_52 S.1 rfl rfl (ev_X4_iceOf ⟨S.1, S.2.1, S.2.2.1, S.2.2.2.1, S.2.2.2.2.1, S.2.2.2.2.2⟩ (by omega)) dX4_iceOfWard_41 rfl rfl rfl rfl rfl ?_
  have hb4 := S.2.2.2.2.2 ((((((w / 2) * 3) * 5) + ((w % 2) * 3)) + 5) + 1)
  refine gj_iaddN  dX4_iceOfWard_44 ?_
  exact gj_ir rfl dX4_iceOfWard_45 rfl rfl rfl
set_option maxHeartbeats 1000000 in
set_option maxRecDepth 10000 in
theorem ev_X4_copy {E : mj_E} {h : mj_H} {a kA iA b kB iB : Nat} {K I K2 I2 : Nat → Nat} (S : mj_Sh h a kA iA K I) (S2 : mj_Sh h b kB iB K2 I2) (hx : kA ≠ iB) : mj_Ev E iX4_copy [.ref a, .ref b] h (mj_R none (mj_up (mj_up h kA (mj_ar 25 K2)) iA (mj_ar 25 I2))) := by
  refine mj_Ev.of (L0 := [some (.ref a), some (.ref b)]) pnRX4 (Nat.le_of_ble_eq_true rfl) rfl ?_
  refine gj_aload_n dX4_copy_0 rfl ?_
  refine gfX4_9 rfl dX4_copy_1 S2.1 rfl ?_
  refine gj_ic (w := 0) dX4_copy_4 ?_
  refine gj_aload_n dX4_copy_5 rfl ?_
  refine gfX4_9 rfl dX4_copy_6 S.1 rfl ?_
  refine gj_ic (w := 0) dX4_copy_9 ?_
  refine gj_bp 25 dX4_copy_10 (by decide) ?_
  refine gj_copyN0 w_547 w_549 w_548 w_88 dX4_copy_12 S2.2.1 S.2.1 (by decide) rfl rfl ?_
  refine gj_aload_n dX4_copy_15 rfl ?_
  refine gfX4_15 rfl dX4_copy_16 ((mj_up_ne (mj_neOA S2.1 S.2.1)).trans S2.1) rfl ?_
  refine gj_ic (w := 0) dX4_copy_19 ?_
  refine gj_aload_n dX4_copy_20 rfl ?_
  refine gfX4_15 rfl dX4_copy_21 ((mj_up_ne (mj_neOA S.1 S.2.1)).trans S.1) rfl ?_
  refine gj_ic (w := 0) dX4_copy_24 ?_
  refine gj_bp 25 dX4_copy_25 (by decide) ?_
  refine gj_copyN0 w_547 w_549 w_548 w_88 dX4_copy_27 ((mj_up_ne (Ne.symm hx)).trans S2.2.2.1) ((mj_up_ne (Ne.symm S.2.2.2.1)).trans S.2.2.1) (by decide) rfl rfl ?_
  exact gj_vr rfl dX4_copy_30 rfl
set_option maxHeartbeats 1000000 in
set_option maxRecDepth 10000 in
theorem ev_X4_restart {E : mj_E} {h : mj_H} {a kA iA : Nat} {K I : Nat → Nat} (S : mj_Sh h a kA iA K I) {t : Nat} : mj_Ev E iX4_restart [.ref a, .int (nI t)] h (mj_R none (mj_up (mj_up h kA (mj_ar 25 (fun _ => 0))) iA (mj_ar 25 (fun _ => t)))) := by
  refine mj_Ev.of (L0 := [some (.ref a), some (.int (nI t))]) pnRX4 (Nat.le_of_ble_eq_true rfl) rfl ?_
  refine gj_aload_n dX4_restart_0 rfl ?_
  refine gfX4_9 rfl dX4_restart_1 S.1 rfl ?_
  refine gj_ic (w := 0) dX4_restart_4 ?_
  refine gj_S0 lkX4_24 (ev_J7_fill_53178 S.2.1 (by decide)) dX4_restart_5 rfl rfl rfl rfl rfl ?_
  refine gj_aload_n dX4_restart_8 rfl ?_
  refine gfX4_15 rfl dX4_restart_9 ((mj_up_ne (mj_neOA S.1 S.2.1)).trans S.1) rfl ?_
  refine gj_iload_n dX4_restart_12 rfl ?_
  refine gj_S0 lkX4_24 (ev_J7_fill_53178 ((mj_up_ne (Ne.symm S.2.2.2.1)).trans S.2.2.1) (by decide)) dX4_restart_13 rfl rfl rfl rfl rfl ?_
  exact gj_vr rfl dX4_restart_16 rfl
set_option maxHeartbeats 1000000 in
set_option maxRecDepth 10000 in
theorem ev_X9_frostOn {E : mj_E} {h : mj_H} {a kA iA : Nat} {F U : Nat → Nat} (S : mj_Wk h a kA iA F U) {d : Nat} (hd : d < 2 ^ 31) : mj_Ev E iX9_frostOn [.ref a, .int (nI d)] h (mj_R (some (.int (nI (F (d % 7))))) h) := by
  refine mj_Ev.of (L0 := [some (.ref a), some (.int (nI d))]) pnRX9 (Nat.le_of_ble_eq_true rfl) rfl ?_
  refine gj_aload_n dX9_frostOn_0 rfl ?_
  refine gfX9_9 rfl dX9_frostOn_1 S.1 rfl ?_
  refine gj_iload_n dX9_frostOn_4 rfl ?_
  refine gj_bp 7 dX9_frostOn_5 (by decide) ?_
  refine gj_S1 lkX9_30 (ev_J9_floorMod_7cf53 (by omega)) dX9_frostOn_7 rfl rfl rfl rfl rfl ?_
  refine gj_ialdN dX9_frostOn_10 S.2.1 (by omega) (by omega) ?_
  have hb1 := S.2.2.2.2.1 (d % 7)
  exact gj_ir rfl dX9_frostOn_11 rfl rfl rfl
set_option maxHeartbeats 1000000 in
set_option maxRecDepth 10000 in
theorem ev_X9_sunOn {E : mj_E} {h : mj_H} {a kA iA : Nat} {F U : Nat → Nat} (S : mj_Wk h a kA iA F U) {d : Nat} (hd : d < 2 ^ 31) : mj_Ev E iX9_sunOn [.ref a, .int (nI d)] h (mj_R (some (.int (nI (U (d % 7))))) h) := by
  refine mj_Ev.of (L0 := [some (.ref a), some (.int (nI d))]) pnRX9 (Nat.le_of_ble_eq_true rfl) rfl ?_
  refine gj_aload_n dX9_sunOn_0 rfl ?_
  refine gfX9_15 rfl dX9_sunOn_1 S.1 rfl ?_
  refine gj_iload_n dX9_sunOn_4 rfl ?_
  refine gj_bp 7 dX9_sunOn_5 (by decide) ?_
  refine gj_S1 lkX9_30 (ev_J9_floorMod_7cf53 (by omega)) dX9_sunOn_7 rfl rfl rfl rfl rfl ?_
  refine gj_ialdN dX9_sunOn_10 S.2.2.1 (by omega) (by omega) ?_
  have hb1 := S.2.2.2.2.2 (d % 7)
  exact gj_ir rfl dX9_sunOn_11 rfl rfl rfl
set_option maxHeartbeats 1000000 in
set_option maxRecDepth 10000 in
theorem ev_X9_set {E : mj_E} {h : mj_H} {a kA iA : Nat} {F U : Nat → Nat} (S : mj_Wk h a kA iA F U) {d f s : Nat} (hd : d < 7) : mj_Ev E iX9_set [.ref a, .int (nI d), .int (nI f), .int (nI s)] h (mj_R none (mj_up (mj_up h kA (mj_ar 7 (mj_un F d f))) iA (mj_ar 7 (mj_un U d s)))) := by
  refine mj_Ev.of (L0 := [some (.ref a), some (.int (nI d)), some (.int (nI f)), some (.int (nI s))]) pnRX9 (Nat.le_of_ble_eq_true rfl) rfl ?_
  refine gj_aload_n dX9_set_0 rfl ?_
  refine gfX9_9 rfl dX9_set_1 S.1 rfl ?_
  refine gj_iload_n dX9_set_4 rfl ?_
  refine gj_bp 7 dX9_set_5 (by decide) ?_
  refine gj_S1 lkX9_30 (ev_J9_floorMod_7cf53 (by omega)) dX9_set_7 rfl rfl rfl rfl rfl ?_
  refine gj_topN (Nat.mod_eq_of_lt hd) ?_
  refine gj_iload_n dX9_set_10 rfl ?_
  refine gj_iastN dX9_set_11 S.2.1 (by omega) (by omega) ?_
  refine gj_aload_n dX9_set_12 rfl ?_
  refine gfX9_15 rfl dX9_set_13 ((mj_up_ne (mj_neOA S.1 S.2.1)).trans S.1) rfl ?_
  refine gj_iload_n dX9_set_16 rfl ?_
  refine gj_bp 7 dX9_set_17 (by decide) ?_
  refine gj_S1 lkX9_30 (ev_J9_floorMod_7cf53 (by omega)) dX9_set_19 rfl rfl rfl rfl rfl ?_
  refine gj_topN (Nat.mod_eq_of_lt hd) ?_
  refine gj_iload_n dX9_set_22 rfl ?_
  refine gj_iastN dX9_set_23 ((mj_up_ne (Ne.symm S.2.2.2.1)).trans S.2.2.1) (by omega) (by omega) ?_
  exact gj_vr rfl dX9_set_24 rfl
set_option maxHeartbeats 1000000 in
set_option maxRecDepth 10000 in
theorem ev_X9_restart {E : mj_E} {h : mj_H} {a kA iA : Nat} {F U : Nat → Nat} (S : mj_Wk h a kA iA F U)  : mj_Ev E iX9_restart [.ref a] h (mj_R none (mj_up (mj_up h kA (mj_ar 7 (fun _ => 0))) iA (mj_ar 7 (fun _ => 0)))) := by
  refine mj_Ev.of (L0 := [some (.ref a)]) pnRX9 (Nat.le_of_ble_eq_true rfl) rfl ?_
  refine gj_aload_n dX9_restart_0 rfl ?_
  refine gfX9_9 rfl dX9_restart_1 S.1 rfl ?_
  refine gj_ic (w := 0) dX9_restart_4 ?_
  refine gj_S0 lkX9_24 (ev_J7_fill_53178 S.2.1 (by decide)) dX9_restart_5 rfl rfl rfl rfl rfl ?_
  refine gj_aload_n dX9_restart_8 rfl ?_
  refine gfX9_15 rfl dX9_restart_9 ((mj_up_ne (mj_neOA S.1 S.2.1)).trans S.1) rfl ?_
  refine gj_ic (w := 0) dX9_restart_12 ?_
  refine gj_S0 lkX9_24 (ev_J7_fill_53178 ((mj_up_ne (Ne.symm S.2.2.2.1)).trans S.2.2.1) (by decide)) dX9_restart_13 rfl rfl rfl rfl rfl ?_
  exact gj_vr rfl dX9_restart_16 rfl
set_option maxHeartbeats 1000000 in
set_option maxRecDepth 10000 in
theorem ev_X9_copy {E : mj_E} {h : mj_H} {a kA iA b kB iB : Nat} {F U F2 U2 : Nat → Nat} (S : mj_Wk h a kA iA F U) (S2 : mj_Wk h b kB iB F2 U2) (hx : kA ≠ iB) : mj_Ev E iX9_copy [.ref a, .ref b] h (mj_R none (mj_up (mj_up h kA (mj_ar 7 F2)) iA (mj_ar 7 U2))) := by
  refine mj_Ev.of (L0 := [some (.ref a), some (.ref b)]) pnRX9 (Nat.le_of_ble_eq_true rfl) rfl ?_
  refine gj_aload_n dX9_copy_0 rfl ?_
  refine gfX9_9 rfl dX9_copy_1 S2.1 rfl ?_
  refine gj_ic (w := 0) dX9_copy_4 ?_
  refine gj_aload_n dX9_copy_5 rfl ?_
  refine gfX9_9 rfl dX9_copy_6 S.1 rfl ?_
  refine gj_ic (w := 0) dX9_copy_9 ?_
  refine gj_bp 7 dX9_copy_10 (by decide) ?_
  refine gj_copyN0 w_554 w_549 w_548 w_88 dX9_copy_12 S2.2.1 S.2.1 (by decide) rfl rfl ?_
  refine gj_aload_n dX9_copy_15 rfl ?_
  refine gfX9_15 rfl dX9_copy_16 ((mj_up_ne (mj_neOA S2.1 S.2.1)).trans S2.1) rfl ?_
  refine gj_ic (w := 0) dX9_copy_19 ?_
  refine gj_aload_n dX9_copy_20 rfl ?_
  refine gfX9_15 rfl dX9_copy_21 ((mj_up_ne (mj_neOA S.1 S.2.1)).trans S.1) rfl ?_
  refine gj_ic (w := 0) dX9_copy_24 ?_
  refine gj_bp 7 dX9_copy_25 (by decide) ?_
  refine gj_copyN0 w_554 w_549 w_548 w_88 dX9_copy_27 ((mj_up_ne (Ne.symm hx)).trans S2.2.2.1) ((mj_up_ne (Ne.symm S.2.2.2.1)).trans S.2.2.1) (by decide) rfl rfl ?_
  exact gj_vr rfl dX9_copy_30 rfl
set_option maxHeartbeats 1000000 in
set_option maxRecDepth 10000 in
theorem ev_X9_iceAfter {E : mj_E} {h : mj_H} {a kA iA : Nat} {F U : Nat → Nat} (S : mj_Wk h a kA iA F U) {k i d : Nat} (hk : k ≤ 5) (hi : i ≤ 99) (hd : d < 2 ^ 31) : mj_Ev E iX9_iceAfter [.ref a, .int (nI k), .int (nI i), .int (nI d)] h (mj_R (some (.int (nI (sp_after k i (F (d % 7)) (U (d % 7)))))) h) := by
  refine mj_Ev.of (L0 := [some (.ref a), some (.int (nI k)), some (.int (nI i)), some (.int (nI d))]) pnRX9 (Nat.le_of_ble_eq_true rfl) rfl ?_
  refine gj_iload_n dX9_iceAfter_0 rfl ?_
  refine gj_iload_n dX9_iceAfter_1 rfl ?_
  refine gj_aload_n dX9_iceAfter_2 rfl ?_
  refine gj_iload_n dX9_iceAfter_3 rfl ?_
  refine gj_V1 lkX9_36 S.1 rfl rfl (ev_X9_frostOn ⟨S.1, S.2.1, S.2.2.1, S.2.2.2.1, S.2.2.2.2.1, S.2.2.2.2.2⟩ (by omega)) dX9_iceAfter_4 rfl rfl rfl rfl rfl ?_
  have hb1 := S.2.2.2.2.1 (d % 7)
  refine gj_aload_n dX9_iceAfter_7 rfl ?_
  refine gj_iload_n dX9_iceAfter_8 rfl ?_
  refine gj_V1 lkX9_40 S.1 rfl rfl (ev_X9_sunOn ⟨S.1, S.2.1, S.2.2.1, S.2.2.2.1, S.2.2.2.2.1, S.2.2.2.2.2⟩ (by omega)) dX9_iceAfter_9 rfl rfl rfl rfl rfl ?_
  have hb2 := S.2.2.2.2.2 (d % 7)
  refine gj_S1 lkX9_43 (ev_X0_after (by omega) (by omega) (by omega) (by omega)) dX9_iceAfter_12 rfl rfl rfl rfl rfl ?_
  have hb3 := @sp_after_le k i (F (d % 7)) (U (d % 7))
  exact gj_ir rfl dX9_iceAfter_15 rfl rfl rfl
set_option maxHeartbeats 1000000 in
set_option maxRecDepth 10000 in
theorem ev_X3_at {E : mj_E} {h : mj_H} {a rA z : Nat} {R : Nat → Nat} (Ha : h a = some (.inr (2, [.ref rA, .int (nI z)]))) (Hr : h rA = some (mj_ar 30 R)) {i c : Nat} (hi : i < 6) (hc : c < 5) : mj_Ev E iX3_at [.ref a, .int (nI i), .int (nI c)] h (mj_R (some (.int (nI (R (i * 5 + c))))) h) := by
  refine mj_Ev.of (L0 := [some (.ref a), some (.int (nI i)), some (.int (nI c)), none]) pnRX3 (Nat.le_of_ble_eq_true rfl) rfl ?_
  refine gj_iload_n dX3_at_0 rfl ?_
  refine gj_ic (w := 5) dX3_at_1 ?_
  refine gj_imulN  dX3_at_2 ?_
  refine gj_iload_n dX3_at_3 rfl ?_
  refine gj_iaddN  dX3_at_4 ?_
  refine gj_istore_n (L' := [some (.ref a), some (.int (nI i)), some (.int (nI c)), some (.int (nI ((i * 5) + c)))]) dX3_at_5 (Nat.le_of_ble_eq_true rfl) rfl ?_
  refine gj_iload_n dX3_at_6 rfl ?_
  refine gj_if_ltN (tgt := 28) (by omega) dX3_at_7 rfl (fun zq1 => ?_) (fun zq1 => ?_)
  · exfalso; exact zq1
  refine gj_iload_n dX3_at_10 rfl ?_
  refine gj_aload_n dX3_at_11 rfl ?_
  refine gfX3_9 rfl dX3_at_12 Ha rfl ?_
  refine gj_alen (t := 0) rfl dX3_at_15 Hr ?_
  refine gj_icmp_geN (tgt := 28) (by omega) (by omega) dX3_at_16 rfl (fun zq2 => ?_) (fun zq2 => ?_)
  · exfalso; omega
  refine gj_aload_n dX3_at_19 rfl ?_
  refine gfX3_9 rfl dX3_at_20 Ha rfl ?_
  refine gj_iload_n dX3_at_23 rfl ?_
  refine gj_ialdN dX3_at_24 Hr (by omega) (by omega) ?_
  refine gj_goto (tgt := 29) dX3_at_25 rfl ?_
  exact gj_ir rfl dX3_at_29 rfl rfl rfl
set_option maxHeartbeats 1000000 in
set_option maxRecDepth 10000 in
theorem ev_X3_empty {E : mj_E} {h : mj_H} {a rA z : Nat} {R : Nat → Nat} (Ha : h a = some (.inr (2, [.ref rA, .int (nI z)]))) (Hr : h rA = some (mj_ar 30 R)) (hz : z < 2 ^ 31) : mj_Ev E iX3_empty [.ref a] h (mj_R (some (.int (nI z))) (mj_up h a (.inr (2, [.ref rA, .int (nI 0)])))) := by
  refine mj_Ev.of (L0 := [some (.ref a), none]) pnRX3 (Nat.le_of_ble_eq_true rfl) rfl ?_
  refine gj_aload_n dX3_empty_0 rfl ?_
  refine gfX3_15 rfl dX3_empty_1 Ha rfl ?_
  refine gj_istore_n (L' := [some (.ref a), some (.int (nI z))]) dX3_empty_4 (Nat.le_of_ble_eq_true rfl) rfl ?_
  refine gj_aload_n dX3_empty_5 rfl ?_
  refine gj_ic (w := 0) dX3_empty_6 ?_
  refine pfX3_15 rfl dX3_empty_7 Ha (Nat.le_of_ble_eq_true rfl) ?_
  show gj _ _ _ _ _ _ _ _ (mj_up h a (.inr (2, [.ref rA, .int (nI 0)])))
  refine gj_iload_n dX3_empty_10 rfl ?_
  exact gj_ir rfl dX3_empty_11 rfl rfl rfl
set_option maxHeartbeats 1000000 in
set_option maxRecDepth 10000 in
theorem ev_X3_add {E : mj_E} {h : mj_H} {a rA z : Nat} {R : Nat → Nat} (Ha : h a = some (.inr (2, [.ref rA, .int (nI z)]))) (Hr : h rA = some (mj_ar 30 R)) {p q x y w : Nat} (hz : z < 6) : mj_Ev E iX3_add [.ref a, .int (nI p), .int (nI q), .int (nI x), .int (nI y), .int (nI w)] h (mj_R (some (.int (nI (z + 1)))) (mj_up (mj_up h rA (mj_ar 30 (mj_un (mj_un (mj_un (mj_un (mj_un R (z * 5) p) (z * 5 + 1) q) (z * 5 + 2) x) (z * 5 + 3) y) (z * 5 + 4) w))) a (.inr (2, [.ref rA, .int (nI (z + 1))])))) := by
  refine mj_Ev.of (L0 := [some (.ref a), some (.int (nI p)), some (.int (nI q)), some (.int (nI x)), some (.int (nI y)), some (.int (nI w)), none]) pnRX3 (Nat.le_of_ble_eq_true rfl) rfl ?_
  refine gj_aload_n dX3_add_0 rfl ?_
  refine gfX3_15 rfl dX3_add_1 Ha rfl ?_
  refine gj_ic (w := 0) dX3_add_4 ?_
  refine gj_ic (w := 5) dX3_add_5 ?_
  refine gj_N1 lkX3_25 (ev_X10_within_t (by omega) (by omega) (by omega)) dX3_add_6 rfl rfl rfl rfl rfl ?_
  refine gj_if_eqN (tgt := 80) (by omega) dX3_add_9 rfl (fun zq0 => ?_) (fun zq0 => ?_)
  · exfalso; revert zq0; decide
  refine gj_aload_n dX3_add_12 rfl ?_
  refine gfX3_15 rfl dX3_add_13 Ha rfl ?_
  refine gj_ic (w := 5) dX3_add_16 ?_
  refine gj_imulN  dX3_add_17 ?_
  refine gj_istore (L' := [some (.ref a), some (.int (nI p)), some (.int (nI q)), some (.int (nI x)), some (.int (nI y)), some (.int (nI w)), some (.int (nI (z * 5)))]) dX3_add_18 (Nat.le_of_ble_eq_true rfl) rfl ?_
  refine gj_aload_n dX3_add_20 rfl ?_
  refine gfX3_9 rfl dX3_add_21 Ha rfl ?_
  refine gj_iload dX3_add_24 rfl ?_
  refine gj_iload_n dX3_add_26 rfl ?_
  refine gj_iastN dX3_add_27 Hr (by omega) (by omega) ?_
  refine gj_aload_n dX3_add_28 rfl ?_
  refine gfX3_9 rfl dX3_add_29 ((mj_up_ne (mj_neOA Ha Hr)).trans Ha) rfl ?_
  refine gj_iload dX3_add_32 rfl ?_
  refine gj_ic (w := 1) dX3_add_34 ?_
  refine gj_iaddN  dX3_add_35 ?_
  refine gj_iload_n dX3_add_36 rfl ?_
  refine gj_iastN dX3_add_37 (mj_up_eq _ _ _) (by omega) (by omega) ?_
  refine gj_aload_n dX3_add_38 rfl ?_
  refine gfX3_9 rfl dX3_add_39 ((mj_up_ne (mj_neOA Ha Hr)).trans ((mj_up_ne (mj_neOA Ha Hr)).trans Ha)) rfl ?_
  refine gj_iload dX3_add_42 rfl ?_
  refine gj_ic (w := 2) dX3_add_44 ?_
  refine gj_iaddN  dX3_add_45 ?_
  refine gj_iload_n dX3_add_46 rfl ?_
  refine gj_iastN dX3_add_47 (mj_up_eq _ _ _) (by omega) (by omega) ?_
  refine gj_aload_n dX3_add_48 rfl ?_
  refine gfX3_9 rfl dX3_add_49 ((mj_up_ne (mj_neOA Ha Hr)).trans ((mj_up_ne (mj_neOA Ha Hr)).trans ((mj_up_ne (mj_neOA Ha Hr)).trans Ha))) rfl ?_
  refine gj_iload dX3_add_52 rfl ?_
  refine gj_ic (w := 3) dX3_add_54 ?_
  refine gj_iaddN  dX3_add_55 ?_
  refine gj_iload dX3_add_56 rfl ?_
  refine gj_iastN dX3_add_58 (mj_up_eq _ _ _) (by omega) (by omega) ?_
  refine gj_aload_n dX3_add_59 rfl ?_
  refine gfX3_9 rfl dX3_add_60 ((mj_up_ne (mj_neOA Ha Hr)).trans ((mj_up_ne (mj_neOA Ha Hr)).trans ((mj_up_ne (mj_neOA Ha Hr)).trans ((mj_up_ne (mj_neOA Ha Hr)).trans Ha)))) rfl ?_
  refine gj_iload dX3_add_63 rfl ?_
  refine gj_ic (w := 4) dX3_add_65 ?_
  refine gj_iaddN  dX3_add_66 ?_
  refine gj_iload dX3_add_67 rfl ?_
  refine gj_iastN dX3_add_69 (mj_up_eq _ _ _) (by omega) (by omega) ?_
  refine gj_aload_n dX3_add_70 rfl ?_
  refine gj_dup dX3_add_71 rfl ?_
  refine gfX3_15 rfl dX3_add_72 ((mj_up_ne (mj_neOA Ha Hr)).trans ((mj_up_ne (mj_neOA Ha Hr)).trans ((mj_up_ne (mj_neOA Ha Hr)).trans ((mj_up_ne (mj_neOA Ha Hr)).trans ((mj_up_ne (mj_neOA Ha Hr)).trans Ha))))) rfl ?_
  refine gj_ic (w := 1) dX3_add_75 ?_
  refine gj_iaddN  dX3_add_76 ?_
  refine pfX3_15 rfl dX3_add_77 ((mj_up_ne (mj_neOA Ha Hr)).trans ((mj_up_ne (mj_neOA Ha Hr)).trans ((mj_up_ne (mj_neOA Ha Hr)).trans ((mj_up_ne (mj_neOA Ha Hr)).trans ((mj_up_ne (mj_neOA Ha Hr)).trans Ha))))) (Nat.le_of_ble_eq_true rfl) ?_
  show gj _ _ _ _ _ _ _ _ (mj_up (mj_up (mj_up (mj_up (mj_up (mj_up h rA (mj_ar 30 (mj_un R (z * 5) p))) rA (mj_ar 30 (mj_un (mj_un R (z * 5) p) ((z * 5) + 1) q))) rA (mj_ar 30 (mj_un (mj_un (mj_un R (z * 5) p) ((z * 5) + 1) q) ((z * 5) + 2) x))) rA (mj_ar 30 (mj_un (mj_un (mj_un (mj_un R (z * 5) p) ((z * 5) + 1) q) ((z * 5) + 2) x) ((z * 5) + 3) y))) rA (mj_ar 30 (mj_un (mj_un (mj_un (mj_un (mj_un R (z * 5) p) ((z * 5) + 1) q) ((z * 5) + 2) x) ((z * 5) + 3) y) ((z * 5) + 4) w))) a (.inr (2, [.ref rA, .int (nI (z + 1))])))
  refine gj_aload_n dX3_add_80 rfl ?_
  refine gfX3_15 rfl dX3_add_81 (mj_up_eq _ _ _) rfl ?_
  exact gj_ir rfl dX3_add_84 rfl rfl (by simp only [mj_up_up])
set_option maxHeartbeats 1000000 in
set_option maxRecDepth 10000 in
theorem ev_X3_copy {E : mj_E} {h : mj_H} {a rA z : Nat} {R : Nat → Nat} (Ha : h a = some (.inr (2, [.ref rA, .int (nI z)]))) (Hr : h rA = some (mj_ar 30 R)) {b rB z2 : Nat} {R2 : Nat → Nat} (Hb : h b = some (.inr (2, [.ref rB, .int (nI z2)]))) (Hs : h rB = some (mj_ar 30 R2)) : mj_Ev E iX3_copy [.ref a, .ref b] h (mj_R none (mj_up (mj_up h rA (mj_ar 30 R2)) a (.inr (2, [.ref rA, .int (nI z2)])))) := by
  refine mj_Ev.of (L0 := [some (.ref a), some (.ref b)]) pnRX3 (Nat.le_of_ble_eq_true rfl) rfl ?_
  refine gj_aload_n dX3_copy_0 rfl ?_
  refine gfX3_9 rfl dX3_copy_1 Hb rfl ?_
  refine gj_ic (w := 0) dX3_copy_4 ?_
  refine gj_aload_n dX3_copy_5 rfl ?_
  refine gfX3_9 rfl dX3_copy_6 Ha rfl ?_
  refine gj_ic (w := 0) dX3_copy_9 ?_
  refine gj_aload_n dX3_copy_10 rfl ?_
  refine gfX3_9 rfl dX3_copy_11 Ha rfl ?_
  refine gj_alen (t := 0) rfl dX3_copy_14 Hr ?_
  refine gj_copyN0 w_564 w_549 w_548 w_88 dX3_copy_15 Hs Hr (by decide) rfl rfl ?_
  refine gj_aload_n dX3_copy_18 rfl ?_
  refine gj_aload_n dX3_copy_19 rfl ?_
  refine gfX3_15 rfl dX3_copy_20 ((mj_up_ne (mj_neOA Hb Hr)).trans Hb) rfl ?_
  refine pfX3_15 rfl dX3_copy_23 ((mj_up_ne (mj_neOA Ha Hr)).trans Ha) (Nat.le_of_ble_eq_true rfl) ?_
  show gj _ _ _ _ _ _ _ _ (mj_up (mj_up h rA (mj_ar 30 R2)) a (.inr (2, [.ref rA, .int (nI z2)])))
  exact gj_vr rfl dX3_copy_26 rfl
def sp_fold (R : Nat → Nat) (h : Int64) (m : Nat) : Int64 := mj_fo (fun j (h : Int64) => 31 * h + (nI (R j)).toInt64) h m
set_option maxHeartbeats 1000000 in
set_option maxRecDepth 10000 in
theorem ev_X3_fold {E : mj_E} {h : mj_H} {a rA z : Nat} {R : Nat → Nat} (Ha : h a = some (.inr (2, [.ref rA, .int (nI z)]))) (Hr : h rA = some (mj_ar 30 R)) (hz : z ≤ 6) {x : Int64} : mj_Ev E iX3_fold [.ref a, .long x] h (mj_R (some (.long (sp_fold R x (z * 5)))) h) := by
  refine mj_Ev.of (L0 := [some (.ref a), some (.long x), none, none, none, none]) pnRX3 (Nat.le_of_ble_eq_true rfl) rfl ?_
  refine gj_lload_n dX3_fold_0 rfl ?_
  refine gj_lstore_n (L' := [some (.ref a), some (.long x), none, some (.long x), none, none]) dX3_fold_1 (Nat.le_of_ble_eq_true rfl) rfl ?_
  refine gj_ic (w := 0) dX3_fold_2 ?_
  refine gj_istore (L' := [some (.ref a), some (.long x), none, some (.long x), none, some (.int (nI 0))]) dX3_fold_3 (Nat.le_of_ble_eq_true rfl) rfl ?_
  refine gj_cast (L' := [some (.ref a), some (.long x), none, some (.long (sp_fold R x 0)), none, some (.int (nI 0))]) (st' := []) (h' := h) rfl rfl rfl ?_
  refine gj_loop (fun j => [some (.ref a), some (.long x), none, some (.long (sp_fold R x j)), none, some (.int (nI j))]) (fun j => h) (z * 5) ?_ (fun j hj ih => ?_) 0 (by omega)
  · show gj _ _ _ _ _ _ [some (.ref a), some (.long x), none, some (.long (sp_fold R x (z * 5))), none, some (.int (nI (z * 5)))] _ _
    refine gj_iload dX3_fold_5 rfl ?_
    refine gj_aload_n dX3_fold_7 rfl ?_
    refine gfX3_15 rfl dX3_fold_8 Ha rfl ?_
    refine gj_ic (w := 5) dX3_fold_11 ?_
    refine gj_imulN  dX3_fold_12 ?_
    refine gj_icmp_geN (tgt := 47) (by omega) (by omega) dX3_fold_13 rfl (fun zq1 => ?_) (fun zq1 => ?_)
    rotate_left
    · exfalso; omega
    refine gj_lload_n dX3_fold_47 rfl ?_
    exact gj_lr rfl dX3_fold_48 rfl rfl rfl
  show gj _ _ _ _ _ _ [some (.ref a), some (.long x), none, some (.long (sp_fold R x j)), none, some (.int (nI j))] _ _
  refine gj_iload dX3_fold_5 rfl ?_
  refine gj_aload_n dX3_fold_7 rfl ?_
  refine gfX3_15 rfl dX3_fold_8 Ha rfl ?_
  refine gj_ic (w := 5) dX3_fold_11 ?_
  refine gj_imulN  dX3_fold_12 ?_
  refine gj_icmp_geN (tgt := 47) (by omega) (by omega) dX3_fold_13 rfl (fun zq2 => ?_) (fun zq2 => ?_)
  · exfalso; omega
  refine gj_iload dX3_fold_16 rfl ?_
  refine gj_aload_n dX3_fold_18 rfl ?_
  refine gfX3_9 rfl dX3_fold_19 Ha rfl ?_
  refine gj_alen (t := 0) rfl dX3_fold_22 Hr ?_
  refine gj_icmp_geN (tgt := 47) (by omega) (by omega) dX3_fold_23 rfl (fun zq3 => ?_) (fun zq3 => ?_)
  · exfalso; omega
  refine gj_ldc2 (v := 31) w_980 dX3_fold_26 ?_
  refine gj_lload_n dX3_fold_29 rfl ?_
  refine gj_lmul dX3_fold_30  ?_
  refine gj_aload_n dX3_fold_31 rfl ?_
  refine gfX3_9 rfl dX3_fold_32 Ha rfl ?_
  refine gj_iload dX3_fold_35 rfl ?_
  refine gj_ialdN dX3_fold_37 Hr (by omega) (by omega) ?_
  refine gj_i2l (v := (nI (R j)).toInt64) dX3_fold_38 rfl ?_
  refine gj_ladd dX3_fold_39  ?_
  refine gj_lstore_n (L' := [some (.ref a), some (.long x), none, some (.long ((31 * (sp_fold R x j)) + ((nI (R j)).toInt64))), none, some (.int (nI j))]) dX3_fold_40 (Nat.le_of_ble_eq_true rfl) rfl ?_
  refine gj_iincN (L' := [some (.ref a), some (.long x), none, some (.long ((31 * (sp_fold R x j)) + ((nI (R j)).toInt64))), none, some (.int (nI (j + 1)))]) dX3_fold_41 rfl (Nat.le_of_ble_eq_true rfl) rfl ?_
  refine gj_goto (tgt := 5) dX3_fold_44 rfl ?_
  exact ih
set_option maxHeartbeats 1000000 in
set_option maxRecDepth 10000 in
theorem ev_X2_empty {E : mj_E} {h : mj_H} {a iA dA z : Nat} {P D : Nat → Nat} (Ha : h a = some (.inr (1, [.ref iA, .ref dA, .int (nI z)]))) (Hi : h iA = some (mj_ar 200 P)) (Hd : h dA = some (mj_ar 8 D)) (hx : iA ≠ dA)  : mj_Ev E iX2_empty [.ref a] h (mj_R none (mj_up h a (.inr (1, [.ref iA, .ref dA, .int (nI 0)])))) := by
  refine mj_Ev.of (L0 := [some (.ref a)]) pnRX2 (Nat.le_of_ble_eq_true rfl) rfl ?_
  refine gj_aload_n dX2_empty_0 rfl ?_
  refine gj_ic (w := 0) dX2_empty_1 ?_
  refine pfX2_18 rfl dX2_empty_2 Ha (Nat.le_of_ble_eq_true rfl) ?_
  show gj _ _ _ _ _ _ _ _ (mj_up h a (.inr (1, [.ref iA, .ref dA, .int (nI 0)])))
  exact gj_vr rfl dX2_empty_5 rfl
set_option maxHeartbeats 1000000 in
set_option maxRecDepth 10000 in
theorem ev_X2_copy {E : mj_E} {h : mj_H} {a iA dA z : Nat} {P D : Nat → Nat} (Ha : h a = some (.inr (1, [.ref iA, .ref dA, .int (nI z)]))) (Hi : h iA = some (mj_ar 200 P)) (Hd : h dA = some (mj_ar 8 D)) (hx : iA ≠ dA) {b iB dB z2 : Nat} {P2 D2 : Nat → Nat} (Hb : h b = some (.inr (1, [.ref iB, .ref dB, .int (nI z2)]))) (Hj : h iB = some (mj_ar 200 P2)) (He : h dB = some (mj_ar 8 D2)) (hy : iA ≠ dB) : mj_Ev E iX2_copy [.ref a, .ref b] h (mj_R none (mj_up (mj_up (mj_up h iA (mj_ar 200 P2)) dA (mj_ar 8 D2)) a (.inr (1, [.ref iA, .ref dA, .int (nI z2)])))) := by
  refine mj_Ev.of (L0 := [some (.ref a), some (.ref b)]) pnRX2 (Nat.le_of_ble_eq_true rfl) rfl ?_
  refine gj_aload_n dX2_copy_0 rfl ?_
  refine gfX2_9 rfl dX2_copy_1 Hb rfl ?_
  refine gj_ic (w := 0) dX2_copy_4 ?_
  refine gj_aload_n dX2_copy_5 rfl ?_
  refine gfX2_9 rfl dX2_copy_6 Ha rfl ?_
  refine gj_ic (w := 0) dX2_copy_9 ?_
  refine gj_aload_n dX2_copy_10 rfl ?_
  refine gfX2_9 rfl dX2_copy_11 Ha rfl ?_
  refine gj_alen (t := 0) rfl dX2_copy_14 Hi ?_
  refine gj_copyN0 w_569 w_549 w_548 w_88 dX2_copy_15 Hj Hi (by decide) rfl rfl ?_
  refine gj_aload_n dX2_copy_18 rfl ?_
  refine gfX2_15 rfl dX2_copy_19 ((mj_up_ne (mj_neOA Hb Hi)).trans Hb) rfl ?_
  refine gj_ic (w := 0) dX2_copy_22 ?_
  refine gj_aload_n dX2_copy_23 rfl ?_
  refine gfX2_15 rfl dX2_copy_24 ((mj_up_ne (mj_neOA Ha Hi)).trans Ha) rfl ?_
  refine gj_ic (w := 0) dX2_copy_27 ?_
  refine gj_aload_n dX2_copy_28 rfl ?_
  refine gfX2_15 rfl dX2_copy_29 ((mj_up_ne (mj_neOA Ha Hi)).trans Ha) rfl ?_
  refine gj_alen (t := 0) rfl dX2_copy_32 ((mj_up_ne (Ne.symm hx)).trans Hd) ?_
  refine gj_copyN0 w_569 w_549 w_548 w_88 dX2_copy_33 ((mj_up_ne (Ne.symm hy)).trans He) ((mj_up_ne (Ne.symm hx)).trans Hd) (by decide) rfl rfl ?_
  refine gj_aload_n dX2_copy_36 rfl ?_
  refine gj_aload_n dX2_copy_37 rfl ?_
  refine gfX2_18 rfl dX2_copy_38 ((mj_up_ne (mj_neOA Hb Hd)).trans ((mj_up_ne (mj_neOA Hb Hi)).trans Hb)) rfl ?_
  refine pfX2_18 rfl dX2_copy_41 ((mj_up_ne (mj_neOA Ha Hd)).trans ((mj_up_ne (mj_neOA Ha Hi)).trans Ha)) (Nat.le_of_ble_eq_true rfl) ?_
  show gj _ _ _ _ _ _ _ _ (mj_up (mj_up (mj_up h iA (mj_ar 200 P2)) dA (mj_ar 8 D2)) a (.inr (1, [.ref iA, .ref dA, .int (nI z2)])))
  exact gj_vr rfl dX2_copy_44 rfl
set_option maxHeartbeats 1000000 in
set_option maxRecDepth 10000 in
theorem ev_X2_dropOldest {E : mj_E} {h : mj_H} {a iA dA z : Nat} {P D : Nat → Nat} (Ha : h a = some (.inr (1, [.ref iA, .ref dA, .int (nI z)]))) (Hi : h iA = some (mj_ar 200 P)) (Hd : h dA = some (mj_ar 8 D)) (hx : iA ≠ dA)  : mj_Ev E iX2_dropOldest [.ref a] h (mj_R none (mj_up (mj_up (mj_up h iA (mj_ar 200 (mj_cp P P 25 0 175))) dA (mj_ar 8 (mj_cp D D 1 0 7))) a (.inr (1, [.ref iA, .ref dA, .int (nI 7)])))) := by
  refine mj_Ev.of (L0 := [some (.ref a)]) pnRX2 (Nat.le_of_ble_eq_true rfl) rfl ?_
  refine gj_aload_n dX2_dropOldest_0 rfl ?_
  refine gfX2_9 rfl dX2_dropOldest_1 Ha rfl ?_
  refine gj_bp 25 dX2_dropOldest_4 (by decide) ?_
  refine gj_aload_n dX2_dropOldest_6 rfl ?_
  refine gfX2_9 rfl dX2_dropOldest_7 Ha rfl ?_
  refine gj_ic (w := 0) dX2_dropOldest_10 ?_
  refine gj_sp 175 dX2_dropOldest_11 (by decide) ?_
  refine gj_copyN (sp := 25) (dp := 0) (w := 175) w_569 w_549 w_548 w_88 dX2_dropOldest_14 Hi Hi (by decide) (by decide) (by omega) (by omega) rfl rfl ?_
  refine gj_aload_n dX2_dropOldest_17 rfl ?_
  refine gfX2_15 rfl dX2_dropOldest_18 ((mj_up_ne (mj_neOA Ha Hi)).trans Ha) rfl ?_
  refine gj_ic (w := 1) dX2_dropOldest_21 ?_
  refine gj_aload_n dX2_dropOldest_22 rfl ?_
  refine gfX2_15 rfl dX2_dropOldest_23 ((mj_up_ne (mj_neOA Ha Hi)).trans Ha) rfl ?_
  refine gj_ic (w := 0) dX2_dropOldest_26 ?_
  refine gj_bp 7 dX2_dropOldest_27 (by decide) ?_
  refine gj_copyN (sp := 1) (dp := 0) (w := 7) w_569 w_549 w_548 w_88 dX2_dropOldest_29 ((mj_up_ne (Ne.symm hx)).trans Hd) ((mj_up_ne (Ne.symm hx)).trans Hd) (by decide) (by decide) (by omega) (by omega) rfl rfl ?_
  refine gj_aload_n dX2_dropOldest_32 rfl ?_
  refine gj_bp 7 dX2_dropOldest_33 (by decide) ?_
  refine pfX2_18 rfl dX2_dropOldest_35 ((mj_up_ne (mj_neOA Ha Hd)).trans ((mj_up_ne (mj_neOA Ha Hi)).trans Ha)) (Nat.le_of_ble_eq_true rfl) ?_
  show gj _ _ _ _ _ _ _ _ (mj_up (mj_up (mj_up h iA (mj_ar 200 (mj_cp P P 25 0 175))) dA (mj_ar 8 (mj_cp D D 1 0 7))) a (.inr (1, [.ref iA, .ref dA, .int (nI 7)])))
  exact gj_vr rfl dX2_dropOldest_38 rfl
set_option maxHeartbeats 1000000 in
set_option maxRecDepth 10000 in
theorem ev_X2_keep_a {E : mj_E} {h : mj_H} {a iA dA z : Nat} {P D : Nat → Nat} (Ha : h a = some (.inr (1, [.ref iA, .ref dA, .int (nI z)]))) (Hi : h iA = some (mj_ar 200 P)) (Hd : h dA = some (mj_ar 8 D)) (hx : iA ≠ dA) {sA kA jA d : Nat} {K I : Nat → Nat} (S : mj_Sh h sA kA jA K I) (hj : iA ≠ jA) (hj2 : dA ≠ jA) (hj3 : a ≠ sA) (hz : z < 8) : mj_Ev E iX2_keep [.ref a, .ref sA, .int (nI d)] h (mj_R none (mj_up (mj_up (mj_up h iA (mj_ar 200 (mj_cp I P 0 (z * 25) 25))) dA (mj_ar 8 (mj_un D z d))) a (.inr (1, [.ref iA, .ref dA, .int (nI (z + 1))])))) := by
  refine mj_Ev.of (L0 := [some (.ref a), some (.ref sA), some (.int (nI d))]) pnRX2 (Nat.le_of_ble_eq_true rfl) rfl ?_
  refine gj_aload_n dX2_keep_0 rfl ?_
  refine gfX2_18 rfl dX2_keep_1 Ha rfl ?_
  refine gj_bp 8 dX2_keep_4 (by decide) ?_
  refine gj_icmp_ltN (tgt := 13) (by omega) (by omega) dX2_keep_6 rfl (fun zq1 => ?_) (fun zq1 => ?_)
  rotate_left
  · exfalso; omega
  refine gj_aload_n dX2_keep_13 rfl ?_
  refine gfX2_18 rfl dX2_keep_14 Ha rfl ?_
  refine gj_ic (w := 0) dX2_keep_17 ?_
  refine gj_bp 7 dX2_keep_18 (by decide) ?_
  refine gj_N1 lkX2_31 (ev_X10_within_t (by omega) (by omega) (by omega)) dX2_keep_20 rfl rfl rfl rfl rfl ?_
  refine gj_if_eqN (tgt := 67) (by omega) dX2_keep_23 rfl (fun zq0 => ?_) (fun zq0 => ?_)
  · exfalso; revert zq0; decide
  refine gj_aload_n dX2_keep_26 rfl ?_
  refine gfX2_35 rfl dX2_keep_27 S.1 rfl ?_
  refine gj_ic (w := 0) dX2_keep_30 ?_
  refine gj_aload_n dX2_keep_31 rfl ?_
  refine gfX2_9 rfl dX2_keep_32 Ha rfl ?_
  refine gj_aload_n dX2_keep_35 rfl ?_
  refine gfX2_18 rfl dX2_keep_36 Ha rfl ?_
  refine gj_bp 25 dX2_keep_39 (by decide) ?_
  refine gj_imulN  dX2_keep_41 ?_
  refine gj_bp 25 dX2_keep_42 (by decide) ?_
  refine gj_copyN (sp := 0) (dp := (z * 25)) (w := 25) w_569 w_549 w_548 w_88 dX2_keep_44 S.2.2.1 Hi (by decide) (by decide) (by omega) (by omega) rfl rfl ?_
  refine gj_aload_n dX2_keep_47 rfl ?_
  refine gfX2_15 rfl dX2_keep_48 ((mj_up_ne (mj_neOA Ha Hi)).trans Ha) rfl ?_
  refine gj_aload_n dX2_keep_51 rfl ?_
  refine gfX2_18 rfl dX2_keep_52 ((mj_up_ne (mj_neOA Ha Hi)).trans Ha) rfl ?_
  refine gj_iload_n dX2_keep_55 rfl ?_
  refine gj_iastN dX2_keep_56 ((mj_up_ne (Ne.symm hx)).trans Hd) (by omega) (by omega) ?_
  refine gj_aload_n dX2_keep_57 rfl ?_
  refine gj_dup dX2_keep_58 rfl ?_
  refine gfX2_18 rfl dX2_keep_59 ((mj_up_ne (mj_neOA Ha Hd)).trans ((mj_up_ne (mj_neOA Ha Hi)).trans Ha)) rfl ?_
  refine gj_ic (w := 1) dX2_keep_62 ?_
  refine gj_iaddN  dX2_keep_63 ?_
  refine pfX2_18 rfl dX2_keep_64 ((mj_up_ne (mj_neOA Ha Hd)).trans ((mj_up_ne (mj_neOA Ha Hi)).trans Ha)) (Nat.le_of_ble_eq_true rfl) ?_
  show gj _ _ _ _ _ _ _ _ (mj_up (mj_up (mj_up h iA (mj_ar 200 (mj_cp I P 0 (z * 25) 25))) dA (mj_ar 8 (mj_un D z d))) a (.inr (1, [.ref iA, .ref dA, .int (nI (z + 1))])))
  exact gj_vr rfl dX2_keep_67 rfl
set_option maxHeartbeats 1000000 in
set_option maxRecDepth 10000 in
theorem ev_X2_keep_b {E : mj_E} {h : mj_H} {a iA dA z : Nat} {P D : Nat → Nat} (Ha : h a = some (.inr (1, [.ref iA, .ref dA, .int (nI z)]))) (Hi : h iA = some (mj_ar 200 P)) (Hd : h dA = some (mj_ar 8 D)) (hx : iA ≠ dA) {sA kA jA d : Nat} {K I : Nat → Nat} (S : mj_Sh h sA kA jA K I) (hj : iA ≠ jA) (hj2 : dA ≠ jA) (hj3 : a ≠ sA) (hz : z = 8) : mj_Ev E iX2_keep [.ref a, .ref sA, .int (nI d)] h (mj_R none (mj_up (mj_up (mj_up h iA (mj_ar 200 (mj_cp I (mj_cp P P 25 0 175) 0 175 25))) dA (mj_ar 8 (mj_un (mj_cp D D 1 0 7) 7 d))) a (.inr (1, [.ref iA, .ref dA, .int (nI 8)])))) := by
  refine mj_Ev.of (L0 := [some (.ref a), some (.ref sA), some (.int (nI d))]) pnRX2 (Nat.le_of_ble_eq_true rfl) rfl ?_
  refine gj_aload_n dX2_keep_0 rfl ?_
  refine gfX2_18 rfl dX2_keep_1 Ha rfl ?_
  refine gj_bp 8 dX2_keep_4 (by decide) ?_
  refine gj_icmp_ltN (tgt := 13) (by omega) (by omega) dX2_keep_6 rfl (fun zq1 => ?_) (fun zq1 => ?_)
  · exfalso; omega
  refine gj_aload_n dX2_keep_9 rfl ?_
  refine gj_V0 lkX2_28 Ha rfl rfl (ev_X2_dropOldest Ha Hi Hd hx) dX2_keep_10 rfl rfl rfl rfl rfl ?_
  refine gj_aload_n dX2_keep_13 rfl ?_
  refine gfX2_18 rfl dX2_keep_14 (mj_up_eq _ _ _) rfl ?_
  refine gj_ic (w := 0) dX2_keep_17 ?_
  refine gj_bp 7 dX2_keep_18 (by decide) ?_
  refine gj_N1 lkX2_31 (ev_X10_within_t (by omega) (by omega) (by omega)) dX2_keep_20 rfl rfl rfl rfl rfl ?_
  refine gj_if_eqN (tgt := 67) (by omega) dX2_keep_23 rfl (fun zq0 => ?_) (fun zq0 => ?_)
  · exfalso; revert zq0; decide
  refine gj_aload_n dX2_keep_26 rfl ?_
  refine gfX2_35 rfl dX2_keep_27 ((mj_up_ne (Ne.symm hj3)).trans ((mj_up_ne (mj_neOA S.1 Hd)).trans ((mj_up_ne (mj_neOA S.1 Hi)).trans S.1))) rfl ?_
  refine gj_ic (w := 0) dX2_keep_30 ?_
  refine gj_aload_n dX2_keep_31 rfl ?_
  refine gfX2_9 rfl dX2_keep_32 (mj_up_eq _ _ _) rfl ?_
  refine gj_aload_n dX2_keep_35 rfl ?_
  refine gfX2_18 rfl dX2_keep_36 (mj_up_eq _ _ _) rfl ?_
  refine gj_bp 25 dX2_keep_39 (by decide) ?_
  refine gj_imulN  dX2_keep_41 ?_
  refine gj_bp 25 dX2_keep_42 (by decide) ?_
  refine gj_copyN (sp := 0) (dp := (7 * 25)) (w := 25) w_569 w_549 w_548 w_88 dX2_keep_44 ((mj_up_ne (Ne.symm (mj_neOA Ha S.2.2.1))).trans ((mj_up_ne (Ne.symm hj2)).trans ((mj_up_ne (Ne.symm hj)).trans S.2.2.1))) ((mj_up_ne (Ne.symm (mj_neOA Ha Hi))).trans ((mj_up_ne hx).trans (mj_up_eq _ _ _))) (by decide) (by decide) (by omega) (by omega) rfl rfl ?_
  refine gj_aload_n dX2_keep_47 rfl ?_
  refine gfX2_15 rfl dX2_keep_48 ((mj_up_ne (mj_neOA Ha Hi)).trans (mj_up_eq _ _ _)) rfl ?_
  refine gj_aload_n dX2_keep_51 rfl ?_
  refine gfX2_18 rfl dX2_keep_52 ((mj_up_ne (mj_neOA Ha Hi)).trans (mj_up_eq _ _ _)) rfl ?_
  refine gj_iload_n dX2_keep_55 rfl ?_
  refine gj_iastN dX2_keep_56 ((mj_up_ne (Ne.symm hx)).trans ((mj_up_ne (Ne.symm (mj_neOA Ha Hd))).trans (mj_up_eq _ _ _))) (by omega) (by omega) ?_
  refine gj_aload_n dX2_keep_57 rfl ?_
  refine gj_dup dX2_keep_58 rfl ?_
  refine gfX2_18 rfl dX2_keep_59 ((mj_up_ne (mj_neOA Ha Hd)).trans ((mj_up_ne (mj_neOA Ha Hi)).trans (mj_up_eq _ _ _))) rfl ?_
  refine gj_ic (w := 1) dX2_keep_62 ?_
  refine gj_iaddN  dX2_keep_63 ?_
  refine pfX2_18 rfl dX2_keep_64 ((mj_up_ne (mj_neOA Ha Hd)).trans ((mj_up_ne (mj_neOA Ha Hi)).trans (mj_up_eq _ _ _))) (Nat.le_of_ble_eq_true rfl) ?_
  show gj _ _ _ _ _ _ _ _ (mj_up (mj_up (mj_up (mj_up (mj_up (mj_up h iA (mj_ar 200 (mj_cp P P 25 0 175))) dA (mj_ar 8 (mj_cp D D 1 0 7))) a (.inr (1, [.ref iA, .ref dA, .int (nI 7)]))) iA (mj_ar 200 (mj_cp I (mj_cp P P 25 0 175) 0 (7 * 25) 25))) dA (mj_ar 8 (mj_un (mj_cp D D 1 0 7) 7 d))) a (.inr (1, [.ref iA, .ref dA, .int (nI (7 + 1))])))
  exact gj_vr rfl dX2_keep_67 (by funext x; simp only [mj_up]; (repeat' split) <;> first | rfl | omega)
set_option maxHeartbeats 1000000 in
set_option maxRecDepth 10000 in
theorem ev_X2_goBack {E : mj_E} {h : mj_H} {a iA dA z : Nat} {P D : Nat → Nat} (Ha : h a = some (.inr (1, [.ref iA, .ref dA, .int (nI z)]))) (Hi : h iA = some (mj_ar 200 P)) (Hd : h dA = some (mj_ar 8 D)) (hx : iA ≠ dA) {sA kA jA d : Nat} {K I : Nat → Nat} (S : mj_Sh h sA kA jA K I) (hj : iA ≠ jA) (hj2 : dA ≠ jA) (hj3 : a ≠ sA) (hz : 0 < z) (hz2 : z ≤ 8) : mj_Ev E iX2_goBack [.ref a, .ref sA] h (mj_R (some (.int (nI (D (z - 1))))) (mj_up (mj_up h a (.inr (1, [.ref iA, .ref dA, .int (nI (z - 1))]))) jA (mj_ar 25 (mj_cp P I ((z - 1) * 25) 0 25)))) := by
  refine mj_Ev.of (L0 := [some (.ref a), some (.ref sA)]) pnRX2 (Nat.le_of_ble_eq_true rfl) rfl ?_
  refine gj_aload_n dX2_goBack_0 rfl ?_
  refine gfX2_18 rfl dX2_goBack_1 Ha rfl ?_
  refine gj_ic (w := 1) dX2_goBack_4 ?_
  refine gj_bp 8 dX2_goBack_5 (by decide) ?_
  refine gj_N1 lkX2_31 (ev_X10_within_t (by omega) (by omega) (by omega)) dX2_goBack_7 rfl rfl rfl rfl rfl ?_
  refine gj_if_neN (tgt := 15) (by omega) dX2_goBack_10 rfl (fun zq0 => ?_) (fun zq0 => ?_)
  rotate_left
  · exfalso; revert zq0; decide
  refine gj_aload_n dX2_goBack_15 rfl ?_
  refine gj_dup dX2_goBack_16 rfl ?_
  refine gfX2_18 rfl dX2_goBack_17 Ha rfl ?_
  refine gj_ic (w := 1) dX2_goBack_20 ?_
  refine gj_isubN (by omega) dX2_goBack_21 ?_
  refine pfX2_18 rfl dX2_goBack_22 Ha (Nat.le_of_ble_eq_true rfl) ?_
  show gj _ _ _ _ _ _ _ _ (mj_up h a (.inr (1, [.ref iA, .ref dA, .int (nI (z - 1))])))
  refine gj_aload_n dX2_goBack_25 rfl ?_
  refine gfX2_9 rfl dX2_goBack_26 (mj_up_eq _ _ _) rfl ?_
  refine gj_aload_n dX2_goBack_29 rfl ?_
  refine gfX2_18 rfl dX2_goBack_30 (mj_up_eq _ _ _) rfl ?_
  refine gj_bp 25 dX2_goBack_33 (by decide) ?_
  refine gj_imulN  dX2_goBack_35 ?_
  refine gj_aload_n dX2_goBack_36 rfl ?_
  refine gfX2_35 rfl dX2_goBack_37 ((mj_up_ne (Ne.symm hj3)).trans S.1) rfl ?_
  refine gj_ic (w := 0) dX2_goBack_40 ?_
  refine gj_bp 25 dX2_goBack_41 (by decide) ?_
  refine gj_copyN (sp := ((z - 1) * 25)) (dp := 0) (w := 25) w_569 w_549 w_548 w_88 dX2_goBack_43 ((mj_up_ne (Ne.symm (mj_neOA Ha Hi))).trans Hi) ((mj_up_ne (Ne.symm (mj_neOA Ha S.2.2.1))).trans S.2.2.1) (by decide) (by decide) (by omega) (by omega) rfl rfl ?_
  refine gj_aload_n dX2_goBack_46 rfl ?_
  refine gfX2_15 rfl dX2_goBack_47 ((mj_up_ne (mj_neOA Ha S.2.2.1)).trans (mj_up_eq _ _ _)) rfl ?_
  refine gj_aload_n dX2_goBack_50 rfl ?_
  refine gfX2_18 rfl dX2_goBack_51 ((mj_up_ne (mj_neOA Ha S.2.2.1)).trans (mj_up_eq _ _ _)) rfl ?_
  refine gj_ialdN dX2_goBack_54 ((mj_up_ne hj2).trans ((mj_up_ne (Ne.symm (mj_neOA Ha Hd))).trans Hd)) (by omega) (by omega) ?_
  exact gj_ir rfl dX2_goBack_55 rfl rfl rfl
