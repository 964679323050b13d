def sp_xk (B : Nat → Nat) (n s e : Nat) : Nat := if n ≤ s then 0 else if 97 ≤ B s ∧ B s ≤ 122 then 1 else if 48 ≤ B s ∧ B s ≤ 57 then (if 2 < e - s then 4 else 2) else if B s = 59 then 3 else 4
def sp_xv (B : Nat → Nat) (n s e : Nat) : Nat := if n ≤ s then 0 else if 97 ≤ B s ∧ B s ≤ 122 then 0 else if 48 ≤ B s ∧ B s ≤ 57 then (if e - s = 1 then B s - 48 else 10 * (B s - 48) + (B (s + 1) - 48)) else 0
def sp_xkt (B : Nat → Nat) (n t : Nat) : Nat := sp_xk B n (sp_ss B n t) (sp_ps B n (t + 1))
def sp_xvt (B : Nat → Nat) (n t : Nat) : Nat := sp_xv B n (sp_ss B n t) (sp_ps B n (t + 1))
theorem sp_eb_w {B : Nat → Nat} {n s : Nat} (h : s < n) (h1 : 97 ≤ B s ∧ B s ≤ 122) : sp_eb B n s = sp_er B n 97 122 s := by
  have e : sp_ba B n s = B s := if_pos h
  unfold sp_eb; rw [e, if_pos h1]
theorem sp_eb_n {B : Nat → Nat} {n s : Nat} (h : s < n) (h2 : 48 ≤ B s ∧ B s ≤ 57) : sp_eb B n s = sp_er B n 48 57 s := by
  have e : sp_ba B n s = B s := if_pos h
  unfold sp_eb; rw [e, if_neg (by omega), if_pos h2]
theorem sp_eb_o {B : Nat → Nat} {n s : Nat} (h : s < n) (h1 : ¬ (97 ≤ B s ∧ B s ≤ 122)) (h2 : ¬ (48 ≤ B s ∧ B s ≤ 57)) : sp_eb B n s = s + 1 := by
  have e : sp_ba B n s = B s := if_pos h
  unfold sp_eb; rw [e, if_neg h1, if_neg h2]; omega
theorem sp_eb_e {B : Nat → Nat} {n s : Nat} (h : n ≤ s) (h2 : s ≤ n) : sp_eb B n s = s := by
  have e : sp_ba B n s = 4294967295 := if_neg (by omega)
  unfold sp_eb; rw [e, if_neg (by omega), if_neg (by omega)]; omega
theorem ev_X11_in_w {E : mj_E} {h : mj_H} {x lo hi : Nat} (hx : x < 2 ^ 31) (h1 : lo < 2 ^ 31) (h3 : hi < 2 ^ 31) : mj_Ev E iX11_in [.long (lN x), .long (lN lo), .long (lN hi)] h (mj_R (some (.int (mj_b (decide (lo ≤ x ∧ x ≤ hi))))) h) := by
  have := ev_X11_in (E := E) (h := h) (x := lN x) (lo := lN lo) (hi := lN hi)
  rwa [show decide (lN lo ≤ lN x ∧ lN x ≤ lN hi) = decide (lo ≤ x ∧ x ≤ hi) from decide_eq_decide.mpr (by rw [lN_le (by omega) (by omega), lN_le (by omega) (by omega)])] at this
/-- a run that goes on behind its first byte -/
theorem sp_er_at {B : Nat → Nat} {n lo hi s j : Nat} (h : s < n) (h0 : lo ≤ B s ∧ B s ≤ hi) (hq : ∀ i, i < j → sp_erp B lo hi s (1 + i) = false) (hj : 1 + j ≤ n - s) (hp : 1 + j < n - s → sp_erp B lo hi s (1 + j) = true) : sp_er B n lo hi s = s + (1 + j) := by
  unfold sp_er
  have hall : ∀ i, i < 1 + j → sp_erp B lo hi s i = false := by
    intro i hi
    cases i with
    | zero => unfold sp_erp; rw [Nat.add_zero, decide_eq_true h0]; rfl
    | succ i => have := hq i (by omega); rwa [Nat.add_comm] at this
  rcases Nat.lt_or_eq_of_le hj with q | q
  · rw [sp_fst_at q (hp q) hall]
  · rw [← q, sp_fst_none hall]
set_option maxHeartbeats 1000000 in
set_option maxRecDepth 10000 in
theorem ev_X11_isSmall {E : mj_E} {h : mj_H} {x : Nat} (hx : x < 2 ^ 31) : mj_Ev E iX11_isSmall [.int (nI x)] h (mj_R (some (.int (mj_b (decide (97 ≤ x ∧ x ≤ 122))))) h) := by
  refine mj_Ev.of (L0 := [some (.int (nI x))]) pnRX11 (Nat.le_of_ble_eq_true rfl) rfl ?_
  refine gj_iload_n dX11_isSmall_0 rfl ?_
  refine gj_i2lN (by omega) dX11_isSmall_1 ?_
  refine gj_ldc2 (v := lN 97) w_1368 dX11_isSmall_2 ?_
  refine gj_ldc2 (v := lN 122) w_1369 dX11_isSmall_5 ?_
  refine gj_S1 lkX11_50 (ev_X11_in_w hx (by decide) (by decide)) dX11_isSmall_8 rfl rfl rfl rfl rfl ?_
  exact gj_zr rfl dX11_isSmall_11 rfl rfl rfl
set_option maxHeartbeats 1000000 in
set_option maxRecDepth 10000 in
theorem ev_X11_isFigure {E : mj_E} {h : mj_H} {x : Nat} (hx : x < 2 ^ 31) : mj_Ev E iX11_isFigure [.int (nI x)] h (mj_R (some (.int (mj_b (decide (48 ≤ x ∧ x ≤ 57))))) h) := by
  refine mj_Ev.of (L0 := [some (.int (nI x))]) pnRX11 (Nat.le_of_ble_eq_true rfl) rfl ?_
  refine gj_iload_n dX11_isFigure_0 rfl ?_
  refine gj_i2lN (by omega) dX11_isFigure_1 ?_
  refine gj_ldc2 (v := lN 48) w_1373 dX11_isFigure_2 ?_
  refine gj_ldc2 (v := lN 57) w_1374 dX11_isFigure_5 ?_
  refine gj_S1 lkX11_50 (ev_X11_in_w hx (by decide) (by decide)) dX11_isFigure_8 rfl rfl rfl rfl rfl ?_
  exact gj_zr rfl dX11_isFigure_11 rfl rfl rfl
set_option maxHeartbeats 1000000 in
set_option maxRecDepth 10000 in
theorem ev_X11_lookAt_end {E : mj_E} {h : mj_H} {a0 a1 y2 y3 y4 y5 y6 : Nat} (H0 : h 100 = some (mj_mo a0 a1 y2 y3 y4 y5 y6)) {B : Nat → Nat} (HB : h 107 = some (mj_ar 150 B)) {p : Nat} (h0 : ∀ c, B c ≤ 127) (h1 : y2 ≤ 150) (h2 : p ≤ y2) (h3 : y2 ≤ sp_er B y2 32 32 p) : mj_Ev E iX11_lookAt [.ref 100, .int (nI p)] h (mj_R none (mj_up h 100 (mj_mo a0 a1 y2 (sp_er B y2 32 32 p) (sp_eb B y2 (sp_er B y2 32 32 p) - (sp_er B y2 32 32 p)) (sp_xk B y2 (sp_er B y2 32 32 p) (sp_eb B y2 (sp_er B y2 32 32 p))) (sp_xv B y2 (sp_er B y2 32 32 p) (sp_eb B y2 (sp_er B y2 32 32 p)))))) := by
  have hB := h0
  have hsl := @sp_er_le B y2 32 32 p h2
  have hbs := hB (sp_er B y2 32 32 p)
  refine mj_Ev.of (L0 := [some (.ref 100), some (.int (nI p)), none, none, none]) pnRX11 (Nat.le_of_ble_eq_true rfl) rfl ?_
  refine gj_cut 43 [some (.ref 100), some (.int (nI p)), none, none, none] [] (mj_up h 100 (.inr (9, [.ref 101, .ref 102, .ref 103, .ref 104, .long (lN a0), .long (lN a1), .ref 105, .ref 106, .ref 107, .int (nI y2), .int (nI (sp_er B y2 32 32 p)), .int (nI y4), .int (nI y5), .int (nI y6), .ref 108, .ref 109]))) ?_ (fun jn43 => ?_)
  · -- behind 43
    refine gj_aload_n dX11_lookAt_43 rfl ?_
    refine gj_ic (w := 0) dX11_lookAt_44 ?_
    refine pfX11_245 rfl dX11_lookAt_45 (mj_up_eq _ _ _) (Nat.le_of_ble_eq_true rfl) ?_
    refine gj_cast (h' := mj_up h 100 (.inr (9, [.ref 101, .ref 102, .ref 103, .ref 104, .long (lN a0), .long (lN a1), .ref 105, .ref 106, .ref 107, .int (nI y2), .int (nI (sp_er B y2 32 32 p)), .int (nI 0), .int (nI y5), .int (nI y6), .ref 108, .ref 109]))) rfl rfl (by funext x; unfold mj_up; (repeat' split) <;> first | rfl | omega) ?_
    refine gj_aload_n dX11_lookAt_48 rfl ?_
    refine gj_ic (w := 0) dX11_lookAt_49 ?_
    refine pfX11_248 rfl dX11_lookAt_50 (mj_up_eq _ _ _) (Nat.le_of_ble_eq_true rfl) ?_
    refine gj_cast (h' := mj_up h 100 (.inr (9, [.ref 101, .ref 102, .ref 103, .ref 104, .long (lN a0), .long (lN a1), .ref 105, .ref 106, .ref 107, .int (nI y2), .int (nI (sp_er B y2 32 32 p)), .int (nI 0), .int (nI 0), .int (nI y6), .ref 108, .ref 109]))) rfl rfl (by funext x; unfold mj_up; (repeat' split) <;> first | rfl | omega) ?_
    refine gj_aload_n dX11_lookAt_53 rfl ?_
    refine gj_ic (w := 0) dX11_lookAt_54 ?_
    refine pfX11_251 rfl dX11_lookAt_55 (mj_up_eq _ _ _) (Nat.le_of_ble_eq_true rfl) ?_
    refine gj_cast (h' := mj_up h 100 (.inr (9, [.ref 101, .ref 102, .ref 103, .ref 104, .long (lN a0), .long (lN a1), .ref 105, .ref 106, .ref 107, .int (nI y2), .int (nI (sp_er B y2 32 32 p)), .int (nI 0), .int (nI 0), .int (nI 0), .ref 108, .ref 109]))) rfl rfl (by funext x; unfold mj_up; (repeat' split) <;> first | rfl | omega) ?_
    refine gj_aload_n dX11_lookAt_58 rfl ?_
    refine gfX11_242 rfl dX11_lookAt_59 (mj_up_eq _ _ _) rfl ?_
    refine gj_aload_n dX11_lookAt_62 rfl ?_
    refine gfX11_230 rfl dX11_lookAt_63 (mj_up_eq _ _ _) rfl ?_
    refine gj_icmp_neN (tgt := 70) (by omega) (by omega) dX11_lookAt_66 rfl (fun zq1 => ?_) (fun zq1 => ?_)
    · exfalso; omega
    exact gj_vr rfl dX11_lookAt_69 (by rw [sp_eb_e (s := sp_er B y2 32 32 p) h3 hsl]; unfold sp_xk sp_xv; rw [if_pos h3, if_pos h3, Nat.sub_self]; rfl)
  refine gj_aload_n dX11_lookAt_0 rfl ?_
  refine gj_iload_n dX11_lookAt_1 rfl ?_
  refine pfX11_242 rfl dX11_lookAt_2 H0 (Nat.le_of_ble_eq_true rfl) ?_
  show gj _ _ _ _ _ _ _ _ (mj_up h 100 (.inr (9, [.ref 101, .ref 102, .ref 103, .ref 104, .long (lN a0), .long (lN a1), .ref 105, .ref 106, .ref 107, .int (nI y2), .int (nI p), .int (nI y4), .int (nI y5), .int (nI y6), .ref 108, .ref 109])))
  refine gj_cast (L' := [some (.ref 100), some (.int (nI p)), none, none, none]) (st' := []) (h' := mj_up h 100 (.inr (9, [.ref 101, .ref 102, .ref 103, .ref 104, .long (lN a0), .long (lN a1), .ref 105, .ref 106, .ref 107, .int (nI y2), .int (nI (p + 0)), .int (nI y4), .int (nI y5), .int (nI y6), .ref 108, .ref 109]))) rfl rfl rfl ?_
  refine gj_loopI (fun j => ∀ i, i < j → (sp_erp B 32 32 p) i = false) (fun j => [some (.ref 100), some (.int (nI p)), none, none, none]) (fun j => mj_up h 100 (.inr (9, [.ref 101, .ref 102, .ref 103, .ref 104, .long (lN a0), .long (lN a1), .ref 105, .ref 106, .ref 107, .int (nI y2), .int (nI (p + j)), .int (nI y4), .int (nI y5), .int (nI y6), .ref 108, .ref 109]))) (y2 - p) (fun hq => ?_) (fun j hj hq ih => ?_) 0 (Nat.zero_le _) (fun i hi => absurd hi (Nat.not_lt_zero _))
  · show gj _ _ _ _ _ _ [some (.ref 100), some (.int (nI p)), none, none, none] _ _
    refine gj_aload_n dX11_lookAt_5 rfl ?_
    refine gfX11_242 rfl dX11_lookAt_6 (mj_up_eq _ _ _) rfl ?_
    refine gj_aload_n dX11_lookAt_9 rfl ?_
    refine gfX11_230 rfl dX11_lookAt_10 (mj_up_eq _ _ _) rfl ?_
    refine gj_icmp_geN (tgt := 43) (by omega) (by omega) dX11_lookAt_13 rfl (fun zq2 => ?_) (fun zq2 => ?_)
    rotate_left
    · exfalso; omega
    have hs9 : sp_er B y2 32 32 p = p + (y2 - p) := by unfold sp_er; rw [sp_fst_none hq]
    exact gj_cast rfl rfl (by rw [hs9]) jn43
  show gj _ _ _ _ _ _ [some (.ref 100), some (.int (nI p)), none, none, none] _ _
  refine gj_aload_n dX11_lookAt_5 rfl ?_
  refine gfX11_242 rfl dX11_lookAt_6 (mj_up_eq _ _ _) rfl ?_
  refine gj_aload_n dX11_lookAt_9 rfl ?_
  refine gfX11_230 rfl dX11_lookAt_10 (mj_up_eq _ _ _) rfl ?_
  refine gj_icmp_geN (tgt := 43) (by omega) (by omega) dX11_lookAt_13 rfl (fun zq3 => ?_) (fun zq3 => ?_)
  · exfalso; omega
  refine gj_aload_n dX11_lookAt_16 rfl ?_
  refine gfX11_33 rfl dX11_lookAt_17 (mj_up_eq _ _ _) rfl ?_
  refine gj_aload_n dX11_lookAt_20 rfl ?_
  refine gfX11_242 rfl dX11_lookAt_21 (mj_up_eq _ _ _) rfl ?_
  refine gj_ialdN dX11_lookAt_24 ((mj_up_ne (by decide)).trans HB) (by omega) (by omega) ?_
  have hb8 := hB (p + j)
  refine gj_bp 32 dX11_lookAt_25 (by decide) ?_
  refine gj_icmp_neN (tgt := 43) (by omega) (by omega) dX11_lookAt_27 rfl (fun zq4 => ?_) (fun zq4 => ?_)
  · -- 27 taken
    have hp9 : (sp_erp B 32 32 p) j = true := by unfold sp_erp; rw [decide_eq_false (by omega)]; rfl
    have hs9 : sp_er B y2 32 32 p = p + j := by unfold sp_er; rw [sp_fst_at hj hp9 hq]
    exact gj_cast rfl rfl (by rw [hs9]) jn43
  have hn9 : (sp_erp B 32 32 p) j = false := by unfold sp_erp; rw [decide_eq_true (by omega)]; rfl
  refine gj_aload_n dX11_lookAt_30 rfl ?_
  refine gj_dup dX11_lookAt_31 rfl ?_
  refine gfX11_242 rfl dX11_lookAt_32 (mj_up_eq _ _ _) rfl ?_
  refine gj_ic (w := 1) dX11_lookAt_35 ?_
  refine gj_iaddN  dX11_lookAt_36 ?_
  refine pfX11_242 rfl dX11_lookAt_37 (mj_up_eq _ _ _) (Nat.le_of_ble_eq_true rfl) ?_
  refine gj_cast (h' := mj_up h 100 (.inr (9, [.ref 101, .ref 102, .ref 103, .ref 104, .long (lN a0), .long (lN a1), .ref 105, .ref 106, .ref 107, .int (nI y2), .int (nI ((p + j) + 1)), .int (nI y4), .int (nI y5), .int (nI y6), .ref 108, .ref 109]))) rfl rfl (by funext x; unfold mj_up; (repeat' split) <;> first | rfl | omega) ?_
  refine gj_goto (tgt := 5) dX11_lookAt_40 rfl ?_
  exact gj_cast rfl rfl (by rw [Nat.add_assoc]) (ih (fun i hi => by by_cases q : i = j <;> first | (subst q; exact hn9) | exact hq i (by omega)))
set_option maxHeartbeats 1000000 in
set_option maxRecDepth 10000 in
theorem ev_X11_lookAt_stop {E : mj_E} {h : mj_H} {a0 a1 y2 y3 y4 y5 y6 : Nat} (H0 : h 100 = some (mj_mo a0 a1 y2 y3 y4 y5 y6)) {B : Nat → Nat} (HB : h 107 = some (mj_ar 150 B)) {p : Nat} (h0 : ∀ c, B c ≤ 127) (h1 : y2 ≤ 150) (h2 : p ≤ y2) (h3 : sp_er B y2 32 32 p < y2) (h4 : ¬ (97 ≤ B (sp_er B y2 32 32 p) ∧ B (sp_er B y2 32 32 p) ≤ 122)) (h5 : ¬ (48 ≤ B (sp_er B y2 32 32 p) ∧ B (sp_er B y2 32 32 p) ≤ 57)) (h6 : B (sp_er B y2 32 32 p) = 59) : mj_Ev E iX11_lookAt [.ref 100, .int (nI p)] h (mj_R none (mj_up h 100 (mj_mo a0 a1 y2 (sp_er B y2 32 32 p) (sp_eb B y2 (sp_er B y2 32 32 p) - (sp_er B y2 32 32 p)) (sp_xk B y2 (sp_er B y2 32 32 p) (sp_eb B y2 (sp_er B y2 32 32 p))) (sp_xv B y2 (sp_er B y2 32 32 p) (sp_eb B y2 (sp_er B y2 32 32 p)))))) := by
  have hB := h0
  have hsl := @sp_er_le B y2 32 32 p h2
  have hbs := hB (sp_er B y2 32 32 p)
  refine mj_Ev.of (L0 := [some (.ref 100), some (.int (nI p)), none, none, none]) pnRX11 (Nat.le_of_ble_eq_true rfl) rfl ?_
  refine gj_cut 43 [some (.ref 100), some (.int (nI p)), none, none, none] [] (mj_up h 100 (.inr (9, [.ref 101, .ref 102, .ref 103, .ref 104, .long (lN a0), .long (lN a1), .ref 105, .ref 106, .ref 107, .int (nI y2), .int (nI (sp_er B y2 32 32 p)), .int (nI y4), .int (nI y5), .int (nI y6), .ref 108, .ref 109]))) ?_ (fun jn43 => ?_)
  · -- behind 43
    refine gj_aload_n dX11_lookAt_43 rfl ?_
    refine gj_ic (w := 0) dX11_lookAt_44 ?_
    refine pfX11_245 rfl dX11_lookAt_45 (mj_up_eq _ _ _) (Nat.le_of_ble_eq_true rfl) ?_
    refine gj_cast (h' := mj_up h 100 (.inr (9, [.ref 101, .ref 102, .ref 103, .ref 104, .long (lN a0), .long (lN a1), .ref 105, .ref 106, .ref 107, .int (nI y2), .int (nI (sp_er B y2 32 32 p)), .int (nI 0), .int (nI y5), .int (nI y6), .ref 108, .ref 109]))) rfl rfl (by funext x; unfold mj_up; (repeat' split) <;> first | rfl | omega) ?_
    refine gj_aload_n dX11_lookAt_48 rfl ?_
    refine gj_ic (w := 0) dX11_lookAt_49 ?_
    refine pfX11_248 rfl dX11_lookAt_50 (mj_up_eq _ _ _) (Nat.le_of_ble_eq_true rfl) ?_
    refine gj_cast (h' := mj_up h 100 (.inr (9, [.ref 101, .ref 102, .ref 103, .ref 104, .long (lN a0), .long (lN a1), .ref 105, .ref 106, .ref 107, .int (nI y2), .int (nI (sp_er B y2 32 32 p)), .int (nI 0), .int (nI 0), .int (nI y6), .ref 108, .ref 109]))) rfl rfl (by funext x; unfold mj_up; (repeat' split) <;> first | rfl | omega) ?_
    refine gj_aload_n dX11_lookAt_53 rfl ?_
    refine gj_ic (w := 0) dX11_lookAt_54 ?_
    refine pfX11_251 rfl dX11_lookAt_55 (mj_up_eq _ _ _) (Nat.le_of_ble_eq_true rfl) ?_
    refine gj_cast (h' := mj_up h 100 (.inr (9, [.ref 101, .ref 102, .ref 103, .ref 104, .long (lN a0), .long (lN a1), .ref 105, .ref 106, .ref 107, .int (nI y2), .int (nI (sp_er B y2 32 32 p)), .int (nI 0), .int (nI 0), .int (nI 0), .ref 108, .ref 109]))) rfl rfl (by funext x; unfold mj_up; (repeat' split) <;> first | rfl | omega) ?_
    refine gj_aload_n dX11_lookAt_58 rfl ?_
    refine gfX11_242 rfl dX11_lookAt_59 (mj_up_eq _ _ _) rfl ?_
    refine gj_aload_n dX11_lookAt_62 rfl ?_
    refine gfX11_230 rfl dX11_lookAt_63 (mj_up_eq _ _ _) rfl ?_
    refine gj_icmp_neN (tgt := 70) (by omega) (by omega) dX11_lookAt_66 rfl (fun zq1 => ?_) (fun zq1 => ?_)
    rotate_left
    · exfalso; omega
    refine gj_aload_n dX11_lookAt_70 rfl ?_
    refine gfX11_33 rfl dX11_lookAt_71 (mj_up_eq _ _ _) rfl ?_
    refine gj_aload_n dX11_lookAt_74 rfl ?_
    refine gfX11_242 rfl dX11_lookAt_75 (mj_up_eq _ _ _) rfl ?_
    refine gj_ialdN dX11_lookAt_78 ((mj_up_ne (by decide)).trans HB) (by omega) (by omega) ?_
    refine gj_istore_n (L' := [some (.ref 100), some (.int (nI p)), some (.int (nI (B (sp_er B y2 32 32 p)))), none, none]) dX11_lookAt_79 (Nat.le_of_ble_eq_true rfl) rfl ?_
    refine gj_aload_n dX11_lookAt_80 rfl ?_
    refine gj_iload_n dX11_lookAt_81 rfl ?_
    refine gj_S1 lkX11_254 (ev_X11_isSmall (by omega)) dX11_lookAt_82 rfl rfl rfl rfl rfl ?_
    refine gj_if_eqb (tgt := 92) dX11_lookAt_85 rfl (fun zq2 => ?_) (fun zq2 => ?_)
    rotate_left
    · exfalso; first | exact absurd (of_decide_eq_true zq2) h4 | exact absurd zq2 (by rw [decide_eq_true h4]; decide)
    refine gj_iload_n dX11_lookAt_92 rfl ?_
    refine gj_S1 lkX11_257 (ev_X11_isFigure (by omega)) dX11_lookAt_93 rfl rfl rfl rfl rfl ?_
    refine gj_if_eqb (tgt := 103) dX11_lookAt_96 rfl (fun zq3 => ?_) (fun zq3 => ?_)
    rotate_left
    · exfalso; first | exact absurd (of_decide_eq_true zq3) h5 | exact absurd zq3 (by rw [decide_eq_true h5]; decide)
    refine gj_iload_n dX11_lookAt_103 rfl ?_
    refine gj_bp 59 dX11_lookAt_104 (by decide) ?_
    refine gj_icmp_neN (tgt := 113) (by omega) (by omega) dX11_lookAt_106 rfl (fun zq4 => ?_) (fun zq4 => ?_)
    · exfalso; omega
    refine gj_ic (w := 3) dX11_lookAt_109 ?_
    refine gj_goto (tgt := 114) dX11_lookAt_110 rfl ?_
    refine pfX11_248 rfl dX11_lookAt_114 (mj_up_eq _ _ _) (Nat.le_of_ble_eq_true rfl) ?_
    refine gj_cast (h' := mj_up h 100 (.inr (9, [.ref 101, .ref 102, .ref 103, .ref 104, .long (lN a0), .long (lN a1), .ref 105, .ref 106, .ref 107, .int (nI y2), .int (nI (sp_er B y2 32 32 p)), .int (nI 0), .int (nI 3), .int (nI 0), .ref 108, .ref 109]))) rfl rfl (by funext x; unfold mj_up; (repeat' split) <;> first | rfl | omega) ?_
    refine gj_aload_n dX11_lookAt_117 rfl ?_
    refine gj_ic (w := 1) dX11_lookAt_118 ?_
    refine pfX11_245 rfl dX11_lookAt_119 (mj_up_eq _ _ _) (Nat.le_of_ble_eq_true rfl) ?_
    refine gj_cast (h' := mj_up h 100 (.inr (9, [.ref 101, .ref 102, .ref 103, .ref 104, .long (lN a0), .long (lN a1), .ref 105, .ref 106, .ref 107, .int (nI y2), .int (nI (sp_er B y2 32 32 p)), .int (nI 1), .int (nI 3), .int (nI 0), .ref 108, .ref 109]))) rfl rfl (by funext x; unfold mj_up; (repeat' split) <;> first | rfl | omega) ?_
    refine gj_aload_n dX11_lookAt_122 rfl ?_
    refine gfX11_248 rfl dX11_lookAt_123 (mj_up_eq _ _ _) rfl ?_
    refine gj_ic (w := 3) dX11_lookAt_126 ?_
    refine gj_icmp_geN (tgt := 134) (by omega) (by omega) dX11_lookAt_127 rfl (fun zq0 => ?_) (fun zq0 => ?_)
    rotate_left
    · exfalso; omega
    refine gj_ic (w := 0) dX11_lookAt_134 ?_
    refine gj_istore_n (L' := [some (.ref 100), some (.int (nI p)), some (.int (nI (B (sp_er B y2 32 32 p)))), some (.int (nI 0)), none]) dX11_lookAt_135 (Nat.le_of_ble_eq_true rfl) rfl ?_
    refine gj_iload_n dX11_lookAt_136 rfl ?_
    refine gj_if_eqN (tgt := 215) (by omega) dX11_lookAt_137 rfl (fun zq0 => ?_) (fun zq0 => ?_)
    rotate_left
    · exfalso; revert zq0; decide
    refine gj_ic (w := 0) dX11_lookAt_215 ?_
    refine gj_istore (L' := [some (.ref 100), some (.int (nI p)), some (.int (nI (B (sp_er B y2 32 32 p)))), some (.int (nI 0)), some (.int (nI 0))]) dX11_lookAt_216 (Nat.le_of_ble_eq_true rfl) rfl ?_
    refine gj_iload dX11_lookAt_218 rfl ?_
    refine gj_aload_n dX11_lookAt_220 rfl ?_
    refine gfX11_245 rfl dX11_lookAt_221 (mj_up_eq _ _ _) rfl ?_
    refine gj_icmp_geN (tgt := 274) (by omega) (by omega) dX11_lookAt_224 rfl (fun zq0 => ?_) (fun zq0 => ?_)
    · exfalso; omega
    refine gj_iload dX11_lookAt_227 rfl ?_
    refine gj_ic (w := 2) dX11_lookAt_229 ?_
    refine gj_icmp_geN (tgt := 274) (by omega) (by omega) dX11_lookAt_230 rfl (fun zq0 => ?_) (fun zq0 => ?_)
    · exfalso; omega
    refine gj_aload_n dX11_lookAt_233 rfl ?_
    refine gfX11_248 rfl dX11_lookAt_234 (mj_up_eq _ _ _) rfl ?_
    refine gj_ic (w := 2) dX11_lookAt_237 ?_
    refine gj_icmp_neN (tgt := 274) (by omega) (by omega) dX11_lookAt_238 rfl (fun zq0 => ?_) (fun zq0 => ?_)
    rotate_left
    · exfalso; omega
    refine gj_aload_n dX11_lookAt_274 rfl ?_
    refine gj_aload_n dX11_lookAt_275 rfl ?_
    refine gfX11_248 rfl dX11_lookAt_276 (mj_up_eq _ _ _) rfl ?_
    refine gj_ic (w := 2) dX11_lookAt_279 ?_
    refine gj_icmp_neN (tgt := 295) (by omega) (by omega) dX11_lookAt_280 rfl (fun zq0 => ?_) (fun zq0 => ?_)
    rotate_left
    · exfalso; omega
    refine gj_aload_n dX11_lookAt_295 rfl ?_
    refine gfX11_248 rfl dX11_lookAt_296 (mj_up_eq _ _ _) rfl ?_
    refine pfX11_248 rfl dX11_lookAt_299 (mj_up_eq _ _ _) (Nat.le_of_ble_eq_true rfl) ?_
    refine gj_cast (h' := mj_up h 100 (.inr (9, [.ref 101, .ref 102, .ref 103, .ref 104, .long (lN a0), .long (lN a1), .ref 105, .ref 106, .ref 107, .int (nI y2), .int (nI (sp_er B y2 32 32 p)), .int (nI 1), .int (nI 3), .int (nI 0), .ref 108, .ref 109]))) rfl rfl (by funext x; unfold mj_up; (repeat' split) <;> first | rfl | omega) ?_
    exact gj_vr rfl dX11_lookAt_302 (by rw [sp_eb_o (s := sp_er B y2 32 32 p) h3 h4 h5]; unfold sp_xk sp_xv; rw [if_neg (Nat.not_le.mpr h3), if_neg (Nat.not_le.mpr h3), if_neg h4, if_neg h4, if_neg h5, if_neg h5, if_pos h6, show (sp_er B y2 32 32 p) + 1 - (sp_er B y2 32 32 p) = 1 by omega]; rfl)
  refine gj_aload_n dX11_lookAt_0 rfl ?_
  refine gj_iload_n dX11_lookAt_1 rfl ?_
  refine pfX11_242 rfl dX11_lookAt_2 H0 (Nat.le_of_ble_eq_true rfl) ?_
  show gj _ _ _ _ _ _ _ _ (mj_up h 100 (.inr (9, [.ref 101, .ref 102, .ref 103, .ref 104, .long (lN a0), .long (lN a1), .ref 105, .ref 106, .ref 107, .int (nI y2), .int (nI p), .int (nI y4), .int (nI y5), .int (nI y6), .ref 108, .ref 109])))
  refine gj_cast (L' := [some (.ref 100), some (.int (nI p)), none, none, none]) (st' := []) (h' := mj_up h 100 (.inr (9, [.ref 101, .ref 102, .ref 103, .ref 104, .long (lN a0), .long (lN a1), .ref 105, .ref 106, .ref 107, .int (nI y2), .int (nI (p + 0)), .int (nI y4), .int (nI y5), .int (nI y6), .ref 108, .ref 109]))) rfl rfl rfl ?_
  refine gj_loopI (fun j => ∀ i, i < j → (sp_erp B 32 32 p) i = false) (fun j => [some (.ref 100), some (.int (nI p)), none, none, none]) (fun j => mj_up h 100 (.inr (9, [.ref 101, .ref 102, .ref 103, .ref 104, .long (lN a0), .long (lN a1), .ref 105, .ref 106, .ref 107, .int (nI y2), .int (nI (p + j)), .int (nI y4), .int (nI y5), .int (nI y6), .ref 108, .ref 109]))) (y2 - p) (fun hq => ?_) (fun j hj hq ih => ?_) 0 (Nat.zero_le _) (fun i hi => absurd hi (Nat.not_lt_zero _))
  · show gj _ _ _ _ _ _ [some (.ref 100), some (.int (nI p)), none, none, none] _ _
    refine gj_aload_n dX11_lookAt_5 rfl ?_
    refine gfX11_242 rfl dX11_lookAt_6 (mj_up_eq _ _ _) rfl ?_
    refine gj_aload_n dX11_lookAt_9 rfl ?_
    refine gfX11_230 rfl dX11_lookAt_10 (mj_up_eq _ _ _) rfl ?_
    refine gj_icmp_geN (tgt := 43) (by omega) (by omega) dX11_lookAt_13 rfl (fun zq5 => ?_) (fun zq5 => ?_)
    rotate_left
    · exfalso; omega
    have hs9 : sp_er B y2 32 32 p = p + (y2 - p) := by unfold sp_er; rw [sp_fst_none hq]
    exact gj_cast rfl rfl (by rw [hs9]) jn43
  show gj _ _ _ _ _ _ [some (.ref 100), some (.int (nI p)), none, none, none] _ _
  refine gj_aload_n dX11_lookAt_5 rfl ?_
  refine gfX11_242 rfl dX11_lookAt_6 (mj_up_eq _ _ _) rfl ?_
  refine gj_aload_n dX11_lookAt_9 rfl ?_
  refine gfX11_230 rfl dX11_lookAt_10 (mj_up_eq _ _ _) rfl ?_
  refine gj_icmp_geN (tgt := 43) (by omega) (by omega) dX11_lookAt_13 rfl (fun zq6 => ?_) (fun zq6 => ?_)
  · exfalso; omega
  refine gj_aload_n dX11_lookAt_16 rfl ?_
  refine gfX11_33 rfl dX11_lookAt_17 (mj_up_eq _ _ _) rfl ?_
  refine gj_aload_n dX11_lookAt_20 rfl ?_
  refine gfX11_242 rfl dX11_lookAt_21 (mj_up_eq _ _ _) rfl ?_
  refine gj_ialdN dX11_lookAt_24 ((mj_up_ne (by decide)).trans HB) (by omega) (by omega) ?_
  have hb8 := hB (p + j)
  refine gj_bp 32 dX11_lookAt_25 (by decide) ?_
  refine gj_icmp_neN (tgt := 43) (by omega) (by omega) dX11_lookAt_27 rfl (fun zq7 => ?_) (fun zq7 => ?_)
  · -- 27 taken
    have hp9 : (sp_erp B 32 32 p) j = true := by unfold sp_erp; rw [decide_eq_false (by omega)]; rfl
    have hs9 : sp_er B y2 32 32 p = p + j := by unfold sp_er; rw [sp_fst_at hj hp9 hq]
    exact gj_cast rfl rfl (by rw [hs9]) jn43
  have hn9 : (sp_erp B 32 32 p) j = false := by unfold sp_erp; rw [decide_eq_true (by omega)]; rfl
  refine gj_aload_n dX11_lookAt_30 rfl ?_
  refine gj_dup dX11_lookAt_31 rfl ?_
  refine gfX11_242 rfl dX11_lookAt_32 (mj_up_eq _ _ _) rfl ?_
  refine gj_ic (w := 1) dX11_lookAt_35 ?_
  refine gj_iaddN  dX11_lookAt_36 ?_
  refine pfX11_242 rfl dX11_lookAt_37 (mj_up_eq _ _ _) (Nat.le_of_ble_eq_true rfl) ?_
  refine gj_cast (h' := mj_up h 100 (.inr (9, [.ref 101, .ref 102, .ref 103, .ref 104, .long (lN a0), .long (lN a1), .ref 105, .ref 106, .ref 107, .int (nI y2), .int (nI ((p + j) + 1)), .int (nI y4), .int (nI y5), .int (nI y6), .ref 108, .ref 109]))) rfl rfl (by funext x; unfold mj_up; (repeat' split) <;> first | rfl | omega) ?_
  refine gj_goto (tgt := 5) dX11_lookAt_40 rfl ?_
  exact gj_cast rfl rfl (by rw [Nat.add_assoc]) (ih (fun i hi => by by_cases q : i = j <;> first | (subst q; exact hn9) | exact hq i (by omega)))
set_option maxHeartbeats 1000000 in
set_option maxRecDepth 10000 in
theorem ev_X11_lookAt_x {E : mj_E} {h : mj_H} {a0 a1 y2 y3 y4 y5 y6 : Nat} (H0 : h 100 = some (mj_mo a0 a1 y2 y3 y4 y5 y6)) {B : Nat → Nat} (HB : h 107 = some (mj_ar 150 B)) {p : Nat} (h0 : ∀ c, B c ≤ 127) (h1 : y2 ≤ 150) (h2 : p ≤ y2) (h3 : sp_er B y2 32 32 p < y2) (h4 : ¬ (97 ≤ B (sp_er B y2 32 32 p) ∧ B (sp_er B y2 32 32 p) ≤ 122)) (h5 : ¬ (48 ≤ B (sp_er B y2 32 32 p) ∧ B (sp_er B y2 32 32 p) ≤ 57)) (h6 : ¬ B (sp_er B y2 32 32 p) = 59) : mj_Ev E iX11_lookAt [.ref 100, .int (nI p)] h (mj_R none (mj_up h 100 (mj_mo a0 a1 y2 (sp_er B y2 32 32 p) (sp_eb B y2 (sp_er B y2 32 32 p) - (sp_er B y2 32 32 p)) (sp_xk B y2 (sp_er B y2 32 32 p) (sp_eb B y2 (sp_er B y2 32 32 p))) (sp_xv B y2 (sp_er B y2 32 32 p) (sp_eb B y2 (sp_er B y2 32 32 p)))))) := by
  have hB := h0
  have hsl := @sp_er_le B y2 32 32 p h2
  have hbs := hB (sp_er B y2 32 32 p)
  refine mj_Ev.of (L0 := [some (.ref 100), some (.int (nI p)), none, none, none]) pnRX11 (Nat.le_of_ble_eq_true rfl) rfl ?_
  refine gj_cut 43 [some (.ref 100), some (.int (nI p)), none, none, none] [] (mj_up h 100 (.inr (9, [.ref 101, .ref 102, .ref 103, .ref 104, .long (lN a0), .long (lN a1), .ref 105, .ref 106, .ref 107, .int (nI y2), .int (nI (sp_er B y2 32 32 p)), .int (nI y4), .int (nI y5), .int (nI y6), .ref 108, .ref 109]))) ?_ (fun jn43 => ?_)
  · -- behind 43
    refine gj_aload_n dX11_lookAt_43 rfl ?_
    refine gj_ic (w := 0) dX11_lookAt_44 ?_
    refine pfX11_245 rfl dX11_lookAt_45 (mj_up_eq _ _ _) (Nat.le_of_ble_eq_true rfl) ?_
    refine gj_cast (h' := mj_up h 100 (.inr (9, [.ref 101, .ref 102, .ref 103, .ref 104, .long (lN a0), .long (lN a1), .ref 105, .ref 106, .ref 107, .int (nI y2), .int (nI (sp_er B y2 32 32 p)), .int (nI 0), .int (nI y5), .int (nI y6), .ref 108, .ref 109]))) rfl rfl (by funext x; unfold mj_up; (repeat' split) <;> first | rfl | omega) ?_
    refine gj_aload_n dX11_lookAt_48 rfl ?_
    refine gj_ic (w := 0) dX11_lookAt_49 ?_
    refine pfX11_248 rfl dX11_lookAt_50 (mj_up_eq _ _ _) (Nat.le_of_ble_eq_true rfl) ?_
    refine gj_cast (h' := mj_up h 100 (.inr (9, [.ref 101, .ref 102, .ref 103, .ref 104, .long (lN a0), .long (lN a1), .ref 105, .ref 106, .ref 107, .int (nI y2), .int (nI (sp_er B y2 32 32 p)), .int (nI 0), .int (nI 0), .int (nI y6), .ref 108, .ref 109]))) rfl rfl (by funext x; unfold mj_up; (repeat' split) <;> first | rfl | omega) ?_
    refine gj_aload_n dX11_lookAt_53 rfl ?_
    refine gj_ic (w := 0) dX11_lookAt_54 ?_
    refine pfX11_251 rfl dX11_lookAt_55 (mj_up_eq _ _ _) (Nat.le_of_ble_eq_true rfl) ?_
    refine gj_cast (h' := mj_up h 100 (.inr (9, [.ref 101, .ref 102, .ref 103, .ref 104, .long (lN a0), .long (lN a1), .ref 105, .ref 106, .ref 107, .int (nI y2), .int (nI (sp_er B y2 32 32 p)), .int (nI 0), .int (nI 0), .int (nI 0), .ref 108, .ref 109]))) rfl rfl (by funext x; unfold mj_up; (repeat' split) <;> first | rfl | omega) ?_
    refine gj_aload_n dX11_lookAt_58 rfl ?_
    refine gfX11_242 rfl dX11_lookAt_59 (mj_up_eq _ _ _) rfl ?_
    refine gj_aload_n dX11_lookAt_62 rfl ?_
    refine gfX11_230 rfl dX11_lookAt_63 (mj_up_eq _ _ _) rfl ?_
    refine gj_icmp_neN (tgt := 70) (by omega) (by omega) dX11_lookAt_66 rfl (fun zq1 => ?_) (fun zq1 => ?_)
    rotate_left
    · exfalso; omega
    refine gj_aload_n dX11_lookAt_70 rfl ?_
    refine gfX11_33 rfl dX11_lookAt_71 (mj_up_eq _ _ _) rfl ?_
    refine gj_aload_n dX11_lookAt_74 rfl ?_
    refine gfX11_242 rfl dX11_lookAt_75 (mj_up_eq _ _ _) rfl ?_
    refine gj_ialdN dX11_lookAt_78 ((mj_up_ne (by decide)).trans HB) (by omega) (by omega) ?_
    refine gj_istore_n (L' := [some (.ref 100), some (.int (nI p)), some (.int (nI (B (sp_er B y2 32 32 p)))), none, none]) dX11_lookAt_79 (Nat.le_of_ble_eq_true rfl) rfl ?_
    refine gj_aload_n dX11_lookAt_80 rfl ?_
    refine gj_iload_n dX11_lookAt_81 rfl ?_
    refine gj_S1 lkX11_254 (ev_X11_isSmall (by omega)) dX11_lookAt_82 rfl rfl rfl rfl rfl ?_
    refine gj_if_eqb (tgt := 92) dX11_lookAt_85 rfl (fun zq2 => ?_) (fun zq2 => ?_)
    rotate_left
    · exfalso; first | exact absurd (of_decide_eq_true zq2) h4 | exact absurd zq2 (by rw [decide_eq_true h4]; decide)
    refine gj_iload_n dX11_lookAt_92 rfl ?_
    refine gj_S1 lkX11_257 (ev_X11_isFigure (by omega)) dX11_lookAt_93 rfl rfl rfl rfl rfl ?_
    refine gj_if_eqb (tgt := 103) dX11_lookAt_96 rfl (fun zq3 => ?_) (fun zq3 => ?_)
    rotate_left
    · exfalso; first | exact absurd (of_decide_eq_true zq3) h5 | exact absurd zq3 (by rw [decide_eq_true h5]; decide)
    refine gj_iload_n dX11_lookAt_103 rfl ?_
    refine gj_bp 59 dX11_lookAt_104 (by decide) ?_
    refine gj_icmp_neN (tgt := 113) (by omega) (by omega) dX11_lookAt_106 rfl (fun zq4 => ?_) (fun zq4 => ?_)
    rotate_left
    · exfalso; omega
    refine gj_ic (w := 4) dX11_lookAt_113 ?_
    refine pfX11_248 rfl dX11_lookAt_114 (mj_up_eq _ _ _) (Nat.le_of_ble_eq_true rfl) ?_
    refine gj_cast (h' := mj_up h 100 (.inr (9, [.ref 101, .ref 102, .ref 103, .ref 104, .long (lN a0), .long (lN a1), .ref 105, .ref 106, .ref 107, .int (nI y2), .int (nI (sp_er B y2 32 32 p)), .int (nI 0), .int (nI 4), .int (nI 0), .ref 108, .ref 109]))) rfl rfl (by funext x; unfold mj_up; (repeat' split) <;> first | rfl | omega) ?_
    refine gj_aload_n dX11_lookAt_117 rfl ?_
    refine gj_ic (w := 1) dX11_lookAt_118 ?_
    refine pfX11_245 rfl dX11_lookAt_119 (mj_up_eq _ _ _) (Nat.le_of_ble_eq_true rfl) ?_
    refine gj_cast (h' := mj_up h 100 (.inr (9, [.ref 101, .ref 102, .ref 103, .ref 104, .long (lN a0), .long (lN a1), .ref 105, .ref 106, .ref 107, .int (nI y2), .int (nI (sp_er B y2 32 32 p)), .int (nI 1), .int (nI 4), .int (nI 0), .ref 108, .ref 109]))) rfl rfl (by funext x; unfold mj_up; (repeat' split) <;> first | rfl | omega) ?_
    refine gj_aload_n dX11_lookAt_122 rfl ?_
    refine gfX11_248 rfl dX11_lookAt_123 (mj_up_eq _ _ _) rfl ?_
    refine gj_ic (w := 3) dX11_lookAt_126 ?_
    refine gj_icmp_geN (tgt := 134) (by omega) (by omega) dX11_lookAt_127 rfl (fun zq0 => ?_) (fun zq0 => ?_)
    rotate_left
    · exfalso; omega
    refine gj_ic (w := 0) dX11_lookAt_134 ?_
    refine gj_istore_n (L' := [some (.ref 100), some (.int (nI p)), some (.int (nI (B (sp_er B y2 32 32 p)))), some (.int (nI 0)), none]) dX11_lookAt_135 (Nat.le_of_ble_eq_true rfl) rfl ?_
    refine gj_iload_n dX11_lookAt_136 rfl ?_
    refine gj_if_eqN (tgt := 215) (by omega) dX11_lookAt_137 rfl (fun zq0 => ?_) (fun zq0 => ?_)
    rotate_left
    · exfalso; revert zq0; decide
    refine gj_ic (w := 0) dX11_lookAt_215 ?_
    refine gj_istore (L' := [some (.ref 100), some (.int (nI p)), some (.int (nI (B (sp_er B y2 32 32 p)))), some (.int (nI 0)), some (.int (nI 0))]) dX11_lookAt_216 (Nat.le_of_ble_eq_true rfl) rfl ?_
    refine gj_iload dX11_lookAt_218 rfl ?_
    refine gj_aload_n dX11_lookAt_220 rfl ?_
    refine gfX11_245 rfl dX11_lookAt_221 (mj_up_eq _ _ _) rfl ?_
    refine gj_icmp_geN (tgt := 274) (by omega) (by omega) dX11_lookAt_224 rfl (fun zq0 => ?_) (fun zq0 => ?_)
    · exfalso; omega
    refine gj_iload dX11_lookAt_227 rfl ?_
    refine gj_ic (w := 2) dX11_lookAt_229 ?_
    refine gj_icmp_geN (tgt := 274) (by omega) (by omega) dX11_lookAt_230 rfl (fun zq0 => ?_) (fun zq0 => ?_)
    · exfalso; omega
    refine gj_aload_n dX11_lookAt_233 rfl ?_
    refine gfX11_248 rfl dX11_lookAt_234 (mj_up_eq _ _ _) rfl ?_
    refine gj_ic (w := 2) dX11_lookAt_237 ?_
    refine gj_icmp_neN (tgt := 274) (by omega) (by omega) dX11_lookAt_238 rfl (fun zq0 => ?_) (fun zq0 => ?_)
    rotate_left
    · exfalso; omega
    refine gj_aload_n dX11_lookAt_274 rfl ?_
    refine gj_aload_n dX11_lookAt_275 rfl ?_
    refine gfX11_248 rfl dX11_lookAt_276 (mj_up_eq _ _ _) rfl ?_
    refine gj_ic (w := 2) dX11_lookAt_279 ?_
    refine gj_icmp_neN (tgt := 295) (by omega) (by omega) dX11_lookAt_280 rfl (fun zq0 => ?_) (fun zq0 => ?_)
    rotate_left
    · exfalso; omega
    refine gj_aload_n dX11_lookAt_295 rfl ?_
    refine gfX11_248 rfl dX11_lookAt_296 (mj_up_eq _ _ _) rfl ?_
    refine pfX11_248 rfl dX11_lookAt_299 (mj_up_eq _ _ _) (Nat.le_of_ble_eq_true rfl) ?_
    refine gj_cast (h' := mj_up h 100 (.inr (9, [.ref 101, .ref 102, .ref 103, .ref 104, .long (lN a0), .long (lN a1), .ref 105, .ref 106, .ref 107, .int (nI y2), .int (nI (sp_er B y2 32 32 p)), .int (nI 1), .int (nI 4), .int (nI 0), .ref 108, .ref 109]))) rfl rfl (by funext x; unfold mj_up; (repeat' split) <;> first | rfl | omega) ?_
    exact gj_vr rfl dX11_lookAt_302 (by rw [sp_eb_o (s := sp_er B y2 32 32 p) h3 h4 h5]; unfold sp_xk sp_xv; rw [if_neg (Nat.not_le.mpr h3), if_neg (Nat.not_le.mpr h3), if_neg h4, if_neg h4, if_neg h5, if_neg h5, if_neg h6, show (sp_er B y2 32 32 p) + 1 - (sp_er B y2 32 32 p) = 1 by omega]; rfl)
  refine gj_aload_n dX11_lookAt_0 rfl ?_
  refine gj_iload_n dX11_lookAt_1 rfl ?_
  refine pfX11_242 rfl dX11_lookAt_2 H0 (Nat.le_of_ble_eq_true rfl) ?_
  show gj _ _ _ _ _ _ _ _ (mj_up h 100 (.inr (9, [.ref 101, .ref 102, .ref 103, .ref 104, .long (lN a0), .long (lN a1), .ref 105, .ref 106, .ref 107, .int (nI y2), .int (nI p), .int (nI y4), .int (nI y5), .int (nI y6), .ref 108, .ref 109])))
  refine gj_cast (L' := [some (.ref 100), some (.int (nI p)), none, none, none]) (st' := []) (h' := mj_up h 100 (.inr (9, [.ref 101, .ref 102, .ref 103, .ref 104, .long (lN a0), .long (lN a1), .ref 105, .ref 106, .ref 107, .int (nI y2), .int (nI (p + 0)), .int (nI y4), .int (nI y5), .int (nI y6), .ref 108, .ref 109]))) rfl rfl rfl ?_
  refine gj_loopI (fun j => ∀ i, i < j → (sp_erp B 32 32 p) i = false) (fun j => [some (.ref 100), some (.int (nI p)), none, none, none]) (fun j => mj_up h 100 (.inr (9, [.ref 101, .ref 102, .ref 103, .ref 104, .long (lN a0), .long (lN a1), .ref 105, .ref 106, .ref 107, .int (nI y2), .int (nI (p + j)), .int (nI y4), .int (nI y5), .int (nI y6), .ref 108, .ref 109]))) (y2 - p) (fun hq => ?_) (fun j hj hq ih => ?_) 0 (Nat.zero_le _) (fun i hi => absurd hi (Nat.not_lt_zero _))
  · show gj _ _ _ _ _ _ [some (.ref 100), some (.int (nI p)), none, none, none] _ _
    refine gj_aload_n dX11_lookAt_5 rfl ?_
    refine gfX11_242 rfl dX11_lookAt_6 (mj_up_eq _ _ _) rfl ?_
    refine gj_aload_n dX11_lookAt_9 rfl ?_
    refine gfX11_230 rfl dX11_lookAt_10 (mj_up_eq _ _ _) rfl ?_
    refine gj_icmp_geN (tgt := 43) (by omega) (by omega) dX11_lookAt_13 rfl (fun zq5 => ?_) (fun zq5 => ?_)
    rotate_left
    · exfalso; omega
    have hs9 : sp_er B y2 32 32 p = p + (y2 - p) := by unfold sp_er; rw [sp_fst_none hq]
    exact gj_cast rfl rfl (by rw [hs9]) jn43
  show gj _ _ _ _ _ _ [some (.ref 100), some (.int (nI p)), none, none, none] _ _
  refine gj_aload_n dX11_lookAt_5 rfl ?_
  refine gfX11_242 rfl dX11_lookAt_6 (mj_up_eq _ _ _) rfl ?_
  refine gj_aload_n dX11_lookAt_9 rfl ?_
  refine gfX11_230 rfl dX11_lookAt_10 (mj_up_eq _ _ _) rfl ?_
  refine gj_icmp_geN (tgt := 43) (by omega) (by omega) dX11_lookAt_13 rfl (fun zq6 => ?_) (fun zq6 => ?_)
  · exfalso; omega
  refine gj_aload_n dX11_lookAt_16 rfl ?_
  refine gfX11_33 rfl dX11_lookAt_17 (mj_up_eq _ _ _) rfl ?_
  refine gj_aload_n dX11_lookAt_20 rfl ?_
  refine gfX11_242 rfl dX11_lookAt_21 (mj_up_eq _ _ _) rfl ?_
  refine gj_ialdN dX11_lookAt_24 ((mj_up_ne (by decide)).trans HB) (by omega) (by omega) ?_
  have hb8 := hB (p + j)
  refine gj_bp 32 dX11_lookAt_25 (by decide) ?_
  refine gj_icmp_neN (tgt := 43) (by omega) (by omega) dX11_lookAt_27 rfl (fun zq7 => ?_) (fun zq7 => ?_)
  · -- 27 taken
    have hp9 : (sp_erp B 32 32 p) j = true := by unfold sp_erp; rw [decide_eq_false (by omega)]; rfl
    have hs9 : sp_er B y2 32 32 p = p + j := by unfold sp_er; rw [sp_fst_at hj hp9 hq]
    exact gj_cast rfl rfl (by rw [hs9]) jn43
  have hn9 : (sp_erp B 32 32 p) j = false := by unfold sp_erp; rw [decide_eq_true (by omega)]; rfl
  refine gj_aload_n dX11_lookAt_30 rfl ?_
  refine gj_dup dX11_lookAt_31 rfl ?_
  refine gfX11_242 rfl dX11_lookAt_32 (mj_up_eq _ _ _) rfl ?_
  refine gj_ic (w := 1) dX11_lookAt_35 ?_
  refine gj_iaddN  dX11_lookAt_36 ?_
  refine pfX11_242 rfl dX11_lookAt_37 (mj_up_eq _ _ _) (Nat.le_of_ble_eq_true rfl) ?_
  refine gj_cast (h' := mj_up h 100 (.inr (9, [.ref 101, .ref 102, .ref 103, .ref 104, .long (lN a0), .long (lN a1), .ref 105, .ref 106, .ref 107, .int (nI y2), .int (nI ((p + j) + 1)), .int (nI y4), .int (nI y5), .int (nI y6), .ref 108, .ref 109]))) rfl rfl (by funext x; unfold mj_up; (repeat' split) <;> first | rfl | omega) ?_
  refine gj_goto (tgt := 5) dX11_lookAt_40 rfl ?_
  exact gj_cast rfl rfl (by rw [Nat.add_assoc]) (ih (fun i hi => by by_cases q : i = j <;> first | (subst q; exact hn9) | exact hq i (by omega)))
