theorem sp_er_in {B : Nat → Nat} {n lo hi p i : Nat} (h1 : p ≤ i) (h2 : i < sp_er B n lo hi p) : lo ≤ B i ∧ B i ≤ hi := by
  unfold sp_er at h2
  have h3 : sp_erp B lo hi p (i - p) = false := sp_fst_f (p := sp_erp B lo hi p) (n := n - p) (by omega)
  unfold sp_erp at h3
  rw [show p + (i - p) = i by omega] at h3
  by_cases q : lo ≤ B i ∧ B i ≤ hi
  · exact q
  · rw [decide_eq_false q] at h3; exact absurd h3 (by decide)
theorem mj_lk3 {a : Nat} (h : 3 ≤ a) : Op.lookupswitch.offset (#[((1 : Int), (26 : Int)), (2, 28)] : Array (Int × Int)).toList 42 (a : Int) = 42 := by
  simp only [Op.lookupswitch.offset]
  show (if (1 : Int) = (a : Int) then (26 : Int) else if (2 : Int) = (a : Int) then 28 else 42) = 42
  rw [if_neg (by omega), if_neg (by omega)]
theorem sp_tE_no {B : Nat → Nat} {n t : Nat} (h : t < sp_tE B n) : ¬ sp_tt B n t = 4294967295 := of_decide_eq_false (sp_fst_f (p := fun t => decide (sp_tt B n t = 4294967295)) h)
theorem sp_tE_le {B : Nat → Nat} {n : Nat} (hn : n ≤ 150) : sp_tE B n ≤ 150 := by
  have h1 : sp_tE B n ≤ 151 := sp_fst_le
  have h2 := sp_ps_t (B := B) (n := n) (t := sp_tE B n) (fun i hi => sp_tE_no hi)
  have h3 := @sp_ps_le B n (sp_tE B n)
  omega
theorem sp_tE_at {B : Nat → Nat} {n : Nat} (hn : n ≤ 150) : sp_tt B n (sp_tE B n) = 4294967295 := by
  have h1 := @sp_tE_le B n hn
  exact of_decide_eq_true (sp_fst_t (p := fun t => decide (sp_tt B n t = 4294967295)) (n := 151) (show sp_tE B n < 151 by omega))
theorem sp_tE_lt {B : Nat → Nat} {n t : Nat} (hn : n ≤ 150) (h : t ≤ sp_tE B n) (h2 : ¬ sp_tt B n t = 4294967295) : t < sp_tE B n := by
  rcases Nat.lt_or_eq_of_le h with q | q
  · exact q
  · exact absurd (by rw [q]; exact sp_tE_at hn) h2
/-- the tokens are told in the rows 9 and 10 -/
def mj_tx (C : Nat → Nat → Nat) : Prop := ∀ t, t ≤ sp_tE (C 8) (C 7 0) → C 9 t = sp_tt (C 8) (C 7 0) t ∧ C 10 t = sp_ss (C 8) (C 7 0) t
/-- the text is at its token t -/
def mj_ta (C : Nat → Nat → Nat) (t : Nat) : Nat → Nat → Nat := mj_u C 7 (mj_row [C 7 0, t, sp_tt (C 8) (C 7 0) t])
theorem ha7 {κ : Nat → Bool} {C : Nat → Nat → Nat} {t u : Nat} {h : mj_H} (h1 : h = hh κ (mj_ta C t)) : mj_up h 7 (.inr (4, [.ref 8, .int (nI (C 7 0)), .ref 9, .ref 10, .int (nI u), .int (nI (sp_tt (C 8) (C 7 0) u))])) = hh κ (mj_ta C u) := by
  rw [hu7 h1]
  unfold mj_ta
  rw [mj_u_u]
theorem mj_u_comm {C : Nat → Nat → Nat} {i j : Nat} {K L : Nat → Nat} (q : i ≠ j) : mj_u (mj_u C i K) j L = mj_u (mj_u C j L) i K := by
  funext x; unfold mj_u
  by_cases q1 : x = i <;> by_cases q2 : x = j <;> simp [q1, q2]
  · omega
  · intro z; exact absurd z q
  · intro z; exact absurd z.symm q
set_option maxHeartbeats 1000000 in
set_option maxRecDepth 10000 in
theorem ev_X5_numberIn {E : mj_E} {κ : Nat → Bool} {C : Nat → Nat → Nat} (I : mj_CI κ C) {s z : Nat} (h0 : s < z) (h1 : z ≤ C 7 0) (h2 : ∀ i, s ≤ i → i < z → 48 ≤ C 8 i) : mj_Ev E iX5_numberIn [.ref 7, .int (nI s), .int (nI z)] (hh κ C) (mj_R (some (.int (nI (sp_nvl (C 8) s z)))) (hh κ C)) := by
  have hl7x : C 7 0 ≤ 150 := I.2.2.2.2.2.2.1
  have hB : ∀ c, C 8 c ≤ 127 := I.2.2.2.2.2.2.2.1
  have hda := h2 s (by omega) (by omega)
  have hdz := h2 (z - 1) (by omega) (by omega)
  have hbz := hB (z - 1)
  have hbs := hB s
  refine mj_Ev.of (L0 := [some (.ref 7), some (.int (nI s)), some (.int (nI z)), none]) pnRX5 (Nat.le_of_ble_eq_true rfl) rfl ?_
  refine gj_aload_n dX5_numberIn_0 rfl ?_
  refine gj_iload_n dX5_numberIn_1 rfl ?_
  refine gj_ic (w := 1) dX5_numberIn_2 ?_
  refine gj_isubN (by omega) dX5_numberIn_3 ?_
  refine gj_V1 lkX5_119 (hc7 κ C) rfl rfl (ev_X5_byteAt I (by omega)) dX5_numberIn_4 rfl rfl rfl rfl rfl ?_
  have hb1 := @sp_ba_lt (C 8) (C 7 0) (z - 1) hB
  refine gj_topN (if_pos (by omega)) ?_
  refine gj_bp 48 dX5_numberIn_7 (by decide) ?_
  refine gj_isubN (by omega) dX5_numberIn_9 ?_
  refine gj_istore_n (L' := [some (.ref 7), some (.int (nI s)), some (.int (nI z)), some (.int (nI ((C 8 (z - 1)) - 48)))]) dX5_numberIn_10 (Nat.le_of_ble_eq_true rfl) rfl ?_
  refine gj_iload_n dX5_numberIn_11 rfl ?_
  refine gj_iload_n dX5_numberIn_12 rfl ?_
  refine gj_isubN (by omega) dX5_numberIn_13 ?_
  rcases (by omega : z - s = 1 ∨ z - s = 2 ∨ 3 ≤ z - s) with hs9 | hs9 | hs9
  · rw [hs9]
    refine gj_lkp (a := 1) (tgt := 40) (by decide) dX5_numberIn_14 (by decide) rfl rfl ?_
    refine gj_iload_n dX5_numberIn_40 rfl ?_
    exact gj_ir rfl dX5_numberIn_41 rfl (congrArg nI (by unfold sp_nvl; rw [if_pos hs9, show z - 1 = s by omega])) rfl
  · rw [hs9]
    refine gj_lkp (a := 2) (tgt := 42) (by decide) dX5_numberIn_14 (by decide) rfl rfl ?_
    refine gj_bp 10 dX5_numberIn_42 (by decide) ?_
    refine gj_aload_n dX5_numberIn_44 rfl ?_
    refine gj_iload_n dX5_numberIn_45 rfl ?_
    refine gj_V1 lkX5_119 (hc7 κ C) rfl rfl (ev_X5_byteAt I (by omega)) dX5_numberIn_46 rfl rfl rfl rfl rfl ?_
    have hb2 := @sp_ba_lt (C 8) (C 7 0) s hB
    refine gj_topN (if_pos (by omega)) ?_
    refine gj_bp 48 dX5_numberIn_49 (by decide) ?_
    refine gj_isubN (by omega) dX5_numberIn_51 ?_
    refine gj_imulN  dX5_numberIn_52 ?_
    refine gj_iload_n dX5_numberIn_53 rfl ?_
    refine gj_iaddN  dX5_numberIn_54 ?_
    exact gj_ir rfl dX5_numberIn_55 rfl (congrArg nI (by unfold sp_nvl; rw [if_neg (by omega), if_pos hs9, show z - 1 = s + 1 by omega])) rfl
  refine gj_lkp (a := (z - s)) (tgt := 56) (by omega) dX5_numberIn_14 (by decide) (mj_lk3 hs9) rfl ?_
  refine gj_bipush (v := (-3)) dX5_numberIn_56 (by decide) ?_
  refine gj_top (y := nI 4294967293) (by decide) ?_
  exact gj_ir rfl dX5_numberIn_58 rfl (congrArg nI (by unfold sp_nvl; rw [if_neg (by omega), if_neg (by omega)])) rfl
set_option maxHeartbeats 1000000 in
set_option maxRecDepth 10000 in
theorem ev_X5_tokenIn {E : mj_E} {κ : Nat → Bool} {C : Nat → Nat → Nat} (I : mj_CI κ C) {s : Nat} (h0 : s ≤ C 7 0) : mj_Ev E iX5_tokenIn [.ref 7, .int (nI s), .int (nI (sp_eb (C 8) (C 7 0) s))] (hh κ C) (mj_R (some (.int (nI (sp_tk (C 8) (C 7 0) s (sp_eb (C 8) (C 7 0) s))))) (hh κ C)) := by
  have hl7x : C 7 0 ≤ 150 := I.2.2.2.2.2.2.1
  have hB : ∀ c, C 8 c ≤ 127 := I.2.2.2.2.2.2.2.1
  have hsz := @sp_eb_le (C 8) (C 7 0) s h0
  have hsg := @sp_eb_ge (C 8) (C 7 0) s h0
  refine mj_Ev.of (L0 := [some (.ref 7), some (.int (nI s)), some (.int (nI (sp_eb (C 8) (C 7 0) s))), none]) pnRX5 (Nat.le_of_ble_eq_true rfl) rfl ?_
  refine gj_aload_n dX5_tokenIn_0 rfl ?_
  refine gj_iload_n dX5_tokenIn_1 rfl ?_
  refine gj_V1 lkX5_119 (hc7 κ C) rfl rfl (ev_X5_byteAt I (by omega)) dX5_tokenIn_2 rfl rfl rfl rfl rfl ?_
  have hb1 := @sp_ba_lt (C 8) (C 7 0) s hB
  refine gj_istore_n (L' := [some (.ref 7), some (.int (nI s)), some (.int (nI (sp_eb (C 8) (C 7 0) s))), some (.int (nI (sp_ba (C 8) (C 7 0) s)))]) dX5_tokenIn_5 (Nat.le_of_ble_eq_true rfl) rfl ?_
  refine gj_iload_n dX5_tokenIn_6 rfl ?_
  refine gj_aload_n dX5_tokenIn_7 rfl ?_
  refine gfX5_15 rfl dX5_tokenIn_8 (hc7 κ C) rfl ?_
  refine gj_icmp_ltN (tgt := 16) (by omega) (by omega) dX5_tokenIn_11 rfl (fun zq2 => ?_) (fun zq2 => ?_)
  · -- 11 taken
    have hn9 : ¬ C 7 0 ≤ s := Nat.not_le.mpr zq2
    have hgt := @sp_eb_gt (C 8) (C 7 0) s zq2
    refine gj_iload_n dX5_tokenIn_16 rfl ?_
    refine gj_bp 97 dX5_tokenIn_17 (by decide) ?_
    refine gj_bp 122 dX5_tokenIn_19 (by decide) ?_
    refine gj_N1 lkX5_31 (ev_X10_within_w (by omega) (by omega) (by omega)) dX5_tokenIn_21 rfl rfl rfl rfl rfl ?_
    refine gj_if_eqb (tgt := 34) dX5_tokenIn_24 rfl (fun zq3 => ?_) (fun zq3 => ?_)
    · -- 24 taken
      have hl9 := of_decide_eq_false zq3
      refine gj_iload_n dX5_tokenIn_34 rfl ?_
      refine gj_bp 48 dX5_tokenIn_35 (by decide) ?_
      refine gj_bp 57 dX5_tokenIn_37 (by decide) ?_
      refine gj_N1 lkX5_31 (ev_X10_within_w (by omega) (by omega) (by omega)) dX5_tokenIn_39 rfl rfl rfl rfl rfl ?_
      refine gj_if_eqb (tgt := 52) dX5_tokenIn_42 rfl (fun zq4 => ?_) (fun zq4 => ?_)
      · -- 42 taken
        have hd9 := of_decide_eq_false zq4
        have hb5 : sp_ba (C 8) (C 7 0) s = C 8 s := if_pos (by omega)
        have hb6 := hB s
        refine gj_iload_n dX5_tokenIn_52 rfl ?_
        refine gj_bp 59 dX5_tokenIn_53 (by decide) ?_
        refine gj_icmp_neN (tgt := 63) (by omega) (by omega) dX5_tokenIn_55 rfl (fun zq5 => ?_) (fun zq5 => ?_)
        · -- 55 taken
          have hc9 := zq5
          refine gj_bipush (v := (-3)) dX5_tokenIn_63 (by decide) ?_
          refine gj_top (y := nI 4294967293) (by decide) ?_
          exact gj_ir rfl dX5_tokenIn_65 rfl (congrArg nI (by unfold sp_tk; first | rw [if_neg hn9, if_neg hl9, if_neg hd9, if_pos hc9] | rw [if_neg hn9, if_neg hl9, if_neg hd9, if_neg hc9])) rfl
        have hc9 := zq5
        refine gj_bipush (v := (-2)) dX5_tokenIn_58 (by decide) ?_
        refine gj_top (y := nI 4294967294) (by decide) ?_
        refine gj_goto (tgt := 65) dX5_tokenIn_60 rfl ?_
        exact gj_ir rfl dX5_tokenIn_65 rfl (congrArg nI (by unfold sp_tk; first | rw [if_neg hn9, if_neg hl9, if_neg hd9, if_pos hc9] | rw [if_neg hn9, if_neg hl9, if_neg hd9, if_neg hc9])) rfl
      have hd9 := of_decide_eq_true zq4
      have hdd : ∀ i, s ≤ i → i < sp_eb (C 8) (C 7 0) s → 48 ≤ C 8 i := by rw [show sp_eb (C 8) (C 7 0) s = sp_er (C 8) (C 7 0) 48 57 s by unfold sp_eb; rw [if_neg hl9, if_pos hd9]]; exact fun i i1 i2 => (sp_er_in i1 i2).1
      refine gj_aload_n dX5_tokenIn_45 rfl ?_
      refine gj_iload_n dX5_tokenIn_46 rfl ?_
      refine gj_iload_n dX5_tokenIn_47 rfl ?_
      refine gj_V1 lkX5_130 (hc7 κ C) rfl rfl (ev_X5_numberIn I (by omega) (by omega) hdd) dX5_tokenIn_48 rfl rfl rfl rfl rfl ?_
      have hb6 := @sp_nvl_lt (C 8) s (sp_eb (C 8) (C 7 0) s) hB
      exact gj_ir rfl dX5_tokenIn_51 rfl (congrArg nI (by unfold sp_tk; rw [if_neg hn9, if_neg hl9, if_pos hd9])) rfl
    have hl9 := of_decide_eq_true zq3
    refine gj_aload_n dX5_tokenIn_27 rfl ?_
    refine gj_iload_n dX5_tokenIn_28 rfl ?_
    refine gj_iload_n dX5_tokenIn_29 rfl ?_
    refine gj_V1 lkX5_127 (hc7 κ C) rfl rfl (ev_X5_wordIn I (by omega) (by omega)) dX5_tokenIn_30 rfl rfl rfl rfl rfl ?_
    have hb7 := @sp_wt_lt (C 8) s (sp_eb (C 8) (C 7 0) s)
    exact gj_ir rfl dX5_tokenIn_33 rfl (congrArg nI (by unfold sp_tk; rw [if_neg hn9, if_pos hl9])) rfl
  have hn9 := zq2
  refine gj_iconst (v := (-1)) dX5_tokenIn_14 (by decide) ?_
  refine gj_top (y := nI 4294967295) (by decide) ?_
  exact gj_ir rfl dX5_tokenIn_15 rfl (congrArg nI (by exact (if_pos hn9).symm)) rfl
