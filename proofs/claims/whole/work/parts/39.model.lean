/-- the reference's count of kinds alike: among those of s -/
def sp_rak (s : Nat) (g : Nat → Nat) (k n : Nat) : Nat := mj_fo (fun y a => if Nat.testBit s k = true ∧ Nat.testBit s y = true ∧ g y = g k then a + 1 else a) 0 n
theorem sp_rak_t {s : Nat} {g : Nat → Nat} {k n : Nat} (h : Nat.testBit s k = true) (h2 : Nat.testBit s n = true) (h3 : g n = g k) : sp_rak s g k (n + 1) = sp_rak s g k n + 1 := if_pos ⟨h, h2, h3⟩
theorem sp_rak_f {s : Nat} {g : Nat → Nat} {k n : Nat} (h3 : ¬ g n = g k) : sp_rak s g k (n + 1) = sp_rak s g k n := if_neg (fun z => h3 z.2.2)
theorem sp_rak_b {s : Nat} {g : Nat → Nat} {k n : Nat} (h3 : Nat.testBit s n = false) : sp_rak s g k (n + 1) = sp_rak s g k n := if_neg (fun z => by rw [h3] at z; exact absurd z.2.1 (by decide))
theorem sp_rak_0 {s : Nat} {g : Nat → Nat} {k n : Nat} (h : Nat.testBit s k = false) : sp_rak s g k n = 0 := by
  induction n with
  | zero => rfl
  | succ n ih => exact (if_neg (fun z => by rw [h] at z; exact absurd z.1 (by decide))).trans ih
theorem sp_rak_s {s : Nat} {g : Nat → Nat} {k n : Nat} : sp_rak s g k (n + 1) = if Nat.testBit s k = true ∧ Nat.testBit s n = true ∧ g n = g k then sp_rak s g k n + 1 else sp_rak s g k n := mj_fo_s
theorem sp_rak_le {s : Nat} {g : Nat → Nat} {k n : Nat} : sp_rak s g k n ≤ n := by
  induction n with
  | zero => exact Nat.le_refl _
  | succ n ih => rw [sp_rak_s]; split <;> omega
def sp_rma (s : Nat) (g : Nat → Nat) (n : Nat) : Nat := mj_fo (fun k m => max m (sp_rak s g k 6)) 0 n
theorem sp_rma_s {s : Nat} {g : Nat → Nat} {n : Nat} : sp_rma s g (n + 1) = max (sp_rma s g n) (sp_rak s g n 6) := mj_fo_s
theorem sp_rma_t {s : Nat} {g : Nat → Nat} {n : Nat} (h : sp_rak s g n 6 ≤ sp_rma s g n) : sp_rma s g (n + 1) = sp_rma s g n := by rw [sp_rma_s]; exact Nat.max_eq_left h
theorem sp_rma_f {s : Nat} {g : Nat → Nat} {n : Nat} (h : sp_rma s g n < sp_rak s g n 6) : sp_rma s g (n + 1) = sp_rak s g n 6 := by rw [sp_rma_s]; exact Nat.max_eq_right (Nat.le_of_lt h)
theorem sp_rma_n {s : Nat} {g : Nat → Nat} {n : Nat} (h : Nat.testBit s n = false) : sp_rma s g (n + 1) = sp_rma s g n := sp_rma_t (by rw [sp_rak_0 h]; exact Nat.zero_le _)
theorem sp_rma_le {s : Nat} {g : Nat → Nat} {n : Nat} : sp_rma s g n ≤ 6 := by
  induction n with
  | zero => exact Nat.zero_le _
  | succ n ih => rw [sp_rma_s]; exact Nat.max_le.mpr ⟨ih, sp_rak_le⟩
def sp_rg (i sky : Nat) : Nat → Nat := fun y => sp_after y i (sky / 10) (sky % 10)
def sp_rnx (s i n : Nat) : Nat × Nat := mj_fo (fun sky (p : Nat × Nat) => if sp_rma s (sp_rg i sky) 6 < p.1 then (sp_rma s (sp_rg i sky) 6, sky) else p) (1000000, 4294967295) n
theorem sp_rnx_t {s i n : Nat} (h : sp_rma s (sp_rg i n) 6 < (sp_rnx s i n).1) : sp_rnx s i (n + 1) = (sp_rma s (sp_rg i n) 6, n) := if_pos h
theorem sp_rnx_f {s i n : Nat} (h : (sp_rnx s i n).1 ≤ sp_rma s (sp_rg i n) 6) : sp_rnx s i (n + 1) = sp_rnx s i n := if_neg (Nat.not_lt.mpr h)
theorem sp_rnx_le {s i n : Nat} : (sp_rnx s i n).1 ≤ 1000000 := by
  induction n with
  | zero => exact Nat.le_refl _
  | succ n ih =>
    by_cases q : sp_rma s (sp_rg i n) 6 < (sp_rnx s i n).1
    · rw [sp_rnx_t q]; exact Nat.le_trans sp_rma_le (by decide)
    · rw [sp_rnx_f (Nat.not_lt.mp q)]; exact ih
set_option maxHeartbeats 1000000 in
set_option maxRecDepth 10000 in
theorem ev_X11_next_0 {E : mj_E} {h : mj_H} {a0 a1 y2 y3 y4 y5 y6 : Nat} (H0 : h 100 = some (mj_mo a0 a1 y2 y3 y4 y5 y6)) {T : Nat → Nat} (HT : h 101 = some (mj_ar 362 T)) (bT : mj_Tb T) {c : Nat} (h0 : c < 25) (h1 : sp_mkn T c = 0) : mj_Ev E iX11_next [.ref 100, .int (nI c)] h (mj_R (some (.int (nI 4294967295))) h) := by
  refine mj_Ev.of (L0 := [some (.ref 100), some (.int (nI c)), none, none, none, none, none, none, none, none, none]) pnRX11 (Nat.le_of_ble_eq_true rfl) rfl ?_
  refine gj_iload_n dX11_next_0 rfl ?_
  refine gj_S1 lkX11_70 (ev_X11_isCell_t (by omega) (by omega)) dX11_next_1 rfl rfl rfl rfl rfl ?_
  refine gj_if_neN (tgt := 14) (by omega) dX11_next_4 rfl (fun zq0 => ?_) (fun zq0 => ?_)
  rotate_left
  · exfalso; revert zq0; decide
  refine gj_aload_n dX11_next_14 rfl ?_
  refine gj_iload_n dX11_next_15 rfl ?_
  refine gj_V1 lkX11_199 H0 rfl rfl (ev_X11_kindsOf H0 HT bT (by omega)) dX11_next_16 rfl rfl rfl rfl rfl ?_
  have hb1 := @sp_mkn_lt T c
  refine gj_istore_n (L' := [some (.ref 100), some (.int (nI c)), some (.int (nI (sp_mkn T c))), none, none, none, none, none, none, none, none]) dX11_next_19 (Nat.le_of_ble_eq_true rfl) rfl ?_
  refine gj_iconst (v := (-1)) dX11_next_20 (by decide) ?_
  refine gj_top (y := nI 4294967295) (by decide) ?_
  refine gj_istore_n (L' := [some (.ref 100), some (.int (nI c)), some (.int (nI (sp_mkn T c))), some (.int (nI 4294967295)), none, none, none, none, none, none, none]) dX11_next_21 (Nat.le_of_ble_eq_true rfl) rfl ?_
  refine gj_ldc (v := nI 1000000) w_1179 dX11_next_22 ?_
  refine gj_istore (L' := [some (.ref 100), some (.int (nI c)), some (.int (nI (sp_mkn T c))), some (.int (nI 4294967295)), some (.int (nI 1000000)), none, none, none, none, none, none]) dX11_next_24 (Nat.le_of_ble_eq_true rfl) rfl ?_
  refine gj_ic (w := 0) dX11_next_26 ?_
  refine gj_istore (L' := [some (.ref 100), some (.int (nI c)), some (.int (nI (sp_mkn T c))), some (.int (nI 4294967295)), some (.int (nI 1000000)), some (.int (nI 0)), none, none, none, none, none]) dX11_next_27 (Nat.le_of_ble_eq_true rfl) rfl ?_
  refine gj_iload dX11_next_29 rfl ?_
  refine gj_bp 100 dX11_next_31 (by decide) ?_
  refine gj_icmp_geN (tgt := 211) (by omega) (by omega) dX11_next_33 rfl (fun zq0 => ?_) (fun zq0 => ?_)
  · exfalso; omega
  refine gj_iload_n dX11_next_36 rfl ?_
  refine gj_if_leN (tgt := 211) (by omega) dX11_next_37 rfl (fun zq2 => ?_) (fun zq2 => ?_)
  rotate_left
  · exfalso; omega
  refine gj_iload_n dX11_next_211 rfl ?_
  exact gj_ir rfl dX11_next_212 rfl rfl rfl
set_option maxHeartbeats 1000000 in
set_option maxRecDepth 10000 in
theorem ev_X11_next_1 {E : mj_E} {h : mj_H} {a0 a1 y2 y3 y4 y5 y6 : Nat} (H0 : h 100 = some (mj_mo a0 a1 y2 y3 y4 y5 y6)) {T : Nat → Nat} (HT : h 101 = some (mj_ar 362 T)) (bT : mj_Tb T) {c : Nat} (h0 : c < 25) (h1 : 0 < sp_mkn T c) : mj_Ev E iX11_next [.ref 100, .int (nI c)] h (mj_R (some (.int (nI ((sp_rnx (sp_mkn T c) (T (4 + c)) 100).2)))) h) := by
  refine mj_Ev.of (L0 := [some (.ref 100), some (.int (nI c)), none, none, none, none, none, none, none, none, none]) pnRX11 (Nat.le_of_ble_eq_true rfl) rfl ?_
  refine gj_iload_n dX11_next_0 rfl ?_
  refine gj_S1 lkX11_70 (ev_X11_isCell_t (by omega) (by omega)) dX11_next_1 rfl rfl rfl rfl rfl ?_
  refine gj_if_neN (tgt := 14) (by omega) dX11_next_4 rfl (fun zq0 => ?_) (fun zq0 => ?_)
  rotate_left
  · exfalso; revert zq0; decide
  refine gj_aload_n dX11_next_14 rfl ?_
  refine gj_iload_n dX11_next_15 rfl ?_
  refine gj_V1 lkX11_199 H0 rfl rfl (ev_X11_kindsOf H0 HT bT (by omega)) dX11_next_16 rfl rfl rfl rfl rfl ?_
  have hb1 := @sp_mkn_lt T c
  refine gj_istore_n (L' := [some (.ref 100), some (.int (nI c)), some (.int (nI (sp_mkn T c))), none, none, none, none, none, none, none, none]) dX11_next_19 (Nat.le_of_ble_eq_true rfl) rfl ?_
  refine gj_iconst (v := (-1)) dX11_next_20 (by decide) ?_
  refine gj_top (y := nI 4294967295) (by decide) ?_
  refine gj_istore_n (L' := [some (.ref 100), some (.int (nI c)), some (.int (nI (sp_mkn T c))), some (.int (nI 4294967295)), none, none, none, none, none, none, none]) dX11_next_21 (Nat.le_of_ble_eq_true rfl) rfl ?_
  refine gj_ldc (v := nI 1000000) w_1179 dX11_next_22 ?_
  refine gj_istore (L' := [some (.ref 100), some (.int (nI c)), some (.int (nI (sp_mkn T c))), some (.int (nI 4294967295)), some (.int (nI 1000000)), none, none, none, none, none, none]) dX11_next_24 (Nat.le_of_ble_eq_true rfl) rfl ?_
  refine gj_ic (w := 0) dX11_next_26 ?_
  refine gj_istore (L' := [some (.ref 100), some (.int (nI c)), some (.int (nI (sp_mkn T c))), some (.int (nI 4294967295)), some (.int (nI 1000000)), some (.int (nI 0)), none, none, none, none, none]) dX11_next_27 (Nat.le_of_ble_eq_true rfl) rfl ?_
  refine gj_cast (L' := [some (.ref 100), some (.int (nI c)), some (.int (nI (sp_mkn T c))), some (.int (nI ((sp_rnx (sp_mkn T c) (T (4 + c)) 0).2))), some (.int (nI ((sp_rnx (sp_mkn T c) (T (4 + c)) 0).1))), some (.int (nI 0)), none, none, none, none, none]) (st' := []) (h' := h) rfl rfl rfl ?_
  refine gj_loop (fun j => [some (.ref 100), some (.int (nI c)), some (.int (nI (sp_mkn T c))), some (.int (nI ((sp_rnx (sp_mkn T c) (T (4 + c)) j).2))), some (.int (nI ((sp_rnx (sp_mkn T c) (T (4 + c)) j).1))), some (.int (nI j)), none, none, none, none, none]) (fun j => h) 100 ?_ (fun j hj ih => ?_) 0 (Nat.zero_le _)
  · show gj _ _ _ _ _ _ [some (.ref 100), some (.int (nI c)), some (.int (nI (sp_mkn T c))), some (.int (nI ((sp_rnx (sp_mkn T c) (T (4 + c)) 100).2))), some (.int (nI ((sp_rnx (sp_mkn T c) (T (4 + c)) 100).1))), some (.int (nI 100)), none, none, none, none, none] _ _
    refine gj_iload dX11_next_29 rfl ?_
    refine gj_bp 100 dX11_next_31 (by decide) ?_
    refine gj_icmp_geN (tgt := 211) (by omega) (by omega) dX11_next_33 rfl (fun zq0 => ?_) (fun zq0 => ?_)
    rotate_left
    · exfalso; omega
    refine gj_iload_n dX11_next_211 rfl ?_
    exact gj_ir rfl dX11_next_212 rfl rfl rfl
  show gj _ _ _ _ _ _ [some (.ref 100), some (.int (nI c)), some (.int (nI (sp_mkn T c))), some (.int (nI ((sp_rnx (sp_mkn T c) (T (4 + c)) j).2))), some (.int (nI ((sp_rnx (sp_mkn T c) (T (4 + c)) j).1))), some (.int (nI j)), none, none, none, none, none] _ _
  refine gj_iload dX11_next_29 rfl ?_
  refine gj_bp 100 dX11_next_31 (by decide) ?_
  refine gj_icmp_geN (tgt := 211) (by omega) (by omega) dX11_next_33 rfl (fun zq2 => ?_) (fun zq2 => ?_)
  · exfalso; omega
  refine gj_iload_n dX11_next_36 rfl ?_
  refine gj_if_leN (tgt := 211) (by omega) dX11_next_37 rfl (fun zq3 => ?_) (fun zq3 => ?_)
  · exfalso; omega
  refine gj_ic (w := 0) dX11_next_40 ?_
  refine gj_istore (L' := [some (.ref 100), some (.int (nI c)), some (.int (nI (sp_mkn T c))), some (.int (nI ((sp_rnx (sp_mkn T c) (T (4 + c)) j).2))), some (.int (nI ((sp_rnx (sp_mkn T c) (T (4 + c)) j).1))), some (.int (nI j)), some (.int (nI 0)), none, none, none, none]) dX11_next_41 (Nat.le_of_ble_eq_true rfl) rfl ?_
  refine gj_ic (w := 0) dX11_next_43 ?_
  refine gj_istore (L' := [some (.ref 100), some (.int (nI c)), some (.int (nI (sp_mkn T c))), some (.int (nI ((sp_rnx (sp_mkn T c) (T (4 + c)) j).2))), some (.int (nI ((sp_rnx (sp_mkn T c) (T (4 + c)) j).1))), some (.int (nI j)), some (.int (nI 0)), some (.int (nI 0)), none, none, none]) dX11_next_44 (Nat.le_of_ble_eq_true rfl) rfl ?_
  refine gj_cast (L' := [some (.ref 100), some (.int (nI c)), some (.int (nI (sp_mkn T c))), some (.int (nI ((sp_rnx (sp_mkn T c) (T (4 + c)) j).2))), some (.int (nI ((sp_rnx (sp_mkn T c) (T (4 + c)) j).1))), some (.int (nI j)), some (.int (nI (sp_rma (sp_mkn T c) (sp_rg (T (4 + c)) j) 0))), some (.int (nI 0)), none, none, none]) (st' := []) (h' := h) rfl rfl rfl ?_
  refine gj_loop (fun k => [some (.ref 100), some (.int (nI c)), some (.int (nI (sp_mkn T c))), some (.int (nI ((sp_rnx (sp_mkn T c) (T (4 + c)) j).2))), some (.int (nI ((sp_rnx (sp_mkn T c) (T (4 + c)) j).1))), some (.int (nI j)), some (.int (nI (sp_rma (sp_mkn T c) (sp_rg (T (4 + c)) j) k))), some (.int (nI k)), none, none, none]) (fun k => h) 6 ?_ (fun k hk ihk => ?_) 0 (Nat.zero_le _)
  · show gj _ _ _ _ _ _ [some (.ref 100), some (.int (nI c)), some (.int (nI (sp_mkn T c))), some (.int (nI ((sp_rnx (sp_mkn T c) (T (4 + c)) j).2))), some (.int (nI ((sp_rnx (sp_mkn T c) (T (4 + c)) j).1))), some (.int (nI j)), some (.int (nI (sp_rma (sp_mkn T c) (sp_rg (T (4 + c)) j) 6))), some (.int (nI 6)), none, none, none] _ _
    refine gj_iload dX11_next_46 rfl ?_
    refine gj_bp 6 dX11_next_48 (by decide) ?_
    refine gj_icmp_geN (tgt := 175) (by omega) (by omega) dX11_next_50 rfl (fun zq0 => ?_) (fun zq0 => ?_)
    rotate_left
    · exfalso; omega
    have hr7 := @sp_rma_le (sp_mkn T c) (sp_rg (T (4 + c)) j) 6
    have hr6 := @sp_rnx_le (sp_mkn T c) (T (4 + c)) j
    refine gj_iload dX11_next_175 rfl ?_
    refine gj_iload dX11_next_177 rfl ?_
    refine gj_icmp_geN (tgt := 187) (by omega) (by omega) dX11_next_179 rfl (fun zq4 => ?_) (fun zq4 => ?_)
    · -- 179 taken
      have hw9 : (sp_rnx (sp_mkn T c) (T (4 + c)) j).1 ≤ sp_rma (sp_mkn T c) (sp_rg (T (4 + c)) j) 6 := zq4
      refine gj_iload_n dX11_next_187 rfl ?_
      refine gj_istore_n (L' := [some (.ref 100), some (.int (nI c)), some (.int (nI (sp_mkn T c))), some (.int (nI ((sp_rnx (sp_mkn T c) (T (4 + c)) j).2))), some (.int (nI ((sp_rnx (sp_mkn T c) (T (4 + c)) j).1))), some (.int (nI j)), some (.int (nI (sp_rma (sp_mkn T c) (sp_rg (T (4 + c)) j) 6))), some (.int (nI 6)), none, none, none]) dX11_next_188 (Nat.le_of_ble_eq_true rfl) rfl ?_
      refine gj_iload dX11_next_189 rfl ?_
      refine gj_iload dX11_next_191 rfl ?_
      refine gj_icmp_geN (tgt := 201) (by omega) (by omega) dX11_next_193 rfl (fun zq5 => ?_) (fun zq5 => ?_)
      · -- 193 taken
        have hv9 := zq5
        refine gj_iload dX11_next_201 rfl ?_
        refine gj_istore (L' := [some (.ref 100), some (.int (nI c)), some (.int (nI (sp_mkn T c))), some (.int (nI ((sp_rnx (sp_mkn T c) (T (4 + c)) j).2))), some (.int (nI ((sp_rnx (sp_mkn T c) (T (4 + c)) j).1))), some (.int (nI j)), some (.int (nI (sp_rma (sp_mkn T c) (sp_rg (T (4 + c)) j) 6))), some (.int (nI 6)), none, none, none]) dX11_next_203 (Nat.le_of_ble_eq_true rfl) rfl ?_
        refine gj_iincN (L' := [some (.ref 100), some (.int (nI c)), some (.int (nI (sp_mkn T c))), some (.int (nI ((sp_rnx (sp_mkn T c) (T (4 + c)) j).2))), some (.int (nI ((sp_rnx (sp_mkn T c) (T (4 + c)) j).1))), some (.int (nI (j + 1))), some (.int (nI (sp_rma (sp_mkn T c) (sp_rg (T (4 + c)) j) 6))), some (.int (nI 6)), none, none, none]) dX11_next_205 rfl (Nat.le_of_ble_eq_true rfl) rfl ?_
        refine gj_goto (tgt := 29) dX11_next_208 rfl ?_
        refine gj_forget (i := 6) (L' := [some (.ref 100), some (.int (nI c)), some (.int (nI (sp_mkn T c))), some (.int (nI ((sp_rnx (sp_mkn T c) (T (4 + c)) j).2))), some (.int (nI ((sp_rnx (sp_mkn T c) (T (4 + c)) j).1))), some (.int (nI (j + 1))), none, some (.int (nI 6)), none, none, none]) rfl ?_
        refine gj_forget (i := 7) (L' := [some (.ref 100), some (.int (nI c)), some (.int (nI (sp_mkn T c))), some (.int (nI ((sp_rnx (sp_mkn T c) (T (4 + c)) j).2))), some (.int (nI ((sp_rnx (sp_mkn T c) (T (4 + c)) j).1))), some (.int (nI (j + 1))), none, none, none, none, none]) rfl ?_
        first | exact absurd hv9 (by omega) | exact gj_cast (by rw [sp_rnx_t hw9]) rfl rfl ih | exact gj_cast (by rw [sp_rnx_f hw9]) rfl rfl ih
      have hv9 := zq5
      refine gj_iload dX11_next_196 rfl ?_
      refine gj_goto (tgt := 203) dX11_next_198 rfl ?_
      refine gj_istore (L' := [some (.ref 100), some (.int (nI c)), some (.int (nI (sp_mkn T c))), some (.int (nI ((sp_rnx (sp_mkn T c) (T (4 + c)) j).2))), some (.int (nI (sp_rma (sp_mkn T c) (sp_rg (T (4 + c)) j) 6))), some (.int (nI j)), some (.int (nI (sp_rma (sp_mkn T c) (sp_rg (T (4 + c)) j) 6))), some (.int (nI 6)), none, none, none]) dX11_next_203 (Nat.le_of_ble_eq_true rfl) rfl ?_
      refine gj_iincN (L' := [some (.ref 100), some (.int (nI c)), some (.int (nI (sp_mkn T c))), some (.int (nI ((sp_rnx (sp_mkn T c) (T (4 + c)) j).2))), some (.int (nI (sp_rma (sp_mkn T c) (sp_rg (T (4 + c)) j) 6))), some (.int (nI (j + 1))), some (.int (nI (sp_rma (sp_mkn T c) (sp_rg (T (4 + c)) j) 6))), some (.int (nI 6)), none, none, none]) dX11_next_205 rfl (Nat.le_of_ble_eq_true rfl) rfl ?_
      refine gj_goto (tgt := 29) dX11_next_208 rfl ?_
      refine gj_forget (i := 6) (L' := [some (.ref 100), some (.int (nI c)), some (.int (nI (sp_mkn T c))), some (.int (nI ((sp_rnx (sp_mkn T c) (T (4 + c)) j).2))), some (.int (nI (sp_rma (sp_mkn T c) (sp_rg (T (4 + c)) j) 6))), some (.int (nI (j + 1))), none, some (.int (nI 6)), none, none, none]) rfl ?_
      refine gj_forget (i := 7) (L' := [some (.ref 100), some (.int (nI c)), some (.int (nI (sp_mkn T c))), some (.int (nI ((sp_rnx (sp_mkn T c) (T (4 + c)) j).2))), some (.int (nI (sp_rma (sp_mkn T c) (sp_rg (T (4 + c)) j) 6))), some (.int (nI (j + 1))), none, none, none, none, none]) rfl ?_
      first | exact absurd hv9 (by omega) | exact gj_cast (by rw [sp_rnx_t hw9]) rfl rfl ih | exact gj_cast (by rw [sp_rnx_f hw9]) rfl rfl ih
    have hw9 : sp_rma (sp_mkn T c) (sp_rg (T (4 + c)) j) 6 < (sp_rnx (sp_mkn T c) (T (4 + c)) j).1 := zq4
    refine gj_iload dX11_next_182 rfl ?_
    refine gj_goto (tgt := 188) dX11_next_184 rfl ?_
    refine gj_istore_n (L' := [some (.ref 100), some (.int (nI c)), some (.int (nI (sp_mkn T c))), some (.int (nI j)), some (.int (nI ((sp_rnx (sp_mkn T c) (T (4 + c)) j).1))), some (.int (nI j)), some (.int (nI (sp_rma (sp_mkn T c) (sp_rg (T (4 + c)) j) 6))), some (.int (nI 6)), none, none, none]) dX11_next_188 (Nat.le_of_ble_eq_true rfl) rfl ?_
    refine gj_iload dX11_next_189 rfl ?_
    refine gj_iload dX11_next_191 rfl ?_
    refine gj_icmp_geN (tgt := 201) (by omega) (by omega) dX11_next_193 rfl (fun zq6 => ?_) (fun zq6 => ?_)
    · -- 193 taken
      have hv9 := zq6
      refine gj_iload dX11_next_201 rfl ?_
      refine gj_istore (L' := [some (.ref 100), some (.int (nI c)), some (.int (nI (sp_mkn T c))), some (.int (nI j)), some (.int (nI ((sp_rnx (sp_mkn T c) (T (4 + c)) j).1))), some (.int (nI j)), some (.int (nI (sp_rma (sp_mkn T c) (sp_rg (T (4 + c)) j) 6))), some (.int (nI 6)), none, none, none]) dX11_next_203 (Nat.le_of_ble_eq_true rfl) rfl ?_
      refine gj_iincN (L' := [some (.ref 100), some (.int (nI c)), some (.int (nI (sp_mkn T c))), some (.int (nI j)), some (.int (nI ((sp_rnx (sp_mkn T c) (T (4 + c)) j).1))), some (.int (nI (j + 1))), some (.int (nI (sp_rma (sp_mkn T c) (sp_rg (T (4 + c)) j) 6))), some (.int (nI 6)), none, none, none]) dX11_next_205 rfl (Nat.le_of_ble_eq_true rfl) rfl ?_
      refine gj_goto (tgt := 29) dX11_next_208 rfl ?_
      refine gj_forget (i := 6) (L' := [some (.ref 100), some (.int (nI c)), some (.int (nI (sp_mkn T c))), some (.int (nI j)), some (.int (nI ((sp_rnx (sp_mkn T c) (T (4 + c)) j).1))), some (.int (nI (j + 1))), none, some (.int (nI 6)), none, none, none]) rfl ?_
      refine gj_forget (i := 7) (L' := [some (.ref 100), some (.int (nI c)), some (.int (nI (sp_mkn T c))), some (.int (nI j)), some (.int (nI ((sp_rnx (sp_mkn T c) (T (4 + c)) j).1))), some (.int (nI (j + 1))), none, none, none, none, none]) rfl ?_
      first | exact absurd hv9 (by omega) | exact gj_cast (by rw [sp_rnx_t hw9]) rfl rfl ih | exact gj_cast (by rw [sp_rnx_f hw9]) rfl rfl ih
    have hv9 := zq6
    refine gj_iload dX11_next_196 rfl ?_
    refine gj_goto (tgt := 203) dX11_next_198 rfl ?_
    refine gj_istore (L' := [some (.ref 100), some (.int (nI c)), some (.int (nI (sp_mkn T c))), some (.int (nI j)), some (.int (nI (sp_rma (sp_mkn T c) (sp_rg (T (4 + c)) j) 6))), some (.int (nI j)), some (.int (nI (sp_rma (sp_mkn T c) (sp_rg (T (4 + c)) j) 6))), some (.int (nI 6)), none, none, none]) dX11_next_203 (Nat.le_of_ble_eq_true rfl) rfl ?_
    refine gj_iincN (L' := [some (.ref 100), some (.int (nI c)), some (.int (nI (sp_mkn T c))), some (.int (nI j)), some (.int (nI (sp_rma (sp_mkn T c) (sp_rg (T (4 + c)) j) 6))), some (.int (nI (j + 1))), some (.int (nI (sp_rma (sp_mkn T c) (sp_rg (T (4 + c)) j) 6))), some (.int (nI 6)), none, none, none]) dX11_next_205 rfl (Nat.le_of_ble_eq_true rfl) rfl ?_
    refine gj_goto (tgt := 29) dX11_next_208 rfl ?_
    refine gj_forget (i := 6) (L' := [some (.ref 100), some (.int (nI c)), some (.int (nI (sp_mkn T c))), some (.int (nI j)), some (.int (nI (sp_rma (sp_mkn T c) (sp_rg (T (4 + c)) j) 6))), some (.int (nI (j + 1))), none, some (.int (nI 6)), none, none, none]) rfl ?_
    refine gj_forget (i := 7) (L' := [some (.ref 100), some (.int (nI c)), some (.int (nI (sp_mkn T c))), some (.int (nI j)), some (.int (nI (sp_rma (sp_mkn T c) (sp_rg (T (4 + c)) j) 6))), some (.int (nI (j + 1))), none, none, none, none, none]) rfl ?_
    first | exact absurd hv9 (by omega) | exact gj_cast (by rw [sp_rnx_t hw9]) rfl rfl ih | exact gj_cast (by rw [sp_rnx_f hw9]) rfl rfl ih
  show gj _ _ _ _ _ _ [some (.ref 100), some (.int (nI c)), some (.int (nI (sp_mkn T c))), some (.int (nI ((sp_rnx (sp_mkn T c) (T (4 + c)) j).2))), some (.int (nI ((sp_rnx (sp_mkn T c) (T (4 + c)) j).1))), some (.int (nI j)), some (.int (nI (sp_rma (sp_mkn T c) (sp_rg (T (4 + c)) j) k))), some (.int (nI k)), none, none, none] _ _
  refine gj_iload dX11_next_46 rfl ?_
  refine gj_bp 6 dX11_next_48 (by decide) ?_
  refine gj_icmp_geN (tgt := 175) (by omega) (by omega) dX11_next_50 rfl (fun zq7 => ?_) (fun zq7 => ?_)
  · exfalso; omega
  refine gj_ic (w := 0) dX11_next_53 ?_
  refine gj_istore (L' := [some (.ref 100), some (.int (nI c)), some (.int (nI (sp_mkn T c))), some (.int (nI ((sp_rnx (sp_mkn T c) (T (4 + c)) j).2))), some (.int (nI ((sp_rnx (sp_mkn T c) (T (4 + c)) j).1))), some (.int (nI j)), some (.int (nI (sp_rma (sp_mkn T c) (sp_rg (T (4 + c)) j) k))), some (.int (nI k)), some (.int (nI 0)), none, none]) dX11_next_54 (Nat.le_of_ble_eq_true rfl) rfl ?_
  refine gj_iload dX11_next_56 rfl ?_
  refine gj_aload_n dX11_next_58 rfl ?_
  refine gfX11_7 rfl dX11_next_59 H0 rfl ?_
  refine gj_ic (w := 4) dX11_next_62 ?_
  refine gj_iload_n dX11_next_63 rfl ?_
  refine gj_iaddN  dX11_next_64 ?_
  refine gj_ialdN dX11_next_65 HT (by omega) (by omega) ?_
  have hb8 := bT.2.2.2.2.2.1 c (by omega)
  refine gj_iload dX11_next_66 rfl ?_
  refine gj_bp 10 dX11_next_68 (by decide) ?_
  refine gj_idivN (by omega) (by omega) (by omega) dX11_next_70 ?_
  refine gj_iload dX11_next_71 rfl ?_
  refine gj_bp 10 dX11_next_73 (by decide) ?_
  refine gj_iremN (by omega) (by omega) (by omega) dX11_next_75 ?_
  refine gj_S1 lkX11_103 (ev_X11_behindDay (by omega) (by omega) (by omega) (by omega)) dX11_next_76 rfl rfl rfl rfl rfl ?_
  have hb9 := @sp_after_le k (T (4 + c)) (j / 10) (j % 10)
  refine gj_istore (L' := [some (.ref 100), some (.int (nI c)), some (.int (nI (sp_mkn T c))), some (.int (nI ((sp_rnx (sp_mkn T c) (T (4 + c)) j).2))), some (.int (nI ((sp_rnx (sp_mkn T c) (T (4 + c)) j).1))), some (.int (nI j)), some (.int (nI (sp_rma (sp_mkn T c) (sp_rg (T (4 + c)) j) k))), some (.int (nI k)), some (.int (nI 0)), some (.int (nI (sp_after k (T (4 + c)) (j / 10) (j % 10)))), none]) dX11_next_79 (Nat.le_of_ble_eq_true rfl) rfl ?_
  refine gj_ic (w := 0) dX11_next_81 ?_
  refine gj_istore (L' := [some (.ref 100), some (.int (nI c)), some (.int (nI (sp_mkn T c))), some (.int (nI ((sp_rnx (sp_mkn T c) (T (4 + c)) j).2))), some (.int (nI ((sp_rnx (sp_mkn T c) (T (4 + c)) j).1))), some (.int (nI j)), some (.int (nI (sp_rma (sp_mkn T c) (sp_rg (T (4 + c)) j) k))), some (.int (nI k)), some (.int (nI 0)), some (.int (nI (sp_after k (T (4 + c)) (j / 10) (j % 10)))), some (.int (nI 0))]) dX11_next_82 (Nat.le_of_ble_eq_true rfl) rfl ?_
  refine gj_cast (L' := [some (.ref 100), some (.int (nI c)), some (.int (nI (sp_mkn T c))), some (.int (nI ((sp_rnx (sp_mkn T c) (T (4 + c)) j).2))), some (.int (nI ((sp_rnx (sp_mkn T c) (T (4 + c)) j).1))), some (.int (nI j)), some (.int (nI (sp_rma (sp_mkn T c) (sp_rg (T (4 + c)) j) k))), some (.int (nI k)), some (.int (nI (sp_rak (sp_mkn T c) (sp_rg (T (4 + c)) j) k 0))), some (.int (nI (sp_after k (T (4 + c)) (j / 10) (j % 10)))), some (.int (nI 0))]) (st' := []) (h' := h) rfl rfl rfl ?_
  refine gj_loop (fun o => [some (.ref 100), some (.int (nI c)), some (.int (nI (sp_mkn T c))), some (.int (nI ((sp_rnx (sp_mkn T c) (T (4 + c)) j).2))), some (.int (nI ((sp_rnx (sp_mkn T c) (T (4 + c)) j).1))), some (.int (nI j)), some (.int (nI (sp_rma (sp_mkn T c) (sp_rg (T (4 + c)) j) k))), some (.int (nI k)), some (.int (nI (sp_rak (sp_mkn T c) (sp_rg (T (4 + c)) j) k o))), some (.int (nI (sp_after k (T (4 + c)) (j / 10) (j % 10)))), some (.int (nI o))]) (fun o => h) 6 ?_ (fun o ho iho => ?_) 0 (Nat.zero_le _)
  · show gj _ _ _ _ _ _ [some (.ref 100), some (.int (nI c)), some (.int (nI (sp_mkn T c))), some (.int (nI ((sp_rnx (sp_mkn T c) (T (4 + c)) j).2))), some (.int (nI ((sp_rnx (sp_mkn T c) (T (4 + c)) j).1))), some (.int (nI j)), some (.int (nI (sp_rma (sp_mkn T c) (sp_rg (T (4 + c)) j) k))), some (.int (nI k)), some (.int (nI (sp_rak (sp_mkn T c) (sp_rg (T (4 + c)) j) k 6))), some (.int (nI (sp_after k (T (4 + c)) (j / 10) (j % 10)))), some (.int (nI 6))] _ _
    refine gj_iload dX11_next_84 rfl ?_
    refine gj_bp 6 dX11_next_86 (by decide) ?_
    refine gj_icmp_geN (tgt := 153) (by omega) (by omega) dX11_next_88 rfl (fun zq0 => ?_) (fun zq0 => ?_)
    rotate_left
    · exfalso; omega
    have hr8 := @sp_rak_le (sp_mkn T c) (sp_rg (T (4 + c)) j) k 6
    have hr7 := @sp_rma_le (sp_mkn T c) (sp_rg (T (4 + c)) j) k
    refine gj_iload dX11_next_153 rfl ?_
    refine gj_iload dX11_next_155 rfl ?_
    refine gj_icmp_leN (tgt := 165) (by omega) (by omega) dX11_next_157 rfl (fun zq10 => ?_) (fun zq10 => ?_)
    · -- 157 taken
      have hm9 := zq10
      refine gj_iload dX11_next_165 rfl ?_
      refine gj_istore (L' := [some (.ref 100), some (.int (nI c)), some (.int (nI (sp_mkn T c))), some (.int (nI ((sp_rnx (sp_mkn T c) (T (4 + c)) j).2))), some (.int (nI ((sp_rnx (sp_mkn T c) (T (4 + c)) j).1))), some (.int (nI j)), some (.int (nI (sp_rma (sp_mkn T c) (sp_rg (T (4 + c)) j) k))), some (.int (nI k)), some (.int (nI (sp_rak (sp_mkn T c) (sp_rg (T (4 + c)) j) k 6))), some (.int (nI (sp_after k (T (4 + c)) (j / 10) (j % 10)))), some (.int (nI 6))]) dX11_next_167 (Nat.le_of_ble_eq_true rfl) rfl ?_
      refine gj_iincN (L' := [some (.ref 100), some (.int (nI c)), some (.int (nI (sp_mkn T c))), some (.int (nI ((sp_rnx (sp_mkn T c) (T (4 + c)) j).2))), some (.int (nI ((sp_rnx (sp_mkn T c) (T (4 + c)) j).1))), some (.int (nI j)), some (.int (nI (sp_rma (sp_mkn T c) (sp_rg (T (4 + c)) j) k))), some (.int (nI (k + 1))), some (.int (nI (sp_rak (sp_mkn T c) (sp_rg (T (4 + c)) j) k 6))), some (.int (nI (sp_after k (T (4 + c)) (j / 10) (j % 10)))), some (.int (nI 6))]) dX11_next_169 rfl (Nat.le_of_ble_eq_true rfl) rfl ?_
      refine gj_goto (tgt := 46) dX11_next_172 rfl ?_
      refine gj_forget (i := 8) (L' := [some (.ref 100), some (.int (nI c)), some (.int (nI (sp_mkn T c))), some (.int (nI ((sp_rnx (sp_mkn T c) (T (4 + c)) j).2))), some (.int (nI ((sp_rnx (sp_mkn T c) (T (4 + c)) j).1))), some (.int (nI j)), some (.int (nI (sp_rma (sp_mkn T c) (sp_rg (T (4 + c)) j) k))), some (.int (nI (k + 1))), none, some (.int (nI (sp_after k (T (4 + c)) (j / 10) (j % 10)))), some (.int (nI 6))]) rfl ?_
      refine gj_forget (i := 9) (L' := [some (.ref 100), some (.int (nI c)), some (.int (nI (sp_mkn T c))), some (.int (nI ((sp_rnx (sp_mkn T c) (T (4 + c)) j).2))), some (.int (nI ((sp_rnx (sp_mkn T c) (T (4 + c)) j).1))), some (.int (nI j)), some (.int (nI (sp_rma (sp_mkn T c) (sp_rg (T (4 + c)) j) k))), some (.int (nI (k + 1))), none, none, some (.int (nI 6))]) rfl ?_
      refine gj_forget (i := 10) (L' := [some (.ref 100), some (.int (nI c)), some (.int (nI (sp_mkn T c))), some (.int (nI ((sp_rnx (sp_mkn T c) (T (4 + c)) j).2))), some (.int (nI ((sp_rnx (sp_mkn T c) (T (4 + c)) j).1))), some (.int (nI j)), some (.int (nI (sp_rma (sp_mkn T c) (sp_rg (T (4 + c)) j) k))), some (.int (nI (k + 1))), none, none, none]) rfl ?_
      first | exact absurd hm9 (by rw [sp_rak_0 ha9]; exact Nat.not_lt_zero _) | exact gj_cast (by rw [sp_rma_n ha9]) rfl rfl ihk | exact gj_cast (by rw [sp_rma_t hm9]) rfl rfl ihk | exact gj_cast (by rw [sp_rma_f hm9]) rfl rfl ihk
    have hm9 := zq10
    refine gj_iload dX11_next_160 rfl ?_
    refine gj_goto (tgt := 167) dX11_next_162 rfl ?_
    refine gj_istore (L' := [some (.ref 100), some (.int (nI c)), some (.int (nI (sp_mkn T c))), some (.int (nI ((sp_rnx (sp_mkn T c) (T (4 + c)) j).2))), some (.int (nI ((sp_rnx (sp_mkn T c) (T (4 + c)) j).1))), some (.int (nI j)), some (.int (nI (sp_rak (sp_mkn T c) (sp_rg (T (4 + c)) j) k 6))), some (.int (nI k)), some (.int (nI (sp_rak (sp_mkn T c) (sp_rg (T (4 + c)) j) k 6))), some (.int (nI (sp_after k (T (4 + c)) (j / 10) (j % 10)))), some (.int (nI 6))]) dX11_next_167 (Nat.le_of_ble_eq_true rfl) rfl ?_
    refine gj_iincN (L' := [some (.ref 100), some (.int (nI c)), some (.int (nI (sp_mkn T c))), some (.int (nI ((sp_rnx (sp_mkn T c) (T (4 + c)) j).2))), some (.int (nI ((sp_rnx (sp_mkn T c) (T (4 + c)) j).1))), some (.int (nI j)), some (.int (nI (sp_rak (sp_mkn T c) (sp_rg (T (4 + c)) j) k 6))), some (.int (nI (k + 1))), some (.int (nI (sp_rak (sp_mkn T c) (sp_rg (T (4 + c)) j) k 6))), some (.int (nI (sp_after k (T (4 + c)) (j / 10) (j % 10)))), some (.int (nI 6))]) dX11_next_169 rfl (Nat.le_of_ble_eq_true rfl) rfl ?_
    refine gj_goto (tgt := 46) dX11_next_172 rfl ?_
    refine gj_forget (i := 8) (L' := [some (.ref 100), some (.int (nI c)), some (.int (nI (sp_mkn T c))), some (.int (nI ((sp_rnx (sp_mkn T c) (T (4 + c)) j).2))), some (.int (nI ((sp_rnx (sp_mkn T c) (T (4 + c)) j).1))), some (.int (nI j)), some (.int (nI (sp_rak (sp_mkn T c) (sp_rg (T (4 + c)) j) k 6))), some (.int (nI (k + 1))), none, some (.int (nI (sp_after k (T (4 + c)) (j / 10) (j % 10)))), some (.int (nI 6))]) rfl ?_
    refine gj_forget (i := 9) (L' := [some (.ref 100), some (.int (nI c)), some (.int (nI (sp_mkn T c))), some (.int (nI ((sp_rnx (sp_mkn T c) (T (4 + c)) j).2))), some (.int (nI ((sp_rnx (sp_mkn T c) (T (4 + c)) j).1))), some (.int (nI j)), some (.int (nI (sp_rak (sp_mkn T c) (sp_rg (T (4 + c)) j) k 6))), some (.int (nI (k + 1))), none, none, some (.int (nI 6))]) rfl ?_
    refine gj_forget (i := 10) (L' := [some (.ref 100), some (.int (nI c)), some (.int (nI (sp_mkn T c))), some (.int (nI ((sp_rnx (sp_mkn T c) (T (4 + c)) j).2))), some (.int (nI ((sp_rnx (sp_mkn T c) (T (4 + c)) j).1))), some (.int (nI j)), some (.int (nI (sp_rak (sp_mkn T c) (sp_rg (T (4 + c)) j) k 6))), some (.int (nI (k + 1))), none, none, none]) rfl ?_
    first | exact absurd hm9 (by rw [sp_rak_0 ha9]; exact Nat.not_lt_zero _) | exact gj_cast (by rw [sp_rma_n ha9]) rfl rfl ihk | exact gj_cast (by rw [sp_rma_t hm9]) rfl rfl ihk | exact gj_cast (by rw [sp_rma_f hm9]) rfl rfl ihk
  show gj _ _ _ _ _ _ [some (.ref 100), some (.int (nI c)), some (.int (nI (sp_mkn T c))), some (.int (nI ((sp_rnx (sp_mkn T c) (T (4 + c)) j).2))), some (.int (nI ((sp_rnx (sp_mkn T c) (T (4 + c)) j).1))), some (.int (nI j)), some (.int (nI (sp_rma (sp_mkn T c) (sp_rg (T (4 + c)) j) k))), some (.int (nI k)), some (.int (nI (sp_rak (sp_mkn T c) (sp_rg (T (4 + c)) j) k o))), some (.int (nI (sp_after k (T (4 + c)) (j / 10) (j % 10)))), some (.int (nI o))] _ _
  refine gj_iload dX11_next_84 rfl ?_
  refine gj_bp 6 dX11_next_86 (by decide) ?_
  refine gj_icmp_geN (tgt := 153) (by omega) (by omega) dX11_next_88 rfl (fun zq11 => ?_) (fun zq11 => ?_)
  · exfalso; omega
  have hr9 := @sp_rak_le (sp_mkn T c) (sp_rg (T (4 + c)) j) k o
  have hkl := @sp_mkn_lt T c
  refine gj_iload_n dX11_next_91 rfl ?_
  refine gj_iload dX11_next_92 rfl ?_
  refine gj_S1 lkX11_161 (ev_X11_has (by omega) (by omega)) dX11_next_94 rfl rfl rfl rfl rfl ?_
  refine gj_if_eqb (tgt := 153) dX11_next_97 rfl (fun zq12 => ?_) (fun zq12 => ?_)
  · -- 97 taken
    have ha9 := zq12
    have hr8 := @sp_rak_le (sp_mkn T c) (sp_rg (T (4 + c)) j) k o
    have hr7 := @sp_rma_le (sp_mkn T c) (sp_rg (T (4 + c)) j) k
    refine gj_iload dX11_next_153 rfl ?_
    refine gj_iload dX11_next_155 rfl ?_
    refine gj_icmp_leN (tgt := 165) (by omega) (by omega) dX11_next_157 rfl (fun zq13 => ?_) (fun zq13 => ?_)
    · -- 157 taken
      have hm9 := zq13
      refine gj_iload dX11_next_165 rfl ?_
      refine gj_istore (L' := [some (.ref 100), some (.int (nI c)), some (.int (nI (sp_mkn T c))), some (.int (nI ((sp_rnx (sp_mkn T c) (T (4 + c)) j).2))), some (.int (nI ((sp_rnx (sp_mkn T c) (T (4 + c)) j).1))), some (.int (nI j)), some (.int (nI (sp_rma (sp_mkn T c) (sp_rg (T (4 + c)) j) k))), some (.int (nI k)), some (.int (nI (sp_rak (sp_mkn T c) (sp_rg (T (4 + c)) j) k o))), some (.int (nI (sp_after k (T (4 + c)) (j / 10) (j % 10)))), some (.int (nI o))]) dX11_next_167 (Nat.le_of_ble_eq_true rfl) rfl ?_
      refine gj_iincN (L' := [some (.ref 100), some (.int (nI c)), some (.int (nI (sp_mkn T c))), some (.int (nI ((sp_rnx (sp_mkn T c) (T (4 + c)) j).2))), some (.int (nI ((sp_rnx (sp_mkn T c) (T (4 + c)) j).1))), some (.int (nI j)), some (.int (nI (sp_rma (sp_mkn T c) (sp_rg (T (4 + c)) j) k))), some (.int (nI (k + 1))), some (.int (nI (sp_rak (sp_mkn T c) (sp_rg (T (4 + c)) j) k o))), some (.int (nI (sp_after k (T (4 + c)) (j / 10) (j % 10)))), some (.int (nI o))]) dX11_next_169 rfl (Nat.le_of_ble_eq_true rfl) rfl ?_
      refine gj_goto (tgt := 46) dX11_next_172 rfl ?_
      refine gj_forget (i := 8) (L' := [some (.ref 100), some (.int (nI c)), some (.int (nI (sp_mkn T c))), some (.int (nI ((sp_rnx (sp_mkn T c) (T (4 + c)) j).2))), some (.int (nI ((sp_rnx (sp_mkn T c) (T (4 + c)) j).1))), some (.int (nI j)), some (.int (nI (sp_rma (sp_mkn T c) (sp_rg (T (4 + c)) j) k))), some (.int (nI (k + 1))), none, some (.int (nI (sp_after k (T (4 + c)) (j / 10) (j % 10)))), some (.int (nI o))]) rfl ?_
      refine gj_forget (i := 9) (L' := [some (.ref 100), some (.int (nI c)), some (.int (nI (sp_mkn T c))), some (.int (nI ((sp_rnx (sp_mkn T c) (T (4 + c)) j).2))), some (.int (nI ((sp_rnx (sp_mkn T c) (T (4 + c)) j).1))), some (.int (nI j)), some (.int (nI (sp_rma (sp_mkn T c) (sp_rg (T (4 + c)) j) k))), some (.int (nI (k + 1))), none, none, some (.int (nI o))]) rfl ?_
      refine gj_forget (i := 10) (L' := [some (.ref 100), some (.int (nI c)), some (.int (nI (sp_mkn T c))), some (.int (nI ((sp_rnx (sp_mkn T c) (T (4 + c)) j).2))), some (.int (nI ((sp_rnx (sp_mkn T c) (T (4 + c)) j).1))), some (.int (nI j)), some (.int (nI (sp_rma (sp_mkn T c) (sp_rg (T (4 + c)) j) k))), some (.int (nI (k + 1))), none, none, none]) rfl ?_
      first | exact absurd hm9 (by rw [sp_rak_0 ha9]; exact Nat.not_lt_zero _) | exact gj_cast (by rw [sp_rma_n ha9]) rfl rfl ihk | exact gj_cast (by rw [sp_rma_t hm9]) rfl rfl ihk | exact gj_cast (by rw [sp_rma_f hm9]) rfl rfl ihk
    have hm9 := zq13
    refine gj_iload dX11_next_160 rfl ?_
    refine gj_goto (tgt := 167) dX11_next_162 rfl ?_
    refine gj_istore (L' := [some (.ref 100), some (.int (nI c)), some (.int (nI (sp_mkn T c))), some (.int (nI ((sp_rnx (sp_mkn T c) (T (4 + c)) j).2))), some (.int (nI ((sp_rnx (sp_mkn T c) (T (4 + c)) j).1))), some (.int (nI j)), some (.int (nI (sp_rak (sp_mkn T c) (sp_rg (T (4 + c)) j) k o))), some (.int (nI k)), some (.int (nI (sp_rak (sp_mkn T c) (sp_rg (T (4 + c)) j) k o))), some (.int (nI (sp_after k (T (4 + c)) (j / 10) (j % 10)))), some (.int (nI o))]) dX11_next_167 (Nat.le_of_ble_eq_true rfl) rfl ?_
    refine gj_iincN (L' := [some (.ref 100), some (.int (nI c)), some (.int (nI (sp_mkn T c))), some (.int (nI ((sp_rnx (sp_mkn T c) (T (4 + c)) j).2))), some (.int (nI ((sp_rnx (sp_mkn T c) (T (4 + c)) j).1))), some (.int (nI j)), some (.int (nI (sp_rak (sp_mkn T c) (sp_rg (T (4 + c)) j) k o))), some (.int (nI (k + 1))), some (.int (nI (sp_rak (sp_mkn T c) (sp_rg (T (4 + c)) j) k o))), some (.int (nI (sp_after k (T (4 + c)) (j / 10) (j % 10)))), some (.int (nI o))]) dX11_next_169 rfl (Nat.le_of_ble_eq_true rfl) rfl ?_
    refine gj_goto (tgt := 46) dX11_next_172 rfl ?_
    refine gj_forget (i := 8) (L' := [some (.ref 100), some (.int (nI c)), some (.int (nI (sp_mkn T c))), some (.int (nI ((sp_rnx (sp_mkn T c) (T (4 + c)) j).2))), some (.int (nI ((sp_rnx (sp_mkn T c) (T (4 + c)) j).1))), some (.int (nI j)), some (.int (nI (sp_rak (sp_mkn T c) (sp_rg (T (4 + c)) j) k o))), some (.int (nI (k + 1))), none, some (.int (nI (sp_after k (T (4 + c)) (j / 10) (j % 10)))), some (.int (nI o))]) rfl ?_
    refine gj_forget (i := 9) (L' := [some (.ref 100), some (.int (nI c)), some (.int (nI (sp_mkn T c))), some (.int (nI ((sp_rnx (sp_mkn T c) (T (4 + c)) j).2))), some (.int (nI ((sp_rnx (sp_mkn T c) (T (4 + c)) j).1))), some (.int (nI j)), some (.int (nI (sp_rak (sp_mkn T c) (sp_rg (T (4 + c)) j) k o))), some (.int (nI (k + 1))), none, none, some (.int (nI o))]) rfl ?_
    refine gj_forget (i := 10) (L' := [some (.ref 100), some (.int (nI c)), some (.int (nI (sp_mkn T c))), some (.int (nI ((sp_rnx (sp_mkn T c) (T (4 + c)) j).2))), some (.int (nI ((sp_rnx (sp_mkn T c) (T (4 + c)) j).1))), some (.int (nI j)), some (.int (nI (sp_rak (sp_mkn T c) (sp_rg (T (4 + c)) j) k o))), some (.int (nI (k + 1))), none, none, none]) rfl ?_
    first | exact absurd hm9 (by rw [sp_rak_0 ha9]; exact Nat.not_lt_zero _) | exact gj_cast (by rw [sp_rma_n ha9]) rfl rfl ihk | exact gj_cast (by rw [sp_rma_t hm9]) rfl rfl ihk | exact gj_cast (by rw [sp_rma_f hm9]) rfl rfl ihk
  have ha9 := zq12
  refine gj_iload dX11_next_100 rfl ?_
  refine gj_iload_n dX11_next_102 rfl ?_
  refine gj_iload dX11_next_103 rfl ?_
  refine gj_S1 lkX11_161 (ev_X11_has (by omega) (by omega)) dX11_next_105 rfl rfl rfl rfl rfl ?_
  refine gj_if_eqb (tgt := 143) dX11_next_108 rfl (fun zq14 => ?_) (fun zq14 => ?_)
  · -- 108 taken
    have hb9 := zq14
    refine gj_ic (w := 0) dX11_next_143 ?_
    refine gj_iaddN  dX11_next_144 ?_
    refine gj_istore (L' := [some (.ref 100), some (.int (nI c)), some (.int (nI (sp_mkn T c))), some (.int (nI ((sp_rnx (sp_mkn T c) (T (4 + c)) j).2))), some (.int (nI ((sp_rnx (sp_mkn T c) (T (4 + c)) j).1))), some (.int (nI j)), some (.int (nI (sp_rma (sp_mkn T c) (sp_rg (T (4 + c)) j) k))), some (.int (nI k)), some (.int (nI ((sp_rak (sp_mkn T c) (sp_rg (T (4 + c)) j) k o) + 0))), some (.int (nI (sp_after k (T (4 + c)) (j / 10) (j % 10)))), some (.int (nI o))]) dX11_next_145 (Nat.le_of_ble_eq_true rfl) rfl ?_
    refine gj_iincN (L' := [some (.ref 100), some (.int (nI c)), some (.int (nI (sp_mkn T c))), some (.int (nI ((sp_rnx (sp_mkn T c) (T (4 + c)) j).2))), some (.int (nI ((sp_rnx (sp_mkn T c) (T (4 + c)) j).1))), some (.int (nI j)), some (.int (nI (sp_rma (sp_mkn T c) (sp_rg (T (4 + c)) j) k))), some (.int (nI k)), some (.int (nI ((sp_rak (sp_mkn T c) (sp_rg (T (4 + c)) j) k o) + 0))), some (.int (nI (sp_after k (T (4 + c)) (j / 10) (j % 10)))), some (.int (nI (o + 1)))]) dX11_next_147 rfl (Nat.le_of_ble_eq_true rfl) rfl ?_
    refine gj_goto (tgt := 84) dX11_next_150 rfl ?_
    first | exact gj_cast (by rw [sp_rak_t ha9 hb9 hc9]) rfl rfl iho | exact gj_cast (by rw [sp_rak_f hc9]; rfl) rfl rfl iho | exact gj_cast (by rw [sp_rak_b hb9]; rfl) rfl rfl iho
  have hb9 := zq14
  refine gj_iload dX11_next_111 rfl ?_
  refine gj_aload_n dX11_next_113 rfl ?_
  refine gfX11_7 rfl dX11_next_114 H0 rfl ?_
  refine gj_ic (w := 4) dX11_next_117 ?_
  refine gj_iload_n dX11_next_118 rfl ?_
  refine gj_iaddN  dX11_next_119 ?_
  refine gj_ialdN dX11_next_120 HT (by omega) (by omega) ?_
  have hb15 := bT.2.2.2.2.2.1 c (by omega)
  refine gj_iload dX11_next_121 rfl ?_
  refine gj_bp 10 dX11_next_123 (by decide) ?_
  refine gj_idivN (by omega) (by omega) (by omega) dX11_next_125 ?_
  refine gj_iload dX11_next_126 rfl ?_
  refine gj_bp 10 dX11_next_128 (by decide) ?_
  refine gj_iremN (by omega) (by omega) (by omega) dX11_next_130 ?_
  refine gj_S1 lkX11_103 (ev_X11_behindDay (by omega) (by omega) (by omega) (by omega)) dX11_next_131 rfl rfl rfl rfl rfl ?_
  have hb16 := @sp_after_le o (T (4 + c)) (j / 10) (j % 10)
  refine gj_iload dX11_next_134 rfl ?_
  refine gj_icmp_neN (tgt := 143) (by omega) (by omega) dX11_next_136 rfl (fun zq17 => ?_) (fun zq17 => ?_)
  · -- 136 taken
    have hc9 : ¬ sp_rg (T (4 + c)) j o = sp_rg (T (4 + c)) j k := zq17
    refine gj_ic (w := 0) dX11_next_143 ?_
    refine gj_iaddN  dX11_next_144 ?_
    refine gj_istore (L' := [some (.ref 100), some (.int (nI c)), some (.int (nI (sp_mkn T c))), some (.int (nI ((sp_rnx (sp_mkn T c) (T (4 + c)) j).2))), some (.int (nI ((sp_rnx (sp_mkn T c) (T (4 + c)) j).1))), some (.int (nI j)), some (.int (nI (sp_rma (sp_mkn T c) (sp_rg (T (4 + c)) j) k))), some (.int (nI k)), some (.int (nI ((sp_rak (sp_mkn T c) (sp_rg (T (4 + c)) j) k o) + 0))), some (.int (nI (sp_after k (T (4 + c)) (j / 10) (j % 10)))), some (.int (nI o))]) dX11_next_145 (Nat.le_of_ble_eq_true rfl) rfl ?_
    refine gj_iincN (L' := [some (.ref 100), some (.int (nI c)), some (.int (nI (sp_mkn T c))), some (.int (nI ((sp_rnx (sp_mkn T c) (T (4 + c)) j).2))), some (.int (nI ((sp_rnx (sp_mkn T c) (T (4 + c)) j).1))), some (.int (nI j)), some (.int (nI (sp_rma (sp_mkn T c) (sp_rg (T (4 + c)) j) k))), some (.int (nI k)), some (.int (nI ((sp_rak (sp_mkn T c) (sp_rg (T (4 + c)) j) k o) + 0))), some (.int (nI (sp_after k (T (4 + c)) (j / 10) (j % 10)))), some (.int (nI (o + 1)))]) dX11_next_147 rfl (Nat.le_of_ble_eq_true rfl) rfl ?_
    refine gj_goto (tgt := 84) dX11_next_150 rfl ?_
    first | exact gj_cast (by rw [sp_rak_t ha9 hb9 hc9]) rfl rfl iho | exact gj_cast (by rw [sp_rak_f hc9]; rfl) rfl rfl iho | exact gj_cast (by rw [sp_rak_b hb9]; rfl) rfl rfl iho
  have hc9 : sp_rg (T (4 + c)) j o = sp_rg (T (4 + c)) j k := zq17
  refine gj_ic (w := 1) dX11_next_139 ?_
  refine gj_goto (tgt := 144) dX11_next_140 rfl ?_
  refine gj_iaddN  dX11_next_144 ?_
  refine gj_istore (L' := [some (.ref 100), some (.int (nI c)), some (.int (nI (sp_mkn T c))), some (.int (nI ((sp_rnx (sp_mkn T c) (T (4 + c)) j).2))), some (.int (nI ((sp_rnx (sp_mkn T c) (T (4 + c)) j).1))), some (.int (nI j)), some (.int (nI (sp_rma (sp_mkn T c) (sp_rg (T (4 + c)) j) k))), some (.int (nI k)), some (.int (nI ((sp_rak (sp_mkn T c) (sp_rg (T (4 + c)) j) k o) + 1))), some (.int (nI (sp_after k (T (4 + c)) (j / 10) (j % 10)))), some (.int (nI o))]) dX11_next_145 (Nat.le_of_ble_eq_true rfl) rfl ?_
  refine gj_iincN (L' := [some (.ref 100), some (.int (nI c)), some (.int (nI (sp_mkn T c))), some (.int (nI ((sp_rnx (sp_mkn T c) (T (4 + c)) j).2))), some (.int (nI ((sp_rnx (sp_mkn T c) (T (4 + c)) j).1))), some (.int (nI j)), some (.int (nI (sp_rma (sp_mkn T c) (sp_rg (T (4 + c)) j) k))), some (.int (nI k)), some (.int (nI ((sp_rak (sp_mkn T c) (sp_rg (T (4 + c)) j) k o) + 1))), some (.int (nI (sp_after k (T (4 + c)) (j / 10) (j % 10)))), some (.int (nI (o + 1)))]) dX11_next_147 rfl (Nat.le_of_ble_eq_true rfl) rfl ?_
  refine gj_goto (tgt := 84) dX11_next_150 rfl ?_
  first | exact gj_cast (by rw [sp_rak_t ha9 hb9 hc9]) rfl rfl iho | exact gj_cast (by rw [sp_rak_f hc9]; rfl) rfl rfl iho | exact gj_cast (by rw [sp_rak_b hb9]; rfl) rfl rfl iho
