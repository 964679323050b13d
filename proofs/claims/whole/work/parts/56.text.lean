theorem mj_row1_le {x m : Nat} (h : x ≤ m) : ∀ c, mj_row [x] c ≤ m := fun c => by
  cases c with
  | zero => exact h
  | succ c => show ([x].getD (c + 1) 0) ≤ m; rw [show [x].getD (c + 1) 0 = 0 from rfl]; exact Nat.zero_le _
theorem mj_u_id {C : Nat → Nat → Nat} {i : Nat} {K : Nat → Nat} (h : K = C i) : mj_u C i K = C := by rw [h, mj_u_self]
theorem ha0 {κ : Nat → Bool} {C : Nat → Nat → Nat} {t v : Nat} (h0 : C 7 1 = t) (h1 : C 7 2 = v) : hh κ C = hh κ (mj_u C 7 (mj_row [C 7 0, t, v])) := by
  rw [← hu7 (C := C) (z0 := C 7 0) (z1 := t) (z2 := v) rfl, mj_up_self (by rw [hc7, h0, h1])]
/-- the kinds behind m cells told -/
def sp_ckr (k : Nat → Nat) (v : Nat) (K : Nat → Nat) (m : Nat) : Nat → Nat := mj_fo (fun i K => mj_un K (k i) v) K m
theorem sp_ckr_s {k : Nat → Nat} {v : Nat} {K : Nat → Nat} {m : Nat} : sp_ckr k v K (m + 1) = mj_un (sp_ckr k v K m) (k m) v := mj_fo_s
theorem sp_ckr_le {k : Nat → Nat} {v l : Nat} {K : Nat → Nat} (h : ∀ c, K c ≤ l) (hv : v ≤ l) : ∀ m c, sp_ckr k v K m c ≤ l := by
  intro m
  induction m with
  | zero => exact h
  | succ m ih => rw [sp_ckr_s]; exact mj_un_le ih hv
theorem sp_run1 {B : Nat → Nat} {n t : Nat} (hn : n ≤ 150) (h0 : t < sp_tE B n) : ∀ j, (∀ i, i < j → sp_tt B n (t + i + 1) ≤ 24) → t + j < sp_tE B n := by
  intro j
  induction j with
  | zero => exact fun _ => h0
  | succ j ih =>
    intro hq
    have h1 := ih fun i hi => hq i (by omega)
    have h2 := hq j (by omega)
    exact sp_tE_lt hn (show t + j + 1 ≤ _ by omega) (show ¬ sp_tt B n (t + j + 1) = _ by omega)
theorem sp_run2 {B : Nat → Nat} {n t : Nat} (hn : n ≤ 150) (h0 : t < sp_tE B n) : ∀ j, (∀ i, i < j → sp_tt B n (t + 2 * i + 1) ≤ 9 ∧ sp_tt B n (t + 2 * i + 2) ≤ 9) → t + 2 * j < sp_tE B n := by
  intro j
  induction j with
  | zero => exact fun _ => h0
  | succ j ih =>
    intro hq
    have h1 := ih fun i hi => hq i (by omega)
    have h2 := hq j (by omega)
    have h3 := sp_tE_lt hn (show t + 2 * j + 1 ≤ _ by omega) (show ¬ sp_tt B n (t + 2 * j + 1) = _ by omega)
    exact sp_tE_lt hn (show t + 2 * j + 2 ≤ _ by omega) (show ¬ sp_tt B n (t + 2 * j + 2) = _ by omega)
/-- cells told behind t: which is none -/
def sp_cmp (B : Nat → Nat) (n t : Nat) : Nat → Bool := fun i => !decide (sp_tt B n (t + i + 1) ≤ 24)
theorem sp_cmp_f {B : Nat → Nat} {n t i : Nat} (h : sp_cmp B n t i = false) : sp_tt B n (t + i + 1) ≤ 24 := by
  unfold sp_cmp at h
  by_cases q : sp_tt B n (t + i + 1) ≤ 24
  · exact q
  · rw [decide_eq_false q] at h; exact absurd h (by decide)
/-- pairs told behind t: which is none -/
def sp_wmp (B : Nat → Nat) (n t : Nat) : Nat → Bool := fun i => !(decide (sp_tt B n (t + 2 * i + 1) ≤ 9) && decide (sp_tt B n (t + 2 * i + 2) ≤ 9))
theorem sp_wmp_f {B : Nat → Nat} {n t i : Nat} (h : sp_wmp B n t i = false) : sp_tt B n (t + 2 * i + 1) ≤ 9 ∧ sp_tt B n (t + 2 * i + 2) ≤ 9 := by
  unfold sp_wmp at h
  by_cases q : sp_tt B n (t + 2 * i + 1) ≤ 9 <;> by_cases z : sp_tt B n (t + 2 * i + 2) ≤ 9
  · exact ⟨q, z⟩
  all_goals (first | rw [decide_eq_false q] at h | skip) <;> (first | rw [decide_eq_false z] at h | skip) <;> simp at h
def sp_we (B : Nat → Nat) (n t m : Nat) : Nat := if m < 7 ∧ sp_tt B n (t + 2 * m + 1) ≤ 9 then t + 2 * m + 2 else t + 2 * m + 1
theorem sp_we_1 {B : Nat → Nat} {n t m : Nat} (h : 9 < sp_tt B n (t + 2 * m + 1)) : sp_we B n t m = t + 2 * m + 1 := if_neg (by omega)
theorem sp_we_2 {B : Nat → Nat} {n t m : Nat} (h : m < 7) (h2 : sp_tt B n (t + 2 * m + 1) ≤ 9) : sp_we B n t m = t + 2 * m + 2 := if_pos ⟨h, h2⟩
set_option maxHeartbeats 1000000 in
set_option maxRecDepth 10000 in
theorem ev_X5_cells_k {E : mj_E} {κ : Nat → Bool} {C : Nat → Nat → Nat} (I : mj_CI κ C) (hx : mj_tx C) {t : Nat} (h0 : C 7 1 = t) (h1 : C 7 2 = sp_tt (C 8) (C 7 0) t) (h2 : t < sp_tE (C 8) (C 7 0)) (h3 : ¬ sp_tt (C 8) (C 7 0) (t + 1) ≤ 5) : mj_Ev E iX5_cellsCome [.ref 7, .ref 41] (hh κ C) (mj_R (some (.int (mj_b false))) (hh κ (mj_u C 7 (mj_row [C 7 0, t + 1, sp_tt (C 8) (C 7 0) (t + 1)])))) := by
  have hl7x : C 7 0 ≤ 150 := I.2.2.2.2.2.2.1
  have hB : ∀ c, C 8 c ≤ 127 := I.2.2.2.2.2.2.2.1
  have hE := sp_tE_le (B := C 8) hl7x
  refine mj_Ev.of (L0 := [some (.ref 7), some (.ref 41), none, none]) pnRX5 (Nat.le_of_ble_eq_true rfl) rfl ?_
  refine gj_aload_n dX5_cellsCome_0 rfl ?_
  refine gj_ic (w := 0) dX5_cellsCome_1 ?_
  refine gj_ic (w := 5) dX5_cellsCome_2 ?_
  refine gj_V1 lkX5_38 (hc7 κ C) rfl rfl (ev_X5_numberComes (C := C) (t := t) I (show mj_tx C from hx) h0 h1 (show t < sp_tE (C 8) (C 7 0) by omega) (by decide) (by decide)) dX5_cellsCome_3 rfl rfl rfl rfl rfl ?_
  refine gj_if_neb (tgt := 11) dX5_cellsCome_6 rfl (fun zq1 => ?_) (fun zq1 => ?_)
  · exfalso; have := of_decide_eq_true zq1; omega
  refine gj_ic (w := 0) dX5_cellsCome_9 ?_
  exact gj_zr rfl dX5_cellsCome_10 rfl (mj_b0 (by decide)) rfl
set_option maxHeartbeats 1000000 in
set_option maxRecDepth 10000 in
theorem ev_X5_cells {E : mj_E} {κ : Nat → Bool} {C : Nat → Nat → Nat} (I : mj_CI κ C) (hx : mj_tx C) {t : Nat} (h0 : C 7 1 = t) (h1 : C 7 2 = sp_tt (C 8) (C 7 0) t) (h2 : t < sp_tE (C 8) (C 7 0)) (h3 : sp_tt (C 8) (C 7 0) (t + 1) ≤ 5) : mj_Ev E iX5_cellsCome [.ref 7, .ref 41] (hh κ C) (mj_R (some (.int (mj_b (decide (0 < (sp_fst (sp_cmp (C 8) (C 7 0) (t + 1)) 150) ∧ sp_tt (C 8) (C 7 0) (t + 1 + (sp_fst (sp_cmp (C 8) (C 7 0) (t + 1)) 150) + 1) = 4294967294))))) (hh κ (mj_u (mj_u C 7 (mj_row [C 7 0, t + 1 + (sp_fst (sp_cmp (C 8) (C 7 0) (t + 1)) 150) + 1, sp_tt (C 8) (C 7 0) (t + 1 + (sp_fst (sp_cmp (C 8) (C 7 0) (t + 1)) 150) + 1)])) 42 (sp_ckr (fun i => sp_tt (C 8) (C 7 0) (t + 1 + i + 1)) (sp_tt (C 8) (C 7 0) (t + 1)) (C 42) (sp_fst (sp_cmp (C 8) (C 7 0) (t + 1)) 150))))) := by
  have hl7x : C 7 0 ≤ 150 := I.2.2.2.2.2.2.1
  have hB : ∀ c, C 8 c ≤ 127 := I.2.2.2.2.2.2.2.1
  have hE := sp_tE_le (B := C 8) hl7x
  have hl1 : t + 1 < sp_tE (C 8) (C 7 0) := sp_tE_lt hl7x (by omega) (by omega)
  refine mj_Ev.of (L0 := [some (.ref 7), some (.ref 41), none, none]) pnRX5 (Nat.le_of_ble_eq_true rfl) rfl ?_
  refine gj_aload_n dX5_cellsCome_0 rfl ?_
  refine gj_ic (w := 0) dX5_cellsCome_1 ?_
  refine gj_ic (w := 5) dX5_cellsCome_2 ?_
  refine gj_V1 lkX5_38 (hc7 κ C) rfl rfl (ev_X5_numberComes (C := C) (t := t) I (show mj_tx C from hx) h0 h1 (show t < sp_tE (C 8) (C 7 0) by omega) (by decide) (by decide)) dX5_cellsCome_3 rfl rfl rfl rfl rfl ?_
  refine gj_if_neb (tgt := 11) dX5_cellsCome_6 rfl (fun zq1 => ?_) (fun zq1 => ?_)
  rotate_left
  · exfalso; exact absurd zq1 (by rw [decide_eq_true ⟨Nat.zero_le _, h3⟩]; decide)
  refine gj_aload_n dX5_cellsCome_11 rfl ?_
  refine gfX5_28 rfl dX5_cellsCome_12 (hc7 κ (mj_u C 7 (mj_row [C 7 0, t + 1, sp_tt (C 8) (C 7 0) (t + 1)]))) rfl ?_
  show gj _ _ _ _ _ _ _ ((.int (nI (sp_tt (C 8) (C 7 0) (t + 1))) : Value) :: _) _
  refine gj_istore_n (L' := [some (.ref 7), some (.ref 41), some (.int (nI (sp_tt (C 8) (C 7 0) (t + 1)))), none]) dX5_cellsCome_15 (Nat.le_of_ble_eq_true rfl) rfl ?_
  refine gj_ic (w := 0) dX5_cellsCome_16 ?_
  refine gj_istore_n (L' := [some (.ref 7), some (.ref 41), some (.int (nI (sp_tt (C 8) (C 7 0) (t + 1)))), some (.int (nI 0))]) dX5_cellsCome_17 (Nat.le_of_ble_eq_true rfl) rfl ?_
  refine gj_cast (L' := [some (.ref 7), some (.ref 41), some (.int (nI (sp_tt (C 8) (C 7 0) (t + 1)))), some (.int (nI 0))]) (st' := []) (h' := hh κ (mj_u (mj_u C 7 (mj_row [C 7 0, t + 1 + 0, sp_tt (C 8) (C 7 0) (t + 1 + 0)])) 42 (sp_ckr (fun i => sp_tt (C 8) (C 7 0) (t + 1 + i + 1)) (sp_tt (C 8) (C 7 0) (t + 1)) (C 42) 0))) rfl rfl (by rw [show sp_ckr (fun i => sp_tt (C 8) (C 7 0) (t + 1 + i + 1)) (sp_tt (C 8) (C 7 0) (t + 1)) (C 42) 0 = C 42 from rfl, mj_u_comm (show (7 : Nat) ≠ 42 by decide), mj_u_self]) ?_
  refine gj_loopI (fun j => ∀ i, i < j → (sp_cmp (C 8) (C 7 0) (t + 1)) i = false) (fun j => [some (.ref 7), some (.ref 41), some (.int (nI (sp_tt (C 8) (C 7 0) (t + 1)))), some (.int (nI j))]) (fun j => hh κ (mj_u (mj_u C 7 (mj_row [C 7 0, t + 1 + j, sp_tt (C 8) (C 7 0) (t + 1 + j)])) 42 (sp_ckr (fun i => sp_tt (C 8) (C 7 0) (t + 1 + i + 1)) (sp_tt (C 8) (C 7 0) (t + 1)) (C 42) j))) 150 (fun hq => ?_) (fun j hj hq ih => ?_) 0 (Nat.zero_le _) (fun i hi => absurd hi (Nat.not_lt_zero _))
  · show gj _ _ _ _ _ _ [some (.ref 7), some (.ref 41), some (.int (nI (sp_tt (C 8) (C 7 0) (t + 1)))), some (.int (nI 150))] _ _
    refine gj_iload_n dX5_cellsCome_18 rfl ?_
    refine gj_sp 150 dX5_cellsCome_19 (by decide) ?_
    refine gj_icmp_geN (tgt := 78) (by omega) (by omega) dX5_cellsCome_22 rfl (fun zq0 => ?_) (fun zq0 => ?_)
    rotate_left
    · exfalso; omega
    exfalso; have hlt := sp_run1 (B := C 8) (n := C 7 0) (t := t + 1) hl7x hl1 150 (fun i hi => sp_cmp_f (hq i hi)); omega
  show gj _ _ _ _ _ _ [some (.ref 7), some (.ref 41), some (.int (nI (sp_tt (C 8) (C 7 0) (t + 1)))), some (.int (nI j))] _ _
  refine gj_iload_n dX5_cellsCome_18 rfl ?_
  refine gj_sp 150 dX5_cellsCome_19 (by decide) ?_
  refine gj_icmp_geN (tgt := 78) (by omega) (by omega) dX5_cellsCome_22 rfl (fun zq2 => ?_) (fun zq2 => ?_)
  · exfalso; omega
  have hlt := sp_run1 (B := C 8) (n := C 7 0) (t := t + 1) hl7x hl1 j (fun i hi => sp_cmp_f (hq i hi))
  refine gj_aload_n dX5_cellsCome_25 rfl ?_
  refine gj_V0 lkX5_56 (hc7 κ (mj_u (mj_u C 7 (mj_row [C 7 0, t + 1 + j, sp_tt (C 8) (C 7 0) (t + 1 + j)])) 42 (sp_ckr (fun i => sp_tt (C 8) (C 7 0) (t + 1 + i + 1)) (sp_tt (C 8) (C 7 0) (t + 1)) (C 42) j))) rfl rfl (ev_X5_advance (C := (mj_u (mj_u C 7 (mj_row [C 7 0, t + 1 + j, sp_tt (C 8) (C 7 0) (t + 1 + j)])) 42 (sp_ckr (fun i => sp_tt (C 8) (C 7 0) (t + 1 + i + 1)) (sp_tt (C 8) (C 7 0) (t + 1)) (C 42) j))) (t := t + 1 + j) (mj_CI_40 (mj_CI_7 I) (by decide) (by decide) (by decide) (by decide) (show ∀ c, (sp_ckr (fun i => sp_tt (C 8) (C 7 0) (t + 1 + i + 1)) (sp_tt (C 8) (C 7 0) (t + 1)) (C 42) j) c ≤ 5 from (show ∀ c, (sp_ckr (fun i => sp_tt (C 8) (C 7 0) (t + 1 + i + 1)) (sp_tt (C 8) (C 7 0) (t + 1)) (C 42) j) c ≤ 5 from sp_ckr_le (show ∀ c, C 42 c ≤ 5 from I.2.1 2 (by decide)) (by omega) j))) (show mj_tx (mj_u (mj_u C 7 (mj_row [C 7 0, t + 1 + j, sp_tt (C 8) (C 7 0) (t + 1 + j)])) 42 (sp_ckr (fun i => sp_tt (C 8) (C 7 0) (t + 1 + i + 1)) (sp_tt (C 8) (C 7 0) (t + 1)) (C 42) j)) from hx) rfl rfl (show t + 1 + j < sp_tE (C 8) (C 7 0) by omega) ) dX5_cellsCome_26 rfl rfl rfl rfl rfl ?_
  refine gj_cast (h' := hh κ (mj_u (mj_u C 7 (mj_row [C 7 0, t + 1 + j + 1, sp_tt (C 8) (C 7 0) (t + 1 + j + 1)])) 42 (sp_ckr (fun i => sp_tt (C 8) (C 7 0) (t + 1 + i + 1)) (sp_tt (C 8) (C 7 0) (t + 1)) (C 42) j))) rfl rfl (congrArg (hh κ) (by funext x; unfold mj_u; (repeat' split) <;> first | rfl | omega)) ?_
  refine gj_aload_n dX5_cellsCome_29 rfl ?_
  refine gfX5_28 rfl dX5_cellsCome_30 (hc7 κ (mj_u (mj_u C 7 (mj_row [C 7 0, t + 1 + j + 1, sp_tt (C 8) (C 7 0) (t + 1 + j + 1)])) 42 (sp_ckr (fun i => sp_tt (C 8) (C 7 0) (t + 1 + i + 1)) (sp_tt (C 8) (C 7 0) (t + 1)) (C 42) j))) rfl ?_
  show gj _ _ _ _ _ _ _ ((.int (nI (sp_tt (C 8) (C 7 0) (t + 1 + j + 1))) : Value) :: _) _
  have htl := sp_tt_lt (n := C 7 0) (t := t + 1 + j + 1) hB
  refine gj_bipush (v := (-2)) dX5_cellsCome_33 (by decide) ?_
  refine gj_top (y := nI 4294967294) (by decide) ?_
  refine gj_icmp_neW (tgt := 48) (by omega) (by omega) dX5_cellsCome_35 rfl (fun zq3 => ?_) (fun zq3 => ?_)
  · -- 35 taken
    have hns9 := zq3
    refine gj_aload_n dX5_cellsCome_48 rfl ?_
    refine gfX5_28 rfl dX5_cellsCome_49 (hc7 κ (mj_u (mj_u C 7 (mj_row [C 7 0, t + 1 + j + 1, sp_tt (C 8) (C 7 0) (t + 1 + j + 1)])) 42 (sp_ckr (fun i => sp_tt (C 8) (C 7 0) (t + 1 + i + 1)) (sp_tt (C 8) (C 7 0) (t + 1)) (C 42) j))) rfl ?_
    show gj _ _ _ _ _ _ _ ((.int (nI (sp_tt (C 8) (C 7 0) (t + 1 + j + 1))) : Value) :: _) _
    refine gj_ic (w := 0) dX5_cellsCome_52 ?_
    refine gj_bp 24 dX5_cellsCome_53 (by decide) ?_
    refine gj_N1 lkX5_31 (ev_X10_within_w (by omega) (by omega) (by omega)) dX5_cellsCome_55 rfl rfl rfl rfl rfl ?_
    show gj _ _ _ _ _ _ _ ((.int (mj_b (decide (0 ≤ sp_tt (C 8) (C 7 0) (t + 1 + j + 1) ∧ sp_tt (C 8) (C 7 0) (t + 1 + j + 1) ≤ 24))) : Value) :: _) _
    refine gj_if_neb (tgt := 63) dX5_cellsCome_58 rfl (fun zq4 => ?_) (fun zq4 => ?_)
    · -- 58 taken
      have hin9 := (of_decide_eq_true zq4).2
      have hn9 : (sp_cmp (C 8) (C 7 0) (t + 1)) j = false := by unfold sp_cmp; rw [decide_eq_true (by omega)]; rfl
      refine gj_aload_n dX5_cellsCome_63 rfl ?_
      refine gj_aload_n dX5_cellsCome_64 rfl ?_
      refine gfX5_28 rfl dX5_cellsCome_65 (hc7 κ (mj_u (mj_u C 7 (mj_row [C 7 0, t + 1 + j + 1, sp_tt (C 8) (C 7 0) (t + 1 + j + 1)])) 42 (sp_ckr (fun i => sp_tt (C 8) (C 7 0) (t + 1 + i + 1)) (sp_tt (C 8) (C 7 0) (t + 1)) (C 42) j))) rfl ?_
      show gj _ _ _ _ _ _ _ ((.int (nI (sp_tt (C 8) (C 7 0) (t + 1 + j + 1))) : Value) :: _) _
      refine gj_iload_n dX5_cellsCome_68 rfl ?_
      refine gj_V0 lkX5_92 (hc41 κ (mj_u (mj_u C 7 (mj_row [C 7 0, t + 1 + j + 1, sp_tt (C 8) (C 7 0) (t + 1 + j + 1)])) 42 (sp_ckr (fun i => sp_tt (C 8) (C 7 0) (t + 1 + i + 1)) (sp_tt (C 8) (C 7 0) (t + 1)) (C 42) j))) rfl rfl (ev_X4_setKind ⟨(hc41 κ (mj_u (mj_u C 7 (mj_row [C 7 0, t + 1 + j + 1, sp_tt (C 8) (C 7 0) (t + 1 + j + 1)])) 42 (sp_ckr (fun i => sp_tt (C 8) (C 7 0) (t + 1 + i + 1)) (sp_tt (C 8) (C 7 0) (t + 1)) (C 42) j))), (hc42 κ (mj_u (mj_u C 7 (mj_row [C 7 0, t + 1 + j + 1, sp_tt (C 8) (C 7 0) (t + 1 + j + 1)])) 42 (sp_ckr (fun i => sp_tt (C 8) (C 7 0) (t + 1 + i + 1)) (sp_tt (C 8) (C 7 0) (t + 1)) (C 42) j))), (hc43 κ (mj_u (mj_u C 7 (mj_row [C 7 0, t + 1 + j + 1, sp_tt (C 8) (C 7 0) (t + 1 + j + 1)])) 42 (sp_ckr (fun i => sp_tt (C 8) (C 7 0) (t + 1 + i + 1)) (sp_tt (C 8) (C 7 0) (t + 1)) (C 42) j))), (by decide), (show ∀ c, (sp_ckr (fun i => sp_tt (C 8) (C 7 0) (t + 1 + i + 1)) (sp_tt (C 8) (C 7 0) (t + 1)) (C 42) j) c ≤ 5 from sp_ckr_le (show ∀ c, C 42 c ≤ 5 from I.2.1 2 (by decide)) (by omega) j), (show ∀ c, C 43 c ≤ 99 from I.2.1 3 (by decide))⟩ (by omega)) dX5_cellsCome_69 rfl rfl rfl rfl rfl ?_
      refine gj_cast (h' := hh κ (mj_u (mj_u C 7 (mj_row [C 7 0, t + 1 + j + 1, sp_tt (C 8) (C 7 0) (t + 1 + j + 1)])) 42 (mj_un (sp_ckr (fun i => sp_tt (C 8) (C 7 0) (t + 1 + i + 1)) (sp_tt (C 8) (C 7 0) (t + 1)) (C 42) j) (sp_tt (C 8) (C 7 0) (t + 1 + j + 1)) (sp_tt (C 8) (C 7 0) (t + 1))))) rfl rfl ((hu42 (C := (mj_u (mj_u C 7 (mj_row [C 7 0, t + 1 + j + 1, sp_tt (C 8) (C 7 0) (t + 1 + j + 1)])) 42 (sp_ckr (fun i => sp_tt (C 8) (C 7 0) (t + 1 + i + 1)) (sp_tt (C 8) (C 7 0) (t + 1)) (C 42) j))) (K := mj_un (sp_ckr (fun i => sp_tt (C 8) (C 7 0) (t + 1 + i + 1)) (sp_tt (C 8) (C 7 0) (t + 1)) (C 42) j) (sp_tt (C 8) (C 7 0) (t + 1 + j + 1)) (sp_tt (C 8) (C 7 0) (t + 1))) rfl).trans (congrArg (hh κ) (by funext x; unfold mj_u; (repeat' split) <;> first | rfl | omega))) ?_
      refine gj_iincN (L' := [some (.ref 7), some (.ref 41), some (.int (nI (sp_tt (C 8) (C 7 0) (t + 1)))), some (.int (nI (j + 1)))]) dX5_cellsCome_72 rfl (Nat.le_of_ble_eq_true rfl) rfl ?_
      refine gj_goto (tgt := 18) dX5_cellsCome_75 rfl ?_
      exact (ih (fun i hi => by by_cases q : i = j <;> first | (subst q; exact hn9) | exact hq i (by omega)))
    have hni9 := of_decide_eq_false zq4
    have hp9 : (sp_cmp (C 8) (C 7 0) (t + 1)) j = true := by unfold sp_cmp; rw [decide_eq_false (by omega)]; rfl
    have hm9 : (sp_fst (sp_cmp (C 8) (C 7 0) (t + 1)) 150) = j := sp_fst_at hj hp9 hq
    refine gj_ic (w := 0) dX5_cellsCome_61 ?_
    exact gj_zr rfl dX5_cellsCome_62 rfl (mj_b0 (by rw [hm9]; exact decide_eq_false (fun z => hns9 z.2))) (by rw [hm9])
  have hst9 := zq3
  have hp9 : (sp_cmp (C 8) (C 7 0) (t + 1)) j = true := by unfold sp_cmp; rw [decide_eq_false (by omega)]; rfl
  have hm9 : (sp_fst (sp_cmp (C 8) (C 7 0) (t + 1)) 150) = j := sp_fst_at hj hp9 hq
  refine gj_iload_n dX5_cellsCome_38 rfl ?_
  refine gj_if_leN (tgt := 46) (by omega) dX5_cellsCome_39 rfl (fun zq5 => ?_) (fun zq5 => ?_)
  · -- 39 taken
    refine gj_ic (w := 0) dX5_cellsCome_46 ?_
    exact gj_zr rfl dX5_cellsCome_47 rfl (mj_b0 (by rw [hm9]; first | exact decide_eq_true ⟨by omega, hst9⟩ | exact decide_eq_false (fun z => by omega))) (by rw [hm9])
  refine gj_ic (w := 1) dX5_cellsCome_42 ?_
  refine gj_goto (tgt := 47) dX5_cellsCome_43 rfl ?_
  exact gj_zr rfl dX5_cellsCome_47 rfl (mj_b1 (by rw [hm9]; first | exact decide_eq_true ⟨by omega, hst9⟩ | exact decide_eq_false (fun z => by omega))) (by rw [hm9])
set_option maxHeartbeats 1000000 in
set_option maxRecDepth 10000 in
theorem ev_X5_pairs {E : mj_E} {κ : Nat → Bool} {C : Nat → Nat → Nat} (I : mj_CI κ C) (hx : mj_tx C) {t : Nat} (h0 : C 7 1 = t) (h1 : C 7 2 = sp_tt (C 8) (C 7 0) t) (h2 : t < sp_tE (C 8) (C 7 0)) : mj_Ev E iX5_pairsCome [.ref 7, .ref 44] (hh κ C) (mj_R (some (.int (mj_b (decide (0 < (sp_fst (sp_wmp (C 8) (C 7 0) t) 7) ∧ sp_tt (C 8) (C 7 0) (t + 2 * (sp_fst (sp_wmp (C 8) (C 7 0) t) 7) + 1) = 4294967294))))) (hh κ (mj_u (mj_u (mj_u C 7 (mj_row [C 7 0, sp_we (C 8) (C 7 0) t (sp_fst (sp_wmp (C 8) (C 7 0) t) 7), sp_tt (C 8) (C 7 0) (sp_we (C 8) (C 7 0) t (sp_fst (sp_wmp (C 8) (C 7 0) t) 7))])) 45 (mj_mix (fun i => sp_tt (C 8) (C 7 0) (t + 2 * i + 1)) (C 45) (sp_fst (sp_wmp (C 8) (C 7 0) t) 7))) 46 (mj_mix (fun i => sp_tt (C 8) (C 7 0) (t + 2 * i + 2)) (C 46) (sp_fst (sp_wmp (C 8) (C 7 0) t) 7))))) := by
  have hl7x : C 7 0 ≤ 150 := I.2.2.2.2.2.2.1
  have hB : ∀ c, C 8 c ≤ 127 := I.2.2.2.2.2.2.2.1
  have hE := sp_tE_le (B := C 8) hl7x
  refine mj_Ev.of (L0 := [some (.ref 7), some (.ref 44), none, none]) pnRX5 (Nat.le_of_ble_eq_true rfl) rfl ?_
  refine gj_ic (w := 0) dX5_pairsCome_0 ?_
  refine gj_istore_n (L' := [some (.ref 7), some (.ref 44), some (.int (nI 0)), none]) dX5_pairsCome_1 (Nat.le_of_ble_eq_true rfl) rfl ?_
  refine gj_cast (L' := [some (.ref 7), some (.ref 44), some (.int (nI 0)), none]) (st' := []) (h' := hh κ (mj_u (mj_u (mj_u C 7 (mj_row [C 7 0, t + 2 * 0, sp_tt (C 8) (C 7 0) (t + 2 * 0)])) 45 (mj_mix (fun i => sp_tt (C 8) (C 7 0) (t + 2 * i + 1)) (C 45) 0)) 46 (mj_mix (fun i => sp_tt (C 8) (C 7 0) (t + 2 * i + 2)) (C 46) 0))) rfl rfl (by rw [mj_mix_0, mj_mix_0]; exact (ha0 h0 h1).trans (congrArg (hh κ) (Eq.symm ((mj_u_id rfl).trans (mj_u_id rfl))))) ?_
  refine gj_loopI (fun j => ∀ i, i < j → (sp_wmp (C 8) (C 7 0) t) i = false) (fun j => [some (.ref 7), some (.ref 44), some (.int (nI j)), none]) (fun j => hh κ (mj_u (mj_u (mj_u C 7 (mj_row [C 7 0, t + 2 * j, sp_tt (C 8) (C 7 0) (t + 2 * j)])) 45 (mj_mix (fun i => sp_tt (C 8) (C 7 0) (t + 2 * i + 1)) (C 45) j)) 46 (mj_mix (fun i => sp_tt (C 8) (C 7 0) (t + 2 * i + 2)) (C 46) j))) 7 (fun hq => ?_) (fun j hj hq ih => ?_) 0 (Nat.zero_le _) (fun i hi => absurd hi (Nat.not_lt_zero _))
  · show gj _ _ _ _ _ _ [some (.ref 7), some (.ref 44), some (.int (nI 7)), none] _ _
    refine gj_iload_n dX5_pairsCome_2 rfl ?_
    refine gj_bp 7 dX5_pairsCome_3 (by decide) ?_
    refine gj_icmp_geN (tgt := 74) (by omega) (by omega) dX5_pairsCome_5 rfl (fun zq0 => ?_) (fun zq0 => ?_)
    rotate_left
    · exfalso; omega
    have hlt := sp_run2 (B := C 8) (n := C 7 0) (t := t) hl7x h2 7 (fun i hi => sp_wmp_f (hq i hi))
    refine gj_aload_n dX5_pairsCome_74 rfl ?_
    refine gj_V1 lkX5_52 (hc7 κ (mj_u (mj_u (mj_u C 7 (mj_row [C 7 0, t + 2 * 7, sp_tt (C 8) (C 7 0) (t + 2 * 7)])) 45 (mj_mix (fun i => sp_tt (C 8) (C 7 0) (t + 2 * i + 1)) (C 45) 7)) 46 (mj_mix (fun i => sp_tt (C 8) (C 7 0) (t + 2 * i + 2)) (C 46) 7))) rfl rfl (ev_X5_stopComes (C := (mj_u (mj_u (mj_u C 7 (mj_row [C 7 0, t + 2 * 7, sp_tt (C 8) (C 7 0) (t + 2 * 7)])) 45 (mj_mix (fun i => sp_tt (C 8) (C 7 0) (t + 2 * i + 1)) (C 45) 7)) 46 (mj_mix (fun i => sp_tt (C 8) (C 7 0) (t + 2 * i + 2)) (C 46) 7))) (t := t + 2 * 7) (mj_CI_40 (mj_CI_40 (mj_CI_7 I) (by decide) (by decide) (by decide) (by decide) (show ∀ c, (mj_mix (fun i => sp_tt (C 8) (C 7 0) (t + 2 * i + 1)) (C 45) 7) c ≤ 9 from (show ∀ c, (mj_mix (fun i => sp_tt (C 8) (C 7 0) (t + 2 * i + 1)) (C 45) 7) c ≤ 9 from mj_mix_le (fun i hi => (sp_wmp_f (hq i hi)).1) (show ∀ c, C 45 c ≤ 9 from I.2.1 5 (by decide))))) (by decide) (by decide) (by decide) (by decide) (show ∀ c, (mj_mix (fun i => sp_tt (C 8) (C 7 0) (t + 2 * i + 2)) (C 46) 7) c ≤ 9 from (show ∀ c, (mj_mix (fun i => sp_tt (C 8) (C 7 0) (t + 2 * i + 2)) (C 46) 7) c ≤ 9 from mj_mix_le (fun i hi => (sp_wmp_f (hq i hi)).2) (show ∀ c, C 46 c ≤ 9 from I.2.1 6 (by decide))))) (show mj_tx (mj_u (mj_u (mj_u C 7 (mj_row [C 7 0, t + 2 * 7, sp_tt (C 8) (C 7 0) (t + 2 * 7)])) 45 (mj_mix (fun i => sp_tt (C 8) (C 7 0) (t + 2 * i + 1)) (C 45) 7)) 46 (mj_mix (fun i => sp_tt (C 8) (C 7 0) (t + 2 * i + 2)) (C 46) 7)) from hx) rfl rfl (show t + 2 * 7 < sp_tE (C 8) (C 7 0) by omega) ) dX5_pairsCome_75 rfl rfl rfl rfl rfl ?_
    refine gj_cast (h' := hh κ (mj_u (mj_u (mj_u C 7 (mj_row [C 7 0, t + 2 * 7 + 1, sp_tt (C 8) (C 7 0) (t + 2 * 7 + 1)])) 45 (mj_mix (fun i => sp_tt (C 8) (C 7 0) (t + 2 * i + 1)) (C 45) 7)) 46 (mj_mix (fun i => sp_tt (C 8) (C 7 0) (t + 2 * i + 2)) (C 46) 7))) rfl rfl (congrArg (hh κ) (by funext x; unfold mj_u; (repeat' split) <;> first | rfl | omega)) ?_
    show gj _ _ _ _ _ _ _ ((.int (mj_b (decide (sp_tt (C 8) (C 7 0) (t + 2 * 7 + 1) = 4294967294))) : Value) :: _) _
    exact gj_zr rfl dX5_pairsCome_78 rfl (congrArg mj_b (by rw [sp_fst_none hq]; exact decide_eq_decide.mpr ⟨fun z => ⟨by decide, z⟩, fun z => z.2⟩)) (by rw [sp_fst_none hq]; unfold sp_we; rw [if_neg (by omega)])
  show gj _ _ _ _ _ _ [some (.ref 7), some (.ref 44), some (.int (nI j)), none] _ _
  refine gj_iload_n dX5_pairsCome_2 rfl ?_
  refine gj_bp 7 dX5_pairsCome_3 (by decide) ?_
  refine gj_icmp_geN (tgt := 74) (by omega) (by omega) dX5_pairsCome_5 rfl (fun zq1 => ?_) (fun zq1 => ?_)
  · exfalso; omega
  have hlt := sp_run2 (B := C 8) (n := C 7 0) (t := t) hl7x h2 j (fun i hi => sp_wmp_f (hq i hi))
  refine gj_aload_n dX5_pairsCome_8 rfl ?_
  refine gj_V0 lkX5_56 (hc7 κ (mj_u (mj_u (mj_u C 7 (mj_row [C 7 0, t + 2 * j, sp_tt (C 8) (C 7 0) (t + 2 * j)])) 45 (mj_mix (fun i => sp_tt (C 8) (C 7 0) (t + 2 * i + 1)) (C 45) j)) 46 (mj_mix (fun i => sp_tt (C 8) (C 7 0) (t + 2 * i + 2)) (C 46) j))) rfl rfl (ev_X5_advance (C := (mj_u (mj_u (mj_u C 7 (mj_row [C 7 0, t + 2 * j, sp_tt (C 8) (C 7 0) (t + 2 * j)])) 45 (mj_mix (fun i => sp_tt (C 8) (C 7 0) (t + 2 * i + 1)) (C 45) j)) 46 (mj_mix (fun i => sp_tt (C 8) (C 7 0) (t + 2 * i + 2)) (C 46) j))) (t := t + 2 * j) (mj_CI_40 (mj_CI_40 (mj_CI_7 I) (by decide) (by decide) (by decide) (by decide) (show ∀ c, (mj_mix (fun i => sp_tt (C 8) (C 7 0) (t + 2 * i + 1)) (C 45) j) c ≤ 9 from (show ∀ c, (mj_mix (fun i => sp_tt (C 8) (C 7 0) (t + 2 * i + 1)) (C 45) j) c ≤ 9 from mj_mix_le (fun i hi => (sp_wmp_f (hq i hi)).1) (show ∀ c, C 45 c ≤ 9 from I.2.1 5 (by decide))))) (by decide) (by decide) (by decide) (by decide) (show ∀ c, (mj_mix (fun i => sp_tt (C 8) (C 7 0) (t + 2 * i + 2)) (C 46) j) c ≤ 9 from (show ∀ c, (mj_mix (fun i => sp_tt (C 8) (C 7 0) (t + 2 * i + 2)) (C 46) j) c ≤ 9 from mj_mix_le (fun i hi => (sp_wmp_f (hq i hi)).2) (show ∀ c, C 46 c ≤ 9 from I.2.1 6 (by decide))))) (show mj_tx (mj_u (mj_u (mj_u C 7 (mj_row [C 7 0, t + 2 * j, sp_tt (C 8) (C 7 0) (t + 2 * j)])) 45 (mj_mix (fun i => sp_tt (C 8) (C 7 0) (t + 2 * i + 1)) (C 45) j)) 46 (mj_mix (fun i => sp_tt (C 8) (C 7 0) (t + 2 * i + 2)) (C 46) j)) from hx) rfl rfl (show t + 2 * j < sp_tE (C 8) (C 7 0) by omega) ) dX5_pairsCome_9 rfl rfl rfl rfl rfl ?_
  refine gj_cast (h' := hh κ (mj_u (mj_u (mj_u C 7 (mj_row [C 7 0, t + 2 * j + 1, sp_tt (C 8) (C 7 0) (t + 2 * j + 1)])) 45 (mj_mix (fun i => sp_tt (C 8) (C 7 0) (t + 2 * i + 1)) (C 45) j)) 46 (mj_mix (fun i => sp_tt (C 8) (C 7 0) (t + 2 * i + 2)) (C 46) j))) rfl rfl (congrArg (hh κ) (by funext x; unfold mj_u; (repeat' split) <;> first | rfl | omega)) ?_
  refine gj_aload_n dX5_pairsCome_12 rfl ?_
  refine gfX5_28 rfl dX5_pairsCome_13 (hc7 κ (mj_u (mj_u (mj_u C 7 (mj_row [C 7 0, t + 2 * j + 1, sp_tt (C 8) (C 7 0) (t + 2 * j + 1)])) 45 (mj_mix (fun i => sp_tt (C 8) (C 7 0) (t + 2 * i + 1)) (C 45) j)) 46 (mj_mix (fun i => sp_tt (C 8) (C 7 0) (t + 2 * i + 2)) (C 46) j))) rfl ?_
  show gj _ _ _ _ _ _ _ ((.int (nI (sp_tt (C 8) (C 7 0) (t + 2 * j + 1))) : Value) :: _) _
  have htl := sp_tt_lt (n := C 7 0) (t := t + 2 * j + 1) hB
  refine gj_bipush (v := (-2)) dX5_pairsCome_16 (by decide) ?_
  refine gj_top (y := nI 4294967294) (by decide) ?_
  refine gj_icmp_neW (tgt := 31) (by omega) (by omega) dX5_pairsCome_18 rfl (fun zq2 => ?_) (fun zq2 => ?_)
  · -- 18 taken
    have hns9 := zq2
    refine gj_aload_n dX5_pairsCome_31 rfl ?_
    refine gfX5_28 rfl dX5_pairsCome_32 (hc7 κ (mj_u (mj_u (mj_u C 7 (mj_row [C 7 0, t + 2 * j + 1, sp_tt (C 8) (C 7 0) (t + 2 * j + 1)])) 45 (mj_mix (fun i => sp_tt (C 8) (C 7 0) (t + 2 * i + 1)) (C 45) j)) 46 (mj_mix (fun i => sp_tt (C 8) (C 7 0) (t + 2 * i + 2)) (C 46) j))) rfl ?_
    show gj _ _ _ _ _ _ _ ((.int (nI (sp_tt (C 8) (C 7 0) (t + 2 * j + 1))) : Value) :: _) _
    refine gj_istore_n (L' := [some (.ref 7), some (.ref 44), some (.int (nI j)), some (.int (nI (sp_tt (C 8) (C 7 0) (t + 2 * j + 1))))]) dX5_pairsCome_35 (Nat.le_of_ble_eq_true rfl) rfl ?_
    refine gj_iload_n dX5_pairsCome_36 rfl ?_
    refine gj_ic (w := 0) dX5_pairsCome_37 ?_
    refine gj_bp 9 dX5_pairsCome_38 (by decide) ?_
    refine gj_N1 lkX5_31 (ev_X10_within_w (by omega) (by omega) (by omega)) dX5_pairsCome_40 rfl rfl rfl rfl rfl ?_
    show gj _ _ _ _ _ _ _ ((.int (mj_b (decide (0 ≤ sp_tt (C 8) (C 7 0) (t + 2 * j + 1) ∧ sp_tt (C 8) (C 7 0) (t + 2 * j + 1) ≤ 9))) : Value) :: _) _
    refine gj_if_eqb (tgt := 56) dX5_pairsCome_43 rfl (fun zq3 => ?_) (fun zq3 => ?_)
    · -- 43 taken
      have hbd9 := of_decide_eq_false zq3
      have hp9 : (sp_wmp (C 8) (C 7 0) t) j = true := by unfold sp_wmp; rw [decide_eq_false (by omega)]; rfl
      have hm9 : (sp_fst (sp_wmp (C 8) (C 7 0) t) 7) = j := sp_fst_at hj hp9 hq
      refine gj_ic (w := 0) dX5_pairsCome_56 ?_
      exact gj_zr rfl dX5_pairsCome_57 rfl (mj_b0 (by rw [hm9]; exact decide_eq_false (fun z => by omega))) (by rw [hm9]; first | rw [sp_we_2 hj hgd9] | rw [sp_we_1 (by omega)])
    have hgd9 := (of_decide_eq_true zq3).2
    have hl1 : t + 2 * j + 1 < sp_tE (C 8) (C 7 0) := sp_tE_lt hl7x (by omega) (by omega)
    refine gj_aload_n dX5_pairsCome_46 rfl ?_
    refine gj_ic (w := 0) dX5_pairsCome_47 ?_
    refine gj_bp 9 dX5_pairsCome_48 (by decide) ?_
    refine gj_V1 lkX5_38 (hc7 κ (mj_u (mj_u (mj_u C 7 (mj_row [C 7 0, t + 2 * j + 1, sp_tt (C 8) (C 7 0) (t + 2 * j + 1)])) 45 (mj_mix (fun i => sp_tt (C 8) (C 7 0) (t + 2 * i + 1)) (C 45) j)) 46 (mj_mix (fun i => sp_tt (C 8) (C 7 0) (t + 2 * i + 2)) (C 46) j))) rfl rfl (ev_X5_numberComes (C := (mj_u (mj_u (mj_u C 7 (mj_row [C 7 0, t + 2 * j + 1, sp_tt (C 8) (C 7 0) (t + 2 * j + 1)])) 45 (mj_mix (fun i => sp_tt (C 8) (C 7 0) (t + 2 * i + 1)) (C 45) j)) 46 (mj_mix (fun i => sp_tt (C 8) (C 7 0) (t + 2 * i + 2)) (C 46) j))) (t := t + 2 * j + 1) (mj_CI_40 (mj_CI_40 (mj_CI_7 I) (by decide) (by decide) (by decide) (by decide) (show ∀ c, (mj_mix (fun i => sp_tt (C 8) (C 7 0) (t + 2 * i + 1)) (C 45) j) c ≤ 9 from (show ∀ c, (mj_mix (fun i => sp_tt (C 8) (C 7 0) (t + 2 * i + 1)) (C 45) j) c ≤ 9 from mj_mix_le (fun i hi => (sp_wmp_f (hq i hi)).1) (show ∀ c, C 45 c ≤ 9 from I.2.1 5 (by decide))))) (by decide) (by decide) (by decide) (by decide) (show ∀ c, (mj_mix (fun i => sp_tt (C 8) (C 7 0) (t + 2 * i + 2)) (C 46) j) c ≤ 9 from (show ∀ c, (mj_mix (fun i => sp_tt (C 8) (C 7 0) (t + 2 * i + 2)) (C 46) j) c ≤ 9 from mj_mix_le (fun i hi => (sp_wmp_f (hq i hi)).2) (show ∀ c, C 46 c ≤ 9 from I.2.1 6 (by decide))))) (show mj_tx (mj_u (mj_u (mj_u C 7 (mj_row [C 7 0, t + 2 * j + 1, sp_tt (C 8) (C 7 0) (t + 2 * j + 1)])) 45 (mj_mix (fun i => sp_tt (C 8) (C 7 0) (t + 2 * i + 1)) (C 45) j)) 46 (mj_mix (fun i => sp_tt (C 8) (C 7 0) (t + 2 * i + 2)) (C 46) j)) from hx) rfl rfl (show t + 2 * j + 1 < sp_tE (C 8) (C 7 0) by omega) (by decide) (by decide)) dX5_pairsCome_50 rfl rfl rfl rfl rfl ?_
    refine gj_cast (h' := hh κ (mj_u (mj_u (mj_u C 7 (mj_row [C 7 0, t + 2 * j + 2, sp_tt (C 8) (C 7 0) (t + 2 * j + 2)])) 45 (mj_mix (fun i => sp_tt (C 8) (C 7 0) (t + 2 * i + 1)) (C 45) j)) 46 (mj_mix (fun i => sp_tt (C 8) (C 7 0) (t + 2 * i + 2)) (C 46) j))) rfl rfl (congrArg (hh κ) (by funext x; unfold mj_u; (repeat' split) <;> first | rfl | omega)) ?_
    show gj _ _ _ _ _ _ _ ((.int (mj_b (decide (0 ≤ sp_tt (C 8) (C 7 0) (t + 2 * j + 2) ∧ sp_tt (C 8) (C 7 0) (t + 2 * j + 2) ≤ 9))) : Value) :: _) _
    refine gj_if_neb (tgt := 58) dX5_pairsCome_53 rfl (fun zq4 => ?_) (fun zq4 => ?_)
    · -- 53 taken
      have hgd8 := (of_decide_eq_true zq4).2
      have hn9 : (sp_wmp (C 8) (C 7 0) t) j = false := by unfold sp_wmp; rw [decide_eq_true hgd9, decide_eq_true hgd8]; rfl
      refine gj_aload_n dX5_pairsCome_58 rfl ?_
      refine gj_iload_n dX5_pairsCome_59 rfl ?_
      refine gj_iload_n dX5_pairsCome_60 rfl ?_
      refine gj_aload_n dX5_pairsCome_61 rfl ?_
      refine gfX5_28 rfl dX5_pairsCome_62 (hc7 κ (mj_u (mj_u (mj_u C 7 (mj_row [C 7 0, t + 2 * j + 2, sp_tt (C 8) (C 7 0) (t + 2 * j + 2)])) 45 (mj_mix (fun i => sp_tt (C 8) (C 7 0) (t + 2 * i + 1)) (C 45) j)) 46 (mj_mix (fun i => sp_tt (C 8) (C 7 0) (t + 2 * i + 2)) (C 46) j))) rfl ?_
      show gj _ _ _ _ _ _ _ ((.int (nI (sp_tt (C 8) (C 7 0) (t + 2 * j + 2))) : Value) :: _) _
      refine gj_V0 lkX5_98 (hc44 κ (mj_u (mj_u (mj_u C 7 (mj_row [C 7 0, t + 2 * j + 2, sp_tt (C 8) (C 7 0) (t + 2 * j + 2)])) 45 (mj_mix (fun i => sp_tt (C 8) (C 7 0) (t + 2 * i + 1)) (C 45) j)) 46 (mj_mix (fun i => sp_tt (C 8) (C 7 0) (t + 2 * i + 2)) (C 46) j))) rfl rfl (ev_X9_set ⟨(hc44 κ (mj_u (mj_u (mj_u C 7 (mj_row [C 7 0, t + 2 * j + 2, sp_tt (C 8) (C 7 0) (t + 2 * j + 2)])) 45 (mj_mix (fun i => sp_tt (C 8) (C 7 0) (t + 2 * i + 1)) (C 45) j)) 46 (mj_mix (fun i => sp_tt (C 8) (C 7 0) (t + 2 * i + 2)) (C 46) j))), (hc45 κ (mj_u (mj_u (mj_u C 7 (mj_row [C 7 0, t + 2 * j + 2, sp_tt (C 8) (C 7 0) (t + 2 * j + 2)])) 45 (mj_mix (fun i => sp_tt (C 8) (C 7 0) (t + 2 * i + 1)) (C 45) j)) 46 (mj_mix (fun i => sp_tt (C 8) (C 7 0) (t + 2 * i + 2)) (C 46) j))), (hc46 κ (mj_u (mj_u (mj_u C 7 (mj_row [C 7 0, t + 2 * j + 2, sp_tt (C 8) (C 7 0) (t + 2 * j + 2)])) 45 (mj_mix (fun i => sp_tt (C 8) (C 7 0) (t + 2 * i + 1)) (C 45) j)) 46 (mj_mix (fun i => sp_tt (C 8) (C 7 0) (t + 2 * i + 2)) (C 46) j))), (by decide), (show ∀ c, (mj_mix (fun i => sp_tt (C 8) (C 7 0) (t + 2 * i + 1)) (C 45) j) c ≤ 9 from mj_mix_le (fun i hi => (sp_wmp_f (hq i hi)).1) (show ∀ c, C 45 c ≤ 9 from I.2.1 5 (by decide))), (show ∀ c, (mj_mix (fun i => sp_tt (C 8) (C 7 0) (t + 2 * i + 2)) (C 46) j) c ≤ 9 from mj_mix_le (fun i hi => (sp_wmp_f (hq i hi)).2) (show ∀ c, C 46 c ≤ 9 from I.2.1 6 (by decide)))⟩ (by omega)) dX5_pairsCome_65 rfl rfl rfl rfl rfl ?_
      refine gj_cast (h' := hh κ (mj_u (mj_u (mj_u C 7 (mj_row [C 7 0, t + 2 * j + 2, sp_tt (C 8) (C 7 0) (t + 2 * j + 2)])) 45 (mj_un (mj_mix (fun i => sp_tt (C 8) (C 7 0) (t + 2 * i + 1)) (C 45) j) j (sp_tt (C 8) (C 7 0) (t + 2 * j + 1)))) 46 (mj_un (mj_mix (fun i => sp_tt (C 8) (C 7 0) (t + 2 * i + 2)) (C 46) j) j (sp_tt (C 8) (C 7 0) (t + 2 * j + 2))))) rfl rfl ((hu46 (C := (mj_u (mj_u (mj_u (mj_u C 7 (mj_row [C 7 0, t + 2 * j + 2, sp_tt (C 8) (C 7 0) (t + 2 * j + 2)])) 45 (mj_mix (fun i => sp_tt (C 8) (C 7 0) (t + 2 * i + 1)) (C 45) j)) 46 (mj_mix (fun i => sp_tt (C 8) (C 7 0) (t + 2 * i + 2)) (C 46) j)) 45 (mj_un (mj_mix (fun i => sp_tt (C 8) (C 7 0) (t + 2 * i + 1)) (C 45) j) j (sp_tt (C 8) (C 7 0) (t + 2 * j + 1))))) (K := mj_un (mj_mix (fun i => sp_tt (C 8) (C 7 0) (t + 2 * i + 2)) (C 46) j) j (sp_tt (C 8) (C 7 0) (t + 2 * j + 2))) (hu45 (C := (mj_u (mj_u (mj_u C 7 (mj_row [C 7 0, t + 2 * j + 2, sp_tt (C 8) (C 7 0) (t + 2 * j + 2)])) 45 (mj_mix (fun i => sp_tt (C 8) (C 7 0) (t + 2 * i + 1)) (C 45) j)) 46 (mj_mix (fun i => sp_tt (C 8) (C 7 0) (t + 2 * i + 2)) (C 46) j))) (K := mj_un (mj_mix (fun i => sp_tt (C 8) (C 7 0) (t + 2 * i + 1)) (C 45) j) j (sp_tt (C 8) (C 7 0) (t + 2 * j + 1))) rfl)).trans (congrArg (hh κ) (by funext x; unfold mj_u; (repeat' split) <;> first | rfl | omega))) ?_
      refine gj_iincN (L' := [some (.ref 7), some (.ref 44), some (.int (nI (j + 1))), some (.int (nI (sp_tt (C 8) (C 7 0) (t + 2 * j + 1))))]) dX5_pairsCome_68 rfl (Nat.le_of_ble_eq_true rfl) rfl ?_
      refine gj_goto (tgt := 2) dX5_pairsCome_71 rfl ?_
      refine gj_forget (i := 3) (L' := [some (.ref 7), some (.ref 44), some (.int (nI (j + 1))), none]) rfl ?_
      exact gj_cast rfl rfl (by rw [mj_mix_un rfl, mj_mix_un rfl]; rfl) (ih (fun i hi => by by_cases q : i = j <;> first | (subst q; exact hn9) | exact hq i (by omega)))
    have hbd8 := of_decide_eq_false zq4
    have hp9 : (sp_wmp (C 8) (C 7 0) t) j = true := by unfold sp_wmp; rw [decide_eq_true hgd9, decide_eq_false (by omega)]; rfl
    have hm9 : (sp_fst (sp_wmp (C 8) (C 7 0) t) 7) = j := sp_fst_at hj hp9 hq
    refine gj_ic (w := 0) dX5_pairsCome_56 ?_
    exact gj_zr rfl dX5_pairsCome_57 rfl (mj_b0 (by rw [hm9]; exact decide_eq_false (fun z => by omega))) (by rw [hm9]; first | rw [sp_we_2 hj hgd9] | rw [sp_we_1 (by omega)])
  have hst9 := zq2
  have hp9 : (sp_wmp (C 8) (C 7 0) t) j = true := by unfold sp_wmp; rw [decide_eq_false (by omega)]; rfl
  have hm9 : (sp_fst (sp_wmp (C 8) (C 7 0) t) 7) = j := sp_fst_at hj hp9 hq
  refine gj_iload_n dX5_pairsCome_21 rfl ?_
  refine gj_if_leN (tgt := 29) (by omega) dX5_pairsCome_22 rfl (fun zq5 => ?_) (fun zq5 => ?_)
  · -- 22 taken
    refine gj_ic (w := 0) dX5_pairsCome_29 ?_
    exact gj_zr rfl dX5_pairsCome_30 rfl (mj_b0 (by rw [hm9]; first | exact decide_eq_true ⟨by omega, hst9⟩ | exact decide_eq_false (fun z => by omega))) (by rw [hm9, sp_we_1 (by omega)])
  refine gj_ic (w := 1) dX5_pairsCome_25 ?_
  refine gj_goto (tgt := 30) dX5_pairsCome_26 rfl ?_
  exact gj_zr rfl dX5_pairsCome_30 rfl (mj_b1 (by rw [hm9]; first | exact decide_eq_true ⟨by omega, hst9⟩ | exact decide_eq_false (fun z => by omega))) (by rw [hm9, sp_we_1 (by omega)])
set_option maxHeartbeats 1000000 in
set_option maxRecDepth 10000 in
theorem ev_X5_voter_1 {E : mj_E} {κ : Nat → Bool} {C : Nat → Nat → Nat} (I : mj_CI κ C) (hx : mj_tx C) {t : Nat} (h0 : C 7 1 = t) (h1 : C 7 2 = sp_tt (C 8) (C 7 0) t) (h2 : t < sp_tE (C 8) (C 7 0)) (h3 : ¬ (sp_tt (C 8) (C 7 0) (t + 1) ≤ 5)) : mj_Ev E iX5_voterComes [.ref 7, .ref 47] (hh κ C) (mj_R (some (.int (mj_b false))) (hh κ (mj_u C 7 (mj_row [C 7 0, t + 1, sp_tt (C 8) (C 7 0) (t + 1)])))) := by
  have hl7x : C 7 0 ≤ 150 := I.2.2.2.2.2.2.1
  have hB : ∀ c, C 8 c ≤ 127 := I.2.2.2.2.2.2.2.1
  have hE := sp_tE_le (B := C 8) hl7x
  refine mj_Ev.of (L0 := [some (.ref 7), some (.ref 47), none, none]) pnRX5 (Nat.le_of_ble_eq_true rfl) rfl ?_
  refine gj_aload_n dX5_voterComes_0 rfl ?_
  refine gj_ic (w := 0) dX5_voterComes_1 ?_
  refine gj_ic (w := 5) dX5_voterComes_2 ?_
  refine gj_V1 lkX5_38 (hc7 κ C) rfl rfl (ev_X5_numberComes (C := C) (t := t) I (show mj_tx C from hx) h0 h1 (show t < sp_tE (C 8) (C 7 0) by omega) (by decide) (by decide)) dX5_voterComes_3 rfl rfl rfl rfl rfl ?_
  refine gj_if_neb (tgt := 11) dX5_voterComes_6 rfl (fun zq1 => ?_) (fun zq1 => ?_)
  · exfalso; exact h3 (of_decide_eq_true zq1).2
  refine gj_ic (w := 0) dX5_voterComes_9 ?_
  exact gj_zr rfl dX5_voterComes_10 rfl (mj_b0 (by decide)) rfl
set_option maxHeartbeats 1000000 in
set_option maxRecDepth 10000 in
theorem ev_X5_voter_2 {E : mj_E} {κ : Nat → Bool} {C : Nat → Nat → Nat} (I : mj_CI κ C) (hx : mj_tx C) {t : Nat} (h0 : C 7 1 = t) (h1 : C 7 2 = sp_tt (C 8) (C 7 0) t) (h2 : t < sp_tE (C 8) (C 7 0)) (h3 : sp_tt (C 8) (C 7 0) (t + 1) ≤ 5) (h4 : ¬ (1 ≤ sp_tt (C 8) (C 7 0) (t + 2) ∧ sp_tt (C 8) (C 7 0) (t + 2) ≤ 99)) : mj_Ev E iX5_voterComes [.ref 7, .ref 47] (hh κ C) (mj_R (some (.int (mj_b false))) (hh κ (mj_u C 7 (mj_row [C 7 0, t + 2, sp_tt (C 8) (C 7 0) (t + 2)])))) := by
  have hl7x : C 7 0 ≤ 150 := I.2.2.2.2.2.2.1
  have hB : ∀ c, C 8 c ≤ 127 := I.2.2.2.2.2.2.2.1
  have hE := sp_tE_le (B := C 8) hl7x
  refine mj_Ev.of (L0 := [some (.ref 7), some (.ref 47), none, none]) pnRX5 (Nat.le_of_ble_eq_true rfl) rfl ?_
  refine gj_aload_n dX5_voterComes_0 rfl ?_
  refine gj_ic (w := 0) dX5_voterComes_1 ?_
  refine gj_ic (w := 5) dX5_voterComes_2 ?_
  refine gj_V1 lkX5_38 (hc7 κ C) rfl rfl (ev_X5_numberComes (C := C) (t := t) I (show mj_tx C from hx) h0 h1 (show t < sp_tE (C 8) (C 7 0) by omega) (by decide) (by decide)) dX5_voterComes_3 rfl rfl rfl rfl rfl ?_
  refine gj_if_neb (tgt := 11) dX5_voterComes_6 rfl (fun zq1 => ?_) (fun zq1 => ?_)
  rotate_left
  · exfalso; exact absurd zq1 (by rw [decide_eq_true ⟨Nat.zero_le _, h3⟩]; decide)
  have hl1 : t + 1 < sp_tE (C 8) (C 7 0) := sp_tE_lt hl7x (by omega) (by omega)
  refine gj_aload_n dX5_voterComes_11 rfl ?_
  refine gfX5_28 rfl dX5_voterComes_12 (hc7 κ (mj_u C 7 (mj_row [C 7 0, t + 1, sp_tt (C 8) (C 7 0) (t + 1)]))) rfl ?_
  show gj _ _ _ _ _ _ _ ((.int (nI (sp_tt (C 8) (C 7 0) (t + 1))) : Value) :: _) _
  refine gj_istore_n (L' := [some (.ref 7), some (.ref 47), some (.int (nI (sp_tt (C 8) (C 7 0) (t + 1)))), none]) dX5_voterComes_15 (Nat.le_of_ble_eq_true rfl) rfl ?_
  refine gj_aload_n dX5_voterComes_16 rfl ?_
  refine gj_ic (w := 1) dX5_voterComes_17 ?_
  refine gj_bp 99 dX5_voterComes_18 (by decide) ?_
  refine gj_V1 lkX5_38 (hc7 κ (mj_u C 7 (mj_row [C 7 0, t + 1, sp_tt (C 8) (C 7 0) (t + 1)]))) rfl rfl (ev_X5_numberComes (C := (mj_u C 7 (mj_row [C 7 0, t + 1, sp_tt (C 8) (C 7 0) (t + 1)]))) (t := t + 1) (mj_CI_7 I) (show mj_tx (mj_u C 7 (mj_row [C 7 0, t + 1, sp_tt (C 8) (C 7 0) (t + 1)])) from hx) rfl rfl (show t + 1 < sp_tE (C 8) (C 7 0) by omega) (by decide) (by decide)) dX5_voterComes_20 rfl rfl rfl rfl rfl ?_
  refine gj_cast (h' := hh κ (mj_u C 7 (mj_row [C 7 0, t + 2, sp_tt (C 8) (C 7 0) (t + 2)]))) rfl rfl (congrArg (hh κ) (by funext x; unfold mj_u; (repeat' split) <;> first | rfl | omega)) ?_
  show gj _ _ _ _ _ _ _ ((.int (mj_b (decide (1 ≤ sp_tt (C 8) (C 7 0) (t + 2) ∧ sp_tt (C 8) (C 7 0) (t + 2) ≤ 99))) : Value) :: _) _
  refine gj_if_neb (tgt := 28) dX5_voterComes_23 rfl (fun zq2 => ?_) (fun zq2 => ?_)
  · exfalso; exact h4 (of_decide_eq_true zq2)
  refine gj_ic (w := 0) dX5_voterComes_26 ?_
  exact gj_zr rfl dX5_voterComes_27 rfl (mj_b0 (by decide)) rfl
set_option maxHeartbeats 1000000 in
set_option maxRecDepth 10000 in
theorem ev_X5_voter_3 {E : mj_E} {κ : Nat → Bool} {C : Nat → Nat → Nat} (I : mj_CI κ C) (hx : mj_tx C) {t : Nat} (h0 : C 7 1 = t) (h1 : C 7 2 = sp_tt (C 8) (C 7 0) t) (h2 : t < sp_tE (C 8) (C 7 0)) (h3 : sp_tt (C 8) (C 7 0) (t + 1) ≤ 5) (h4 : 1 ≤ sp_tt (C 8) (C 7 0) (t + 2) ∧ sp_tt (C 8) (C 7 0) (t + 2) ≤ 99) (h5 : ¬ (sp_tt (C 8) (C 7 0) (t + 3) ≤ 24)) : mj_Ev E iX5_voterComes [.ref 7, .ref 47] (hh κ C) (mj_R (some (.int (mj_b false))) (hh κ (mj_u C 7 (mj_row [C 7 0, t + 3, sp_tt (C 8) (C 7 0) (t + 3)])))) := by
  have hl7x : C 7 0 ≤ 150 := I.2.2.2.2.2.2.1
  have hB : ∀ c, C 8 c ≤ 127 := I.2.2.2.2.2.2.2.1
  have hE := sp_tE_le (B := C 8) hl7x
  refine mj_Ev.of (L0 := [some (.ref 7), some (.ref 47), none, none]) pnRX5 (Nat.le_of_ble_eq_true rfl) rfl ?_
  refine gj_aload_n dX5_voterComes_0 rfl ?_
  refine gj_ic (w := 0) dX5_voterComes_1 ?_
  refine gj_ic (w := 5) dX5_voterComes_2 ?_
  refine gj_V1 lkX5_38 (hc7 κ C) rfl rfl (ev_X5_numberComes (C := C) (t := t) I (show mj_tx C from hx) h0 h1 (show t < sp_tE (C 8) (C 7 0) by omega) (by decide) (by decide)) dX5_voterComes_3 rfl rfl rfl rfl rfl ?_
  refine gj_if_neb (tgt := 11) dX5_voterComes_6 rfl (fun zq1 => ?_) (fun zq1 => ?_)
  rotate_left
  · exfalso; exact absurd zq1 (by rw [decide_eq_true ⟨Nat.zero_le _, h3⟩]; decide)
  have hl1 : t + 1 < sp_tE (C 8) (C 7 0) := sp_tE_lt hl7x (by omega) (by omega)
  refine gj_aload_n dX5_voterComes_11 rfl ?_
  refine gfX5_28 rfl dX5_voterComes_12 (hc7 κ (mj_u C 7 (mj_row [C 7 0, t + 1, sp_tt (C 8) (C 7 0) (t + 1)]))) rfl ?_
  show gj _ _ _ _ _ _ _ ((.int (nI (sp_tt (C 8) (C 7 0) (t + 1))) : Value) :: _) _
  refine gj_istore_n (L' := [some (.ref 7), some (.ref 47), some (.int (nI (sp_tt (C 8) (C 7 0) (t + 1)))), none]) dX5_voterComes_15 (Nat.le_of_ble_eq_true rfl) rfl ?_
  refine gj_aload_n dX5_voterComes_16 rfl ?_
  refine gj_ic (w := 1) dX5_voterComes_17 ?_
  refine gj_bp 99 dX5_voterComes_18 (by decide) ?_
  refine gj_V1 lkX5_38 (hc7 κ (mj_u C 7 (mj_row [C 7 0, t + 1, sp_tt (C 8) (C 7 0) (t + 1)]))) rfl rfl (ev_X5_numberComes (C := (mj_u C 7 (mj_row [C 7 0, t + 1, sp_tt (C 8) (C 7 0) (t + 1)]))) (t := t + 1) (mj_CI_7 I) (show mj_tx (mj_u C 7 (mj_row [C 7 0, t + 1, sp_tt (C 8) (C 7 0) (t + 1)])) from hx) rfl rfl (show t + 1 < sp_tE (C 8) (C 7 0) by omega) (by decide) (by decide)) dX5_voterComes_20 rfl rfl rfl rfl rfl ?_
  refine gj_cast (h' := hh κ (mj_u C 7 (mj_row [C 7 0, t + 2, sp_tt (C 8) (C 7 0) (t + 2)]))) rfl rfl (congrArg (hh κ) (by funext x; unfold mj_u; (repeat' split) <;> first | rfl | omega)) ?_
  show gj _ _ _ _ _ _ _ ((.int (mj_b (decide (1 ≤ sp_tt (C 8) (C 7 0) (t + 2) ∧ sp_tt (C 8) (C 7 0) (t + 2) ≤ 99))) : Value) :: _) _
  refine gj_if_neb (tgt := 28) dX5_voterComes_23 rfl (fun zq2 => ?_) (fun zq2 => ?_)
  rotate_left
  · exfalso; exact absurd zq2 (by rw [decide_eq_true h4]; decide)
  have hl2 : t + 2 < sp_tE (C 8) (C 7 0) := sp_tE_lt hl7x (by omega) (by omega)
  refine gj_aload_n dX5_voterComes_28 rfl ?_
  refine gfX5_28 rfl dX5_voterComes_29 (hc7 κ (mj_u C 7 (mj_row [C 7 0, t + 2, sp_tt (C 8) (C 7 0) (t + 2)]))) rfl ?_
  show gj _ _ _ _ _ _ _ ((.int (nI (sp_tt (C 8) (C 7 0) (t + 2))) : Value) :: _) _
  refine gj_istore_n (L' := [some (.ref 7), some (.ref 47), some (.int (nI (sp_tt (C 8) (C 7 0) (t + 1)))), some (.int (nI (sp_tt (C 8) (C 7 0) (t + 2))))]) dX5_voterComes_32 (Nat.le_of_ble_eq_true rfl) rfl ?_
  refine gj_aload_n dX5_voterComes_33 rfl ?_
  refine gj_ic (w := 0) dX5_voterComes_34 ?_
  refine gj_bp 24 dX5_voterComes_35 (by decide) ?_
  refine gj_V1 lkX5_38 (hc7 κ (mj_u C 7 (mj_row [C 7 0, t + 2, sp_tt (C 8) (C 7 0) (t + 2)]))) rfl rfl (ev_X5_numberComes (C := (mj_u C 7 (mj_row [C 7 0, t + 2, sp_tt (C 8) (C 7 0) (t + 2)]))) (t := t + 2) (mj_CI_7 I) (show mj_tx (mj_u C 7 (mj_row [C 7 0, t + 2, sp_tt (C 8) (C 7 0) (t + 2)])) from hx) rfl rfl (show t + 2 < sp_tE (C 8) (C 7 0) by omega) (by decide) (by decide)) dX5_voterComes_37 rfl rfl rfl rfl rfl ?_
  refine gj_cast (h' := hh κ (mj_u C 7 (mj_row [C 7 0, t + 3, sp_tt (C 8) (C 7 0) (t + 3)]))) rfl rfl (congrArg (hh κ) (by funext x; unfold mj_u; (repeat' split) <;> first | rfl | omega)) ?_
  show gj _ _ _ _ _ _ _ ((.int (mj_b (decide (0 ≤ sp_tt (C 8) (C 7 0) (t + 3) ∧ sp_tt (C 8) (C 7 0) (t + 3) ≤ 24))) : Value) :: _) _
  refine gj_if_neb (tgt := 45) dX5_voterComes_40 rfl (fun zq3 => ?_) (fun zq3 => ?_)
  · exfalso; exact h5 (of_decide_eq_true zq3).2
  refine gj_ic (w := 0) dX5_voterComes_43 ?_
  exact gj_zr rfl dX5_voterComes_44 rfl (mj_b0 (by decide)) rfl
set_option maxHeartbeats 1000000 in
set_option maxRecDepth 10000 in
theorem ev_X5_voter_t {E : mj_E} {κ : Nat → Bool} {C : Nat → Nat → Nat} (I : mj_CI κ C) (hx : mj_tx C) {t : Nat} (h0 : C 7 1 = t) (h1 : C 7 2 = sp_tt (C 8) (C 7 0) t) (h2 : t < sp_tE (C 8) (C 7 0)) (h3 : sp_tt (C 8) (C 7 0) (t + 1) ≤ 5) (h4 : 1 ≤ sp_tt (C 8) (C 7 0) (t + 2) ∧ sp_tt (C 8) (C 7 0) (t + 2) ≤ 99) (h5 : sp_tt (C 8) (C 7 0) (t + 3) ≤ 24) (h6 : C 47 0 < 7) : mj_Ev E iX5_voterComes [.ref 7, .ref 47] (hh κ C) (mj_R (some (.int (mj_b (decide (sp_tt (C 8) (C 7 0) (t + 4) = 4294967294))))) (hh κ (mj_u (mj_u (mj_u (mj_u (mj_u C 7 (mj_row [C 7 0, t + 4, sp_tt (C 8) (C 7 0) (t + 4)])) 47 (mj_row [C 47 0 + 1])) 48 (mj_un (C 48) (C 47 0) (sp_tt (C 8) (C 7 0) (t + 1)))) 49 (mj_un (C 49) (C 47 0) (sp_tt (C 8) (C 7 0) (t + 2)))) 50 (mj_un (C 50) (C 47 0) (sp_tt (C 8) (C 7 0) (t + 3)))))) := by
  have hl7x : C 7 0 ≤ 150 := I.2.2.2.2.2.2.1
  have hB : ∀ c, C 8 c ≤ 127 := I.2.2.2.2.2.2.2.1
  have hE := sp_tE_le (B := C 8) hl7x
  have hsz : C 47 0 ≤ 7 := I.2.1 7 (by decide) 0
  refine mj_Ev.of (L0 := [some (.ref 7), some (.ref 47), none, none]) pnRX5 (Nat.le_of_ble_eq_true rfl) rfl ?_
  refine gj_aload_n dX5_voterComes_0 rfl ?_
  refine gj_ic (w := 0) dX5_voterComes_1 ?_
  refine gj_ic (w := 5) dX5_voterComes_2 ?_
  refine gj_V1 lkX5_38 (hc7 κ C) rfl rfl (ev_X5_numberComes (C := C) (t := t) I (show mj_tx C from hx) h0 h1 (show t < sp_tE (C 8) (C 7 0) by omega) (by decide) (by decide)) dX5_voterComes_3 rfl rfl rfl rfl rfl ?_
  refine gj_if_neb (tgt := 11) dX5_voterComes_6 rfl (fun zq1 => ?_) (fun zq1 => ?_)
  rotate_left
  · exfalso; exact absurd zq1 (by rw [decide_eq_true ⟨Nat.zero_le _, h3⟩]; decide)
  have hl1 : t + 1 < sp_tE (C 8) (C 7 0) := sp_tE_lt hl7x (by omega) (by omega)
  refine gj_aload_n dX5_voterComes_11 rfl ?_
  refine gfX5_28 rfl dX5_voterComes_12 (hc7 κ (mj_u C 7 (mj_row [C 7 0, t + 1, sp_tt (C 8) (C 7 0) (t + 1)]))) rfl ?_
  show gj _ _ _ _ _ _ _ ((.int (nI (sp_tt (C 8) (C 7 0) (t + 1))) : Value) :: _) _
  refine gj_istore_n (L' := [some (.ref 7), some (.ref 47), some (.int (nI (sp_tt (C 8) (C 7 0) (t + 1)))), none]) dX5_voterComes_15 (Nat.le_of_ble_eq_true rfl) rfl ?_
  refine gj_aload_n dX5_voterComes_16 rfl ?_
  refine gj_ic (w := 1) dX5_voterComes_17 ?_
  refine gj_bp 99 dX5_voterComes_18 (by decide) ?_
  refine gj_V1 lkX5_38 (hc7 κ (mj_u C 7 (mj_row [C 7 0, t + 1, sp_tt (C 8) (C 7 0) (t + 1)]))) rfl rfl (ev_X5_numberComes (C := (mj_u C 7 (mj_row [C 7 0, t + 1, sp_tt (C 8) (C 7 0) (t + 1)]))) (t := t + 1) (mj_CI_7 I) (show mj_tx (mj_u C 7 (mj_row [C 7 0, t + 1, sp_tt (C 8) (C 7 0) (t + 1)])) from hx) rfl rfl (show t + 1 < sp_tE (C 8) (C 7 0) by omega) (by decide) (by decide)) dX5_voterComes_20 rfl rfl rfl rfl rfl ?_
  refine gj_cast (h' := hh κ (mj_u C 7 (mj_row [C 7 0, t + 2, sp_tt (C 8) (C 7 0) (t + 2)]))) rfl rfl (congrArg (hh κ) (by funext x; unfold mj_u; (repeat' split) <;> first | rfl | omega)) ?_
  show gj _ _ _ _ _ _ _ ((.int (mj_b (decide (1 ≤ sp_tt (C 8) (C 7 0) (t + 2) ∧ sp_tt (C 8) (C 7 0) (t + 2) ≤ 99))) : Value) :: _) _
  refine gj_if_neb (tgt := 28) dX5_voterComes_23 rfl (fun zq2 => ?_) (fun zq2 => ?_)
  rotate_left
  · exfalso; exact absurd zq2 (by rw [decide_eq_true h4]; decide)
  have hl2 : t + 2 < sp_tE (C 8) (C 7 0) := sp_tE_lt hl7x (by omega) (by omega)
  refine gj_aload_n dX5_voterComes_28 rfl ?_
  refine gfX5_28 rfl dX5_voterComes_29 (hc7 κ (mj_u C 7 (mj_row [C 7 0, t + 2, sp_tt (C 8) (C 7 0) (t + 2)]))) rfl ?_
  show gj _ _ _ _ _ _ _ ((.int (nI (sp_tt (C 8) (C 7 0) (t + 2))) : Value) :: _) _
  refine gj_istore_n (L' := [some (.ref 7), some (.ref 47), some (.int (nI (sp_tt (C 8) (C 7 0) (t + 1)))), some (.int (nI (sp_tt (C 8) (C 7 0) (t + 2))))]) dX5_voterComes_32 (Nat.le_of_ble_eq_true rfl) rfl ?_
  refine gj_aload_n dX5_voterComes_33 rfl ?_
  refine gj_ic (w := 0) dX5_voterComes_34 ?_
  refine gj_bp 24 dX5_voterComes_35 (by decide) ?_
  refine gj_V1 lkX5_38 (hc7 κ (mj_u C 7 (mj_row [C 7 0, t + 2, sp_tt (C 8) (C 7 0) (t + 2)]))) rfl rfl (ev_X5_numberComes (C := (mj_u C 7 (mj_row [C 7 0, t + 2, sp_tt (C 8) (C 7 0) (t + 2)]))) (t := t + 2) (mj_CI_7 I) (show mj_tx (mj_u C 7 (mj_row [C 7 0, t + 2, sp_tt (C 8) (C 7 0) (t + 2)])) from hx) rfl rfl (show t + 2 < sp_tE (C 8) (C 7 0) by omega) (by decide) (by decide)) dX5_voterComes_37 rfl rfl rfl rfl rfl ?_
  refine gj_cast (h' := hh κ (mj_u C 7 (mj_row [C 7 0, t + 3, sp_tt (C 8) (C 7 0) (t + 3)]))) rfl rfl (congrArg (hh κ) (by funext x; unfold mj_u; (repeat' split) <;> first | rfl | omega)) ?_
  show gj _ _ _ _ _ _ _ ((.int (mj_b (decide (0 ≤ sp_tt (C 8) (C 7 0) (t + 3) ∧ sp_tt (C 8) (C 7 0) (t + 3) ≤ 24))) : Value) :: _) _
  refine gj_if_neb (tgt := 45) dX5_voterComes_40 rfl (fun zq3 => ?_) (fun zq3 => ?_)
  rotate_left
  · exfalso; exact absurd zq3 (by rw [decide_eq_true ⟨Nat.zero_le _, h5⟩]; decide)
  have hl3 : t + 3 < sp_tE (C 8) (C 7 0) := sp_tE_lt hl7x (by omega) (by omega)
  refine gj_aload_n dX5_voterComes_45 rfl ?_
  refine gj_iload_n dX5_voterComes_46 rfl ?_
  refine gj_iload_n dX5_voterComes_47 rfl ?_
  refine gj_aload_n dX5_voterComes_48 rfl ?_
  refine gfX5_28 rfl dX5_voterComes_49 (hc7 κ (mj_u C 7 (mj_row [C 7 0, t + 3, sp_tt (C 8) (C 7 0) (t + 3)]))) rfl ?_
  show gj _ _ _ _ _ _ _ ((.int (nI (sp_tt (C 8) (C 7 0) (t + 3))) : Value) :: _) _
  refine gj_V0 lkX5_104 (hc47 κ (mj_u C 7 (mj_row [C 7 0, t + 3, sp_tt (C 8) (C 7 0) (t + 3)]))) rfl rfl (ev_X7_add ⟨(hc47 κ (mj_u C 7 (mj_row [C 7 0, t + 3, sp_tt (C 8) (C 7 0) (t + 3)]))), (hc48 κ (mj_u C 7 (mj_row [C 7 0, t + 3, sp_tt (C 8) (C 7 0) (t + 3)]))), (hc49 κ (mj_u C 7 (mj_row [C 7 0, t + 3, sp_tt (C 8) (C 7 0) (t + 3)]))), (hc50 κ (mj_u C 7 (mj_row [C 7 0, t + 3, sp_tt (C 8) (C 7 0) (t + 3)]))), (show C 47 0 ≤ 7 by omega), (show ∀ c, C 48 c ≤ 5 from I.2.1 8 (by decide)), (show ∀ c, C 49 c ≤ 99 from I.2.1 9 (by decide)), (show ∀ c, C 50 c ≤ 24 from I.2.1 10 (by decide))⟩ (show C 47 0 < 7 by omega) ⟨(by decide), (by decide), (by decide)⟩) dX5_voterComes_52 rfl rfl rfl rfl rfl ?_
  refine gj_cast (h' := hh κ (mj_u (mj_u (mj_u (mj_u (mj_u C 7 (mj_row [C 7 0, t + 3, sp_tt (C 8) (C 7 0) (t + 3)])) 47 (mj_row [(C 47 0) + 1])) 48 (mj_un (C 48) (C 47 0) (sp_tt (C 8) (C 7 0) (t + 1)))) 49 (mj_un (C 49) (C 47 0) (sp_tt (C 8) (C 7 0) (t + 2)))) 50 (mj_un (C 50) (C 47 0) (sp_tt (C 8) (C 7 0) (t + 3))))) rfl rfl ((hu47 (C := (mj_u (mj_u (mj_u (mj_u C 7 (mj_row [C 7 0, t + 3, sp_tt (C 8) (C 7 0) (t + 3)])) 48 (mj_un (C 48) (C 47 0) (sp_tt (C 8) (C 7 0) (t + 1)))) 49 (mj_un (C 49) (C 47 0) (sp_tt (C 8) (C 7 0) (t + 2)))) 50 (mj_un (C 50) (C 47 0) (sp_tt (C 8) (C 7 0) (t + 3))))) (z0 := (C 47 0) + 1) (hu50 (C := (mj_u (mj_u (mj_u C 7 (mj_row [C 7 0, t + 3, sp_tt (C 8) (C 7 0) (t + 3)])) 48 (mj_un (C 48) (C 47 0) (sp_tt (C 8) (C 7 0) (t + 1)))) 49 (mj_un (C 49) (C 47 0) (sp_tt (C 8) (C 7 0) (t + 2))))) (K := mj_un (C 50) (C 47 0) (sp_tt (C 8) (C 7 0) (t + 3))) (hu49 (C := (mj_u (mj_u C 7 (mj_row [C 7 0, t + 3, sp_tt (C 8) (C 7 0) (t + 3)])) 48 (mj_un (C 48) (C 47 0) (sp_tt (C 8) (C 7 0) (t + 1))))) (K := mj_un (C 49) (C 47 0) (sp_tt (C 8) (C 7 0) (t + 2))) (hu48 (C := (mj_u C 7 (mj_row [C 7 0, t + 3, sp_tt (C 8) (C 7 0) (t + 3)]))) (K := mj_un (C 48) (C 47 0) (sp_tt (C 8) (C 7 0) (t + 1))) rfl)))).trans (congrArg (hh κ) (by funext x; unfold mj_u; (repeat' split) <;> first | rfl | omega))) ?_
  refine gj_aload_n dX5_voterComes_55 rfl ?_
  refine gj_V1 lkX5_52 (hc7 κ (mj_u (mj_u (mj_u (mj_u (mj_u C 7 (mj_row [C 7 0, t + 3, sp_tt (C 8) (C 7 0) (t + 3)])) 47 (mj_row [(C 47 0) + 1])) 48 (mj_un (C 48) (C 47 0) (sp_tt (C 8) (C 7 0) (t + 1)))) 49 (mj_un (C 49) (C 47 0) (sp_tt (C 8) (C 7 0) (t + 2)))) 50 (mj_un (C 50) (C 47 0) (sp_tt (C 8) (C 7 0) (t + 3))))) rfl rfl (ev_X5_stopComes (C := (mj_u (mj_u (mj_u (mj_u (mj_u C 7 (mj_row [C 7 0, t + 3, sp_tt (C 8) (C 7 0) (t + 3)])) 47 (mj_row [(C 47 0) + 1])) 48 (mj_un (C 48) (C 47 0) (sp_tt (C 8) (C 7 0) (t + 1)))) 49 (mj_un (C 49) (C 47 0) (sp_tt (C 8) (C 7 0) (t + 2)))) 50 (mj_un (C 50) (C 47 0) (sp_tt (C 8) (C 7 0) (t + 3))))) (t := t + 3) (mj_CI_40 (mj_CI_40 (mj_CI_40 (mj_CI_40 (mj_CI_7 I) (by decide) (by decide) (by decide) (by decide) (mj_row1_le (show (C 47 0) + 1 ≤ 7 by omega))) (by decide) (by decide) (by decide) (by decide) (show ∀ c, (mj_un (C 48) (C 47 0) (sp_tt (C 8) (C 7 0) (t + 1))) c ≤ 5 from (mj_un_le (show ∀ c, C 48 c ≤ 5 from I.2.1 8 (by decide)) (by omega)))) (by decide) (by decide) (by decide) (by decide) (show ∀ c, (mj_un (C 49) (C 47 0) (sp_tt (C 8) (C 7 0) (t + 2))) c ≤ 99 from (mj_un_le (show ∀ c, C 49 c ≤ 99 from I.2.1 9 (by decide)) (by omega)))) (by decide) (by decide) (by decide) (by decide) (show ∀ c, (mj_un (C 50) (C 47 0) (sp_tt (C 8) (C 7 0) (t + 3))) c ≤ 24 from (mj_un_le (show ∀ c, C 50 c ≤ 24 from I.2.1 10 (by decide)) (by omega)))) (show mj_tx (mj_u (mj_u (mj_u (mj_u (mj_u C 7 (mj_row [C 7 0, t + 3, sp_tt (C 8) (C 7 0) (t + 3)])) 47 (mj_row [(C 47 0) + 1])) 48 (mj_un (C 48) (C 47 0) (sp_tt (C 8) (C 7 0) (t + 1)))) 49 (mj_un (C 49) (C 47 0) (sp_tt (C 8) (C 7 0) (t + 2)))) 50 (mj_un (C 50) (C 47 0) (sp_tt (C 8) (C 7 0) (t + 3)))) from hx) rfl rfl (show t + 3 < sp_tE (C 8) (C 7 0) by omega) ) dX5_voterComes_56 rfl rfl rfl rfl rfl ?_
  refine gj_cast (h' := hh κ (mj_u (mj_u (mj_u (mj_u (mj_u C 7 (mj_row [C 7 0, t + 4, sp_tt (C 8) (C 7 0) (t + 4)])) 47 (mj_row [(C 47 0) + 1])) 48 (mj_un (C 48) (C 47 0) (sp_tt (C 8) (C 7 0) (t + 1)))) 49 (mj_un (C 49) (C 47 0) (sp_tt (C 8) (C 7 0) (t + 2)))) 50 (mj_un (C 50) (C 47 0) (sp_tt (C 8) (C 7 0) (t + 3))))) rfl rfl (congrArg (hh κ) (by funext x; unfold mj_u; (repeat' split) <;> first | rfl | omega)) ?_
  show gj _ _ _ _ _ _ _ ((.int (mj_b (decide (sp_tt (C 8) (C 7 0) (t + 4) = 4294967294))) : Value) :: _) _
  exact gj_zr rfl dX5_voterComes_59 rfl rfl rfl
