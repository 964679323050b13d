theorem mj_wn {x lo hi : Nat} (hx : x < 2 ^ 32) (hl : lo < 2 ^ 31) (hh : hi < 2 ^ 31) : decide (nI lo ≤ nI x ∧ nI x ≤ nI hi) = decide (lo ≤ x ∧ x ≤ hi) := by
  refine decide_eq_decide.mpr ?_
  by_cases q : x < 2 ^ 31
  · rw [nI_leI hl q, nI_leI q hh]
  · have e : (nI x).toInt = (x : Int) - 4294967296 := by
      show (BitVec.ofNat 32 x).toInt = _
      rw [BitVec.toInt_eq_toNat_bmod, BitVec.toNat_ofNat, Nat.mod_eq_of_lt hx, Int.bmod_def]
      omega
    rw [Int32.le_iff_toInt_le, Int32.le_iff_toInt_le, e, nI_toInt hl, nI_toInt hh]
    omega
theorem ev_X10_within_w {E : mj_E} {h : mj_H} {x lo hi : Nat} (hx : x < 2 ^ 32) (hl : lo < 2 ^ 31) (h3 : hi < 2 ^ 31) : mj_Ev E iX10_within [.int (nI x), .int (nI lo), .int (nI hi)] h (mj_R (some (.int (mj_b (decide (lo ≤ x ∧ x ≤ hi))))) h) := by
  have := ev_X10_within (E := E) (h := h) (x := nI x) (lo := nI lo) (hi := nI hi)
  rwa [mj_wn hx hl h3] at this
/-- the byte at p, none: all bits -/
def sp_ba (B : Nat → Nat) (n p : Nat) : Nat := if p < n then B p else 4294967295
theorem sp_ba_lt {B : Nat → Nat} {n p : Nat} (h : ∀ c, B c ≤ 127) : sp_ba B n p < 2 ^ 32 := by unfold sp_ba; have := h p; split <;> omega
/-- where a run of bytes from lo to hi that begins at p ends -/
def sp_erp (B : Nat → Nat) (lo hi p : Nat) : Nat → Bool := fun i => !decide (lo ≤ B (p + i) ∧ B (p + i) ≤ hi)
def sp_er (B : Nat → Nat) (n lo hi p : Nat) : Nat := p + sp_fst (sp_erp B lo hi p) (n - p)
theorem sp_er_ge {B : Nat → Nat} {n lo hi p : Nat} : p ≤ sp_er B n lo hi p := Nat.le_add_right _ _
theorem sp_er_le {B : Nat → Nat} {n lo hi p : Nat} (h : p ≤ n) : sp_er B n lo hi p ≤ n := by
  have := @sp_fst_le (sp_erp B lo hi p) (n - p)
  unfold sp_er; omega
theorem sp_er_gt {B : Nat → Nat} {n lo hi p : Nat} (h : p < n) (h1 : lo ≤ B p) (h2 : B p ≤ hi) : p < sp_er B n lo hi p := by
  unfold sp_er
  have h3 := @sp_fst_t (sp_erp B lo hi p) (n - p)
  by_cases q : sp_fst (sp_erp B lo hi p) (n - p) = 0
  · rw [q] at h3
    have := h3 (by omega)
    unfold sp_erp at this
    rw [Nat.add_zero, decide_eq_true ⟨h1, h2⟩] at this
    exact absurd this (by decide)
  · omega
def sp_eb (B : Nat → Nat) (n p : Nat) : Nat := if 97 ≤ sp_ba B n p ∧ sp_ba B n p ≤ 122 then sp_er B n 97 122 p else if 48 ≤ sp_ba B n p ∧ sp_ba B n p ≤ 57 then sp_er B n 48 57 p else min (p + 1) n
theorem sp_eb_le {B : Nat → Nat} {n p : Nat} (h : p ≤ n) : sp_eb B n p ≤ n := by
  unfold sp_eb
  split
  · exact sp_er_le h
  · split
    · exact sp_er_le h
    · exact Nat.min_le_right _ _
theorem sp_eb_gt {B : Nat → Nat} {n p : Nat} (h : p < n) : p < sp_eb B n p := by
  have e : sp_ba B n p = B p := if_pos h
  unfold sp_eb
  rw [e]
  split
  · rename_i q; exact sp_er_gt h q.1 q.2
  · split
    · rename_i q; exact sp_er_gt h q.1 q.2
    · omega
theorem sp_eb_ge {B : Nat → Nat} {n p : Nat} (h : p ≤ n) : p ≤ sp_eb B n p := by
  rcases Nat.lt_or_eq_of_le h with q | q
  · exact Nat.le_of_lt (sp_eb_gt q)
  · unfold sp_eb
    split
    · exact sp_er_ge
    · split
      · exact sp_er_ge
      · omega
/-- whether the bytes from s to e are the string j -/
def sp_iwp (j : Nat) (B : Nat → Nat) (s : Nat) : Nat → Bool := fun i => !decide (B (s + i) = sp_sch j i)
def sp_isw (j : Nat) (B : Nat → Nat) (s e : Nat) : Bool := decide (e - s = mj_slen.getD j 0) && decide (sp_fst (sp_iwp j B s) (mj_slen.getD j 0) = mj_slen.getD j 0)
theorem sp_isw_l {j : Nat} {B : Nat → Nat} {s e : Nat} (h : ¬ e - s = mj_slen.getD j 0) : sp_isw j B s e = false := by unfold sp_isw; rw [decide_eq_false h, Bool.false_and]
theorem sp_isw_f {j : Nat} {B : Nat → Nat} {s e i : Nat} (hi : i < mj_slen.getD j 0) (hp : sp_iwp j B s i = true) (hq : ∀ k, k < i → sp_iwp j B s k = false) : sp_isw j B s e = false := by
  unfold sp_isw
  rw [sp_fst_at hi hp hq, decide_eq_false (by omega : ¬ i = mj_slen.getD j 0), Bool.and_false]
theorem sp_isw_t {j : Nat} {B : Nat → Nat} {s e : Nat} (h : e - s = mj_slen.getD j 0) (hq : ∀ k, k < mj_slen.getD j 0 → sp_iwp j B s k = false) : sp_isw j B s e = true := by
  unfold sp_isw
  rw [decide_eq_true h, decide_eq_true (sp_fst_none hq)]; rfl
/-- a word's token -/
def sp_wt (B : Nat → Nat) (s e : Nat) : Nat := if sp_isw 0 B s e then 4294967292 else if sp_isw 1 B s e then 4294967291 else if sp_isw 2 B s e then 4294967290 else if sp_isw 3 B s e then 4294967289 else 4294967293
/-- a number's token -/
def sp_nvl (B : Nat → Nat) (s e : Nat) : Nat := if e - s = 1 then B s - 48 else if e - s = 2 then 10 * (B s - 48) + (B (s + 1) - 48) else 4294967293
def sp_tk (B : Nat → Nat) (n s e : Nat) : Nat := if n ≤ s then 4294967295 else if 97 ≤ sp_ba B n s ∧ sp_ba B n s ≤ 122 then sp_wt B s e else if 48 ≤ sp_ba B n s ∧ sp_ba B n s ≤ 57 then sp_nvl B s e else if sp_ba B n s = 59 then 4294967294 else 4294967293
theorem sp_wt_lt {B : Nat → Nat} {s e : Nat} : sp_wt B s e < 2 ^ 32 := by unfold sp_wt; (repeat' split) <;> omega
theorem sp_nvl_lt {B : Nat → Nat} {s e : Nat} (h : ∀ c, B c ≤ 127) : sp_nvl B s e < 2 ^ 32 := by
  have h1 := h s; have h2 := h (s + 1)
  unfold sp_nvl; (repeat' split) <;> omega
theorem sp_tk_lt {B : Nat → Nat} {n s e : Nat} (h : ∀ c, B c ≤ 127) : sp_tk B n s e < 2 ^ 32 := by
  have h1 := @sp_wt_lt B s e; have h2 := @sp_nvl_lt B s e h
  unfold sp_tk; (repeat' split) <;> omega
/-- the places of the tokens: where the t-th search begins, where the t-th token does, which it is -/
def sp_ps (B : Nat → Nat) (n : Nat) : Nat → Nat
  | 0 => 0
  | t + 1 => sp_eb B n (sp_er B n 32 32 (sp_ps B n t))
def sp_ss (B : Nat → Nat) (n t : Nat) : Nat := sp_er B n 32 32 (sp_ps B n t)
def sp_tt (B : Nat → Nat) (n t : Nat) : Nat := sp_tk B n (sp_ss B n t) (sp_ps B n (t + 1))
theorem sp_ps_s {B : Nat → Nat} {n t : Nat} : sp_ps B n (t + 1) = sp_eb B n (sp_ss B n t) := rfl
theorem sp_ps_le {B : Nat → Nat} {n t : Nat} : sp_ps B n t ≤ n := by
  induction t with
  | zero => exact Nat.zero_le _
  | succ t ih => exact sp_eb_le (sp_er_le ih)
theorem sp_ss_le {B : Nat → Nat} {n t : Nat} : sp_ss B n t ≤ n := sp_er_le sp_ps_le
theorem sp_ss_ge {B : Nat → Nat} {n t : Nat} : sp_ps B n t ≤ sp_ss B n t := sp_er_ge
theorem sp_ps_ge {B : Nat → Nat} {n t : Nat} : sp_ss B n t ≤ sp_ps B n (t + 1) := sp_eb_ge sp_ss_le
theorem sp_tt_lt {B : Nat → Nat} {n t : Nat} (h : ∀ c, B c ≤ 127) : sp_tt B n t < 2 ^ 32 := sp_tk_lt h
theorem sp_tt_end {B : Nat → Nat} {n t : Nat} (h : n ≤ sp_ss B n t) : sp_tt B n t = 4294967295 := if_pos h
theorem sp_wt_ne {B : Nat → Nat} {s e : Nat} : ¬ sp_wt B s e = 4294967295 := by unfold sp_wt; (repeat' split) <;> omega
theorem sp_nvl_ne {B : Nat → Nat} {s e : Nat} (h : ∀ c, B c ≤ 127) : ¬ sp_nvl B s e = 4294967295 := by
  have h1 := h s; have h2 := h (s + 1)
  unfold sp_nvl; (repeat' split) <;> omega
theorem sp_tt_ne {B : Nat → Nat} {n t : Nat} (hb : ∀ c, B c ≤ 127) (h : sp_ss B n t < n) : ¬ sp_tt B n t = 4294967295 := by
  have h1 := @sp_wt_ne B (sp_ss B n t) (sp_ps B n (t + 1)); have h2 := @sp_nvl_ne B (sp_ss B n t) (sp_ps B n (t + 1)) hb
  unfold sp_tt sp_tk
  rw [if_neg (by omega)]
  (repeat' split) <;> omega
/-- as long as no token is the end, each one goes on by a byte -/
theorem sp_ps_t {B : Nat → Nat} {n t : Nat} (h : ∀ i, i < t → ¬ sp_tt B n i = 4294967295) : t ≤ sp_ps B n t := by
  induction t with
  | zero => exact Nat.zero_le _
  | succ t ih =>
    have h1 := ih fun i hi => h i (by omega)
    have h2 : sp_ss B n t < n := Nat.lt_of_not_le fun z => h t (by omega) (sp_tt_end z)
    have h3 := sp_eb_gt (B := B) h2
    have h4 := @sp_ss_ge B n t
    rw [sp_ps_s]; omega
/-- behind the end all is the end -/
theorem sp_tt_stay {B : Nat → Nat} {n t : Nat} (hb : ∀ c, B c ≤ 127) (h : sp_tt B n t = 4294967295) : sp_ss B n t = n ∧ sp_ps B n (t + 1) = n := by
  have h1 : n ≤ sp_ss B n t := Nat.le_of_not_lt fun z => sp_tt_ne hb z h
  have h2 := @sp_ss_le B n t
  have h3 := @sp_ps_ge B n t
  have h4 := @sp_ps_le B n (t + 1)
  omega
def sp_tE (B : Nat → Nat) (n : Nat) : Nat := sp_fst (fun t => decide (sp_tt B n t = 4294967295)) 151
set_option maxHeartbeats 1000000 in
set_option maxRecDepth 10000 in
theorem ev_X5_byteAt {E : mj_E} {κ : Nat → Bool} {C : Nat → Nat → Nat} (I : mj_CI κ C) {p : Nat} (h0 : p ≤ 150) : mj_Ev E iX5_byteAt [.ref 7, .int (nI p)] (hh κ C) (mj_R (some (.int (nI (sp_ba (C 8) (C 7 0) p)))) (hh κ C)) := by
  have hl7x : C 7 0 ≤ 150 := I.2.2.2.2.2.2.1
  have hB : ∀ c, C 8 c ≤ 127 := I.2.2.2.2.2.2.2.1
  refine mj_Ev.of (L0 := [some (.ref 7), some (.int (nI p))]) pnRX5 (Nat.le_of_ble_eq_true rfl) rfl ?_
  refine gj_iload_n dX5_byteAt_0 rfl ?_
  refine gj_if_ltN (tgt := 28) (by omega) dX5_byteAt_1 rfl (fun zq1 => ?_) (fun zq1 => ?_)
  · exfalso; omega
  refine gj_iload_n dX5_byteAt_4 rfl ?_
  refine gj_aload_n dX5_byteAt_5 rfl ?_
  refine gfX5_15 rfl dX5_byteAt_6 (hc7 κ C) rfl ?_
  refine gj_icmp_geN (tgt := 28) (by omega) (by omega) dX5_byteAt_9 rfl (fun zq2 => ?_) (fun zq2 => ?_)
  · -- 9 taken
    refine gj_iconst (v := (-1)) dX5_byteAt_28 (by decide) ?_
    refine gj_top (y := nI 4294967295) (by decide) ?_
    exact gj_ir rfl dX5_byteAt_29 rfl (congrArg nI (by first | exact (if_pos (by omega)).symm | exact (if_neg (by omega)).symm)) rfl
  refine gj_iload_n dX5_byteAt_12 rfl ?_
  refine gj_sp 150 dX5_byteAt_13 (by decide) ?_
  refine gj_icmp_geN (tgt := 28) (by omega) (by omega) dX5_byteAt_16 rfl (fun zq3 => ?_) (fun zq3 => ?_)
  · exfalso; omega
  refine gj_aload_n dX5_byteAt_19 rfl ?_
  refine gfX5_9 rfl dX5_byteAt_20 (hc7 κ C) rfl ?_
  refine gj_iload_n dX5_byteAt_23 rfl ?_
  refine gj_ialdN dX5_byteAt_24 (hc8 κ C) (by omega) (by omega) ?_
  have hb4 := I.2.2.2.2.2.2.2.1 p
  refine gj_goto (tgt := 29) dX5_byteAt_25 rfl ?_
  exact gj_ir rfl dX5_byteAt_29 rfl (congrArg nI (by first | exact (if_pos (by omega)).symm | exact (if_neg (by omega)).symm)) rfl
set_option maxHeartbeats 1000000 in
set_option maxRecDepth 10000 in
theorem ev_X5_endOfRun {E : mj_E} {κ : Nat → Bool} {C : Nat → Nat → Nat} (I : mj_CI κ C) {p lo hi : Nat} (h0 : p ≤ C 7 0) (h1 : lo ≤ 127) (h2 : hi ≤ 127) : mj_Ev E iX5_endOfRun [.ref 7, .int (nI p), .int (nI lo), .int (nI hi)] (hh κ C) (mj_R (some (.int (nI (sp_er (C 8) (C 7 0) lo hi p)))) (hh κ C)) := by
  have hl7x : C 7 0 ≤ 150 := I.2.2.2.2.2.2.1
  have hB : ∀ c, C 8 c ≤ 127 := I.2.2.2.2.2.2.2.1
  refine mj_Ev.of (L0 := [some (.ref 7), some (.int (nI p)), some (.int (nI lo)), some (.int (nI hi)), none]) pnRX5 (Nat.le_of_ble_eq_true rfl) rfl ?_
  refine gj_iload_n dX5_endOfRun_0 rfl ?_
  refine gj_istore (L' := [some (.ref 7), some (.int (nI p)), some (.int (nI lo)), some (.int (nI hi)), some (.int (nI p))]) dX5_endOfRun_1 (Nat.le_of_ble_eq_true rfl) rfl ?_
  refine gj_cast (L' := [some (.ref 7), some (.int (nI p)), some (.int (nI lo)), some (.int (nI hi)), some (.int (nI (p + 0)))]) (st' := []) (h' := (hh κ C)) rfl rfl rfl ?_
  refine gj_loopI (fun j => ∀ i, i < j → (sp_erp (C 8) lo hi p) i = false) (fun j => [some (.ref 7), some (.int (nI p)), some (.int (nI lo)), some (.int (nI hi)), some (.int (nI (p + j)))]) (fun j => (hh κ C)) (C 7 0 - p) (fun hq => ?_) (fun j hj hq ih => ?_) 0 (Nat.zero_le _) (fun i hi => absurd hi (Nat.not_lt_zero _))
  · show gj _ _ _ _ _ _ [some (.ref 7), some (.int (nI p)), some (.int (nI lo)), some (.int (nI hi)), some (.int (nI (p + (C 7 0 - p))))] _ _
    refine gj_iload dX5_endOfRun_3 rfl ?_
    refine gj_aload_n dX5_endOfRun_5 rfl ?_
    refine gfX5_15 rfl dX5_endOfRun_6 (hc7 κ C) rfl ?_
    refine gj_icmp_geN (tgt := 32) (by omega) (by omega) dX5_endOfRun_9 rfl (fun zq1 => ?_) (fun zq1 => ?_)
    rotate_left
    · exfalso; omega
    refine gj_iload dX5_endOfRun_32 rfl ?_
    exact gj_ir rfl dX5_endOfRun_34 rfl (congrArg nI (by unfold sp_er; first | rw [sp_fst_at (p := (sp_erp (C 8) lo hi p)) hj hp9 hq] | rw [sp_fst_none (p := (sp_erp (C 8) lo hi p)) hq])) rfl
  show gj _ _ _ _ _ _ [some (.ref 7), some (.int (nI p)), some (.int (nI lo)), some (.int (nI hi)), some (.int (nI (p + j)))] _ _
  refine gj_iload dX5_endOfRun_3 rfl ?_
  refine gj_aload_n dX5_endOfRun_5 rfl ?_
  refine gfX5_15 rfl dX5_endOfRun_6 (hc7 κ C) rfl ?_
  refine gj_icmp_geN (tgt := 32) (by omega) (by omega) dX5_endOfRun_9 rfl (fun zq2 => ?_) (fun zq2 => ?_)
  · exfalso; omega
  have hb8 := hB (p + j)
  refine gj_aload_n dX5_endOfRun_12 rfl ?_
  refine gj_iload dX5_endOfRun_13 rfl ?_
  refine gj_V1 lkX5_119 (hc7 κ C) rfl rfl (ev_X5_byteAt I (by omega)) dX5_endOfRun_15 rfl rfl rfl rfl rfl ?_
  have hb3 := @sp_ba_lt (C 8) (C 7 0) (p + j) hB
  refine gj_topN (if_pos (by omega)) ?_
  refine gj_iload_n dX5_endOfRun_18 rfl ?_
  refine gj_iload_n dX5_endOfRun_19 rfl ?_
  refine gj_N1 lkX5_31 (ev_X10_within_w (by omega) (by omega) (by omega)) dX5_endOfRun_20 rfl rfl rfl rfl rfl ?_
  refine gj_if_eqb (tgt := 32) dX5_endOfRun_23 rfl (fun zq4 => ?_) (fun zq4 => ?_)
  · -- 23 taken
    have hp9 : (sp_erp (C 8) lo hi p) j = true := by unfold sp_erp; rw [zq4]; rfl
    refine gj_iload dX5_endOfRun_32 rfl ?_
    exact gj_ir rfl dX5_endOfRun_34 rfl (congrArg nI (by unfold sp_er; first | rw [sp_fst_at (p := (sp_erp (C 8) lo hi p)) hj hp9 hq] | rw [sp_fst_none (p := (sp_erp (C 8) lo hi p)) hq])) rfl
  have hn9 : (sp_erp (C 8) lo hi p) j = false := by unfold sp_erp; rw [zq4]; rfl
  refine gj_iincN (L' := [some (.ref 7), some (.int (nI p)), some (.int (nI lo)), some (.int (nI hi)), some (.int (nI ((p + j) + 1)))]) dX5_endOfRun_26 rfl (Nat.le_of_ble_eq_true rfl) rfl ?_
  refine gj_goto (tgt := 3) dX5_endOfRun_29 rfl ?_
  exact gj_cast (by rw [Nat.add_assoc]) rfl rfl (ih (fun i hi => by by_cases q : i = j <;> first | (subst q; exact hn9) | exact hq i (by omega)))
set_option maxHeartbeats 1000000 in
set_option maxRecDepth 10000 in
theorem ev_X5_endOfToken {E : mj_E} {κ : Nat → Bool} {C : Nat → Nat → Nat} (I : mj_CI κ C) {p : Nat} (h0 : p ≤ C 7 0) : mj_Ev E iX5_endOfToken [.ref 7, .int (nI p)] (hh κ C) (mj_R (some (.int (nI (sp_eb (C 8) (C 7 0) p)))) (hh κ C)) := by
  have hl7x : C 7 0 ≤ 150 := I.2.2.2.2.2.2.1
  have hB : ∀ c, C 8 c ≤ 127 := I.2.2.2.2.2.2.2.1
  refine mj_Ev.of (L0 := [some (.ref 7), some (.int (nI p)), none]) pnRX5 (Nat.le_of_ble_eq_true rfl) rfl ?_
  refine gj_aload_n dX5_endOfToken_0 rfl ?_
  refine gj_iload_n dX5_endOfToken_1 rfl ?_
  refine gj_V1 lkX5_119 (hc7 κ C) rfl rfl (ev_X5_byteAt I (by omega)) dX5_endOfToken_2 rfl rfl rfl rfl rfl ?_
  have hb1 := @sp_ba_lt (C 8) (C 7 0) p hB
  refine gj_istore_n (L' := [some (.ref 7), some (.int (nI p)), some (.int (nI (sp_ba (C 8) (C 7 0) p)))]) dX5_endOfToken_5 (Nat.le_of_ble_eq_true rfl) rfl ?_
  refine gj_iload_n dX5_endOfToken_6 rfl ?_
  refine gj_bp 97 dX5_endOfToken_7 (by decide) ?_
  refine gj_bp 122 dX5_endOfToken_9 (by decide) ?_
  refine gj_N1 lkX5_31 (ev_X10_within_w (by omega) (by omega) (by omega)) dX5_endOfToken_11 rfl rfl rfl rfl rfl ?_
  refine gj_if_eqb (tgt := 27) dX5_endOfToken_14 rfl (fun zq2 => ?_) (fun zq2 => ?_)
  · -- 14 taken
    have hl9 := of_decide_eq_false zq2
    refine gj_iload_n dX5_endOfToken_27 rfl ?_
    refine gj_bp 48 dX5_endOfToken_28 (by decide) ?_
    refine gj_bp 57 dX5_endOfToken_30 (by decide) ?_
    refine gj_N1 lkX5_31 (ev_X10_within_w (by omega) (by omega) (by omega)) dX5_endOfToken_32 rfl rfl rfl rfl rfl ?_
    refine gj_if_eqb (tgt := 48) dX5_endOfToken_35 rfl (fun zq3 => ?_) (fun zq3 => ?_)
    · -- 35 taken
      have hd9 := of_decide_eq_false zq3
      refine gj_iload_n dX5_endOfToken_48 rfl ?_
      refine gj_ic (w := 1) dX5_endOfToken_49 ?_
      refine gj_iaddN  dX5_endOfToken_50 ?_
      refine gj_aload_n dX5_endOfToken_51 rfl ?_
      refine gfX5_15 rfl dX5_endOfToken_52 (hc7 κ C) rfl ?_
      refine gj_minN w_432 w_433 w_83 w_434 (by omega) (by omega) dX5_endOfToken_55 rfl rfl ?_
      exact gj_ir rfl dX5_endOfToken_58 rfl (congrArg nI (by unfold sp_eb; first | rw [if_pos hl9] | rw [if_neg hl9, if_pos hd9] | rw [if_neg hl9, if_neg hd9])) rfl
    have hd9 := of_decide_eq_true zq3
    refine gj_aload_n dX5_endOfToken_38 rfl ?_
    refine gj_iload_n dX5_endOfToken_39 rfl ?_
    refine gj_bp 48 dX5_endOfToken_40 (by decide) ?_
    refine gj_bp 57 dX5_endOfToken_42 (by decide) ?_
    refine gj_V1 lkX5_107 (hc7 κ C) rfl rfl (ev_X5_endOfRun I (by omega) (by omega) (by omega)) dX5_endOfToken_44 rfl rfl rfl rfl rfl ?_
    have hb4 := @sp_er_le (C 8) (C 7 0) 48 57 p (by omega)
    exact gj_ir rfl dX5_endOfToken_47 rfl (congrArg nI (by unfold sp_eb; first | rw [if_pos hl9] | rw [if_neg hl9, if_pos hd9] | rw [if_neg hl9, if_neg hd9])) rfl
  have hl9 := of_decide_eq_true zq2
  refine gj_aload_n dX5_endOfToken_17 rfl ?_
  refine gj_iload_n dX5_endOfToken_18 rfl ?_
  refine gj_bp 97 dX5_endOfToken_19 (by decide) ?_
  refine gj_bp 122 dX5_endOfToken_21 (by decide) ?_
  refine gj_V1 lkX5_107 (hc7 κ C) rfl rfl (ev_X5_endOfRun I (by omega) (by omega) (by omega)) dX5_endOfToken_23 rfl rfl rfl rfl rfl ?_
  have hb5 := @sp_er_le (C 8) (C 7 0) 97 122 p (by omega)
  exact gj_ir rfl dX5_endOfToken_26 rfl (congrArg nI (by unfold sp_eb; first | rw [if_pos hl9] | rw [if_neg hl9, if_pos hd9] | rw [if_neg hl9, if_neg hd9])) rfl
set_option maxHeartbeats 1000000 in
set_option maxRecDepth 10000 in
theorem ev_X5_isWord {E : mj_E} {κ : Nat → Bool} {C : Nat → Nat → Nat} (I : mj_CI κ C) {j : Nat} {s z : Nat} (h0 : j < 4) (h1 : s ≤ z) (h2 : z ≤ C 7 0) : mj_Ev E iX5_isWord [.ref 7, .ref (1000 + j), .int (nI s), .int (nI z)] (hh κ C) (mj_R (some (.int (mj_b (sp_isw j (C 8) s z)))) (hh κ C)) := by
  have hl7x : C 7 0 ≤ 150 := I.2.2.2.2.2.2.1
  have hB : ∀ c, C 8 c ≤ 127 := I.2.2.2.2.2.2.2.1
  have hsl := mj_sl j h0
  refine mj_Ev.of (L0 := [some (.ref 7), some (.ref (1000 + j)), some (.int (nI s)), some (.int (nI z)), none]) pnRX5 (Nat.le_of_ble_eq_true rfl) rfl ?_
  refine gj_iload_n dX5_isWord_0 rfl ?_
  refine gj_iload_n dX5_isWord_1 rfl ?_
  refine gj_isubN (by omega) dX5_isWord_2 ?_
  refine gj_aload_n dX5_isWord_3 rfl ?_
  refine gj_VS1 lkX5_144 (by omega) rfl (ev_J0_length_8abf5 (by omega)) dX5_isWord_4 rfl rfl rfl rfl rfl ?_
  refine gj_icmp_eqN (tgt := 12) (by omega) (by omega) dX5_isWord_7 rfl (fun zq1 => ?_) (fun zq1 => ?_)
  · -- 7 taken
    have hw9 := zq1
    refine gj_ic (w := 0) dX5_isWord_12 ?_
    refine gj_istore (L' := [some (.ref 7), some (.ref (1000 + j)), some (.int (nI s)), some (.int (nI z)), some (.int (nI 0))]) dX5_isWord_13 (Nat.le_of_ble_eq_true rfl) rfl ?_
    refine gj_cast (L' := [some (.ref 7), some (.ref (1000 + j)), some (.int (nI s)), some (.int (nI z)), some (.int (nI 0))]) (st' := []) (h' := (hh κ C)) rfl rfl rfl ?_
    refine gj_loopI (fun i => ∀ k, k < i → (sp_iwp j (C 8) s) k = false) (fun i => [some (.ref 7), some (.ref (1000 + j)), some (.int (nI s)), some (.int (nI z)), some (.int (nI i))]) (fun i => (hh κ C)) (mj_slen.getD j 0) (fun hq => ?_) (fun i hi hq ihi => ?_) 0 (Nat.zero_le _) (fun k hk => absurd hk (Nat.not_lt_zero _))
    · show gj _ _ _ _ _ _ [some (.ref 7), some (.ref (1000 + j)), some (.int (nI s)), some (.int (nI z)), some (.int (nI (mj_slen.getD j 0)))] _ _
      refine gj_iload dX5_isWord_15 rfl ?_
      refine gj_aload_n dX5_isWord_17 rfl ?_
      refine gj_VS1 lkX5_144 (by omega) rfl (ev_J0_length_8abf5 (by omega)) dX5_isWord_18 rfl rfl rfl rfl rfl ?_
      refine gj_icmp_geN (tgt := 49) (by omega) (by omega) dX5_isWord_21 rfl (fun zq2 => ?_) (fun zq2 => ?_)
      rotate_left
      · exfalso; omega
      refine gj_ic (w := 1) dX5_isWord_49 ?_
      exact gj_zr rfl dX5_isWord_50 rfl (mj_b1 (by exact sp_isw_t hw9 hq)) rfl
    show gj _ _ _ _ _ _ [some (.ref 7), some (.ref (1000 + j)), some (.int (nI s)), some (.int (nI z)), some (.int (nI i))] _ _
    refine gj_iload dX5_isWord_15 rfl ?_
    refine gj_aload_n dX5_isWord_17 rfl ?_
    refine gj_VS1 lkX5_144 (by omega) rfl (ev_J0_length_8abf5 (by omega)) dX5_isWord_18 rfl rfl rfl rfl rfl ?_
    refine gj_icmp_geN (tgt := 49) (by omega) (by omega) dX5_isWord_21 rfl (fun zq3 => ?_) (fun zq3 => ?_)
    · exfalso; omega
    have hb8 := hB (s + i)
    have hc8 := sp_sch_le j h0 i (by omega)
    refine gj_aload_n dX5_isWord_24 rfl ?_
    refine gj_iload_n dX5_isWord_25 rfl ?_
    refine gj_iload dX5_isWord_26 rfl ?_
    refine gj_iaddN  dX5_isWord_28 ?_
    refine gj_V1 lkX5_119 (hc7 κ C) rfl rfl (ev_X5_byteAt I (by omega)) dX5_isWord_29 rfl rfl rfl rfl rfl ?_
    have hb4 := @sp_ba_lt (C 8) (C 7 0) (s + i) hB
    refine gj_topN (if_pos (by omega)) ?_
    refine gj_aload_n dX5_isWord_32 rfl ?_
    refine gj_iload dX5_isWord_33 rfl ?_
    refine gj_VS1 lkX5_148 (by omega) rfl (ev_J0_charAt_5068e (by omega) (by omega)) dX5_isWord_35 rfl rfl rfl rfl rfl ?_
    refine gj_icmp_eqN (tgt := 43) (by omega) (by omega) dX5_isWord_38 rfl (fun zq5 => ?_) (fun zq5 => ?_)
    · -- 38 taken
      have hn9 : (sp_iwp j (C 8) s) i = false := by unfold sp_iwp; rw [decide_eq_true zq5]; rfl
      refine gj_iincN (L' := [some (.ref 7), some (.ref (1000 + j)), some (.int (nI s)), some (.int (nI z)), some (.int (nI (i + 1)))]) dX5_isWord_43 rfl (Nat.le_of_ble_eq_true rfl) rfl ?_
      refine gj_goto (tgt := 15) dX5_isWord_46 rfl ?_
      exact ihi (fun k hk => by by_cases q : k = i <;> first | (subst q; exact hn9) | exact hq k (by omega))
    have hp9 : (sp_iwp j (C 8) s) i = true := by unfold sp_iwp; rw [decide_eq_false zq5]; rfl
    refine gj_ic (w := 0) dX5_isWord_41 ?_
    exact gj_zr rfl dX5_isWord_42 rfl (mj_b0 (by exact sp_isw_f hi hp9 hq)) rfl
  have hw9 := zq1
  refine gj_ic (w := 0) dX5_isWord_10 ?_
  exact gj_zr rfl dX5_isWord_11 rfl (mj_b0 (by exact sp_isw_l hw9)) rfl
set_option maxHeartbeats 1000000 in
set_option maxRecDepth 10000 in
theorem ev_X5_wordIn {E : mj_E} {κ : Nat → Bool} {C : Nat → Nat → Nat} (I : mj_CI κ C) {s z : Nat} (h0 : s ≤ z) (h1 : z ≤ C 7 0) : mj_Ev E iX5_wordIn [.ref 7, .int (nI s), .int (nI z)] (hh κ C) (mj_R (some (.int (nI (sp_wt (C 8) s z)))) (hh κ C)) := by
  have hl7x : C 7 0 ≤ 150 := I.2.2.2.2.2.2.1
  have hB : ∀ c, C 8 c ≤ 127 := I.2.2.2.2.2.2.2.1
  refine mj_Ev.of (L0 := [some (.ref 7), some (.int (nI s)), some (.int (nI z))]) pnRX5 (Nat.le_of_ble_eq_true rfl) rfl ?_
  refine gj_aload_n dX5_wordIn_0 rfl ?_
  refine gj_ldcS (i := 0) (tx := "lake") (by decide) rfl (fun U hU => hU.1) dX5_wordIn_1 ?_
  refine gj_iload_n dX5_wordIn_3 rfl ?_
  refine gj_iload_n dX5_wordIn_4 rfl ?_
  refine gj_V1 lkX5_135 (hc7 κ C) rfl rfl (ev_X5_isWord I (j := 0) (by omega) (by omega) (by omega)) dX5_wordIn_5 rfl rfl rfl rfl rfl ?_
  refine gj_if_eqb (tgt := 14) dX5_wordIn_8 rfl (fun zq1 => ?_) (fun zq1 => ?_)
  · -- 8 taken
    have ha9 := zq1
    refine gj_aload_n dX5_wordIn_14 rfl ?_
    refine gj_ldcS (i := 1) (tx := "cell") (by decide) rfl (fun U hU => hU.2.1) dX5_wordIn_15 ?_
    refine gj_iload_n dX5_wordIn_17 rfl ?_
    refine gj_iload_n dX5_wordIn_18 rfl ?_
    refine gj_V1 lkX5_135 (hc7 κ C) rfl rfl (ev_X5_isWord I (j := 1) (by omega) (by omega) (by omega)) dX5_wordIn_19 rfl rfl rfl rfl rfl ?_
    refine gj_if_eqb (tgt := 28) dX5_wordIn_22 rfl (fun zq2 => ?_) (fun zq2 => ?_)
    · -- 22 taken
      have hb9 := zq2
      refine gj_aload_n dX5_wordIn_28 rfl ?_
      refine gj_ldcS (i := 2) (tx := "week") (by decide) rfl (fun U hU => hU.2.2.1) dX5_wordIn_29 ?_
      refine gj_iload_n dX5_wordIn_31 rfl ?_
      refine gj_iload_n dX5_wordIn_32 rfl ?_
      refine gj_V1 lkX5_135 (hc7 κ C) rfl rfl (ev_X5_isWord I (j := 2) (by omega) (by omega) (by omega)) dX5_wordIn_33 rfl rfl rfl rfl rfl ?_
      refine gj_if_eqb (tgt := 42) dX5_wordIn_36 rfl (fun zq3 => ?_) (fun zq3 => ?_)
      · -- 36 taken
        have hc9 := zq3
        refine gj_aload_n dX5_wordIn_42 rfl ?_
        refine gj_ldcS (i := 3) (tx := "voter") (by decide) rfl (fun U hU => hU.2.2.2) dX5_wordIn_43 ?_
        refine gj_iload_n dX5_wordIn_45 rfl ?_
        refine gj_iload_n dX5_wordIn_46 rfl ?_
        refine gj_V1 lkX5_135 (hc7 κ C) rfl rfl (ev_X5_isWord I (j := 3) (by omega) (by omega) (by omega)) dX5_wordIn_47 rfl rfl rfl rfl rfl ?_
        refine gj_if_eqb (tgt := 58) dX5_wordIn_50 rfl (fun zq4 => ?_) (fun zq4 => ?_)
        · -- 50 taken
          have hd9 := zq4
          refine gj_bipush (v := (-3)) dX5_wordIn_58 (by decide) ?_
          refine gj_top (y := nI 4294967293) (by decide) ?_
          exact gj_ir rfl dX5_wordIn_60 rfl (congrArg nI (by unfold sp_wt; first | rw [if_pos ha9] | rw [ha9, if_neg (by decide), if_pos hb9] | rw [ha9, hb9, if_neg (by decide), if_neg (by decide), if_pos hc9] | rw [ha9, hb9, hc9, if_neg (by decide), if_neg (by decide), if_neg (by decide), if_pos hd9] | rw [ha9, hb9, hc9, hd9]; rfl)) rfl
        have hd9 := zq4
        refine gj_bipush (v := (-7)) dX5_wordIn_53 (by decide) ?_
        refine gj_top (y := nI 4294967289) (by decide) ?_
        refine gj_goto (tgt := 60) dX5_wordIn_55 rfl ?_
        exact gj_ir rfl dX5_wordIn_60 rfl (congrArg nI (by unfold sp_wt; first | rw [if_pos ha9] | rw [ha9, if_neg (by decide), if_pos hb9] | rw [ha9, hb9, if_neg (by decide), if_neg (by decide), if_pos hc9] | rw [ha9, hb9, hc9, if_neg (by decide), if_neg (by decide), if_neg (by decide), if_pos hd9] | rw [ha9, hb9, hc9, hd9]; rfl)) rfl
      have hc9 := zq3
      refine gj_bipush (v := (-6)) dX5_wordIn_39 (by decide) ?_
      refine gj_top (y := nI 4294967290) (by decide) ?_
      exact gj_ir rfl dX5_wordIn_41 rfl (congrArg nI (by unfold sp_wt; first | rw [if_pos ha9] | rw [ha9, if_neg (by decide), if_pos hb9] | rw [ha9, hb9, if_neg (by decide), if_neg (by decide), if_pos hc9] | rw [ha9, hb9, hc9, if_neg (by decide), if_neg (by decide), if_neg (by decide), if_pos hd9] | rw [ha9, hb9, hc9, hd9]; rfl)) rfl
    have hb9 := zq2
    refine gj_bipush (v := (-5)) dX5_wordIn_25 (by decide) ?_
    refine gj_top (y := nI 4294967291) (by decide) ?_
    exact gj_ir rfl dX5_wordIn_27 rfl (congrArg nI (by unfold sp_wt; first | rw [if_pos ha9] | rw [ha9, if_neg (by decide), if_pos hb9] | rw [ha9, hb9, if_neg (by decide), if_neg (by decide), if_pos hc9] | rw [ha9, hb9, hc9, if_neg (by decide), if_neg (by decide), if_neg (by decide), if_pos hd9] | rw [ha9, hb9, hc9, hd9]; rfl)) rfl
  have ha9 := zq1
  refine gj_bipush (v := (-4)) dX5_wordIn_11 (by decide) ?_
  refine gj_top (y := nI 4294967292) (by decide) ?_
  exact gj_ir rfl dX5_wordIn_13 rfl (congrArg nI (by unfold sp_wt; first | rw [if_pos ha9] | rw [ha9, if_neg (by decide), if_pos hb9] | rw [ha9, hb9, if_neg (by decide), if_neg (by decide), if_pos hc9] | rw [ha9, hb9, hc9, if_neg (by decide), if_neg (by decide), if_neg (by decide), if_pos hd9] | rw [ha9, hb9, hc9, hd9]; rfl)) rfl
