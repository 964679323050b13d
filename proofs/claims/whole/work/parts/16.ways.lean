theorem nI_eqW {a c : Nat} (ha : a < 2 ^ 32) (hc : c < 2 ^ 32) : nI a = nI c ↔ a = c := by
  constructor
  · intro q
    have h1 : (nI a).toUInt32.toNat = (nI c).toUInt32.toNat := by rw [q]
    have h2 : ∀ x, x < 2 ^ 32 → (nI x).toUInt32.toNat = x := by
      intro x hx
      show (BitVec.ofNat 32 x).toNat = x
      rw [BitVec.toNat_ofNat]; omega
    rw [h2 a ha, h2 c hc] at h1
    exact h1
  · intro q; rw [q]
/-- the first place below n that is so; else n -/
def sp_fst (p : Nat → Bool) : Nat → Nat
  | 0 => 0
  | n + 1 => if sp_fst p n = n then (if p n then n else n + 1) else sp_fst p n
theorem sp_fst_le {p : Nat → Bool} {n : Nat} : sp_fst p n ≤ n := by
  induction n with
  | zero => exact Nat.le_refl _
  | succ n ih => unfold sp_fst; split <;> (try split) <;> omega
theorem sp_fst_none {p : Nat → Bool} {n : Nat} (h : ∀ i, i < n → p i = false) : sp_fst p n = n := by
  induction n with
  | zero => rfl
  | succ n ih => unfold sp_fst; rw [if_pos (ih fun i hi => h i (by omega)), h n (by omega)]; rfl
theorem sp_fst_at {p : Nat → Bool} {n j : Nat} (hj : j < n) (hp : p j = true) (h : ∀ i, i < j → p i = false) : sp_fst p n = j := by
  induction n with
  | zero => omega
  | succ n ih =>
    unfold sp_fst
    by_cases q : j = n
    · subst q; rw [if_pos (sp_fst_none h), hp]; rfl
    · rw [ih (by omega), if_neg (by omega)]
theorem sp_fst_t {p : Nat → Bool} {n : Nat} (h : sp_fst p n < n) : p (sp_fst p n) = true := by
  induction n with
  | zero => omega
  | succ n ih =>
    unfold sp_fst at h ⊢
    by_cases q : sp_fst p n = n
    · rw [if_pos q] at h ⊢
      by_cases z : p n = true
      · rw [if_pos z]; exact z
      · rw [if_neg z] at h; omega
    · rw [if_neg q] at h ⊢
      exact ih (by have := @sp_fst_le p n; omega)
theorem sp_fst_f {p : Nat → Bool} {n i : Nat} (h : i < sp_fst p n) : p i = false := by
  induction n with
  | zero => exact absurd h (Nat.not_lt_zero _)
  | succ n ih =>
    unfold sp_fst at h
    by_cases q : sp_fst p n = n
    · rw [if_pos q] at h
      by_cases z : p n = true
      · rw [if_pos z] at h; exact ih (by omega)
      · rw [if_neg z] at h
        by_cases y : i = n
        · subst y; exact Bool.eq_false_iff.mpr z
        · exact ih (by omega)
    · rw [if_neg q] at h; exact ih h
theorem sp_fst_congr {p q : Nat → Bool} {n : Nat} (h : ∀ i, i < n → p i = q i) : sp_fst p n = sp_fst q n := by
  induction n with
  | zero => rfl
  | succ n ih => unfold sp_fst; rw [ih (fun i hi => h i (by omega)), h n (by omega)]
def sp_lo (s : Nat) : Nat := if sp_fst (Nat.testBit s) 25 < 25 then sp_fst (Nat.testBit s) 25 else 0
theorem sp_lo_lt {s : Nat} : sp_lo s < 25 := by unfold sp_lo; split <;> omega
/-- the cells beside any of these -/
def sp_bes (s : Nat) : Nat := 33554431 &&& ((s <<< 5 ||| s >>> 5) ||| ((s &&& 4277648879) <<< 1 ||| (s &&& 4293884894) >>> 1))
theorem sp_bes_lt {s : Nat} : sp_bes s < 2 ^ 25 := Nat.lt_of_le_of_lt Nat.and_le_left (by decide)
def sp_ring (o c : Nat) : Nat → Nat := fun n => mj_fo (fun _ r => sp_bes r &&& o) (o &&& 1 <<< c) n
theorem mj_fo_s {α : Type} {f : Nat → α → α} {a : α} {n : Nat} : mj_fo f a (n + 1) = f n (mj_fo f a n) := rfl
theorem sp_ring_s {o c n : Nat} : sp_ring o c (n + 1) = sp_bes (sp_ring o c n) &&& o := mj_fo_s
theorem sp_ring_lt {o c n : Nat} (ho : o < 2 ^ 25) : sp_ring o c n < 2 ^ 25 := by
  cases n with
  | zero => exact Nat.lt_of_le_of_lt Nat.and_le_left ho
  | succ n => rw [sp_ring_s]; exact Nat.lt_of_le_of_lt Nat.and_le_left sp_bes_lt
/-- how far a is from c over o; 25: there is no way -/
def sp_far (o a c : Nat) : Nat := sp_fst (fun n => Nat.testBit (sp_ring o c n) a) 25
theorem sp_ring_0 {o c : Nat} : o &&& 1 <<< c = sp_ring o c 0 := rfl
theorem sp_far_at {o a c j : Nat} (hj : j < 25) (hp : Nat.testBit (sp_ring o c j) a = true) (hq : ∀ i, i < j → Nat.testBit (sp_ring o c i) a = false) : sp_far o a c = j := sp_fst_at (p := fun n => Nat.testBit (sp_ring o c n) a) hj hp hq
theorem sp_far_none {o a c : Nat} (hq : ∀ i, i < 25 → Nat.testBit (sp_ring o c i) a = false) : sp_far o a c = 25 := sp_fst_none (p := fun n => Nat.testBit (sp_ring o c n) a) hq
theorem sp_far_le {o a c : Nat} : sp_far o a c ≤ 25 := sp_fst_le
def sp_here (o a c f : Nat) (i : Nat) : Nat := mj_fo (fun i x => sp_lo (sp_bes (1 <<< x) &&& sp_ring o c (f - i - 1))) a i
theorem sp_here_s {o a c f i : Nat} : sp_here o a c f (i + 1) = sp_lo (sp_bes (1 <<< sp_here o a c f i) &&& sp_ring o c (f - i - 1)) := mj_fo_s
theorem sp_here_lt {o a c f i : Nat} (ha : a < 25) : sp_here o a c f i < 25 := by
  cases i with
  | zero => exact ha
  | succ i => rw [sp_here_s]; exact sp_lo_lt
def sp_rch (o a : Nat) (n : Nat) : Nat := mj_fo (fun _ r => r ||| (sp_bes r &&& o)) (o &&& 1 <<< a) n
theorem sp_rch_s {o a n : Nat} : sp_rch o a (n + 1) = sp_rch o a n ||| (sp_bes (sp_rch o a n) &&& o) := mj_fo_s
theorem sp_rch_lt {o a n : Nat} (ho : o < 2 ^ 25) : sp_rch o a n < 2 ^ 25 := by
  induction n with
  | zero => exact Nat.lt_of_le_of_lt Nat.and_le_left ho
  | succ n ih => rw [sp_rch_s]; exact Nat.or_lt_two_pow ih (Nat.lt_of_le_of_lt Nat.and_le_left sp_bes_lt)
def sp_bf (o a : Nat) : Nat → Nat
  | 0 => 0
  | n + 1 => sp_rch o a n
theorem sp_bf_lt {o a n : Nat} (ho : o < 2 ^ 25) : sp_bf o a n < 2 ^ 25 := by
  cases n with
  | zero => exact Nat.two_pow_pos 25
  | succ n => exact sp_rch_lt ho
def sp_jn (o a c : Nat) : Bool := decide (sp_rch o a 25 &&& (o &&& 1 <<< c) ≠ 0)
theorem sp_or_and {x y g : Nat} (h : x &&& g ≠ 0) : (x ||| y) &&& g ≠ 0 := by
  intro z
  rw [Nat.and_or_distrib_right, Nat.or_eq_zero_iff] at z
  exact h z.1
theorem sp_jn_t {o a c j : Nat} (hj : j ≤ 25) (h : ¬ sp_rch o a j &&& (o &&& 1 <<< c) = 0) : sp_jn o a c = true := by
  have : ∀ d, sp_rch o a (j + d) &&& (o &&& 1 <<< c) ≠ 0 := by
    intro d
    induction d with
    | zero => exact h
    | succ d ih => rw [← Nat.add_assoc, sp_rch_s]; exact sp_or_and ih
  have h2 := this (25 - j)
  rw [show j + (25 - j) = 25 by omega] at h2
  exact decide_eq_true h2
theorem sp_jn_f {o a c j : Nat} (hj : j < 25) (h : sp_rch o a j &&& (o &&& 1 <<< c) = 0) (h2 : sp_rch o a j = sp_bf o a j) : sp_jn o a c = false := by
  have hs : sp_rch o a (j + 1) = sp_rch o a j := by
    cases j with
    | zero =>
      have e : sp_rch o a 0 = 0 := h2
      rw [sp_rch_s, e]
      have : sp_bes 0 = 0 := by decide +kernel
      rw [this]; simp
    | succ j =>
      have e : sp_rch o a (j + 1) = sp_rch o a j := h2
      rw [sp_rch_s, e]
      exact e
  have : ∀ d, sp_rch o a (j + d) = sp_rch o a j := by
    intro d
    induction d with
    | zero => rfl
    | succ d ih =>
      rw [← Nat.add_assoc, sp_rch_s, ih]
      rwa [sp_rch_s] at hs
  have h3 := this (25 - j)
  rw [show j + (25 - j) = 25 by omega] at h3
  unfold sp_jn
  rw [h3, h]
  rfl
/-- o without x -/
def sp_wo (o x : Nat) : Nat := o &&& (1 <<< x ^^^ 4294967295)
theorem sp_wo_lt {o x : Nat} (ho : o < 2 ^ 25) : sp_wo o x < 2 ^ 25 := Nat.lt_of_le_of_lt Nat.and_le_left ho
def sp_c1 (o a c x : Nat) : Bool := Nat.testBit (sp_wo (sp_wo o a) c) x && !sp_jn (sp_wo o x) a c
def sp_c2 (o a c x y : Nat) : Bool := decide (x < y) && ((Nat.testBit (sp_wo (sp_wo o a) c) x && Nat.testBit (sp_wo (sp_wo o a) c) y) && !sp_jn (sp_wo (sp_wo o x) y) a c)
def sp_cy (o a c x : Nat) : Nat := sp_fst (sp_c2 o a c x) 25
def sp_cx (o a c : Nat) : Nat := sp_fst (fun x => decide (sp_cy o a c x < 25)) 25
def sp_cut (o a c : Nat) : Nat := if sp_jn o a c then (if sp_fst (sp_c1 o a c) 25 < 25 then 992 + sp_fst (sp_c1 o a c) 25 else if sp_cx o a c < 25 then 32 * sp_cx o a c + sp_cy o a c (sp_cx o a c) else 4294967295) else 0
set_option maxHeartbeats 1000000 in
set_option maxRecDepth 10000 in
theorem ev_X8_beside {E : mj_E} {h : mj_H} {s : Nat} (hs : s < 2 ^ 25) : mj_Ev E iX8_beside [.int (nI s)] h (mj_R (some (.int (nI (sp_bes s)))) h) := by
  refine mj_Ev.of (L0 := [some (.int (nI s)), none, none]) pnRX8 (Nat.le_of_ble_eq_true rfl) rfl ?_
  refine gj_iload_n dX8_beside_0 rfl ?_
  refine gj_ic (w := 5) dX8_beside_1 ?_
  refine gj_ishlN (by omega) dX8_beside_2 ?_
  refine gj_iload_n dX8_beside_3 rfl ?_
  refine gj_ic (w := 5) dX8_beside_4 ?_
  refine gj_iushrN (by omega) (by omega) dX8_beside_5 ?_
  refine gj_iorN  dX8_beside_6 ?_
  refine gj_istore_n (L' := [some (.int (nI s)), some (.int (nI ((s <<< 5) ||| (s >>> 5)))), none]) dX8_beside_7 (Nat.le_of_ble_eq_true rfl) rfl ?_
  refine gj_iload_n dX8_beside_8 rfl ?_
  refine gj_ldc (v := (-17318417)) w_764 dX8_beside_9 ?_
  refine gj_top (y := nI 4277648879) (by decide) ?_
  refine gj_iandN  dX8_beside_11 ?_
  refine gj_ic (w := 1) dX8_beside_12 ?_
  refine gj_ishlN (by omega) dX8_beside_13 ?_
  refine gj_iload_n dX8_beside_14 rfl ?_
  refine gj_ldc (v := (-1082402)) w_765 dX8_beside_15 ?_
  refine gj_top (y := nI 4293884894) (by decide) ?_
  refine gj_iandN  dX8_beside_17 ?_
  refine gj_ic (w := 1) dX8_beside_18 ?_
  refine gj_iushrN (Nat.lt_of_le_of_lt Nat.and_le_left (by omega)) (by omega) dX8_beside_19 ?_
  refine gj_iorN  dX8_beside_20 ?_
  refine gj_istore_n (L' := [some (.int (nI s)), some (.int (nI ((s <<< 5) ||| (s >>> 5)))), some (.int (nI (((s &&& 4277648879) <<< 1) ||| ((s &&& 4293884894) >>> 1))))]) dX8_beside_21 (Nat.le_of_ble_eq_true rfl) rfl ?_
  refine gj_ldc (v := nI 33554431) w_766 dX8_beside_22 ?_
  refine gj_iload_n dX8_beside_24 rfl ?_
  refine gj_iload_n dX8_beside_25 rfl ?_
  refine gj_iorN  dX8_beside_26 ?_
  refine gj_iandN  dX8_beside_27 ?_
  exact gj_ir rfl dX8_beside_28 rfl rfl rfl
set_option maxHeartbeats 1000000 in
set_option maxRecDepth 10000 in
theorem ev_X8_first {E : mj_E} {h : mj_H} {s : Nat} (hs : s < 2 ^ 25) : mj_Ev E iX8_first [.int (nI s)] h (mj_R (some (.int (nI (sp_lo s)))) h) := by
  refine mj_Ev.of (L0 := [some (.int (nI s)), none]) pnRX8 (Nat.le_of_ble_eq_true rfl) rfl ?_
  refine gj_ic (w := 0) dX8_first_0 ?_
  refine gj_istore_n (L' := [some (.int (nI s)), some (.int (nI 0))]) dX8_first_1 (Nat.le_of_ble_eq_true rfl) rfl ?_
  refine gj_cast (L' := [some (.int (nI s)), some (.int (nI 0))]) (st' := []) (h' := h) rfl rfl rfl ?_
  refine gj_loopI (fun j => ∀ i, i < j → Nat.testBit s i = false) (fun j => [some (.int (nI s)), some (.int (nI j))]) (fun j => h) 25 (fun hq => ?_) (fun j hj hq ih => ?_) 0 (by omega) (fun i hi => absurd hi (Nat.not_lt_zero _))
  · show gj _ _ _ _ _ _ [some (.int (nI s)), some (.int (nI 25))] _ _
    refine gj_iload_n dX8_first_2 rfl ?_
    refine gj_bp 25 dX8_first_3 (by decide) ?_
    refine gj_icmp_geN (tgt := 24) (by omega) (by omega) dX8_first_5 rfl (fun zq1 => ?_) (fun zq1 => ?_)
    rotate_left
    · exfalso; omega
    refine gj_ic (w := 0) dX8_first_24 ?_
    exact gj_ir rfl dX8_first_25 rfl (congrArg nI (by unfold sp_lo; rw [sp_fst_none hq]; rfl)) rfl
  show gj _ _ _ _ _ _ [some (.int (nI s)), some (.int (nI j))] _ _
  refine gj_iload_n dX8_first_2 rfl ?_
  refine gj_bp 25 dX8_first_3 (by decide) ?_
  refine gj_icmp_geN (tgt := 24) (by omega) (by omega) dX8_first_5 rfl (fun zq2 => ?_) (fun zq2 => ?_)
  · exfalso; omega
  refine gj_iload_n dX8_first_8 rfl ?_
  refine gj_iload_n dX8_first_9 rfl ?_
  refine gj_N1 lkX8_32 (ev_X10_has (by omega) (by omega)) dX8_first_10 rfl rfl rfl rfl rfl ?_
  refine gj_if_eqb (tgt := 18) dX8_first_13 rfl (fun zq3 => ?_) (fun zq3 => ?_)
  · -- 13 taken
    refine gj_iincN (L' := [some (.int (nI s)), some (.int (nI (j + 1)))]) dX8_first_18 rfl (Nat.le_of_ble_eq_true rfl) rfl ?_
    refine gj_goto (tgt := 2) dX8_first_21 rfl ?_
    exact ih (fun i hi => by by_cases q : i = j <;> first | (subst q; assumption) | exact hq i (by omega))
  refine gj_iload_n dX8_first_16 rfl ?_
  exact gj_ir rfl dX8_first_17 rfl (congrArg nI (by unfold sp_lo; rw [sp_fst_at (p := Nat.testBit s) hj (by assumption) hq, if_pos hj])) rfl
set_option maxHeartbeats 1000000 in
set_option maxRecDepth 10000 in
theorem ev_X8_step {E : mj_E} {h : mj_H} {w rA sA : Nat} {R St : Nat → Nat} (Hw : h w = some (.inr (6, [.ref rA, .ref sA]))) (Hr : h rA = some (mj_ar 25 R)) (Hs : h sA = some (mj_ar 25 St)) (hx : rA ≠ sA) {i : Nat} (hi : i < 25) : mj_Ev E iX8_step [.ref w, .int (nI i)] h (mj_R (some (.int (nI (St i)))) h) := by
  refine mj_Ev.of (L0 := [some (.ref w), some (.int (nI i))]) pnRX8 (Nat.le_of_ble_eq_true rfl) rfl ?_
  refine gj_iload_n dX8_step_0 rfl ?_
  refine gj_N1 lkX8_36 (ev_X10_isCell_t (by omega) (by omega)) dX8_step_1 rfl rfl rfl rfl rfl ?_
  refine gj_if_eqN (tgt := 16) (by omega) dX8_step_4 rfl (fun c0 => ?_) (fun c0 => ?_)
  · exfalso; revert c0; decide
  refine gj_aload_n dX8_step_7 rfl ?_
  refine gfX8_15 rfl dX8_step_8 Hw rfl ?_
  refine gj_iload_n dX8_step_11 rfl ?_
  refine gj_ialdN dX8_step_12 Hs (by omega) (by omega) ?_
  refine gj_goto (tgt := 17) dX8_step_13 rfl ?_
  exact gj_ir rfl dX8_step_17 rfl rfl rfl
set_option maxHeartbeats 1000000 in
set_option maxRecDepth 10000 in
theorem ev_X8_joined {E : mj_E} {h : mj_H} {o a c : Nat} (ho : o < 2 ^ 25) (ha : a < 25) (hc : c < 25) : mj_Ev E iX8_joined [.int (nI o), .int (nI a), .int (nI c)] h (mj_R (some (.int (mj_b (sp_jn o a c)))) h) := by
  refine mj_Ev.of (L0 := [some (.int (nI o)), some (.int (nI a)), some (.int (nI c)), none, none, none, none]) pnRX8 (Nat.le_of_ble_eq_true rfl) rfl ?_
  refine gj_iload_n dX8_joined_0 rfl ?_
  refine gj_ic (w := 1) dX8_joined_1 ?_
  refine gj_iload_n dX8_joined_2 rfl ?_
  refine gj_ishlN (by omega) dX8_joined_3 ?_
  refine gj_iandN  dX8_joined_4 ?_
  refine gj_istore_n (L' := [some (.int (nI o)), some (.int (nI a)), some (.int (nI c)), some (.int (nI (o &&& (1 <<< c)))), none, none, none]) dX8_joined_5 (Nat.le_of_ble_eq_true rfl) rfl ?_
  refine gj_iload_n dX8_joined_6 rfl ?_
  refine gj_ic (w := 1) dX8_joined_7 ?_
  refine gj_iload_n dX8_joined_8 rfl ?_
  refine gj_ishlN (by omega) dX8_joined_9 ?_
  refine gj_iandN  dX8_joined_10 ?_
  refine gj_istore (L' := [some (.int (nI o)), some (.int (nI a)), some (.int (nI c)), some (.int (nI (o &&& (1 <<< c)))), some (.int (nI (o &&& (1 <<< a)))), none, none]) dX8_joined_11 (Nat.le_of_ble_eq_true rfl) rfl ?_
  refine gj_ic (w := 0) dX8_joined_13 ?_
  refine gj_istore (L' := [some (.int (nI o)), some (.int (nI a)), some (.int (nI c)), some (.int (nI (o &&& (1 <<< c)))), some (.int (nI (o &&& (1 <<< a)))), some (.int (nI 0)), none]) dX8_joined_14 (Nat.le_of_ble_eq_true rfl) rfl ?_
  refine gj_ic (w := 0) dX8_joined_16 ?_
  refine gj_istore (L' := [some (.int (nI o)), some (.int (nI a)), some (.int (nI c)), some (.int (nI (o &&& (1 <<< c)))), some (.int (nI (o &&& (1 <<< a)))), some (.int (nI 0)), some (.int (nI 0))]) dX8_joined_17 (Nat.le_of_ble_eq_true rfl) rfl ?_
  refine gj_cast (L' := [some (.int (nI o)), some (.int (nI a)), some (.int (nI c)), some (.int (nI (o &&& 1 <<< c))), some (.int (nI (sp_rch o a 0))), some (.int (nI (sp_bf o a 0))), some (.int (nI 0))]) (st' := []) (h' := h) rfl rfl rfl ?_
  refine gj_loop (fun j => [some (.int (nI o)), some (.int (nI a)), some (.int (nI c)), some (.int (nI (o &&& 1 <<< c))), some (.int (nI (sp_rch o a j))), some (.int (nI (sp_bf o a j))), some (.int (nI j))]) (fun j => h) 25 ?_ (fun j hj ih => ?_) 0 (by omega)
  · show gj _ _ _ _ _ _ [some (.int (nI o)), some (.int (nI a)), some (.int (nI c)), some (.int (nI (o &&& 1 <<< c))), some (.int (nI (sp_rch o a 25))), some (.int (nI (sp_bf o a 25))), some (.int (nI 25))] _ _
    refine gj_iload dX8_joined_19 rfl ?_
    refine gj_bp 25 dX8_joined_21 (by decide) ?_
    refine gj_icmp_geN (tgt := 62) (by omega) (by omega) dX8_joined_23 rfl (fun zq1 => ?_) (fun zq1 => ?_)
    rotate_left
    · exfalso; omega
    refine gj_iload dX8_joined_62 rfl ?_
    refine gj_iload_n dX8_joined_64 rfl ?_
    refine gj_iandN  dX8_joined_65 ?_
    refine gj_if_eqN (tgt := 73) (Nat.lt_of_le_of_lt Nat.and_le_left (Nat.lt_trans (sp_rch_lt ho) (by decide))) dX8_joined_66 rfl (fun zq2 => ?_) (fun zq2 => ?_)
    · -- 66 taken
      refine gj_ic (w := 0) dX8_joined_73 ?_
      exact gj_zr rfl dX8_joined_74 rfl (mj_b0 (by first | exact sp_jn_t (Nat.le_of_lt hj) (by assumption) | exact sp_jn_f hj (by assumption) (by assumption) | exact decide_eq_true (by assumption) | exact decide_eq_false (fun q => q (by assumption)) | contradiction)) rfl
    refine gj_ic (w := 1) dX8_joined_69 ?_
    refine gj_goto (tgt := 74) dX8_joined_70 rfl ?_
    exact gj_zr rfl dX8_joined_74 rfl (mj_b1 (by first | exact sp_jn_t (Nat.le_of_lt hj) (by assumption) | exact sp_jn_f hj (by assumption) (by assumption) | exact decide_eq_true (by assumption) | exact decide_eq_false (fun q => q (by assumption)) | contradiction)) rfl
  show gj _ _ _ _ _ _ [some (.int (nI o)), some (.int (nI a)), some (.int (nI c)), some (.int (nI (o &&& 1 <<< c))), some (.int (nI (sp_rch o a j))), some (.int (nI (sp_bf o a j))), some (.int (nI j))] _ _
  refine gj_iload dX8_joined_19 rfl ?_
  refine gj_bp 25 dX8_joined_21 (by decide) ?_
  refine gj_icmp_geN (tgt := 62) (by omega) (by omega) dX8_joined_23 rfl (fun zq3 => ?_) (fun zq3 => ?_)
  · exfalso; omega
  have hr9 := @sp_rch_lt o a j ho
  have hr8 := @sp_bf_lt o a j ho
  refine gj_iload dX8_joined_26 rfl ?_
  refine gj_iload_n dX8_joined_28 rfl ?_
  refine gj_iandN  dX8_joined_29 ?_
  refine gj_if_neN (tgt := 62) (Nat.lt_of_le_of_lt Nat.and_le_left (by omega)) dX8_joined_30 rfl (fun zq4 => ?_) (fun zq4 => ?_)
  · -- 30 taken
    refine gj_iload dX8_joined_62 rfl ?_
    refine gj_iload_n dX8_joined_64 rfl ?_
    refine gj_iandN  dX8_joined_65 ?_
    refine gj_if_eqN (tgt := 73) (Nat.lt_of_le_of_lt Nat.and_le_left (Nat.lt_trans (sp_rch_lt ho) (by decide))) dX8_joined_66 rfl (fun zq5 => ?_) (fun zq5 => ?_)
    · -- 66 taken
      refine gj_ic (w := 0) dX8_joined_73 ?_
      exact gj_zr rfl dX8_joined_74 rfl (mj_b0 (by first | exact sp_jn_t (Nat.le_of_lt hj) (by assumption) | exact sp_jn_f hj (by assumption) (by assumption) | exact decide_eq_true (by assumption) | exact decide_eq_false (fun q => q (by assumption)) | contradiction)) rfl
    refine gj_ic (w := 1) dX8_joined_69 ?_
    refine gj_goto (tgt := 74) dX8_joined_70 rfl ?_
    exact gj_zr rfl dX8_joined_74 rfl (mj_b1 (by first | exact sp_jn_t (Nat.le_of_lt hj) (by assumption) | exact sp_jn_f hj (by assumption) (by assumption) | exact decide_eq_true (by assumption) | exact decide_eq_false (fun q => q (by assumption)) | contradiction)) rfl
  refine gj_iload dX8_joined_33 rfl ?_
  refine gj_iload dX8_joined_35 rfl ?_
  refine gj_icmp_eqN (tgt := 62) (by omega) (by omega) dX8_joined_37 rfl (fun zq6 => ?_) (fun zq6 => ?_)
  · -- 37 taken
    refine gj_iload dX8_joined_62 rfl ?_
    refine gj_iload_n dX8_joined_64 rfl ?_
    refine gj_iandN  dX8_joined_65 ?_
    refine gj_if_eqN (tgt := 73) (Nat.lt_of_le_of_lt Nat.and_le_left (Nat.lt_trans (sp_rch_lt ho) (by decide))) dX8_joined_66 rfl (fun zq7 => ?_) (fun zq7 => ?_)
    · -- 66 taken
      refine gj_ic (w := 0) dX8_joined_73 ?_
      exact gj_zr rfl dX8_joined_74 rfl (mj_b0 (by first | exact sp_jn_t (Nat.le_of_lt hj) (by assumption) | exact sp_jn_f hj (by assumption) (by assumption) | exact decide_eq_true (by assumption) | exact decide_eq_false (fun q => q (by assumption)) | contradiction)) rfl
    refine gj_ic (w := 1) dX8_joined_69 ?_
    refine gj_goto (tgt := 74) dX8_joined_70 rfl ?_
    exact gj_zr rfl dX8_joined_74 rfl (mj_b1 (by first | exact sp_jn_t (Nat.le_of_lt hj) (by assumption) | exact sp_jn_f hj (by assumption) (by assumption) | exact decide_eq_true (by assumption) | exact decide_eq_false (fun q => q (by assumption)) | contradiction)) rfl
  refine gj_iload dX8_joined_40 rfl ?_
  refine gj_istore (L' := [some (.int (nI o)), some (.int (nI a)), some (.int (nI c)), some (.int (nI (o &&& 1 <<< c))), some (.int (nI (sp_rch o a j))), some (.int (nI (sp_rch o a j))), some (.int (nI j))]) dX8_joined_42 (Nat.le_of_ble_eq_true rfl) rfl ?_
  refine gj_iload dX8_joined_44 rfl ?_
  refine gj_iload dX8_joined_46 rfl ?_
  refine gj_S1 lkX8_21 (ev_X8_beside (sp_rch_lt ho)) dX8_joined_48 rfl rfl rfl rfl rfl ?_
  have hb8 := @sp_bes_lt (sp_rch o a j)
  refine gj_iload_n dX8_joined_51 rfl ?_
  refine gj_iandN  dX8_joined_52 ?_
  refine gj_iorN  dX8_joined_53 ?_
  refine gj_istore (L' := [some (.int (nI o)), some (.int (nI a)), some (.int (nI c)), some (.int (nI (o &&& 1 <<< c))), some (.int (nI ((sp_rch o a j) ||| ((sp_bes (sp_rch o a j)) &&& o)))), some (.int (nI (sp_rch o a j))), some (.int (nI j))]) dX8_joined_54 (Nat.le_of_ble_eq_true rfl) rfl ?_
  refine gj_iincN (L' := [some (.int (nI o)), some (.int (nI a)), some (.int (nI c)), some (.int (nI (o &&& 1 <<< c))), some (.int (nI ((sp_rch o a j) ||| ((sp_bes (sp_rch o a j)) &&& o)))), some (.int (nI (sp_rch o a j))), some (.int (nI (j + 1)))]) dX8_joined_56 rfl (Nat.le_of_ble_eq_true rfl) rfl ?_
  refine gj_goto (tgt := 19) dX8_joined_59 rfl ?_
  exact gj_cast (by rw [sp_rch_s]; rfl) rfl rfl ih
set_option maxHeartbeats 1000000 in
set_option maxRecDepth 10000 in
theorem ev_X8_measure_a {E : mj_E} {h : mj_H} {w rA sA : Nat} {R St : Nat → Nat} (Hw : h w = some (.inr (6, [.ref rA, .ref sA]))) (Hr : h rA = some (mj_ar 25 R)) (Hs : h sA = some (mj_ar 25 St)) (hx : rA ≠ sA) {o a c : Nat} (ho : o < 2 ^ 25) (ha : a < 25) (hc : c < 25) (hfar : sp_far o a c < 25) : mj_Ev E iX8_measure [.ref w, .int (nI o), .int (nI a), .int (nI c)] h (mj_R (some (.int (nI (sp_far o a c)))) (mj_up h rA (mj_ar 25 (mj_mix (sp_ring o c) R (min ((sp_far o a c) + 1) 25))))) := by
  refine mj_Ev.of (L0 := [some (.ref w), some (.int (nI o)), some (.int (nI a)), some (.int (nI c)), none]) pnRX8 (Nat.le_of_ble_eq_true rfl) rfl ?_
  refine gj_aload_n dX8_measure_0 rfl ?_
  refine gfX8_11 rfl dX8_measure_1 Hw rfl ?_
  refine gj_ic (w := 0) dX8_measure_4 ?_
  refine gj_iload_n dX8_measure_5 rfl ?_
  refine gj_ic (w := 1) dX8_measure_6 ?_
  refine gj_iload_n dX8_measure_7 rfl ?_
  refine gj_ishlN (by omega) dX8_measure_8 ?_
  refine gj_iandN  dX8_measure_9 ?_
  refine gj_iastN dX8_measure_10 Hr (by omega) (by omega) ?_
  refine gj_ic (w := 0) dX8_measure_11 ?_
  refine gj_istore (L' := [some (.ref w), some (.int (nI o)), some (.int (nI a)), some (.int (nI c)), some (.int (nI 0))]) dX8_measure_12 (Nat.le_of_ble_eq_true rfl) rfl ?_
  refine gj_cast (L' := [some (.ref w), some (.int (nI o)), some (.int (nI a)), some (.int (nI c)), some (.int (nI 0))]) (st' := []) (h' := mj_up h rA (mj_ar 25 (mj_mix (sp_ring o c) R (min (0 + 1) 25)))) rfl rfl (by rw [show min (0 + 1) 25 = 0 + 1 from rfl, ← mj_mix_un (f := sp_ring o c) (j := 0) (x := o &&& 1 <<< c) sp_ring_0, mj_mix_0]) ?_
  refine gj_loopI (fun j => ∀ i, i < j → Nat.testBit (sp_ring o c i) a = false) (fun j => [some (.ref w), some (.int (nI o)), some (.int (nI a)), some (.int (nI c)), some (.int (nI j))]) (fun j => mj_up h rA (mj_ar 25 (mj_mix (sp_ring o c) R (min (j + 1) 25)))) 25 (fun hq => ?_) (fun j hj hq ih => ?_) 0 (by omega) (fun i hi => absurd hi (Nat.not_lt_zero _))
  · show gj _ _ _ _ _ _ [some (.ref w), some (.int (nI o)), some (.int (nI a)), some (.int (nI c)), some (.int (nI 25))] _ _
    refine gj_iload dX8_measure_14 rfl ?_
    refine gj_bp 25 dX8_measure_16 (by decide) ?_
    refine gj_icmp_geN (tgt := 74) (by omega) (by omega) dX8_measure_18 rfl (fun zq1 => ?_) (fun zq1 => ?_)
    rotate_left
    · exfalso; omega
    refine gj_iconst (v := (-1)) dX8_measure_74 (by decide) ?_
    exact gj_ir rfl dX8_measure_75 rfl (by exact absurd (sp_far_none hq) (by omega)) (by exact absurd (sp_far_none hq) (by omega))
  show gj _ _ _ _ _ _ [some (.ref w), some (.int (nI o)), some (.int (nI a)), some (.int (nI c)), some (.int (nI j))] _ _
  refine gj_iload dX8_measure_14 rfl ?_
  refine gj_bp 25 dX8_measure_16 (by decide) ?_
  refine gj_icmp_geN (tgt := 74) (by omega) (by omega) dX8_measure_18 rfl (fun zq2 => ?_) (fun zq2 => ?_)
  · exfalso; omega
  refine gj_aload_n dX8_measure_21 rfl ?_
  refine gfX8_11 rfl dX8_measure_22 ((mj_up_ne (mj_neOA Hw Hr)).trans Hw) rfl ?_
  refine gj_iload dX8_measure_25 rfl ?_
  refine gj_ialdN dX8_measure_27 (mj_up_eq _ _ _) (by omega) (by omega) ?_
  refine gj_topN (mj_mix_lt (by omega)) ?_
  refine gj_iload_n dX8_measure_28 rfl ?_
  refine gj_N1 lkX8_32 (ev_X10_has (Nat.lt_trans (sp_ring_lt ho) (by decide)) (by omega)) dX8_measure_29 rfl rfl rfl rfl rfl ?_
  refine gj_if_eqb (tgt := 38) dX8_measure_32 rfl (fun zq3 => ?_) (fun zq3 => ?_)
  · -- 32 taken
    refine gj_iload dX8_measure_38 rfl ?_
    refine gj_ic (w := 1) dX8_measure_40 ?_
    refine gj_iaddN  dX8_measure_41 ?_
    refine gj_bp 25 dX8_measure_42 (by decide) ?_
    refine gj_icmp_geN (tgt := 68) (by omega) (by omega) dX8_measure_44 rfl (fun zq4 => ?_) (fun zq4 => ?_)
    · -- 44 taken
      refine gj_iincN (L' := [some (.ref w), some (.int (nI o)), some (.int (nI a)), some (.int (nI c)), some (.int (nI (j + 1)))]) dX8_measure_68 rfl (Nat.le_of_ble_eq_true rfl) rfl ?_
      refine gj_goto (tgt := 14) dX8_measure_71 rfl ?_
      exact gj_cast rfl rfl (by rw [show min (j + 1) 25 = min (j + 1 + 1) 25 by omega]) (ih (fun i hi => by by_cases q : i = j <;> first | (subst q; assumption) | exact hq i (by omega)))
    refine gj_aload_n dX8_measure_47 rfl ?_
    refine gfX8_11 rfl dX8_measure_48 ((mj_up_ne (mj_neOA Hw Hr)).trans Hw) rfl ?_
    refine gj_iload dX8_measure_51 rfl ?_
    refine gj_ic (w := 1) dX8_measure_53 ?_
    refine gj_iaddN  dX8_measure_54 ?_
    refine gj_aload_n dX8_measure_55 rfl ?_
    refine gfX8_11 rfl dX8_measure_56 ((mj_up_ne (mj_neOA Hw Hr)).trans Hw) rfl ?_
    refine gj_iload dX8_measure_59 rfl ?_
    refine gj_ialdN dX8_measure_61 (mj_up_eq _ _ _) (by omega) (by omega) ?_
    refine gj_topN (mj_mix_lt (by omega)) ?_
    refine gj_S1 lkX8_21 (ev_X8_beside (sp_ring_lt ho)) dX8_measure_62 rfl rfl rfl rfl rfl ?_
    have hb5 := @sp_bes_lt (sp_ring o c j)
    refine gj_iload_n dX8_measure_65 rfl ?_
    refine gj_iandN  dX8_measure_66 ?_
    refine gj_iastN dX8_measure_67 (mj_up_eq _ _ _) (by omega) (by omega) ?_
    refine gj_iincN (L' := [some (.ref w), some (.int (nI o)), some (.int (nI a)), some (.int (nI c)), some (.int (nI (j + 1)))]) dX8_measure_68 rfl (Nat.le_of_ble_eq_true rfl) rfl ?_
    refine gj_goto (tgt := 14) dX8_measure_71 rfl ?_
    exact gj_cast rfl rfl (by rw [mj_up_up, show min (j + 1) 25 = j + 1 by omega, show min (j + 1 + 1) 25 = j + 1 + 1 by omega, mj_mix_un (f := sp_ring o c) (j := j + 1) sp_ring_s.symm]) (ih (fun i hi => by by_cases q : i = j <;> first | (subst q; assumption) | exact hq i (by omega)))
  refine gj_iload dX8_measure_35 rfl ?_
  exact gj_ir rfl dX8_measure_37 rfl (congrArg nI (by exact (sp_far_at hj (by assumption) hq).symm)) (by rw [show sp_far o a c = j from sp_far_at hj (by assumption) hq])
set_option maxHeartbeats 1000000 in
set_option maxRecDepth 10000 in
theorem ev_X8_measure_b {E : mj_E} {h : mj_H} {w rA sA : Nat} {R St : Nat → Nat} (Hw : h w = some (.inr (6, [.ref rA, .ref sA]))) (Hr : h rA = some (mj_ar 25 R)) (Hs : h sA = some (mj_ar 25 St)) (hx : rA ≠ sA) {o a c : Nat} (ho : o < 2 ^ 25) (ha : a < 25) (hc : c < 25) (hfar : sp_far o a c = 25) : mj_Ev E iX8_measure [.ref w, .int (nI o), .int (nI a), .int (nI c)] h (mj_R (some (.int (-1))) (mj_up h rA (mj_ar 25 (mj_mix (sp_ring o c) R (min ((sp_far o a c) + 1) 25))))) := by
  refine mj_Ev.of (L0 := [some (.ref w), some (.int (nI o)), some (.int (nI a)), some (.int (nI c)), none]) pnRX8 (Nat.le_of_ble_eq_true rfl) rfl ?_
  refine gj_aload_n dX8_measure_0 rfl ?_
  refine gfX8_11 rfl dX8_measure_1 Hw rfl ?_
  refine gj_ic (w := 0) dX8_measure_4 ?_
  refine gj_iload_n dX8_measure_5 rfl ?_
  refine gj_ic (w := 1) dX8_measure_6 ?_
  refine gj_iload_n dX8_measure_7 rfl ?_
  refine gj_ishlN (by omega) dX8_measure_8 ?_
  refine gj_iandN  dX8_measure_9 ?_
  refine gj_iastN dX8_measure_10 Hr (by omega) (by omega) ?_
  refine gj_ic (w := 0) dX8_measure_11 ?_
  refine gj_istore (L' := [some (.ref w), some (.int (nI o)), some (.int (nI a)), some (.int (nI c)), some (.int (nI 0))]) dX8_measure_12 (Nat.le_of_ble_eq_true rfl) rfl ?_
  refine gj_cast (L' := [some (.ref w), some (.int (nI o)), some (.int (nI a)), some (.int (nI c)), some (.int (nI 0))]) (st' := []) (h' := mj_up h rA (mj_ar 25 (mj_mix (sp_ring o c) R (min (0 + 1) 25)))) rfl rfl (by rw [show min (0 + 1) 25 = 0 + 1 from rfl, ← mj_mix_un (f := sp_ring o c) (j := 0) (x := o &&& 1 <<< c) sp_ring_0, mj_mix_0]) ?_
  refine gj_loopI (fun j => ∀ i, i < j → Nat.testBit (sp_ring o c i) a = false) (fun j => [some (.ref w), some (.int (nI o)), some (.int (nI a)), some (.int (nI c)), some (.int (nI j))]) (fun j => mj_up h rA (mj_ar 25 (mj_mix (sp_ring o c) R (min (j + 1) 25)))) 25 (fun hq => ?_) (fun j hj hq ih => ?_) 0 (by omega) (fun i hi => absurd hi (Nat.not_lt_zero _))
  · show gj _ _ _ _ _ _ [some (.ref w), some (.int (nI o)), some (.int (nI a)), some (.int (nI c)), some (.int (nI 25))] _ _
    refine gj_iload dX8_measure_14 rfl ?_
    refine gj_bp 25 dX8_measure_16 (by decide) ?_
    refine gj_icmp_geN (tgt := 74) (by omega) (by omega) dX8_measure_18 rfl (fun zq1 => ?_) (fun zq1 => ?_)
    rotate_left
    · exfalso; omega
    refine gj_iconst (v := (-1)) dX8_measure_74 (by decide) ?_
    exact gj_ir rfl dX8_measure_75 rfl rfl (by rw [hfar])
  show gj _ _ _ _ _ _ [some (.ref w), some (.int (nI o)), some (.int (nI a)), some (.int (nI c)), some (.int (nI j))] _ _
  refine gj_iload dX8_measure_14 rfl ?_
  refine gj_bp 25 dX8_measure_16 (by decide) ?_
  refine gj_icmp_geN (tgt := 74) (by omega) (by omega) dX8_measure_18 rfl (fun zq2 => ?_) (fun zq2 => ?_)
  · exfalso; omega
  refine gj_aload_n dX8_measure_21 rfl ?_
  refine gfX8_11 rfl dX8_measure_22 ((mj_up_ne (mj_neOA Hw Hr)).trans Hw) rfl ?_
  refine gj_iload dX8_measure_25 rfl ?_
  refine gj_ialdN dX8_measure_27 (mj_up_eq _ _ _) (by omega) (by omega) ?_
  refine gj_topN (mj_mix_lt (by omega)) ?_
  refine gj_iload_n dX8_measure_28 rfl ?_
  refine gj_N1 lkX8_32 (ev_X10_has (Nat.lt_trans (sp_ring_lt ho) (by decide)) (by omega)) dX8_measure_29 rfl rfl rfl rfl rfl ?_
  refine gj_if_eqb (tgt := 38) dX8_measure_32 rfl (fun zq3 => ?_) (fun zq3 => ?_)
  · -- 32 taken
    refine gj_iload dX8_measure_38 rfl ?_
    refine gj_ic (w := 1) dX8_measure_40 ?_
    refine gj_iaddN  dX8_measure_41 ?_
    refine gj_bp 25 dX8_measure_42 (by decide) ?_
    refine gj_icmp_geN (tgt := 68) (by omega) (by omega) dX8_measure_44 rfl (fun zq4 => ?_) (fun zq4 => ?_)
    · -- 44 taken
      refine gj_iincN (L' := [some (.ref w), some (.int (nI o)), some (.int (nI a)), some (.int (nI c)), some (.int (nI (j + 1)))]) dX8_measure_68 rfl (Nat.le_of_ble_eq_true rfl) rfl ?_
      refine gj_goto (tgt := 14) dX8_measure_71 rfl ?_
      exact gj_cast rfl rfl (by rw [show min (j + 1) 25 = min (j + 1 + 1) 25 by omega]) (ih (fun i hi => by by_cases q : i = j <;> first | (subst q; assumption) | exact hq i (by omega)))
    refine gj_aload_n dX8_measure_47 rfl ?_
    refine gfX8_11 rfl dX8_measure_48 ((mj_up_ne (mj_neOA Hw Hr)).trans Hw) rfl ?_
    refine gj_iload dX8_measure_51 rfl ?_
    refine gj_ic (w := 1) dX8_measure_53 ?_
    refine gj_iaddN  dX8_measure_54 ?_
    refine gj_aload_n dX8_measure_55 rfl ?_
    refine gfX8_11 rfl dX8_measure_56 ((mj_up_ne (mj_neOA Hw Hr)).trans Hw) rfl ?_
    refine gj_iload dX8_measure_59 rfl ?_
    refine gj_ialdN dX8_measure_61 (mj_up_eq _ _ _) (by omega) (by omega) ?_
    refine gj_topN (mj_mix_lt (by omega)) ?_
    refine gj_S1 lkX8_21 (ev_X8_beside (sp_ring_lt ho)) dX8_measure_62 rfl rfl rfl rfl rfl ?_
    have hb5 := @sp_bes_lt (sp_ring o c j)
    refine gj_iload_n dX8_measure_65 rfl ?_
    refine gj_iandN  dX8_measure_66 ?_
    refine gj_iastN dX8_measure_67 (mj_up_eq _ _ _) (by omega) (by omega) ?_
    refine gj_iincN (L' := [some (.ref w), some (.int (nI o)), some (.int (nI a)), some (.int (nI c)), some (.int (nI (j + 1)))]) dX8_measure_68 rfl (Nat.le_of_ble_eq_true rfl) rfl ?_
    refine gj_goto (tgt := 14) dX8_measure_71 rfl ?_
    exact gj_cast rfl rfl (by rw [mj_up_up, show min (j + 1) 25 = j + 1 by omega, show min (j + 1 + 1) 25 = j + 1 + 1 by omega, mj_mix_un (f := sp_ring o c) (j := j + 1) sp_ring_s.symm]) (ih (fun i hi => by by_cases q : i = j <;> first | (subst q; assumption) | exact hq i (by omega)))
  refine gj_iload dX8_measure_35 rfl ?_
  exact gj_ir rfl dX8_measure_37 rfl (by exact absurd (sp_far_at hj (by assumption) hq) (by omega)) (by exact absurd (sp_far_at hj (by assumption) hq) (by omega))
set_option maxHeartbeats 1000000 in
set_option maxRecDepth 10000 in
theorem ev_X8_find_a {E : mj_E} {h : mj_H} {w rA sA : Nat} {R St : Nat → Nat} (Hw : h w = some (.inr (6, [.ref rA, .ref sA]))) (Hr : h rA = some (mj_ar 25 R)) (Hs : h sA = some (mj_ar 25 St)) (hx : rA ≠ sA) {o a c : Nat} (ho : o < 2 ^ 25) (ha : a < 25) (hc : c < 25) (hfar : sp_far o a c < 25) : mj_Ev E iX8_find [.ref w, .int (nI o), .int (nI a), .int (nI c)] h (mj_R (some (.int (nI (sp_far o a c + 1)))) (mj_up (mj_up h rA (mj_ar 25 (mj_mix (sp_ring o c) R (min ((sp_far o a c) + 1) 25)))) sA (mj_ar 25 (mj_mix (sp_here o a c (sp_far o a c)) St (sp_far o a c + 1))))) := by
  refine mj_Ev.of (L0 := [some (.ref w), some (.int (nI o)), some (.int (nI a)), some (.int (nI c)), none, none, none]) pnRX8 (Nat.le_of_ble_eq_true rfl) rfl ?_
  refine gj_aload_n dX8_find_0 rfl ?_
  refine gj_iload_n dX8_find_1 rfl ?_
  refine gj_iload_n dX8_find_2 rfl ?_
  refine gj_iload_n dX8_find_3 rfl ?_
  refine gj_V1 lkX8_25 Hw rfl rfl (ev_X8_measure_a Hw Hr Hs hx ho ha hc hfar) dX8_find_4 rfl rfl rfl rfl rfl ?_
  refine gj_istore (L' := [some (.ref w), some (.int (nI o)), some (.int (nI a)), some (.int (nI c)), some (.int (nI (sp_far o a c))), none, none]) dX8_find_7 (Nat.le_of_ble_eq_true rfl) rfl ?_
  refine gj_iload dX8_find_9 rfl ?_
  refine gj_if_geN (tgt := 16) (by omega) dX8_find_11 rfl (fun zq1 => ?_) (fun zq1 => ?_)
  rotate_left
  · exfalso; exact zq1
  refine gj_iload_n dX8_find_16 rfl ?_
  refine gj_istore (L' := [some (.ref w), some (.int (nI o)), some (.int (nI a)), some (.int (nI c)), some (.int (nI (sp_far o a c))), some (.int (nI a)), none]) dX8_find_17 (Nat.le_of_ble_eq_true rfl) rfl ?_
  refine gj_ic (w := 0) dX8_find_19 ?_
  refine gj_istore (L' := [some (.ref w), some (.int (nI o)), some (.int (nI a)), some (.int (nI c)), some (.int (nI (sp_far o a c))), some (.int (nI a)), some (.int (nI 0))]) dX8_find_20 (Nat.le_of_ble_eq_true rfl) rfl ?_
  refine gj_cast (L' := [some (.ref w), some (.int (nI o)), some (.int (nI a)), some (.int (nI c)), some (.int (nI (sp_far o a c))), some (.int (nI (sp_here o a c (sp_far o a c) (min 0 (sp_far o a c))))), some (.int (nI 0))]) (st' := []) (h' := mj_up (mj_up h rA (mj_ar 25 (mj_mix (sp_ring o c) R (min ((sp_far o a c) + 1) 25)))) sA (mj_ar 25 (mj_mix (sp_here o a c (sp_far o a c)) St 0))) (by rw [Nat.zero_min]; rfl) rfl (by rw [mj_mix_0, mj_up_self ((mj_up_ne (Ne.symm hx)).trans Hs)]) ?_
  refine gj_loop (fun j => [some (.ref w), some (.int (nI o)), some (.int (nI a)), some (.int (nI c)), some (.int (nI (sp_far o a c))), some (.int (nI (sp_here o a c (sp_far o a c) (min j (sp_far o a c))))), some (.int (nI j))]) (fun j => mj_up (mj_up h rA (mj_ar 25 (mj_mix (sp_ring o c) R (min ((sp_far o a c) + 1) 25)))) sA (mj_ar 25 (mj_mix (sp_here o a c (sp_far o a c)) St j))) (sp_far o a c + 1) ?_ (fun j hj ih => ?_) 0 (by omega)
  · show gj _ _ _ _ _ _ [some (.ref w), some (.int (nI o)), some (.int (nI a)), some (.int (nI c)), some (.int (nI (sp_far o a c))), some (.int (nI (sp_here o a c (sp_far o a c) (min (sp_far o a c + 1) (sp_far o a c))))), some (.int (nI (sp_far o a c + 1)))] _ _
    refine gj_iload dX8_find_22 rfl ?_
    refine gj_iload dX8_find_24 rfl ?_
    refine gj_icmp_gtN (tgt := 83) (by omega) (by omega) dX8_find_26 rfl (fun zq2 => ?_) (fun zq2 => ?_)
    rotate_left
    · exfalso; omega
    refine gj_iload dX8_find_83 rfl ?_
    refine gj_ic (w := 1) dX8_find_85 ?_
    refine gj_iaddN  dX8_find_86 ?_
    exact gj_ir rfl dX8_find_87 rfl rfl rfl
  show gj _ _ _ _ _ _ [some (.ref w), some (.int (nI o)), some (.int (nI a)), some (.int (nI c)), some (.int (nI (sp_far o a c))), some (.int (nI (sp_here o a c (sp_far o a c) (min j (sp_far o a c))))), some (.int (nI j))] _ _
  refine gj_iload dX8_find_22 rfl ?_
  refine gj_iload dX8_find_24 rfl ?_
  refine gj_icmp_gtN (tgt := 83) (by omega) (by omega) dX8_find_26 rfl (fun zq3 => ?_) (fun zq3 => ?_)
  · exfalso; omega
  have hb8 := @sp_here_lt o a c (sp_far o a c) j ha
  refine gj_cast (L' := [some (.ref w), some (.int (nI o)), some (.int (nI a)), some (.int (nI c)), some (.int (nI (sp_far o a c))), some (.int (nI (sp_here o a c (sp_far o a c) j))), some (.int (nI j))]) (by rw [show min j (sp_far o a c) = j by omega]) rfl rfl ?_
  refine gj_iload dX8_find_29 rfl ?_
  refine gj_bp 25 dX8_find_31 (by decide) ?_
  refine gj_icmp_geN (tgt := 83) (by omega) (by omega) dX8_find_33 rfl (fun zq4 => ?_) (fun zq4 => ?_)
  · exfalso; omega
  refine gj_aload_n dX8_find_36 rfl ?_
  refine gfX8_15 rfl dX8_find_37 ((mj_up_ne (mj_neOA Hw Hs)).trans ((mj_up_ne (mj_neOA Hw Hr)).trans Hw)) rfl ?_
  refine gj_iload dX8_find_40 rfl ?_
  refine gj_iload dX8_find_42 rfl ?_
  refine gj_iastN dX8_find_44 (mj_up_eq _ _ _) (by omega) (by omega) ?_
  refine gj_iload dX8_find_45 rfl ?_
  refine gj_iload dX8_find_47 rfl ?_
  refine gj_icmp_geN (tgt := 77) (by omega) (by omega) dX8_find_49 rfl (fun zq5 => ?_) (fun zq5 => ?_)
  · -- 49 taken
    refine gj_iincN (L' := [some (.ref w), some (.int (nI o)), some (.int (nI a)), some (.int (nI c)), some (.int (nI (sp_far o a c))), some (.int (nI (sp_here o a c (sp_far o a c) j))), some (.int (nI (j + 1)))]) dX8_find_77 rfl (Nat.le_of_ble_eq_true rfl) rfl ?_
    refine gj_goto (tgt := 22) dX8_find_80 rfl ?_
    exact gj_cast (by first | rw [show min (j + 1) (sp_far o a c) = j + 1 by omega, sp_here_s] | rw [show min (j + 1) (sp_far o a c) = j by omega]) rfl (by rw [mj_up_up, mj_mix_un rfl]) ih
  refine gj_ic (w := 1) dX8_find_52 ?_
  refine gj_iload dX8_find_53 rfl ?_
  refine gj_ishlN (by omega) dX8_find_55 ?_
  refine gj_S1 lkX8_21 (ev_X8_beside (by rw [Nat.shiftLeft_eq, Nat.one_mul]; exact Nat.pow_lt_pow_right (by decide) hb8)) dX8_find_56 rfl rfl rfl rfl rfl ?_
  have hb6 := @sp_bes_lt (1 <<< (sp_here o a c (sp_far o a c) j))
  refine gj_aload_n dX8_find_59 rfl ?_
  refine gfX8_11 rfl dX8_find_60 ((mj_up_ne (mj_neOA Hw Hs)).trans ((mj_up_ne (mj_neOA Hw Hs)).trans ((mj_up_ne (mj_neOA Hw Hr)).trans Hw))) rfl ?_
  refine gj_iload dX8_find_63 rfl ?_
  refine gj_iload dX8_find_65 rfl ?_
  refine gj_isubN (by omega) dX8_find_67 ?_
  refine gj_ic (w := 1) dX8_find_68 ?_
  refine gj_isubN (by omega) dX8_find_69 ?_
  refine gj_ialdN dX8_find_70 ((mj_up_ne hx).trans ((mj_up_ne hx).trans (mj_up_eq _ _ _))) (by omega) (by omega) ?_
  refine gj_topN (mj_mix_lt (by omega)) ?_
  refine gj_iandN  dX8_find_71 ?_
  refine gj_S1 lkX8_29 (ev_X8_first (Nat.lt_of_le_of_lt Nat.and_le_left sp_bes_lt)) dX8_find_72 rfl rfl rfl rfl rfl ?_
  have hb7 := @sp_lo_lt ((sp_bes (1 <<< (sp_here o a c (sp_far o a c) j))) &&& (sp_ring o c (sp_far o a c - j - 1)))
  refine gj_istore (L' := [some (.ref w), some (.int (nI o)), some (.int (nI a)), some (.int (nI c)), some (.int (nI (sp_far o a c))), some (.int (nI (sp_lo ((sp_bes (1 <<< (sp_here o a c (sp_far o a c) j))) &&& (sp_ring o c (sp_far o a c - j - 1)))))), some (.int (nI j))]) dX8_find_75 (Nat.le_of_ble_eq_true rfl) rfl ?_
  refine gj_iincN (L' := [some (.ref w), some (.int (nI o)), some (.int (nI a)), some (.int (nI c)), some (.int (nI (sp_far o a c))), some (.int (nI (sp_lo ((sp_bes (1 <<< (sp_here o a c (sp_far o a c) j))) &&& (sp_ring o c (sp_far o a c - j - 1)))))), some (.int (nI (j + 1)))]) dX8_find_77 rfl (Nat.le_of_ble_eq_true rfl) rfl ?_
  refine gj_goto (tgt := 22) dX8_find_80 rfl ?_
  exact gj_cast (by first | rw [show min (j + 1) (sp_far o a c) = j + 1 by omega, sp_here_s] | rw [show min (j + 1) (sp_far o a c) = j by omega]) rfl (by rw [mj_up_up, mj_mix_un rfl]) ih
set_option maxHeartbeats 1000000 in
set_option maxRecDepth 10000 in
theorem ev_X8_find_b {E : mj_E} {h : mj_H} {w rA sA : Nat} {R St : Nat → Nat} (Hw : h w = some (.inr (6, [.ref rA, .ref sA]))) (Hr : h rA = some (mj_ar 25 R)) (Hs : h sA = some (mj_ar 25 St)) (hx : rA ≠ sA) {o a c : Nat} (ho : o < 2 ^ 25) (ha : a < 25) (hc : c < 25) (hfar : sp_far o a c = 25) : mj_Ev E iX8_find [.ref w, .int (nI o), .int (nI a), .int (nI c)] h (mj_R (some (.int (nI 0))) (mj_up h rA (mj_ar 25 (mj_mix (sp_ring o c) R (min ((sp_far o a c) + 1) 25))))) := by
  refine mj_Ev.of (L0 := [some (.ref w), some (.int (nI o)), some (.int (nI a)), some (.int (nI c)), none, none, none]) pnRX8 (Nat.le_of_ble_eq_true rfl) rfl ?_
  refine gj_aload_n dX8_find_0 rfl ?_
  refine gj_iload_n dX8_find_1 rfl ?_
  refine gj_iload_n dX8_find_2 rfl ?_
  refine gj_iload_n dX8_find_3 rfl ?_
  refine gj_V1 lkX8_25 Hw rfl rfl (ev_X8_measure_b Hw Hr Hs hx ho ha hc hfar) dX8_find_4 rfl rfl rfl rfl rfl ?_
  refine gj_istore (L' := [some (.ref w), some (.int (nI o)), some (.int (nI a)), some (.int (nI c)), some (.int (-1)), none, none]) dX8_find_7 (Nat.le_of_ble_eq_true rfl) rfl ?_
  refine gj_iload dX8_find_9 rfl ?_
  refine gj_if_ge (tgt := 16) dX8_find_11 rfl (fun zq1 => ?_) (fun zq1 => ?_)
  · exfalso; revert zq1; decide
  refine gj_ic (w := 0) dX8_find_14 ?_
  exact gj_ir rfl dX8_find_15 rfl rfl rfl
set_option maxHeartbeats 4000000 in
set_option maxRecDepth 10000 in
theorem ev_X8_cut {E : mj_E} {h : mj_H} {o a c : Nat} (ho : o < 2 ^ 25) (ha : a < 25) (hc : c < 25) : mj_Ev E iX8_cut [.int (nI o), .int (nI a), .int (nI c)] h (mj_R (some (.int (nI (sp_cut o a c)))) h) := by
  refine mj_Ev.of (L0 := [some (.int (nI o)), some (.int (nI a)), some (.int (nI c)), none, none, none, none]) pnRX8 (Nat.le_of_ble_eq_true rfl) rfl ?_
  refine gj_iload_n dX8_cut_0 rfl ?_
  refine gj_iload_n dX8_cut_1 rfl ?_
  refine gj_iload_n dX8_cut_2 rfl ?_
  refine gj_S1 lkX8_40 (ev_X8_joined ho (by omega) (by omega)) dX8_cut_3 rfl rfl rfl rfl rfl ?_
  refine gj_if_neb (tgt := 11) dX8_cut_6 rfl (fun zq1 => ?_) (fun zq1 => ?_)
  · -- 6 taken
    have hjn := zq1
    refine gj_iload_n dX8_cut_11 rfl ?_
    refine gj_ic (w := 1) dX8_cut_12 ?_
    refine gj_iload_n dX8_cut_13 rfl ?_
    refine gj_ishlN (by omega) dX8_cut_14 ?_
    refine gj_iconst (v := (-1)) dX8_cut_15 (by decide) ?_
    refine gj_top (y := nI 4294967295) (by decide) ?_
    refine gj_ixorN  dX8_cut_16 ?_
    refine gj_iandN dX8_cut_17 ?_
    refine gj_ic (w := 1) dX8_cut_18 ?_
    refine gj_iload_n dX8_cut_19 rfl ?_
    refine gj_ishlN (by omega) dX8_cut_20 ?_
    refine gj_iconst (v := (-1)) dX8_cut_21 (by decide) ?_
    refine gj_top (y := nI 4294967295) (by decide) ?_
    refine gj_ixorN  dX8_cut_22 ?_
    refine gj_iandN dX8_cut_23 ?_
    refine gj_istore_n (L' := [some (.int (nI o)), some (.int (nI a)), some (.int (nI c)), some (.int (nI (sp_wo (sp_wo o a) c))), none, none, none]) dX8_cut_24 (Nat.le_of_ble_eq_true rfl) rfl ?_
    refine gj_ic (w := 0) dX8_cut_25 ?_
    refine gj_istore (L' := [some (.int (nI o)), some (.int (nI a)), some (.int (nI c)), some (.int (nI (sp_wo (sp_wo o a) c))), some (.int (nI 0)), none, none]) dX8_cut_26 (Nat.le_of_ble_eq_true rfl) rfl ?_
    refine gj_cast (L' := [some (.int (nI o)), some (.int (nI a)), some (.int (nI c)), some (.int (nI (sp_wo (sp_wo o a) c))), some (.int (nI 0)), none, none]) (st' := []) (h' := h) rfl rfl rfl ?_
    refine gj_loopI (fun j => ∀ i, i < j → sp_c1 o a c i = false) (fun j => [some (.int (nI o)), some (.int (nI a)), some (.int (nI c)), some (.int (nI (sp_wo (sp_wo o a) c))), some (.int (nI j)), none, none]) (fun j => h) 25 (fun hq => ?_) (fun j hj hq ih => ?_) 0 (by omega) (fun i hi => absurd hi (Nat.not_lt_zero _))
    · show gj _ _ _ _ _ _ [some (.int (nI o)), some (.int (nI a)), some (.int (nI c)), some (.int (nI (sp_wo (sp_wo o a) c))), some (.int (nI 25)), none, none] _ _
      refine gj_iload dX8_cut_28 rfl ?_
      refine gj_bp 25 dX8_cut_30 (by decide) ?_
      refine gj_icmp_geN (tgt := 73) (by omega) (by omega) dX8_cut_32 rfl (fun zq2 => ?_) (fun zq2 => ?_)
      rotate_left
      · exfalso; omega
      refine gj_ic (w := 0) dX8_cut_73 ?_
      refine gj_istore (L' := [some (.int (nI o)), some (.int (nI a)), some (.int (nI c)), some (.int (nI (sp_wo (sp_wo o a) c))), some (.int (nI 0)), none, none]) dX8_cut_74 (Nat.le_of_ble_eq_true rfl) rfl ?_
      refine gj_cast (L' := [some (.int (nI o)), some (.int (nI a)), some (.int (nI c)), some (.int (nI (sp_wo (sp_wo o a) c))), some (.int (nI 0)), none, none]) (st' := []) (h' := h) rfl rfl rfl ?_
      refine gj_loopI (fun j => ∀ i, i < j → sp_cy o a c i = 25) (fun j => [some (.int (nI o)), some (.int (nI a)), some (.int (nI c)), some (.int (nI (sp_wo (sp_wo o a) c))), some (.int (nI j)), none, none]) (fun j => h) 25 (fun hqx => ?_) (fun j hj hqx ih => ?_) 0 (by omega) (fun i hi => absurd hi (Nat.not_lt_zero _))
      · show gj _ _ _ _ _ _ [some (.int (nI o)), some (.int (nI a)), some (.int (nI c)), some (.int (nI (sp_wo (sp_wo o a) c))), some (.int (nI 25)), none, none] _ _
        refine gj_iload dX8_cut_76 rfl ?_
        refine gj_bp 25 dX8_cut_78 (by decide) ?_
        refine gj_icmp_geN (tgt := 170) (by omega) (by omega) dX8_cut_80 rfl (fun zq3 => ?_) (fun zq3 => ?_)
        rotate_left
        · exfalso; omega
        refine gj_iconst (v := (-1)) dX8_cut_170 (by decide) ?_
        refine gj_top (y := nI 4294967295) (by decide) ?_
        exact gj_ir rfl dX8_cut_171 rfl (congrArg nI (by unfold sp_cut; rw [if_pos hjn, sp_fst_none (p := sp_c1 o a c) hq, if_neg (Nat.lt_irrefl 25), show sp_cx o a c = 25 from sp_fst_none (p := fun x => decide (sp_cy o a c x < 25)) (fun i hi => decide_eq_false (by rw [hqx i hi]; omega)), if_neg (Nat.lt_irrefl 25)])) rfl
      show gj _ _ _ _ _ _ [some (.int (nI o)), some (.int (nI a)), some (.int (nI c)), some (.int (nI (sp_wo (sp_wo o a) c))), some (.int (nI j)), none, none] _ _
      refine gj_iload dX8_cut_76 rfl ?_
      refine gj_bp 25 dX8_cut_78 (by decide) ?_
      refine gj_icmp_geN (tgt := 170) (by omega) (by omega) dX8_cut_80 rfl (fun zq4 => ?_) (fun zq4 => ?_)
      · exfalso; omega
      refine gj_iload dX8_cut_83 rfl ?_
      refine gj_ic (w := 1) dX8_cut_85 ?_
      refine gj_iaddN  dX8_cut_86 ?_
      refine gj_istore (L' := [some (.int (nI o)), some (.int (nI a)), some (.int (nI c)), some (.int (nI (sp_wo (sp_wo o a) c))), some (.int (nI j)), some (.int (nI (j + 1))), none]) dX8_cut_87 (Nat.le_of_ble_eq_true rfl) rfl ?_
      refine gj_cast (L' := [some (.int (nI o)), some (.int (nI a)), some (.int (nI c)), some (.int (nI (sp_wo (sp_wo o a) c))), some (.int (nI j)), some (.int (nI (j + 1))), none]) (st' := []) (h' := h) rfl rfl rfl ?_
      refine gj_loopI (fun y => j < y ∧ ∀ i, i < y → sp_c2 o a c j i = false) (fun y => [some (.int (nI o)), some (.int (nI a)), some (.int (nI c)), some (.int (nI (sp_wo (sp_wo o a) c))), some (.int (nI j)), some (.int (nI y)), none]) (fun y => h) 25 (fun hqy => ?_) (fun y hy hqy ihy => ?_) (j + 1) (by omega) ⟨by omega, fun i hi => by unfold sp_c2; rw [decide_eq_false (by omega), Bool.false_and]⟩
      · show gj _ _ _ _ _ _ [some (.int (nI o)), some (.int (nI a)), some (.int (nI c)), some (.int (nI (sp_wo (sp_wo o a) c))), some (.int (nI j)), some (.int (nI 25)), none] _ _
        refine gj_iload dX8_cut_89 rfl ?_
        refine gj_bp 25 dX8_cut_91 (by decide) ?_
        refine gj_icmp_geN (tgt := 164) (by omega) (by omega) dX8_cut_93 rfl (fun zq5 => ?_) (fun zq5 => ?_)
        rotate_left
        · exfalso; omega
        refine gj_iincN (L' := [some (.int (nI o)), some (.int (nI a)), some (.int (nI c)), some (.int (nI (sp_wo (sp_wo o a) c))), some (.int (nI (j + 1))), some (.int (nI 25)), none]) dX8_cut_164 rfl (Nat.le_of_ble_eq_true rfl) rfl ?_
        refine gj_goto (tgt := 76) dX8_cut_167 rfl ?_
        refine gj_forget (i := 5) (L' := [some (.int (nI o)), some (.int (nI a)), some (.int (nI c)), some (.int (nI (sp_wo (sp_wo o a) c))), some (.int (nI (j + 1))), none, none]) rfl ?_
        exact ih (fun i hi => by by_cases q : i = j <;> first | (subst q; exact sp_fst_none (p := sp_c2 o a c i) hqy.2) | exact hqx i (by omega))
      show gj _ _ _ _ _ _ [some (.int (nI o)), some (.int (nI a)), some (.int (nI c)), some (.int (nI (sp_wo (sp_wo o a) c))), some (.int (nI j)), some (.int (nI y)), none] _ _
      refine gj_iload dX8_cut_89 rfl ?_
      refine gj_bp 25 dX8_cut_91 (by decide) ?_
      refine gj_icmp_geN (tgt := 164) (by omega) (by omega) dX8_cut_93 rfl (fun zq6 => ?_) (fun zq6 => ?_)
      · exfalso; omega
      refine gj_iload_n dX8_cut_96 rfl ?_
      refine gj_iload dX8_cut_97 rfl ?_
      refine gj_N1 lkX8_32 (ev_X10_has (Nat.lt_trans (sp_wo_lt (sp_wo_lt ho)) (by decide)) (by omega)) dX8_cut_99 rfl rfl rfl rfl rfl ?_
      refine gj_if_eqb (tgt := 118) dX8_cut_102 rfl (fun zq7 => ?_) (fun zq7 => ?_)
      · -- 102 taken
        have hc2 : sp_c2 o a c j y = false := by unfold sp_c2; rw [zq7, Bool.false_and, Bool.false_and, Bool.and_false]
        refine gj_ic (w := 0) dX8_cut_118 ?_
        refine gj_istore (L' := [some (.int (nI o)), some (.int (nI a)), some (.int (nI c)), some (.int (nI (sp_wo (sp_wo o a) c))), some (.int (nI j)), some (.int (nI y)), some (.int (nI 0))]) dX8_cut_119 (Nat.le_of_ble_eq_true rfl) rfl ?_
        refine gj_iload dX8_cut_121 rfl ?_
        refine gj_if_eqN (tgt := 158) (by omega) dX8_cut_123 rfl (fun c0 => ?_) (fun c0 => ?_)
        rotate_left
        · exfalso; revert c0; decide
        refine gj_iincN (L' := [some (.int (nI o)), some (.int (nI a)), some (.int (nI c)), some (.int (nI (sp_wo (sp_wo o a) c))), some (.int (nI j)), some (.int (nI (y + 1))), some (.int (nI 0))]) dX8_cut_158 rfl (Nat.le_of_ble_eq_true rfl) rfl ?_
        refine gj_goto (tgt := 89) dX8_cut_161 rfl ?_
        refine gj_forget (i := 6) (L' := [some (.int (nI o)), some (.int (nI a)), some (.int (nI c)), some (.int (nI (sp_wo (sp_wo o a) c))), some (.int (nI j)), some (.int (nI (y + 1))), none]) rfl ?_
        exact ihy ⟨by omega, fun i hi => by by_cases q : i = y <;> first | (subst q; exact hc2) | exact hqy.2 i (by omega)⟩
      have ht2 := zq7
      refine gj_iload_n dX8_cut_105 rfl ?_
      refine gj_iload dX8_cut_106 rfl ?_
      refine gj_N1 lkX8_32 (ev_X10_has (Nat.lt_trans (sp_wo_lt (sp_wo_lt ho)) (by decide)) (by omega)) dX8_cut_108 rfl rfl rfl rfl rfl ?_
      refine gj_if_eqb (tgt := 118) dX8_cut_111 rfl (fun zq8 => ?_) (fun zq8 => ?_)
      · -- 111 taken
        have hc2 : sp_c2 o a c j y = false := by unfold sp_c2; rw [zq8, Bool.and_false, Bool.false_and, Bool.and_false]
        refine gj_ic (w := 0) dX8_cut_118 ?_
        refine gj_istore (L' := [some (.int (nI o)), some (.int (nI a)), some (.int (nI c)), some (.int (nI (sp_wo (sp_wo o a) c))), some (.int (nI j)), some (.int (nI y)), some (.int (nI 0))]) dX8_cut_119 (Nat.le_of_ble_eq_true rfl) rfl ?_
        refine gj_iload dX8_cut_121 rfl ?_
        refine gj_if_eqN (tgt := 158) (by omega) dX8_cut_123 rfl (fun c0 => ?_) (fun c0 => ?_)
        rotate_left
        · exfalso; revert c0; decide
        refine gj_iincN (L' := [some (.int (nI o)), some (.int (nI a)), some (.int (nI c)), some (.int (nI (sp_wo (sp_wo o a) c))), some (.int (nI j)), some (.int (nI (y + 1))), some (.int (nI 0))]) dX8_cut_158 rfl (Nat.le_of_ble_eq_true rfl) rfl ?_
        refine gj_goto (tgt := 89) dX8_cut_161 rfl ?_
        refine gj_forget (i := 6) (L' := [some (.int (nI o)), some (.int (nI a)), some (.int (nI c)), some (.int (nI (sp_wo (sp_wo o a) c))), some (.int (nI j)), some (.int (nI (y + 1))), none]) rfl ?_
        exact ihy ⟨by omega, fun i hi => by by_cases q : i = y <;> first | (subst q; exact hc2) | exact hqy.2 i (by omega)⟩
      have ht3 := zq8
      refine gj_ic (w := 1) dX8_cut_114 ?_
      refine gj_goto (tgt := 119) dX8_cut_115 rfl ?_
      refine gj_istore (L' := [some (.int (nI o)), some (.int (nI a)), some (.int (nI c)), some (.int (nI (sp_wo (sp_wo o a) c))), some (.int (nI j)), some (.int (nI y)), some (.int (nI 1))]) dX8_cut_119 (Nat.le_of_ble_eq_true rfl) rfl ?_
      refine gj_iload dX8_cut_121 rfl ?_
      refine gj_if_eqN (tgt := 158) (by omega) dX8_cut_123 rfl (fun c0 => ?_) (fun c0 => ?_)
      · exfalso; revert c0; decide
      refine gj_iload_n dX8_cut_126 rfl ?_
      refine gj_ic (w := 1) dX8_cut_127 ?_
      refine gj_iload dX8_cut_128 rfl ?_
      refine gj_ishlN (by omega) dX8_cut_130 ?_
      refine gj_iconst (v := (-1)) dX8_cut_131 (by decide) ?_
      refine gj_top (y := nI 4294967295) (by decide) ?_
      refine gj_ixorN  dX8_cut_132 ?_
      refine gj_iandN dX8_cut_133 ?_
      refine gj_ic (w := 1) dX8_cut_134 ?_
      refine gj_iload dX8_cut_135 rfl ?_
      refine gj_ishlN (by omega) dX8_cut_137 ?_
      refine gj_iconst (v := (-1)) dX8_cut_138 (by decide) ?_
      refine gj_top (y := nI 4294967295) (by decide) ?_
      refine gj_ixorN  dX8_cut_139 ?_
      refine gj_iandN dX8_cut_140 ?_
      refine gj_iload_n dX8_cut_141 rfl ?_
      refine gj_iload_n dX8_cut_142 rfl ?_
      refine gj_S1 lkX8_40 (ev_X8_joined (sp_wo_lt (sp_wo_lt ho)) (by omega) (by omega)) dX8_cut_143 rfl rfl rfl rfl rfl ?_
      refine gj_if_neb (tgt := 158) dX8_cut_146 rfl (fun zq9 => ?_) (fun zq9 => ?_)
      · -- 146 taken
        have hc2 : sp_c2 o a c j y = false := by unfold sp_c2; rw [zq9, Bool.not_true, Bool.and_false, Bool.and_false]
        refine gj_iincN (L' := [some (.int (nI o)), some (.int (nI a)), some (.int (nI c)), some (.int (nI (sp_wo (sp_wo o a) c))), some (.int (nI j)), some (.int (nI (y + 1))), some (.int (nI 1))]) dX8_cut_158 rfl (Nat.le_of_ble_eq_true rfl) rfl ?_
        refine gj_goto (tgt := 89) dX8_cut_161 rfl ?_
        refine gj_forget (i := 6) (L' := [some (.int (nI o)), some (.int (nI a)), some (.int (nI c)), some (.int (nI (sp_wo (sp_wo o a) c))), some (.int (nI j)), some (.int (nI (y + 1))), none]) rfl ?_
        exact ihy ⟨by omega, fun i hi => by by_cases q : i = y <;> first | (subst q; exact hc2) | exact hqy.2 i (by omega)⟩
      have hc2 : sp_c2 o a c j y = true := by unfold sp_c2; simp [ht2, ht3, zq9, hqy.1]
      refine gj_bp 32 dX8_cut_149 (by decide) ?_
      refine gj_iload dX8_cut_151 rfl ?_
      refine gj_imulN  dX8_cut_153 ?_
      refine gj_iload dX8_cut_154 rfl ?_
      refine gj_iaddN  dX8_cut_156 ?_
      exact gj_ir rfl dX8_cut_157 rfl (congrArg nI (by have e1 : sp_cy o a c j = y := sp_fst_at (p := sp_c2 o a c j) hy hc2 hqy.2; have e2 : sp_cx o a c = j := sp_fst_at (p := fun x => decide (sp_cy o a c x < 25)) hj (decide_eq_true (by rw [e1]; exact hy)) (fun i hi => decide_eq_false (by rw [hqx i hi]; omega)); unfold sp_cut; rw [if_pos hjn, sp_fst_none (p := sp_c1 o a c) hq, if_neg (Nat.lt_irrefl 25), e2, if_pos hj, e1])) rfl
    show gj _ _ _ _ _ _ [some (.int (nI o)), some (.int (nI a)), some (.int (nI c)), some (.int (nI (sp_wo (sp_wo o a) c))), some (.int (nI j)), none, none] _ _
    refine gj_iload dX8_cut_28 rfl ?_
    refine gj_bp 25 dX8_cut_30 (by decide) ?_
    refine gj_icmp_geN (tgt := 73) (by omega) (by omega) dX8_cut_32 rfl (fun zq10 => ?_) (fun zq10 => ?_)
    · exfalso; omega
    refine gj_iload_n dX8_cut_35 rfl ?_
    refine gj_iload dX8_cut_36 rfl ?_
    refine gj_N1 lkX8_32 (ev_X10_has (Nat.lt_trans (sp_wo_lt (sp_wo_lt ho)) (by decide)) (by omega)) dX8_cut_38 rfl rfl rfl rfl rfl ?_
    refine gj_if_eqb (tgt := 67) dX8_cut_41 rfl (fun zq11 => ?_) (fun zq11 => ?_)
    · -- 41 taken
      have hc1 : sp_c1 o a c j = false := by unfold sp_c1; rw [zq11, Bool.false_and]
      refine gj_iincN (L' := [some (.int (nI o)), some (.int (nI a)), some (.int (nI c)), some (.int (nI (sp_wo (sp_wo o a) c))), some (.int (nI (j + 1))), none, none]) dX8_cut_67 rfl (Nat.le_of_ble_eq_true rfl) rfl ?_
      refine gj_goto (tgt := 28) dX8_cut_70 rfl ?_
      exact ih (fun i hi => by by_cases q : i = j <;> first | (subst q; exact hc1) | exact hq i (by omega))
    have ht1 := zq11
    refine gj_iload_n dX8_cut_44 rfl ?_
    refine gj_ic (w := 1) dX8_cut_45 ?_
    refine gj_iload dX8_cut_46 rfl ?_
    refine gj_ishlN (by omega) dX8_cut_48 ?_
    refine gj_iconst (v := (-1)) dX8_cut_49 (by decide) ?_
    refine gj_top (y := nI 4294967295) (by decide) ?_
    refine gj_ixorN  dX8_cut_50 ?_
    refine gj_iandN dX8_cut_51 ?_
    refine gj_iload_n dX8_cut_52 rfl ?_
    refine gj_iload_n dX8_cut_53 rfl ?_
    refine gj_S1 lkX8_40 (ev_X8_joined (sp_wo_lt ho) (by omega) (by omega)) dX8_cut_54 rfl rfl rfl rfl rfl ?_
    refine gj_if_neb (tgt := 67) dX8_cut_57 rfl (fun zq12 => ?_) (fun zq12 => ?_)
    · -- 57 taken
      have hc1 : sp_c1 o a c j = false := by unfold sp_c1; rw [zq12, Bool.not_true, Bool.and_false]
      refine gj_iincN (L' := [some (.int (nI o)), some (.int (nI a)), some (.int (nI c)), some (.int (nI (sp_wo (sp_wo o a) c))), some (.int (nI (j + 1))), none, none]) dX8_cut_67 rfl (Nat.le_of_ble_eq_true rfl) rfl ?_
      refine gj_goto (tgt := 28) dX8_cut_70 rfl ?_
      exact ih (fun i hi => by by_cases q : i = j <;> first | (subst q; exact hc1) | exact hq i (by omega))
    have hc1 : sp_c1 o a c j = true := by unfold sp_c1; simp [ht1, zq12]
    refine gj_sp 992 dX8_cut_60 (by decide) ?_
    refine gj_iload dX8_cut_63 rfl ?_
    refine gj_iaddN  dX8_cut_65 ?_
    exact gj_ir rfl dX8_cut_66 rfl (congrArg nI (by unfold sp_cut; rw [if_pos hjn, sp_fst_at (p := sp_c1 o a c) hj hc1 hq, if_pos hj])) rfl
  have hjn := zq1
  refine gj_ic (w := 0) dX8_cut_9 ?_
  exact gj_ir rfl dX8_cut_10 rfl (congrArg nI (by unfold sp_cut; rw [hjn]; rfl)) rfl
