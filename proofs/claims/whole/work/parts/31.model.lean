def sp_lbn (B : Nat → Nat) (c n : Nat) : Nat := mj_fo (fun q m => if sp_abs q c && decide (B q < m) then B q else m) 1000000 n
theorem sp_lbn_s {B : Nat → Nat} {c n : Nat} : sp_lbn B c (n + 1) = if sp_abs n c && decide (B n < sp_lbn B c n) then B n else sp_lbn B c n := mj_fo_s
theorem sp_lbn_t {B : Nat → Nat} {c n : Nat} (h : sp_abs n c = true) (h2 : B n < sp_lbn B c n) : sp_lbn B c (n + 1) = B n := by rw [sp_lbn_s, h, decide_eq_true h2]; rfl
theorem sp_lbn_f {B : Nat → Nat} {c n : Nat} (h : sp_abs n c = false) : sp_lbn B c (n + 1) = sp_lbn B c n := by rw [sp_lbn_s, h, Bool.false_and]; rfl
theorem sp_lbn_g {B : Nat → Nat} {c n : Nat} (h2 : sp_lbn B c n ≤ B n) : sp_lbn B c (n + 1) = sp_lbn B c n := by rw [sp_lbn_s, decide_eq_false (Nat.not_lt.mpr h2), Bool.and_false]; rfl
theorem sp_lbn_le {B : Nat → Nat} {c n : Nat} : sp_lbn B c n ≤ 1000000 := by
  induction n with
  | zero => exact Nat.le_refl _
  | succ n ih =>
    cases h : sp_abs n c with
    | false => rw [sp_lbn_f h]; exact ih
    | true =>
      by_cases h2 : B n < sp_lbn B c n
      · rw [sp_lbn_t h h2]; omega
      · rw [sp_lbn_g (Nat.not_lt.mp h2)]; exact ih
def sp_lb (B : Nat → Nat) (c : Nat) : Nat := sp_lbn B c 25
theorem sp_lb_le {B : Nat → Nat} {c : Nat} : sp_lb B c ≤ 1000000 := sp_lbn_le
def sp_mb (T J : Nat → Nat) : Nat → Nat := fun q => sp_bear (T (30 + q)) (J q)
def sp_mv (T J : Nat → Nat) (f v : Nat) : Bool := sp_yes (T (73 + v)) (T (80 + v)) (sp_mb T J (T (87 + v))) (sp_lb (sp_mb T J) (T (87 + v))) f
def sp_my (T J : Nat → Nat) (f z : Nat) : Nat := mj_bits (sp_mv T J f) z
theorem sp_my_lt {T J : Nat → Nat} {f z : Nat} (hz : z ≤ 7) : sp_my T J f z < 128 := Nat.lt_of_lt_of_le mj_bits_lt (Nat.pow_le_pow_right (by decide) hz)
def sp_hm (W : Nat → Nat) : Nat → Nat
  | 0 => 4294967295
  | n + 1 => sp_heav W (n + 1)
theorem sp_hm_or {W : Nat → Nat} {n : Nat} : (n = 0 ∧ sp_hm W n = 4294967295) ∨ sp_hm W n < n := by
  cases n with
  | zero => exact Or.inl ⟨rfl, rfl⟩
  | succ n => exact Or.inr (sp_heav_lt (by omega))
theorem sp_hm_0 {W : Nat → Nat} {n : Nat} (h : sp_hm W n = 4294967295) (hn : n < 7) : sp_hm W (n + 1) = n := by
  rcases @sp_hm_or W n with ⟨rfl, -⟩ | q
  · show sp_heav W 1 = 0
    rw [sp_heav_s]; split <;> rfl
  · omega
theorem sp_hm_t {W : Nat → Nat} {n : Nat} (h : ¬ sp_hm W n = 4294967295) (h2 : W (sp_hm W n) < W n) : sp_hm W (n + 1) = n := by
  cases n with
  | zero => exact absurd rfl h
  | succ n => show sp_heav W (n + 2) = _; rw [sp_heav_s]; exact if_pos h2
theorem sp_hm_f {W : Nat → Nat} {n : Nat} (h : ¬ sp_hm W n = 4294967295) (h2 : W n ≤ W (sp_hm W n)) : sp_hm W (n + 1) = sp_hm W n := by
  cases n with
  | zero => exact absurd rfl h
  | succ n => show sp_heav W (n + 2) = sp_heav W (n + 1); rw [sp_heav_s]; exact if_neg (Nat.not_lt.mpr h2)
def sp_mc (T : Nat → Nat) (s : Nat) : Bool := sp_car (fun v => T (80 + v)) (T 0) s
def sp_mi (T J : Nat → Nat) (v : Nat) : Bool := decide (T (80 + v) ≤ sp_mb T J (T (87 + v)))
def sp_mwv (T J : Nat → Nat) (s v : Nat) : Bool := sp_mc T s && (Nat.testBit s v && !sp_mi T J v)
def sp_mw (T J : Nat → Nat) (s z : Nat) : Nat := mj_bits (sp_mwv T J s) z
theorem sp_mw_lt {T J : Nat → Nat} {s z : Nat} (hz : z ≤ 7) : sp_mw T J s z < 128 := Nat.lt_of_lt_of_le mj_bits_lt (Nat.pow_le_pow_right (by decide) hz)
theorem sp_mw_0 {T J : Nat → Nat} {s z : Nat} (h : sp_mc T s = false) : sp_mw T J s z = 0 := by
  induction z with
  | zero => rfl
  | succ z ih => show mj_bits (sp_mwv T J s) (z + 1) = 0; rw [mj_bits_f (by unfold sp_mwv; rw [h, Bool.false_and])]; exact ih
/-- the row of all that is told, with n places from P on as the ice and the day are -/
def sp_kc (T : Nat → Nat) (P n : Nat) : Nat → Nat := fun i => if P ≤ i ∧ i < P + n then T (4 + (i - P)) else T i
def sp_ks (T : Nat → Nat) (n : Nat) : Nat → Nat := fun i => if 154 ≤ i ∧ i < 154 + n then T (i + 26) else T i
theorem sp_kc_0 {T : Nat → Nat} {P : Nat} : sp_kc T P 0 = T := by funext i; exact if_neg (by omega)
theorem sp_ks_0 {T : Nat → Nat} : sp_ks T 0 = T := by funext i; exact if_neg (by omega)
theorem sp_kc_s {T : Nat → Nat} {P n : Nat} (h : 4 + n < P) : mj_un (sp_kc T P n) (P + n) (sp_kc T P n (4 + n)) = sp_kc T P (n + 1) := by
  funext i
  unfold mj_un sp_kc
  by_cases q : i = P + n
  · subst q; rw [if_pos rfl, if_neg (by omega), if_pos (by omega)]; congr 1; omega
  · rw [if_neg q]
    by_cases z : P ≤ i ∧ i < P + n
    · rw [if_pos z, if_pos (by omega)]
    · rw [if_neg z, if_neg (by omega)]
theorem sp_ks_s {T : Nat → Nat} {n : Nat} : mj_un (sp_ks T n) (154 + n) (sp_ks T n (180 + n)) = sp_ks T (n + 1) := by
  funext i
  unfold mj_un sp_ks
  by_cases q : i = 154 + n
  · subst q; rw [if_pos rfl, if_neg (by omega), if_pos (by omega)]; congr 1; omega
  · rw [if_neg q]
    by_cases z : 154 ≤ i ∧ i < 154 + n
    · rw [if_pos z, if_pos (by omega)]
    · rw [if_neg z, if_neg (by omega)]
/-- behind keep -/
def sp_kp (T : Nat → Nat) : Nat → Nat := if T 3 < 8 then mj_un (sp_kc T (154 + 26 * T 3) 26) 3 (T 3 + 1) else mj_un (sp_kc (mj_un (sp_ks T 182) 3 7) 336 26) 3 8
theorem sp_kp_lo {T : Nat → Nat} {i : Nat} (h : i < 154) (h3 : i ≠ 3) : sp_kp T i = T i := by
  unfold sp_kp
  split
  · rw [mj_un_ne h3]; exact if_neg (by omega)
  · rw [mj_un_ne h3]
    show sp_kc _ 336 26 i = _
    unfold sp_kc
    rw [if_neg (by omega), mj_un_ne h3]
    exact if_neg (by omega)
theorem sp_kp_3 {T : Nat → Nat} (h : T 3 ≤ 8) : sp_kp T 3 ≤ 8 := by
  unfold sp_kp
  split
  · rw [mj_un_eq]; omega
  · rw [mj_un_eq]; omega
theorem mj_Tb_of {T U : Nat → Nat} (b : mj_Tb T) (h : ∀ i, i < 154 → i ≠ 3 → U i = T i) (h3 : U 3 ≤ 8) : mj_Tb U := by
  obtain ⟨b0, b1, b2, b3, b4, b5, b6, b7, b8, b9, b10, b11, b12, b13, b14, b15⟩ := b
  refine ⟨?_, ?_, ?_, h3, ?_, fun q hq => ?_, fun q hq => ?_, fun q hq => ?_, fun q hq => ?_, fun q hq => ?_, fun q hq => ?_, fun q hq => ?_, fun q hq => ?_, fun q hq => ?_, fun q hq => ?_, fun q hq => ?_⟩
  · rw [h 0 (by omega) (by omega)]; exact b0
  · rw [h 1 (by omega) (by omega)]; exact b1
  · rw [h 2 (by omega) (by omega)]; exact b2
  · rw [h 29 (by omega) (by omega)]; exact b4
  · rw [h (4 + q) (by omega) (by omega)]; exact b5 q hq
  · rw [h (30 + q) (by omega) (by omega)]; exact b6 q hq
  · rw [h (55 + q) (by omega) (by omega)]; exact b7 q hq
  · rw [h (62 + q) (by omega) (by omega)]; exact b8 q hq
  · rw [h (69 + q) (by omega) (by omega)]; exact b9 q hq
  · rw [h (73 + q) (by omega) (by omega)]; exact b10 q hq
  · rw [h (80 + q) (by omega) (by omega)]; exact b11 q hq
  · rw [h (87 + q) (by omega) (by omega)]; exact b12 q hq
  · rw [h (94 + q) (by omega) (by omega)]; exact b13 q hq
  · rw [h (124 + q) (by omega) (by omega)]; exact b14 q hq
  · rw [h (94 + 5 * q + 2) (by omega) (by omega), h (94 + 5 * q + 3) (by omega) (by omega)]; exact b15 q hq
theorem mj_Tb_kp {T : Nat → Nat} (b : mj_Tb T) : mj_Tb (sp_kp T) := mj_Tb_of b (fun i h h3 => sp_kp_lo h h3) (sp_kp_3 b.2.2.2.1)
set_option maxHeartbeats 1000000 in
set_option maxRecDepth 10000 in
theorem ev_X11_many {E : mj_E} {h : mj_H} {a0 a1 y2 y3 y4 y5 y6 : Nat} (H0 : h 100 = some (mj_mo a0 a1 y2 y3 y4 y5 y6)) {T : Nat → Nat} (HT : h 101 = some (mj_ar 362 T))  : mj_Ev E iX11_many [.ref 100] h (mj_R (some (.int (nI (T 0)))) h) := by
  refine mj_Ev.of (L0 := [some (.ref 100)]) pnRX11 (Nat.le_of_ble_eq_true rfl) rfl ?_
  refine gj_aload_n dX11_many_0 rfl ?_
  refine gfX11_7 rfl dX11_many_1 H0 rfl ?_
  refine gj_ic (w := 0) dX11_many_4 ?_
  refine gj_ialdN dX11_many_5 HT (by omega) (by omega) ?_
  exact gj_ir rfl dX11_many_6 rfl rfl rfl
set_option maxHeartbeats 1000000 in
set_option maxRecDepth 10000 in
theorem ev_X11_kindOf {E : mj_E} {h : mj_H} {a0 a1 y2 y3 y4 y5 y6 : Nat} (H0 : h 100 = some (mj_mo a0 a1 y2 y3 y4 y5 y6)) {T : Nat → Nat} (HT : h 101 = some (mj_ar 362 T)) (bT : mj_Tb T) {c : Nat} (h0 : c < 25) : mj_Ev E iX11_kindOf [.ref 100, .int (nI c)] h (mj_R (some (.int (nI (T (30 + c))))) h) := by
  refine mj_Ev.of (L0 := [some (.ref 100), some (.int (nI c))]) pnRX11 (Nat.le_of_ble_eq_true rfl) rfl ?_
  refine gj_aload_n dX11_kindOf_0 rfl ?_
  refine gfX11_7 rfl dX11_kindOf_1 H0 rfl ?_
  refine gj_bp 30 dX11_kindOf_4 (by decide) ?_
  refine gj_iload_n dX11_kindOf_6 rfl ?_
  refine gj_iaddN  dX11_kindOf_7 ?_
  refine gj_ialdN dX11_kindOf_8 HT (by omega) (by omega) ?_
  have hb1 := bT.2.2.2.2.2.2.1 c (by omega)
  exact gj_ir rfl dX11_kindOf_9 rfl rfl rfl
set_option maxHeartbeats 1000000 in
set_option maxRecDepth 10000 in
theorem ev_X11_bears {E : mj_E} {h : mj_H} {a0 a1 y2 y3 y4 y5 y6 : Nat} (H0 : h 100 = some (mj_mo a0 a1 y2 y3 y4 y5 y6)) {T : Nat → Nat} (HT : h 101 = some (mj_ar 362 T)) {J : Nat → Nat} (HJ : h 105 = some (mj_ar 25 J)) (bT : mj_Tb T) (bJ : ∀ q, q < 25 → J q ≤ 99) {c : Nat} (h0 : c < 25) : mj_Ev E iX11_bears [.ref 100, .int (nI c)] h (mj_R (some (.int (nI (sp_bear (T (30 + c)) (J c))))) h) := by
  refine mj_Ev.of (L0 := [some (.ref 100), some (.int (nI c))]) pnRX11 (Nat.le_of_ble_eq_true rfl) rfl ?_
  refine gj_aload_n dX11_bears_0 rfl ?_
  refine gj_iload_n dX11_bears_1 rfl ?_
  refine gj_V1 lkX11_97 H0 rfl rfl (ev_X11_kindOf H0 HT bT (by omega)) dX11_bears_2 rfl rfl rfl rfl rfl ?_
  have hb1 := bT.2.2.2.2.2.2.1 c (by omega)
  refine gj_aload_n dX11_bears_5 rfl ?_
  refine gfX11_27 rfl dX11_bears_6 H0 rfl ?_
  refine gj_iload_n dX11_bears_9 rfl ?_
  refine gj_ialdN dX11_bears_10 HJ (by omega) (by omega) ?_
  have hb2 := bJ c (by omega)
  refine gj_S1 lkX11_100 (ev_X11_bearsAs (by omega) (by omega)) dX11_bears_11 rfl rfl rfl rfl rfl ?_
  have hb3 := @sp_bear_le (T (30 + c)) (J c)
  exact gj_ir rfl dX11_bears_14 rfl rfl rfl
set_option maxHeartbeats 1000000 in
set_option maxRecDepth 10000 in
theorem ev_X11_layIce {E : mj_E} {h : mj_H} {a0 a1 y2 y3 y4 y5 y6 : Nat} (H0 : h 100 = some (mj_mo a0 a1 y2 y3 y4 y5 y6)) {T : Nat → Nat} (HT : h 101 = some (mj_ar 362 T)) {J : Nat → Nat} (HJ : h 105 = some (mj_ar 25 J)) (bT : mj_Tb T)  : mj_Ev E iX11_layIce [.ref 100] h (mj_R none (mj_up h 105 (mj_ar 25 (fun q => T (4 + q))))) := by
  refine mj_Ev.of (L0 := [some (.ref 100), none]) pnRX11 (Nat.le_of_ble_eq_true rfl) rfl ?_
  refine gj_ic (w := 0) dX11_layIce_0 ?_
  refine gj_istore_n (L' := [some (.ref 100), some (.int (nI 0))]) dX11_layIce_1 (Nat.le_of_ble_eq_true rfl) rfl ?_
  refine gj_cast (L' := [some (.ref 100), some (.int (nI 0))]) (st' := []) (h' := mj_up h 105 (mj_ar 25 (mj_mix (fun q => T (4 + q)) J 0))) rfl rfl (by rw [mj_mix_0, mj_up_self HJ]) ?_
  refine gj_loop (fun j => [some (.ref 100), some (.int (nI j))]) (fun j => mj_up h 105 (mj_ar 25 (mj_mix (fun q => T (4 + q)) J j))) 25 ?_ (fun j hj ih => ?_) 0 (by omega)
  · show gj _ _ _ _ _ _ [some (.ref 100), some (.int (nI 25))] _ _
    refine gj_iload_n dX11_layIce_2 rfl ?_
    refine gj_bp 25 dX11_layIce_3 (by decide) ?_
    refine gj_icmp_geN (tgt := 28) (by omega) (by omega) dX11_layIce_5 rfl (fun zq0 => ?_) (fun zq0 => ?_)
    rotate_left
    · exfalso; omega
    refine gj_reN (g := fun q => T (4 + q)) (fun j hj => mj_mix_lt hj) ?_
    exact gj_vr rfl dX11_layIce_28 rfl
  show gj _ _ _ _ _ _ [some (.ref 100), some (.int (nI j))] _ _
  refine gj_iload_n dX11_layIce_2 rfl ?_
  refine gj_bp 25 dX11_layIce_3 (by decide) ?_
  refine gj_icmp_geN (tgt := 28) (by omega) (by omega) dX11_layIce_5 rfl (fun zq1 => ?_) (fun zq1 => ?_)
  · exfalso; omega
  refine gj_aload_n dX11_layIce_8 rfl ?_
  refine gfX11_27 rfl dX11_layIce_9 ((mj_up_ne (by decide)).trans H0) rfl ?_
  refine gj_iload_n dX11_layIce_12 rfl ?_
  refine gj_aload_n dX11_layIce_13 rfl ?_
  refine gfX11_7 rfl dX11_layIce_14 ((mj_up_ne (by decide)).trans H0) rfl ?_
  refine gj_ic (w := 4) dX11_layIce_17 ?_
  refine gj_iload_n dX11_layIce_18 rfl ?_
  refine gj_iaddN  dX11_layIce_19 ?_
  refine gj_ialdN dX11_layIce_20 ((mj_up_ne (by decide)).trans HT) (by omega) (by omega) ?_
  have hb2 := bT.2.2.2.2.2.1 j (by omega)
  refine gj_iastN dX11_layIce_21 (mj_up_eq _ _ _) (by omega) (by omega) ?_
  refine gj_iincN (L' := [some (.ref 100), some (.int (nI (j + 1)))]) dX11_layIce_22 rfl (Nat.le_of_ble_eq_true rfl) rfl ?_
  refine gj_goto (tgt := 2) dX11_layIce_25 rfl ?_
  exact gj_cast rfl rfl (by rw [mj_up_up, mj_mix_un rfl]) ih
set_option maxHeartbeats 1000000 in
set_option maxRecDepth 10000 in
theorem ev_X11_goDay {E : mj_E} {h : mj_H} {a0 a1 y2 y3 y4 y5 y6 : Nat} (H0 : h 100 = some (mj_mo a0 a1 y2 y3 y4 y5 y6)) {T : Nat → Nat} (HT : h 101 = some (mj_ar 362 T)) {J : Nat → Nat} (HJ : h 105 = some (mj_ar 25 J)) (bT : mj_Tb T) (bJ : ∀ q, q < 25 → J q ≤ 99) {f s : Nat} (h0 : f ≤ 9) (h1 : s ≤ 9) : mj_Ev E iX11_goDay [.ref 100, .int (nI f), .int (nI s)] h (mj_R none (mj_up h 105 (mj_ar 25 (fun q => sp_after (T (30 + q)) (J q) f s)))) := by
  refine mj_Ev.of (L0 := [some (.ref 100), some (.int (nI f)), some (.int (nI s)), none]) pnRX11 (Nat.le_of_ble_eq_true rfl) rfl ?_
  refine gj_ic (w := 0) dX11_goDay_0 ?_
  refine gj_istore_n (L' := [some (.ref 100), some (.int (nI f)), some (.int (nI s)), some (.int (nI 0))]) dX11_goDay_1 (Nat.le_of_ble_eq_true rfl) rfl ?_
  refine gj_cast (L' := [some (.ref 100), some (.int (nI f)), some (.int (nI s)), some (.int (nI 0))]) (st' := []) (h' := mj_up h 105 (mj_ar 25 (mj_mix (fun q => sp_after (T (30 + q)) (J q) f s) J 0))) rfl rfl (by rw [mj_mix_0, mj_up_self HJ]) ?_
  refine gj_loop (fun j => [some (.ref 100), some (.int (nI f)), some (.int (nI s)), some (.int (nI j))]) (fun j => mj_up h 105 (mj_ar 25 (mj_mix (fun q => sp_after (T (30 + q)) (J q) f s) J j))) 25 ?_ (fun j hj ih => ?_) 0 (by omega)
  · show gj _ _ _ _ _ _ [some (.ref 100), some (.int (nI f)), some (.int (nI s)), some (.int (nI 25))] _ _
    refine gj_iload_n dX11_goDay_2 rfl ?_
    refine gj_bp 25 dX11_goDay_3 (by decide) ?_
    refine gj_icmp_geN (tgt := 36) (by omega) (by omega) dX11_goDay_5 rfl (fun zq0 => ?_) (fun zq0 => ?_)
    rotate_left
    · exfalso; omega
    refine gj_reN (g := fun q => sp_after (T (30 + q)) (J q) f s) (fun j hj => mj_mix_lt hj) ?_
    exact gj_vr rfl dX11_goDay_36 rfl
  show gj _ _ _ _ _ _ [some (.ref 100), some (.int (nI f)), some (.int (nI s)), some (.int (nI j))] _ _
  refine gj_iload_n dX11_goDay_2 rfl ?_
  refine gj_bp 25 dX11_goDay_3 (by decide) ?_
  refine gj_icmp_geN (tgt := 36) (by omega) (by omega) dX11_goDay_5 rfl (fun zq1 => ?_) (fun zq1 => ?_)
  · exfalso; omega
  refine gj_aload_n dX11_goDay_8 rfl ?_
  refine gfX11_27 rfl dX11_goDay_9 ((mj_up_ne (by decide)).trans H0) rfl ?_
  refine gj_iload_n dX11_goDay_12 rfl ?_
  refine gj_aload_n dX11_goDay_13 rfl ?_
  refine gj_iload_n dX11_goDay_14 rfl ?_
  refine gj_V1 lkX11_97 ((mj_up_ne (by decide)).trans H0) rfl rfl (ev_X11_kindOf ((mj_up_ne (by decide)).trans H0) ((mj_up_ne (by decide)).trans HT) bT (by omega)) dX11_goDay_15 rfl rfl rfl rfl rfl ?_
  have hb2 := bT.2.2.2.2.2.2.1 j (by omega)
  refine gj_aload_n dX11_goDay_18 rfl ?_
  refine gfX11_27 rfl dX11_goDay_19 ((mj_up_ne (by decide)).trans H0) rfl ?_
  refine gj_iload_n dX11_goDay_22 rfl ?_
  refine gj_ialdN dX11_goDay_23 (mj_up_eq _ _ _) (by omega) (by omega) ?_
  refine gj_topN (mj_mix_ge (Nat.le_refl _)) ?_
  have hbJ := bJ j hj
  refine gj_iload_n dX11_goDay_24 rfl ?_
  refine gj_iload_n dX11_goDay_25 rfl ?_
  refine gj_S1 lkX11_103 (ev_X11_behindDay (by omega) (by omega) (by omega) (by omega)) dX11_goDay_26 rfl rfl rfl rfl rfl ?_
  have hb3 := @sp_after_le (T (30 + j)) (J j) f s
  refine gj_iastN dX11_goDay_29 (mj_up_eq _ _ _) (by omega) (by omega) ?_
  refine gj_iincN (L' := [some (.ref 100), some (.int (nI f)), some (.int (nI s)), some (.int (nI (j + 1)))]) dX11_goDay_30 rfl (Nat.le_of_ble_eq_true rfl) rfl ?_
  refine gj_goto (tgt := 2) dX11_goDay_33 rfl ?_
  exact gj_cast rfl rfl (by rw [mj_up_up, mj_mix_un rfl]) ih
set_option maxHeartbeats 1000000 in
set_option maxRecDepth 10000 in
theorem ev_X11_goDays {E : mj_E} {h : mj_H} {a0 a1 y2 y3 y4 y5 y6 : Nat} (H0 : h 100 = some (mj_mo a0 a1 y2 y3 y4 y5 y6)) {T : Nat → Nat} (HT : h 101 = some (mj_ar 362 T)) {J : Nat → Nat} (HJ : h 105 = some (mj_ar 25 J)) (bT : mj_Tb T) (bJ : ∀ q, q < 25 → J q ≤ 99) {m : Nat} (h0 : m < 1000) : mj_Ev E iX11_goDays [.ref 100, .int (nI m)] h (mj_R none (mj_up h 105 (mj_ar 25 (sp_days (fun q => T (30 + q)) (fun q => T (55 + q)) (fun q => T (62 + q)) (T 29) J m)))) := by
  refine mj_Ev.of (L0 := [some (.ref 100), some (.int (nI m)), none, none]) pnRX11 (Nat.le_of_ble_eq_true rfl) rfl ?_
  refine gj_ic (w := 0) dX11_goDays_0 ?_
  refine gj_istore_n (L' := [some (.ref 100), some (.int (nI m)), some (.int (nI 0)), none]) dX11_goDays_1 (Nat.le_of_ble_eq_true rfl) rfl ?_
  refine gj_cast (L' := [some (.ref 100), some (.int (nI m)), some (.int (nI 0)), none]) (st' := []) (h' := mj_up h 105 (mj_ar 25 (sp_days (fun q => T (30 + q)) (fun q => T (55 + q)) (fun q => T (62 + q)) (T 29) J 0))) rfl rfl (mj_up_self HJ).symm ?_
  refine gj_loop (fun j => [some (.ref 100), some (.int (nI m)), some (.int (nI j)), none]) (fun j => mj_up h 105 (mj_ar 25 (sp_days (fun q => T (30 + q)) (fun q => T (55 + q)) (fun q => T (62 + q)) (T 29) J j))) m ?_ (fun j hj ih => ?_) 0 (by omega)
  · show gj _ _ _ _ _ _ [some (.ref 100), some (.int (nI m)), some (.int (nI m)), none] _ _
    refine gj_iload_n dX11_goDays_2 rfl ?_
    refine gj_iload_n dX11_goDays_3 rfl ?_
    refine gj_icmp_geN (tgt := 48) (by omega) (by omega) dX11_goDays_4 rfl (fun zq1 => ?_) (fun zq1 => ?_)
    rotate_left
    · exfalso; omega
    exact gj_vr rfl dX11_goDays_48 rfl
  show gj _ _ _ _ _ _ [some (.ref 100), some (.int (nI m)), some (.int (nI j)), none] _ _
  refine gj_iload_n dX11_goDays_2 rfl ?_
  refine gj_iload_n dX11_goDays_3 rfl ?_
  refine gj_icmp_geN (tgt := 48) (by omega) (by omega) dX11_goDays_4 rfl (fun zq2 => ?_) (fun zq2 => ?_)
  · exfalso; omega
  have hb29 := bT.2.2.2.2.1
  refine gj_aload_n dX11_goDays_7 rfl ?_
  refine gfX11_7 rfl dX11_goDays_8 ((mj_up_ne (by decide)).trans H0) rfl ?_
  refine gj_bp 29 dX11_goDays_11 (by decide) ?_
  refine gj_ialdN dX11_goDays_13 ((mj_up_ne (by decide)).trans HT) (by omega) (by omega) ?_
  have hb3 := bT.2.2.2.2.1
  refine gj_iload_n dX11_goDays_14 rfl ?_
  refine gj_iaddN  dX11_goDays_15 ?_
  refine gj_bp 7 dX11_goDays_16 (by decide) ?_
  refine gj_iremN (by omega) (by omega) (by omega) dX11_goDays_18 ?_
  refine gj_istore_n (L' := [some (.ref 100), some (.int (nI m)), some (.int (nI j)), some (.int (nI (((T 29) + j) % 7)))]) dX11_goDays_19 (Nat.le_of_ble_eq_true rfl) rfl ?_
  refine gj_aload_n dX11_goDays_20 rfl ?_
  refine gj_aload_n dX11_goDays_21 rfl ?_
  refine gfX11_7 rfl dX11_goDays_22 ((mj_up_ne (by decide)).trans H0) rfl ?_
  refine gj_bp 55 dX11_goDays_25 (by decide) ?_
  refine gj_iload_n dX11_goDays_27 rfl ?_
  refine gj_iaddN  dX11_goDays_28 ?_
  refine gj_ialdN dX11_goDays_29 ((mj_up_ne (by decide)).trans HT) (by omega) (by omega) ?_
  have hb4 := bT.2.2.2.2.2.2.2.1 (((T 29) + j) % 7) (by omega)
  refine gj_aload_n dX11_goDays_30 rfl ?_
  refine gfX11_7 rfl dX11_goDays_31 ((mj_up_ne (by decide)).trans H0) rfl ?_
  refine gj_bp 62 dX11_goDays_34 (by decide) ?_
  refine gj_iload_n dX11_goDays_36 rfl ?_
  refine gj_iaddN  dX11_goDays_37 ?_
  refine gj_ialdN dX11_goDays_38 ((mj_up_ne (by decide)).trans HT) (by omega) (by omega) ?_
  have hb5 := bT.2.2.2.2.2.2.2.2.1 (((T 29) + j) % 7) (by omega)
  refine gj_V0 lkX11_107 ((mj_up_ne (by decide)).trans H0) rfl rfl (ev_X11_goDay ((mj_up_ne (by decide)).trans H0) ((mj_up_ne (by decide)).trans HT) (mj_up_eq _ _ _) bT (show ∀ q, q < 25 → (sp_days (fun q => T (30 + q)) (fun q => T (55 + q)) (fun q => T (62 + q)) (T 29) J j) q ≤ 99 from fun q hq => sp_icem_le (bJ q hq)) (by omega) (by omega)) dX11_goDays_39 rfl rfl rfl rfl rfl ?_
  refine gj_iincN (L' := [some (.ref 100), some (.int (nI m)), some (.int (nI (j + 1))), some (.int (nI (((T 29) + j) % 7)))]) dX11_goDays_42 rfl (Nat.le_of_ble_eq_true rfl) rfl ?_
  refine gj_goto (tgt := 2) dX11_goDays_45 rfl ?_
  refine gj_forget (i := 3) (L' := [some (.ref 100), some (.int (nI m)), some (.int (nI (j + 1))), none]) rfl ?_
  exact gj_cast rfl rfl (by rw [mj_up_up]; rfl) ih
set_option maxHeartbeats 1000000 in
set_option maxRecDepth 10000 in
theorem ev_X11_goOne {E : mj_E} {h : mj_H} {a0 a1 y2 y3 y4 y5 y6 : Nat} (H0 : h 100 = some (mj_mo a0 a1 y2 y3 y4 y5 y6)) {T : Nat → Nat} (HT : h 101 = some (mj_ar 362 T)) {J : Nat → Nat} (HJ : h 105 = some (mj_ar 25 J)) (bT : mj_Tb T) (bJ : ∀ q, q < 25 → J q ≤ 99) {m : Nat} (h0 : m < 1000) : mj_Ev E iX11_goOne [.ref 100, .int (nI m)] h (mj_R none (mj_up h 105 (mj_ar 25 (fun q => sp_after (T (30 + q)) (J q) (T (55 + (((T 29) + m) % 7))) (T (62 + (((T 29) + m) % 7))))))) := by
  refine mj_Ev.of (L0 := [some (.ref 100), some (.int (nI m)), none]) pnRX11 (Nat.le_of_ble_eq_true rfl) rfl ?_
  have hb29 := bT.2.2.2.2.1
  refine gj_aload_n dX11_goOne_0 rfl ?_
  refine gfX11_7 rfl dX11_goOne_1 H0 rfl ?_
  refine gj_bp 29 dX11_goOne_4 (by decide) ?_
  refine gj_ialdN dX11_goOne_6 HT (by omega) (by omega) ?_
  have hb1 := bT.2.2.2.2.1
  refine gj_iload_n dX11_goOne_7 rfl ?_
  refine gj_iaddN  dX11_goOne_8 ?_
  refine gj_bp 7 dX11_goOne_9 (by decide) ?_
  refine gj_iremN (by omega) (by omega) (by omega) dX11_goOne_11 ?_
  refine gj_istore_n (L' := [some (.ref 100), some (.int (nI m)), some (.int (nI (((T 29) + m) % 7)))]) dX11_goOne_12 (Nat.le_of_ble_eq_true rfl) rfl ?_
  refine gj_aload_n dX11_goOne_13 rfl ?_
  refine gj_aload_n dX11_goOne_14 rfl ?_
  refine gfX11_7 rfl dX11_goOne_15 H0 rfl ?_
  refine gj_bp 55 dX11_goOne_18 (by decide) ?_
  refine gj_iload_n dX11_goOne_20 rfl ?_
  refine gj_iaddN  dX11_goOne_21 ?_
  refine gj_ialdN dX11_goOne_22 HT (by omega) (by omega) ?_
  have hb2 := bT.2.2.2.2.2.2.2.1 (((T 29) + m) % 7) (by omega)
  refine gj_aload_n dX11_goOne_23 rfl ?_
  refine gfX11_7 rfl dX11_goOne_24 H0 rfl ?_
  refine gj_bp 62 dX11_goOne_27 (by decide) ?_
  refine gj_iload_n dX11_goOne_29 rfl ?_
  refine gj_iaddN  dX11_goOne_30 ?_
  refine gj_ialdN dX11_goOne_31 HT (by omega) (by omega) ?_
  have hb3 := bT.2.2.2.2.2.2.2.2.1 (((T 29) + m) % 7) (by omega)
  refine gj_V0 lkX11_107 H0 rfl rfl (ev_X11_goDay H0 HT HJ bT bJ (by omega) (by omega)) dX11_goOne_32 rfl rfl rfl rfl rfl ?_
  exact gj_vr rfl dX11_goOne_35 rfl
set_option maxHeartbeats 1000000 in
set_option maxRecDepth 10000 in
theorem ev_X11_frostNow {E : mj_E} {h : mj_H} {a0 a1 y2 y3 y4 y5 y6 : Nat} (H0 : h 100 = some (mj_mo a0 a1 y2 y3 y4 y5 y6)) {T : Nat → Nat} (HT : h 101 = some (mj_ar 362 T)) (bT : mj_Tb T)  : mj_Ev E iX11_frostNow [.ref 100] h (mj_R (some (.int (nI (T (55 + ((T 29) % 7)))))) h) := by
  refine mj_Ev.of (L0 := [some (.ref 100)]) pnRX11 (Nat.le_of_ble_eq_true rfl) rfl ?_
  refine gj_aload_n dX11_frostNow_0 rfl ?_
  refine gfX11_7 rfl dX11_frostNow_1 H0 rfl ?_
  refine gj_bp 55 dX11_frostNow_4 (by decide) ?_
  refine gj_aload_n dX11_frostNow_6 rfl ?_
  refine gfX11_7 rfl dX11_frostNow_7 H0 rfl ?_
  refine gj_bp 29 dX11_frostNow_10 (by decide) ?_
  refine gj_ialdN dX11_frostNow_12 HT (by omega) (by omega) ?_
  have hb1 := bT.2.2.2.2.1
  refine gj_bp 7 dX11_frostNow_13 (by decide) ?_
  refine gj_iremN (by omega) (by omega) (by omega) dX11_frostNow_15 ?_
  refine gj_iaddN  dX11_frostNow_16 ?_
  refine gj_ialdN dX11_frostNow_17 HT (by omega) (by omega) ?_
  have hb2 := bT.2.2.2.2.2.2.2.1 ((T 29) % 7) (by omega)
  exact gj_ir rfl dX11_frostNow_18 rfl rfl rfl
set_option maxHeartbeats 1000000 in
set_option maxRecDepth 10000 in
theorem ev_X11_leastBeside {E : mj_E} {h : mj_H} {a0 a1 y2 y3 y4 y5 y6 : Nat} (H0 : h 100 = some (mj_mo a0 a1 y2 y3 y4 y5 y6)) {T : Nat → Nat} (HT : h 101 = some (mj_ar 362 T)) {J : Nat → Nat} (HJ : h 105 = some (mj_ar 25 J)) (bT : mj_Tb T) (bJ : ∀ q, q < 25 → J q ≤ 99) {c : Nat} (h0 : c < 25) : mj_Ev E iX11_leastBeside [.ref 100, .int (nI c)] h (mj_R (some (.int (nI (sp_lb (sp_mb T J) c)))) h) := by
  refine mj_Ev.of (L0 := [some (.ref 100), some (.int (nI c)), none, none]) pnRX11 (Nat.le_of_ble_eq_true rfl) rfl ?_
  refine gj_ldc (v := nI 1000000) w_1179 dX11_leastBeside_0 ?_
  refine gj_istore_n (L' := [some (.ref 100), some (.int (nI c)), some (.int (nI 1000000)), none]) dX11_leastBeside_2 (Nat.le_of_ble_eq_true rfl) rfl ?_
  refine gj_ic (w := 0) dX11_leastBeside_3 ?_
  refine gj_istore_n (L' := [some (.ref 100), some (.int (nI c)), some (.int (nI 1000000)), some (.int (nI 0))]) dX11_leastBeside_4 (Nat.le_of_ble_eq_true rfl) rfl ?_
  refine gj_cast (L' := [some (.ref 100), some (.int (nI c)), some (.int (nI (sp_lbn (sp_mb T J) c 0))), some (.int (nI 0))]) (st' := []) (h' := h) rfl rfl rfl ?_
  refine gj_loop (fun j => [some (.ref 100), some (.int (nI c)), some (.int (nI (sp_lbn (sp_mb T J) c j))), some (.int (nI j))]) (fun j => h) 25 ?_ (fun j hj ih => ?_) 0 (by omega)
  · show gj _ _ _ _ _ _ [some (.ref 100), some (.int (nI c)), some (.int (nI (sp_lbn (sp_mb T J) c 25))), some (.int (nI 25))] _ _
    refine gj_iload_n dX11_leastBeside_5 rfl ?_
    refine gj_bp 25 dX11_leastBeside_6 (by decide) ?_
    refine gj_icmp_geN (tgt := 44) (by omega) (by omega) dX11_leastBeside_8 rfl (fun zq0 => ?_) (fun zq0 => ?_)
    rotate_left
    · exfalso; omega
    refine gj_iload_n dX11_leastBeside_44 rfl ?_
    exact gj_ir rfl dX11_leastBeside_45 rfl rfl rfl
  show gj _ _ _ _ _ _ [some (.ref 100), some (.int (nI c)), some (.int (nI (sp_lbn (sp_mb T J) c j))), some (.int (nI j))] _ _
  refine gj_iload_n dX11_leastBeside_5 rfl ?_
  refine gj_bp 25 dX11_leastBeside_6 (by decide) ?_
  refine gj_icmp_geN (tgt := 44) (by omega) (by omega) dX11_leastBeside_8 rfl (fun zq1 => ?_) (fun zq1 => ?_)
  · exfalso; omega
  have hl9 := @sp_lbn_le (sp_mb T J) c j
  refine gj_iload_n dX11_leastBeside_11 rfl ?_
  refine gj_iload_n dX11_leastBeside_12 rfl ?_
  refine gj_S1 lkX11_112 (ev_X11_areBeside (by omega) (by omega)) dX11_leastBeside_13 rfl rfl rfl rfl rfl ?_
  refine gj_if_eqb (tgt := 36) dX11_leastBeside_16 rfl (fun zq2 => ?_) (fun zq2 => ?_)
  · -- 16 taken
    have hs9 := zq2
    refine gj_iload_n dX11_leastBeside_36 rfl ?_
    refine gj_istore_n (L' := [some (.ref 100), some (.int (nI c)), some (.int (nI (sp_lbn (sp_mb T J) c j))), some (.int (nI j))]) dX11_leastBeside_37 (Nat.le_of_ble_eq_true rfl) rfl ?_
    refine gj_iincN (L' := [some (.ref 100), some (.int (nI c)), some (.int (nI (sp_lbn (sp_mb T J) c j))), some (.int (nI (j + 1)))]) dX11_leastBeside_38 rfl (Nat.le_of_ble_eq_true rfl) rfl ?_
    refine gj_goto (tgt := 5) dX11_leastBeside_41 rfl ?_
    exact gj_cast (by first | rw [sp_lbn_f hs9] | (rw [sp_lbn_t hs9 hw9]; rfl) | rw [sp_lbn_g hw9]) rfl rfl ih
  have hs9 := zq2
  refine gj_aload_n dX11_leastBeside_19 rfl ?_
  refine gj_iload_n dX11_leastBeside_20 rfl ?_
  refine gj_V1 lkX11_116 H0 rfl rfl (ev_X11_bears H0 HT HJ bT bJ (by omega)) dX11_leastBeside_21 rfl rfl rfl rfl rfl ?_
  have hb3 := @sp_bear_le (T (30 + j)) (J j)
  have hb4 := bJ j (by omega)
  refine gj_iload_n dX11_leastBeside_24 rfl ?_
  refine gj_icmp_geN (tgt := 36) (by omega) (by omega) dX11_leastBeside_25 rfl (fun zq5 => ?_) (fun zq5 => ?_)
  · -- 25 taken
    have hw9 : sp_lbn (sp_mb T J) c j ≤ sp_mb T J j := zq5
    refine gj_iload_n dX11_leastBeside_36 rfl ?_
    refine gj_istore_n (L' := [some (.ref 100), some (.int (nI c)), some (.int (nI (sp_lbn (sp_mb T J) c j))), some (.int (nI j))]) dX11_leastBeside_37 (Nat.le_of_ble_eq_true rfl) rfl ?_
    refine gj_iincN (L' := [some (.ref 100), some (.int (nI c)), some (.int (nI (sp_lbn (sp_mb T J) c j))), some (.int (nI (j + 1)))]) dX11_leastBeside_38 rfl (Nat.le_of_ble_eq_true rfl) rfl ?_
    refine gj_goto (tgt := 5) dX11_leastBeside_41 rfl ?_
    exact gj_cast (by first | rw [sp_lbn_f hs9] | (rw [sp_lbn_t hs9 hw9]; rfl) | rw [sp_lbn_g hw9]) rfl rfl ih
  have hw9 : sp_mb T J j < sp_lbn (sp_mb T J) c j := zq5
  refine gj_aload_n dX11_leastBeside_28 rfl ?_
  refine gj_iload_n dX11_leastBeside_29 rfl ?_
  refine gj_V1 lkX11_116 H0 rfl rfl (ev_X11_bears H0 HT HJ bT bJ (by omega)) dX11_leastBeside_30 rfl rfl rfl rfl rfl ?_
  have hb6 := @sp_bear_le (T (30 + j)) (J j)
  have hb7 := bJ j (by omega)
  refine gj_goto (tgt := 37) dX11_leastBeside_33 rfl ?_
  refine gj_istore_n (L' := [some (.ref 100), some (.int (nI c)), some (.int (nI (sp_bear (T (30 + j)) (J j)))), some (.int (nI j))]) dX11_leastBeside_37 (Nat.le_of_ble_eq_true rfl) rfl ?_
  refine gj_iincN (L' := [some (.ref 100), some (.int (nI c)), some (.int (nI (sp_bear (T (30 + j)) (J j)))), some (.int (nI (j + 1)))]) dX11_leastBeside_38 rfl (Nat.le_of_ble_eq_true rfl) rfl ?_
  refine gj_goto (tgt := 5) dX11_leastBeside_41 rfl ?_
  exact gj_cast (by first | rw [sp_lbn_f hs9] | (rw [sp_lbn_t hs9 hw9]; rfl) | rw [sp_lbn_g hw9]) rfl rfl ih
set_option maxHeartbeats 1000000 in
set_option maxRecDepth 10000 in
theorem ev_X11_votesYes {E : mj_E} {h : mj_H} {a0 a1 y2 y3 y4 y5 y6 : Nat} (H0 : h 100 = some (mj_mo a0 a1 y2 y3 y4 y5 y6)) {T : Nat → Nat} (HT : h 101 = some (mj_ar 362 T)) {J : Nat → Nat} (HJ : h 105 = some (mj_ar 25 J)) (bT : mj_Tb T) (bJ : ∀ q, q < 25 → J q ≤ 99) {v f : Nat} (h0 : v < 7) (h1 : f ≤ 9) : mj_Ev E iX11_votesYes [.ref 100, .int (nI v), .int (nI f)] h (mj_R (some (.int (mj_b (sp_mv T J f v)))) h) := by
  refine mj_Ev.of (L0 := [some (.ref 100), some (.int (nI v)), some (.int (nI f)), none]) pnRX11 (Nat.le_of_ble_eq_true rfl) rfl ?_
  refine gj_aload_n dX11_votesYes_0 rfl ?_
  refine gfX11_7 rfl dX11_votesYes_1 H0 rfl ?_
  refine gj_bp 87 dX11_votesYes_4 (by decide) ?_
  refine gj_iload_n dX11_votesYes_6 rfl ?_
  refine gj_iaddN  dX11_votesYes_7 ?_
  refine gj_ialdN dX11_votesYes_8 HT (by omega) (by omega) ?_
  have hb1 := bT.2.2.2.2.2.2.2.2.2.2.2.2.1 v (by omega)
  refine gj_istore_n (L' := [some (.ref 100), some (.int (nI v)), some (.int (nI f)), some (.int (nI (T (87 + v))))]) dX11_votesYes_9 (Nat.le_of_ble_eq_true rfl) rfl ?_
  refine gj_aload_n dX11_votesYes_10 rfl ?_
  refine gfX11_7 rfl dX11_votesYes_11 H0 rfl ?_
  refine gj_bp 73 dX11_votesYes_14 (by decide) ?_
  refine gj_iload_n dX11_votesYes_16 rfl ?_
  refine gj_iaddN  dX11_votesYes_17 ?_
  refine gj_ialdN dX11_votesYes_18 HT (by omega) (by omega) ?_
  have hb2 := bT.2.2.2.2.2.2.2.2.2.2.1 v (by omega)
  refine gj_aload_n dX11_votesYes_19 rfl ?_
  refine gfX11_7 rfl dX11_votesYes_20 H0 rfl ?_
  refine gj_bp 80 dX11_votesYes_23 (by decide) ?_
  refine gj_iload_n dX11_votesYes_25 rfl ?_
  refine gj_iaddN  dX11_votesYes_26 ?_
  refine gj_ialdN dX11_votesYes_27 HT (by omega) (by omega) ?_
  have hb3 := bT.2.2.2.2.2.2.2.2.2.2.2.1 v (by omega)
  refine gj_aload_n dX11_votesYes_28 rfl ?_
  refine gj_iload_n dX11_votesYes_29 rfl ?_
  refine gj_V1 lkX11_116 H0 rfl rfl (ev_X11_bears H0 HT HJ bT bJ (by omega)) dX11_votesYes_30 rfl rfl rfl rfl rfl ?_
  have hb4 := @sp_bear_le (T (30 + (T (87 + v)))) (J (T (87 + v)))
  have hb5 := bJ (T (87 + v)) (by omega)
  refine gj_aload_n dX11_votesYes_33 rfl ?_
  refine gj_iload_n dX11_votesYes_34 rfl ?_
  refine gj_V1 lkX11_139 H0 rfl rfl (ev_X11_leastBeside H0 HT HJ bT bJ (by omega)) dX11_votesYes_35 rfl rfl rfl rfl rfl ?_
  have hb6 := @sp_lb_le (sp_mb T J) (T (87 + v))
  refine gj_iload_n dX11_votesYes_38 rfl ?_
  refine gj_S1 lkX11_142 (ev_X11_votesAs (by omega) (by omega) (by omega) (by omega) (by omega)) dX11_votesYes_39 rfl rfl rfl rfl rfl ?_
  exact gj_zr rfl dX11_votesYes_42 rfl rfl rfl
set_option maxHeartbeats 1000000 in
set_option maxRecDepth 10000 in
theorem ev_X11_yesOf {E : mj_E} {h : mj_H} {a0 a1 y2 y3 y4 y5 y6 : Nat} (H0 : h 100 = some (mj_mo a0 a1 y2 y3 y4 y5 y6)) {T : Nat → Nat} (HT : h 101 = some (mj_ar 362 T)) {J : Nat → Nat} (HJ : h 105 = some (mj_ar 25 J)) (bT : mj_Tb T) (bJ : ∀ q, q < 25 → J q ≤ 99) {f : Nat} (h0 : f ≤ 9) : mj_Ev E iX11_yesOf [.ref 100, .int (nI f)] h (mj_R (some (.int (nI (sp_my T J f (T 0))))) h) := by
  refine mj_Ev.of (L0 := [some (.ref 100), some (.int (nI f)), none, none]) pnRX11 (Nat.le_of_ble_eq_true rfl) rfl ?_
  have hb0 := bT.1
  refine gj_ic (w := 0) dX11_yesOf_0 ?_
  refine gj_istore_n (L' := [some (.ref 100), some (.int (nI f)), some (.int (nI 0)), none]) dX11_yesOf_1 (Nat.le_of_ble_eq_true rfl) rfl ?_
  refine gj_ic (w := 0) dX11_yesOf_2 ?_
  refine gj_istore_n (L' := [some (.ref 100), some (.int (nI f)), some (.int (nI 0)), some (.int (nI 0))]) dX11_yesOf_3 (Nat.le_of_ble_eq_true rfl) rfl ?_
  refine gj_cast (L' := [some (.ref 100), some (.int (nI f)), some (.int (nI (sp_my T J f 0))), some (.int (nI 0))]) (st' := []) (h' := h) rfl rfl rfl ?_
  refine gj_loop (fun j => [some (.ref 100), some (.int (nI f)), some (.int (nI (sp_my T J f j))), some (.int (nI j))]) (fun j => h) (T 0) ?_ (fun j hj ih => ?_) 0 (by omega)
  · show gj _ _ _ _ _ _ [some (.ref 100), some (.int (nI f)), some (.int (nI (sp_my T J f (T 0)))), some (.int (nI (T 0)))] _ _
    refine gj_iload_n dX11_yesOf_4 rfl ?_
    refine gj_aload_n dX11_yesOf_5 rfl ?_
    refine gj_V1 lkX11_46 H0 rfl rfl (ev_X11_many H0 HT) dX11_yesOf_6 rfl rfl rfl rfl rfl ?_
    refine gj_icmp_geN (tgt := 37) (by omega) (by omega) dX11_yesOf_9 rfl (fun zq1 => ?_) (fun zq1 => ?_)
    rotate_left
    · exfalso; omega
    refine gj_iload_n dX11_yesOf_37 rfl ?_
    exact gj_ir rfl dX11_yesOf_38 rfl rfl rfl
  show gj _ _ _ _ _ _ [some (.ref 100), some (.int (nI f)), some (.int (nI (sp_my T J f j))), some (.int (nI j))] _ _
  refine gj_iload_n dX11_yesOf_4 rfl ?_
  refine gj_aload_n dX11_yesOf_5 rfl ?_
  refine gj_V1 lkX11_46 H0 rfl rfl (ev_X11_many H0 HT) dX11_yesOf_6 rfl rfl rfl rfl rfl ?_
  refine gj_icmp_geN (tgt := 37) (by omega) (by omega) dX11_yesOf_9 rfl (fun zq2 => ?_) (fun zq2 => ?_)
  · exfalso; omega
  refine gj_iload_n dX11_yesOf_12 rfl ?_
  refine gj_aload_n dX11_yesOf_13 rfl ?_
  refine gj_iload_n dX11_yesOf_14 rfl ?_
  refine gj_iload_n dX11_yesOf_15 rfl ?_
  refine gj_V1 lkX11_152 H0 rfl rfl (ev_X11_votesYes H0 HT HJ bT bJ (by omega) (by omega)) dX11_yesOf_16 rfl rfl rfl rfl rfl ?_
  refine gj_if_eqb (tgt := 28) dX11_yesOf_19 rfl (fun zq3 => ?_) (fun zq3 => ?_)
  · -- 19 taken
    have hw9 := zq3
    refine gj_ic (w := 0) dX11_yesOf_28 ?_
    refine gj_iorN  dX11_yesOf_29 ?_
    refine gj_istore_n (L' := [some (.ref 100), some (.int (nI f)), some (.int (nI ((sp_my T J f j) ||| 0))), some (.int (nI j))]) dX11_yesOf_30 (Nat.le_of_ble_eq_true rfl) rfl ?_
    refine gj_iincN (L' := [some (.ref 100), some (.int (nI f)), some (.int (nI ((sp_my T J f j) ||| 0))), some (.int (nI (j + 1)))]) dX11_yesOf_31 rfl (Nat.le_of_ble_eq_true rfl) rfl ?_
    refine gj_goto (tgt := 4) dX11_yesOf_34 rfl ?_
    exact gj_cast (by first | (rw [show sp_my T J f (j + 1) = _ from mj_bits_t hw9]; rfl) | (rw [Nat.or_zero, show sp_my T J f (j + 1) = _ from mj_bits_f hw9]; rfl)) rfl rfl ih
  have hw9 := zq3
  refine gj_ic (w := 1) dX11_yesOf_22 ?_
  refine gj_iload_n dX11_yesOf_23 rfl ?_
  refine gj_ishlN (by omega) dX11_yesOf_24 ?_
  refine gj_goto (tgt := 29) dX11_yesOf_25 rfl ?_
  refine gj_iorN  dX11_yesOf_29 ?_
  refine gj_istore_n (L' := [some (.ref 100), some (.int (nI f)), some (.int (nI ((sp_my T J f j) ||| (1 <<< j)))), some (.int (nI j))]) dX11_yesOf_30 (Nat.le_of_ble_eq_true rfl) rfl ?_
  refine gj_iincN (L' := [some (.ref 100), some (.int (nI f)), some (.int (nI ((sp_my T J f j) ||| (1 <<< j)))), some (.int (nI (j + 1)))]) dX11_yesOf_31 rfl (Nat.le_of_ble_eq_true rfl) rfl ?_
  refine gj_goto (tgt := 4) dX11_yesOf_34 rfl ?_
  exact gj_cast (by first | (rw [show sp_my T J f (j + 1) = _ from mj_bits_t hw9]; rfl) | (rw [Nat.or_zero, show sp_my T J f (j + 1) = _ from mj_bits_f hw9]; rfl)) rfl rfl ih
set_option maxHeartbeats 1000000 in
set_option maxRecDepth 10000 in
theorem ev_X11_heaviest {E : mj_E} {h : mj_H} {a0 a1 y2 y3 y4 y5 y6 : Nat} (H0 : h 100 = some (mj_mo a0 a1 y2 y3 y4 y5 y6)) {T : Nat → Nat} (HT : h 101 = some (mj_ar 362 T)) (bT : mj_Tb T) (h0 : 0 < T 0) : mj_Ev E iX11_heaviest [.ref 100] h (mj_R (some (.int (nI (sp_heav (fun v => T (80 + v)) (T 0))))) h) := by
  refine mj_Ev.of (L0 := [some (.ref 100), none, none]) pnRX11 (Nat.le_of_ble_eq_true rfl) rfl ?_
  have hb0 := bT.1
  refine gj_iconst (v := (-1)) dX11_heaviest_0 (by decide) ?_
  refine gj_top (y := nI 4294967295) (by decide) ?_
  refine gj_istore_n (L' := [some (.ref 100), some (.int (nI 4294967295)), none]) dX11_heaviest_1 (Nat.le_of_ble_eq_true rfl) rfl ?_
  refine gj_ic (w := 0) dX11_heaviest_2 ?_
  refine gj_istore_n (L' := [some (.ref 100), some (.int (nI 4294967295)), some (.int (nI 0))]) dX11_heaviest_3 (Nat.le_of_ble_eq_true rfl) rfl ?_
  refine gj_cast (L' := [some (.ref 100), some (.int (nI (sp_hm (fun v => T (80 + v)) 0))), some (.int (nI 0))]) (st' := []) (h' := h) rfl rfl rfl ?_
  refine gj_loop (fun j => [some (.ref 100), some (.int (nI (sp_hm (fun v => T (80 + v)) j))), some (.int (nI j))]) (fun j => h) (T 0) ?_ (fun j hj ih => ?_) 0 (by omega)
  · show gj _ _ _ _ _ _ [some (.ref 100), some (.int (nI (sp_hm (fun v => T (80 + v)) (T 0)))), some (.int (nI (T 0)))] _ _
    refine gj_iload_n dX11_heaviest_4 rfl ?_
    refine gj_aload_n dX11_heaviest_5 rfl ?_
    refine gj_V1 lkX11_46 H0 rfl rfl (ev_X11_many H0 HT) dX11_heaviest_6 rfl rfl rfl rfl rfl ?_
    refine gj_icmp_geN (tgt := 50) (by omega) (by omega) dX11_heaviest_9 rfl (fun zq1 => ?_) (fun zq1 => ?_)
    rotate_left
    · exfalso; omega
    refine gj_iload_n dX11_heaviest_50 rfl ?_
    exact gj_ir rfl dX11_heaviest_51 rfl (congrArg nI (by rw [show T 0 = T 0 - 1 + 1 by omega]; rfl)) rfl
  show gj _ _ _ _ _ _ [some (.ref 100), some (.int (nI (sp_hm (fun v => T (80 + v)) j))), some (.int (nI j))] _ _
  refine gj_iload_n dX11_heaviest_4 rfl ?_
  refine gj_aload_n dX11_heaviest_5 rfl ?_
  refine gj_V1 lkX11_46 H0 rfl rfl (ev_X11_many H0 HT) dX11_heaviest_6 rfl rfl rfl rfl rfl ?_
  refine gj_icmp_geN (tgt := 50) (by omega) (by omega) dX11_heaviest_9 rfl (fun zq2 => ?_) (fun zq2 => ?_)
  · exfalso; omega
  have ho9 := @sp_hm_or (fun v => T (80 + v)) j
  refine gj_iload_n dX11_heaviest_12 rfl ?_
  refine gj_iconst (v := (-1)) dX11_heaviest_13 (by decide) ?_
  refine gj_top (y := nI 4294967295) (by decide) ?_
  refine gj_icmp_eqW (tgt := 38) (by omega) (by omega) dX11_heaviest_14 rfl (fun zq3 => ?_) (fun zq3 => ?_)
  · -- 14 taken
    have hn9 := zq3
    refine gj_iload_n dX11_heaviest_38 rfl ?_
    refine gj_goto (tgt := 43) dX11_heaviest_39 rfl ?_
    refine gj_istore_n (L' := [some (.ref 100), some (.int (nI j)), some (.int (nI j))]) dX11_heaviest_43 (Nat.le_of_ble_eq_true rfl) rfl ?_
    refine gj_iincN (L' := [some (.ref 100), some (.int (nI j)), some (.int (nI (j + 1)))]) dX11_heaviest_44 rfl (Nat.le_of_ble_eq_true rfl) rfl ?_
    refine gj_goto (tgt := 4) dX11_heaviest_47 rfl ?_
    exact gj_cast (by first | rw [sp_hm_0 hn9 (by omega)] | rw [sp_hm_t hn9 hw9] | rw [sp_hm_f hn9 hw9]) rfl rfl ih
  have hn9 := zq3
  refine gj_aload_n dX11_heaviest_17 rfl ?_
  refine gfX11_7 rfl dX11_heaviest_18 H0 rfl ?_
  refine gj_bp 80 dX11_heaviest_21 (by decide) ?_
  refine gj_iload_n dX11_heaviest_23 rfl ?_
  refine gj_iaddN  dX11_heaviest_24 ?_
  refine gj_ialdN dX11_heaviest_25 HT (by omega) (by omega) ?_
  have hb4 := bT.2.2.2.2.2.2.2.2.2.2.2.1 j (by omega)
  refine gj_aload_n dX11_heaviest_26 rfl ?_
  refine gfX11_7 rfl dX11_heaviest_27 H0 rfl ?_
  refine gj_bp 80 dX11_heaviest_30 (by decide) ?_
  refine gj_iload_n dX11_heaviest_32 rfl ?_
  refine gj_iaddN  dX11_heaviest_33 ?_
  refine gj_ialdN dX11_heaviest_34 HT (by omega) (by omega) ?_
  have hb5 := bT.2.2.2.2.2.2.2.2.2.2.2.1 (sp_hm (fun v => T (80 + v)) j) (by omega)
  refine gj_icmp_leN (tgt := 42) (by omega) (by omega) dX11_heaviest_35 rfl (fun zq6 => ?_) (fun zq6 => ?_)
  · -- 35 taken
    have hw9 := zq6
    refine gj_iload_n dX11_heaviest_42 rfl ?_
    refine gj_istore_n (L' := [some (.ref 100), some (.int (nI (sp_hm (fun v => T (80 + v)) j))), some (.int (nI j))]) dX11_heaviest_43 (Nat.le_of_ble_eq_true rfl) rfl ?_
    refine gj_iincN (L' := [some (.ref 100), some (.int (nI (sp_hm (fun v => T (80 + v)) j))), some (.int (nI (j + 1)))]) dX11_heaviest_44 rfl (Nat.le_of_ble_eq_true rfl) rfl ?_
    refine gj_goto (tgt := 4) dX11_heaviest_47 rfl ?_
    exact gj_cast (by first | rw [sp_hm_0 hn9 (by omega)] | rw [sp_hm_t hn9 hw9] | rw [sp_hm_f hn9 hw9]) rfl rfl ih
  have hw9 := zq6
  refine gj_iload_n dX11_heaviest_38 rfl ?_
  refine gj_goto (tgt := 43) dX11_heaviest_39 rfl ?_
  refine gj_istore_n (L' := [some (.ref 100), some (.int (nI j)), some (.int (nI j))]) dX11_heaviest_43 (Nat.le_of_ble_eq_true rfl) rfl ?_
  refine gj_iincN (L' := [some (.ref 100), some (.int (nI j)), some (.int (nI (j + 1)))]) dX11_heaviest_44 rfl (Nat.le_of_ble_eq_true rfl) rfl ?_
  refine gj_goto (tgt := 4) dX11_heaviest_47 rfl ?_
  exact gj_cast (by first | rw [sp_hm_0 hn9 (by omega)] | rw [sp_hm_t hn9 hw9] | rw [sp_hm_f hn9 hw9]) rfl rfl ih
set_option maxHeartbeats 1000000 in
set_option maxRecDepth 10000 in
theorem ev_X11_isCarried {E : mj_E} {h : mj_H} {a0 a1 y2 y3 y4 y5 y6 : Nat} (H0 : h 100 = some (mj_mo a0 a1 y2 y3 y4 y5 y6)) {T : Nat → Nat} (HT : h 101 = some (mj_ar 362 T)) (bT : mj_Tb T) {s : Nat} (h0 : s < 128) : mj_Ev E iX11_isCarried [.ref 100, .int (nI s)] h (mj_R (some (.int (mj_b (sp_mc T s)))) h) := by
  refine mj_Ev.of (L0 := [some (.ref 100), some (.int (nI s)), none]) pnRX11 (Nat.le_of_ble_eq_true rfl) rfl ?_
  have hb0 := bT.1
  refine gj_ic (w := 2) dX11_isCarried_0 ?_
  refine gj_iload_n dX11_isCarried_1 rfl ?_
  refine gj_S1 lkX11_181 (ev_X11_bits (by omega)) dX11_isCarried_2 rfl rfl rfl rfl rfl ?_
  have hb1 := @sp_pop_le s
  refine gj_imulN  dX11_isCarried_5 ?_
  refine gj_istore_n (L' := [some (.ref 100), some (.int (nI s)), some (.int (nI (2 * (sp_pop s))))]) dX11_isCarried_6 (Nat.le_of_ble_eq_true rfl) rfl ?_
  refine gj_iload_n dX11_isCarried_7 rfl ?_
  refine gj_aload_n dX11_isCarried_8 rfl ?_
  refine gj_V1 lkX11_46 H0 rfl rfl (ev_X11_many H0 HT) dX11_isCarried_9 rfl rfl rfl rfl rfl ?_
  refine gj_icmp_gtN (tgt := 41) (by omega) (by omega) dX11_isCarried_12 rfl (fun zq2 => ?_) (fun zq2 => ?_)
  · -- 12 taken
    refine gj_ic (w := 1) dX11_isCarried_41 ?_
    refine gj_goto (tgt := 46) dX11_isCarried_42 rfl ?_
    exact gj_zr rfl dX11_isCarried_46 rfl (mj_b1 (by unfold sp_mc sp_car; simp; first | omega | exact Or.inr ⟨by omega, by omega, by assumption⟩ | exact ⟨by omega, fun _ _ => by first | assumption | (exfalso; omega)⟩)) rfl
  refine gj_aload_n dX11_isCarried_15 rfl ?_
  refine gj_V1 lkX11_46 H0 rfl rfl (ev_X11_many H0 HT) dX11_isCarried_16 rfl rfl rfl rfl rfl ?_
  refine gj_if_leN (tgt := 45) (by omega) dX11_isCarried_19 rfl (fun zq3 => ?_) (fun zq3 => ?_)
  · -- 19 taken
    refine gj_ic (w := 0) dX11_isCarried_45 ?_
    exact gj_zr rfl dX11_isCarried_46 rfl (mj_b0 (by unfold sp_mc sp_car; simp; first | omega | exact Or.inr ⟨by omega, by omega, by assumption⟩ | exact ⟨by omega, fun _ _ => by first | assumption | (exfalso; omega)⟩)) rfl
  refine gj_iload_n dX11_isCarried_22 rfl ?_
  refine gj_aload_n dX11_isCarried_23 rfl ?_
  refine gj_V1 lkX11_46 H0 rfl rfl (ev_X11_many H0 HT) dX11_isCarried_24 rfl rfl rfl rfl rfl ?_
  refine gj_icmp_neN (tgt := 45) (by omega) (by omega) dX11_isCarried_27 rfl (fun zq4 => ?_) (fun zq4 => ?_)
  · -- 27 taken
    refine gj_ic (w := 0) dX11_isCarried_45 ?_
    exact gj_zr rfl dX11_isCarried_46 rfl (mj_b0 (by unfold sp_mc sp_car; simp; first | omega | exact Or.inr ⟨by omega, by omega, by assumption⟩ | exact ⟨by omega, fun _ _ => by first | assumption | (exfalso; omega)⟩)) rfl
  refine gj_iload_n dX11_isCarried_30 rfl ?_
  refine gj_aload_n dX11_isCarried_31 rfl ?_
  refine gj_V1 lkX11_184 H0 rfl rfl (ev_X11_heaviest H0 HT bT (by omega)) dX11_isCarried_32 rfl rfl rfl rfl rfl ?_
  have hb5 := @sp_heav_lt (fun v => T (80 + v)) (T 0) (by omega)
  refine gj_S1 lkX11_161 (ev_X11_has (by omega) (by omega)) dX11_isCarried_35 rfl rfl rfl rfl rfl ?_
  refine gj_if_eqb (tgt := 45) dX11_isCarried_38 rfl (fun zq6 => ?_) (fun zq6 => ?_)
  · -- 38 taken
    refine gj_ic (w := 0) dX11_isCarried_45 ?_
    exact gj_zr rfl dX11_isCarried_46 rfl (mj_b0 (by unfold sp_mc sp_car; simp; first | omega | exact Or.inr ⟨by omega, by omega, by assumption⟩ | exact ⟨by omega, fun _ _ => by first | assumption | (exfalso; omega)⟩)) rfl
  refine gj_ic (w := 1) dX11_isCarried_41 ?_
  refine gj_goto (tgt := 46) dX11_isCarried_42 rfl ?_
  exact gj_zr rfl dX11_isCarried_46 rfl (mj_b1 (by unfold sp_mc sp_car; simp; first | omega | exact Or.inr ⟨by omega, by omega, by assumption⟩ | exact ⟨by omega, fun _ _ => by first | assumption | (exfalso; omega)⟩)) rfl
set_option maxHeartbeats 1000000 in
set_option maxRecDepth 10000 in
theorem ev_X11_bearsIt {E : mj_E} {h : mj_H} {a0 a1 y2 y3 y4 y5 y6 : Nat} (H0 : h 100 = some (mj_mo a0 a1 y2 y3 y4 y5 y6)) {T : Nat → Nat} (HT : h 101 = some (mj_ar 362 T)) {J : Nat → Nat} (HJ : h 105 = some (mj_ar 25 J)) (bT : mj_Tb T) (bJ : ∀ q, q < 25 → J q ≤ 99) {v : Nat} (h0 : v < 7) : mj_Ev E iX11_bearsIt [.ref 100, .int (nI v)] h (mj_R (some (.int (mj_b (sp_mi T J v)))) h) := by
  refine mj_Ev.of (L0 := [some (.ref 100), some (.int (nI v))]) pnRX11 (Nat.le_of_ble_eq_true rfl) rfl ?_
  refine gj_aload_n dX11_bearsIt_0 rfl ?_
  refine gj_aload_n dX11_bearsIt_1 rfl ?_
  refine gfX11_7 rfl dX11_bearsIt_2 H0 rfl ?_
  refine gj_bp 87 dX11_bearsIt_5 (by decide) ?_
  refine gj_iload_n dX11_bearsIt_7 rfl ?_
  refine gj_iaddN  dX11_bearsIt_8 ?_
  refine gj_ialdN dX11_bearsIt_9 HT (by omega) (by omega) ?_
  have hb1 := bT.2.2.2.2.2.2.2.2.2.2.2.2.1 v (by omega)
  refine gj_V1 lkX11_116 H0 rfl rfl (ev_X11_bears H0 HT HJ bT bJ (by omega)) dX11_bearsIt_10 rfl rfl rfl rfl rfl ?_
  have hb2 := @sp_bear_le (T (30 + (T (87 + v)))) (J (T (87 + v)))
  have hb3 := bJ (T (87 + v)) (by omega)
  refine gj_aload_n dX11_bearsIt_13 rfl ?_
  refine gfX11_7 rfl dX11_bearsIt_14 H0 rfl ?_
  refine gj_bp 80 dX11_bearsIt_17 (by decide) ?_
  refine gj_iload_n dX11_bearsIt_19 rfl ?_
  refine gj_iaddN  dX11_bearsIt_20 ?_
  refine gj_ialdN dX11_bearsIt_21 HT (by omega) (by omega) ?_
  have hb4 := bT.2.2.2.2.2.2.2.2.2.2.2.1 v (by omega)
  refine gj_icmp_ltN (tgt := 29) (by omega) (by omega) dX11_bearsIt_22 rfl (fun zq5 => ?_) (fun zq5 => ?_)
  · -- 22 taken
    refine gj_ic (w := 0) dX11_bearsIt_29 ?_
    exact gj_zr rfl dX11_bearsIt_30 rfl (mj_b0 (by unfold sp_mi; first | exact decide_eq_true (by assumption) | exact decide_eq_false (Nat.not_le.mpr (by assumption)))) rfl
  refine gj_ic (w := 1) dX11_bearsIt_25 ?_
  refine gj_goto (tgt := 30) dX11_bearsIt_26 rfl ?_
  exact gj_zr rfl dX11_bearsIt_30 rfl (mj_b1 (by unfold sp_mi; first | exact decide_eq_true (by assumption) | exact decide_eq_false (Nat.not_le.mpr (by assumption)))) rfl
set_option maxHeartbeats 1000000 in
set_option maxRecDepth 10000 in
theorem ev_X11_wetOf {E : mj_E} {h : mj_H} {a0 a1 y2 y3 y4 y5 y6 : Nat} (H0 : h 100 = some (mj_mo a0 a1 y2 y3 y4 y5 y6)) {T : Nat → Nat} (HT : h 101 = some (mj_ar 362 T)) {J : Nat → Nat} (HJ : h 105 = some (mj_ar 25 J)) (bT : mj_Tb T) (bJ : ∀ q, q < 25 → J q ≤ 99) {s : Nat} (h0 : s < 128) : mj_Ev E iX11_wetOf [.ref 100, .int (nI s)] h (mj_R (some (.int (nI (sp_mw T J s (T 0))))) h) := by
  refine mj_Ev.of (L0 := [some (.ref 100), some (.int (nI s)), none, none]) pnRX11 (Nat.le_of_ble_eq_true rfl) rfl ?_
  have hb0 := bT.1
  refine gj_ic (w := 0) dX11_wetOf_0 ?_
  refine gj_istore_n (L' := [some (.ref 100), some (.int (nI s)), some (.int (nI 0)), none]) dX11_wetOf_1 (Nat.le_of_ble_eq_true rfl) rfl ?_
  refine gj_ic (w := 0) dX11_wetOf_2 ?_
  refine gj_istore_n (L' := [some (.ref 100), some (.int (nI s)), some (.int (nI 0)), some (.int (nI 0))]) dX11_wetOf_3 (Nat.le_of_ble_eq_true rfl) rfl ?_
  refine gj_cast (L' := [some (.ref 100), some (.int (nI s)), some (.int (nI (sp_mw T J s 0))), some (.int (nI 0))]) (st' := []) (h' := h) rfl rfl rfl ?_
  refine gj_loop (fun j => [some (.ref 100), some (.int (nI s)), some (.int (nI (sp_mw T J s j))), some (.int (nI j))]) (fun j => h) (T 0) ?_ (fun j hj ih => ?_) 0 (by omega)
  · show gj _ _ _ _ _ _ [some (.ref 100), some (.int (nI s)), some (.int (nI (sp_mw T J s (T 0)))), some (.int (nI (T 0)))] _ _
    refine gj_iload_n dX11_wetOf_4 rfl ?_
    refine gj_aload_n dX11_wetOf_5 rfl ?_
    refine gj_V1 lkX11_46 H0 rfl rfl (ev_X11_many H0 HT) dX11_wetOf_6 rfl rfl rfl rfl rfl ?_
    refine gj_icmp_geN (tgt := 52) (by omega) (by omega) dX11_wetOf_9 rfl (fun zq1 => ?_) (fun zq1 => ?_)
    rotate_left
    · exfalso; omega
    refine gj_iload_n dX11_wetOf_52 rfl ?_
    exact gj_ir rfl dX11_wetOf_53 rfl (congrArg nI (by first | rfl | rw [sp_mw_0 hc9, sp_mw_0 hc9])) rfl
  show gj _ _ _ _ _ _ [some (.ref 100), some (.int (nI s)), some (.int (nI (sp_mw T J s j))), some (.int (nI j))] _ _
  refine gj_iload_n dX11_wetOf_4 rfl ?_
  refine gj_aload_n dX11_wetOf_5 rfl ?_
  refine gj_V1 lkX11_46 H0 rfl rfl (ev_X11_many H0 HT) dX11_wetOf_6 rfl rfl rfl rfl rfl ?_
  refine gj_icmp_geN (tgt := 52) (by omega) (by omega) dX11_wetOf_9 rfl (fun zq2 => ?_) (fun zq2 => ?_)
  · exfalso; omega
  refine gj_aload_n dX11_wetOf_12 rfl ?_
  refine gj_iload_n dX11_wetOf_13 rfl ?_
  refine gj_V1 lkX11_187 H0 rfl rfl (ev_X11_isCarried H0 HT bT (by omega)) dX11_wetOf_14 rfl rfl rfl rfl rfl ?_
  refine gj_if_eqb (tgt := 52) dX11_wetOf_17 rfl (fun zq3 => ?_) (fun zq3 => ?_)
  · -- 17 taken
    have hc9 := zq3
    refine gj_iload_n dX11_wetOf_52 rfl ?_
    exact gj_ir rfl dX11_wetOf_53 rfl (congrArg nI (by first | rfl | rw [sp_mw_0 hc9, sp_mw_0 hc9])) rfl
  have hc9 := zq3
  refine gj_iload_n dX11_wetOf_20 rfl ?_
  refine gj_iload_n dX11_wetOf_21 rfl ?_
  refine gj_iload_n dX11_wetOf_22 rfl ?_
  refine gj_S1 lkX11_161 (ev_X11_has (by omega) (by omega)) dX11_wetOf_23 rfl rfl rfl rfl rfl ?_
  refine gj_if_eqb (tgt := 43) dX11_wetOf_26 rfl (fun zq4 => ?_) (fun zq4 => ?_)
  · -- 26 taken
    have hw9 : sp_mwv T J s j = false := by unfold sp_mwv; rw [zq4, Bool.false_and, Bool.and_false]
    refine gj_ic (w := 0) dX11_wetOf_43 ?_
    refine gj_iorN  dX11_wetOf_44 ?_
    refine gj_istore_n (L' := [some (.ref 100), some (.int (nI s)), some (.int (nI ((sp_mw T J s j) ||| 0))), some (.int (nI j))]) dX11_wetOf_45 (Nat.le_of_ble_eq_true rfl) rfl ?_
    refine gj_iincN (L' := [some (.ref 100), some (.int (nI s)), some (.int (nI ((sp_mw T J s j) ||| 0))), some (.int (nI (j + 1)))]) dX11_wetOf_46 rfl (Nat.le_of_ble_eq_true rfl) rfl ?_
    refine gj_goto (tgt := 4) dX11_wetOf_49 rfl ?_
    exact gj_cast (by first | (rw [show sp_mw T J s (j + 1) = _ from mj_bits_t hw9]; rfl) | (rw [Nat.or_zero, show sp_mw T J s (j + 1) = _ from mj_bits_f hw9]; rfl)) rfl rfl ih
  have ht9 := zq4
  refine gj_aload_n dX11_wetOf_29 rfl ?_
  refine gj_iload_n dX11_wetOf_30 rfl ?_
  refine gj_V1 lkX11_190 H0 rfl rfl (ev_X11_bearsIt H0 HT HJ bT bJ (by omega)) dX11_wetOf_31 rfl rfl rfl rfl rfl ?_
  refine gj_if_neb (tgt := 43) dX11_wetOf_34 rfl (fun zq5 => ?_) (fun zq5 => ?_)
  · -- 34 taken
    have hw9 : sp_mwv T J s j = false := by unfold sp_mwv; rw [zq5, Bool.not_true, Bool.and_false, Bool.and_false]
    refine gj_ic (w := 0) dX11_wetOf_43 ?_
    refine gj_iorN  dX11_wetOf_44 ?_
    refine gj_istore_n (L' := [some (.ref 100), some (.int (nI s)), some (.int (nI ((sp_mw T J s j) ||| 0))), some (.int (nI j))]) dX11_wetOf_45 (Nat.le_of_ble_eq_true rfl) rfl ?_
    refine gj_iincN (L' := [some (.ref 100), some (.int (nI s)), some (.int (nI ((sp_mw T J s j) ||| 0))), some (.int (nI (j + 1)))]) dX11_wetOf_46 rfl (Nat.le_of_ble_eq_true rfl) rfl ?_
    refine gj_goto (tgt := 4) dX11_wetOf_49 rfl ?_
    exact gj_cast (by first | (rw [show sp_mw T J s (j + 1) = _ from mj_bits_t hw9]; rfl) | (rw [Nat.or_zero, show sp_mw T J s (j + 1) = _ from mj_bits_f hw9]; rfl)) rfl rfl ih
  have hw9 : sp_mwv T J s j = true := by unfold sp_mwv; simp [hc9, ht9, zq5]
  refine gj_ic (w := 1) dX11_wetOf_37 ?_
  refine gj_iload_n dX11_wetOf_38 rfl ?_
  refine gj_ishlN (by omega) dX11_wetOf_39 ?_
  refine gj_goto (tgt := 44) dX11_wetOf_40 rfl ?_
  refine gj_iorN  dX11_wetOf_44 ?_
  refine gj_istore_n (L' := [some (.ref 100), some (.int (nI s)), some (.int (nI ((sp_mw T J s j) ||| (1 <<< j)))), some (.int (nI j))]) dX11_wetOf_45 (Nat.le_of_ble_eq_true rfl) rfl ?_
  refine gj_iincN (L' := [some (.ref 100), some (.int (nI s)), some (.int (nI ((sp_mw T J s j) ||| (1 <<< j)))), some (.int (nI (j + 1)))]) dX11_wetOf_46 rfl (Nat.le_of_ble_eq_true rfl) rfl ?_
  refine gj_goto (tgt := 4) dX11_wetOf_49 rfl ?_
  exact gj_cast (by first | (rw [show sp_mw T J s (j + 1) = _ from mj_bits_t hw9]; rfl) | (rw [Nat.or_zero, show sp_mw T J s (j + 1) = _ from mj_bits_f hw9]; rfl)) rfl rfl ih
