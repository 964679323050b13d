theorem sp_sum_s {f : Nat → Nat} {n : Nat} : sp_sum f (n + 1) = sp_sum f n + f n := rfl
theorem sp_sum_v {f : Nat → Nat} {n v : Nat} (h : f n = v) : sp_sum f (n + 1) = sp_sum f n + v := by rw [sp_sum_s, h]
theorem sp_sum_congr {f g : Nat → Nat} {n : Nat} (h : ∀ i, i < n → f i = g i) : sp_sum f n = sp_sum g n := by
  induction n with
  | zero => rfl
  | succ n ih => rw [sp_sum_s, sp_sum_s, ih fun i hi => h i (by omega), h n (by omega)]
theorem sp_sum_mono {f g : Nat → Nat} {n : Nat} (h : ∀ i, f i ≤ g i) : sp_sum f n ≤ sp_sum g n := by
  induction n with
  | zero => exact Nat.le_refl _
  | succ n ih => rw [sp_sum_s, sp_sum_s]; have := h n; omega
theorem sp_sum_un {T g : Nat → Nat} {i v N : Nat} : sp_sum (fun x => mj_un T i (T i + v) x * g x) N = sp_sum (fun x => T x * g x) N + (if i < N then v * g i else 0) := by
  induction N with
  | zero => rfl
  | succ N ih =>
    rw [sp_sum_s, sp_sum_s, ih]
    by_cases q : N = i
    · subst q
      rw [mj_un_eq, if_neg (by omega), if_pos (by omega), Nat.add_mul]; omega
    · rw [mj_un_ne q]
      by_cases z : i < N
      · rw [if_pos z, if_pos (by omega)]; omega
      · rw [if_neg z, if_neg (by omega)]; omega
/-- the chances behind one more night, as far as n -/
def sp_nt (k f s o : Nat) (ch : Nat → Nat) (n : Nat) : Nat → Nat := mj_fo (fun i T => mj_un (mj_un T (sp_after k i 0 s) (T (sp_after k i 0 s) + ch i * o)) (sp_after k i f s) (mj_un T (sp_after k i 0 s) (T (sp_after k i 0 s) + ch i * o) (sp_after k i f s) + ch i * (10 - o))) (fun _ => 0) n
theorem sp_nt_s {k f s o : Nat} {ch : Nat → Nat} {n : Nat} : sp_nt k f s o ch (n + 1) = mj_un (mj_un (sp_nt k f s o ch n) (sp_after k n 0 s) (sp_nt k f s o ch n (sp_after k n 0 s) + ch n * o)) (sp_after k n f s) (mj_un (sp_nt k f s o ch n) (sp_after k n 0 s) (sp_nt k f s o ch n (sp_after k n 0 s) + ch n * o) (sp_after k n f s) + ch n * (10 - o)) := mj_fo_s
theorem sp_sum_zero {g : Nat → Nat} {N : Nat} : sp_sum (fun x => (fun _ => 0) x * g x) N = 0 := by
  induction N with
  | zero => rfl
  | succ N ih => rw [sp_sum_s, ih]; simp
theorem sp_nt_E {k f s o : Nat} {ch g : Nat → Nat} {n : Nat} : sp_sum (fun x => sp_nt k f s o ch n x * g x) 100 = sp_sum (fun i => ch i * (o * g (sp_after k i 0 s) + (10 - o) * g (sp_after k i f s))) n := by
  induction n with
  | zero => exact sp_sum_zero
  | succ n ih =>
    rw [sp_sum_s (n := n), ← ih, sp_nt_s, sp_sum_un, sp_sum_un, if_pos (Nat.lt_succ_of_le sp_after_le), if_pos (Nat.lt_succ_of_le sp_after_le), Nat.mul_add, Nat.mul_assoc, Nat.mul_assoc]
    omega
def sp_ch (k : Nat) (F U : Nat → Nat) (day o i : Nat) (n : Nat) : Nat → Nat := mj_fo (fun d ch => sp_nt k (F ((day + d) % 7)) (U ((day + d) % 7)) o ch 100) (mj_un (fun _ => 0) i 1) n
theorem sp_ch_s {k : Nat} {F U : Nat → Nat} {day o i n : Nat} : sp_ch k F U day o i (n + 1) = sp_nt k (F ((day + n) % 7)) (U ((day + n) % 7)) o (sp_ch k F U day o i n) 100 := mj_fo_s
theorem sp_ch_E {k : Nat} {F U : Nat → Nat} {day o i n : Nat} {g : Nat → Nat} : sp_sum (fun x => sp_ch k F U day o i (n + 1) x * g x) 100 = sp_sum (fun x => sp_ch k F U day o i n x * (o * g (sp_after k x 0 (U ((day + n) % 7))) + (10 - o) * g (sp_after k x (F ((day + n) % 7)) (U ((day + n) % 7))))) 100 := by
  rw [sp_ch_s, sp_nt_E]
theorem sp_ch_0 {k : Nat} {F U : Nat → Nat} {day o i : Nat} {g : Nat → Nat} (hi : i < 100) : sp_sum (fun x => sp_ch k F U day o i 0 x * g x) 100 = g i := by
  have e : sp_ch k F U day o i 0 = mj_un (fun _ => 0) i ((fun _ => 0) i + 1) := rfl
  rw [e, sp_sum_un, sp_sum_zero, if_pos hi]; omega
theorem sp_sum_mulr {f : Nat → Nat} {n m : Nat} : sp_sum (fun x => f x * m) n = sp_sum f n * m := by
  induction n with
  | zero => simp [sp_sum]
  | succ n ih => rw [sp_sum_s, sp_sum_s, ih, Nat.add_mul]
theorem sp_ch_all {k : Nat} {F U : Nat → Nat} {day o i n : Nat} (hi : i < 100) (ho : o ≤ 10) : sp_sum (sp_ch k F U day o i n) 100 = 10 ^ n := by
  have h : ∀ n, sp_sum (fun x => sp_ch k F U day o i n x * 1) 100 = 10 ^ n := by
    intro n
    induction n with
    | zero => rw [sp_ch_0 (g := fun _ => 1) hi]
    | succ n ih =>
      rw [sp_ch_E (g := fun _ => 1), show (fun x => sp_ch k F U day o i n x * (o * 1 + (10 - o) * 1)) = fun x => (fun x => sp_ch k F U day o i n x * 1) x * 10 by funext x; show _ = sp_ch k F U day o i n x * 1 * 10; have e10 : o * 1 + (10 - o) * 1 = 10 := (by omega); rw [e10, Nat.mul_one], sp_sum_mulr, ih, Nat.pow_succ]
  have := h n
  rwa [show (fun x => sp_ch k F U day o i n x * 1) = sp_ch k F U day o i n by funext x; rw [Nat.mul_one]] at this
def sp_chb (k w : Nat) (ch : Nat → Nat) : Nat → Nat := fun x => if w ≤ sp_bear k x then ch x else 0
theorem sp_chb_t {k w x : Nat} {ch : Nat → Nat} (h : w ≤ sp_bear k x) : sp_chb k w ch x = ch x := if_pos h
theorem sp_chb_f {k w x : Nat} {ch : Nat → Nat} (h : sp_bear k x < w) : sp_chb k w ch x = 0 := if_neg (Nat.not_le.mpr h)
theorem sp_chb_le {k w : Nat} {ch : Nat → Nat} : ∀ x, sp_chb k w ch x ≤ ch x := fun x => by unfold sp_chb; split <;> omega
def sp_chx (R : Nat → Nat) (k : Nat) (F U : Nat → Nat) (day o i : Nat) : Nat → Nat → Nat
  | 0 => R
  | n + 1 => sp_ch k F U day o i (n + 1)
theorem mj_u4 {C : Nat → Nat → Nat} {i j : Nat} {X Y S T : Nat → Nat} : mj_u (mj_u (mj_u (mj_u C i X) j Y) i S) j T = mj_u (mj_u C i S) j T := by
  funext a; unfold mj_u
  by_cases q : a = j <;> by_cases z : a = i <;> simp [q, z]
/-- Euclid's steps -/
def sp_gc (u v : Nat) (n : Nat) : Nat × Nat := mj_fo (fun _ (p : Nat × Nat) => if p.1 = 0 then p else (p.2 % p.1, p.1)) (u, v) n
theorem sp_gc_s {u v n : Nat} : sp_gc u v (n + 1) = if (sp_gc u v n).1 = 0 then sp_gc u v n else ((sp_gc u v n).2 % (sp_gc u v n).1, (sp_gc u v n).1) := mj_fo_s
theorem sp_gc_g {u v n : Nat} : Nat.gcd (sp_gc u v n).1 (sp_gc u v n).2 = Nat.gcd u v := by
  induction n with
  | zero => rfl
  | succ n ih =>
    rw [sp_gc_s]
    by_cases q : (sp_gc u v n).1 = 0
    · rw [if_pos q]; exact ih
    · rw [if_neg q, ← ih]; exact (Nat.gcd_rec _ _).symm
theorem sp_gc_e {u v n : Nat} (h : (sp_gc u v n).1 = 0) : (sp_gc u v n).2 = Nat.gcd u v := by
  rw [← @sp_gc_g u v n, h, Nat.gcd_zero_left]
theorem sp_gc_lt {u v n : Nat} (hu : u < 2 ^ 50) (hv : v < 2 ^ 50) : (sp_gc u v n).1 < 2 ^ 50 ∧ (sp_gc u v n).2 < 2 ^ 50 := by
  induction n with
  | zero => exact ⟨hu, hv⟩
  | succ n ih =>
    rw [sp_gc_s]
    by_cases q : (sp_gc u v n).1 = 0
    · rw [if_pos q]; exact ih
    · rw [if_neg q]; exact ⟨Nat.lt_trans (Nat.mod_lt _ (by omega)) ih.1, ih.1⟩
theorem mj_half {a r : Nat} (h0 : 0 < r) (h1 : r < a) : 2 * (a % r) ≤ a := by
  have h2 := Nat.mod_lt a h0
  have h3 := Nat.div_add_mod a r
  have h4 : 1 ≤ a / r := Nat.div_pos (Nat.le_of_lt h1) h0
  have h5 : r * 1 ≤ r * (a / r) := Nat.mul_le_mul_left r h4
  omega
theorem sp_gc_2 {u v n : Nat} : 2 * (sp_gc u v (n + 2)).1 ≤ (sp_gc u v n).1 := by
  by_cases q : (sp_gc u v n).1 = 0
  · have e : sp_gc u v (n + 1) = sp_gc u v n := by rw [sp_gc_s, if_pos q]
    rw [sp_gc_s, e, if_pos q, q]; omega
  · have e : sp_gc u v (n + 1) = ((sp_gc u v n).2 % (sp_gc u v n).1, (sp_gc u v n).1) := by rw [sp_gc_s, if_neg q]
    have h1 : (sp_gc u v n).2 % (sp_gc u v n).1 < (sp_gc u v n).1 := Nat.mod_lt _ (by omega)
    rw [sp_gc_s, e]
    by_cases z : (sp_gc u v n).2 % (sp_gc u v n).1 = 0
    · rw [if_pos z]; show 2 * _ ≤ _; rw [z]; omega
    · rw [if_neg z]; exact mj_half (by omega) h1
theorem sp_gc_100 {u v : Nat} (hu : u < 2 ^ 50) : (sp_gc u v 100).1 = 0 := by
  have h : ∀ k, k ≤ 50 → (sp_gc u v (2 * k)).1 < 2 ^ (50 - k) := by
    intro k
    induction k with
    | zero => intro _; exact hu
    | succ k ih =>
      intro hk
      have h1 := ih (by omega)
      have h2 := @sp_gc_2 u v (2 * k)
      rw [show 50 - k = (50 - (k + 1)) + 1 by omega, Nat.pow_succ] at h1
      rw [show 2 * (k + 1) = 2 * k + 2 by omega]
      omega
  have := h 50 (Nat.le_refl _)
  rw [show 50 - 50 = 0 by omega, Nat.pow_zero, show 2 * 50 = 100 by omega] at this
  omega
set_option maxHeartbeats 1000000 in
set_option maxRecDepth 10000 in
theorem ev_J7_fill_d0a16 {E : mj_E} {h : mj_H} {a N v : Nat} {K : Nat → Nat} (Ha : h a = some (mj_al64 N K)) (hN : N < 2 ^ 31) : mj_Ev E iJ7_fill_d0a16 [.ref a, .long (lN v)] h (mj_R none (mj_up h a (mj_al64 N (fun _ => v)))) := by
  refine mj_Ev.of (L0 := [some (.ref a), some (.long (lN v)), none, none, none]) pnRJ7 (Nat.le_of_ble_eq_true rfl) rfl ?_
  refine gj_ic (w := 0) dJ7_fill_d0a16_0 ?_
  refine gj_istore_n (L' := [some (.ref a), some (.long (lN v)), none, some (.int (nI 0)), none]) dJ7_fill_d0a16_1 (Nat.le_of_ble_eq_true rfl) rfl ?_
  refine gj_aload_n dJ7_fill_d0a16_2 rfl ?_
  refine gj_alen (t := 1) rfl dJ7_fill_d0a16_3 Ha ?_
  refine gj_istore (L' := [some (.ref a), some (.long (lN v)), none, some (.int (nI 0)), some (.int (nI N))]) dJ7_fill_d0a16_4 (Nat.le_of_ble_eq_true rfl) rfl ?_
  refine gj_cast (L' := [some (.ref a), some (.long (lN v)), none, some (.int (nI 0)), some (.int (nI N))]) (st' := []) (h' := mj_up h a (mj_al64 N (mj_mix (fun _ => v) K 0))) rfl rfl (by rw [mj_mix_0, mj_up_self Ha]) ?_
  refine gj_loop (fun j => [some (.ref a), some (.long (lN v)), none, some (.int (nI j)), some (.int (nI N))]) (fun j => mj_up h a (mj_al64 N (mj_mix (fun _ => v) K j))) N ?_ (fun j hj ih => ?_) 0 (by omega)
  · show gj _ _ _ _ _ _ [some (.ref a), some (.long (lN v)), none, some (.int (nI N)), some (.int (nI N))] _ _
    refine gj_iload_n dJ7_fill_d0a16_6 rfl ?_
    refine gj_iload dJ7_fill_d0a16_7 rfl ?_
    refine gj_icmp_geN (tgt := 22) (by omega) (by omega) dJ7_fill_d0a16_9 rfl (fun zq1 => ?_) (fun zq1 => ?_)
    rotate_left
    · exfalso; omega
    refine gj_reLN (g := fun _ => v) (fun j hj => mj_mix_lt hj) ?_
    exact gj_vr rfl dJ7_fill_d0a16_22 rfl
  show gj _ _ _ _ _ _ [some (.ref a), some (.long (lN v)), none, some (.int (nI j)), some (.int (nI N))] _ _
  refine gj_iload_n dJ7_fill_d0a16_6 rfl ?_
  refine gj_iload dJ7_fill_d0a16_7 rfl ?_
  refine gj_icmp_geN (tgt := 22) (by omega) (by omega) dJ7_fill_d0a16_9 rfl (fun zq2 => ?_) (fun zq2 => ?_)
  · exfalso; omega
  refine gj_aload_n dJ7_fill_d0a16_12 rfl ?_
  refine gj_iload_n dJ7_fill_d0a16_13 rfl ?_
  refine gj_lload_n dJ7_fill_d0a16_14 rfl ?_
  refine gj_lastN dJ7_fill_d0a16_15 (mj_up_eq _ _ _) (by omega) (by omega) ?_
  refine gj_iincN (L' := [some (.ref a), some (.long (lN v)), none, some (.int (nI (j + 1))), some (.int (nI N))]) dJ7_fill_d0a16_16 rfl (Nat.le_of_ble_eq_true rfl) rfl ?_
  refine gj_goto (tgt := 6) dJ7_fill_d0a16_19 rfl ?_
  exact gj_cast rfl rfl (by rw [mj_up_up, mj_mix_un rfl]) ih
set_option maxHeartbeats 1000000 in
set_option maxRecDepth 10000 in
theorem ev_X10_addAt {E : mj_E} {h : mj_H} {a i v : Nat} {K : Nat → Nat} (Ha : h a = some (mj_al64 100 K)) (hi : i < 100) : mj_Ev E iX10_addAt [.ref a, .int (nI i), .long (lN v)] h (mj_R none (mj_up h a (mj_al64 100 (mj_un K i (K i + v))))) := by
  refine mj_Ev.of (L0 := [some (.ref a), some (.int (nI i)), some (.long (lN v)), none]) pnRX10 (Nat.le_of_ble_eq_true rfl) rfl ?_
  refine gj_iload_n dX10_addAt_0 rfl ?_
  refine gj_if_ltN (tgt := 17) (by omega) dX10_addAt_1 rfl (fun zq1 => ?_) (fun zq1 => ?_)
  · exfalso; exact zq1
  refine gj_iload_n dX10_addAt_4 rfl ?_
  refine gj_aload_n dX10_addAt_5 rfl ?_
  refine gj_alen (t := 1) rfl dX10_addAt_6 Ha ?_
  refine gj_icmp_geN (tgt := 17) (by omega) (by omega) dX10_addAt_7 rfl (fun zq2 => ?_) (fun zq2 => ?_)
  · exfalso; omega
  refine gj_aload_n dX10_addAt_10 rfl ?_
  refine gj_iload_n dX10_addAt_11 rfl ?_
  refine gj_dup2 dX10_addAt_12 rfl rfl ?_
  refine gj_laldN dX10_addAt_13 Ha (by omega) (by omega) ?_
  refine gj_lload_n dX10_addAt_14 rfl ?_
  refine gj_laddN  dX10_addAt_15 ?_
  refine gj_lastN dX10_addAt_16 Ha (by omega) (by omega) ?_
  exact gj_vr rfl dX10_addAt_17 rfl
set_option maxHeartbeats 1000000 in
set_option maxRecDepth 10000 in
theorem ev_X10_passNight {E : mj_E} {κ : Nat → Bool} {C : Nat → Nat → Nat} (I : mj_CI κ C) {k d o : Nat} (h0 : k ≤ 5) (h1 : d < 2 ^ 31) (h2 : o ≤ 10) : mj_Ev E iX10_passNight [.ref 0, .int (nI k), .int (nI d), .int (nI o)] (hh κ C) (mj_R none (hh κ (mj_u (mj_u C 14 (sp_nt k (C 25 (d % 7)) (C 26 (d % 7)) o (C 13) 100)) 13 (sp_nt k (C 25 (d % 7)) (C 26 (d % 7)) o (C 13) 100)))) := by
  have hl0 : C 20 0 ≤ 999 := I.1 0 (by decide) 0
  have hl7 : C 27 0 ≤ 7 := I.1 7 (by decide) 0
  have hl11 : C 31 0 ≤ 6 := I.1 11 (by decide) 0
  have hl13 : C 33 0 ≤ 6 := I.1 13 (by decide) 0
  have hl15 : C 35 0 ≤ 8 := I.1 15 (by decide) 0
  have hl7x : C 7 0 ≤ 150 := I.2.2.2.2.2.2.1
  refine mj_Ev.of (L0 := [some (.ref 0), some (.int (nI k)), some (.int (nI d)), some (.int (nI o)), none, none, none]) pnRX10 (Nat.le_of_ble_eq_true rfl) rfl ?_
  refine gj_aload_n dX10_passNight_0 rfl ?_
  refine gfX10_10 rfl dX10_passNight_1 (hc0 κ C) rfl ?_
  refine gfX10_114 rfl dX10_passNight_4 (hc20 κ C) rfl ?_
  refine gj_iload_n dX10_passNight_7 rfl ?_
  refine gj_V1 lkX10_118 (hc24 κ C) rfl rfl (ev_X9_frostOn ⟨(hc24 κ C), (hc25 κ C), (hc26 κ C), (by decide), (show ∀ c, C 25 c ≤ 9 from I.1 5 (by decide)), (show ∀ c, C 26 c ≤ 9 from I.1 6 (by decide))⟩ (by omega)) dX10_passNight_8 rfl rfl rfl rfl rfl ?_
  have hb1 := (show ∀ c, C 25 c ≤ 9 from I.1 5 (by decide)) (d % 7)
  refine gj_istore (L' := [some (.ref 0), some (.int (nI k)), some (.int (nI d)), some (.int (nI o)), some (.int (nI (C 25 (d % 7)))), none, none]) dX10_passNight_11 (Nat.le_of_ble_eq_true rfl) rfl ?_
  refine gj_aload_n dX10_passNight_13 rfl ?_
  refine gfX10_10 rfl dX10_passNight_14 (hc0 κ C) rfl ?_
  refine gfX10_114 rfl dX10_passNight_17 (hc20 κ C) rfl ?_
  refine gj_iload_n dX10_passNight_20 rfl ?_
  refine gj_V1 lkX10_123 (hc24 κ C) rfl rfl (ev_X9_sunOn ⟨(hc24 κ C), (hc25 κ C), (hc26 κ C), (by decide), (show ∀ c, C 25 c ≤ 9 from I.1 5 (by decide)), (show ∀ c, C 26 c ≤ 9 from I.1 6 (by decide))⟩ (by omega)) dX10_passNight_21 rfl rfl rfl rfl rfl ?_
  have hb2 := (show ∀ c, C 26 c ≤ 9 from I.1 6 (by decide)) (d % 7)
  refine gj_istore (L' := [some (.ref 0), some (.int (nI k)), some (.int (nI d)), some (.int (nI o)), some (.int (nI (C 25 (d % 7)))), some (.int (nI (C 26 (d % 7)))), none]) dX10_passNight_24 (Nat.le_of_ble_eq_true rfl) rfl ?_
  refine gj_aload_n dX10_passNight_26 rfl ?_
  refine gfX10_55 rfl dX10_passNight_27 (hc0 κ C) rfl ?_
  refine gj_lconst (v := lN 0) dX10_passNight_30 rfl ?_
  refine gj_S0 lkX10_294 (ev_J7_fill_d0a16 (hc14 κ C) (by decide)) dX10_passNight_31 rfl rfl rfl rfl rfl ?_
  refine gj_ic (w := 0) dX10_passNight_34 ?_
  refine gj_istore (L' := [some (.ref 0), some (.int (nI k)), some (.int (nI d)), some (.int (nI o)), some (.int (nI (C 25 (d % 7)))), some (.int (nI (C 26 (d % 7)))), some (.int (nI 0))]) dX10_passNight_35 (Nat.le_of_ble_eq_true rfl) rfl ?_
  refine gj_cast (L' := [some (.ref 0), some (.int (nI k)), some (.int (nI d)), some (.int (nI o)), some (.int (nI (C 25 (d % 7)))), some (.int (nI (C 26 (d % 7)))), some (.int (nI 0))]) (st' := []) (h' := mj_up (hh κ C) 14 (mj_al64 100 (sp_nt k (C 25 (d % 7)) (C 26 (d % 7)) o (C 13) 0))) rfl rfl rfl ?_
  refine gj_loop (fun j => [some (.ref 0), some (.int (nI k)), some (.int (nI d)), some (.int (nI o)), some (.int (nI (C 25 (d % 7)))), some (.int (nI (C 26 (d % 7)))), some (.int (nI j))]) (fun j => mj_up (hh κ C) 14 (mj_al64 100 (sp_nt k (C 25 (d % 7)) (C 26 (d % 7)) o (C 13) j))) 100 ?_ (fun j hj ih => ?_) 0 (by omega)
  · show gj _ _ _ _ _ _ [some (.ref 0), some (.int (nI k)), some (.int (nI d)), some (.int (nI o)), some (.int (nI (C 25 (d % 7)))), some (.int (nI (C 26 (d % 7)))), some (.int (nI 100))] _ _
    refine gj_iload dX10_passNight_37 rfl ?_
    refine gj_bp 99 dX10_passNight_39 (by decide) ?_
    refine gj_icmp_gtN (tgt := 106) (by omega) (by omega) dX10_passNight_41 rfl (fun zq0 => ?_) (fun zq0 => ?_)
    rotate_left
    · exfalso; omega
    refine gj_aload_n dX10_passNight_106 rfl ?_
    refine gfX10_55 rfl dX10_passNight_107 ((mj_up_ne (by decide)).trans (hc0 κ C)) rfl ?_
    refine gj_ic (w := 0) dX10_passNight_110 ?_
    refine gj_aload_n dX10_passNight_111 rfl ?_
    refine gfX10_51 rfl dX10_passNight_112 ((mj_up_ne (by decide)).trans (hc0 κ C)) rfl ?_
    refine gj_ic (w := 0) dX10_passNight_115 ?_
    refine gj_bp 100 dX10_passNight_116 (by decide) ?_
    refine gj_copyLN0 w_925 w_549 w_548 w_88 dX10_passNight_118 (mj_up_eq _ _ _) ((mj_up_ne (by decide)).trans (hc13 κ C)) (by decide) rfl rfl ?_
    exact gj_vr rfl dX10_passNight_121 (hu13 (hu14 rfl))
  show gj _ _ _ _ _ _ [some (.ref 0), some (.int (nI k)), some (.int (nI d)), some (.int (nI o)), some (.int (nI (C 25 (d % 7)))), some (.int (nI (C 26 (d % 7)))), some (.int (nI j))] _ _
  refine gj_iload dX10_passNight_37 rfl ?_
  refine gj_bp 99 dX10_passNight_39 (by decide) ?_
  refine gj_icmp_gtN (tgt := 106) (by omega) (by omega) dX10_passNight_41 rfl (fun zq3 => ?_) (fun zq3 => ?_)
  · exfalso; omega
  refine gj_aload_n dX10_passNight_44 rfl ?_
  refine gfX10_55 rfl dX10_passNight_45 ((mj_up_ne (by decide)).trans (hc0 κ C)) rfl ?_
  refine gj_iload_n dX10_passNight_48 rfl ?_
  refine gj_iload dX10_passNight_49 rfl ?_
  refine gj_ic (w := 0) dX10_passNight_51 ?_
  refine gj_iload dX10_passNight_52 rfl ?_
  refine gj_S1 lkX10_345 (ev_X0_after (by omega) (by omega) (by omega) (by omega)) dX10_passNight_54 rfl rfl rfl rfl rfl ?_
  have hb4 := @sp_after_le k j 0 (C 26 (d % 7))
  refine gj_aload_n dX10_passNight_57 rfl ?_
  refine gfX10_51 rfl dX10_passNight_58 ((mj_up_ne (by decide)).trans (hc0 κ C)) rfl ?_
  refine gj_iload dX10_passNight_61 rfl ?_
  refine gj_laldN dX10_passNight_63 ((mj_up_ne (by decide)).trans (hc13 κ C)) (by omega) (by omega) ?_
  refine gj_iload_n dX10_passNight_64 rfl ?_
  refine gj_i2lN (by omega) dX10_passNight_65 ?_
  refine gj_lmulN  dX10_passNight_66 ?_
  refine gj_S0 lkX10_300 (ev_X10_addAt (mj_up_eq _ _ _) (by omega)) dX10_passNight_67 rfl rfl rfl rfl rfl ?_
  refine gj_aload_n dX10_passNight_70 rfl ?_
  refine gfX10_55 rfl dX10_passNight_71 ((mj_up_ne (by decide)).trans ((mj_up_ne (by decide)).trans (hc0 κ C))) rfl ?_
  refine gj_iload_n dX10_passNight_74 rfl ?_
  refine gj_iload dX10_passNight_75 rfl ?_
  refine gj_iload dX10_passNight_77 rfl ?_
  refine gj_iload dX10_passNight_79 rfl ?_
  refine gj_S1 lkX10_345 (ev_X0_after (by omega) (by omega) (by omega) (by omega)) dX10_passNight_81 rfl rfl rfl rfl rfl ?_
  have hb5 := @sp_after_le k j (C 25 (d % 7)) (C 26 (d % 7))
  refine gj_aload_n dX10_passNight_84 rfl ?_
  refine gfX10_51 rfl dX10_passNight_85 ((mj_up_ne (by decide)).trans ((mj_up_ne (by decide)).trans (hc0 κ C))) rfl ?_
  refine gj_iload dX10_passNight_88 rfl ?_
  refine gj_laldN dX10_passNight_90 ((mj_up_ne (by decide)).trans ((mj_up_ne (by decide)).trans (hc13 κ C))) (by omega) (by omega) ?_
  refine gj_bp 10 dX10_passNight_91 (by decide) ?_
  refine gj_iload_n dX10_passNight_93 rfl ?_
  refine gj_isubN (by omega) dX10_passNight_94 ?_
  refine gj_i2lN (by omega) dX10_passNight_95 ?_
  refine gj_lmulN  dX10_passNight_96 ?_
  refine gj_S0 lkX10_300 (ev_X10_addAt (mj_up_eq _ _ _) (by omega)) dX10_passNight_97 rfl rfl rfl rfl rfl ?_
  refine gj_iincN (L' := [some (.ref 0), some (.int (nI k)), some (.int (nI d)), some (.int (nI o)), some (.int (nI (C 25 (d % 7)))), some (.int (nI (C 26 (d % 7)))), some (.int (nI (j + 1)))]) dX10_passNight_100 rfl (Nat.le_of_ble_eq_true rfl) rfl ?_
  refine gj_goto (tgt := 37) dX10_passNight_103 rfl ?_
  exact gj_cast rfl rfl (by rw [mj_up_up, mj_up_up, sp_nt_s]) ih
set_option maxHeartbeats 1000000 in
set_option maxRecDepth 10000 in
theorem ev_X10_keepFraction {E : mj_E} {κ : Nat → Bool} {C : Nat → Nat → Nat} (I : mj_CI κ C) {u v : Nat} (h0 : u < 2 ^ 50) (h1 : 0 < v) (h2 : v < 2 ^ 50) : mj_Ev E iX10_keepFraction [.ref 0, .long (lN u), .long (lN v)] (hh κ C) (mj_R none (hh κ (mj_u C 0 (mj_row [u / Nat.gcd u v, v / Nat.gcd u v])))) := by
  have hl0 : C 20 0 ≤ 999 := I.1 0 (by decide) 0
  have hl7 : C 27 0 ≤ 7 := I.1 7 (by decide) 0
  have hl11 : C 31 0 ≤ 6 := I.1 11 (by decide) 0
  have hl13 : C 33 0 ≤ 6 := I.1 13 (by decide) 0
  have hl15 : C 35 0 ≤ 8 := I.1 15 (by decide) 0
  have hl7x : C 7 0 ≤ 150 := I.2.2.2.2.2.2.1
  have hgp : 0 < Nat.gcd u v := Nat.gcd_pos_of_pos_right u h1
  have hgl : Nat.gcd u v ≤ v := Nat.gcd_le_right u h1
  refine mj_Ev.of (L0 := [some (.ref 0), some (.long (lN u)), none, some (.long (lN v)), none, none, none, none, none, none, none, none]) pnRX10 (Nat.le_of_ble_eq_true rfl) rfl ?_
  refine gj_lload_n dX10_keepFraction_0 rfl ?_
  refine gj_lstore (L' := [some (.ref 0), some (.long (lN u)), none, some (.long (lN v)), none, some (.long (lN u)), none, none, none, none, none, none]) dX10_keepFraction_1 (Nat.le_of_ble_eq_true rfl) rfl ?_
  refine gj_lload_n dX10_keepFraction_3 rfl ?_
  refine gj_lstore (L' := [some (.ref 0), some (.long (lN u)), none, some (.long (lN v)), none, some (.long (lN u)), none, some (.long (lN v)), none, none, none, none]) dX10_keepFraction_4 (Nat.le_of_ble_eq_true rfl) rfl ?_
  refine gj_ic (w := 0) dX10_keepFraction_6 ?_
  refine gj_istore (L' := [some (.ref 0), some (.long (lN u)), none, some (.long (lN v)), none, some (.long (lN u)), none, some (.long (lN v)), none, some (.int (nI 0)), none, none]) dX10_keepFraction_7 (Nat.le_of_ble_eq_true rfl) rfl ?_
  refine gj_cast (L' := [some (.ref 0), some (.long (lN u)), none, some (.long (lN v)), none, some (.long (lN (sp_gc u v 0).1)), none, some (.long (lN (sp_gc u v 0).2)), none, some (.int (nI 0)), none, none]) (st' := []) (h' := (hh κ C)) rfl rfl rfl ?_
  refine gj_loop (fun j => [some (.ref 0), some (.long (lN u)), none, some (.long (lN v)), none, some (.long (lN (sp_gc u v j).1)), none, some (.long (lN (sp_gc u v j).2)), none, some (.int (nI j)), none, none]) (fun j => (hh κ C)) 100 ?_ (fun j hj ih => ?_) 0 (by omega)
  · show gj _ _ _ _ _ _ [some (.ref 0), some (.long (lN u)), none, some (.long (lN v)), none, some (.long (lN (sp_gc u v 100).1)), none, some (.long (lN (sp_gc u v 100).2)), none, some (.int (nI 100)), none, none] _ _
    refine gj_iload dX10_keepFraction_9 rfl ?_
    refine gj_bp 100 dX10_keepFraction_11 (by decide) ?_
    refine gj_icmp_geN (tgt := 44) (by omega) (by omega) dX10_keepFraction_13 rfl (fun zq0 => ?_) (fun zq0 => ?_)
    rotate_left
    · exfalso; omega
    have hg9 : (sp_gc u v 100).2 = Nat.gcd u v := sp_gc_e (sp_gc_100 h0)
    refine gj_lload dX10_keepFraction_44 rfl ?_
    refine gj_lconst (v := lN 0) dX10_keepFraction_46 rfl ?_
    refine gj_lcmp dX10_keepFraction_47 ?_
    refine gj_lif_leN (tgt := 67) (by omega) (by omega) dX10_keepFraction_48 rfl (fun zq1 => ?_) (fun zq1 => ?_)
    · exfalso; omega
    refine gj_aload_n dX10_keepFraction_51 rfl ?_
    refine gj_lload_n dX10_keepFraction_52 rfl ?_
    refine gj_lload dX10_keepFraction_53 rfl ?_
    refine gj_ldivN (by omega) (by omega) (by omega) dX10_keepFraction_55 ?_
    refine pfX10_58 rfl dX10_keepFraction_56 (hc0 κ C) (Nat.le_of_ble_eq_true rfl) ?_
    show gj _ _ _ _ _ _ _ _ (mj_up (hh κ C) 0 (.inr (8, [.ref 20, .ref 40, .ref 15, .ref 1, .ref 4, .ref 7, .ref 11, .ref 12, .ref 13, .ref 14, .long (lN (u / ((sp_gc u v 100).2))), .long (lN (C 0 1))])))
    refine gj_aload_n dX10_keepFraction_59 rfl ?_
    refine gj_lload_n dX10_keepFraction_60 rfl ?_
    refine gj_lload dX10_keepFraction_61 rfl ?_
    refine gj_ldivN (by omega) (by omega) (by omega) dX10_keepFraction_63 ?_
    refine pfX10_62 rfl dX10_keepFraction_64 (mj_up_eq _ _ _) (Nat.le_of_ble_eq_true rfl) ?_
    show gj _ _ _ _ _ _ _ _ (mj_up (mj_up (hh κ C) 0 (.inr (8, [.ref 20, .ref 40, .ref 15, .ref 1, .ref 4, .ref 7, .ref 11, .ref 12, .ref 13, .ref 14, .long (lN (u / ((sp_gc u v 100).2))), .long (lN (C 0 1))]))) 0 (.inr (8, [.ref 20, .ref 40, .ref 15, .ref 1, .ref 4, .ref 7, .ref 11, .ref 12, .ref 13, .ref 14, .long (lN (u / ((sp_gc u v 100).2))), .long (lN (v / ((sp_gc u v 100).2)))])))
    exact gj_vr rfl dX10_keepFraction_67 (by rw [mj_up_up, hg9]; exact hu0 rfl)
  show gj _ _ _ _ _ _ [some (.ref 0), some (.long (lN u)), none, some (.long (lN v)), none, some (.long (lN (sp_gc u v j).1)), none, some (.long (lN (sp_gc u v j).2)), none, some (.int (nI j)), none, none] _ _
  refine gj_iload dX10_keepFraction_9 rfl ?_
  refine gj_bp 100 dX10_keepFraction_11 (by decide) ?_
  refine gj_icmp_geN (tgt := 44) (by omega) (by omega) dX10_keepFraction_13 rfl (fun zq2 => ?_) (fun zq2 => ?_)
  · exfalso; omega
  have hlt := @sp_gc_lt u v j h0 h2
  refine gj_lload dX10_keepFraction_16 rfl ?_
  refine gj_lconst (v := lN 0) dX10_keepFraction_18 rfl ?_
  refine gj_lcmp dX10_keepFraction_19 ?_
  refine gj_lif_eqN (tgt := 44) (by omega) (by omega) dX10_keepFraction_20 rfl (fun zq3 => ?_) (fun zq3 => ?_)
  · -- 20 taken
    have hg9 : (sp_gc u v j).2 = Nat.gcd u v := sp_gc_e zq3
    refine gj_lload dX10_keepFraction_44 rfl ?_
    refine gj_lconst (v := lN 0) dX10_keepFraction_46 rfl ?_
    refine gj_lcmp dX10_keepFraction_47 ?_
    refine gj_lif_leN (tgt := 67) (by omega) (by omega) dX10_keepFraction_48 rfl (fun zq4 => ?_) (fun zq4 => ?_)
    · exfalso; omega
    refine gj_aload_n dX10_keepFraction_51 rfl ?_
    refine gj_lload_n dX10_keepFraction_52 rfl ?_
    refine gj_lload dX10_keepFraction_53 rfl ?_
    refine gj_ldivN (by omega) (by omega) (by omega) dX10_keepFraction_55 ?_
    refine pfX10_58 rfl dX10_keepFraction_56 (hc0 κ C) (Nat.le_of_ble_eq_true rfl) ?_
    show gj _ _ _ _ _ _ _ _ (mj_up (hh κ C) 0 (.inr (8, [.ref 20, .ref 40, .ref 15, .ref 1, .ref 4, .ref 7, .ref 11, .ref 12, .ref 13, .ref 14, .long (lN (u / ((sp_gc u v j).2))), .long (lN (C 0 1))])))
    refine gj_aload_n dX10_keepFraction_59 rfl ?_
    refine gj_lload_n dX10_keepFraction_60 rfl ?_
    refine gj_lload dX10_keepFraction_61 rfl ?_
    refine gj_ldivN (by omega) (by omega) (by omega) dX10_keepFraction_63 ?_
    refine pfX10_62 rfl dX10_keepFraction_64 (mj_up_eq _ _ _) (Nat.le_of_ble_eq_true rfl) ?_
    show gj _ _ _ _ _ _ _ _ (mj_up (mj_up (hh κ C) 0 (.inr (8, [.ref 20, .ref 40, .ref 15, .ref 1, .ref 4, .ref 7, .ref 11, .ref 12, .ref 13, .ref 14, .long (lN (u / ((sp_gc u v j).2))), .long (lN (C 0 1))]))) 0 (.inr (8, [.ref 20, .ref 40, .ref 15, .ref 1, .ref 4, .ref 7, .ref 11, .ref 12, .ref 13, .ref 14, .long (lN (u / ((sp_gc u v j).2))), .long (lN (v / ((sp_gc u v j).2)))])))
    exact gj_vr rfl dX10_keepFraction_67 (by rw [mj_up_up, hg9]; exact hu0 rfl)
  have hz9 := zq3
  refine gj_lload dX10_keepFraction_23 rfl ?_
  refine gj_lload dX10_keepFraction_25 rfl ?_
  refine gj_lremN (by omega) (by omega) (by omega) dX10_keepFraction_27 ?_
  refine gj_lstore (L' := [some (.ref 0), some (.long (lN u)), none, some (.long (lN v)), none, some (.long (lN (sp_gc u v j).1)), none, some (.long (lN (sp_gc u v j).2)), none, some (.int (nI j)), some (.long (lN (((sp_gc u v j).2) % ((sp_gc u v j).1)))), none]) dX10_keepFraction_28 (Nat.le_of_ble_eq_true rfl) rfl ?_
  refine gj_lload dX10_keepFraction_30 rfl ?_
  refine gj_lstore (L' := [some (.ref 0), some (.long (lN u)), none, some (.long (lN v)), none, some (.long (lN (sp_gc u v j).1)), none, some (.long (lN (sp_gc u v j).1)), none, some (.int (nI j)), some (.long (lN (((sp_gc u v j).2) % ((sp_gc u v j).1)))), none]) dX10_keepFraction_32 (Nat.le_of_ble_eq_true rfl) rfl ?_
  refine gj_lload dX10_keepFraction_34 rfl ?_
  refine gj_lstore (L' := [some (.ref 0), some (.long (lN u)), none, some (.long (lN v)), none, some (.long (lN (((sp_gc u v j).2) % ((sp_gc u v j).1)))), none, some (.long (lN (sp_gc u v j).1)), none, some (.int (nI j)), some (.long (lN (((sp_gc u v j).2) % ((sp_gc u v j).1)))), none]) dX10_keepFraction_36 (Nat.le_of_ble_eq_true rfl) rfl ?_
  refine gj_iincN (L' := [some (.ref 0), some (.long (lN u)), none, some (.long (lN v)), none, some (.long (lN (((sp_gc u v j).2) % ((sp_gc u v j).1)))), none, some (.long (lN (sp_gc u v j).1)), none, some (.int (nI (j + 1))), some (.long (lN (((sp_gc u v j).2) % ((sp_gc u v j).1)))), none]) dX10_keepFraction_38 rfl (Nat.le_of_ble_eq_true rfl) rfl ?_
  refine gj_goto (tgt := 9) dX10_keepFraction_41 rfl ?_
  refine gj_forget (i := 10) (L' := [some (.ref 0), some (.long (lN u)), none, some (.long (lN v)), none, some (.long (lN (((sp_gc u v j).2) % ((sp_gc u v j).1)))), none, some (.long (lN (sp_gc u v j).1)), none, some (.int (nI (j + 1))), none, none]) rfl ?_
  exact gj_cast (by rw [sp_gc_s, if_neg hz9]) rfl rfl ih
set_option maxHeartbeats 1000000 in
set_option maxRecDepth 10000 in
theorem ev_X10_thaw {E : mj_E} {κ : Nat → Bool} {C : Nat → Nat → Nat} (I : mj_CI κ C) {c w m o : Nat} (h0 : c < 25) (h1 : 1 ≤ w) (h2 : w ≤ 198) (h3 : m ≤ 8) (h4 : o ≤ 10) : mj_Ev E iX10_thaw [.ref 0, .int (nI c), .int (nI w), .int (nI m), .int (nI o)] (hh κ C) (mj_R (some (.int (nI 1))) (hh κ (mj_u (mj_u (mj_u C 14 (sp_chx (C 14) (C 22 c) (C 25) (C 26) (C 20 0) o (C 23 c) m)) 13 (sp_ch (C 22 c) (C 25) (C 26) (C 20 0) o (C 23 c) m)) 0 (mj_row [(sp_sum (sp_chb (C 22 c) w (sp_ch (C 22 c) (C 25) (C 26) (C 20 0) o (C 23 c) m)) 100) / Nat.gcd (sp_sum (sp_chb (C 22 c) w (sp_ch (C 22 c) (C 25) (C 26) (C 20 0) o (C 23 c) m)) 100) (10 ^ m), 10 ^ m / Nat.gcd (sp_sum (sp_chb (C 22 c) w (sp_ch (C 22 c) (C 25) (C 26) (C 20 0) o (C 23 c) m)) 100) (10 ^ m)])))) := by
  have hl0 : C 20 0 ≤ 999 := I.1 0 (by decide) 0
  have hl7 : C 27 0 ≤ 7 := I.1 7 (by decide) 0
  have hl11 : C 31 0 ≤ 6 := I.1 11 (by decide) 0
  have hl13 : C 33 0 ≤ 6 := I.1 13 (by decide) 0
  have hl15 : C 35 0 ≤ 8 := I.1 15 (by decide) 0
  have hl7x : C 7 0 ≤ 150 := I.2.2.2.2.2.2.1
  have hp1 : 0 < 10 ^ m := Nat.pow_pos (by decide)
  have hp2 : 10 ^ m < 2 ^ 50 := Nat.lt_of_le_of_lt (Nat.pow_le_pow_right (by decide) h3) (by decide)
  have hc9 : C 23 c ≤ 99 := (show ∀ c, C 23 c ≤ 99 from I.1 3 (by decide)) c
  have hk9 : C 22 c ≤ 5 := (show ∀ c, C 22 c ≤ 5 from I.1 2 (by decide)) c
  have hbb : (sp_sum (sp_chb (C 22 c) w (sp_ch (C 22 c) (C 25) (C 26) (C 20 0) o (C 23 c) m)) 100) < 2 ^ 50 := Nat.lt_of_le_of_lt (sp_sum_mono sp_chb_le) (by rw [sp_ch_all (by omega) h4]; exact hp2)
  refine mj_Ev.of (L0 := [some (.ref 0), some (.int (nI c)), some (.int (nI w)), some (.int (nI m)), some (.int (nI o)), none, none, none, none, none, none]) pnRX10 (Nat.le_of_ble_eq_true rfl) rfl ?_
  refine gj_iload_n dX10_thaw_0 rfl ?_
  refine gj_S1 lkX10_87 (ev_X10_isCell_t (by omega) (by omega)) dX10_thaw_1 rfl rfl rfl rfl rfl ?_
  refine gj_if_eqN (tgt := 35) (by omega) dX10_thaw_4 rfl (fun zq0 => ?_) (fun zq0 => ?_)
  · exfalso; revert zq0; decide
  refine gj_iload_n dX10_thaw_7 rfl ?_
  refine gj_S1 lkX10_211 (ev_X10_isBorne_t (by omega) (by omega)) dX10_thaw_8 rfl rfl rfl rfl rfl ?_
  refine gj_if_eqN (tgt := 35) (by omega) dX10_thaw_11 rfl (fun zq0 => ?_) (fun zq0 => ?_)
  · exfalso; revert zq0; decide
  refine gj_iload_n dX10_thaw_14 rfl ?_
  refine gj_ic (w := 0) dX10_thaw_15 ?_
  refine gj_bp 8 dX10_thaw_16 (by decide) ?_
  refine gj_S1 lkX10_65 (ev_X10_within_t (by omega) (by omega) (by omega)) dX10_thaw_18 rfl rfl rfl rfl rfl ?_
  refine gj_if_eqN (tgt := 35) (by omega) dX10_thaw_21 rfl (fun zq0 => ?_) (fun zq0 => ?_)
  · exfalso; revert zq0; decide
  refine gj_iload dX10_thaw_24 rfl ?_
  refine gj_ic (w := 0) dX10_thaw_26 ?_
  refine gj_bp 10 dX10_thaw_27 (by decide) ?_
  refine gj_S1 lkX10_65 (ev_X10_within_t (by omega) (by omega) (by omega)) dX10_thaw_29 rfl rfl rfl rfl rfl ?_
  refine gj_if_neN (tgt := 40) (by omega) dX10_thaw_32 rfl (fun zq0 => ?_) (fun zq0 => ?_)
  rotate_left
  · exfalso; revert zq0; decide
  refine gj_aload_n dX10_thaw_40 rfl ?_
  refine gfX10_10 rfl dX10_thaw_41 (hc0 κ C) rfl ?_
  refine gfX10_91 rfl dX10_thaw_44 (hc20 κ C) rfl ?_
  refine gj_iload_n dX10_thaw_47 rfl ?_
  refine gj_V1 lkX10_94 (hc21 κ C) rfl rfl (ev_X4_kindOf ⟨(hc21 κ C), (hc22 κ C), (hc23 κ C), (by decide), (show ∀ c, C 22 c ≤ 5 from I.1 2 (by decide)), (show ∀ c, C 23 c ≤ 99 from I.1 3 (by decide))⟩ (by omega)) dX10_thaw_48 rfl rfl rfl rfl rfl ?_
  have hb1 := (show ∀ c, C 22 c ≤ 5 from I.1 2 (by decide)) c
  refine gj_istore (L' := [some (.ref 0), some (.int (nI c)), some (.int (nI w)), some (.int (nI m)), some (.int (nI o)), some (.int (nI (C 22 c))), none, none, none, none, none]) dX10_thaw_51 (Nat.le_of_ble_eq_true rfl) rfl ?_
  refine gj_aload_n dX10_thaw_53 rfl ?_
  refine gfX10_51 rfl dX10_thaw_54 (hc0 κ C) rfl ?_
  refine gj_lconst (v := lN 0) dX10_thaw_57 rfl ?_
  refine gj_S0 lkX10_294 (ev_J7_fill_d0a16 (hc13 κ C) (by decide)) dX10_thaw_58 rfl rfl rfl rfl rfl ?_
  refine gj_aload_n dX10_thaw_61 rfl ?_
  refine gfX10_51 rfl dX10_thaw_62 ((mj_up_ne (by decide)).trans (hc0 κ C)) rfl ?_
  refine gj_aload_n dX10_thaw_65 rfl ?_
  refine gfX10_10 rfl dX10_thaw_66 ((mj_up_ne (by decide)).trans (hc0 κ C)) rfl ?_
  refine gfX10_91 rfl dX10_thaw_69 ((mj_up_ne (by decide)).trans (hc20 κ C)) rfl ?_
  refine gj_iload_n dX10_thaw_72 rfl ?_
  refine gj_V1 lkX10_164 ((mj_up_ne (by decide)).trans (hc21 κ C)) rfl rfl (ev_X4_iceOf ⟨((mj_up_ne (by decide)).trans (hc21 κ C)), ((mj_up_ne (by decide)).trans (hc22 κ C)), ((mj_up_ne (by decide)).trans (hc23 κ C)), (by decide), (show ∀ c, C 22 c ≤ 5 from I.1 2 (by decide)), (show ∀ c, C 23 c ≤ 99 from I.1 3 (by decide))⟩ (by omega)) dX10_thaw_73 rfl rfl rfl rfl rfl ?_
  have hb2 := (show ∀ c, C 23 c ≤ 99 from I.1 3 (by decide)) c
  refine gj_lconst (v := lN 1) dX10_thaw_76 rfl ?_
  refine gj_S0 lkX10_300 (ev_X10_addAt (mj_up_eq _ _ _) (by omega)) dX10_thaw_77 rfl rfl rfl rfl rfl ?_
  refine gj_lconst (v := lN 1) dX10_thaw_80 rfl ?_
  refine gj_lstore (L' := [some (.ref 0), some (.int (nI c)), some (.int (nI w)), some (.int (nI m)), some (.int (nI o)), some (.int (nI (C 22 c))), some (.long (lN 1)), none, none, none, none]) dX10_thaw_81 (Nat.le_of_ble_eq_true rfl) rfl ?_
  refine gj_ic (w := 0) dX10_thaw_83 ?_
  refine gj_istore (L' := [some (.ref 0), some (.int (nI c)), some (.int (nI w)), some (.int (nI m)), some (.int (nI o)), some (.int (nI (C 22 c))), some (.long (lN 1)), none, some (.int (nI 0)), none, none]) dX10_thaw_84 (Nat.le_of_ble_eq_true rfl) rfl ?_
  refine gj_cast (L' := [some (.ref 0), some (.int (nI c)), some (.int (nI w)), some (.int (nI m)), some (.int (nI o)), some (.int (nI (C 22 c))), some (.long (lN (10 ^ 0))), none, some (.int (nI 0)), none, none]) (st' := []) (h' := hh κ (mj_u (mj_u C 14 (sp_chx (C 14) (C 22 c) (C 25) (C 26) (C 20 0) o (C 23 c) 0)) 13 (sp_ch (C 22 c) (C 25) (C 26) (C 20 0) o (C 23 c) 0))) rfl rfl (by rw [mj_up_up]; exact (hu13 rfl).trans (congrArg (hh κ) (by rw [show sp_chx (C 14) (C 22 c) (C 25) (C 26) (C 20 0) o (C 23 c) 0 = C 14 from rfl, mj_u_self]; rfl))) ?_
  refine gj_loop (fun j => [some (.ref 0), some (.int (nI c)), some (.int (nI w)), some (.int (nI m)), some (.int (nI o)), some (.int (nI (C 22 c))), some (.long (lN (10 ^ j))), none, some (.int (nI j)), none, none]) (fun j => hh κ (mj_u (mj_u C 14 (sp_chx (C 14) (C 22 c) (C 25) (C 26) (C 20 0) o (C 23 c) j)) 13 (sp_ch (C 22 c) (C 25) (C 26) (C 20 0) o (C 23 c) j))) m ?_ (fun j hj ih => ?_) 0 (by omega)
  · show gj _ _ _ _ _ _ [some (.ref 0), some (.int (nI c)), some (.int (nI w)), some (.int (nI m)), some (.int (nI o)), some (.int (nI (C 22 c))), some (.long (lN (10 ^ m))), none, some (.int (nI m)), none, none] _ _
    refine gj_iload dX10_thaw_86 rfl ?_
    refine gj_iload_n dX10_thaw_88 rfl ?_
    refine gj_icmp_geN (tgt := 124) (by omega) (by omega) dX10_thaw_89 rfl (fun zq3 => ?_) (fun zq3 => ?_)
    rotate_left
    · exfalso; omega
    refine gj_lconst (v := lN 0) dX10_thaw_124 rfl ?_
    refine gj_lstore (L' := [some (.ref 0), some (.int (nI c)), some (.int (nI w)), some (.int (nI m)), some (.int (nI o)), some (.int (nI (C 22 c))), some (.long (lN (10 ^ m))), none, some (.long (lN 0)), none, none]) dX10_thaw_125 (Nat.le_of_ble_eq_true rfl) rfl ?_
    refine gj_ic (w := 0) dX10_thaw_127 ?_
    refine gj_istore (L' := [some (.ref 0), some (.int (nI c)), some (.int (nI w)), some (.int (nI m)), some (.int (nI o)), some (.int (nI (C 22 c))), some (.long (lN (10 ^ m))), none, some (.long (lN 0)), none, some (.int (nI 0))]) dX10_thaw_128 (Nat.le_of_ble_eq_true rfl) rfl ?_
    refine gj_cast (L' := [some (.ref 0), some (.int (nI c)), some (.int (nI w)), some (.int (nI m)), some (.int (nI o)), some (.int (nI (C 22 c))), some (.long (lN (10 ^ m))), none, some (.long (lN (sp_sum (sp_chb (C 22 c) w (sp_ch (C 22 c) (C 25) (C 26) (C 20 0) o (C 23 c) m)) 0))), none, some (.int (nI 0))]) (st' := []) (h' := hh κ (mj_u (mj_u C 14 (sp_chx (C 14) (C 22 c) (C 25) (C 26) (C 20 0) o (C 23 c) m)) 13 (sp_ch (C 22 c) (C 25) (C 26) (C 20 0) o (C 23 c) m))) rfl rfl rfl ?_
    refine gj_loop (fun x => [some (.ref 0), some (.int (nI c)), some (.int (nI w)), some (.int (nI m)), some (.int (nI o)), some (.int (nI (C 22 c))), some (.long (lN (10 ^ m))), none, some (.long (lN (sp_sum (sp_chb (C 22 c) w (sp_ch (C 22 c) (C 25) (C 26) (C 20 0) o (C 23 c) m)) x))), none, some (.int (nI x))]) (fun x => hh κ (mj_u (mj_u C 14 (sp_chx (C 14) (C 22 c) (C 25) (C 26) (C 20 0) o (C 23 c) m)) 13 (sp_ch (C 22 c) (C 25) (C 26) (C 20 0) o (C 23 c) m))) 100 ?_ (fun x hx ihx => ?_) 0 (by omega)
    · show gj _ _ _ _ _ _ [some (.ref 0), some (.int (nI c)), some (.int (nI w)), some (.int (nI m)), some (.int (nI o)), some (.int (nI (C 22 c))), some (.long (lN (10 ^ m))), none, some (.long (lN (sp_sum (sp_chb (C 22 c) w (sp_ch (C 22 c) (C 25) (C 26) (C 20 0) o (C 23 c) m)) 100))), none, some (.int (nI 100))] _ _
      refine gj_iload dX10_thaw_130 rfl ?_
      refine gj_bp 99 dX10_thaw_132 (by decide) ?_
      refine gj_icmp_gtN (tgt := 170) (by omega) (by omega) dX10_thaw_134 rfl (fun zq0 => ?_) (fun zq0 => ?_)
      rotate_left
      · exfalso; omega
      refine gj_aload_n dX10_thaw_170 rfl ?_
      refine gj_lload dX10_thaw_171 rfl ?_
      refine gj_lload dX10_thaw_173 rfl ?_
      refine gj_V0 lkX10_309 (hc0 κ (mj_u (mj_u C 14 (sp_chx (C 14) (C 22 c) (C 25) (C 26) (C 20 0) o (C 23 c) m)) 13 (sp_ch (C 22 c) (C 25) (C 26) (C 20 0) o (C 23 c) m))) rfl rfl (ev_X10_keepFraction (mj_CI_u (mj_CI_u I (by decide) (by decide) (by decide) (by decide) (by decide)) (by decide) (by decide) (by decide) (by decide) (by decide)) hbb hp1 hp2) dX10_thaw_175 rfl rfl rfl rfl rfl ?_
      refine gj_ic (w := 1) dX10_thaw_178 ?_
      exact gj_ir rfl dX10_thaw_179 rfl rfl rfl
    show gj _ _ _ _ _ _ [some (.ref 0), some (.int (nI c)), some (.int (nI w)), some (.int (nI m)), some (.int (nI o)), some (.int (nI (C 22 c))), some (.long (lN (10 ^ m))), none, some (.long (lN (sp_sum (sp_chb (C 22 c) w (sp_ch (C 22 c) (C 25) (C 26) (C 20 0) o (C 23 c) m)) x))), none, some (.int (nI x))] _ _
    refine gj_iload dX10_thaw_130 rfl ?_
    refine gj_bp 99 dX10_thaw_132 (by decide) ?_
    refine gj_icmp_gtN (tgt := 170) (by omega) (by omega) dX10_thaw_134 rfl (fun zq4 => ?_) (fun zq4 => ?_)
    · exfalso; omega
    refine gj_lload dX10_thaw_137 rfl ?_
    refine gj_iload dX10_thaw_139 rfl ?_
    refine gj_iload dX10_thaw_141 rfl ?_
    refine gj_S1 lkX10_207 (ev_X0_bears (by omega) (by omega)) dX10_thaw_143 rfl rfl rfl rfl rfl ?_
    show gj _ _ _ _ _ _ _ ((.int (nI (sp_bear (C 22 c) x)) : Value) :: _) _
    have hb5 := @sp_bear_le (C 22 c) x
    refine gj_iload_n dX10_thaw_146 rfl ?_
    refine gj_icmp_ltN (tgt := 160) (by omega) (by omega) dX10_thaw_147 rfl (fun zq6 => ?_) (fun zq6 => ?_)
    · -- 147 taken
      have hw9 := zq6
      refine gj_lconst (v := lN 0) dX10_thaw_160 rfl ?_
      refine gj_laddN  dX10_thaw_161 ?_
      refine gj_lstore (L' := [some (.ref 0), some (.int (nI c)), some (.int (nI w)), some (.int (nI m)), some (.int (nI o)), some (.int (nI (C 22 c))), some (.long (lN (10 ^ m))), none, some (.long (lN ((sp_sum (sp_chb (C 22 c) w (sp_ch (C 22 c) (C 25) (C 26) (C 20 0) o (C 23 c) m)) x) + 0))), none, some (.int (nI x))]) dX10_thaw_162 (Nat.le_of_ble_eq_true rfl) rfl ?_
      refine gj_iincN (L' := [some (.ref 0), some (.int (nI c)), some (.int (nI w)), some (.int (nI m)), some (.int (nI o)), some (.int (nI (C 22 c))), some (.long (lN (10 ^ m))), none, some (.long (lN ((sp_sum (sp_chb (C 22 c) w (sp_ch (C 22 c) (C 25) (C 26) (C 20 0) o (C 23 c) m)) x) + 0))), none, some (.int (nI (x + 1)))]) dX10_thaw_164 rfl (Nat.le_of_ble_eq_true rfl) rfl ?_
      refine gj_goto (tgt := 130) dX10_thaw_167 rfl ?_
      exact gj_cast (by first | rw [sp_sum_v (sp_chb_t hw9)] | rw [sp_sum_v (sp_chb_f hw9)]) rfl rfl ihx
    have hw9 := zq6
    refine gj_aload_n dX10_thaw_150 rfl ?_
    refine gfX10_51 rfl dX10_thaw_151 (hc0 κ (mj_u (mj_u C 14 (sp_chx (C 14) (C 22 c) (C 25) (C 26) (C 20 0) o (C 23 c) m)) 13 (sp_ch (C 22 c) (C 25) (C 26) (C 20 0) o (C 23 c) m))) rfl ?_
    refine gj_iload dX10_thaw_154 rfl ?_
    refine gj_laldN dX10_thaw_156 (hc13 κ (mj_u (mj_u C 14 (sp_chx (C 14) (C 22 c) (C 25) (C 26) (C 20 0) o (C 23 c) m)) 13 (sp_ch (C 22 c) (C 25) (C 26) (C 20 0) o (C 23 c) m))) (by omega) (by omega) ?_
    show gj _ _ _ _ _ _ _ ((.long (lN ((sp_ch (C 22 c) (C 25) (C 26) (C 20 0) o (C 23 c) m) x)) : Value) :: _) _
    refine gj_goto (tgt := 161) dX10_thaw_157 rfl ?_
    refine gj_laddN  dX10_thaw_161 ?_
    refine gj_lstore (L' := [some (.ref 0), some (.int (nI c)), some (.int (nI w)), some (.int (nI m)), some (.int (nI o)), some (.int (nI (C 22 c))), some (.long (lN (10 ^ m))), none, some (.long (lN ((sp_sum (sp_chb (C 22 c) w (sp_ch (C 22 c) (C 25) (C 26) (C 20 0) o (C 23 c) m)) x) + ((sp_ch (C 22 c) (C 25) (C 26) (C 20 0) o (C 23 c) m) x)))), none, some (.int (nI x))]) dX10_thaw_162 (Nat.le_of_ble_eq_true rfl) rfl ?_
    refine gj_iincN (L' := [some (.ref 0), some (.int (nI c)), some (.int (nI w)), some (.int (nI m)), some (.int (nI o)), some (.int (nI (C 22 c))), some (.long (lN (10 ^ m))), none, some (.long (lN ((sp_sum (sp_chb (C 22 c) w (sp_ch (C 22 c) (C 25) (C 26) (C 20 0) o (C 23 c) m)) x) + ((sp_ch (C 22 c) (C 25) (C 26) (C 20 0) o (C 23 c) m) x)))), none, some (.int (nI (x + 1)))]) dX10_thaw_164 rfl (Nat.le_of_ble_eq_true rfl) rfl ?_
    refine gj_goto (tgt := 130) dX10_thaw_167 rfl ?_
    exact gj_cast (by first | rw [sp_sum_v (sp_chb_t hw9)] | rw [sp_sum_v (sp_chb_f hw9)]) rfl rfl ihx
  show gj _ _ _ _ _ _ [some (.ref 0), some (.int (nI c)), some (.int (nI w)), some (.int (nI m)), some (.int (nI o)), some (.int (nI (C 22 c))), some (.long (lN (10 ^ j))), none, some (.int (nI j)), none, none] _ _
  refine gj_iload dX10_thaw_86 rfl ?_
  refine gj_iload_n dX10_thaw_88 rfl ?_
  refine gj_icmp_geN (tgt := 124) (by omega) (by omega) dX10_thaw_89 rfl (fun zq7 => ?_) (fun zq7 => ?_)
  · exfalso; omega
  refine gj_aload_n dX10_thaw_92 rfl ?_
  refine gj_iload dX10_thaw_93 rfl ?_
  refine gj_aload_n dX10_thaw_95 rfl ?_
  refine gfX10_10 rfl dX10_thaw_96 (hc0 κ (mj_u (mj_u C 14 (sp_chx (C 14) (C 22 c) (C 25) (C 26) (C 20 0) o (C 23 c) j)) 13 (sp_ch (C 22 c) (C 25) (C 26) (C 20 0) o (C 23 c) j))) rfl ?_
  refine gfX10_184 rfl dX10_thaw_99 (hc20 κ (mj_u (mj_u C 14 (sp_chx (C 14) (C 22 c) (C 25) (C 26) (C 20 0) o (C 23 c) j)) 13 (sp_ch (C 22 c) (C 25) (C 26) (C 20 0) o (C 23 c) j))) rfl ?_
  show gj _ _ _ _ _ _ _ ((.int (nI (C 20 0)) : Value) :: _) _
  refine gj_iload dX10_thaw_102 rfl ?_
  refine gj_iaddN  dX10_thaw_104 ?_
  refine gj_iload dX10_thaw_105 rfl ?_
  refine gj_V0 lkX10_304 (hc0 κ (mj_u (mj_u C 14 (sp_chx (C 14) (C 22 c) (C 25) (C 26) (C 20 0) o (C 23 c) j)) 13 (sp_ch (C 22 c) (C 25) (C 26) (C 20 0) o (C 23 c) j))) rfl rfl (ev_X10_passNight (mj_CI_u (mj_CI_u I (by decide) (by decide) (by decide) (by decide) (by decide)) (by decide) (by decide) (by decide) (by decide) (by decide)) (by omega) (by omega) (by omega)) dX10_thaw_107 rfl rfl rfl rfl rfl ?_
  refine gj_lload dX10_thaw_110 rfl ?_
  refine gj_ldc2 (v := lN 10) w_926 dX10_thaw_112 ?_
  refine gj_lmulN  dX10_thaw_115 ?_
  refine gj_lstore (L' := [some (.ref 0), some (.int (nI c)), some (.int (nI w)), some (.int (nI m)), some (.int (nI o)), some (.int (nI (C 22 c))), some (.long (lN ((10 ^ j) * 10))), none, some (.int (nI j)), none, none]) dX10_thaw_116 (Nat.le_of_ble_eq_true rfl) rfl ?_
  refine gj_iincN (L' := [some (.ref 0), some (.int (nI c)), some (.int (nI w)), some (.int (nI m)), some (.int (nI o)), some (.int (nI (C 22 c))), some (.long (lN ((10 ^ j) * 10))), none, some (.int (nI (j + 1))), none, none]) dX10_thaw_118 rfl (Nat.le_of_ble_eq_true rfl) rfl ?_
  refine gj_goto (tgt := 86) dX10_thaw_121 rfl ?_
  exact gj_cast (by rw [Nat.pow_succ]) rfl (congrArg (hh κ) (by rw [mj_u4, sp_ch_s]; show _ = mj_u (mj_u C 14 (sp_ch (C 22 c) (C 25) (C 26) (C 20 0) o (C 23 c) (j + 1))) 13 _; rw [sp_ch_s]; simp only [mj_u_eq, mj_u_ne (show (25 : Nat) ≠ 13 by decide), mj_u_ne (show (25 : Nat) ≠ 14 by decide), mj_u_ne (show (26 : Nat) ≠ 13 by decide), mj_u_ne (show (26 : Nat) ≠ 14 by decide)])) ih
