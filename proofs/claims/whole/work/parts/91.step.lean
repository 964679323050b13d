/-! thaw: masks of nights -/
theorem sp_sum_add {f : Nat → Nat} {a : Nat} : ∀ b, sp_sum f (a + b) = sp_sum f a + sp_sum (fun y => f (a + y)) b := by
  intro b
  induction b with
  | zero => rfl
  | succ b ih => rw [← Nat.add_assoc, sp_sum_s, sp_sum_s, ih, Nat.add_assoc]
theorem sp_sum_two {f g : Nat → Nat} : ∀ {n : Nat}, sp_sum f n + sp_sum g n = sp_sum (fun x => f x + g x) n := by
  intro n
  induction n with
  | zero => rfl
  | succ n ih => rw [sp_sum_s, sp_sum_s, sp_sum_s, ← ih]; omega
theorem sp_tcs_c {o x y : Nat} : ∀ {n : Nat}, (∀ t, t < n → Nat.testBit x t = Nat.testBit y t) → sp_tcs o x n = sp_tcs o y n := fun h => mj_fo_c fun t ht z => by rw [h t ht]
theorem sp_tic_c {k day i x y n : Nat} {F U F' U' : Nat → Nat} (hF : ∀ q, q < 7 → F q = F' q) (hU : ∀ q, q < 7 → U q = U' q) (h : ∀ t, t < n → Nat.testBit x t = Nat.testBit y t) : sp_tic k F U day i x n = sp_tic k F' U' day i y n := mj_fo_c fun t ht z => by rw [h t ht, hF _ (Nat.mod_lt _ (by decide)), hU _ (Nat.mod_lt _ (by decide))]
theorem thaw_M {k day o i : Nat} {F U : Nat → Nat} (hi : i < 100) : ∀ (n : Nat) (g : Nat → Nat), sp_sum (fun x => sp_ch k F U day o i n x * g x) 100 = sp_sum (fun x => sp_tcs o x n * g (sp_tic k F U day i x n)) (2 ^ n) := by
  intro n
  induction n with
  | zero =>
    intro g
    rw [sp_ch_0 hi]
    have e1 : sp_tcs o 0 0 = 1 := by unfold sp_tcs mj_fo; rfl
    have e2 : sp_tic k F U day i 0 0 = i := by unfold sp_tic mj_fo; rfl
    show _ = sp_sum _ (0 + 1)
    rw [sp_sum_s, e1, e2]
    show _ = 0 + 1 * g i
    omega
  | succ n ih =>
    intro g
    rw [sp_ch_E, ih (fun x => o * g (sp_after k x 0 (U ((day + n) % 7))) + (10 - o) * g (sp_after k x (F ((day + n) % 7)) (U ((day + n) % 7)))), Nat.pow_succ, Nat.mul_two, sp_sum_add, sp_sum_two]
    refine sp_sum_congr fun x hx => ?_
    have b0 : Nat.testBit x n = false := Nat.testBit_lt_two_pow hx
    have b1 : Nat.testBit (2 ^ n + x) n = true := by rw [Nat.testBit_two_pow_add_eq, b0]; rfl
    have bt : ∀ t, t < n → Nat.testBit (2 ^ n + x) t = Nat.testBit x t := fun t ht => Nat.testBit_two_pow_add_gt ht x
    rw [sp_tcs_f b0, sp_tic_f b0, sp_tcs_t b1, sp_tic_t b1, sp_tcs_c bt, sp_tic_c (fun _ _ => rfl) (fun _ _ => rfl) bt, Nat.mul_add, Nat.mul_assoc, Nat.mul_assoc]
    omega
theorem thaw_E {k day o i w m : Nat} {F U F' U' : Nat → Nat} (hi : i < 100) (hF : ∀ q, q < 7 → F q = F' q) (hU : ∀ q, q < 7 → U q = U' q) : sp_sum (sp_chb k w (sp_ch k F U day o i m)) 100 = sp_sum (sp_tw1 k F' U' day i o w m) (1 <<< m) := by
  have h := thaw_M (k := k) (F := F) (U := U) (day := day) (o := o) hi m (fun x => if w ≤ sp_bear k x then 1 else 0)
  rw [Nat.one_shiftLeft]
  have e1 : sp_sum (sp_chb k w (sp_ch k F U day o i m)) 100 = sp_sum (fun x => sp_ch k F U day o i m x * (if w ≤ sp_bear k x then 1 else 0)) 100 := sp_sum_congr fun x _ => by
    unfold sp_chb
    by_cases g : w ≤ sp_bear k x
    · rw [if_pos g, if_pos g, Nat.mul_one]
    · rw [if_neg g, if_neg g, Nat.mul_zero]
  rw [e1, h]
  refine sp_sum_congr fun x _ => ?_
  unfold sp_tw1
  rw [sp_tic_c hF hU (fun _ _ => rfl)]
  by_cases g : w ≤ sp_bear k (sp_tic k F' U' day i x m)
  · rw [if_pos g, if_pos g, Nat.mul_one]
  · rw [if_neg g, if_neg g, Nat.mul_zero]
section FR
variable {κ : Nat → Bool} {C D : Nat → Nat → Nat}
theorem mj_Rel.fr (R : mj_Rel κ C) (e : ∀ i, i ≠ 0 → i ≠ 100 → i ≠ 13 → i ≠ 14 → D i = C i) (t2 : D 100 2 = C 100 2) (f0 : D 0 0 = D 100 0) (f1 : D 0 1 = D 100 1) : mj_Rel κ D := by
  have e2 : ∀ i, 15 < i → i < 100 → D i = C i := fun i q1 q2 => e i (by omega) (by omega) (by omega) (by omega)
  have e' : ∀ i, i ≠ 0 → i ≠ 100 → i ≠ 13 → i ≠ 14 → D i = C i := e
  refine ⟨mj_CI_of R.1 (fun i q1 q2 => e2 i (by omega) q2) (by rw [e 2 (by decide) (by decide) (by decide) (by decide)]; exact R.1.2.2.2.2.1) (by rw [e 3 (by decide) (by decide) (by decide) (by decide)]; exact R.1.2.2.2.2.2.1) (by rw [e 7 (by decide) (by decide) (by decide) (by decide)]; exact R.1.2.2.2.2.2.2.1) (by rw [e 8 (by decide) (by decide) (by decide) (by decide)]; exact R.1.2.2.2.2.2.2.2.1), ?_, ?_, fun i hi => ?_, ?_, ?_, ?_, f0, f1⟩
  · rw [e 101 (by decide) (by decide) (by decide) (by decide)]; exact R.2.1
  · rw [e 101 (by decide) (by decide) (by decide) (by decide)]; exact mj_RL_C R.2.2.1 fun o ho => e2 _ (by omega) (by omega)
  · rw [e 103 (by decide) (by decide) (by decide) (by decide), e 102 (by decide) (by decide) (by decide) (by decide)]
    refine ⟨fun hk => ?_, (rl_im R hi).2⟩
    obtain ⟨q1, q2, q3⟩ := (rl_im R hi).1 hk
    exact ⟨q1, mj_RL_C q2 fun o ho => e2 _ (by omega) (by omega), q3⟩
  · rw [e 7 (by decide) (by decide) (by decide) (by decide), t2]; exact rl_tx R
  · rw [e 8 (by decide) (by decide) (by decide) (by decide), e 107 (by decide) (by decide) (by decide) (by decide)]; exact rl_B R
  · rw [e 11 (by decide) (by decide) (by decide) (by decide), e 104 (by decide) (by decide) (by decide) (by decide)]; exact rl_st R
theorem rv_thaw (R : mj_Rel κ C) {c o w m : Nat} (hc : c < 25) : sp_sum (sp_chb (C 22 c) w (sp_ch (C 22 c) (C 25) (C 26) (C 20 0) o (C 23 c) m)) 100 = sp_sum (sp_tw1 (C 101 (30 + c)) (fun q => C 101 (55 + q)) (fun q => C 101 (62 + q)) (C 101 29) (C 101 (4 + c)) o w m) (1 <<< m) := by
  rw [rl_K R c hc, rl_I R c hc, rl_d R]
  exact thaw_E (by have := rv_99 R c hc; omega) (rl_F R) (rl_U R)
end FR
/-! read: the past of what is read is empty -/
theorem cka_3 {k A : Nat → Nat} {v : Nat} : ∀ m, sp_cka k v A m 3 = A 3 := by
  intro m
  induction m with
  | zero => rfl
  | succ m ih => unfold sp_cka at ih ⊢; rw [mj_fo_s, mj_un_ne (by omega)]; exact ih
theorem wka_3 {k l A : Nat → Nat} : ∀ m, sp_wka k l A m 3 = A 3 := by
  intro m
  induction m with
  | zero => rfl
  | succ m ih => unfold sp_wka at ih ⊢; rw [mj_fo_s, mj_un_ne (by omega), mj_un_ne (by omega)]; exact ih
theorem piA_3 {B A : Nat → Nat} {n t : Nat} : pi_A B n t A 3 = A 3 := by
  unfold pi_A
  split
  · exact cka_3 _
  · split
    · exact wka_3 _
    · split
      · rw [mj_un_ne (by omega), mj_un_ne (by omega), mj_un_ne (by omega), mj_un_ne (by omega)]
      · rfl
theorem run_3 {B : Nat → Nat} {n : Nat} : ∀ (F t : Nat) (A : Nat → Nat) (i : Nat), (sp_run B n F t A i).2.2 3 = A 3 := by
  intro F
  induction F with
  | zero => exact fun _ _ _ => rfl
  | succ F ih =>
    intro t A i
    show (if _ then _ else if _ then _ else _ : Bool × Nat × (Nat → Nat)).2.2 3 = _
    split
    · rfl
    · split
      · rw [ih]; exact piA_3
      · rfl
theorem rd_3 {B A : Nat → Nat} {n : Nat} (h : (sp_rd B n A).1 = true) : (sp_rd B n A).2.2 3 = 0 := by
  unfold sp_rd at h ⊢
  by_cases g1 : sp_tt B n 0 = 4294967292
  · rw [if_pos g1] at h ⊢
    by_cases g2 : sp_tt B n 1 ≤ 99
    · rw [if_pos g2] at h ⊢
      by_cases g3 : sp_tt B n 2 = 4294967294
      · rw [if_pos g3, run_3]; rfl
      · rw [if_neg g3] at h; cases h
    · rw [if_neg g2] at h; cases h
  · rw [if_neg g1] at h; cases h
theorem mix_RL {b : Nat} {C : Nat → Nat → Nat} {A T : Nat → Nat} (h : mj_RL b C A) (t : mj_Tb A) (h3 : A 3 = 0) : mj_RL b C (mj_mix A T 154) := by
  obtain ⟨⟨a0, a1, a2, a3, a4⟩, b1, b2, b3, b4, b5, b6, b7, b8, b9⟩ := h
  have t0 := t.1
  have t1 := t.2.1
  have t2 := t.2.2.1
  have e : ∀ q, q < 154 → mj_mix A T 154 q = A q := fun q hq => mj_mix_lt hq
  have e0 := e 0 (by decide)
  have e1 := e 1 (by decide)
  have e2 := e 2 (by decide)
  have e3 := e 3 (by decide)
  refine ⟨⟨by rw [e0]; exact a0, by rw [e1]; exact a1, by rw [e2]; exact a2, by rw [e3]; exact a3, by rw [e 29 (by decide)]; exact a4⟩, fun q hq => ?_, fun q hq => ?_, fun q hq => ?_, fun q hq => ?_, fun q hq => ?_, ?_, ?_, ?_, ?_⟩
  · rw [e _ (by omega)]; exact b1 q hq
  · rw [e _ (by omega)]; exact b2 q hq
  · rw [e _ (by omega)]; exact b3 q hq
  · rw [e _ (by omega)]; exact b4 q hq
  · rw [e _ (by omega)]; exact b5 q hq
  · rw [e0]; intro v hv
    rw [e _ (by omega), e _ (by omega), e _ (by omega)]; exact b6 v hv
  · rw [e1]; intro p hp
    rw [e _ (by omega)]; exact b7 p hp
  · rw [e2]; intro p hp
    rw [e _ (by omega)]; exact b8 p hp
  · rw [e3, h3]; exact fun u hu => absurd hu (Nat.not_lt_zero u)
theorem st_read {E : mj_E} {κ : Nat → Bool} {C : Nat → Nat → Nat} (R : mj_Rel κ C) : mj_St E mj_G mj_isI iX10_read iX11_read [] (hh κ C) :=
  ⟨_, ev_X10_read R.1 (A := C 108), fun r1 h1 z => by
    obtain ⟨rfl, D, rfl, ID, hD, hf, h7, ht⟩ := z
    have d0 := hD 0 (by decide) (by decide) (by decide) (by decide)
    have d8 := hD 8 (by decide) (by decide) (by decide) (by decide)
    have d11 := hD 11 (by decide) (by decide) (by decide) (by decide)
    have up : ∀ i, 59 ≤ i → D i = C i := fun i hi => hD i (by omega) (by omega) (by omega) (Or.inr hi)
    have d100 := up 100 (by decide)
    have d101 := up 101 (by decide)
    have d102 := up 102 (by decide)
    have d103 := up 103 (by decide)
    have d104 := up 104 (by decide)
    have d107 := up 107 (by decide)
    have d108 := up 108 (by decide)
    have hB : ∀ c, D 107 c ≤ 127 := by rw [d107, ← rl_B R]; exact R.1.2.2.2.2.2.2.2.1
    have hn : D 100 2 ≤ 150 := by rw [d100, ← rl_tx R]; exact R.1.2.2.2.2.2.2.1
    refine ⟨⟨_, rfl⟩, ⟨κ, D, rfl⟩, _, ev_X11_read (E := E) (h := hh κ D) (hc100 κ D) (hc101 κ D) (hc107 κ D) (hc108 κ D) (hc109 κ D) hB hn, fun r3 h3 z => ?_⟩
    obtain ⟨rfl, u, A', W', z0, z1⟩ := z
    have eB : D 107 = C 8 := by rw [d107, rl_B R]
    have en : D 100 2 = C 7 0 := by rw [d100, rl_tx R]
    rw [eB, en, d108] at z0 z1 ⊢
    refine ⟨rfl, ?_⟩
    have im : ∀ i, i < 2 → (κ i = true → D 103 i = 1 ∧ mj_RL (60 + 20 * i) D (fun q => D 102 (362 * i + q)) ∧ mj_Tb (fun q => D 102 (362 * i + q))) ∧ (κ i = false → D 103 i = 0) := fun i hi => by
      rw [d103, d102]
      refine ⟨fun hk => ?_, (rl_im R hi).2⟩
      obtain ⟨q1, q2, q3⟩ := (rl_im R hi).1 hk
      exact ⟨q1, mj_RL_C q2 fun o ho => up _ (by omega), q3⟩
    cases hr : (sp_rd (C 8) (C 7 0) (C 108)).1 with
    | false =>
      have R2 : mj_Rel κ D := by
        refine ⟨ID, by rw [d101]; exact R.2.1, ?_, im, ?_, ?_, ?_, ?_, ?_⟩
        · rw [d101]; exact mj_RL_C R.2.2.1 fun o ho => hf hr _ (by omega) (by omega)
        · rw [h7, d100]; exact rl_tx R
        · rw [d8, d107]; exact rl_B R
        · rw [d11, d104]; exact rl_st R
        · rw [d0, d100]; exact rl_f0 R
        · rw [d0, d100]; exact rl_f1 R
      rw [z0 hr]
      exact ⟨κ, _, hu109 (hu108 (hu100 rfl)), R2.al ((((mj_Al.rf ID).u100 rfl rfl en.symm).u rfl (by decide) (by decide)).u rfl (by decide) (by decide))⟩
    | true =>
      obtain ⟨z2, tb⟩ := z1 hr
      rw [z2]
      refine ⟨κ, _, hu109 (hu108 (hu101 (hu100 rfl))), ?_⟩
      have R2 : mj_Rel κ (mj_u D 101 (mj_mix (sp_rd (C 8) (C 7 0) (C 108)).2.2 (D 101) 154)) := by
        refine ⟨mj_CI_u ID (by omega) (by omega) (by omega) (by omega) (by omega), mj_Tb_mix tb, ?_, fun i hi => ?_, ?_, ?_, ?_, ?_, ?_⟩
        · exact mj_RL_C (mix_RL (ht hr) tb (rd_3 hr)) fun o ho => mj_u_ne (by omega)
        · refine ⟨fun hk => ?_, (im i hi).2⟩
          obtain ⟨q1, q2, q3⟩ := (im i hi).1 hk
          exact ⟨q1, mj_RL_C q2 fun o ho => mj_u_ne (by omega), q3⟩
        · show D 7 0 = D 100 2
          rw [h7, d100]; exact rl_tx R
        · show D 8 = D 107
          rw [d8, d107]; exact rl_B R
        · show D 11 = D 104
          rw [d11, d104]; exact rl_st R
        · show D 0 0 = D 100 0
          rw [d0, d100]; exact rl_f0 R
        · show D 0 1 = D 100 1
          rw [d0, d100]; exact rl_f1 R
      have al : mj_Al (mj_u D 101 (mj_mix (sp_rd (C 8) (C 7 0) (C 108)).2.2 (D 101) 154)) (mj_u (mj_u D 101 (mj_mix (sp_rd (C 8) (C 7 0) (C 108)).2.2 (D 101) 154)) 100 (mj_row [D 100 0, D 100 1, C 7 0, sp_ss (C 8) (C 7 0) u, sp_ps (C 8) (C 7 0) (u + 1) - sp_ss (C 8) (C 7 0) u, sp_xkt (C 8) (C 7 0) u, sp_xvt (C 8) (C 7 0) u])) := (mj_Al.rf R2.1).u100 rfl rfl en.symm
      have R3 := R2.al ((al.u (i := 108) (K := A') rfl (by decide) (by decide)).u (i := 109) (K := W') rfl (by decide) (by decide))
      rwa [show ∀ X Y, mj_u (mj_u D 101 X) 100 Y = mj_u (mj_u D 100 Y) 101 X from fun X Y => by
        funext j; unfold mj_u
        by_cases q1 : j = 101
        · subst q1; rfl
        · rw [if_neg q1, if_neg q1]] at R3⟩
theorem st_thaw_t {E : mj_E} {κ : Nat → Bool} {C : Nat → Nat → Nat} (R : mj_Rel κ C) {c w m o : Nat} (h0 : c < 25) (h1 : 1 ≤ w) (h2 : w ≤ 198) (h3 : m ≤ 8) (h4 : o ≤ 10)  : mj_St E mj_G mj_isI iX10_thaw iX11_thaw [.int (nI c), .int (nI w), .int (nI m), .int (nI o)] (hh κ C) := by
  refine mj_st (ev_X10_thaw R.1 h0 h1 h2 h3 h4) ⟨_, rfl⟩ (ev_X11_thaw (E := E) (h := hh κ (mj_u (mj_u (mj_u C 14 (sp_chx (C 14) (C 22 c) (C 25) (C 26) (C 20 0) o (C 23 c) m)) 13 (sp_ch (C 22 c) (C 25) (C 26) (C 20 0) o (C 23 c) m)) 0 (mj_row [(sp_sum (sp_chb (C 22 c) w (sp_ch (C 22 c) (C 25) (C 26) (C 20 0) o (C 23 c) m)) 100) / Nat.gcd (sp_sum (sp_chb (C 22 c) w (sp_ch (C 22 c) (C 25) (C 26) (C 20 0) o (C 23 c) m)) 100) (10 ^ m), 10 ^ m / Nat.gcd (sp_sum (sp_chb (C 22 c) w (sp_ch (C 22 c) (C 25) (C 26) (C 20 0) o (C 23 c) m)) 100) (10 ^ m)]))) (hc100 κ (mj_u (mj_u (mj_u C 14 (sp_chx (C 14) (C 22 c) (C 25) (C 26) (C 20 0) o (C 23 c) m)) 13 (sp_ch (C 22 c) (C 25) (C 26) (C 20 0) o (C 23 c) m)) 0 (mj_row [(sp_sum (sp_chb (C 22 c) w (sp_ch (C 22 c) (C 25) (C 26) (C 20 0) o (C 23 c) m)) 100) / Nat.gcd (sp_sum (sp_chb (C 22 c) w (sp_ch (C 22 c) (C 25) (C 26) (C 20 0) o (C 23 c) m)) 100) (10 ^ m), 10 ^ m / Nat.gcd (sp_sum (sp_chb (C 22 c) w (sp_ch (C 22 c) (C 25) (C 26) (C 20 0) o (C 23 c) m)) 100) (10 ^ m)]))) (hc101 κ (mj_u (mj_u (mj_u C 14 (sp_chx (C 14) (C 22 c) (C 25) (C 26) (C 20 0) o (C 23 c) m)) 13 (sp_ch (C 22 c) (C 25) (C 26) (C 20 0) o (C 23 c) m)) 0 (mj_row [(sp_sum (sp_chb (C 22 c) w (sp_ch (C 22 c) (C 25) (C 26) (C 20 0) o (C 23 c) m)) 100) / Nat.gcd (sp_sum (sp_chb (C 22 c) w (sp_ch (C 22 c) (C 25) (C 26) (C 20 0) o (C 23 c) m)) 100) (10 ^ m), 10 ^ m / Nat.gcd (sp_sum (sp_chb (C 22 c) w (sp_ch (C 22 c) (C 25) (C 26) (C 20 0) o (C 23 c) m)) 100) (10 ^ m)]))) (show mj_Tb ((mj_u (mj_u (mj_u C 14 (sp_chx (C 14) (C 22 c) (C 25) (C 26) (C 20 0) o (C 23 c) m)) 13 (sp_ch (C 22 c) (C 25) (C 26) (C 20 0) o (C 23 c) m)) 0 (mj_row [(sp_sum (sp_chb (C 22 c) w (sp_ch (C 22 c) (C 25) (C 26) (C 20 0) o (C 23 c) m)) 100) / Nat.gcd (sp_sum (sp_chb (C 22 c) w (sp_ch (C 22 c) (C 25) (C 26) (C 20 0) o (C 23 c) m)) 100) (10 ^ m), 10 ^ m / Nat.gcd (sp_sum (sp_chb (C 22 c) w (sp_ch (C 22 c) (C 25) (C 26) (C 20 0) o (C 23 c) m)) 100) (10 ^ m)])) 101) from R.2.1) h0 h1 h2 h3 h4) ?_ (hu100 rfl) ?_
  · exact rfl
  · have e := rv_thaw R (o := o) (w := w) (m := m) h0
    refine R.fr (fun i i0 i1 i2 i3 => ?_) rfl ?_ ?_
    · rw [mj_u_ne i1, mj_u_ne i0, mj_u_ne i2, mj_u_ne i3]
    · show _ / _ = _ / _
      rw [Nat.gcd_comm, e]; rfl
    · show _ / _ = _ / _
      rw [Nat.gcd_comm, e]; rfl
