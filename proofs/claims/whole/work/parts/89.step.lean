section OP
variable {T J K I : Nat → Nat} {w a c o ob : Nat}
theorem op_mop (hK : ∀ q, q < 25 → K q = T (30 + q)) (hI : ∀ q, q < 25 → I q = J q) : ∀ x, x < 25 → Nat.testBit (sp_open K I w) x = sp_mop T J w 0 x := fun x hx => by
  unfold sp_open sp_mop sp_mb
  rw [mj_bits_tb, decide_eq_true hx, Bool.true_and, hK x hx, hI x hx, Nat.zero_testBit]
  show _ = (_ && true)
  rw [Bool.and_true]
theorem wo_tb {x z : Nat} (hx : x < 25) : Nat.testBit (sp_wo o z) x = (Nat.testBit o x && !decide (z = x)) := by
  unfold sp_wo
  rw [Nat.testBit_and, Nat.testBit_xor, Nat.one_shiftLeft, Nat.testBit_two_pow, show (4294967295 : Nat) = 2 ^ 32 - 1 from rfl, Nat.testBit_two_pow_sub_one, decide_eq_true (show x < 32 by omega)]
  cases decide (z = x) <;> rfl
theorem wo_lt {z : Nat} (ho : o < 2 ^ 25) : sp_wo o z < 2 ^ 25 := Nat.lt_of_le_of_lt Nat.and_le_left ho
theorem wo_mop {z : Nat} (hop : ∀ x, x < 25 → Nat.testBit o x = sp_mop T J w ob x) : ∀ x, x < 25 → Nat.testBit (sp_wo o z) x = sp_mop T J w (ob ||| 1 <<< z) x := fun x hx => by
  rw [wo_tb hx, hop x hx]
  unfold sp_mop
  rw [Nat.testBit_or, Nat.one_shiftLeft, Nat.testBit_two_pow, Bool.not_or, Bool.and_assoc]
theorem wo_id {z : Nat} (ho : o < 2 ^ 25) (h : Nat.testBit o z = false) : sp_wo o z = o := by
  apply Nat.eq_of_testBit_eq
  intro i
  by_cases g : i < 25
  · rw [wo_tb g]
    by_cases e : z = i
    · subst e; rw [h]; rfl
    · rw [decide_eq_false e]; exact Bool.and_true _
  · rw [Nat.testBit_lt_two_pow (Nat.lt_of_lt_of_le (wo_lt ho) (Nat.pow_le_pow_right (by decide) (by omega))), Nat.testBit_lt_two_pow (Nat.lt_of_lt_of_le ho (Nat.pow_le_pow_right (by decide) (by omega)))]
/-! apart -/
theorem cut_jn (ho : o < 2 ^ 25) (hop : ∀ x, x < 25 → Nat.testBit o x = sp_mop T J w 0 x) (ha : a < 25) (hc : c < 25) : sp_jn o a c = true ↔ sp_lay T J w 0 c a < 1000000 := jn_F lay_Fp ho hop ha hc
theorem cut_1 (ho : o < 2 ^ 25) (hop : ∀ x, x < 25 → Nat.testBit o x = sp_mop T J w 0 x) (ha : a < 25) (hc : c < 25) (hj : sp_jn o a c = true) : ∀ x, x < 25 → sp_c1 o a c x = sp_q1 T J w a c x := fun x hx => by
  have h1 := jn_F_f (F := sp_lay T J w (1 <<< x) c) lay_Fp (wo_lt ho) (fun y hy => by have := wo_mop (z := x) hop y hy; rwa [Nat.zero_or] at this) ha hc
  unfold sp_c1 sp_q1
  rw [← h1, wo_tb hx, wo_tb hx]
  cases hx2 : Nat.testBit o x with
  | true =>
    rw [show decide (a = x) = decide (x = a) by simp only [eq_comm], show decide (c = x) = decide (x = c) by simp only [eq_comm]]
    cases decide (x = a) <;> cases decide (x = c) <;> rfl
  | false =>
    rw [wo_id ho hx2, hj]
    cases decide (x = a) <;> cases decide (x = c) <;> rfl
theorem cut_2 (ho : o < 2 ^ 25) (hop : ∀ x, x < 25 → Nat.testBit o x = sp_mop T J w 0 x) (ha : a < 25) (hc : c < 25) (hj : sp_jn o a c = true) (hn : ∀ x, x < 25 → sp_q1 T J w a c x = false) : ∀ x y, x < 25 → y < 25 → sp_c2 o a c x y = sp_q2 T J w a c x y := fun x y hx hy => by
  have h1 := jn_F_f (F := sp_lay T J w (1 <<< x ||| 1 <<< y) c) lay_Fp (wo_lt (wo_lt ho)) (fun z hz => by have := wo_mop (z := y) (fun u hu => wo_mop (z := x) hop u hu) z hz; rwa [Nat.zero_or] at this) ha hc
  have one : ∀ z, z < 25 → z ≠ a → z ≠ c → sp_jn (sp_wo o z) a c = true := fun z hz z1 z2 => by
    by_cases hz2 : Nat.testBit o z = true
    · have h := cut_1 ho hop ha hc hj z hz
      rw [hn z hz] at h
      unfold sp_c1 at h
      rw [wo_tb hz, wo_tb hz, hz2, decide_eq_false (Ne.symm z1), decide_eq_false (Ne.symm z2)] at h
      revert h
      cases sp_jn (sp_wo o z) a c <;> simp
    · rw [wo_id ho (by revert hz2; cases Nat.testBit o z <;> simp)]; exact hj
  unfold sp_c2 sp_q2 sp_q2o
  rw [← h1, wo_tb hx, wo_tb hx, wo_tb hy, wo_tb hy]
  by_cases hxa : x = a
  · subst hxa; rw [decide_eq_true (rfl : x = x)]; cases decide (x < y) <;> cases Nat.testBit o x <;> rfl
  by_cases hxc : x = c
  · subst hxc; rw [decide_eq_true (rfl : x = x)]; cases decide (x < y) <;> cases Nat.testBit o x <;> cases decide (a = x) <;> cases decide (x = a) <;> rfl
  by_cases hya : y = a
  · subst hya; rw [decide_eq_true (rfl : y = y), decide_eq_false hxa, decide_eq_false hxc]; cases decide (x < y) <;> cases Nat.testBit o y <;> simp
  by_cases hyc : y = c
  · subst hyc; rw [decide_eq_true (rfl : y = y), decide_eq_false hxa, decide_eq_false hxc, decide_eq_false hya]; cases decide (x < y) <;> cases Nat.testBit o y <;> simp
  rw [decide_eq_false hxa, decide_eq_false hxc, decide_eq_false hya, decide_eq_false hyc, decide_eq_false (Ne.symm hxa), decide_eq_false (Ne.symm hxc), decide_eq_false (Ne.symm hya), decide_eq_false (Ne.symm hyc)]
  cases hx2 : Nat.testBit o x with
  | false =>
    rw [wo_id ho hx2, one y hy hya hyc]
    cases decide (x < y) <;> cases Nat.testBit o y <;> rfl
  | true =>
    cases hy2 : Nat.testBit o y with
    | true => cases decide (x < y) <;> rfl
    | false =>
      have : Nat.testBit (sp_wo o x) y = false := by rw [wo_tb hy, hy2]; rfl
      rw [wo_id (wo_lt ho) this, one x hx hxa hxc]
      cases decide (x < y) <;> rfl
theorem fst_none_f {p : Nat → Bool} {n : Nat} (h : sp_fst p n = n) : ∀ i, i < n → p i = false := fun i hi => sp_fst_f (n := n) (by rw [h]; exact hi)
theorem cut_v0 (ho : o < 2 ^ 25) (hop : ∀ x, x < 25 → Nat.testBit o x = sp_mop T J w 0 x) (ha : a < 25) (hc : c < 25) (h : 1000000 ≤ sp_lay T J w 0 c a) : sp_cut o a c = 0 := by
  unfold sp_cut
  rw [if_neg (fun z => absurd ((cut_jn ho hop ha hc).mp z) (by omega))]
theorem cut_v1 (ho : o < 2 ^ 25) (hop : ∀ x, x < 25 → Nat.testBit o x = sp_mop T J w 0 x) (ha : a < 25) (hc : c < 25) (h : sp_lay T J w 0 c a < 1000000) (h1 : sp_fst (sp_q1 T J w a c) 25 < 25) : sp_cut o a c = 992 + sp_fst (sp_q1 T J w a c) 25 := by
  have hj := (cut_jn ho hop ha hc).mpr h
  unfold sp_cut
  rw [if_pos hj, sp_fst_congr (cut_1 ho hop ha hc hj), if_pos h1]
theorem cut_cx (ho : o < 2 ^ 25) (hop : ∀ x, x < 25 → Nat.testBit o x = sp_mop T J w 0 x) (ha : a < 25) (hc : c < 25) (h : sp_lay T J w 0 c a < 1000000) (h1 : sp_fst (sp_q1 T J w a c) 25 = 25) : sp_cx o a c = sp_fst (sp_q3 T J w a c) 25 ∧ ∀ i, i < 25 → sp_cy o a c i = sp_fst (sp_q2 T J w a c i) 25 := by
  have hj := (cut_jn ho hop ha hc).mpr h
  have cy : ∀ i, i < 25 → sp_cy o a c i = sp_fst (sp_q2 T J w a c i) 25 := fun i hi => sp_fst_congr fun k hk => cut_2 ho hop ha hc hj (fst_none_f h1) i k hi hk
  exact ⟨sp_fst_congr fun i hi => by unfold sp_q3; rw [cy i hi], cy⟩
theorem cut_v2 (ho : o < 2 ^ 25) (hop : ∀ x, x < 25 → Nat.testBit o x = sp_mop T J w 0 x) (ha : a < 25) (hc : c < 25) (h : sp_lay T J w 0 c a < 1000000) (h1 : sp_fst (sp_q1 T J w a c) 25 = 25) (h2 : sp_fst (sp_q3 T J w a c) 25 < 25) : sp_cut o a c = 32 * sp_fst (sp_q3 T J w a c) 25 + sp_fst (sp_q2 T J w a c (sp_fst (sp_q3 T J w a c) 25)) 25 := by
  have hj := (cut_jn ho hop ha hc).mpr h
  obtain ⟨k1, k2⟩ := cut_cx ho hop ha hc h h1
  unfold sp_cut
  rw [if_pos hj, sp_fst_congr (cut_1 ho hop ha hc hj), if_neg (by omega), k1, if_pos h2, k2 _ h2]
theorem cut_vn (ho : o < 2 ^ 25) (hop : ∀ x, x < 25 → Nat.testBit o x = sp_mop T J w 0 x) (ha : a < 25) (hc : c < 25) (h : sp_lay T J w 0 c a < 1000000) (h1 : sp_fst (sp_q1 T J w a c) 25 = 25) (h2 : ∀ i, i < 25 → sp_fst (sp_q2 T J w a c i) 25 = 25) : sp_cut o a c = 4294967295 := by
  have hj := (cut_jn ho hop ha hc).mpr h
  obtain ⟨k1, k2⟩ := cut_cx ho hop ha hc h h1
  have h3 : sp_fst (sp_q3 T J w a c) 25 = 25 := sp_fst_none fun i hi => by unfold sp_q3; rw [h2 i hi]; rfl
  unfold sp_cut
  rw [if_pos hj, sp_fst_congr (cut_1 ho hop ha hc hj), if_neg (by omega), k1, if_neg (by omega)]
/-! the greatest that is safe -/
theorem rch_o {o o' : Nat} (ho : o < 2 ^ 25) (ho' : o' < 2 ^ 25) (h : ∀ x, Nat.testBit o x = true → Nat.testBit o' x = true) : ∀ n x, Nat.testBit (sp_rch o a n) x = true → Nat.testBit (sp_rch o' a n) x = true := by
  intro n
  induction n with
  | zero =>
    intro x hx
    rw [rch_0, Nat.testBit_and, Bool.and_eq_true] at hx ⊢
    exact ⟨h x hx.1, hx.2⟩
  | succ n ih =>
    intro x hx
    rw [sp_rch_s, Nat.testBit_or, Bool.or_eq_true, Nat.testBit_and, Bool.and_eq_true, bes_tb (sp_rch_lt ho)] at hx
    rw [sp_rch_s, Nat.testBit_or, Bool.or_eq_true, Nat.testBit_and, Bool.and_eq_true, bes_tb (sp_rch_lt ho')]
    rcases hx with hx | ⟨⟨h1, y, hy, hab, hr⟩, h2⟩
    · exact Or.inl (ih x hx)
    · exact Or.inr ⟨⟨h1, y, hy, hab, ih y hr⟩, h x h2⟩
theorem jn_mono {v w : Nat} (hvw : v ≤ w) (hc : c < 25) (h : sp_jn (sp_open K I w) a c = true) : sp_jn (sp_open K I v) a c = true := by
  rw [jn_iff sp_open_lt hc] at h ⊢
  refine rch_o sp_open_lt sp_open_lt (fun x hx => ?_) 25 c h
  unfold sp_open at hx ⊢
  rw [mj_bits_tb, Bool.and_eq_true, decide_eq_true_iff, decide_eq_true_iff] at hx ⊢
  exact ⟨hx.1, by omega⟩
theorem sfs_step {W m j b : Nat} (hc : c < 25) (hW : W ≤ 198) (hp : W = 0 ∨ sp_jn (sp_open K I W) a c = true) (hn : ∀ v, W < v → v ≤ 198 → sp_jn (sp_open K I v) a c = false) (hb : 128 / 2 ^ j = b) (hb1 : 1 ≤ b) (h1 : m ≤ W) (h2 : W < m + 2 * b) : sp_sfs K I a c j m ≤ W ∧ W < sp_sfs K I a c j m + b := by
  unfold sp_sfs
  rw [hb]
  by_cases g : m + b ≤ 198
  · rw [if_pos g]
    by_cases g2 : sp_jn (sp_open K I (m + b)) a c = true
    · rw [if_pos g2]
      refine ⟨?_, by omega⟩
      apply Classical.byContradiction
      intro z
      rw [hn (m + b) (by omega) g] at g2
      cases g2
    · rw [if_neg g2]
      refine ⟨h1, ?_⟩
      apply Classical.byContradiction
      intro z
      rcases hp with hp | hp
      · omega
      · exact g2 (jn_mono (by omega) hc hp)
  · rw [if_neg g]; exact ⟨h1, by omega⟩
theorem safe_W {W : Nat} (hc : c < 25) (hW : W ≤ 198) (hp : W = 0 ∨ sp_jn (sp_open K I W) a c = true) (hn : ∀ v, W < v → v ≤ 198 → sp_jn (sp_open K I v) a c = false) : sp_safe K I a c 8 = W := by
  have st := fun (m j b : Nat) => sfs_step (m := m) (j := j) (b := b) hc hW hp hn
  have e : ∀ n, sp_safe K I a c (n + 1) = sp_sfs K I a c n (sp_safe K I a c n) := fun n => mj_fo_s
  have s0 : sp_safe K I a c 0 = 0 := rfl
  obtain ⟨a1, b1⟩ := st (sp_safe K I a c 0) 0 128 rfl (by decide) (by rw [s0]; omega) (by rw [s0]; omega)
  rw [← e 0] at a1 b1
  obtain ⟨a2, b2⟩ := st _ 1 64 rfl (by decide) a1 b1
  rw [← e 1] at a2 b2
  obtain ⟨a3, b3⟩ := st _ 2 32 rfl (by decide) a2 b2
  rw [← e 2] at a3 b3
  obtain ⟨a4, b4⟩ := st _ 3 16 rfl (by decide) a3 b3
  rw [← e 3] at a4 b4
  obtain ⟨a5, b5⟩ := st _ 4 8 rfl (by decide) a4 b4
  rw [← e 4] at a5 b5
  obtain ⟨a6, b6⟩ := st _ 5 4 rfl (by decide) a5 b5
  rw [← e 5] at a6 b6
  obtain ⟨a7, b7⟩ := st _ 6 2 rfl (by decide) a6 b6
  rw [← e 6] at a7 b7
  obtain ⟨a8, b8⟩ := st _ 7 1 rfl (by decide) a7 b7
  rw [← e 7] at a8 b8
  have a8 : sp_safe K I a c 8 ≤ W := a8
  have b8 : W < sp_safe K I a c 8 + 1 := b8
  omega
theorem safe_eq (hK : ∀ q, q < 25 → K q = T (30 + q)) (hI : ∀ q, q < 25 → I q = J q) (ha : a < 25) (hc : c < 25) : sp_safe K I a c 8 = 198 - sp_fst (sp_sfp T J a c) 198 := by
  have J1 : ∀ v, sp_jn (sp_open K I v) a c = true ↔ sp_lay T J v 0 c a < 1000000 := fun v => cut_jn sp_open_lt (op_mop hK hI) ha hc
  have hle := sp_fst_le (p := sp_sfp T J a c) (n := 198)
  refine safe_W hc (by omega) ?_ (fun v h1 h2 => ?_)
  · by_cases g : sp_fst (sp_sfp T J a c) 198 < 198
    · have := sp_fst_t g
      have := of_decide_eq_true (show decide (sp_lay T J (198 - sp_fst (sp_sfp T J a c) 198) 0 c a < 1000000) = true from this)
      exact Or.inr ((J1 _).mpr this)
    · exact Or.inl (by omega)
  · have := sp_fst_f (p := sp_sfp T J a c) (n := 198) (i := 198 - v) (by omega)
    have := of_decide_eq_false (show decide (sp_lay T J (198 - (198 - v)) 0 c a < 1000000) = false from this)
    rw [show 198 - (198 - v) = v by omega] at this
    cases hj : sp_jn (sp_open K I v) a c with
    | false => rfl
    | true => exact absurd ((J1 v).mp hj) this
/-! crossings -/
theorem sp_fst_w {p q : Nat → Bool} : ∀ {n : Nat}, (∀ i, i < n → (∀ j, j < i → p j = false) → p i = q i) → sp_fst p n = sp_fst q n := by
  intro n
  induction n with
  | zero => exact fun _ => rfl
  | succ n ih =>
    intro h
    have e := ih (fun i hi => h i (by omega))
    show (if sp_fst p n = n then _ else _) = (if sp_fst q n = n then _ else _)
    by_cases g : sp_fst p n = n
    · rw [if_pos g, if_pos (e.symm.trans g), h n (by omega) (fst_none_f g)]
    · rw [if_neg g, if_neg (fun z => g (e.trans z)), e]
theorem crd_mcn {F G Jc : Nat → Nat} (Q : sp_Fp (sp_mop T G w 0) c F) (ho : o < 2 ^ 25) (hop : ∀ x, x < 25 → Nat.testBit o x = sp_mop T G w 0 x) (ha : a < 25) (h6 : F a < 1000000) (hG : ∀ x, x < 25 → Jc x = G x) : ∀ k, k ≤ sp_far o a c → ∀ x, x < 25 → sp_crd o a c (sp_far o a c) Jc k x = sp_mcn F a G k x := by
  intro k
  induction k with
  | zero => exact fun _ x hx => hG x hx
  | succ k ih =>
    intro hk x hx
    obtain ⟨i1, i2, i3⟩ := here_wlk Q ho hop ha h6 k (by omega)
    have e : sp_mcn F a G (k + 1) = mj_un (sp_mcn F a G k) (sp_wlk F a k) (sp_mcn F a G k (sp_wlk F a k) - 1) := mj_fo_s
    rw [sp_crd_s, e, i1]
    by_cases g : x = sp_wlk F a k
    · rw [g, mj_un_eq, mj_un_eq, ih (by omega) _ i3]
    · rw [mj_un_ne g, mj_un_ne g]; exact ih (by omega) x hx
theorem crn_mx (hK : ∀ q, q < 25 → K q = T (30 + q)) (hI : ∀ q, q < 25 → I q = T (4 + q)) (ha : a < 25) (hc : c < 25) : ∀ n, (∀ i, i < n → sp_crp K w a c I i = false) → ∀ x, x < 25 → sp_crn K w a c I n x = sp_mx T w a c n x := by
  intro n
  induction n with
  | zero => exact fun _ x hx => hI x hx
  | succ n ih =>
    intro hn x hx
    have ihn := ih (fun i hi => hn i (by omega))
    have hf := of_decide_eq_false (show decide (sp_far (sp_open K (sp_crn K w a c I n) w) a c = 25) = false from hn n (by omega))
    have hop := op_mop (w := w) (J := sp_mx T w a c n) hK ihn
    have Q : sp_Fp (sp_mop T (sp_mx T w a c n) w 0) c (sp_lay T (sp_mx T w a c n) w 0 c) := lay_Fp
    have h6 : sp_lay T (sp_mx T w a c n) w 0 c a < 1000000 := by
      apply Classical.byContradiction
      intro z
      exact hf ((far_F Q sp_open_lt hop ha).2 (by omega))
    obtain ⟨e1, e2⟩ := (far_F Q sp_open_lt hop ha).1 h6
    have e : sp_crn K w a c I (n + 1) = sp_crd (sp_open K (sp_crn K w a c I n) w) a c (sp_far (sp_open K (sp_crn K w a c I n) w) a c) (sp_crn K w a c I n) (sp_far (sp_open K (sp_crn K w a c I n) w) a c + 1) := mj_fo_s
    have in1 := crd_mcn Q sp_open_lt hop ha h6 ihn _ (Nat.le_refl _)
    rw [e, sp_crd_s, sp_mx_s, here_end Q sp_open_lt hop ha h6]
    unfold sp_mc1
    rw [← e1, Nat.add_sub_cancel]
    by_cases g : x = c
    · rw [g, mj_un_eq, mj_un_eq, in1 c hc]
    · rw [mj_un_ne g, mj_un_ne g]; exact in1 x hx
theorem cross_eq (hK : ∀ q, q < 25 → K q = T (30 + q)) (hI : ∀ q, q < 25 → I q = T (4 + q)) (ha : a < 25) (hc : c < 25) : sp_fst (sp_crp K w a c I) 40 = sp_fst (sp_mxp T w a c) 40 := sp_fst_w fun i hi hn => by
  have hop := op_mop (w := w) (J := sp_mx T w a c i) hK (crn_mx hK hI ha hc i hn)
  have Q : sp_Fp (sp_mop T (sp_mx T w a c i) w 0) c (sp_lay T (sp_mx T w a c i) w 0 c) := lay_Fp
  obtain ⟨f1, f2⟩ := far_F Q sp_open_lt hop ha
  unfold sp_crp sp_mxp
  by_cases g : sp_lay T (sp_mx T w a c i) w 0 c a < 1000000
  · rw [decide_eq_false (by have := (f1 g).2; omega), decide_eq_false (by omega)]
  · rw [decide_eq_true (f2 (by omega)), decide_eq_true (by omega)]
end OP
section RV3
variable {κ : Nat → Bool} {C : Nat → Nat → Nat} {w a c : Nat}
theorem rv_op (R : mj_Rel κ C) : ∀ x, x < 25 → Nat.testBit (sp_open (C 22) (C 23) w) x = sp_mop (C 101) (fun q => C 101 (4 + q)) w 0 x := op_mop (rl_K R) (rl_I R)
theorem rv_pn (R : mj_Rel κ C) (ha : a < 25) (h : sp_far (sp_open (C 22) (C 23) w) a c = 25) : 1000000 ≤ sp_lay (C 101) (fun q => C 101 (4 + q)) w 0 c a := by
  apply Classical.byContradiction
  intro z
  have := ((far_F lay_Fp sp_open_lt (rv_op R) ha).1 (Nat.lt_of_not_le z)).2
  omega
theorem rv_ps (R : mj_Rel κ C) (ha : a < 25) (h : sp_far (sp_open (C 22) (C 23) w) a c < 25) : sp_lay (C 101) (fun q => C 101 (4 + q)) w 0 c a < 1000000 := by
  apply Classical.byContradiction
  intro z
  have := (far_F lay_Fp sp_open_lt (rv_op R) ha).2 (Nat.le_of_not_lt z)
  omega
theorem rv_pl (R : mj_Rel κ C) (ha : a < 25) (h : sp_far (sp_open (C 22) (C 23) w) a c < 25) : sp_far (sp_open (C 22) (C 23) w) a c + 1 = sp_lay (C 101) (fun q => C 101 (4 + q)) w 0 c a := ((far_F lay_Fp sp_open_lt (rv_op R) ha).1 (rv_ps R ha h)).1
end RV3
theorem st_path_none_t {E : mj_E} {κ : Nat → Bool} {C : Nat → Nat → Nat} (R : mj_Rel κ C) {w a c : Nat} {i : Int32} (h0 : 1 ≤ w) (h1 : w ≤ 198) (h2 : a < 25) (h3 : c < 25) (h4 : sp_far (sp_open (C 22) (C 23) w) a c = 25) (h5 : (-1) ≤ i)  : mj_St E mj_G mj_isI iX10_path iX11_path [.int (nI w), .int (nI a), .int (nI c), .int i] (hh κ C) := by
  refine mj_st (ev_X10_path_none R.1 h0 h1 h2 h3 h4 h5) ⟨_, rfl⟩ (ev_X11_path_none (E := E) (h := hh κ (mj_u C 5 (mj_mix (sp_ring (sp_open (C 22) (C 23) w) c) (C 5) (min (sp_far (sp_open (C 22) (C 23) w) a c + 1) 25)))) (hc100 κ (mj_u C 5 (mj_mix (sp_ring (sp_open (C 22) (C 23) w) c) (C 5) (min (sp_far (sp_open (C 22) (C 23) w) a c + 1) 25)))) (hc101 κ (mj_u C 5 (mj_mix (sp_ring (sp_open (C 22) (C 23) w) c) (C 5) (min (sp_far (sp_open (C 22) (C 23) w) a c + 1) 25)))) (hc105 κ (mj_u C 5 (mj_mix (sp_ring (sp_open (C 22) (C 23) w) c) (C 5) (min (sp_far (sp_open (C 22) (C 23) w) a c + 1) 25)))) (hc106 κ (mj_u C 5 (mj_mix (sp_ring (sp_open (C 22) (C 23) w) c) (C 5) (min (sp_far (sp_open (C 22) (C 23) w) a c + 1) 25)))) (show mj_Tb ((mj_u C 5 (mj_mix (sp_ring (sp_open (C 22) (C 23) w) c) (C 5) (min (sp_far (sp_open (C 22) (C 23) w) a c + 1) 25))) 101) from R.2.1) h0 h1 h2 h3 (show 1000000 ≤ sp_lay (C 101) (fun q => C 101 (4 + q)) w 0 c a from rv_pn R h2 h4) h5) ?_ (hu106 (hu105 rfl)) ?_
  · exact rfl
  · exact R.al ((((mj_Al.rf R.1).u rfl (by decide) (by decide)).u rfl (by decide) (by decide)).u rfl (by decide) (by decide))
theorem st_path_len_t {E : mj_E} {κ : Nat → Bool} {C : Nat → Nat → Nat} (R : mj_Rel κ C) {w a c : Nat} (h0 : 1 ≤ w) (h1 : w ≤ 198) (h2 : a < 25) (h3 : c < 25) (h4 : sp_far (sp_open (C 22) (C 23) w) a c < 25)  : mj_St E mj_G mj_isI iX10_path iX11_path [.int (nI w), .int (nI a), .int (nI c), .int (-1)] (hh κ C) := by
  refine mj_st (ev_X10_path_len R.1 h0 h1 h2 h3 h4) ⟨_, rfl⟩ (ev_X11_path_len (E := E) (h := hh κ (mj_u (mj_u C 5 (mj_mix (sp_ring (sp_open (C 22) (C 23) w) c) (C 5) (min (sp_far (sp_open (C 22) (C 23) w) a c + 1) 25))) 6 (mj_mix (sp_here (sp_open (C 22) (C 23) w) a c (sp_far (sp_open (C 22) (C 23) w) a c)) (C 6) (sp_far (sp_open (C 22) (C 23) w) a c + 1)))) (hc100 κ (mj_u (mj_u C 5 (mj_mix (sp_ring (sp_open (C 22) (C 23) w) c) (C 5) (min (sp_far (sp_open (C 22) (C 23) w) a c + 1) 25))) 6 (mj_mix (sp_here (sp_open (C 22) (C 23) w) a c (sp_far (sp_open (C 22) (C 23) w) a c)) (C 6) (sp_far (sp_open (C 22) (C 23) w) a c + 1)))) (hc101 κ (mj_u (mj_u C 5 (mj_mix (sp_ring (sp_open (C 22) (C 23) w) c) (C 5) (min (sp_far (sp_open (C 22) (C 23) w) a c + 1) 25))) 6 (mj_mix (sp_here (sp_open (C 22) (C 23) w) a c (sp_far (sp_open (C 22) (C 23) w) a c)) (C 6) (sp_far (sp_open (C 22) (C 23) w) a c + 1)))) (hc105 κ (mj_u (mj_u C 5 (mj_mix (sp_ring (sp_open (C 22) (C 23) w) c) (C 5) (min (sp_far (sp_open (C 22) (C 23) w) a c + 1) 25))) 6 (mj_mix (sp_here (sp_open (C 22) (C 23) w) a c (sp_far (sp_open (C 22) (C 23) w) a c)) (C 6) (sp_far (sp_open (C 22) (C 23) w) a c + 1)))) (hc106 κ (mj_u (mj_u C 5 (mj_mix (sp_ring (sp_open (C 22) (C 23) w) c) (C 5) (min (sp_far (sp_open (C 22) (C 23) w) a c + 1) 25))) 6 (mj_mix (sp_here (sp_open (C 22) (C 23) w) a c (sp_far (sp_open (C 22) (C 23) w) a c)) (C 6) (sp_far (sp_open (C 22) (C 23) w) a c + 1)))) (show mj_Tb ((mj_u (mj_u C 5 (mj_mix (sp_ring (sp_open (C 22) (C 23) w) c) (C 5) (min (sp_far (sp_open (C 22) (C 23) w) a c + 1) 25))) 6 (mj_mix (sp_here (sp_open (C 22) (C 23) w) a c (sp_far (sp_open (C 22) (C 23) w) a c)) (C 6) (sp_far (sp_open (C 22) (C 23) w) a c + 1))) 101) from R.2.1) h0 h1 h2 h3 (show sp_lay (C 101) (fun q => C 101 (4 + q)) w 0 c a < 1000000 from rv_ps R h2 h4)) ?_ (hu106 (hu105 rfl)) ?_
  · exact mj_vI (rv_pl R h2 h4).symm
  · exact R.al (((((mj_Al.rf R.1).u rfl (by decide) (by decide)).u rfl (by decide) (by decide)).u rfl (by decide) (by decide)).u rfl (by decide) (by decide))
theorem st_path_few_t {E : mj_E} {κ : Nat → Bool} {C : Nat → Nat → Nat} (R : mj_Rel κ C) {w a c i : Nat} (h0 : 1 ≤ w) (h1 : w ≤ 198) (h2 : a < 25) (h3 : c < 25) (h4 : sp_far (sp_open (C 22) (C 23) w) a c < 25) (h5 : sp_far (sp_open (C 22) (C 23) w) a c + 1 ≤ i) (h6 : i < 2 ^ 31)  : mj_St E mj_G mj_isI iX10_path iX11_path [.int (nI w), .int (nI a), .int (nI c), .int (nI i)] (hh κ C) := by
  refine mj_st (ev_X10_path_few R.1 h0 h1 h2 h3 h4 h5 h6) ⟨_, rfl⟩ (ev_X11_path_few (E := E) (h := hh κ (mj_u (mj_u C 5 (mj_mix (sp_ring (sp_open (C 22) (C 23) w) c) (C 5) (min (sp_far (sp_open (C 22) (C 23) w) a c + 1) 25))) 6 (mj_mix (sp_here (sp_open (C 22) (C 23) w) a c (sp_far (sp_open (C 22) (C 23) w) a c)) (C 6) (sp_far (sp_open (C 22) (C 23) w) a c + 1)))) (hc100 κ (mj_u (mj_u C 5 (mj_mix (sp_ring (sp_open (C 22) (C 23) w) c) (C 5) (min (sp_far (sp_open (C 22) (C 23) w) a c + 1) 25))) 6 (mj_mix (sp_here (sp_open (C 22) (C 23) w) a c (sp_far (sp_open (C 22) (C 23) w) a c)) (C 6) (sp_far (sp_open (C 22) (C 23) w) a c + 1)))) (hc101 κ (mj_u (mj_u C 5 (mj_mix (sp_ring (sp_open (C 22) (C 23) w) c) (C 5) (min (sp_far (sp_open (C 22) (C 23) w) a c + 1) 25))) 6 (mj_mix (sp_here (sp_open (C 22) (C 23) w) a c (sp_far (sp_open (C 22) (C 23) w) a c)) (C 6) (sp_far (sp_open (C 22) (C 23) w) a c + 1)))) (hc105 κ (mj_u (mj_u C 5 (mj_mix (sp_ring (sp_open (C 22) (C 23) w) c) (C 5) (min (sp_far (sp_open (C 22) (C 23) w) a c + 1) 25))) 6 (mj_mix (sp_here (sp_open (C 22) (C 23) w) a c (sp_far (sp_open (C 22) (C 23) w) a c)) (C 6) (sp_far (sp_open (C 22) (C 23) w) a c + 1)))) (hc106 κ (mj_u (mj_u C 5 (mj_mix (sp_ring (sp_open (C 22) (C 23) w) c) (C 5) (min (sp_far (sp_open (C 22) (C 23) w) a c + 1) 25))) 6 (mj_mix (sp_here (sp_open (C 22) (C 23) w) a c (sp_far (sp_open (C 22) (C 23) w) a c)) (C 6) (sp_far (sp_open (C 22) (C 23) w) a c + 1)))) (show mj_Tb ((mj_u (mj_u C 5 (mj_mix (sp_ring (sp_open (C 22) (C 23) w) c) (C 5) (min (sp_far (sp_open (C 22) (C 23) w) a c + 1) 25))) 6 (mj_mix (sp_here (sp_open (C 22) (C 23) w) a c (sp_far (sp_open (C 22) (C 23) w) a c)) (C 6) (sp_far (sp_open (C 22) (C 23) w) a c + 1))) 101) from R.2.1) h0 h1 h2 h3 (show sp_lay (C 101) (fun q => C 101 (4 + q)) w 0 c a < 1000000 from rv_ps R h2 h4) (show sp_lay (C 101) (fun q => C 101 (4 + q)) w 0 c a ≤ i by rw [← rv_pl R h2 h4]; exact h5) h6) ?_ (hu106 (hu105 rfl)) ?_
  · exact rfl
  · exact R.al (((((mj_Al.rf R.1).u rfl (by decide) (by decide)).u rfl (by decide) (by decide)).u rfl (by decide) (by decide)).u rfl (by decide) (by decide))
theorem st_path_step_t {E : mj_E} {κ : Nat → Bool} {C : Nat → Nat → Nat} (R : mj_Rel κ C) {w a c i : Nat} (h0 : 1 ≤ w) (h1 : w ≤ 198) (h2 : a < 25) (h3 : c < 25) (h4 : sp_far (sp_open (C 22) (C 23) w) a c < 25) (h5 : i < sp_far (sp_open (C 22) (C 23) w) a c + 1)  : mj_St E mj_G mj_isI iX10_path iX11_path [.int (nI w), .int (nI a), .int (nI c), .int (nI i)] (hh κ C) := by
  refine mj_st (ev_X10_path_step R.1 h0 h1 h2 h3 h4 h5) ⟨_, rfl⟩ (ev_X11_path_step (E := E) (h := hh κ (mj_u (mj_u C 5 (mj_mix (sp_ring (sp_open (C 22) (C 23) w) c) (C 5) (min (sp_far (sp_open (C 22) (C 23) w) a c + 1) 25))) 6 (mj_mix (sp_here (sp_open (C 22) (C 23) w) a c (sp_far (sp_open (C 22) (C 23) w) a c)) (C 6) (sp_far (sp_open (C 22) (C 23) w) a c + 1)))) (hc100 κ (mj_u (mj_u C 5 (mj_mix (sp_ring (sp_open (C 22) (C 23) w) c) (C 5) (min (sp_far (sp_open (C 22) (C 23) w) a c + 1) 25))) 6 (mj_mix (sp_here (sp_open (C 22) (C 23) w) a c (sp_far (sp_open (C 22) (C 23) w) a c)) (C 6) (sp_far (sp_open (C 22) (C 23) w) a c + 1)))) (hc101 κ (mj_u (mj_u C 5 (mj_mix (sp_ring (sp_open (C 22) (C 23) w) c) (C 5) (min (sp_far (sp_open (C 22) (C 23) w) a c + 1) 25))) 6 (mj_mix (sp_here (sp_open (C 22) (C 23) w) a c (sp_far (sp_open (C 22) (C 23) w) a c)) (C 6) (sp_far (sp_open (C 22) (C 23) w) a c + 1)))) (hc105 κ (mj_u (mj_u C 5 (mj_mix (sp_ring (sp_open (C 22) (C 23) w) c) (C 5) (min (sp_far (sp_open (C 22) (C 23) w) a c + 1) 25))) 6 (mj_mix (sp_here (sp_open (C 22) (C 23) w) a c (sp_far (sp_open (C 22) (C 23) w) a c)) (C 6) (sp_far (sp_open (C 22) (C 23) w) a c + 1)))) (hc106 κ (mj_u (mj_u C 5 (mj_mix (sp_ring (sp_open (C 22) (C 23) w) c) (C 5) (min (sp_far (sp_open (C 22) (C 23) w) a c + 1) 25))) 6 (mj_mix (sp_here (sp_open (C 22) (C 23) w) a c (sp_far (sp_open (C 22) (C 23) w) a c)) (C 6) (sp_far (sp_open (C 22) (C 23) w) a c + 1)))) (show mj_Tb ((mj_u (mj_u C 5 (mj_mix (sp_ring (sp_open (C 22) (C 23) w) c) (C 5) (min (sp_far (sp_open (C 22) (C 23) w) a c + 1) 25))) 6 (mj_mix (sp_here (sp_open (C 22) (C 23) w) a c (sp_far (sp_open (C 22) (C 23) w) a c)) (C 6) (sp_far (sp_open (C 22) (C 23) w) a c + 1))) 101) from R.2.1) h0 h1 h2 h3 (show sp_lay (C 101) (fun q => C 101 (4 + q)) w 0 c a < 1000000 from rv_ps R h2 h4) (show i < sp_lay (C 101) (fun q => C 101 (4 + q)) w 0 c a by rw [← rv_pl R h2 h4]; exact h5)) ?_ (hu106 (hu105 rfl)) ?_
  · exact mj_vI (here_wlk lay_Fp sp_open_lt (rv_op R) h2 (rv_ps R h2 h4) i (by omega)).1.symm
  · exact R.al (((((mj_Al.rf R.1).u rfl (by decide) (by decide)).u rfl (by decide) (by decide)).u rfl (by decide) (by decide)).u rfl (by decide) (by decide))
theorem st_safe_t {E : mj_E} {κ : Nat → Bool} {C : Nat → Nat → Nat} (R : mj_Rel κ C) {a c : Nat} (h0 : a < 25) (h1 : c < 25)  : mj_St E mj_G mj_isI iX10_safe iX11_safe [.int (nI a), .int (nI c)] (hh κ C) := by
  refine mj_st (ev_X10_safe R.1 h0 h1) ⟨_, rfl⟩ (ev_X11_safe (E := E) (h := hh κ C) (hc100 κ C) (hc101 κ C) (hc105 κ C) (hc106 κ C) (show mj_Tb (C 101) from R.2.1) h0 h1) ?_ (hu106 (hu105 rfl)) ?_
  · exact mj_vI (safe_eq (rl_K R) (rl_I R) h0 h1).symm
  · exact R.al (((mj_Al.rf R.1).u rfl (by decide) (by decide)).u rfl (by decide) (by decide))
theorem st_apart_0_1_t {E : mj_E} {κ : Nat → Bool} {C : Nat → Nat → Nat} (R : mj_Rel κ C) {w a c : Nat} (h0 : 1 ≤ w) (h1 : w ≤ 198) (h2 : a < 25) (h3 : c < 25) (h4 : ¬ a = c) (h5 : 1000000 ≤ sp_lay (C 101) (fun q => C 101 (4 + q)) w 0 c a) : mj_St E mj_G mj_isI iX10_apart iX11_apart [.int (nI w), .int (nI a), .int (nI c), .int (nI 1)] (hh κ C) := by
  refine mj_st (ev_X10_apart_1 R.1 h0 h1 h2 h3 h4) ⟨_, rfl⟩ (ev_X11_apart_0_1 (E := E) (h := hh κ C) (hc100 κ C) (hc101 κ C) (hc105 κ C) (hc106 κ C) (show mj_Tb (C 101) from R.2.1) h0 h1 h2 h3 h4 h5) ?_ (hu106 (hu105 rfl)) ?_
  · have e := cut_v0 sp_open_lt (rv_op R) h2 h3 h5
    exact mj_vI e.symm
  · exact R.al (((mj_Al.rf R.1).u rfl (by decide) (by decide)).u rfl (by decide) (by decide))
theorem st_apart_0_0_t {E : mj_E} {κ : Nat → Bool} {C : Nat → Nat → Nat} (R : mj_Rel κ C) {w a c : Nat} (h0 : 1 ≤ w) (h1 : w ≤ 198) (h2 : a < 25) (h3 : c < 25) (h4 : ¬ a = c) (h5 : 1000000 ≤ sp_lay (C 101) (fun q => C 101 (4 + q)) w 0 c a) : mj_St E mj_G mj_isI iX10_apart iX11_apart [.int (nI w), .int (nI a), .int (nI c), .int (nI 0)] (hh κ C) := by
  refine mj_st (ev_X10_apart_0 R.1 h0 h1 h2 h3 h4) ⟨_, rfl⟩ (ev_X11_apart_0_0 (E := E) (h := hh κ C) (hc100 κ C) (hc101 κ C) (hc105 κ C) (hc106 κ C) (show mj_Tb (C 101) from R.2.1) h0 h1 h2 h3 h4 h5) ?_ (hu106 (hu105 rfl)) ?_
  · have e := cut_v0 sp_open_lt (rv_op R) h2 h3 h5
    refine mj_vI (Eq.symm ?_)
    rw [e]; rfl
  · exact R.al (((mj_Al.rf R.1).u rfl (by decide) (by decide)).u rfl (by decide) (by decide))
theorem st_apart_1_1_t {E : mj_E} {κ : Nat → Bool} {C : Nat → Nat → Nat} (R : mj_Rel κ C) {w a c : Nat} (h0 : 1 ≤ w) (h1 : w ≤ 198) (h2 : a < 25) (h3 : c < 25) (h4 : ¬ a = c) (h5 : sp_lay (C 101) (fun q => C 101 (4 + q)) w 0 c a < 1000000) (h6 : sp_fst (sp_q1 (C 101) (fun q => C 101 (4 + q)) w a c) 25 < 25) : mj_St E mj_G mj_isI iX10_apart iX11_apart [.int (nI w), .int (nI a), .int (nI c), .int (nI 1)] (hh κ C) := by
  refine mj_st (ev_X10_apart_1 R.1 h0 h1 h2 h3 h4) ⟨_, rfl⟩ (ev_X11_apart_1_1 (E := E) (h := hh κ C) (hc100 κ C) (hc101 κ C) (hc105 κ C) (hc106 κ C) (show mj_Tb (C 101) from R.2.1) h0 h1 h2 h3 h4 h5 h6) ?_ (hu106 (hu105 rfl)) ?_
  · have e := cut_v1 sp_open_lt (rv_op R) h2 h3 h5 h6
    exact mj_vI e.symm
  · exact R.al (((mj_Al.rf R.1).u rfl (by decide) (by decide)).u rfl (by decide) (by decide))
theorem st_apart_1_0_t {E : mj_E} {κ : Nat → Bool} {C : Nat → Nat → Nat} (R : mj_Rel κ C) {w a c : Nat} (h0 : 1 ≤ w) (h1 : w ≤ 198) (h2 : a < 25) (h3 : c < 25) (h4 : ¬ a = c) (h5 : sp_lay (C 101) (fun q => C 101 (4 + q)) w 0 c a < 1000000) (h6 : sp_fst (sp_q1 (C 101) (fun q => C 101 (4 + q)) w a c) 25 < 25) : mj_St E mj_G mj_isI iX10_apart iX11_apart [.int (nI w), .int (nI a), .int (nI c), .int (nI 0)] (hh κ C) := by
  refine mj_st (ev_X10_apart_0 R.1 h0 h1 h2 h3 h4) ⟨_, rfl⟩ (ev_X11_apart_1_0 (E := E) (h := hh κ C) (hc100 κ C) (hc101 κ C) (hc105 κ C) (hc106 κ C) (show mj_Tb (C 101) from R.2.1) h0 h1 h2 h3 h4 h5 h6) ?_ (hu106 (hu105 rfl)) ?_
  · have e := cut_v1 sp_open_lt (rv_op R) h2 h3 h5 h6
    have b1 := h6
    refine mj_vI (Eq.symm ?_)
    rw [e]; unfold sp_apn; rw [if_neg (by omega), if_pos (by omega)]
  · exact R.al (((mj_Al.rf R.1).u rfl (by decide) (by decide)).u rfl (by decide) (by decide))
theorem st_apart_2_1_t {E : mj_E} {κ : Nat → Bool} {C : Nat → Nat → Nat} (R : mj_Rel κ C) {w a c : Nat} (h0 : 1 ≤ w) (h1 : w ≤ 198) (h2 : a < 25) (h3 : c < 25) (h4 : ¬ a = c) (h5 : sp_lay (C 101) (fun q => C 101 (4 + q)) w 0 c a < 1000000) (h6 : sp_fst (sp_q1 (C 101) (fun q => C 101 (4 + q)) w a c) 25 = 25) (h7 : sp_fst (sp_q3 (C 101) (fun q => C 101 (4 + q)) w a c) 25 < 25) : mj_St E mj_G mj_isI iX10_apart iX11_apart [.int (nI w), .int (nI a), .int (nI c), .int (nI 1)] (hh κ C) := by
  refine mj_st (ev_X10_apart_1 R.1 h0 h1 h2 h3 h4) ⟨_, rfl⟩ (ev_X11_apart_2_1 (E := E) (h := hh κ C) (hc100 κ C) (hc101 κ C) (hc105 κ C) (hc106 κ C) (show mj_Tb (C 101) from R.2.1) h0 h1 h2 h3 h4 h5 h6 h7) ?_ (hu106 (hu105 rfl)) ?_
  · have e := cut_v2 sp_open_lt (rv_op R) h2 h3 h5 h6 h7
    exact mj_vI e.symm
  · exact R.al (((mj_Al.rf R.1).u rfl (by decide) (by decide)).u rfl (by decide) (by decide))
theorem st_apart_2_0_t {E : mj_E} {κ : Nat → Bool} {C : Nat → Nat → Nat} (R : mj_Rel κ C) {w a c : Nat} (h0 : 1 ≤ w) (h1 : w ≤ 198) (h2 : a < 25) (h3 : c < 25) (h4 : ¬ a = c) (h5 : sp_lay (C 101) (fun q => C 101 (4 + q)) w 0 c a < 1000000) (h6 : sp_fst (sp_q1 (C 101) (fun q => C 101 (4 + q)) w a c) 25 = 25) (h7 : sp_fst (sp_q3 (C 101) (fun q => C 101 (4 + q)) w a c) 25 < 25) : mj_St E mj_G mj_isI iX10_apart iX11_apart [.int (nI w), .int (nI a), .int (nI c), .int (nI 0)] (hh κ C) := by
  refine mj_st (ev_X10_apart_0 R.1 h0 h1 h2 h3 h4) ⟨_, rfl⟩ (ev_X11_apart_2_0 (E := E) (h := hh κ C) (hc100 κ C) (hc101 κ C) (hc105 κ C) (hc106 κ C) (show mj_Tb (C 101) from R.2.1) h0 h1 h2 h3 h4 h5 h6 h7) ?_ (hu106 (hu105 rfl)) ?_
  · have e := cut_v2 sp_open_lt (rv_op R) h2 h3 h5 h6 h7
    have hq := sp_fst_t h7
    have hq2 := of_decide_eq_true (show decide (sp_fst (sp_q2 (C 101) (fun q => C 101 (4 + q)) w a c (sp_fst (sp_q3 (C 101) (fun q => C 101 (4 + q)) w a c) 25)) 25 < 25) = true from hq)
    have hq3 := sp_fst_t hq2
    have hq4 := (Bool.and_eq_true _ _ ▸ hq3 : _ ∧ _).1
    have hq5 := of_decide_eq_true hq4
    refine mj_vI (Eq.symm ?_)
    rw [e]; unfold sp_apn; rw [if_neg (by omega), if_neg (by omega)]
  · exact R.al (((mj_Al.rf R.1).u rfl (by decide) (by decide)).u rfl (by decide) (by decide))
theorem st_apart_n_1_t {E : mj_E} {κ : Nat → Bool} {C : Nat → Nat → Nat} (R : mj_Rel κ C) {w a c : Nat} (h0 : 1 ≤ w) (h1 : w ≤ 198) (h2 : a < 25) (h3 : c < 25) (h4 : ¬ a = c) (h5 : sp_lay (C 101) (fun q => C 101 (4 + q)) w 0 c a < 1000000) (h6 : sp_fst (sp_q1 (C 101) (fun q => C 101 (4 + q)) w a c) 25 = 25) (h7 : ∀ i, i < 25 → sp_fst (sp_q2 (C 101) (fun q => C 101 (4 + q)) w a c i) 25 = 25) : mj_St E mj_G mj_isI iX10_apart iX11_apart [.int (nI w), .int (nI a), .int (nI c), .int (nI 1)] (hh κ C) := by
  refine mj_st (ev_X10_apart_1 R.1 h0 h1 h2 h3 h4) ⟨_, rfl⟩ (ev_X11_apart_n_1 (E := E) (h := hh κ C) (hc100 κ C) (hc101 κ C) (hc105 κ C) (hc106 κ C) (show mj_Tb (C 101) from R.2.1) h0 h1 h2 h3 h4 h5 h6 h7) ?_ (hu106 (hu105 rfl)) ?_
  · have e := cut_vn sp_open_lt (rv_op R) h2 h3 h5 h6 h7
    exact mj_vI e.symm
  · exact R.al (((mj_Al.rf R.1).u rfl (by decide) (by decide)).u rfl (by decide) (by decide))
theorem st_apart_n_0_t {E : mj_E} {κ : Nat → Bool} {C : Nat → Nat → Nat} (R : mj_Rel κ C) {w a c : Nat} (h0 : 1 ≤ w) (h1 : w ≤ 198) (h2 : a < 25) (h3 : c < 25) (h4 : ¬ a = c) (h5 : sp_lay (C 101) (fun q => C 101 (4 + q)) w 0 c a < 1000000) (h6 : sp_fst (sp_q1 (C 101) (fun q => C 101 (4 + q)) w a c) 25 = 25) (h7 : ∀ i, i < 25 → sp_fst (sp_q2 (C 101) (fun q => C 101 (4 + q)) w a c i) 25 = 25) : mj_St E mj_G mj_isI iX10_apart iX11_apart [.int (nI w), .int (nI a), .int (nI c), .int (nI 0)] (hh κ C) := by
  refine mj_st (ev_X10_apart_0 R.1 h0 h1 h2 h3 h4) ⟨_, rfl⟩ (ev_X11_apart_n_0 (E := E) (h := hh κ C) (hc100 κ C) (hc101 κ C) (hc105 κ C) (hc106 κ C) (show mj_Tb (C 101) from R.2.1) h0 h1 h2 h3 h4 h5 h6 h7) ?_ (hu106 (hu105 rfl)) ?_
  · have e := cut_vn sp_open_lt (rv_op R) h2 h3 h5 h6 h7
    refine mj_vI (Eq.symm ?_)
    rw [e]; rfl
  · exact R.al (((mj_Al.rf R.1).u rfl (by decide) (by decide)).u rfl (by decide) (by decide))
theorem st_cross_t {E : mj_E} {κ : Nat → Bool} {C : Nat → Nat → Nat} (R : mj_Rel κ C) {w a c : Nat} (h0 : 1 ≤ w) (h1 : w ≤ 99) (h2 : a < 25) (h3 : c < 25) (h4 : ¬ a = c) : mj_St E mj_G mj_isI iX10_cross iX11_cross [.int (nI w), .int (nI a), .int (nI c)] (hh κ C) :=
  ⟨_, ev_X10_cross R.1 h0 h1 h2 h3 h4, fun r1 h1' z => by
    obtain ⟨rfl, D, rfl, hD, b2, b3⟩ := z
    have e101 : D 101 = C 101 := hD 101 (by decide) (by decide) (by decide) (by decide)
    refine ⟨⟨_, rfl⟩, ⟨κ, D, rfl⟩, _, ev_X11_cross (E := E) (h := hh κ D) (hc100 κ D) (hc101 κ D) (hc105 κ D) (hc106 κ D) (by rw [e101]; exact R.2.1) h0 h1 h2 h3 h4, fun r3 h3' z => ?_⟩
    obtain ⟨rfl, rfl⟩ := z
    refine ⟨mj_vI (by rw [e101]; exact (cross_eq (rl_K R) (rl_I R) h2 h3).symm), κ, _, hu106 (hu105 rfl), R.al ?_⟩
    have e100 : D 100 = C 100 := hD 100 (by decide) (by decide) (by decide) (by decide)
    have al : mj_Al C D := ⟨fun i hi _ => hD i (fun z => by subst z; cases hi) (fun z => by subst z; cases hi) (fun z => by subst z; cases hi) (fun z => by subst z; cases hi), ⟨by rw [e100], by rw [e100], by rw [e100]⟩, b2, b3⟩
    exact (al.u rfl (by decide) (by decide)).u rfl (by decide) (by decide)⟩
