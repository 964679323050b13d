/-! ways: the rings of the class and the row of the reference -/
theorem mk_l : ∀ k, k < 25 → Nat.testBit 4277648879 k = decide (k % 5 < 4) := by decide +kernel
theorem mk_r : ∀ k, k < 25 → Nat.testBit 4293884894 k = decide (0 < k % 5) := by decide +kernel
theorem tb_lt {s x : Nat} (hs : s < 2 ^ 25) (h : Nat.testBit s x = true) : x < 25 := by
  by_cases g : x < 25
  · exact g
  · rw [Nat.testBit_lt_two_pow (Nat.lt_of_lt_of_le hs (Nat.pow_le_pow_right (by decide) (by omega)))] at h
    cases h
theorem sp_abs_iff {y x : Nat} : sp_abs y x = true ↔ (y / 5 = x / 5 ∧ (y % 5 + 1 = x % 5 ∨ x % 5 + 1 = y % 5)) ∨ (y % 5 = x % 5 ∧ (y / 5 + 1 = x / 5 ∨ x / 5 + 1 = y / 5)) := by
  unfold sp_abs; exact decide_eq_true_iff
theorem sp_abs_sym {y x : Nat} (h : sp_abs y x = true) : sp_abs x y = true := by
  rw [sp_abs_iff] at h ⊢; omega
theorem bes_tb {s x : Nat} (hs : s < 2 ^ 25) : Nat.testBit (sp_bes s) x = true ↔ x < 25 ∧ ∃ y, y < 25 ∧ sp_abs y x = true ∧ Nat.testBit s y = true := by
  unfold sp_bes
  rw [show (33554431 : Nat) = 2 ^ 25 - 1 from rfl, Nat.testBit_and, Nat.testBit_two_pow_sub_one, Nat.testBit_or, Nat.testBit_or, Nat.testBit_or, Nat.testBit_shiftLeft, Nat.testBit_shiftRight, Nat.testBit_shiftLeft, Nat.testBit_shiftRight, Nat.testBit_and, Nat.testBit_and]
  rw [Bool.and_eq_true, Bool.or_eq_true, Bool.or_eq_true, Bool.or_eq_true, Bool.and_eq_true, Bool.and_eq_true, Bool.and_eq_true, Bool.and_eq_true, decide_eq_true_iff, decide_eq_true_iff, decide_eq_true_iff]
  constructor
  · rintro ⟨hx, (⟨h1, h2⟩ | h2) | (⟨h1, h2, h3⟩ | ⟨h2, h3⟩)⟩
    · exact ⟨hx, x - 5, by omega, sp_abs_iff.mpr (by omega), h2⟩
    · have := tb_lt hs h2
      exact ⟨hx, 5 + x, this, sp_abs_iff.mpr (by omega), h2⟩
    · rw [mk_l _ (by omega), decide_eq_true_iff] at h3
      exact ⟨hx, x - 1, by omega, sp_abs_iff.mpr (by omega), h2⟩
    · have := tb_lt hs h2
      rw [mk_r _ this, decide_eq_true_iff] at h3
      exact ⟨hx, 1 + x, this, sp_abs_iff.mpr (by omega), h2⟩
  · rintro ⟨hx, y, hy, ha, hs2⟩
    refine ⟨hx, ?_⟩
    have ha := sp_abs_iff.mp ha
    rcases (by omega : (5 ≤ x ∧ y = x - 5) ∨ y = 5 + x ∨ (1 ≤ x ∧ y = x - 1 ∧ y % 5 < 4) ∨ (y = 1 + x ∧ 0 < y % 5)) with ⟨g, rfl⟩ | rfl | ⟨g, rfl, g2⟩ | ⟨rfl, g2⟩
    · exact Or.inl (Or.inl ⟨g, hs2⟩)
    · exact Or.inl (Or.inr hs2)
    · exact Or.inr (Or.inl ⟨g, hs2, by rw [mk_l _ hy, decide_eq_true_iff]; exact g2⟩)
    · exact Or.inr (Or.inr ⟨hs2, by rw [mk_r _ hy, decide_eq_true_iff]; exact g2⟩)
/-- a row of lengths of ways to c over the cells p -/
def sp_Fp (p : Nat → Bool) (c : Nat) (F : Nat → Nat) : Prop :=
  (∀ x, x < 25 → 1 ≤ F x) ∧ (∀ x, x < 25 → F x < 1000000 → p x = true) ∧ (p c = true → F c ≤ 1) ∧ (∀ x, x < 25 → F x ≤ 1 → x = c) ∧ (∀ x y, x < 25 → y < 25 → sp_abs y x = true → p x = true → F x ≤ F y + 1) ∧ ∀ x, x < 25 → 1 < F x → F x < 1000000 → ∃ y, y < 25 ∧ sp_abs y x = true ∧ F y = F x - 1
theorem lay_Fp {T J : Nat → Nat} {w o c : Nat} : sp_Fp (sp_mop T J w o) c (sp_lay T J w o c) :=
  ⟨fun x hx => (sp_lay_iv x hx).1, fun x hx h => ((sp_lay_iv x hx).2 h).1, sp_lay_c, fun x hx h => sp_lay_1 hx h, fun x y hx hy ha hp => sp_lay_nb hx hy ha hp, fun x hx h1 h2 => sp_lay_st hx h1 h2⟩
section FP
variable {p : Nat → Bool} {c o a : Nat} {F : Nat → Nat}
theorem ring_le (Q : sp_Fp p c F) (ho : o < 2 ^ 25) (hop : ∀ x, x < 25 → Nat.testBit o x = p x) : ∀ n x, Nat.testBit (sp_ring o c n) x = true → F x ≤ n + 1 := by
  intro n
  induction n with
  | zero =>
    intro x h
    rw [← sp_ring_0, Nat.testBit_and, Bool.and_eq_true, Nat.one_shiftLeft, Nat.testBit_two_pow, decide_eq_true_iff] at h
    obtain ⟨h1, rfl⟩ := h
    have := tb_lt ho h1
    rw [hop _ this] at h1
    exact Q.2.2.1 h1
  | succ n ih =>
    intro x h
    rw [sp_ring_s, Nat.testBit_and, Bool.and_eq_true, bes_tb (sp_ring_lt ho)] at h
    obtain ⟨⟨hx, y, hy, ha, hr⟩, h2⟩ := h
    rw [hop x hx] at h2
    have := Q.2.2.2.2.1 x y hx hy ha h2
    have := ih y hr
    omega
theorem ring_at (Q : sp_Fp p c F) (ho : o < 2 ^ 25) (hop : ∀ x, x < 25 → Nat.testBit o x = p x) : ∀ n x, x < 25 → F x = n + 1 → F x < 1000000 → Nat.testBit (sp_ring o c n) x = true := by
  intro n
  induction n with
  | zero =>
    intro x hx h h6
    have e := Q.2.2.2.1 x hx (by omega)
    subst e
    rw [← sp_ring_0, Nat.testBit_and, Bool.and_eq_true, Nat.one_shiftLeft, Nat.testBit_two_pow, decide_eq_true_iff, hop x hx]
    exact ⟨Q.2.1 x hx h6, rfl⟩
  | succ n ih =>
    intro x hx h h6
    obtain ⟨y, hy, ha, he⟩ := Q.2.2.2.2.2 x hx (by omega) h6
    rw [sp_ring_s, Nat.testBit_and, Bool.and_eq_true, bes_tb (sp_ring_lt ho), hop x hx]
    exact ⟨⟨hx, y, hy, ha, ih y hy (by omega) (by omega)⟩, Q.2.1 x hx h6⟩
theorem sp_sum_lt {f g : Nat → Nat} {y : Nat} : ∀ {n : Nat}, (∀ i, i < n → f i ≤ g i) → y < n → f y < g y → sp_sum f n < sp_sum g n := by
  intro n
  induction n with
  | zero => exact fun _ h => absurd h (Nat.not_lt_zero _)
  | succ n ih =>
    intro h hy hl
    rw [sp_sum_s, sp_sum_s]
    have hn := h n (by omega)
    by_cases e : y = n
    · subst e
      have hle : ∀ m, m ≤ y → sp_sum f m ≤ sp_sum g m := by
        intro m
        induction m with
        | zero => exact fun _ => Nat.le_refl _
        | succ m ihm =>
          intro hm
          rw [sp_sum_s, sp_sum_s]
          have := ihm (by omega)
          have := h m (by omega)
          omega
      have := hle y (Nat.le_refl _)
      omega
    · have := ih (fun i hi => h i (by omega)) (by omega) hl
      omega
/-- no way is longer than the cells are many -/
theorem Fp_25 (Q : sp_Fp p c F) {x : Nat} (hx : x < 25) (h6 : F x < 1000000) : F x ≤ 25 := by
  have dn : ∀ k, k + 1 ≤ F x → ∃ y, y < 25 ∧ F y = F x - k := by
    intro k
    induction k with
    | zero => exact fun _ => ⟨x, hx, rfl⟩
    | succ k ih =>
      intro hk
      obtain ⟨y, hy, he⟩ := ih (by omega)
      obtain ⟨z, hz, -, he2⟩ := Q.2.2.2.2.2 y hy (by omega) (by omega)
      exact ⟨z, hz, by omega⟩
  have cnt : ∀ v, v ≤ F x → v ≤ sp_sum (fun y => if F y ≤ v then 1 else 0) 25 := by
    intro v
    induction v with
    | zero => exact fun _ => Nat.zero_le _
    | succ v ih =>
      intro hv
      obtain ⟨y, hy, he⟩ := dn (F x - (v + 1)) (by omega)
      have : sp_sum (fun y => if F y ≤ v then 1 else 0) 25 < sp_sum (fun y => if F y ≤ v + 1 then 1 else 0) 25 := by
        refine sp_sum_lt (y := y) (fun i _ => ?_) hy ?_
        · by_cases g : F i ≤ v
          · rw [if_pos g, if_pos (by omega)]; exact Nat.le_refl _
          · rw [if_neg g]; exact Nat.zero_le _
        · rw [if_neg (by omega), if_pos (by omega)]; decide
      have := ih (by omega)
      omega
  have h1 := cnt (F x) (Nat.le_refl _)
  have h2 : sp_sum (fun y => if F y ≤ F x then 1 else 0) 25 ≤ 25 * 1 := sp_sum_le fun y => by split <;> omega
  omega
theorem far_F (Q : sp_Fp p c F) (ho : o < 2 ^ 25) (hop : ∀ x, x < 25 → Nat.testBit o x = p x) (ha : a < 25) : (F a < 1000000 → sp_far o a c + 1 = F a ∧ sp_far o a c < 25) ∧ (1000000 ≤ F a → sp_far o a c = 25) := by
  refine ⟨fun h => ?_, fun h => ?_⟩
  · have h25 := Fp_25 Q ha h
    have h1 := Q.1 a ha
    have := sp_far_at (o := o) (a := a) (c := c) (j := F a - 1) (by omega) (ring_at Q ho hop _ a ha (by omega) h) (fun i hi => by
      cases hr : Nat.testBit (sp_ring o c i) a with
      | false => rfl
      | true => have := ring_le Q ho hop i a hr; omega)
    omega
  · exact sp_far_none fun i hi => by
      cases hr : Nat.testBit (sp_ring o c i) a with
      | false => rfl
      | true => have := ring_le Q ho hop i a hr; omega
theorem rch_0 : sp_rch o a 0 = o &&& 1 <<< a := rfl
theorem rch_sub (ho : o < 2 ^ 25) : ∀ n x, Nat.testBit (sp_rch o a n) x = true → Nat.testBit o x = true := by
  intro n
  induction n with
  | zero =>
    intro x h
    rw [rch_0, Nat.testBit_and, Bool.and_eq_true] at h
    exact h.1
  | succ n ih =>
    intro x h
    rw [sp_rch_s, Nat.testBit_or, Bool.or_eq_true, Nat.testBit_and, Bool.and_eq_true] at h
    rcases h with h | h
    · exact ih x h
    · exact h.2
theorem rch_mono {n m : Nat} (h : n ≤ m) {x : Nat} (hx : Nat.testBit (sp_rch o a n) x = true) : Nat.testBit (sp_rch o a m) x = true := by
  induction m with
  | zero => rw [show n = 0 by omega] at hx; exact hx
  | succ m ih =>
    by_cases e : n = m + 1
    · rw [← e]; exact hx
    · rw [sp_rch_s, Nat.testBit_or, ih (by omega), Bool.true_or]
theorem jn_iff (ho : o < 2 ^ 25) (hc : c < 25) : sp_jn o a c = true ↔ Nat.testBit (sp_rch o a 25) c = true := by
  unfold sp_jn
  rw [decide_eq_true_iff]
  constructor
  · intro h
    obtain ⟨i, hi⟩ : ∃ i, Nat.testBit (sp_rch o a 25 &&& (o &&& 1 <<< c)) i = true := by
      apply Classical.byContradiction
      intro hn
      refine h (Nat.eq_of_testBit_eq fun i => ?_)
      rw [Nat.zero_testBit]
      cases hr : Nat.testBit (sp_rch o a 25 &&& (o &&& 1 <<< c)) i with
      | false => rfl
      | true => exact absurd ⟨i, hr⟩ hn
    rw [Nat.testBit_and, Nat.testBit_and, Bool.and_eq_true, Bool.and_eq_true, Nat.one_shiftLeft, Nat.testBit_two_pow, decide_eq_true_iff] at hi
    rw [hi.2.2]; exact hi.1
  · intro h z
    have : Nat.testBit (sp_rch o a 25 &&& (o &&& 1 <<< c)) c = true := by
      rw [Nat.testBit_and, Nat.testBit_and, h, rch_sub ho _ _ h, Nat.one_shiftLeft, Nat.testBit_two_pow, decide_eq_true rfl]; rfl
    rw [z, Nat.zero_testBit] at this
    cases this
theorem jn_F (Q : sp_Fp p c F) (ho : o < 2 ^ 25) (hop : ∀ x, x < 25 → Nat.testBit o x = p x) (ha : a < 25) (hc : c < 25) : sp_jn o a c = true ↔ F a < 1000000 := by
  rw [jn_iff ho hc]
  constructor
  · intro h
    have key : ∀ n x, x < 25 → Nat.testBit (sp_rch o a n) x = true → F x < 1000000 → F a < 1000000 := by
      intro n
      induction n with
      | zero =>
        intro x hx h h6
        rw [rch_0, Nat.testBit_and, Bool.and_eq_true, Nat.one_shiftLeft, Nat.testBit_two_pow, decide_eq_true_iff] at h
        rw [h.2]; exact h6
      | succ n ih =>
        intro x hx h h6
        rw [sp_rch_s, Nat.testBit_or, Bool.or_eq_true, Nat.testBit_and, Bool.and_eq_true, bes_tb (sp_rch_lt ho)] at h
        rcases h with h | ⟨⟨-, y, hy, hab, hr⟩, h2⟩
        · exact ih x hx h h6
        · have h25 := Fp_25 Q hx h6
          have po : p y = true := by rw [← hop y hy]; exact rch_sub ho _ _ hr
          have := Q.2.2.2.2.1 y x hy hx (sp_abs_sym hab) po
          exact ih y hy hr (by omega)
    have pc : p c = true := by rw [← hop c hc]; exact rch_sub ho _ _ h
    exact key 25 c hc h (by have := Q.2.2.1 pc; omega)
  · intro h6
    have key : ∀ v n x, x < 25 → Nat.testBit (sp_rch o a n) x = true → F x = v + 1 → F x < 1000000 → Nat.testBit (sp_rch o a (n + v)) c = true := by
      intro v
      induction v with
      | zero =>
        intro n x hx h he _
        rw [← Q.2.2.2.1 x hx (by omega)]; exact h
      | succ v ih =>
        intro n x hx h he h6
        obtain ⟨y, hy, hab, hf⟩ := Q.2.2.2.2.2 x hx (by omega) h6
        have := ih (n + 1) y hy (by
          rw [sp_rch_s, Nat.testBit_or, Bool.or_eq_true, Nat.testBit_and, Bool.and_eq_true, bes_tb (sp_rch_lt ho)]
          exact Or.inr ⟨⟨hy, x, hx, sp_abs_sym hab, h⟩, by rw [hop y hy]; exact Q.2.1 y hy (by omega)⟩) (by omega) (by omega)
        rw [show n + (v + 1) = n + 1 + v by omega]; exact this
    have h25 := Fp_25 Q ha h6
    have h1 := Q.1 a ha
    refine rch_mono (n := 0 + (F a - 1)) (by omega) (key (F a - 1) 0 a ha ?_ (by omega) h6)
    rw [rch_0, Nat.testBit_and, Bool.and_eq_true, Nat.one_shiftLeft, Nat.testBit_two_pow, decide_eq_true_iff, hop a ha]
    exact ⟨Q.2.1 a ha h6, rfl⟩
theorem jn_F_f (Q : sp_Fp p c F) (ho : o < 2 ^ 25) (hop : ∀ x, x < 25 → Nat.testBit o x = p x) (ha : a < 25) (hc : c < 25) : (!sp_jn o a c) = decide (1000000 ≤ F a) := by
  have h := jn_F Q ho hop ha hc
  cases hj : sp_jn o a c with
  | true => rw [decide_eq_false (by have := h.mp hj; omega)]; rfl
  | false =>
    rw [decide_eq_true]; · rfl
    · apply Classical.byContradiction
      intro z
      rw [h.mpr (by omega)] at hj
      cases hj
/-- the way, step by step -/
theorem here_wlk (Q : sp_Fp p c F) (ho : o < 2 ^ 25) (hop : ∀ x, x < 25 → Nat.testBit o x = p x) (ha : a < 25) (h6 : F a < 1000000) : ∀ i, i ≤ sp_far o a c → sp_here o a c (sp_far o a c) i = sp_wlk F a i ∧ F (sp_wlk F a i) = F a - i ∧ sp_wlk F a i < 25 := by
  obtain ⟨e1, e2⟩ := (far_F Q ho hop ha).1 h6
  intro i
  induction i with
  | zero =>
    have w0 : sp_wlk F a 0 = a := by unfold sp_wlk mj_fo; rfl
    have h0 : ∀ f, sp_here o a c f 0 = a := fun f => by unfold sp_here mj_fo; rfl
    exact fun _ => ⟨by rw [h0, w0], by rw [w0, Nat.sub_zero], by rw [w0]; exact ha⟩
  | succ i ih =>
    intro hi
    obtain ⟨i1, i2, i3⟩ := ih (by omega)
    have hw : sp_wlk F a (i + 1) = sp_fst (sp_nxp F (sp_wlk F a i)) 25 := by unfold sp_wlk; rw [mj_fo_s]
    rw [sp_here_s, i1, hw]
    have px : p (sp_wlk F a i) = true := Q.2.1 _ i3 (by omega)
    have eq : ∀ y, y < 25 → Nat.testBit (sp_bes (1 <<< sp_wlk F a i) &&& sp_ring o c (sp_far o a c - i - 1)) y = sp_nxp F (sp_wlk F a i) y := fun y hy => by
      have hb : Nat.testBit (sp_bes (1 <<< sp_wlk F a i)) y = true ↔ sp_abs y (sp_wlk F a i) = true := by
        rw [bes_tb (by rw [Nat.one_shiftLeft]; exact Nat.pow_lt_pow_right (by decide) i3)]
        constructor
        · rintro ⟨-, z, hz, hab, ht⟩
          rw [Nat.one_shiftLeft, Nat.testBit_two_pow, decide_eq_true_iff] at ht
          rw [ht]; exact sp_abs_sym hab
        · intro hab
          exact ⟨hy, sp_wlk F a i, i3, sp_abs_sym hab, by rw [Nat.one_shiftLeft, Nat.testBit_two_pow, decide_eq_true rfl]⟩
      rw [Nat.testBit_and]
      unfold sp_nxp
      by_cases hab : sp_abs y (sp_wlk F a i) = true
      · rw [hb.mpr hab, hab, Bool.true_and, Bool.true_and]
        by_cases hf : F y = F (sp_wlk F a i) - 1
        · rw [decide_eq_true hf]
          exact ring_at Q ho hop _ y hy (by omega) (by omega)
        · rw [decide_eq_false hf]
          cases hr : Nat.testBit (sp_ring o c (sp_far o a c - i - 1)) y with
          | false => rfl
          | true =>
            have h1 := ring_le Q ho hop _ y hr
            have h2 := Q.2.2.2.2.1 (sp_wlk F a i) y i3 hy hab px
            omega
      · have hb' : Nat.testBit (sp_bes (1 <<< sp_wlk F a i)) y = false := by
          cases hr : Nat.testBit (sp_bes (1 <<< sp_wlk F a i)) y with
          | false => rfl
          | true => exact absurd (hb.mp hr) hab
        have hab' : sp_abs y (sp_wlk F a i) = false := by
          cases hr : sp_abs y (sp_wlk F a i) with
          | false => rfl
          | true => exact absurd hr hab
        rw [hb', hab', Bool.false_and, Bool.false_and]
    have ec := sp_fst_congr eq
    obtain ⟨y, hy, hab, hf⟩ := Q.2.2.2.2.2 _ i3 (by omega) (by omega)
    have lt : sp_fst (sp_nxp F (sp_wlk F a i)) 25 < 25 := by
      apply Classical.byContradiction
      intro z
      have hle := sp_fst_le (p := sp_nxp F (sp_wlk F a i)) (n := 25)
      have := sp_fst_f (p := sp_nxp F (sp_wlk F a i)) (n := 25) (i := y) (by omega)
      unfold sp_nxp at this
      rw [hab, Bool.true_and, decide_eq_false_iff_not] at this
      exact this hf
    have ht := sp_fst_t lt
    unfold sp_nxp at ht
    rw [Bool.and_eq_true, decide_eq_true_iff] at ht
    refine ⟨?_, by have := ht.2; unfold sp_nxp; omega, lt⟩
    unfold sp_lo
    have ec2 : sp_fst (Nat.testBit (sp_bes (1 <<< sp_wlk F a i) &&& sp_ring o c (sp_far o a c - i - 1))) 25 = sp_fst (sp_nxp F (sp_wlk F a i)) 25 := ec
    rw [ec2, if_pos lt]
theorem here_end (Q : sp_Fp p c F) (ho : o < 2 ^ 25) (hop : ∀ x, x < 25 → Nat.testBit o x = p x) (ha : a < 25) (h6 : F a < 1000000) : sp_here o a c (sp_far o a c) (sp_far o a c) = c := by
  obtain ⟨e1, e2⟩ := (far_F Q ho hop ha).1 h6
  obtain ⟨i1, i2, i3⟩ := here_wlk Q ho hop ha h6 (sp_far o a c) (Nat.le_refl _)
  rw [i1]
  exact Q.2.2.2.1 _ i3 (by omega)
end FP
