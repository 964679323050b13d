theorem sp_nbr_ok {x d : Nat} (hx : x < 25) (hd : d < 4) (h : sp_nbk x d = true) : sp_nbr x d < 25 ∧ sp_abs (sp_nbr x d) x = true := by
  rcases (by omega : d = 0 ∨ d = 1 ∨ d = 2 ∨ d = 3) with z | z | z | z <;> subst z
  · have h : 5 ≤ x := of_decide_eq_true h
    exact ⟨by show x - 5 < 25; omega, ly_b0 x hx h⟩
  · have h : 0 < x % 5 := of_decide_eq_true h
    exact ⟨by show x - 1 < 25; omega, ly_b1 x hx h⟩
  · have h : x % 5 < 4 := of_decide_eq_true h
    exact ⟨by show x + 1 < 25; omega, ly_b2 x hx h⟩
  · have h : x < 20 := of_decide_eq_true h
    exact ⟨by show x + 5 < 25; omega, ly_b3 x h⟩
theorem ly_irr : ∀ x, x < 25 → sp_abs x x = false := by decide +kernel
theorem sp_lnv_or {F : Nat → Nat} {x n : Nat} : sp_lnv F x n = F x ∨ ∃ d, d < n ∧ sp_nbk x d = true ∧ sp_lnv F x n = F (sp_nbr x d) + 1 := by
  induction n with
  | zero => exact Or.inl rfl
  | succ n ih =>
    rw [sp_lnv_s]
    by_cases q : sp_nbk x n = true ∧ F (sp_nbr x n) + 1 < sp_lnv F x n
    · rw [if_pos q]; exact Or.inr ⟨n, by omega, q.1, rfl⟩
    · rw [if_neg q]
      rcases ih with h | ⟨d, h1, h2, h3⟩
      · exact Or.inl h
      · exact Or.inr ⟨d, by omega, h2, h3⟩
def sp_Iv (p : Nat → Bool) (c : Nat) (F : Nat → Nat) : Prop := ∀ x, x < 25 → 1 ≤ F x ∧ (F x < 1000000 → p x = true ∧ (x = c ∨ ∃ y, y < 25 ∧ sp_abs y x = true ∧ F y + 1 ≤ F x))
theorem sp_Iv_un {p : Nat → Bool} {c k : Nat} {F : Nat → Nat} (hk : k < 25) (hp : p k = true) (h : sp_Iv p c F) : sp_Iv p c (mj_un F k (sp_lnv F k 4)) := by
  have hle : ∀ y, mj_un F k (sp_lnv F k 4) y ≤ F y := fun y => by
    by_cases z : y = k
    · subst z; rw [mj_un_eq]; exact sp_lnv_le
    · rw [mj_un_ne z]; exact Nat.le_refl _
  intro x hx
  by_cases z : x = k
  · subst z
    rw [mj_un_eq]
    rcases @sp_lnv_or F x 4 with e | ⟨d, hd, h1, h2⟩
    · rw [e]
      refine ⟨(h x hx).1, fun hm => ⟨hp, ?_⟩⟩
      rcases ((h x hx).2 hm).2 with e' | ⟨y, hy, ha, hb⟩
      · exact Or.inl e'
      · refine Or.inr ⟨y, hy, ha, ?_⟩
        rw [mj_un_ne (fun q => by rw [q, ly_irr x hx] at ha; exact absurd ha (by decide))]; exact hb
    · have hn := sp_nbr_ok hx hd h1
      rw [h2]
      refine ⟨by omega, fun _ => ⟨hp, Or.inr ⟨sp_nbr x d, hn.1, hn.2, ?_⟩⟩⟩
      exact Nat.succ_le_succ (by have := hle (sp_nbr x d); rwa [h2] at this)
  · rw [mj_un_ne z]
    refine ⟨(h x hx).1, fun hm => ⟨((h x hx).2 hm).1, ?_⟩⟩
    rcases ((h x hx).2 hm).2 with e' | ⟨y, hy, ha, hb⟩
    · exact Or.inl e'
    · exact Or.inr ⟨y, hy, ha, Nat.le_trans (Nat.succ_le_succ (hle y)) hb⟩
theorem sp_Iv_pass {p : Nat → Bool} {c : Nat} {F : Nat → Nat} (h : sp_Iv p c F) : ∀ n, n ≤ 25 → sp_Iv p c (sp_pass p F n) := by
  intro n
  induction n with
  | zero => exact fun _ => h
  | succ n ih =>
    intro hn
    cases z : p n with
    | false => rw [sp_pass_f z]; exact ih (by omega)
    | true => rw [sp_pass_t z]; exact sp_Iv_un (by omega) z (ih (by omega))
theorem sp_Iv_it {p : Nat → Bool} {c : Nat} {F : Nat → Nat} (h : sp_Iv p c F) : ∀ n, sp_Iv p c (sp_it p F n) := by
  intro n
  induction n with
  | zero => exact h
  | succ n ih => rw [sp_it_s]; exact sp_Iv_pass ih 25 (Nat.le_refl _)
theorem sp_Iv_l0 {p : Nat → Bool} {c : Nat} : sp_Iv p c (sp_l0 p c) := by
  intro x hx
  unfold sp_l0
  by_cases z : x = c
  · subst z
    rw [mj_un_eq]
    by_cases q : p x = true
    · rw [if_pos q]; exact ⟨Nat.le_refl _, fun _ => ⟨q, Or.inl rfl⟩⟩
    · rw [if_neg q]; exact ⟨by decide, fun y => absurd y (by decide)⟩
  · rw [mj_un_ne z]; exact ⟨by decide, fun y => absurd y (by decide)⟩
theorem sp_pass_dn {p : Nat → Bool} {F : Nat → Nat} : ∀ n q, sp_pass p F n q ≤ F q := by
  intro n
  induction n with
  | zero => exact fun _ => Nat.le_refl _
  | succ n ih =>
    intro q
    cases z : p n with
    | false => rw [sp_pass_f z]; exact ih q
    | true =>
      rw [sp_pass_t z]
      by_cases y : q = n
      · rw [y, mj_un_eq]; exact Nat.le_trans sp_lnv_le (ih n)
      · rw [mj_un_ne y]; exact ih q
theorem sp_it_dn {p : Nat → Bool} {F : Nat → Nat} : ∀ n q, sp_it p F n q ≤ F q := by
  intro n
  induction n with
  | zero => exact fun _ => Nat.le_refl _
  | succ n ih => intro q; rw [sp_it_s]; exact Nat.le_trans (sp_pass_dn 25 q) (ih q)
/-- a row that a pass leaves: no open cell can be nearer -/
theorem sp_pass_fix {p : Nat → Bool} {F : Nat → Nat} : ∀ n, n ≤ 25 → sp_chg p F n = 0 → sp_pass p F n = F ∧ ∀ k, k < n → p k = true → sp_lnv F k 4 = F k := by
  intro n
  induction n with
  | zero => exact fun _ _ => ⟨rfl, fun k hk => absurd hk (Nat.not_lt_zero _)⟩
  | succ n ih =>
    intro hn h
    rw [sp_chg_s] at h
    by_cases q : p n = true ∧ sp_lnv (sp_pass p F n) n 4 < sp_pass p F n n
    · rw [if_pos q] at h; exact absurd h (by decide)
    · rw [if_neg q] at h
      have hi := ih (by omega) h
      cases z : p n with
      | false =>
        refine ⟨by rw [sp_pass_f z]; exact hi.1, fun k hk hp => ?_⟩
        by_cases y : k = n
        · subst y; rw [z] at hp; exact absurd hp (by decide)
        · exact hi.2 k (by omega) hp
      | true =>
        rw [hi.1] at q
        have e : sp_lnv F n 4 = F n := by
          have := @sp_lnv_le F n 4
          have : ¬ sp_lnv F n 4 < F n := fun y => q ⟨z, y⟩
          omega
        refine ⟨by rw [sp_pass_t z, hi.1, e, sp_us], fun k hk hp => ?_⟩
        by_cases y : k = n
        · subst y; exact e
        · exact hi.2 k (by omega) hp
theorem sp_lnv_nb {F : Nat → Nat} {x : Nat} : ∀ n d, d < n → sp_nbk x d = true → sp_lnv F x n ≤ F (sp_nbr x d) + 1 := by
  intro n
  induction n with
  | zero => exact fun d hd => absurd hd (Nat.not_lt_zero _)
  | succ n ih =>
    intro d hd h
    rw [sp_lnv_s]
    by_cases y : d = n
    · subst y
      by_cases q : F (sp_nbr x d) + 1 < sp_lnv F x d
      · rw [if_pos ⟨h, q⟩]; exact Nat.le_refl _
      · rw [if_neg (fun z => q z.2)]; omega
    · have := ih d (by omega) h
      split <;> omega
theorem sp_abs_nb : ∀ x, x < 25 → ∀ y, y < 25 → sp_abs y x = true → ∃ d, d < 4 ∧ sp_nbk x d = true ∧ sp_nbr x d = y := by decide +kernel
/-- the row far behind layFar: each open cell is at the most one farther than each neighbour -/
theorem sp_lay_nb {T J : Nat → Nat} {w o c x y : Nat} (hx : x < 25) (hy : y < 25) (ha : sp_abs y x = true) (hp : sp_mop T J w o x = true) : sp_lay T J w o c x ≤ sp_lay T J w o c y + 1 := by
  have h0 := @sp_fl_m (sp_mop T J w o) (sp_l0 (sp_mop T J w o) c) sp_l0_le
  have hf := (sp_pass_fix 25 (Nat.le_refl _) (sp_fl_st h0).2).2 x hx hp
  obtain ⟨d, h1, h2, h3⟩ := sp_abs_nb x hx y hy ha
  have := @sp_lnv_nb (sp_it (sp_mop T J w o) (sp_l0 (sp_mop T J w o) c) sp_many) x 4 d h1 h2
  rw [hf, h3] at this
  exact this
theorem sp_lay_iv {T J : Nat → Nat} {w o c : Nat} : sp_Iv (sp_mop T J w o) c (sp_lay T J w o c) := sp_Iv_it sp_Iv_l0 _
theorem sp_lay_c {T J : Nat → Nat} {w o c : Nat} (hp : sp_mop T J w o c = true) : sp_lay T J w o c c ≤ 1 := by
  have := @sp_it_dn (sp_mop T J w o) (sp_l0 (sp_mop T J w o) c) sp_many c
  rw [show sp_l0 (sp_mop T J w o) c c = 1 by unfold sp_l0; rw [mj_un_eq, if_pos hp]] at this
  exact this
/-- farther than one: a neighbour is exactly one nearer -/
theorem sp_lay_st {T J : Nat → Nat} {w o c x : Nat} (hx : x < 25) (h1 : 1 < sp_lay T J w o c x) (h2 : sp_lay T J w o c x < 1000000) : ∃ y, y < 25 ∧ sp_abs y x = true ∧ sp_lay T J w o c y = sp_lay T J w o c x - 1 := by
  obtain ⟨hp, h⟩ := (@sp_lay_iv T J w o c x hx).2 h2
  rcases h with e | ⟨y, hy, ha, hb⟩
  · subst e; have := sp_lay_c hp; omega
  · have := sp_lay_nb (c := c) hx hy ha hp
    exact ⟨y, hy, ha, by omega⟩
theorem sp_lay_1 {T J : Nat → Nat} {w o c x : Nat} (hx : x < 25) (h1 : sp_lay T J w o c x ≤ 1) : x = c := by
  obtain ⟨hp, h⟩ := (@sp_lay_iv T J w o c x hx).2 (by omega)
  rcases h with e | ⟨y, hy, ha, hb⟩
  · exact e
  · have := (@sp_lay_iv T J w o c y hy).1; omega
theorem sp_nxf {T J : Nat → Nat} {w o c x : Nat} (hx : x < 25) (h1 : 1 < sp_lay T J w o c x) (h2 : sp_lay T J w o c x < 1000000) : sp_fst (sp_nxp (sp_lay T J w o c) x) 25 < 25 := by
  obtain ⟨y, hy, ha, hb⟩ := sp_lay_st hx h1 h2
  refine Nat.lt_of_le_of_ne sp_fst_le (fun q => ?_)
  have := sp_fst_f (p := sp_nxp (sp_lay T J w o c) x) (n := 25) (i := y) (by omega)
  rw [sp_nxp_t ha hb] at this
  exact absurd this (by decide)
