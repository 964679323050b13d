/-- what the class keeps and what the reference keeps are the same -/
def mj_Rel (κ : Nat → Bool) (C : Nat → Nat → Nat) : Prop :=
  mj_CI κ C ∧ mj_Tb (C 101) ∧ mj_RL 20 C (C 101) ∧
  (∀ i, i < 2 → (κ i = true → C 103 i = 1 ∧ mj_RL (60 + 20 * i) C (fun q => C 102 (362 * i + q)) ∧ mj_Tb (fun q => C 102 (362 * i + q))) ∧ (κ i = false → C 103 i = 0)) ∧
  C 7 0 = C 100 2 ∧ C 8 = C 107 ∧ C 11 = C 104 ∧ C 0 0 = C 100 0 ∧ C 0 1 = C 100 1
def mj_G (h : mj_H) : Prop := ∃ (κ : Nat → Bool) (C : Nat → Nat → Nat), h = hh κ C ∧ mj_Rel κ C
theorem mj_G_hh (h : mj_H) (g : mj_G h) : ∃ (κ : Nat → Bool) (C : Nat → Nat → Nat), h = hh κ C := by
  obtain ⟨κ, C, e, -⟩ := g
  exact ⟨κ, C, e⟩
def mj_ag (n : Nat) (K T : Nat → Nat) (o : Nat) : Prop := ∀ q, q < n → K q = T (o + q)
theorem mj_ag_in {n o c x : Nat} {K T : Nat → Nat} (h : mj_ag n K T o) : mj_ag n (mj_un K c x) (mj_un T (o + c) x) o := fun q hq => by
  by_cases e : q = c
  · subst e; rw [mj_un_eq, mj_un_eq]
  · rw [mj_un_ne e, mj_un_ne (by omega)]; exact h q hq
theorem mj_ag_out {n o i x : Nat} {K T : Nat → Nat} (h : mj_ag n K T o) (ho : i < o ∨ o + n ≤ i) : mj_ag n K (mj_un T i x) o := fun q hq => by
  rw [mj_un_ne (by omega)]; exact h q hq
section REL
variable {κ : Nat → Bool} {C D : Nat → Nat → Nat}
theorem rl_n (R : mj_Rel κ C) : C 27 0 = C 101 0 := R.2.2.1.1.1
theorem rl_n1 (R : mj_Rel κ C) : C 31 0 = C 101 1 := R.2.2.1.1.2.1
theorem rl_n2 (R : mj_Rel κ C) : C 33 0 = C 101 2 := R.2.2.1.1.2.2.1
theorem rl_n3 (R : mj_Rel κ C) : C 35 0 = C 101 3 := R.2.2.1.1.2.2.2.1
theorem rl_d (R : mj_Rel κ C) : C 20 0 = C 101 29 := R.2.2.1.1.2.2.2.2
theorem rl_I (R : mj_Rel κ C) : mj_ag 25 (C 23) (C 101) 4 := R.2.2.1.2.1
theorem rl_K (R : mj_Rel κ C) : mj_ag 25 (C 22) (C 101) 30 := R.2.2.1.2.2.1
theorem rl_F (R : mj_Rel κ C) : mj_ag 7 (C 25) (C 101) 55 := R.2.2.1.2.2.2.1
theorem rl_U (R : mj_Rel κ C) : mj_ag 7 (C 26) (C 101) 62 := R.2.2.1.2.2.2.2.1
theorem rl_W (R : mj_Rel κ C) : mj_ag 4 (C 38) (C 101) 69 := R.2.2.1.2.2.2.2.2.1
theorem rl_vk (R : mj_Rel κ C) : mj_ag (C 101 0) (C 28) (C 101) 73 := fun v h => (R.2.2.1.2.2.2.2.2.2.1 v h).1
theorem rl_vw (R : mj_Rel κ C) : mj_ag (C 101 0) (C 29) (C 101) 80 := fun v h => (R.2.2.1.2.2.2.2.2.2.1 v h).2.1
theorem rl_vc (R : mj_Rel κ C) : mj_ag (C 101 0) (C 30) (C 101) 87 := fun v h => (R.2.2.1.2.2.2.2.2.2.1 v h).2.2
theorem rl_N (R : mj_Rel κ C) : mj_ag (5 * C 101 1) (C 32) (C 101) 94 := R.2.2.1.2.2.2.2.2.2.2.1
theorem rl_P (R : mj_Rel κ C) : mj_ag (5 * C 101 2) (C 34) (C 101) 124 := R.2.2.1.2.2.2.2.2.2.2.2.1
theorem rl_H (R : mj_Rel κ C) : ∀ u, u < C 101 3 → C 37 u = C 101 (154 + 26 * u + 25) ∧ ∀ q, q < 25 → C 36 (u * 25 + q) = C 101 (154 + 26 * u + q) := R.2.2.1.2.2.2.2.2.2.2.2.2
theorem rl_tx (R : mj_Rel κ C) : C 7 0 = C 100 2 := R.2.2.2.2.1
theorem rl_B (R : mj_Rel κ C) : C 8 = C 107 := R.2.2.2.2.2.1
theorem rl_st (R : mj_Rel κ C) : C 11 = C 104 := R.2.2.2.2.2.2.1
theorem rl_f0 (R : mj_Rel κ C) : C 0 0 = C 100 0 := R.2.2.2.2.2.2.2.1
theorem rl_f1 (R : mj_Rel κ C) : C 0 1 = C 100 1 := R.2.2.2.2.2.2.2.2
theorem rl_im (R : mj_Rel κ C) {i : Nat} (h : i < 2) : (κ i = true → C 103 i = 1 ∧ mj_RL (60 + 20 * i) C (fun q => C 102 (362 * i + q)) ∧ mj_Tb (fun q => C 102 (362 * i + q))) ∧ (κ i = false → C 103 i = 0) := R.2.2.2.1 i h
/-- rows that stand in between only -/
def mj_sc (i : Nat) : Bool := i == 1 || i == 2 || i == 3 || i == 4 || i == 5 || i == 6 || i == 9 || i == 10 || i == 12 || i == 13 || i == 14 || i == 15 || i == 105 || i == 106 || i == 108 || i == 109
def mj_Al (C D : Nat → Nat → Nat) : Prop := (∀ i, mj_sc i = false → i ≠ 100 → D i = C i) ∧ (D 100 0 = C 100 0 ∧ D 100 1 = C 100 1 ∧ D 100 2 = C 100 2) ∧ (∀ c, D 2 c ≤ 5) ∧ ∀ c, D 3 c ≤ 99
theorem mj_Al.rf (I : mj_CI κ C) : mj_Al C C := ⟨fun _ _ _ => rfl, ⟨rfl, rfl, rfl⟩, I.2.2.2.2.1, I.2.2.2.2.2.1⟩
theorem mj_Al.u {i : Nat} {K : Nat → Nat} (h : mj_Al C D) (hi : mj_sc i = true) (h2 : i ≠ 2) (h3 : i ≠ 3) : mj_Al C (mj_u D i K) := by
  have h100 : mj_u D i K 100 = D 100 := if_neg (fun z => by subst z; exact absurd hi (by decide))
  refine ⟨fun j hj h1 => (mj_u_ne (fun z => by subst z; rw [hi] at hj; cases hj)).trans (h.1 j hj h1), ?_, ?_, ?_⟩
  · rw [h100]; exact h.2.1
  · rw [mj_u_ne (Ne.symm h2)]; exact h.2.2.1
  · rw [mj_u_ne (Ne.symm h3)]; exact h.2.2.2
theorem mj_Al.u2 {K : Nat → Nat} (h : mj_Al C D) (hK : ∀ c, K c ≤ 5) : mj_Al C (mj_u D 2 K) :=
  ⟨fun j hj h1 => (mj_u_ne (fun z => by subst z; cases hj)).trans (h.1 j hj h1), h.2.1, hK, h.2.2.2⟩
theorem mj_Al.u3 {K : Nat → Nat} (h : mj_Al C D) (hK : ∀ c, K c ≤ 99) : mj_Al C (mj_u D 3 K) :=
  ⟨fun j hj h1 => (mj_u_ne (fun z => by subst z; cases hj)).trans (h.1 j hj h1), h.2.1, h.2.2.1, hK⟩
theorem mj_Al.u100 {a b c : Nat} {l : List Nat} (h : mj_Al C D) (ha : a = C 100 0) (hb : b = C 100 1) (hc : c = C 100 2) : mj_Al C (mj_u D 100 (mj_row (a :: b :: c :: l))) :=
  ⟨fun j hj h1 => (mj_u_ne h1).trans (h.1 j hj h1), ⟨ha, hb, hc⟩, h.2.2.1, h.2.2.2⟩
theorem mj_Rel.al (R : mj_Rel κ C) (h : mj_Al C D) : mj_Rel κ D := by
  have e : ∀ i, mj_sc i = false → i ≠ 100 → D i = C i := h.1
  have e2 : ∀ i, 15 < i → i < 100 → D i = C i := fun i q1 q2 => e i (by unfold mj_sc; simp; omega) (by omega)
  refine ⟨mj_CI_of R.1 (fun i q1 q2 => e2 i (by omega) q2) h.2.2.1 h.2.2.2 (by rw [e 7 rfl (by decide)]; exact R.1.2.2.2.2.2.2.1) (by rw [e 8 rfl (by decide)]; exact R.1.2.2.2.2.2.2.2.1), ?_, ?_, fun i hi => ?_, ?_, ?_, ?_, ?_, ?_⟩
  · rw [e 101 rfl (by decide)]; exact R.2.1
  · rw [e 101 rfl (by decide)]; exact mj_RL_C R.2.2.1 fun o ho => e2 _ (by omega) (by omega)
  · rw [e 103 rfl (by decide), e 102 rfl (by decide)]
    refine ⟨fun hk => ?_, (rl_im R hi).2⟩
    obtain ⟨q1, q2, q3⟩ := (rl_im R hi).1 hk
    exact ⟨q1, mj_RL_C q2 fun o ho => e2 _ (by omega) (by omega), q3⟩
  · rw [e 7 rfl (by decide), h.2.1.2.2]; exact rl_tx R
  · rw [e 8 rfl (by decide), e 107 rfl (by decide)]; exact rl_B R
  · rw [e 11 rfl (by decide), e 104 rfl (by decide)]; exact rl_st R
  · rw [e 0 rfl (by decide), h.2.1.1]; exact rl_f0 R
  · rw [e 0 rfl (by decide), h.2.1.2.1]; exact rl_f1 R
theorem mj_Rel.bad {i : Nat} (R : mj_Rel κ C) : mj_Rel κ (mj_u (mj_u C 11 (mj_un (C 11) i (C 11 i + 1))) 104 (mj_un (C 104) i (C 104 i + 1))) := by
  refine ⟨mj_CI_u (mj_CI_u R.1 (by omega) (by omega) (by omega) (by omega) (by omega)) (by omega) (by omega) (by omega) (by omega) (by omega), R.2.1, ?_, fun j hj => ?_, R.2.2.2.2.1, R.2.2.2.2.2.1, ?_, R.2.2.2.2.2.2.2.1, R.2.2.2.2.2.2.2.2⟩
  · exact mj_RL_C R.2.2.1 fun o ho => (mj_u_ne (by omega)).trans (mj_u_ne (by omega))
  · refine ⟨fun hk => ?_, (rl_im R hj).2⟩
    obtain ⟨q1, q2, q3⟩ := (rl_im R hj).1 hk
    exact ⟨q1, mj_RL_C q2 fun o ho => (mj_u_ne (by omega)).trans (mj_u_ne (by omega)), q3⟩
  · show mj_un (C 11) i (C 11 i + 1) = mj_un (C 104) i (C 104 i + 1)
    rw [rl_st R]
/-- another lake now -/
theorem mj_Rel.now (R : mj_Rel κ C) (ci : mj_CI κ D) (tb : mj_Tb (D 101)) (rl : mj_RL 20 D (D 101)) (e : ∀ i, (i = 0 ∨ i = 7 ∨ i = 8 ∨ i = 11 ∨ (60 ≤ i ∧ i < 101) ∨ (101 < i ∧ i < 105) ∨ i = 107) → D i = C i) : mj_Rel κ D := by
  refine ⟨ci, tb, rl, fun i hi => ?_, ?_, ?_, ?_, ?_, ?_⟩
  · rw [e 103 (by omega), e 102 (by omega)]
    refine ⟨fun hk => ?_, (rl_im R hi).2⟩
    obtain ⟨q1, q2, q3⟩ := (rl_im R hi).1 hk
    exact ⟨q1, mj_RL_C q2 fun o ho => e _ (by omega), q3⟩
  · rw [e 7 (by omega), e 100 (by omega)]; exact rl_tx R
  · rw [e 8 (by omega), e 107 (by omega)]; exact rl_B R
  · rw [e 11 (by omega), e 104 (by omega)]; exact rl_st R
  · rw [e 0 (by omega), e 100 (by omega)]; exact rl_f0 R
  · rw [e 0 (by omega), e 100 (by omega)]; exact rl_f1 R
theorem mj_CI_20 {i : Nat} {K : Nat → Nat} (I : mj_CI κ C) (h : 20 ≤ i) (h2 : i < 39) (h3 : i ≠ 32) (h4 : i ≠ 34) (hK : ∀ c, K c ≤ mj_lim (i - 20)) : mj_CI κ (mj_u C i K) := by
  obtain ⟨I1, I2, I3, I4, I5, I6, I7, I8, I9, I10, I11, I12⟩ := I
  refine ⟨fun o ho c => ?_, fun o ho c => ?_, fun k o ho c => ?_, fun k o ho c => ?_, ?_, ?_, ?_, ?_, fun q => ?_, fun q => ?_, fun k q => ?_, fun k q => ?_⟩
  · by_cases e : 20 + o = i
    · subst e
      rw [show mj_u C (20 + o) K (20 + o) = K from if_pos rfl]
      have := hK c
      rwa [Nat.add_sub_cancel_left] at this
    · rw [mj_u_ne e]; exact I1 o ho c
  · rw [mj_u_ne (by omega)]; exact I2 o ho c
  · rw [mj_u_ne (by omega)]; exact I3 k o ho c
  · rw [mj_u_ne (by omega)]; exact I4 k o ho c
  · rw [mj_u_ne (by omega)]; exact I5
  · rw [mj_u_ne (by omega)]; exact I6
  · rw [mj_u_ne (by omega)]; exact I7
  · rw [mj_u_ne (by omega)]; exact I8
  · rw [mj_u_ne (show 20 + 12 ≠ i by omega), mj_u_ne (show 20 + 14 ≠ i by omega)]; exact I9 q
  · rw [mj_u_ne (show 40 + 12 ≠ i by omega), mj_u_ne (show 40 + 14 ≠ i by omega)]; exact I10 q
  · rw [mj_u_ne (show 60 + 12 ≠ i by omega), mj_u_ne (show 60 + 14 ≠ i by omega)]; exact I11 k q
  · rw [mj_u_ne (show 80 + 12 ≠ i by omega), mj_u_ne (show 80 + 14 ≠ i by omega)]; exact I12 k q
end REL
theorem mj_Rel0 : mj_Rel mj_k0 mj_C0 := by
  have z : ∀ i c, 20 ≤ i → i < 100 → mj_C0 i c = 0 := fun i c h1 h2 => by
    unfold mj_C0
    split <;> first | rfl | omega
  refine ⟨⟨fun o ho c => ?_, fun o ho c => ?_, fun k => (nomatch k), fun k => (nomatch k), fun c => Nat.zero_le _, fun c => Nat.zero_le _, Nat.zero_le _, fun c => Nat.zero_le _, fun q => ?_, fun q => ?_, fun k => (nomatch k), fun k => (nomatch k)⟩, mj_Tb_beg (Nat.zero_le _), ?_, fun i hi => ⟨fun k => (nomatch k), fun _ => rfl⟩, rfl, rfl, rfl, rfl, rfl⟩
  · rw [z _ _ (by omega) (by omega)]; exact Nat.zero_le _
  · rw [z _ _ (by omega) (by omega)]; exact Nat.zero_le _
  · exact ⟨Nat.zero_le _, Nat.zero_le _, Nat.zero_le _, Nat.zero_le _, Nat.zero_le _, Nat.zero_le _⟩
  · exact ⟨Nat.zero_le _, Nat.zero_le _, Nat.zero_le _, Nat.zero_le _, Nat.zero_le _, Nat.zero_le _⟩
  · have := RL_rst (b := 20) (C := fun _ _ => 0) (A := fun _ => 0) (t := 0)
    refine mj_RL_C this fun o ho => ?_
    unfold mj_blk mj_rst
    rw [if_pos (by omega)]
    funext c
    rw [z _ _ (by omega) (by omega)]
    (repeat' split) <;> rfl
section STEP
variable {E : mj_E} {κ : Nat → Bool} {C D D2 : Nat → Nat → Nat} {P : Option Value → Prop} {iX iM : mj_I} {as : List Value} {r r2 : Option Value} {h2 : mj_H}
theorem mj_st (e1 : mj_Ev E iX (.ref 0 :: as) (hh κ C) (mj_R r (hh κ D))) (hP : P r) (e2 : mj_Ev E iM (.ref 100 :: as) (hh κ D) (mj_R r2 h2)) (hr : r2 = r) (h : h2 = hh κ D2) (R : mj_Rel κ D2) : mj_St E mj_G P iX iM as (hh κ C) :=
  ⟨_, e1, fun r1 h1 z => by
    obtain ⟨rfl, rfl⟩ := z
    exact ⟨hP, ⟨κ, D, rfl⟩, _, e2, fun r3 h3 z => by
      obtain ⟨rfl, rfl⟩ := z
      exact ⟨hr, κ, D2, h, R⟩⟩⟩
end STEP
theorem mj_rg {x : Int32} {m : Nat} (hm : m < 2 ^ 31) (h : nI 0 ≤ x ∧ x ≤ nI m) : ∃ k, x = nI k ∧ k ≤ m := by
  have h1 := Int32.le_iff_toInt_le.mp h.1
  have h2 := Int32.le_iff_toInt_le.mp h.2
  rw [nI_toInt (by decide)] at h1
  rw [nI_toInt hm] at h2
  refine ⟨x.toInt.toNat, ?_, by omega⟩
  apply Int32.toInt_inj.mp
  rw [nI_toInt (by omega)]
  omega
theorem mj_rg1 {x : Int32} {m : Nat} (hm : m < 2 ^ 31) (h : nI 1 ≤ x ∧ x ≤ nI m) : ∃ k, x = nI k ∧ 1 ≤ k ∧ k ≤ m := by
  have h1 := Int32.le_iff_toInt_le.mp h.1
  have h2 := Int32.le_iff_toInt_le.mp h.2
  rw [nI_toInt (by decide)] at h1
  rw [nI_toInt hm] at h2
  refine ⟨x.toInt.toNat, ?_, by omega, by omega⟩
  apply Int32.toInt_inj.mp
  rw [nI_toInt (by omega)]
  omega
theorem mj_rgt {x : Int32} {m : Nat} (hm : m < 2 ^ 31) (h : nI 0 ≤ x ∧ x < nI m) : ∃ k, x = nI k ∧ k < m := by
  have h1 := Int32.le_iff_toInt_le.mp h.1
  have h2 := Int32.lt_iff_toInt_lt.mp h.2
  rw [nI_toInt (by decide)] at h1
  rw [nI_toInt hm] at h2
  refine ⟨x.toInt.toNat, ?_, by omega⟩
  apply Int32.toInt_inj.mp
  rw [nI_toInt (by omega)]
  omega
