def mj_al64 (N : Nat) (K : Nat → Nat) : va_E := .inl (1, N, .inr (.inl (fun j => lN (K j))))
def mj_im (κ : Nat → Bool) : Nat → Option Nat := fun j => if j = 0 then (if κ 0 then some 60 else none) else if j = 1 then (if κ 1 then some 80 else none) else none
def mj_c0 (κ : Nat → Bool) (C : Nat → Nat → Nat) : Nat → Option va_E
  | 0 => some (.inr (8, [.ref 20, .ref 40, .ref 15, .ref 1, .ref 4, .ref 7, .ref 11, .ref 12, .ref 13, .ref 14, .long (lN (C 0 0)), .long (lN (C 0 1))]))
  | 1 => some (.inr (3, [.ref 2, .ref 3]))
  | 2 => some (mj_ar 25 (C 2))
  | 3 => some (mj_ar 25 (C 3))
  | 4 => some (.inr (6, [.ref 5, .ref 6]))
  | 5 => some (mj_ar 25 (C 5))
  | 6 => some (mj_ar 25 (C 6))
  | 7 => some (.inr (4, [.ref 8, .int (nI (C 7 0)), .ref 9, .ref 10, .int (nI (C 7 1)), .int (nI (C 7 2))]))
  | 8 => some (mj_ar 150 (C 8))
  | 9 => some (mj_ar 151 (C 9))
  | 10 => some (mj_ar 151 (C 10))
  | 11 => some (mj_ar 3 (C 11))
  | 12 => some (mj_ar 6 (C 12))
  | 13 => some (mj_al64 100 (C 13))
  | 14 => some (mj_al64 100 (C 14))
  | 15 => some (.inl (3, 2, .inr (.inr (.inr (.inr (mj_im κ))))))
  | _ => none
def mj_c1 (C : Nat → Nat → Nat) : Nat → Option va_E
  | 0 => some (.inr (9, [.ref 101, .ref 102, .ref 103, .ref 104, .long (lN (C 100 0)), .long (lN (C 100 1)), .ref 105, .ref 106, .ref 107, .int (nI (C 100 2)), .int (nI (C 100 3)), .int (nI (C 100 4)), .int (nI (C 100 5)), .int (nI (C 100 6)), .ref 108, .ref 109]))
  | 1 => some (mj_ar 362 (C 101))
  | 2 => some (mj_ar 724 (C 102))
  | 3 => some (.inl (2, 2, .inl (fun j => nI (C 103 j))))
  | 4 => some (mj_ar 3 (C 104))
  | 5 => some (mj_ar 25 (C 105))
  | 6 => some (mj_ar 25 (C 106))
  | 7 => some (mj_ar 150 (C 107))
  | 8 => some (mj_ar 154 (C 108))
  | 9 => some (mj_ar 3 (C 109))
  | _ => none
/-- all cells: the class's at 0 .. 99 (its lakes at 20, 40, 60, 80), the reference's at 100 .. 109 -/
def hh (κ : Nat → Bool) (C : Nat → Nat → Nat) : mj_H := fun j => if j < 20 then mj_c0 κ C j else if j < 39 then some (mj_lc 20 C (j - 20)) else if j < 40 then none else if j < 59 then some (mj_lc 40 C (j - 40)) else if j < 60 then none else if j < 79 then (if κ 0 then some (mj_lc 60 C (j - 60)) else none) else if j < 80 then none else if j < 99 then (if κ 1 then some (mj_lc 80 C (j - 80)) else none) else if j < 100 then none else mj_c1 C (j - 100)
theorem hc0 (κ : Nat → Bool) (C : Nat → Nat → Nat) : hh κ C 0 = some (.inr (8, [.ref 20, .ref 40, .ref 15, .ref 1, .ref 4, .ref 7, .ref 11, .ref 12, .ref 13, .ref 14, .long (lN (C 0 0)), .long (lN (C 0 1))])) := rfl
theorem hc1 (κ : Nat → Bool) (C : Nat → Nat → Nat) : hh κ C 1 = some (.inr (3, [.ref 2, .ref 3])) := rfl
theorem hc2 (κ : Nat → Bool) (C : Nat → Nat → Nat) : hh κ C 2 = some (mj_ar 25 (C 2)) := rfl
theorem hc3 (κ : Nat → Bool) (C : Nat → Nat → Nat) : hh κ C 3 = some (mj_ar 25 (C 3)) := rfl
theorem hc4 (κ : Nat → Bool) (C : Nat → Nat → Nat) : hh κ C 4 = some (.inr (6, [.ref 5, .ref 6])) := rfl
theorem hc5 (κ : Nat → Bool) (C : Nat → Nat → Nat) : hh κ C 5 = some (mj_ar 25 (C 5)) := rfl
theorem hc6 (κ : Nat → Bool) (C : Nat → Nat → Nat) : hh κ C 6 = some (mj_ar 25 (C 6)) := rfl
theorem hc7 (κ : Nat → Bool) (C : Nat → Nat → Nat) : hh κ C 7 = some (.inr (4, [.ref 8, .int (nI (C 7 0)), .ref 9, .ref 10, .int (nI (C 7 1)), .int (nI (C 7 2))])) := rfl
theorem hc8 (κ : Nat → Bool) (C : Nat → Nat → Nat) : hh κ C 8 = some (mj_ar 150 (C 8)) := rfl
theorem hc9 (κ : Nat → Bool) (C : Nat → Nat → Nat) : hh κ C 9 = some (mj_ar 151 (C 9)) := rfl
theorem hc10 (κ : Nat → Bool) (C : Nat → Nat → Nat) : hh κ C 10 = some (mj_ar 151 (C 10)) := rfl
theorem hc11 (κ : Nat → Bool) (C : Nat → Nat → Nat) : hh κ C 11 = some (mj_ar 3 (C 11)) := rfl
theorem hc12 (κ : Nat → Bool) (C : Nat → Nat → Nat) : hh κ C 12 = some (mj_ar 6 (C 12)) := rfl
theorem hc13 (κ : Nat → Bool) (C : Nat → Nat → Nat) : hh κ C 13 = some (mj_al64 100 (C 13)) := rfl
theorem hc14 (κ : Nat → Bool) (C : Nat → Nat → Nat) : hh κ C 14 = some (mj_al64 100 (C 14)) := rfl
theorem hc15 (κ : Nat → Bool) (C : Nat → Nat → Nat) : hh κ C 15 = some (.inl (3, 2, .inr (.inr (.inr (.inr (mj_im κ)))))) := rfl
theorem hc20 (κ : Nat → Bool) (C : Nat → Nat → Nat) : hh κ C 20 = some (.inr (0, [.ref 21, .ref 24, .ref 27, .ref 31, .ref 33, .ref 35, .ref 38, .int (nI (C 20 0))])) := rfl
theorem hc21 (κ : Nat → Bool) (C : Nat → Nat → Nat) : hh κ C 21 = some (.inr (3, [.ref 22, .ref 23])) := rfl
theorem hc22 (κ : Nat → Bool) (C : Nat → Nat → Nat) : hh κ C 22 = some (mj_ar 25 (C 22)) := rfl
theorem hc23 (κ : Nat → Bool) (C : Nat → Nat → Nat) : hh κ C 23 = some (mj_ar 25 (C 23)) := rfl
theorem hc24 (κ : Nat → Bool) (C : Nat → Nat → Nat) : hh κ C 24 = some (.inr (7, [.ref 25, .ref 26])) := rfl
theorem hc25 (κ : Nat → Bool) (C : Nat → Nat → Nat) : hh κ C 25 = some (mj_ar 7 (C 25)) := rfl
theorem hc26 (κ : Nat → Bool) (C : Nat → Nat → Nat) : hh κ C 26 = some (mj_ar 7 (C 26)) := rfl
theorem hc27 (κ : Nat → Bool) (C : Nat → Nat → Nat) : hh κ C 27 = some (.inr (5, [.ref 28, .ref 29, .ref 30, .int (nI (C 27 0))])) := rfl
theorem hc28 (κ : Nat → Bool) (C : Nat → Nat → Nat) : hh κ C 28 = some (mj_ar 7 (C 28)) := rfl
theorem hc29 (κ : Nat → Bool) (C : Nat → Nat → Nat) : hh κ C 29 = some (mj_ar 7 (C 29)) := rfl
theorem hc30 (κ : Nat → Bool) (C : Nat → Nat → Nat) : hh κ C 30 = some (mj_ar 7 (C 30)) := rfl
theorem hc31 (κ : Nat → Bool) (C : Nat → Nat → Nat) : hh κ C 31 = some (.inr (2, [.ref 32, .int (nI (C 31 0))])) := rfl
theorem hc32 (κ : Nat → Bool) (C : Nat → Nat → Nat) : hh κ C 32 = some (mj_ar 30 (C 32)) := rfl
theorem hc33 (κ : Nat → Bool) (C : Nat → Nat → Nat) : hh κ C 33 = some (.inr (2, [.ref 34, .int (nI (C 33 0))])) := rfl
theorem hc34 (κ : Nat → Bool) (C : Nat → Nat → Nat) : hh κ C 34 = some (mj_ar 30 (C 34)) := rfl
theorem hc35 (κ : Nat → Bool) (C : Nat → Nat → Nat) : hh κ C 35 = some (.inr (1, [.ref 36, .ref 37, .int (nI (C 35 0))])) := rfl
theorem hc36 (κ : Nat → Bool) (C : Nat → Nat → Nat) : hh κ C 36 = some (mj_ar 200 (C 36)) := rfl
theorem hc37 (κ : Nat → Bool) (C : Nat → Nat → Nat) : hh κ C 37 = some (mj_ar 8 (C 37)) := rfl
theorem hc38 (κ : Nat → Bool) (C : Nat → Nat → Nat) : hh κ C 38 = some (mj_ar 4 (C 38)) := rfl
theorem hc40 (κ : Nat → Bool) (C : Nat → Nat → Nat) : hh κ C 40 = some (.inr (0, [.ref 41, .ref 44, .ref 47, .ref 51, .ref 53, .ref 55, .ref 58, .int (nI (C 40 0))])) := rfl
theorem hc41 (κ : Nat → Bool) (C : Nat → Nat → Nat) : hh κ C 41 = some (.inr (3, [.ref 42, .ref 43])) := rfl
theorem hc42 (κ : Nat → Bool) (C : Nat → Nat → Nat) : hh κ C 42 = some (mj_ar 25 (C 42)) := rfl
theorem hc43 (κ : Nat → Bool) (C : Nat → Nat → Nat) : hh κ C 43 = some (mj_ar 25 (C 43)) := rfl
theorem hc44 (κ : Nat → Bool) (C : Nat → Nat → Nat) : hh κ C 44 = some (.inr (7, [.ref 45, .ref 46])) := rfl
theorem hc45 (κ : Nat → Bool) (C : Nat → Nat → Nat) : hh κ C 45 = some (mj_ar 7 (C 45)) := rfl
theorem hc46 (κ : Nat → Bool) (C : Nat → Nat → Nat) : hh κ C 46 = some (mj_ar 7 (C 46)) := rfl
theorem hc47 (κ : Nat → Bool) (C : Nat → Nat → Nat) : hh κ C 47 = some (.inr (5, [.ref 48, .ref 49, .ref 50, .int (nI (C 47 0))])) := rfl
theorem hc48 (κ : Nat → Bool) (C : Nat → Nat → Nat) : hh κ C 48 = some (mj_ar 7 (C 48)) := rfl
theorem hc49 (κ : Nat → Bool) (C : Nat → Nat → Nat) : hh κ C 49 = some (mj_ar 7 (C 49)) := rfl
theorem hc50 (κ : Nat → Bool) (C : Nat → Nat → Nat) : hh κ C 50 = some (mj_ar 7 (C 50)) := rfl
theorem hc51 (κ : Nat → Bool) (C : Nat → Nat → Nat) : hh κ C 51 = some (.inr (2, [.ref 52, .int (nI (C 51 0))])) := rfl
theorem hc52 (κ : Nat → Bool) (C : Nat → Nat → Nat) : hh κ C 52 = some (mj_ar 30 (C 52)) := rfl
theorem hc53 (κ : Nat → Bool) (C : Nat → Nat → Nat) : hh κ C 53 = some (.inr (2, [.ref 54, .int (nI (C 53 0))])) := rfl
theorem hc54 (κ : Nat → Bool) (C : Nat → Nat → Nat) : hh κ C 54 = some (mj_ar 30 (C 54)) := rfl
theorem hc55 (κ : Nat → Bool) (C : Nat → Nat → Nat) : hh κ C 55 = some (.inr (1, [.ref 56, .ref 57, .int (nI (C 55 0))])) := rfl
theorem hc56 (κ : Nat → Bool) (C : Nat → Nat → Nat) : hh κ C 56 = some (mj_ar 200 (C 56)) := rfl
theorem hc57 (κ : Nat → Bool) (C : Nat → Nat → Nat) : hh κ C 57 = some (mj_ar 8 (C 57)) := rfl
theorem hc58 (κ : Nat → Bool) (C : Nat → Nat → Nat) : hh κ C 58 = some (mj_ar 4 (C 58)) := rfl
theorem hc100 (κ : Nat → Bool) (C : Nat → Nat → Nat) : hh κ C 100 = some (.inr (9, [.ref 101, .ref 102, .ref 103, .ref 104, .long (lN (C 100 0)), .long (lN (C 100 1)), .ref 105, .ref 106, .ref 107, .int (nI (C 100 2)), .int (nI (C 100 3)), .int (nI (C 100 4)), .int (nI (C 100 5)), .int (nI (C 100 6)), .ref 108, .ref 109])) := rfl
theorem hc101 (κ : Nat → Bool) (C : Nat → Nat → Nat) : hh κ C 101 = some (mj_ar 362 (C 101)) := rfl
theorem hc102 (κ : Nat → Bool) (C : Nat → Nat → Nat) : hh κ C 102 = some (mj_ar 724 (C 102)) := rfl
theorem hc103 (κ : Nat → Bool) (C : Nat → Nat → Nat) : hh κ C 103 = some (.inl (2, 2, .inl (fun j => nI (C 103 j)))) := rfl
theorem hc104 (κ : Nat → Bool) (C : Nat → Nat → Nat) : hh κ C 104 = some (mj_ar 3 (C 104)) := rfl
theorem hc105 (κ : Nat → Bool) (C : Nat → Nat → Nat) : hh κ C 105 = some (mj_ar 25 (C 105)) := rfl
theorem hc106 (κ : Nat → Bool) (C : Nat → Nat → Nat) : hh κ C 106 = some (mj_ar 25 (C 106)) := rfl
theorem hc107 (κ : Nat → Bool) (C : Nat → Nat → Nat) : hh κ C 107 = some (mj_ar 150 (C 107)) := rfl
theorem hc108 (κ : Nat → Bool) (C : Nat → Nat → Nat) : hh κ C 108 = some (mj_ar 154 (C 108)) := rfl
theorem hc109 (κ : Nat → Bool) (C : Nat → Nat → Nat) : hh κ C 109 = some (mj_ar 3 (C 109)) := rfl
theorem mj_lk20 {κ : Nat → Bool} {C : Nat → Nat → Nat} : mj_Lk (hh κ C) 20 C := fun o ho => by unfold hh; rw [if_neg (by omega), if_pos (by omega), show 20 + o - 20 = o by omega]
theorem mj_lk40 {κ : Nat → Bool} {C : Nat → Nat → Nat} : mj_Lk (hh κ C) 40 C := fun o ho => by unfold hh; rw [if_neg (by omega), if_neg (by omega), if_neg (by omega), if_pos (by omega), show 40 + o - 40 = o by omega]
theorem mj_lk60 {κ : Nat → Bool} {C : Nat → Nat → Nat} (hk : κ 0 = true) : mj_Lk (hh κ C) 60 C := fun o ho => by unfold hh; rw [if_neg (by omega), if_neg (by omega), if_neg (by omega), if_neg (by omega), if_neg (by omega), if_pos (by omega), if_pos hk, show 60 + o - 60 = o by omega]
theorem mj_lk80 {κ : Nat → Bool} {C : Nat → Nat → Nat} (hk : κ 1 = true) : mj_Lk (hh κ C) 80 C := fun o ho => by unfold hh; rw [if_neg (by omega), if_neg (by omega), if_neg (by omega), if_neg (by omega), if_neg (by omega), if_neg (by omega), if_neg (by omega), if_pos (by omega), if_pos hk, show 80 + o - 80 = o by omega]
theorem mj_lc_dep {b o : Nat} {C D : Nat → Nat → Nat} (ho : o < 19) (h : C (b + o) = D (b + o)) : mj_lc b C o = mj_lc b D o := by
  rcases mj_19 ho with rfl | rfl | rfl | rfl | rfl | rfl | rfl | rfl | rfl | rfl | rfl | rfl | rfl | rfl | rfl | rfl | rfl | rfl | rfl <;> (try simp only [Nat.add_zero] at h) <;> first | rfl | simp only [mj_lc, h]
theorem mj_c0_dep {κ : Nat → Bool} {C D : Nat → Nat → Nat} {j : Nat} (h : C j = D j) : mj_c0 κ C j = mj_c0 κ D j := by
  unfold mj_c0; split <;> first | rfl | rw [h]
theorem mj_c1_dep {C D : Nat → Nat → Nat} {j : Nat} (h : C (100 + j) = D (100 + j)) : mj_c1 C j = mj_c1 D j := by
  unfold mj_c1; split <;> (try simp only [Nat.reduceAdd] at h) <;> first | rfl | rw [h]
theorem hh_dep {κ : Nat → Bool} {C D : Nat → Nat → Nat} {j : Nat} (h : C j = D j) : hh κ C j = hh κ D j := by
  unfold hh
  by_cases h1 : j < 20
  · rw [if_pos h1, if_pos h1, mj_c0_dep h]
  by_cases h2 : j < 39
  · rw [if_neg h1, if_neg h1, if_pos h2, if_pos h2, mj_lc_dep (D := D) (by omega) (by rwa [show 20 + (j - 20) = j by omega])]
  by_cases h3 : j < 40
  · rw [if_neg h1, if_neg h1, if_neg h2, if_neg h2, if_pos h3, if_pos h3]
  by_cases h4 : j < 59
  · rw [if_neg h1, if_neg h1, if_neg h2, if_neg h2, if_neg h3, if_neg h3, if_pos h4, if_pos h4, mj_lc_dep (D := D) (by omega) (by rwa [show 40 + (j - 40) = j by omega])]
  by_cases h5 : j < 60
  · rw [if_neg h1, if_neg h1, if_neg h2, if_neg h2, if_neg h3, if_neg h3, if_neg h4, if_neg h4, if_pos h5, if_pos h5]
  by_cases h6 : j < 79
  · rw [if_neg h1, if_neg h1, if_neg h2, if_neg h2, if_neg h3, if_neg h3, if_neg h4, if_neg h4, if_neg h5, if_neg h5, if_pos h6, if_pos h6, mj_lc_dep (D := D) (by omega) (by rwa [show 60 + (j - 60) = j by omega])]
  by_cases h7 : j < 80
  · rw [if_neg h1, if_neg h1, if_neg h2, if_neg h2, if_neg h3, if_neg h3, if_neg h4, if_neg h4, if_neg h5, if_neg h5, if_neg h6, if_neg h6, if_pos h7, if_pos h7]
  by_cases h8 : j < 99
  · rw [if_neg h1, if_neg h1, if_neg h2, if_neg h2, if_neg h3, if_neg h3, if_neg h4, if_neg h4, if_neg h5, if_neg h5, if_neg h6, if_neg h6, if_neg h7, if_neg h7, if_pos h8, if_pos h8, mj_lc_dep (D := D) (by omega) (by rwa [show 80 + (j - 80) = j by omega])]
  rw [if_neg h1, if_neg h1, if_neg h2, if_neg h2, if_neg h3, if_neg h3, if_neg h4, if_neg h4, if_neg h5, if_neg h5, if_neg h6, if_neg h6, if_neg h7, if_neg h7, if_neg h8, if_neg h8]
  by_cases h9 : j < 100
  · rw [if_pos h9, if_pos h9]
  · rw [if_neg h9, if_neg h9]; exact mj_c1_dep (by rwa [show 100 + (j - 100) = j by omega])
def mj_u (C : Nat → Nat → Nat) (i : Nat) (K : Nat → Nat) : Nat → Nat → Nat := fun j => if j = i then K else C j
theorem hh_s {κ : Nat → Bool} {C : Nat → Nat → Nat} {i : Nat} {e : va_E} {K : Nat → Nat} {h : mj_H} (h1 : h = hh κ C) (h2 : hh κ (mj_u C i K) i = some e) : mj_up h i e = hh κ (mj_u C i K) := by
  subst h1
  funext j
  by_cases q : j = i
  · subst q; rw [mj_up_eq, h2]
  · rw [mj_up_ne q]; exact hh_dep (show C j = (if j = i then K else C j) from (if_neg q).symm)
/-- the rows of the lake at b as D has them -/
def mj_blk (C : Nat → Nat → Nat) (b : Nat) (D : Nat → Nat → Nat) : Nat → Nat → Nat := fun j => if b ≤ j ∧ j < b + 19 then D j else C j
theorem hh_lay {κ : Nat → Bool} {C D : Nat → Nat → Nat} {b : Nat} {h : mj_H} (h1 : h = hh κ C) (h2 : ∀ E : Nat → Nat → Nat, mj_Lk (hh κ E) b E) : mj_lay h b D = hh κ (mj_blk C b D) := by
  subst h1
  funext j
  unfold mj_lay
  by_cases q : b ≤ j ∧ j < b + 19
  · rw [if_pos q]
    have := h2 (mj_blk C b D) (j - b) (by omega)
    rw [show b + (j - b) = j by omega] at this
    rw [this]
    refine congrArg some (mj_lc_dep (by omega) ?_)
    unfold mj_blk
    rw [show b + (j - b) = j by omega, if_pos q]
  · rw [if_neg q]
    exact hh_dep (show C j = (if b ≤ j ∧ j < b + 19 then D j else C j) from (if_neg q).symm)
def mj_row (q : List Nat) : Nat → Nat := fun j => q.getD j 0
def mj_Lr (b : Nat) (C : Nat → Nat → Nat) : Prop := ∀ i, C (b + 12) (i * 5) ≤ 24 ∧ C (b + 12) (i * 5 + 2) ≤ 9 ∧ C (b + 12) (i * 5 + 3) ≤ 9 ∧ C (b + 14) (i * 5) ≤ 6 ∧ C (b + 14) (i * 5 + 1) ≤ 1 ∧ C (b + 14) (i * 5 + 4) ≤ 9
def mj_CI (κ : Nat → Bool) (C : Nat → Nat → Nat) : Prop := mj_Li 20 C ∧ mj_Li 40 C ∧ (κ 0 = true → mj_Li 60 C) ∧ (κ 1 = true → mj_Li 80 C) ∧ (∀ c, C 2 c ≤ 5) ∧ (∀ c, C 3 c ≤ 99) ∧ C 7 0 ≤ 150 ∧ (∀ c, C 8 c ≤ 127) ∧ mj_Lr 20 C ∧ mj_Lr 40 C ∧ (κ 0 = true → mj_Lr 60 C) ∧ (κ 1 = true → mj_Lr 80 C)
section MJZ
variable {E : mj_E} {X : mj_XT} {cc : ByteArray} {k n pc : Nat} {L : List (Option Value)} {st : List Value} {h : mj_H}
theorem gj_zn {i : mj_I} {v w : Nat} {h1 : mj_H} (hr : i.2.2.2.1 = some .boolean) (hd : decode cc pc = .ok (.ireturn, 1)) (h0 : i.2.2.2.2.2 = (0, 0)) (hv : v = w) (h01 : w = 0 ∨ w = 1) (hh : h = h1) : gj E (mj_XM E i (mj_R (some (.int (nI w))) h1)) cc 0 0 pc L [.int (nI v)] h :=
  gj_zret hr (by subst hv; rcases h01 with rfl | rfl <;> simp [nI]) hd ⟨Nat.zero_le _, Nat.zero_le _⟩ ⟨by rw [hv], hh⟩
theorem gj_icmp_eqW {a b : Nat} {off : Int} {tgt : Nat} (ha : a < 2 ^ 32) (hb : b < 2 ^ 32) (hd : decode cc pc = .ok (.if_icmp .eq off, 3)) (ht : (pc : Int) + off = (tgt : Int)) (kt : a = b → gj E X cc k n tgt L st h) (kf : ¬ a = b → gj E X cc k n (pc + 3) L st h) : gj E X cc k n pc L (.int (nI b) :: .int (nI a) :: st) h :=
  gj_icmp_eq hd ht (fun z => kt ((nI_eqW ha hb).mp z)) (fun z => kf (fun q => z ((nI_eqW ha hb).mpr q)))
theorem gj_icmp_neW {a b : Nat} {off : Int} {tgt : Nat} (ha : a < 2 ^ 32) (hb : b < 2 ^ 32) (hd : decode cc pc = .ok (.if_icmp .ne off, 3)) (ht : (pc : Int) + off = (tgt : Int)) (kt : ¬ a = b → gj E X cc k n tgt L st h) (kf : a = b → gj E X cc k n (pc + 3) L st h) : gj E X cc k n pc L (.int (nI b) :: .int (nI a) :: st) h :=
  gj_icmp_ne hd ht (fun z => kt (fun q => z ((nI_eqW ha hb).mpr q))) (fun z => kf ((nI_eqW ha hb).mp z))
end MJZ
theorem mj_lay_out {h : mj_H} {b j : Nat} {D : Nat → Nat → Nat} (q : ¬ (b ≤ j ∧ j < b + 19)) : mj_lay h b D j = h j := if_neg q
/-- a place, or none, as the int of 32 bits -/
def sp_or (N q : Nat) : Nat := if q < N then q else 4294967295
theorem hu0 {κ : Nat → Bool} {C : Nat → Nat → Nat} {z0 z1 : Nat} {h : mj_H} (h1 : h = hh κ C) : mj_up h 0 (.inr (8, [.ref 20, .ref 40, .ref 15, .ref 1, .ref 4, .ref 7, .ref 11, .ref 12, .ref 13, .ref 14, .long (lN z0), .long (lN z1)])) = hh κ (mj_u C 0 (mj_row [z0, z1])) := hh_s h1 rfl
theorem hu2 {κ : Nat → Bool} {C : Nat → Nat → Nat} {K : Nat → Nat} {h : mj_H} (h1 : h = hh κ C) : mj_up h 2 (mj_ar 25 K) = hh κ (mj_u C 2 K) := hh_s h1 rfl
theorem hu3 {κ : Nat → Bool} {C : Nat → Nat → Nat} {K : Nat → Nat} {h : mj_H} (h1 : h = hh κ C) : mj_up h 3 (mj_ar 25 K) = hh κ (mj_u C 3 K) := hh_s h1 rfl
theorem hu5 {κ : Nat → Bool} {C : Nat → Nat → Nat} {K : Nat → Nat} {h : mj_H} (h1 : h = hh κ C) : mj_up h 5 (mj_ar 25 K) = hh κ (mj_u C 5 K) := hh_s h1 rfl
theorem hu6 {κ : Nat → Bool} {C : Nat → Nat → Nat} {K : Nat → Nat} {h : mj_H} (h1 : h = hh κ C) : mj_up h 6 (mj_ar 25 K) = hh κ (mj_u C 6 K) := hh_s h1 rfl
theorem hu7 {κ : Nat → Bool} {C : Nat → Nat → Nat} {z0 z1 z2 : Nat} {h : mj_H} (h1 : h = hh κ C) : mj_up h 7 (.inr (4, [.ref 8, .int (nI z0), .ref 9, .ref 10, .int (nI z1), .int (nI z2)])) = hh κ (mj_u C 7 (mj_row [z0, z1, z2])) := hh_s h1 rfl
theorem hu8 {κ : Nat → Bool} {C : Nat → Nat → Nat} {K : Nat → Nat} {h : mj_H} (h1 : h = hh κ C) : mj_up h 8 (mj_ar 150 K) = hh κ (mj_u C 8 K) := hh_s h1 rfl
theorem hu9 {κ : Nat → Bool} {C : Nat → Nat → Nat} {K : Nat → Nat} {h : mj_H} (h1 : h = hh κ C) : mj_up h 9 (mj_ar 151 K) = hh κ (mj_u C 9 K) := hh_s h1 rfl
theorem hu10 {κ : Nat → Bool} {C : Nat → Nat → Nat} {K : Nat → Nat} {h : mj_H} (h1 : h = hh κ C) : mj_up h 10 (mj_ar 151 K) = hh κ (mj_u C 10 K) := hh_s h1 rfl
theorem hu11 {κ : Nat → Bool} {C : Nat → Nat → Nat} {K : Nat → Nat} {h : mj_H} (h1 : h = hh κ C) : mj_up h 11 (mj_ar 3 K) = hh κ (mj_u C 11 K) := hh_s h1 rfl
theorem hu12 {κ : Nat → Bool} {C : Nat → Nat → Nat} {K : Nat → Nat} {h : mj_H} (h1 : h = hh κ C) : mj_up h 12 (mj_ar 6 K) = hh κ (mj_u C 12 K) := hh_s h1 rfl
theorem hu13 {κ : Nat → Bool} {C : Nat → Nat → Nat} {K : Nat → Nat} {h : mj_H} (h1 : h = hh κ C) : mj_up h 13 (mj_al64 100 K) = hh κ (mj_u C 13 K) := hh_s h1 rfl
theorem hu14 {κ : Nat → Bool} {C : Nat → Nat → Nat} {K : Nat → Nat} {h : mj_H} (h1 : h = hh κ C) : mj_up h 14 (mj_al64 100 K) = hh κ (mj_u C 14 K) := hh_s h1 rfl
theorem hu20 {κ : Nat → Bool} {C : Nat → Nat → Nat} {z0 : Nat} {h : mj_H} (h1 : h = hh κ C) : mj_up h 20 (.inr (0, [.ref 21, .ref 24, .ref 27, .ref 31, .ref 33, .ref 35, .ref 38, .int (nI z0)])) = hh κ (mj_u C 20 (mj_row [z0])) := hh_s h1 rfl
theorem hu22 {κ : Nat → Bool} {C : Nat → Nat → Nat} {K : Nat → Nat} {h : mj_H} (h1 : h = hh κ C) : mj_up h 22 (mj_ar 25 K) = hh κ (mj_u C 22 K) := hh_s h1 rfl
theorem hu23 {κ : Nat → Bool} {C : Nat → Nat → Nat} {K : Nat → Nat} {h : mj_H} (h1 : h = hh κ C) : mj_up h 23 (mj_ar 25 K) = hh κ (mj_u C 23 K) := hh_s h1 rfl
theorem hu25 {κ : Nat → Bool} {C : Nat → Nat → Nat} {K : Nat → Nat} {h : mj_H} (h1 : h = hh κ C) : mj_up h 25 (mj_ar 7 K) = hh κ (mj_u C 25 K) := hh_s h1 rfl
theorem hu26 {κ : Nat → Bool} {C : Nat → Nat → Nat} {K : Nat → Nat} {h : mj_H} (h1 : h = hh κ C) : mj_up h 26 (mj_ar 7 K) = hh κ (mj_u C 26 K) := hh_s h1 rfl
theorem hu27 {κ : Nat → Bool} {C : Nat → Nat → Nat} {z0 : Nat} {h : mj_H} (h1 : h = hh κ C) : mj_up h 27 (.inr (5, [.ref 28, .ref 29, .ref 30, .int (nI z0)])) = hh κ (mj_u C 27 (mj_row [z0])) := hh_s h1 rfl
theorem hu28 {κ : Nat → Bool} {C : Nat → Nat → Nat} {K : Nat → Nat} {h : mj_H} (h1 : h = hh κ C) : mj_up h 28 (mj_ar 7 K) = hh κ (mj_u C 28 K) := hh_s h1 rfl
theorem hu29 {κ : Nat → Bool} {C : Nat → Nat → Nat} {K : Nat → Nat} {h : mj_H} (h1 : h = hh κ C) : mj_up h 29 (mj_ar 7 K) = hh κ (mj_u C 29 K) := hh_s h1 rfl
theorem hu30 {κ : Nat → Bool} {C : Nat → Nat → Nat} {K : Nat → Nat} {h : mj_H} (h1 : h = hh κ C) : mj_up h 30 (mj_ar 7 K) = hh κ (mj_u C 30 K) := hh_s h1 rfl
theorem hu31 {κ : Nat → Bool} {C : Nat → Nat → Nat} {z0 : Nat} {h : mj_H} (h1 : h = hh κ C) : mj_up h 31 (.inr (2, [.ref 32, .int (nI z0)])) = hh κ (mj_u C 31 (mj_row [z0])) := hh_s h1 rfl
theorem hu32 {κ : Nat → Bool} {C : Nat → Nat → Nat} {K : Nat → Nat} {h : mj_H} (h1 : h = hh κ C) : mj_up h 32 (mj_ar 30 K) = hh κ (mj_u C 32 K) := hh_s h1 rfl
theorem hu33 {κ : Nat → Bool} {C : Nat → Nat → Nat} {z0 : Nat} {h : mj_H} (h1 : h = hh κ C) : mj_up h 33 (.inr (2, [.ref 34, .int (nI z0)])) = hh κ (mj_u C 33 (mj_row [z0])) := hh_s h1 rfl
theorem hu34 {κ : Nat → Bool} {C : Nat → Nat → Nat} {K : Nat → Nat} {h : mj_H} (h1 : h = hh κ C) : mj_up h 34 (mj_ar 30 K) = hh κ (mj_u C 34 K) := hh_s h1 rfl
theorem hu35 {κ : Nat → Bool} {C : Nat → Nat → Nat} {z0 : Nat} {h : mj_H} (h1 : h = hh κ C) : mj_up h 35 (.inr (1, [.ref 36, .ref 37, .int (nI z0)])) = hh κ (mj_u C 35 (mj_row [z0])) := hh_s h1 rfl
theorem hu36 {κ : Nat → Bool} {C : Nat → Nat → Nat} {K : Nat → Nat} {h : mj_H} (h1 : h = hh κ C) : mj_up h 36 (mj_ar 200 K) = hh κ (mj_u C 36 K) := hh_s h1 rfl
theorem hu37 {κ : Nat → Bool} {C : Nat → Nat → Nat} {K : Nat → Nat} {h : mj_H} (h1 : h = hh κ C) : mj_up h 37 (mj_ar 8 K) = hh κ (mj_u C 37 K) := hh_s h1 rfl
theorem hu38 {κ : Nat → Bool} {C : Nat → Nat → Nat} {K : Nat → Nat} {h : mj_H} (h1 : h = hh κ C) : mj_up h 38 (mj_ar 4 K) = hh κ (mj_u C 38 K) := hh_s h1 rfl
theorem hu40 {κ : Nat → Bool} {C : Nat → Nat → Nat} {z0 : Nat} {h : mj_H} (h1 : h = hh κ C) : mj_up h 40 (.inr (0, [.ref 41, .ref 44, .ref 47, .ref 51, .ref 53, .ref 55, .ref 58, .int (nI z0)])) = hh κ (mj_u C 40 (mj_row [z0])) := hh_s h1 rfl
theorem hu42 {κ : Nat → Bool} {C : Nat → Nat → Nat} {K : Nat → Nat} {h : mj_H} (h1 : h = hh κ C) : mj_up h 42 (mj_ar 25 K) = hh κ (mj_u C 42 K) := hh_s h1 rfl
theorem hu43 {κ : Nat → Bool} {C : Nat → Nat → Nat} {K : Nat → Nat} {h : mj_H} (h1 : h = hh κ C) : mj_up h 43 (mj_ar 25 K) = hh κ (mj_u C 43 K) := hh_s h1 rfl
theorem hu45 {κ : Nat → Bool} {C : Nat → Nat → Nat} {K : Nat → Nat} {h : mj_H} (h1 : h = hh κ C) : mj_up h 45 (mj_ar 7 K) = hh κ (mj_u C 45 K) := hh_s h1 rfl
theorem hu46 {κ : Nat → Bool} {C : Nat → Nat → Nat} {K : Nat → Nat} {h : mj_H} (h1 : h = hh κ C) : mj_up h 46 (mj_ar 7 K) = hh κ (mj_u C 46 K) := hh_s h1 rfl
theorem hu47 {κ : Nat → Bool} {C : Nat → Nat → Nat} {z0 : Nat} {h : mj_H} (h1 : h = hh κ C) : mj_up h 47 (.inr (5, [.ref 48, .ref 49, .ref 50, .int (nI z0)])) = hh κ (mj_u C 47 (mj_row [z0])) := hh_s h1 rfl
theorem hu48 {κ : Nat → Bool} {C : Nat → Nat → Nat} {K : Nat → Nat} {h : mj_H} (h1 : h = hh κ C) : mj_up h 48 (mj_ar 7 K) = hh κ (mj_u C 48 K) := hh_s h1 rfl
theorem hu49 {κ : Nat → Bool} {C : Nat → Nat → Nat} {K : Nat → Nat} {h : mj_H} (h1 : h = hh κ C) : mj_up h 49 (mj_ar 7 K) = hh κ (mj_u C 49 K) := hh_s h1 rfl
theorem hu50 {κ : Nat → Bool} {C : Nat → Nat → Nat} {K : Nat → Nat} {h : mj_H} (h1 : h = hh κ C) : mj_up h 50 (mj_ar 7 K) = hh κ (mj_u C 50 K) := hh_s h1 rfl
theorem hu51 {κ : Nat → Bool} {C : Nat → Nat → Nat} {z0 : Nat} {h : mj_H} (h1 : h = hh κ C) : mj_up h 51 (.inr (2, [.ref 52, .int (nI z0)])) = hh κ (mj_u C 51 (mj_row [z0])) := hh_s h1 rfl
theorem hu52 {κ : Nat → Bool} {C : Nat → Nat → Nat} {K : Nat → Nat} {h : mj_H} (h1 : h = hh κ C) : mj_up h 52 (mj_ar 30 K) = hh κ (mj_u C 52 K) := hh_s h1 rfl
theorem hu53 {κ : Nat → Bool} {C : Nat → Nat → Nat} {z0 : Nat} {h : mj_H} (h1 : h = hh κ C) : mj_up h 53 (.inr (2, [.ref 54, .int (nI z0)])) = hh κ (mj_u C 53 (mj_row [z0])) := hh_s h1 rfl
theorem hu54 {κ : Nat → Bool} {C : Nat → Nat → Nat} {K : Nat → Nat} {h : mj_H} (h1 : h = hh κ C) : mj_up h 54 (mj_ar 30 K) = hh κ (mj_u C 54 K) := hh_s h1 rfl
theorem hu55 {κ : Nat → Bool} {C : Nat → Nat → Nat} {z0 : Nat} {h : mj_H} (h1 : h = hh κ C) : mj_up h 55 (.inr (1, [.ref 56, .ref 57, .int (nI z0)])) = hh κ (mj_u C 55 (mj_row [z0])) := hh_s h1 rfl
theorem hu56 {κ : Nat → Bool} {C : Nat → Nat → Nat} {K : Nat → Nat} {h : mj_H} (h1 : h = hh κ C) : mj_up h 56 (mj_ar 200 K) = hh κ (mj_u C 56 K) := hh_s h1 rfl
theorem hu57 {κ : Nat → Bool} {C : Nat → Nat → Nat} {K : Nat → Nat} {h : mj_H} (h1 : h = hh κ C) : mj_up h 57 (mj_ar 8 K) = hh κ (mj_u C 57 K) := hh_s h1 rfl
theorem hu58 {κ : Nat → Bool} {C : Nat → Nat → Nat} {K : Nat → Nat} {h : mj_H} (h1 : h = hh κ C) : mj_up h 58 (mj_ar 4 K) = hh κ (mj_u C 58 K) := hh_s h1 rfl
theorem hu100 {κ : Nat → Bool} {C : Nat → Nat → Nat} {z0 z1 z2 z3 z4 z5 z6 : Nat} {h : mj_H} (h1 : h = hh κ C) : mj_up h 100 (.inr (9, [.ref 101, .ref 102, .ref 103, .ref 104, .long (lN z0), .long (lN z1), .ref 105, .ref 106, .ref 107, .int (nI z2), .int (nI z3), .int (nI z4), .int (nI z5), .int (nI z6), .ref 108, .ref 109])) = hh κ (mj_u C 100 (mj_row [z0, z1, z2, z3, z4, z5, z6])) := hh_s h1 rfl
theorem hu101 {κ : Nat → Bool} {C : Nat → Nat → Nat} {K : Nat → Nat} {h : mj_H} (h1 : h = hh κ C) : mj_up h 101 (mj_ar 362 K) = hh κ (mj_u C 101 K) := hh_s h1 rfl
theorem hu102 {κ : Nat → Bool} {C : Nat → Nat → Nat} {K : Nat → Nat} {h : mj_H} (h1 : h = hh κ C) : mj_up h 102 (mj_ar 724 K) = hh κ (mj_u C 102 K) := hh_s h1 rfl
theorem hu103 {κ : Nat → Bool} {C : Nat → Nat → Nat} {K : Nat → Nat} {h : mj_H} (h1 : h = hh κ C) : mj_up h 103 (.inl (2, 2, .inl (fun j => nI (K j)))) = hh κ (mj_u C 103 K) := hh_s h1 rfl
theorem hu104 {κ : Nat → Bool} {C : Nat → Nat → Nat} {K : Nat → Nat} {h : mj_H} (h1 : h = hh κ C) : mj_up h 104 (mj_ar 3 K) = hh κ (mj_u C 104 K) := hh_s h1 rfl
theorem hu105 {κ : Nat → Bool} {C : Nat → Nat → Nat} {K : Nat → Nat} {h : mj_H} (h1 : h = hh κ C) : mj_up h 105 (mj_ar 25 K) = hh κ (mj_u C 105 K) := hh_s h1 rfl
theorem hu106 {κ : Nat → Bool} {C : Nat → Nat → Nat} {K : Nat → Nat} {h : mj_H} (h1 : h = hh κ C) : mj_up h 106 (mj_ar 25 K) = hh κ (mj_u C 106 K) := hh_s h1 rfl
theorem hu107 {κ : Nat → Bool} {C : Nat → Nat → Nat} {K : Nat → Nat} {h : mj_H} (h1 : h = hh κ C) : mj_up h 107 (mj_ar 150 K) = hh κ (mj_u C 107 K) := hh_s h1 rfl
theorem hu108 {κ : Nat → Bool} {C : Nat → Nat → Nat} {K : Nat → Nat} {h : mj_H} (h1 : h = hh κ C) : mj_up h 108 (mj_ar 154 K) = hh κ (mj_u C 108 K) := hh_s h1 rfl
theorem hu109 {κ : Nat → Bool} {C : Nat → Nat → Nat} {K : Nat → Nat} {h : mj_H} (h1 : h = hh κ C) : mj_up h 109 (mj_ar 3 K) = hh κ (mj_u C 109 K) := hh_s h1 rfl
