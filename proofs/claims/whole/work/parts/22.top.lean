theorem mj_u_u {C : Nat → Nat → Nat} {i : Nat} {K L : Nat → Nat} : mj_u (mj_u C i K) i L = mj_u C i L := by
  funext j; unfold mj_u; by_cases q : j = i <;> simp [q]
theorem mj_u_self {C : Nat → Nat → Nat} {i : Nat} : mj_u C i (C i) = C := by
  funext j; unfold mj_u; by_cases q : j = i <;> simp [q]
theorem mj_u_ne {C : Nat → Nat → Nat} {i j : Nat} {K : Nat → Nat} (q : j ≠ i) : mj_u C i K j = C j := if_neg q
theorem mj_u_eq {C : Nat → Nat → Nat} {i : Nat} {K : Nat → Nat} : mj_u C i K i = K := if_pos rfl
/-- rows that no promise speaks of may change -/
theorem mj_CI_of {κ : Nat → Bool} {C D : Nat → Nat → Nat} (I : mj_CI κ C) (h : ∀ i, 20 ≤ i → i < 100 → D i = C i) (h2 : ∀ c, D 2 c ≤ 5) (h3 : ∀ c, D 3 c ≤ 99) (h7 : D 7 0 ≤ 150) (h8 : ∀ c, D 8 c ≤ 127) : mj_CI κ D := by
  have li : ∀ b, 20 ≤ b → b ≤ 80 → mj_Li b C → mj_Li b D := fun b b1 b2 q o ho c => by rw [h (b + o) (by omega) (by omega)]; exact q o ho c
  have lr : ∀ b, 20 ≤ b → b ≤ 80 → mj_Lr b C → mj_Lr b D := fun b b1 b2 q i => by rw [h (b + 12) (by omega) (by omega), h (b + 14) (by omega) (by omega)]; exact q i
  obtain ⟨i1, i2, i3, i4, i5, i6, i7, i8, i9, i10, i11, i12⟩ := I
  exact ⟨li 20 (by omega) (by omega) i1, li 40 (by omega) (by omega) i2, fun q => li 60 (by omega) (by omega) (i3 q), fun q => li 80 (by omega) (by omega) (i4 q), h2, h3, h7, h8, lr 20 (by omega) (by omega) i9, lr 40 (by omega) (by omega) i10, fun q => lr 60 (by omega) (by omega) (i11 q), fun q => lr 80 (by omega) (by omega) (i12 q)⟩
theorem mj_CI_u {κ : Nat → Bool} {C : Nat → Nat → Nat} {i : Nat} {K : Nat → Nat} (I : mj_CI κ C) (h : i < 20 ∨ 100 ≤ i) (h2 : i ≠ 2) (h3 : i ≠ 3) (h7 : i ≠ 7) (h8 : i ≠ 8) : mj_CI κ (mj_u C i K) := by
  refine mj_CI_of I (fun j j1 j2 => mj_u_ne (by omega)) ?_ ?_ ?_ ?_
  · rw [mj_u_ne (Ne.symm h2)]; exact I.2.2.2.2.1
  · rw [mj_u_ne (Ne.symm h3)]; exact I.2.2.2.2.2.1
  · rw [mj_u_ne (Ne.symm h7)]; exact I.2.2.2.2.2.2.1
  · rw [mj_u_ne (Ne.symm h8)]; exact I.2.2.2.2.2.2.2.1
def sp_nxv (s i sky : Nat) : Nat := sp_ma (sp_lk s i (sky / 10) (sky % 10)) 6
def sp_nx (s i n : Nat) : Nat × Nat := mj_fo (fun sky (p : Nat × Nat) => if sp_nxv s i sky < p.1 then (sp_nxv s i sky, sky) else p) (7, 4294967295) n
theorem sp_nx_t {s i n : Nat} (h : sp_nxv s i n < (sp_nx s i n).1) : sp_nx s i (n + 1) = (sp_nxv s i n, n) := if_pos h
theorem sp_nx_f {s i n : Nat} (h : ¬ sp_nxv s i n < (sp_nx s i n).1) : sp_nx s i (n + 1) = sp_nx s i n := if_neg h
theorem sp_nx_le {s i n : Nat} : (sp_nx s i n).1 ≤ 7 := by
  induction n with
  | zero => exact Nat.le_refl _
  | succ n ih =>
    by_cases q : sp_nxv s i n < (sp_nx s i n).1
    · rw [sp_nx_t q]; show sp_nxv s i n ≤ 7; omega
    · rw [sp_nx_f q]; exact ih
def sp_nxr (R : Nat → Nat) (s i : Nat) : Nat → Nat → Nat
  | 0 => R
  | n + 1 => sp_lk s i (n / 10) (n % 10)
def sp_tw (o a c j : Nat) : Nat := (o ||| (if Nat.testBit j 0 then 1 <<< a else 0)) ||| (if Nat.testBit j 1 then 1 <<< c else 0)
theorem mj_sh128 {a : Nat} (h : a < 7) : 1 <<< a < 128 := by rw [Nat.shiftLeft_eq, Nat.one_mul]; exact Nat.pow_lt_pow_right (by decide) h
theorem sp_tw_lt {o a c j : Nat} (ho : o < 128) (ha : a < 7) (hc : c < 7) : sp_tw o a c j < 128 := by
  unfold sp_tw
  refine Nat.or_lt_two_pow (n := 7) (Nat.or_lt_two_pow (n := 7) ho ?_) ?_
  · split
    · exact mj_sh128 ha
    · decide
  · split
    · exact mj_sh128 hc
    · decide
def sp_r1 (VW : Nat → Nat) (z u a s : Nat) : Int32 := sp_gain (sp_car VW z s) (Nat.testBit u a) (Nat.testBit s a)
def sp_rst (VW : Nat → Nat) (z u a s : Nat) : Bool := decide (sp_r1 VW z u a (s ^^^ 1 <<< a) ≤ sp_r1 VW z u a s)
