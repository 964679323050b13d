/-- the lake at b is what the reference's row tells -/
def mj_RL (b : Nat) (C : Nat → Nat → Nat) (A : Nat → Nat) : Prop :=
  (C (b + 7) 0 = A 0 ∧ C (b + 11) 0 = A 1 ∧ C (b + 13) 0 = A 2 ∧ C (b + 15) 0 = A 3 ∧ C b 0 = A 29) ∧
  (∀ q, q < 25 → C (b + 3) q = A (4 + q)) ∧ (∀ q, q < 25 → C (b + 2) q = A (30 + q)) ∧ (∀ q, q < 7 → C (b + 5) q = A (55 + q)) ∧ (∀ q, q < 7 → C (b + 6) q = A (62 + q)) ∧ (∀ q, q < 4 → C (b + 18) q = A (69 + q)) ∧
  (∀ v, v < A 0 → C (b + 8) v = A (73 + v) ∧ C (b + 9) v = A (80 + v) ∧ C (b + 10) v = A (87 + v)) ∧
  (∀ p, p < 5 * A 1 → C (b + 12) p = A (94 + p)) ∧ (∀ p, p < 5 * A 2 → C (b + 14) p = A (124 + p)) ∧
  (∀ u, u < A 3 → C (b + 17) u = A (154 + 26 * u + 25) ∧ ∀ q, q < 25 → C (b + 16) (u * 25 + q) = A (154 + 26 * u + q))
theorem mj_RL_C {b : Nat} {C D : Nat → Nat → Nat} {A : Nat → Nat} (h : mj_RL b C A) (e : ∀ o, o < 19 → D (b + o) = C (b + o)) : mj_RL b D A := by
  obtain ⟨⟨a0, a1, a2, a3, a4⟩, b1, b2, b3, b4, b5, b6, b7, b8, b9⟩ := h
  have e0 : D b = C b := e 0 (by decide)
  refine ⟨⟨?_, ?_, ?_, ?_, ?_⟩, ?_, ?_, ?_, ?_, ?_, ?_, ?_, ?_, ?_⟩
  · rw [e 7 (by decide)]; exact a0
  · rw [e 11 (by decide)]; exact a1
  · rw [e 13 (by decide)]; exact a2
  · rw [e 15 (by decide)]; exact a3
  · rw [e0]; exact a4
  · rw [e 3 (by decide)]; exact b1
  · rw [e 2 (by decide)]; exact b2
  · rw [e 5 (by decide)]; exact b3
  · rw [e 6 (by decide)]; exact b4
  · rw [e 18 (by decide)]; exact b5
  · rw [e 8 (by decide), e 9 (by decide), e 10 (by decide)]; exact b6
  · rw [e 12 (by decide)]; exact b7
  · rw [e 14 (by decide)]; exact b8
  · rw [e 17 (by decide), e 16 (by decide)]; exact b9
/-- the cells told in a row of all that is told -/
theorem sp_cka_o {k : Nat → Nat} {v : Nat} {A : Nat → Nat} {m x : Nat} (hk : ∀ i, i < m → k i ≤ 24) (hx : x < 30 ∨ 55 ≤ x) : sp_cka k v A m x = A x := by
  induction m with
  | zero => rfl
  | succ m ih => rw [sp_cka_s, mj_un_ne (by have := hk m (by omega); omega)]; exact ih fun i hi => hk i (by omega)
theorem sp_cka_i {k : Nat → Nat} {v : Nat} {A K : Nat → Nat} {m : Nat} (h : ∀ q, q < 25 → K q = A (30 + q)) : ∀ q, q < 25 → sp_ckr k v K m q = sp_cka k v A m (30 + q) := by
  induction m with
  | zero => exact h
  | succ m ih =>
    intro q hq
    rw [sp_ckr_s, sp_cka_s]
    by_cases z : q = k m
    · rw [z, mj_un_eq, mj_un_eq]
    · rw [mj_un_ne z, mj_un_ne (by omega)]; exact ih q hq
theorem sp_wka_e {k l : Nat → Nat} {A : Nat → Nat} {m : Nat} (hm : m ≤ 7) (x : Nat) : sp_wka k l A m x = if 55 ≤ x ∧ x < 55 + m then k (x - 55) else if 62 ≤ x ∧ x < 62 + m then l (x - 62) else A x := by
  induction m with
  | zero => rw [if_neg (by omega), if_neg (by omega)]; rfl
  | succ m ih =>
    rw [sp_wka_s]
    by_cases z : x = 62 + m
    · rw [z, mj_un_eq, if_neg (by omega), if_pos (by omega), show 62 + m - 62 = m by omega]
    rw [mj_un_ne z]
    by_cases y : x = 55 + m
    · rw [y, mj_un_eq, if_pos (by omega), show 55 + m - 55 = m by omega]
    rw [mj_un_ne y, ih (by omega)]
    by_cases w : 55 ≤ x ∧ x < 55 + m
    · rw [if_pos w, if_pos (show 55 ≤ x ∧ x < 55 + (m + 1) by omega)]
    rw [if_neg w, if_neg (show ¬ (55 ≤ x ∧ x < 55 + (m + 1)) by omega)]
    by_cases u : 62 ≤ x ∧ x < 62 + m
    · rw [if_pos u, if_pos (show 62 ≤ x ∧ x < 62 + (m + 1) by omega)]
    · rw [if_neg u, if_neg (show ¬ (62 ≤ x ∧ x < 62 + (m + 1)) by omega)]
/-- an item at the token t, when there are z voters: whether it stands, where it ends or fails, what it tells -/
def sp_m1 (B : Nat → Nat) (n t : Nat) : Nat := sp_fst (sp_cmp B n (t + 1)) 150
def sp_m2 (B : Nat → Nat) (n t : Nat) : Nat := sp_fst (sp_wmp B n t) 7
def pi_ok (B : Nat → Nat) (n t z : Nat) : Bool := if sp_tt B n t = 4294967291 then decide (sp_tt B n (t + 1) ≤ 5 ∧ 0 < sp_m1 B n t ∧ sp_tt B n (t + 1 + sp_m1 B n t + 1) = 4294967294) else if sp_tt B n t = 4294967290 then decide (0 < sp_m2 B n t ∧ sp_tt B n (t + 2 * sp_m2 B n t + 1) = 4294967294) else if sp_tt B n t = 4294967289 then decide (z < 7 ∧ sp_tt B n (t + 1) ≤ 5 ∧ (1 ≤ sp_tt B n (t + 2) ∧ sp_tt B n (t + 2) ≤ 99) ∧ sp_tt B n (t + 3) ≤ 24 ∧ sp_tt B n (t + 4) = 4294967294) else false
def pi_en (B : Nat → Nat) (n t z : Nat) : Nat := if sp_tt B n t = 4294967291 then (if sp_tt B n (t + 1) ≤ 5 then t + 1 + sp_m1 B n t + 1 else t + 1) else if sp_tt B n t = 4294967290 then sp_we B n t (sp_m2 B n t) else if sp_tt B n t = 4294967289 then (if z < 7 then (if sp_tt B n (t + 1) ≤ 5 then (if 1 ≤ sp_tt B n (t + 2) ∧ sp_tt B n (t + 2) ≤ 99 then (if sp_tt B n (t + 3) ≤ 24 then t + 4 else t + 3) else t + 2) else t + 1) else t) else t
def pi_A (B : Nat → Nat) (n t : Nat) (A : Nat → Nat) : Nat → Nat := if sp_tt B n t = 4294967291 then sp_cka (fun i => sp_tt B n (t + 1 + i + 1)) (sp_tt B n (t + 1)) A (sp_m1 B n t) else if sp_tt B n t = 4294967290 then sp_wka (fun i => sp_tt B n (t + 2 * i + 1)) (fun i => sp_tt B n (t + 2 * i + 2)) A (sp_m2 B n t) else if sp_tt B n t = 4294967289 then mj_un (mj_un (mj_un (mj_un A (73 + A 0) (sp_tt B n (t + 1))) (80 + A 0) (sp_tt B n (t + 2))) (87 + A 0) (sp_tt B n (t + 3))) 0 (A 0 + 1) else A
theorem sp_m1_f {B : Nat → Nat} {n t i : Nat} (h : i < sp_m1 B n t) : sp_tt B n (t + 1 + i + 1) ≤ 24 := sp_cmp_f (sp_fst_f h)
theorem sp_m2_f {B : Nat → Nat} {n t i : Nat} (h : i < sp_m2 B n t) : sp_tt B n (t + 2 * i + 1) ≤ 9 ∧ sp_tt B n (t + 2 * i + 2) ≤ 9 := sp_wmp_f (sp_fst_f h)
theorem sp_m2_le {B : Nat → Nat} {n t : Nat} : sp_m2 B n t ≤ 7 := sp_fst_le
/-- an item that stands ends with its ; -/
theorem pi_stop {B : Nat → Nat} {n t z : Nat} (h : pi_ok B n t z = true) : sp_tt B n (pi_en B n t z) = 4294967294 ∧ t + 1 ≤ pi_en B n t z := by
  unfold pi_ok at h
  unfold pi_en
  by_cases q1 : sp_tt B n t = 4294967291
  · rw [if_pos q1] at h ⊢
    have h2 := of_decide_eq_true h
    rw [if_pos h2.1]
    exact ⟨h2.2.2, by omega⟩
  rw [if_neg q1] at h ⊢
  by_cases q2 : sp_tt B n t = 4294967290
  · rw [if_pos q2] at h ⊢
    have h2 := of_decide_eq_true h
    rw [sp_we_1 (by omega)]
    exact ⟨h2.2, by omega⟩
  rw [if_neg q2] at h ⊢
  by_cases q3 : sp_tt B n t = 4294967289
  · rw [if_pos q3] at h ⊢
    have h2 := of_decide_eq_true h
    rw [if_pos h2.1, if_pos h2.2.1, if_pos h2.2.2.1, if_pos h2.2.2.2.1]
    exact ⟨h2.2.2.2.2, by omega⟩
  · rw [if_neg q3] at h; exact absurd h (by decide)
/-- no item goes beyond the end -/
theorem pi_le {B : Nat → Nat} {n t z : Nat} (hn : n ≤ 150) (h : t < sp_tE B n) : pi_en B n t z ≤ sp_tE B n := by
  unfold pi_en
  have st : ∀ u, u < sp_tE B n → sp_tt B n u ≤ 999 ∨ True := fun _ _ => Or.inr trivial
  have up : ∀ u, u ≤ sp_tE B n → sp_tt B n u ≤ 999 → u < sp_tE B n := fun u hu h9 => sp_tE_lt hn hu (by omega)
  by_cases q1 : sp_tt B n t = 4294967291
  · rw [if_pos q1]
    by_cases q : sp_tt B n (t + 1) ≤ 5
    · rw [if_pos q]
      have := sp_run1 (B := B) (n := n) (t := t + 1) hn (up _ (by omega) (by omega)) (sp_m1 B n t) (fun i hi => sp_m1_f hi)
      omega
    · rw [if_neg q]; omega
  rw [if_neg q1]
  by_cases q2 : sp_tt B n t = 4294967290
  · rw [if_pos q2]
    have hr := sp_run2 (B := B) (n := n) (t := t) hn h (sp_m2 B n t) (fun i hi => sp_m2_f hi)
    unfold sp_we
    by_cases q : sp_m2 B n t < 7 ∧ sp_tt B n (t + 2 * sp_m2 B n t + 1) ≤ 9
    · rw [if_pos q]; have := up (t + 2 * sp_m2 B n t + 1) (by omega) (by omega); omega
    · rw [if_neg q]; omega
  rw [if_neg q2]
  by_cases q3 : sp_tt B n t = 4294967289
  · rw [if_pos q3]
    by_cases p0 : z < 7
    · rw [if_pos p0]
      by_cases p1 : sp_tt B n (t + 1) ≤ 5
      · rw [if_pos p1]
        have u1 := up (t + 1) (by omega) (by omega)
        by_cases p2 : 1 ≤ sp_tt B n (t + 2) ∧ sp_tt B n (t + 2) ≤ 99
        · rw [if_pos p2]
          have u2 := up (t + 2) (by omega) (by omega)
          by_cases p3 : sp_tt B n (t + 3) ≤ 24
          · rw [if_pos p3]; have u3 := up (t + 3) (by omega) (by omega); omega
          · rw [if_neg p3]; omega
        · rw [if_neg p2]; omega
      · rw [if_neg p1]; omega
    · rw [if_neg p0]; omega
  · rw [if_neg q3]; omega
/-- items and then the end: whether all stand, how many or where the fault is, what they tell -/
def sp_run (B : Nat → Nat) (n : Nat) : Nat → Nat → (Nat → Nat) → Nat → Bool × Nat × (Nat → Nat)
  | 0, t, A, _ => (false, t, A)
  | F + 1, t, A, i => if sp_tt B n (t + 1) = 4294967295 then (true, i, A) else if pi_ok B n (t + 1) (A 0) = true then sp_run B n F (pi_en B n (t + 1) (A 0)) (pi_A B n (t + 1) A) (i + 1) else (false, pi_en B n (t + 1) (A 0), A)
/-- THE LAKE is read -/
def sp_rd (B : Nat → Nat) (n : Nat) (A : Nat → Nat) : Bool × Nat × (Nat → Nat) := if sp_tt B n 0 = 4294967292 then (if sp_tt B n 1 ≤ 99 then (if sp_tt B n 2 = 4294967294 then sp_run B n 150 2 (sp_beg A (sp_tt B n 1)) 1 else (false, 2, A)) else (false, 1, A)) else (false, 0, A)
def sp_an (B : Nat → Nat) (n : Nat) (R : Bool × Nat × (Nat → Nat)) : Int32 := if R.1 = true then nI R.2.1 else nI 4294967286 - nI (sp_ss B n R.2.1)
