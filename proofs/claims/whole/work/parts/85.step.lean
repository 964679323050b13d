theorem mj_ag_le {n m o : Nat} {K T : Nat → Nat} (h : mj_ag n K T o) (hm : m ≤ n) : mj_ag m K T o := fun q hq => h q (by omega)
theorem mj_ag_T {n o : Nat} {K T U : Nat → Nat} (h : mj_ag n K T o) (e : ∀ q, q < n → U (o + q) = T (o + q)) : mj_ag n K U o := fun q hq => by rw [e q hq]; exact h q hq
theorem rl_mk {D : Nat → Nat → Nat} {T : Nat → Nat} (a0 : D 27 0 = T 0) (a1 : D 31 0 = T 1) (a2 : D 33 0 = T 2) (a3 : D 35 0 = T 3) (a4 : D 20 0 = T 29) (I : mj_ag 25 (D 23) T 4) (K : mj_ag 25 (D 22) T 30) (F : mj_ag 7 (D 25) T 55) (U : mj_ag 7 (D 26) T 62) (W : mj_ag 4 (D 38) T 69) (vk : mj_ag (T 0) (D 28) T 73) (vw : mj_ag (T 0) (D 29) T 80) (vc : mj_ag (T 0) (D 30) T 87) (N : mj_ag (5 * T 1) (D 32) T 94) (P : mj_ag (5 * T 2) (D 34) T 124) (H : ∀ u, u < T 3 → D 37 u = T (154 + 26 * u + 25) ∧ ∀ q, q < 25 → D 36 (u * 25 + q) = T (154 + 26 * u + q)) : mj_RL 20 D T :=
  ⟨⟨a0, a1, a2, a3, a4⟩, I, K, F, U, W, fun v hv => ⟨vk v hv, vw v hv, vc v hv⟩, N, P, H⟩
theorem mj_row1_0 {x m : Nat} (h : x ≤ m) : ∀ c, mj_row [x] c ≤ m := fun c => by
  cases c with
  | zero => exact h
  | succ c => exact Nat.zero_le _
section MU
variable {κ : Nat → Bool} {C : Nat → Nat → Nat}
theorem mj_CI_r20 {t : Nat} (I : mj_CI κ C) (ht : t ≤ 99) : mj_CI κ (mj_blk C 20 (mj_rst C 20 t)) := by
  have ou : ∀ i, (i < 20 ∨ 39 ≤ i) → mj_blk C 20 (mj_rst C 20 t) i = C i := fun i hi => if_neg (by omega)
  have li : ∀ b, (b + 19 ≤ 20 ∨ 39 ≤ b) → mj_Li b C → mj_Li b (mj_blk C 20 (mj_rst C 20 t)) := fun b b1 q o ho c => by rw [ou _ (by omega)]; exact q o ho c
  have lr : ∀ b, (b + 19 ≤ 20 ∨ 39 ≤ b) → mj_Lr b C → mj_Lr b (mj_blk C 20 (mj_rst C 20 t)) := fun b b1 q j => by rw [ou _ (by omega), ou _ (by omega)]; exact q j
  obtain ⟨i1, i2, i3, i4, i5, i6, i7, i8, i9, i10, i11, i12⟩ := I
  refine ⟨fun o ho c => ?_, li 40 (by decide) i2, fun q => li 60 (by decide) (i3 q), fun q => li 80 (by decide) (i4 q), ?_, ?_, ?_, ?_, fun j => ?_, lr 40 (by decide) i10, fun q => lr 60 (by decide) (i11 q), fun q => lr 80 (by decide) (i12 q)⟩
  · have e : mj_blk C 20 (mj_rst C 20 t) (20 + o) = mj_rst C 20 t (20 + o) := if_pos (by omega)
    rw [e]
    unfold mj_rst
    by_cases q1 : 20 + o = 20 + 3
    · rw [if_pos q1]
      have : o = 3 := by omega
      subst this
      exact ht
    rw [if_neg q1]
    by_cases q2 : 20 + o = 20 + 8 ∨ 20 + o = 20 + 9 ∨ 20 + o = 20 + 10 ∨ 20 + o = 20 + 12 ∨ 20 + o = 20 + 14 ∨ 20 + o = 20 + 16 ∨ 20 + o = 20 + 17
    · rw [if_pos q2]; exact i1 o ho c
    · rw [if_neg q2]; exact Nat.zero_le _
  · rw [ou 2 (by decide)]; exact i5
  · rw [ou 3 (by decide)]; exact i6
  · rw [ou 7 (by decide)]; exact i7
  · rw [ou 8 (by decide)]; exact i8
  · have e : mj_blk C 20 (mj_rst C 20 t) (20 + 12) = C (20 + 12) := rfl
    have e2 : mj_blk C 20 (mj_rst C 20 t) (20 + 14) = C (20 + 14) := rfl
    rw [e, e2]; exact i9 j
/-- the class's rows behind keepPast -/
def mj_kC (C : Nat → Nat → Nat) : Nat → Nat → Nat := mj_u (mj_u (mj_u C 36 (sp_ki (C 36) (C 23) (C 35 0))) 37 (sp_kd (C 37) (C 35 0) (C 20 0))) 35 (mj_row [sp_kz (C 35 0)])
theorem mj_kC_CI (I : mj_CI κ C) : mj_CI κ (mj_kC C) :=
  mj_CI_20 (mj_CI_20 (mj_CI_20 I (by omega) (by omega) (by omega) (by omega) (sp_ki_le (I.1 16 (by decide)) (I.1 3 (by decide)))) (by omega) (by omega) (by omega) (by omega) (sp_kd_le (I.1 17 (by decide)) (I.1 0 (by decide) 0))) (by omega) (by omega) (by omega) (by omega) (mj_row1_0 sp_kz_le)
theorem sp_kp_h {T P D I : Nat → Nat} {z d : Nat} (hz : z = T 3) (h8 : T 3 ≤ 8) (hI : ∀ q, q < 25 → I q = T (4 + q)) (hd : d = T 29) (H : ∀ u, u < T 3 → D u = T (154 + 26 * u + 25) ∧ ∀ q, q < 25 → P (u * 25 + q) = T (154 + 26 * u + q)) :
    sp_kz z = sp_kp T 3 ∧ ∀ u, u < sp_kp T 3 → sp_kd D z d u = sp_kp T (154 + 26 * u + 25) ∧ ∀ q, q < 25 → sp_ki P I z (u * 25 + q) = sp_kp T (154 + 26 * u + q) := by
  subst hz
  by_cases g : T 3 < 8
  · have e3 : sp_kp T 3 = T 3 + 1 := by unfold sp_kp; rw [if_pos g, mj_un_eq]
    have ek : ∀ i, i ≠ 3 → sp_kp T i = sp_kc T (154 + 26 * T 3) 26 i := fun i hi => by unfold sp_kp; rw [if_pos g, mj_un_ne hi]
    have eu : ∀ u q, u < T 3 → q < 26 → sp_kp T (154 + 26 * u + q) = T (154 + 26 * u + q) := fun u q h1 h2 => by rw [ek _ (by omega)]; exact if_neg (by omega)
    have ez : ∀ q, q < 26 → sp_kp T (154 + 26 * T 3 + q) = T (4 + q) := fun q h2 => by
      rw [ek _ (by omega)]; unfold sp_kc; rw [if_pos (by omega), show 154 + 26 * T 3 + q - (154 + 26 * T 3) = q by omega]
    rw [e3]
    refine ⟨if_pos g, fun u hu => ?_⟩
    rw [show sp_kd D (T 3) d = mj_un D (T 3) d from if_pos g, show sp_ki P I (T 3) = mj_cp I P 0 (T 3 * 25) 25 from if_pos g]
    by_cases e : u = T 3
    · subst e
      refine ⟨by rw [mj_un_eq, ez 25 (by decide), hd], fun q hq => ?_⟩
      rw [ez q (by omega), ← hI q hq]
      unfold mj_cp
      rw [if_pos (by omega), show 0 + (T 3 * 25 + q - T 3 * 25) = q by omega]
    · obtain ⟨H1, H2⟩ := H u (by omega)
      refine ⟨by rw [mj_un_ne e, eu u 25 (by omega) (by decide), H1], fun q hq => ?_⟩
      rw [eu u q (by omega) (by omega), ← H2 q hq]
      exact if_neg (by omega)
  · have e8 : T 3 = 8 := by omega
    have e3 : sp_kp T 3 = 8 := by unfold sp_kp; rw [if_neg g, mj_un_eq]
    have ek : ∀ i, i ≠ 3 → sp_kp T i = sp_kc (mj_un (sp_ks T 182) 3 7) 336 26 i := fun i hi => by unfold sp_kp; rw [if_neg g, mj_un_ne hi]
    have eu : ∀ u q, u < 7 → q < 26 → sp_kp T (154 + 26 * u + q) = T (154 + 26 * (u + 1) + q) := fun u q h1 h2 => by
      rw [ek _ (by omega)]; unfold sp_kc; rw [if_neg (by omega), mj_un_ne (by omega)]; unfold sp_ks; rw [if_pos (by omega)]; exact congrArg T (by omega)
    have ez : ∀ q, q < 26 → sp_kp T (154 + 26 * 7 + q) = T (4 + q) := fun q h2 => by
      rw [ek _ (by omega)]; unfold sp_kc; rw [if_pos (by omega), show 154 + 26 * 7 + q - 336 = q by omega, mj_un_ne (by omega)]; exact if_neg (by omega)
    rw [e3]
    refine ⟨if_neg g, fun u hu => ?_⟩
    rw [show sp_kd D (T 3) d = mj_un (mj_cp D D 1 0 7) 7 d from if_neg g, show sp_ki P I (T 3) = mj_cp I (mj_cp P P 25 0 175) 0 175 25 from if_neg g]
    by_cases e : u = 7
    · subst e
      refine ⟨by rw [mj_un_eq, ez 25 (by decide), hd], fun q hq => ?_⟩
      rw [ez q (by omega), ← hI q hq]
      unfold mj_cp
      rw [if_pos (by omega), show 0 + (7 * 25 + q - 175) = q by omega]
    · obtain ⟨H1, H2⟩ := H (u + 1) (by omega)
      refine ⟨?_, fun q hq => ?_⟩
      · rw [mj_un_ne e, eu u 25 (by omega) (by decide), ← H1]
        unfold mj_cp
        rw [if_pos (by omega)]; exact congrArg D (by omega)
      · rw [eu u q (by omega) (by omega), ← H2 q hq]
        unfold mj_cp
        rw [if_neg (by omega), if_pos (by omega)]; exact congrArg P (by omega)
theorem rl_keep (R : mj_Rel κ C) : mj_RL 20 (mj_kC C) (sp_kp (C 101)) := by
  have an := rl_n R
  have an1 := rl_n1 R
  have an2 := rl_n2 R
  have an3 := rl_n3 R
  have ad := rl_d R
  have aI := rl_I R
  have aK := rl_K R
  have aF := rl_F R
  have aU := rl_U R
  have aW := rl_W R
  have avk := rl_vk R
  have avw := rl_vw R
  have avc := rl_vc R
  have aN := rl_N R
  have aP := rl_P R
  have lo : ∀ i, i < 154 → i ≠ 3 → sp_kp (C 101) i = C 101 i := fun i h h3 => sp_kp_lo h h3
  have b0 := R.2.1.1
  have b1 := R.2.1.2.1
  have b2 := R.2.1.2.2.1
  have l0 := lo 0 (by decide) (by decide)
  have l1 := lo 1 (by decide) (by decide)
  have l2 := lo 2 (by decide) (by decide)
  obtain ⟨k1, k2⟩ := sp_kp_h (T := C 101) (P := C 36) (D := C 37) (I := C 23) (rl_n3 R) R.2.1.2.2.2.1 (rl_I R) (rl_d R) (rl_H R)
  refine rl_mk ?_ ?_ ?_ k1 ?_ ?_ ?_ ?_ ?_ ?_ ?_ ?_ ?_ ?_ ?_ k2
  · rw [l0]; exact an
  · rw [l1]; exact an1
  · rw [l2]; exact an2
  · rw [lo 29 (by decide) (by decide)]; exact ad
  · exact mj_ag_T aI fun q hq => lo _ (by omega) (by omega)
  · exact mj_ag_T aK fun q hq => lo _ (by omega) (by omega)
  · exact mj_ag_T aF fun q hq => lo _ (by omega) (by omega)
  · exact mj_ag_T aU fun q hq => lo _ (by omega) (by omega)
  · exact mj_ag_T aW fun q hq => lo _ (by omega) (by omega)
  · rw [l0]; exact mj_ag_T avk fun q hq => lo _ (by omega) (by omega)
  · rw [l0]; exact mj_ag_T avw fun q hq => lo _ (by omega) (by omega)
  · rw [l0]; exact mj_ag_T avc fun q hq => lo _ (by omega) (by omega)
  · rw [l1]; exact mj_ag_T aN fun q hq => lo _ (by omega) (by omega)
  · rw [l2]; exact mj_ag_T aP fun q hq => lo _ (by omega) (by omega)
/-- other ice, another day -/
theorem rl_ice {D D2 : Nat → Nat → Nat} {T U : Nat → Nat} (h : mj_RL 20 D T) (e : ∀ i, 20 < i → i < 39 → i ≠ 23 → D2 i = D i) (hI : mj_ag 25 (D2 23) U 4) (hd : D2 20 0 = U 29) (hU : ∀ i, i < 4 ∨ 29 < i → U i = T i) : mj_RL 20 D2 U := by
  obtain ⟨⟨a0, a1, a2, a3, a4⟩, b1, b2, b3, b4, b5, b6, b7, b8, b9⟩ := h
  have l0 := hU 0 (by omega)
  have l1 := hU 1 (by omega)
  have l2 := hU 2 (by omega)
  have l3 := hU 3 (by omega)
  refine rl_mk ?_ ?_ ?_ ?_ hd hI ?_ ?_ ?_ ?_ ?_ ?_ ?_ ?_ ?_ ?_
  · rw [l0, e 27 (by decide) (by decide) (by decide)]; exact a0
  · rw [l1, e 31 (by decide) (by decide) (by decide)]; exact a1
  · rw [l2, e 33 (by decide) (by decide) (by decide)]; exact a2
  · rw [l3, e 35 (by decide) (by decide) (by decide)]; exact a3
  · rw [e 22 (by decide) (by decide) (by decide)]; exact mj_ag_T b2 fun q hq => hU _ (by omega)
  · rw [e 25 (by decide) (by decide) (by decide)]; exact mj_ag_T b3 fun q hq => hU _ (by omega)
  · rw [e 26 (by decide) (by decide) (by decide)]; exact mj_ag_T b4 fun q hq => hU _ (by omega)
  · rw [e 38 (by decide) (by decide) (by decide)]; exact mj_ag_T b5 fun q hq => hU _ (by omega)
  · rw [l0, e 28 (by decide) (by decide) (by decide)]; exact mj_ag_T (fun q hq => (b6 q hq).1) fun q hq => hU _ (by omega)
  · rw [l0, e 29 (by decide) (by decide) (by decide)]; exact mj_ag_T (fun q hq => (b6 q hq).2.1) fun q hq => hU _ (by omega)
  · rw [l0, e 30 (by decide) (by decide) (by decide)]; exact mj_ag_T (fun q hq => (b6 q hq).2.2) fun q hq => hU _ (by omega)
  · rw [l1, e 32 (by decide) (by decide) (by decide)]; exact mj_ag_T b7 fun q hq => hU _ (by omega)
  · rw [l2, e 34 (by decide) (by decide) (by decide)]; exact mj_ag_T b8 fun q hq => hU _ (by omega)
  · rw [l3, e 36 (by decide) (by decide) (by decide), e 37 (by decide) (by decide) (by decide)]
    intro u hu
    obtain ⟨h1, h2⟩ := b9 u hu
    exact ⟨by rw [hU _ (by omega)]; exact h1, fun q hq => by rw [hU _ (by omega)]; exact h2 q hq⟩
end MU
section MU2
variable {κ : Nat → Bool} {C : Nat → Nat → Nat}
theorem mj_ag_ex {n o x : Nat} {K T : Nat → Nat} (h : mj_ag n K T o) : mj_ag (n + 1) (mj_un K n x) (mj_un T (o + n) x) o := fun q hq => by
  by_cases e : q = n
  · subst e; rw [mj_un_eq, mj_un_eq]
  · rw [mj_un_ne e, mj_un_ne (by omega)]; exact h q (by omega)
theorem mj_ag_5 {n o a b c d e : Nat} {K T : Nat → Nat} (h : mj_ag (5 * n) K T o) : mj_ag (5 * (n + 1)) (mj_un (mj_un (mj_un (mj_un (mj_un K (n * 5) a) (n * 5 + 1) b) (n * 5 + 2) c) (n * 5 + 3) d) (n * 5 + 4) e) (mj_un (mj_un (mj_un (mj_un (mj_un T (o + (5 * n)) a) ((o + (5 * n)) + 1) b) ((o + (5 * n)) + 2) c) ((o + (5 * n)) + 3) d) ((o + (5 * n)) + 4) e) o := fun q hq => by
  by_cases g : q < 5 * n
  · rw [mj_un_ne (by omega), mj_un_ne (by omega), mj_un_ne (by omega), mj_un_ne (by omega), mj_un_ne (by omega), mj_un_ne (by omega), mj_un_ne (by omega), mj_un_ne (by omega), mj_un_ne (by omega), mj_un_ne (by omega)]; exact h q g
  · rcases (by omega : q = n * 5 ∨ q = n * 5 + 1 ∨ q = n * 5 + 2 ∨ q = n * 5 + 3 ∨ q = n * 5 + 4) with rfl | rfl | rfl | rfl | rfl
    · rw [mj_un_ne (by omega), mj_un_ne (by omega), mj_un_ne (by omega), mj_un_ne (by omega), mj_un_eq, mj_un_ne (by omega), mj_un_ne (by omega), mj_un_ne (by omega), mj_un_ne (by omega), show o + n * 5 = o + 5 * n by omega, mj_un_eq]
    · rw [mj_un_ne (by omega), mj_un_ne (by omega), mj_un_ne (by omega), mj_un_eq, mj_un_ne (by omega), mj_un_ne (by omega), mj_un_ne (by omega), show o + (n * 5 + 1) = o + 5 * n + 1 by omega, mj_un_eq]
    · rw [mj_un_ne (by omega), mj_un_ne (by omega), mj_un_eq, mj_un_ne (by omega), mj_un_ne (by omega), show o + (n * 5 + 2) = o + 5 * n + 2 by omega, mj_un_eq]
    · rw [mj_un_ne (by omega), mj_un_eq, mj_un_ne (by omega), show o + (n * 5 + 3) = o + 5 * n + 3 by omega, mj_un_eq]
    · rw [mj_un_eq, show o + (n * 5 + 4) = o + 5 * n + 4 by omega, mj_un_eq]
theorem mj_CI_rec {i : Nat} {K : Nat → Nat} (I : mj_CI κ C) (hi : i = 32 ∨ i = 34) (hK : ∀ c, K c ≤ mj_lim (i - 20)) (hL : ∀ q, (i = 32 → K (q * 5) ≤ 24 ∧ K (q * 5 + 2) ≤ 9 ∧ K (q * 5 + 3) ≤ 9) ∧ (i = 34 → K (q * 5) ≤ 6 ∧ K (q * 5 + 1) ≤ 1 ∧ K (q * 5 + 4) ≤ 9)) : mj_CI κ (mj_u C i K) := by
  obtain ⟨I1, I2, I3, I4, I5, I6, I7, I8, I9, I10, I11, I12⟩ := I
  refine ⟨fun o ho c => ?_, fun o ho c => ?_, fun k o ho c => ?_, fun k o ho c => ?_, ?_, ?_, ?_, ?_, fun q => ?_, fun q => ?_, fun k q => ?_, fun k q => ?_⟩
  · by_cases e : 20 + o = i
    · subst e
      rw [show mj_u C (20 + o) K (20 + o) = K from if_pos rfl]
      have := hK c
      rwa [Nat.add_sub_cancel_left] at this
    · rw [mj_u_ne e]; exact I1 o ho c
  · rw [mj_u_ne (by omega)]; exact I2 o ho c
  · rw [mj_u_ne (by omega)]; exact I3 k o ho c
  · rw [mj_u_ne (by omega)]; exact I4 k o ho c
  · rw [mj_u_ne (by omega)]; exact I5
  · rw [mj_u_ne (by omega)]; exact I6
  · rw [mj_u_ne (by omega)]; exact I7
  · rw [mj_u_ne (by omega)]; exact I8
  · obtain ⟨l1, l2⟩ := hL q
    obtain ⟨j1, j2, j3, j4, j5, j6⟩ := I9 q
    rcases hi with rfl | rfl
    · obtain ⟨g1, g2, g3⟩ := l1 rfl
      exact ⟨g1, g2, g3, j4, j5, j6⟩
    · obtain ⟨g1, g2, g3⟩ := l2 rfl
      exact ⟨j1, j2, j3, g1, g2, g3⟩
  · rw [mj_u_ne (show 40 + 12 ≠ i by omega), mj_u_ne (show 40 + 14 ≠ i by omega)]; exact I10 q
  · rw [mj_u_ne (show 60 + 12 ≠ i by omega), mj_u_ne (show 60 + 14 ≠ i by omega)]; exact I11 k q
  · rw [mj_u_ne (show 80 + 12 ≠ i by omega), mj_u_ne (show 80 + 14 ≠ i by omega)]; exact I12 k q
/-- what stands at a place of five, after five puts -/
theorem mj_un5 {K : Nat → Nat} {n q j a b c d e m : Nat} (hj : j < 5) (h : K (q * 5 + j) ≤ m) (hv : q = n → (if j = 0 then a else if j = 1 then b else if j = 2 then c else if j = 3 then d else e) ≤ m) : mj_un (mj_un (mj_un (mj_un (mj_un K (n * 5) a) (n * 5 + 1) b) (n * 5 + 2) c) (n * 5 + 3) d) (n * 5 + 4) e (q * 5 + j) ≤ m := by
  by_cases g : q = n
  · have hw := hv g
    clear hv
    subst g
    rcases (by omega : j = 0 ∨ j = 1 ∨ j = 2 ∨ j = 3 ∨ j = 4) with rfl | rfl | rfl | rfl | rfl
    · rw [mj_un_ne (by omega), mj_un_ne (by omega), mj_un_ne (by omega), mj_un_ne (by omega), Nat.add_zero, mj_un_eq]; exact hw
    · rw [mj_un_ne (by omega), mj_un_ne (by omega), mj_un_ne (by omega), mj_un_eq]; exact hw
    · rw [mj_un_ne (by omega), mj_un_ne (by omega), mj_un_eq]; exact hw
    · rw [mj_un_ne (by omega), mj_un_eq]; exact hw
    · rw [mj_un_eq]; exact hw
  · rw [mj_un_ne (by omega), mj_un_ne (by omega), mj_un_ne (by omega), mj_un_ne (by omega), mj_un_ne (by omega)]; exact h
end MU2
theorem st_lake_t {E : mj_E} {κ : Nat → Bool} {C : Nat → Nat → Nat} (R : mj_Rel κ C) {i : Nat} (h0 : i ≤ 99) : mj_St E mj_G mj_isI iX10_lake iX11_lake [.int (nI i)] (hh κ C) := by
  refine mj_st (ev_X10_lake R.1 h0) ⟨_, rfl⟩ (ev_X11_lake (E := E) (h := hh κ (mj_blk C 20 (mj_rst C 20 i))) (hc100 κ (mj_blk C 20 (mj_rst C 20 i))) (hc101 κ (mj_blk C 20 (mj_rst C 20 i))) h0) ?_ (hu101 rfl) ?_
  · exact mj_vI (rl_n R).symm
  · refine R.now (mj_CI_u (mj_CI_r20 R.1 h0) (by omega) (by omega) (by omega) (by omega) (by omega)) (mj_Tb_beg h0) ?_ (fun j hj => ?_)
    · exact mj_RL_C (RL_rst (b := 20) (C := C)) fun o ho => mj_u_ne (by omega)
    · rw [mj_u_ne (by omega)]; exact if_neg (by omega)
theorem st_cell_t {E : mj_E} {κ : Nat → Bool} {C : Nat → Nat → Nat} (R : mj_Rel κ C) {c k : Nat} (h0 : c < 25) (h1 : k ≤ 5) : mj_St E mj_G mj_isI iX10_cell iX11_cell [.int (nI c), .int (nI k)] (hh κ C) := by
  refine mj_st (ev_X10_cell R.1 h0 h1) ⟨_, rfl⟩ (ev_X11_cell (E := E) (h := hh κ (mj_u (mj_u C 22 (mj_un (C 22) c k)) 35 (mj_row [0]))) (hc100 κ (mj_u (mj_u C 22 (mj_un (C 22) c k)) 35 (mj_row [0]))) (hc101 κ (mj_u (mj_u C 22 (mj_un (C 22) c k)) 35 (mj_row [0]))) (show mj_Tb ((mj_u (mj_u C 22 (mj_un (C 22) c k)) 35 (mj_row [0])) 101) from R.2.1) h0 h1) ?_ (hu101 (hu101 rfl)) ?_
  · exact mj_vI (rl_K R c h0).symm
  · have an := rl_n R
    have an1 := rl_n1 R
    have an2 := rl_n2 R
    have an3 := rl_n3 R
    have ad := rl_d R
    have aI := rl_I R
    have aK := rl_K R
    have aF := rl_F R
    have aU := rl_U R
    have aW := rl_W R
    have avk := rl_vk R
    have avw := rl_vw R
    have avc := rl_vc R
    have aN := rl_N R
    have aP := rl_P R
    have b0 := R.2.1.1
    have b1 := R.2.1.2.1
    have b2 := R.2.1.2.2.1
    refine R.now (mj_CI_u (mj_CI_u (mj_CI_20 (mj_CI_20 R.1 (by omega) (by omega) (by omega) (by omega) (mj_un_le (R.1.1 2 (by decide)) h1)) (by omega) (by omega) (by omega) (by omega) (mj_row1_0 (Nat.zero_le _))) (by omega) (by omega) (by omega) (by omega) (by omega)) (by omega) (by omega) (by omega) (by omega) (by omega)) (show mj_Tb (mj_un (mj_un (C 101) (30 + c) k) 3 0) from (mj_Tb_un (mj_Tb_un R.2.1 (fun _ => by rw [tl_kind (by omega) (by omega)]; exact h1)) (fun _ => Nat.zero_le _))) (show mj_RL 20 _ (mj_un (mj_un (C 101) (30 + c) k) 3 0) from rl_mk ?_ ?_ ?_ ?_ ?_ ?_ ?_ ?_ ?_ ?_ ?_ ?_ ?_ ?_ ?_ (fun u hu => absurd hu (by rw [mj_un_eq]; exact Nat.not_lt_zero u))) (fun j hj => by rw [mj_u_ne (by omega), mj_u_ne (by omega), mj_u_ne (by omega), mj_u_ne (by omega)])
    · exact (show _ = _ from an).trans (by rw [mj_un_ne (by omega), mj_un_ne (by omega)])
    · exact (show _ = _ from an1).trans (by rw [mj_un_ne (by omega), mj_un_ne (by omega)])
    · exact (show _ = _ from an2).trans (by rw [mj_un_ne (by omega), mj_un_ne (by omega)])
    · exact (mj_un_eq _ _ _).symm
    · exact (show _ = _ from ad).trans (by rw [mj_un_ne (by omega), mj_un_ne (by omega)])
    · exact (mj_ag_out (mj_ag_out aI (by omega)) (by omega))
    · exact mj_ag_out (mj_ag_in aK) (by omega)
    · exact (mj_ag_out (mj_ag_out aF (by omega)) (by omega))
    · exact (mj_ag_out (mj_ag_out aU (by omega)) (by omega))
    · exact (mj_ag_out (mj_ag_out aW (by omega)) (by omega))
    · exact mj_ag_le (mj_ag_out (mj_ag_out avk (by omega)) (by omega)) (Nat.le_of_eq (by rw [mj_un_ne (by omega), mj_un_ne (by omega)]))
    · exact mj_ag_le (mj_ag_out (mj_ag_out avw (by omega)) (by omega)) (Nat.le_of_eq (by rw [mj_un_ne (by omega), mj_un_ne (by omega)]))
    · exact mj_ag_le (mj_ag_out (mj_ag_out avc (by omega)) (by omega)) (Nat.le_of_eq (by rw [mj_un_ne (by omega), mj_un_ne (by omega)]))
    · exact mj_ag_le (mj_ag_out (mj_ag_out aN (by omega)) (by omega)) (Nat.le_of_eq (by rw [mj_un_ne (by omega), mj_un_ne (by omega)]))
    · exact mj_ag_le (mj_ag_out (mj_ag_out aP (by omega)) (by omega)) (Nat.le_of_eq (by rw [mj_un_ne (by omega), mj_un_ne (by omega)]))
theorem st_ward_t {E : mj_E} {κ : Nat → Bool} {C : Nat → Nat → Nat} (R : mj_Rel κ C) {w x : Nat} (h0 : w < 4) (h1 : x ≤ 99) : mj_St E mj_G mj_isI iX10_ward iX11_ward [.int (nI w), .int (nI x)] (hh κ C) := by
  refine mj_st (ev_X10_ward R.1 h0 h1) ⟨_, rfl⟩ (ev_X11_ward (E := E) (h := hh κ (mj_u (mj_u C 38 (mj_un (C 38) w x)) 35 (mj_row [0]))) (hc100 κ (mj_u (mj_u C 38 (mj_un (C 38) w x)) 35 (mj_row [0]))) (hc101 κ (mj_u (mj_u C 38 (mj_un (C 38) w x)) 35 (mj_row [0]))) (show mj_Tb ((mj_u (mj_u C 38 (mj_un (C 38) w x)) 35 (mj_row [0])) 101) from R.2.1) h0 h1) ?_ (hu101 (hu101 rfl)) ?_
  · exact mj_vI (rl_W R w h0).symm
  · have an := rl_n R
    have an1 := rl_n1 R
    have an2 := rl_n2 R
    have an3 := rl_n3 R
    have ad := rl_d R
    have aI := rl_I R
    have aK := rl_K R
    have aF := rl_F R
    have aU := rl_U R
    have aW := rl_W R
    have avk := rl_vk R
    have avw := rl_vw R
    have avc := rl_vc R
    have aN := rl_N R
    have aP := rl_P R
    have b0 := R.2.1.1
    have b1 := R.2.1.2.1
    have b2 := R.2.1.2.2.1
    refine R.now (mj_CI_u (mj_CI_u (mj_CI_20 (mj_CI_20 R.1 (by omega) (by omega) (by omega) (by omega) (mj_un_le (R.1.1 18 (by decide)) h1)) (by omega) (by omega) (by omega) (by omega) (mj_row1_0 (Nat.zero_le _))) (by omega) (by omega) (by omega) (by omega) (by omega)) (by omega) (by omega) (by omega) (by omega) (by omega)) (show mj_Tb (mj_un (mj_un (C 101) (69 + w) x) 3 0) from (mj_Tb_un (mj_Tb_un R.2.1 (fun _ => by rw [tl_word (by omega) (by omega)]; exact h1)) (fun _ => Nat.zero_le _))) (show mj_RL 20 _ (mj_un (mj_un (C 101) (69 + w) x) 3 0) from rl_mk ?_ ?_ ?_ ?_ ?_ ?_ ?_ ?_ ?_ ?_ ?_ ?_ ?_ ?_ ?_ (fun u hu => absurd hu (by rw [mj_un_eq]; exact Nat.not_lt_zero u))) (fun j hj => by rw [mj_u_ne (by omega), mj_u_ne (by omega), mj_u_ne (by omega), mj_u_ne (by omega)])
    · exact (show _ = _ from an).trans (by rw [mj_un_ne (by omega), mj_un_ne (by omega)])
    · exact (show _ = _ from an1).trans (by rw [mj_un_ne (by omega), mj_un_ne (by omega)])
    · exact (show _ = _ from an2).trans (by rw [mj_un_ne (by omega), mj_un_ne (by omega)])
    · exact (mj_un_eq _ _ _).symm
    · exact (show _ = _ from ad).trans (by rw [mj_un_ne (by omega), mj_un_ne (by omega)])
    · exact (mj_ag_out (mj_ag_out aI (by omega)) (by omega))
    · exact (mj_ag_out (mj_ag_out aK (by omega)) (by omega))
    · exact (mj_ag_out (mj_ag_out aF (by omega)) (by omega))
    · exact (mj_ag_out (mj_ag_out aU (by omega)) (by omega))
    · exact mj_ag_out (mj_ag_in aW) (by omega)
    · exact mj_ag_le (mj_ag_out (mj_ag_out avk (by omega)) (by omega)) (Nat.le_of_eq (by rw [mj_un_ne (by omega), mj_un_ne (by omega)]))
    · exact mj_ag_le (mj_ag_out (mj_ag_out avw (by omega)) (by omega)) (Nat.le_of_eq (by rw [mj_un_ne (by omega), mj_un_ne (by omega)]))
    · exact mj_ag_le (mj_ag_out (mj_ag_out avc (by omega)) (by omega)) (Nat.le_of_eq (by rw [mj_un_ne (by omega), mj_un_ne (by omega)]))
    · exact mj_ag_le (mj_ag_out (mj_ag_out aN (by omega)) (by omega)) (Nat.le_of_eq (by rw [mj_un_ne (by omega), mj_un_ne (by omega)]))
    · exact mj_ag_le (mj_ag_out (mj_ag_out aP (by omega)) (by omega)) (Nat.le_of_eq (by rw [mj_un_ne (by omega), mj_un_ne (by omega)]))
theorem st_weather_t {E : mj_E} {κ : Nat → Bool} {C : Nat → Nat → Nat} (R : mj_Rel κ C) {d f s : Nat} (h0 : d < 7) (h1 : f ≤ 9) (h2 : s ≤ 9) : mj_St E mj_G mj_isI iX10_weather iX11_weather [.int (nI d), .int (nI f), .int (nI s)] (hh κ C) := by
  refine mj_st (ev_X10_weather R.1 h0 h1 h2) ⟨_, rfl⟩ (ev_X11_weather (E := E) (h := hh κ (mj_u (mj_u (mj_u C 25 (mj_un (C 25) d f)) 26 (mj_un (C 26) d s)) 35 (mj_row [0]))) (hc100 κ (mj_u (mj_u (mj_u C 25 (mj_un (C 25) d f)) 26 (mj_un (C 26) d s)) 35 (mj_row [0]))) (hc101 κ (mj_u (mj_u (mj_u C 25 (mj_un (C 25) d f)) 26 (mj_un (C 26) d s)) 35 (mj_row [0]))) (show mj_Tb ((mj_u (mj_u (mj_u C 25 (mj_un (C 25) d f)) 26 (mj_un (C 26) d s)) 35 (mj_row [0])) 101) from R.2.1) h0 h1 h2) ?_ (hu101 (hu101 (hu101 rfl))) ?_
  · exact mj_vI (by rw [Nat.mod_eq_of_lt h0, rl_F R d h0, rl_U R d h0]; rfl)
  · have an := rl_n R
    have an1 := rl_n1 R
    have an2 := rl_n2 R
    have an3 := rl_n3 R
    have ad := rl_d R
    have aI := rl_I R
    have aK := rl_K R
    have aF := rl_F R
    have aU := rl_U R
    have aW := rl_W R
    have avk := rl_vk R
    have avw := rl_vw R
    have avc := rl_vc R
    have aN := rl_N R
    have aP := rl_P R
    have b0 := R.2.1.1
    have b1 := R.2.1.2.1
    have b2 := R.2.1.2.2.1
    refine R.now (mj_CI_u (mj_CI_u (mj_CI_u (mj_CI_20 (mj_CI_20 (mj_CI_20 R.1 (by omega) (by omega) (by omega) (by omega) (mj_un_le (R.1.1 5 (by decide)) h1)) (by omega) (by omega) (by omega) (by omega) (mj_un_le (R.1.1 6 (by decide)) h2)) (by omega) (by omega) (by omega) (by omega) (mj_row1_0 (Nat.zero_le _))) (by omega) (by omega) (by omega) (by omega) (by omega)) (by omega) (by omega) (by omega) (by omega) (by omega)) (by omega) (by omega) (by omega) (by omega) (by omega)) (show mj_Tb (mj_un (mj_un (mj_un (C 101) (55 + d) f) (62 + d) s) 3 0) from (mj_Tb_un (mj_Tb_un (mj_Tb_un R.2.1 (fun _ => by rw [tl_wk (by omega) (by omega)]; exact h1)) (fun _ => by rw [tl_wk (by omega) (by omega)]; exact h2)) (fun _ => Nat.zero_le _))) (show mj_RL 20 _ (mj_un (mj_un (mj_un (C 101) (55 + d) f) (62 + d) s) 3 0) from rl_mk ?_ ?_ ?_ ?_ ?_ ?_ ?_ ?_ ?_ ?_ ?_ ?_ ?_ ?_ ?_ (fun u hu => absurd hu (by rw [mj_un_eq]; exact Nat.not_lt_zero u))) (fun j hj => by rw [mj_u_ne (by omega), mj_u_ne (by omega), mj_u_ne (by omega), mj_u_ne (by omega), mj_u_ne (by omega), mj_u_ne (by omega)])
    · exact (show _ = _ from an).trans (by rw [mj_un_ne (by omega), mj_un_ne (by omega), mj_un_ne (by omega)])
    · exact (show _ = _ from an1).trans (by rw [mj_un_ne (by omega), mj_un_ne (by omega), mj_un_ne (by omega)])
    · exact (show _ = _ from an2).trans (by rw [mj_un_ne (by omega), mj_un_ne (by omega), mj_un_ne (by omega)])
    · exact (mj_un_eq _ _ _).symm
    · exact (show _ = _ from ad).trans (by rw [mj_un_ne (by omega), mj_un_ne (by omega), mj_un_ne (by omega)])
    · exact (mj_ag_out (mj_ag_out (mj_ag_out aI (by omega)) (by omega)) (by omega))
    · exact (mj_ag_out (mj_ag_out (mj_ag_out aK (by omega)) (by omega)) (by omega))
    · exact mj_ag_out (mj_ag_out (mj_ag_in aF) (by omega)) (by omega)
    · exact mj_ag_out (mj_ag_in (mj_ag_out aU (by omega))) (by omega)
    · exact (mj_ag_out (mj_ag_out (mj_ag_out aW (by omega)) (by omega)) (by omega))
    · exact mj_ag_le (mj_ag_out (mj_ag_out (mj_ag_out avk (by omega)) (by omega)) (by omega)) (Nat.le_of_eq (by rw [mj_un_ne (by omega), mj_un_ne (by omega), mj_un_ne (by omega)]))
    · exact mj_ag_le (mj_ag_out (mj_ag_out (mj_ag_out avw (by omega)) (by omega)) (by omega)) (Nat.le_of_eq (by rw [mj_un_ne (by omega), mj_un_ne (by omega), mj_un_ne (by omega)]))
    · exact mj_ag_le (mj_ag_out (mj_ag_out (mj_ag_out avc (by omega)) (by omega)) (by omega)) (Nat.le_of_eq (by rw [mj_un_ne (by omega), mj_un_ne (by omega), mj_un_ne (by omega)]))
    · exact mj_ag_le (mj_ag_out (mj_ag_out (mj_ag_out aN (by omega)) (by omega)) (by omega)) (Nat.le_of_eq (by rw [mj_un_ne (by omega), mj_un_ne (by omega), mj_un_ne (by omega)]))
    · exact mj_ag_le (mj_ag_out (mj_ag_out (mj_ag_out aP (by omega)) (by omega)) (by omega)) (Nat.le_of_eq (by rw [mj_un_ne (by omega), mj_un_ne (by omega), mj_un_ne (by omega)]))
theorem st_voter_t {E : mj_E} {κ : Nat → Bool} {C : Nat → Nat → Nat} (R : mj_Rel κ C) {k w c : Nat} (h0 : k ≤ 5) (h1 : 1 ≤ w) (h2 : w ≤ 99) (h3 : c < 25) (h4 : C 27 0 < 7) : mj_St E mj_G mj_isI iX10_voter iX11_voter [.int (nI k), .int (nI w), .int (nI c)] (hh κ C) := by
  refine mj_st (ev_X10_voter R.1 h0 h1 h2 h3 h4) ⟨_, rfl⟩ (ev_X11_voter (E := E) (h := hh κ (mj_u (mj_u (mj_u (mj_u (mj_u C 28 (mj_un (C 28) (C 27 0) k)) 29 (mj_un (C 29) (C 27 0) w)) 30 (mj_un (C 30) (C 27 0) c)) 27 (mj_row [(C 27 0) + 1])) 35 (mj_row [0]))) (hc100 κ (mj_u (mj_u (mj_u (mj_u (mj_u C 28 (mj_un (C 28) (C 27 0) k)) 29 (mj_un (C 29) (C 27 0) w)) 30 (mj_un (C 30) (C 27 0) c)) 27 (mj_row [(C 27 0) + 1])) 35 (mj_row [0]))) (hc101 κ (mj_u (mj_u (mj_u (mj_u (mj_u C 28 (mj_un (C 28) (C 27 0) k)) 29 (mj_un (C 29) (C 27 0) w)) 30 (mj_un (C 30) (C 27 0) c)) 27 (mj_row [(C 27 0) + 1])) 35 (mj_row [0]))) (show mj_Tb ((mj_u (mj_u (mj_u (mj_u (mj_u C 28 (mj_un (C 28) (C 27 0) k)) 29 (mj_un (C 29) (C 27 0) w)) 30 (mj_un (C 30) (C 27 0) c)) 27 (mj_row [(C 27 0) + 1])) 35 (mj_row [0])) 101) from R.2.1) h0 h1 h2 h3 (show C 101 0 < 7 by rw [← rl_n R]; exact h4)) ?_ (hu101 (hu101 rfl)) ?_
  · exact mj_vI (by rw [rl_n R]; rfl)
  · have h5 : C 101 0 < 7 := by rw [← rl_n R]; exact h4
    have an := rl_n R
    have an1 := rl_n1 R
    have an2 := rl_n2 R
    have an3 := rl_n3 R
    have ad := rl_d R
    have aI := rl_I R
    have aK := rl_K R
    have aF := rl_F R
    have aU := rl_U R
    have aW := rl_W R
    have avk := rl_vk R
    have avw := rl_vw R
    have avc := rl_vc R
    have aN := rl_N R
    have aP := rl_P R
    have b0 := R.2.1.1
    have b1 := R.2.1.2.1
    have b2 := R.2.1.2.2.1
    refine R.now (mj_CI_u (mj_CI_u (mj_CI_20 (mj_CI_20 (mj_CI_20 (mj_CI_20 (mj_CI_20 R.1 (by omega) (by omega) (by omega) (by omega) (mj_un_le (R.1.1 8 (by decide)) h0)) (by omega) (by omega) (by omega) (by omega) (mj_un_le (R.1.1 9 (by decide)) h2)) (by omega) (by omega) (by omega) (by omega) (mj_un_le (R.1.1 10 (by decide)) (show c ≤ 24 by omega))) (by omega) (by omega) (by omega) (by omega) (mj_row1_0 (show C 27 0 + 1 ≤ 7 by omega))) (by omega) (by omega) (by omega) (by omega) (mj_row1_0 (Nat.zero_le _))) (by omega) (by omega) (by omega) (by omega) (by omega)) (by omega) (by omega) (by omega) (by omega) (by omega)) (show mj_Tb (mj_un (mj_un (mj_un (mj_un (mj_un (C 101) (73 + (C 101) 0) k) (80 + (C 101) 0) w) (87 + (C 101) 0) c) 0 ((C 101) 0 + 1)) 3 0) from (mj_Tb_un (mj_Tb_un (mj_Tb_un (mj_Tb_un (mj_Tb_un R.2.1 (fun _ => by rw [tl_sort (by omega) (by omega)]; exact h0)) (fun _ => by rw [tl_wgt (by omega) (by omega)]; exact h2)) (fun _ => by rw [tl_at (by omega) (by omega)]; omega)) (fun _ => show _ ≤ 7 by omega)) (fun _ => Nat.zero_le _))) (show mj_RL 20 _ (mj_un (mj_un (mj_un (mj_un (mj_un (C 101) (73 + (C 101) 0) k) (80 + (C 101) 0) w) (87 + (C 101) 0) c) 0 ((C 101) 0 + 1)) 3 0) from rl_mk ?_ ?_ ?_ ?_ ?_ ?_ ?_ ?_ ?_ ?_ ?_ ?_ ?_ ?_ ?_ (fun u hu => absurd hu (by rw [show _ = 0 from mj_un_eq _ _ _]; exact Nat.not_lt_zero u))) (fun j hj => by rw [mj_u_ne (by omega), mj_u_ne (by omega), mj_u_ne (by omega), mj_u_ne (by omega), mj_u_ne (by omega), mj_u_ne (by omega), mj_u_ne (by omega)])
    · exact (show _ = _ from congrArg (· + 1) an).trans (by rw [mj_un_ne (by omega), mj_un_eq])
    · exact (show _ = _ from an1).trans (by rw [mj_un_ne (by omega), mj_un_ne (by omega), mj_un_ne (by omega), mj_un_ne (by omega), mj_un_ne (by omega)])
    · exact (show _ = _ from an2).trans (by rw [mj_un_ne (by omega), mj_un_ne (by omega), mj_un_ne (by omega), mj_un_ne (by omega), mj_un_ne (by omega)])
    · exact (mj_un_eq _ _ _).symm
    · exact (show _ = _ from ad).trans (by rw [mj_un_ne (by omega), mj_un_ne (by omega), mj_un_ne (by omega), mj_un_ne (by omega), mj_un_ne (by omega)])
    · exact (mj_ag_out (mj_ag_out (mj_ag_out (mj_ag_out (mj_ag_out aI (by omega)) (by omega)) (by omega)) (by omega)) (by omega))
    · exact (mj_ag_out (mj_ag_out (mj_ag_out (mj_ag_out (mj_ag_out aK (by omega)) (by omega)) (by omega)) (by omega)) (by omega))
    · exact (mj_ag_out (mj_ag_out (mj_ag_out (mj_ag_out (mj_ag_out aF (by omega)) (by omega)) (by omega)) (by omega)) (by omega))
    · exact (mj_ag_out (mj_ag_out (mj_ag_out (mj_ag_out (mj_ag_out aU (by omega)) (by omega)) (by omega)) (by omega)) (by omega))
    · exact (mj_ag_out (mj_ag_out (mj_ag_out (mj_ag_out (mj_ag_out aW (by omega)) (by omega)) (by omega)) (by omega)) (by omega))
    · rw [mj_un_ne (by omega), mj_un_eq]; exact (show mj_ag (C 101 0 + 1) (mj_un (C 28) (C 27 0) k) _ 73 from by rw [an]; exact (mj_ag_out (mj_ag_out (mj_ag_out (mj_ag_out (mj_ag_ex avk) (by omega)) (by omega)) (by omega)) (by omega)))
    · rw [mj_un_ne (by omega), mj_un_eq]; exact (show mj_ag (C 101 0 + 1) (mj_un (C 29) (C 27 0) w) _ 80 from by rw [an]; exact (mj_ag_out (mj_ag_out (mj_ag_out (mj_ag_ex (mj_ag_out avw (by omega))) (by omega)) (by omega)) (by omega)))
    · rw [mj_un_ne (by omega), mj_un_eq]; exact (show mj_ag (C 101 0 + 1) (mj_un (C 30) (C 27 0) c) _ 87 from by rw [an]; exact (mj_ag_out (mj_ag_out (mj_ag_ex (mj_ag_out (mj_ag_out avc (by omega)) (by omega))) (by omega)) (by omega)))
    · exact mj_ag_le (mj_ag_out (mj_ag_out (mj_ag_out (mj_ag_out (mj_ag_out aN (by omega)) (by omega)) (by omega)) (by omega)) (by omega)) (Nat.le_of_eq (by rw [mj_un_ne (by omega), mj_un_ne (by omega), mj_un_ne (by omega), mj_un_ne (by omega), mj_un_ne (by omega)]))
    · exact mj_ag_le (mj_ag_out (mj_ag_out (mj_ag_out (mj_ag_out (mj_ag_out aP (by omega)) (by omega)) (by omega)) (by omega)) (by omega)) (Nat.le_of_eq (by rw [mj_un_ne (by omega), mj_un_ne (by omega), mj_un_ne (by omega), mj_un_ne (by omega), mj_un_ne (by omega)]))
theorem st_forget_0_t {E : mj_E} {κ : Nat → Bool} {C : Nat → Nat → Nat} (R : mj_Rel κ C)   : mj_St E mj_G mj_isI iX10_forget iX11_forget [.int (nI 0)] (hh κ C) := by
  refine mj_st (ev_X10_forget_0 R.1 ) ⟨_, rfl⟩ (ev_X11_forget_0 (E := E) (h := hh κ (mj_u C 31 (mj_row [0]))) (hc100 κ (mj_u C 31 (mj_row [0]))) (hc101 κ (mj_u C 31 (mj_row [0])))) ?_ (hu101 rfl) ?_
  · exact mj_vI (rl_n1 R).symm
  · have aH := rl_H R
    have an := rl_n R
    have an1 := rl_n1 R
    have an2 := rl_n2 R
    have an3 := rl_n3 R
    have ad := rl_d R
    have aI := rl_I R
    have aK := rl_K R
    have aF := rl_F R
    have aU := rl_U R
    have aW := rl_W R
    have avk := rl_vk R
    have avw := rl_vw R
    have avc := rl_vc R
    have aN := rl_N R
    have aP := rl_P R
    have b0 := R.2.1.1
    have b1 := R.2.1.2.1
    have b2 := R.2.1.2.2.1
    refine R.now (mj_CI_u (mj_CI_20 R.1 (by omega) (by omega) (by omega) (by omega) (mj_row1_0 (Nat.zero_le _))) (by omega) (by omega) (by omega) (by omega) (by omega)) (show mj_Tb (mj_un (C 101) (1 + 0) 0) from (mj_Tb_un R.2.1 (fun _ => Nat.zero_le _))) (show mj_RL 20 _ (mj_un (C 101) (1 + 0) 0) from rl_mk ?_ ?_ ?_ ?_ ?_ ?_ ?_ ?_ ?_ ?_ ?_ ?_ ?_ ?_ ?_ (fun u hu => by have hu2 : u < C 101 3 := (by rw [mj_un_ne (by omega)] at hu; exact hu); exact ⟨by show C 37 u = _; rw [mj_un_ne (by omega)]; exact (aH u hu2).1, fun q hq => by show C 36 (u * 25 + q) = _; rw [mj_un_ne (by omega)]; exact (aH u hu2).2 q hq⟩)) (fun j hj => by rw [mj_u_ne (by omega), mj_u_ne (by omega)])
    · exact (show _ = _ from an).trans (by rw [mj_un_ne (by omega)])
    · exact (mj_un_eq _ _ _).symm
    · exact (show _ = _ from an2).trans (by rw [mj_un_ne (by omega)])
    · exact (show _ = _ from an3).trans (by rw [mj_un_ne (by omega)])
    · exact (show _ = _ from ad).trans (by rw [mj_un_ne (by omega)])
    · exact (mj_ag_out aI (by omega))
    · exact (mj_ag_out aK (by omega))
    · exact (mj_ag_out aF (by omega))
    · exact (mj_ag_out aU (by omega))
    · exact (mj_ag_out aW (by omega))
    · exact mj_ag_le (mj_ag_out avk (by omega)) (Nat.le_of_eq (by rw [mj_un_ne (by omega)]))
    · exact mj_ag_le (mj_ag_out avw (by omega)) (Nat.le_of_eq (by rw [mj_un_ne (by omega)]))
    · exact mj_ag_le (mj_ag_out avc (by omega)) (Nat.le_of_eq (by rw [mj_un_ne (by omega)]))
    · rw [show mj_un (C 101) (1 + 0) 0 1 = 0 from mj_un_eq _ _ _]; exact fun q hq => absurd hq (Nat.not_lt_zero q)
    · exact mj_ag_le (mj_ag_out aP (by omega)) (Nat.le_of_eq (by rw [mj_un_ne (by omega)]))
theorem st_forget_1_t {E : mj_E} {κ : Nat → Bool} {C : Nat → Nat → Nat} (R : mj_Rel κ C)   : mj_St E mj_G mj_isI iX10_forget iX11_forget [.int (nI 1)] (hh κ C) := by
  refine mj_st (ev_X10_forget_1 R.1 ) ⟨_, rfl⟩ (ev_X11_forget_1 (E := E) (h := hh κ (mj_u C 33 (mj_row [0]))) (hc100 κ (mj_u C 33 (mj_row [0]))) (hc101 κ (mj_u C 33 (mj_row [0])))) ?_ (hu101 rfl) ?_
  · exact mj_vI (rl_n2 R).symm
  · have aH := rl_H R
    have an := rl_n R
    have an1 := rl_n1 R
    have an2 := rl_n2 R
    have an3 := rl_n3 R
    have ad := rl_d R
    have aI := rl_I R
    have aK := rl_K R
    have aF := rl_F R
    have aU := rl_U R
    have aW := rl_W R
    have avk := rl_vk R
    have avw := rl_vw R
    have avc := rl_vc R
    have aN := rl_N R
    have aP := rl_P R
    have b0 := R.2.1.1
    have b1 := R.2.1.2.1
    have b2 := R.2.1.2.2.1
    refine R.now (mj_CI_u (mj_CI_20 R.1 (by omega) (by omega) (by omega) (by omega) (mj_row1_0 (Nat.zero_le _))) (by omega) (by omega) (by omega) (by omega) (by omega)) (show mj_Tb (mj_un (C 101) (1 + 1) 0) from (mj_Tb_un R.2.1 (fun _ => Nat.zero_le _))) (show mj_RL 20 _ (mj_un (C 101) (1 + 1) 0) from rl_mk ?_ ?_ ?_ ?_ ?_ ?_ ?_ ?_ ?_ ?_ ?_ ?_ ?_ ?_ ?_ (fun u hu => by have hu2 : u < C 101 3 := (by rw [mj_un_ne (by omega)] at hu; exact hu); exact ⟨by show C 37 u = _; rw [mj_un_ne (by omega)]; exact (aH u hu2).1, fun q hq => by show C 36 (u * 25 + q) = _; rw [mj_un_ne (by omega)]; exact (aH u hu2).2 q hq⟩)) (fun j hj => by rw [mj_u_ne (by omega), mj_u_ne (by omega)])
    · exact (show _ = _ from an).trans (by rw [mj_un_ne (by omega)])
    · exact (show _ = _ from an1).trans (by rw [mj_un_ne (by omega)])
    · exact (mj_un_eq _ _ _).symm
    · exact (show _ = _ from an3).trans (by rw [mj_un_ne (by omega)])
    · exact (show _ = _ from ad).trans (by rw [mj_un_ne (by omega)])
    · exact (mj_ag_out aI (by omega))
    · exact (mj_ag_out aK (by omega))
    · exact (mj_ag_out aF (by omega))
    · exact (mj_ag_out aU (by omega))
    · exact (mj_ag_out aW (by omega))
    · exact mj_ag_le (mj_ag_out avk (by omega)) (Nat.le_of_eq (by rw [mj_un_ne (by omega)]))
    · exact mj_ag_le (mj_ag_out avw (by omega)) (Nat.le_of_eq (by rw [mj_un_ne (by omega)]))
    · exact mj_ag_le (mj_ag_out avc (by omega)) (Nat.le_of_eq (by rw [mj_un_ne (by omega)]))
    · exact mj_ag_le (mj_ag_out aN (by omega)) (Nat.le_of_eq (by rw [mj_un_ne (by omega)]))
    · rw [show mj_un (C 101) (1 + 1) 0 2 = 0 from mj_un_eq _ _ _]; exact fun q hq => absurd hq (Nat.not_lt_zero q)
theorem st_note_t {E : mj_E} {κ : Nat → Bool} {C : Nat → Nat → Nat} (R : mj_Rel κ C) {c i f s j : Nat} (h0 : c < 25) (h1 : i ≤ 99) (h2 : f ≤ 9) (h3 : s ≤ 9) (h4 : j ≤ 99) (h5 : C 31 0 < 6) : mj_St E mj_G mj_isI iX10_note iX11_note [.int (nI c), .int (nI i), .int (nI f), .int (nI s), .int (nI j)] (hh κ C) := by
  refine mj_st (ev_X10_note R.1 h0 h1 h2 h3 h4 h5) ⟨_, rfl⟩ (ev_X11_note (E := E) (h := hh κ (mj_u (mj_u C 32 (mj_un (mj_un (mj_un (mj_un (mj_un (C 32) ((C 31 0) * 5) c) ((C 31 0) * 5 + 1) i) ((C 31 0) * 5 + 2) f) ((C 31 0) * 5 + 3) s) ((C 31 0) * 5 + 4) j)) 31 (mj_row [(C 31 0) + 1]))) (hc100 κ (mj_u (mj_u C 32 (mj_un (mj_un (mj_un (mj_un (mj_un (C 32) ((C 31 0) * 5) c) ((C 31 0) * 5 + 1) i) ((C 31 0) * 5 + 2) f) ((C 31 0) * 5 + 3) s) ((C 31 0) * 5 + 4) j)) 31 (mj_row [(C 31 0) + 1]))) (hc101 κ (mj_u (mj_u C 32 (mj_un (mj_un (mj_un (mj_un (mj_un (C 32) ((C 31 0) * 5) c) ((C 31 0) * 5 + 1) i) ((C 31 0) * 5 + 2) f) ((C 31 0) * 5 + 3) s) ((C 31 0) * 5 + 4) j)) 31 (mj_row [(C 31 0) + 1]))) (show mj_Tb ((mj_u (mj_u C 32 (mj_un (mj_un (mj_un (mj_un (mj_un (C 32) ((C 31 0) * 5) c) ((C 31 0) * 5 + 1) i) ((C 31 0) * 5 + 2) f) ((C 31 0) * 5 + 3) s) ((C 31 0) * 5 + 4) j)) 31 (mj_row [(C 31 0) + 1])) 101) from R.2.1) h0 h1 h2 h3 h4 (show C 101 1 < 6 by rw [← rl_n1 R]; exact h5)) ?_ (hu101 (hu101 (hu101 (hu101 (hu101 (hu101 rfl)))))) ?_
  · exact mj_vI (by rw [rl_n1 R]; rfl)
  · have aH := rl_H R
    have h6 : C 101 1 < 6 := by rw [← rl_n1 R]; exact h5
    have e1 : (mj_un (mj_un (mj_un (mj_un (mj_un (C 101) (94 + (5 * C 101 1)) c) ((94 + (5 * C 101 1)) + 1) i) ((94 + (5 * C 101 1)) + 2) f) ((94 + (5 * C 101 1)) + 3) s) ((94 + (5 * C 101 1)) + 4) j) 1 = C 101 1 := by rw [mj_un_ne (by omega), mj_un_ne (by omega), mj_un_ne (by omega), mj_un_ne (by omega), mj_un_ne (by omega)]
    have an := rl_n R
    have an1 := rl_n1 R
    have an2 := rl_n2 R
    have an3 := rl_n3 R
    have ad := rl_d R
    have aI := rl_I R
    have aK := rl_K R
    have aF := rl_F R
    have aU := rl_U R
    have aW := rl_W R
    have avk := rl_vk R
    have avw := rl_vw R
    have avc := rl_vc R
    have aN := rl_N R
    have aP := rl_P R
    have b0 := R.2.1.1
    have b1 := R.2.1.2.1
    have b2 := R.2.1.2.2.1
    refine R.now (mj_CI_u (mj_CI_u (mj_CI_u (mj_CI_u (mj_CI_u (mj_CI_u (mj_CI_20 (mj_CI_rec R.1 (by omega) (mj_un_le (mj_un_le (mj_un_le (mj_un_le (mj_un_le (R.1.1 12 (by decide)) (show c ≤ 99 by omega)) (show i ≤ 99 by omega)) (show f ≤ 99 by omega)) (show s ≤ 99 by omega)) (show j ≤ 99 by omega)) (fun q => ⟨fun _ => ⟨mj_un5 (j := 0) (by decide) (R.1.2.2.2.2.2.2.2.2.1 q).1 (fun _ => show c ≤ 24 by omega), mj_un5 (j := 2) (by decide) (R.1.2.2.2.2.2.2.2.2.1 q).2.1 (fun _ => show f ≤ 9 by omega), mj_un5 (j := 3) (by decide) (R.1.2.2.2.2.2.2.2.2.1 q).2.2.1 (fun _ => show s ≤ 9 by omega)⟩, fun z => absurd z (by decide)⟩)) (by omega) (by omega) (by omega) (by omega) (mj_row1_0 (show C 31 0 + 1 ≤ 6 by omega))) (by omega) (by omega) (by omega) (by omega) (by omega)) (by omega) (by omega) (by omega) (by omega) (by omega)) (by omega) (by omega) (by omega) (by omega) (by omega)) (by omega) (by omega) (by omega) (by omega) (by omega)) (by omega) (by omega) (by omega) (by omega) (by omega)) (by omega) (by omega) (by omega) (by omega) (by omega)) (show mj_Tb (mj_un (mj_un (mj_un (mj_un (mj_un (mj_un (C 101) (94 + (5 * ((C 101) 1))) c) ((94 + (5 * ((C 101) 1))) + 1) i) ((94 + (5 * ((C 101) 1))) + 2) f) ((94 + (5 * ((C 101) 1))) + 3) s) ((94 + (5 * ((C 101) 1))) + 4) j) 1 (((mj_un (mj_un (mj_un (mj_un (mj_un (C 101) (94 + (5 * ((C 101) 1))) c) ((94 + (5 * ((C 101) 1))) + 1) i) ((94 + (5 * ((C 101) 1))) + 2) f) ((94 + (5 * ((C 101) 1))) + 3) s) ((94 + (5 * ((C 101) 1))) + 4) j) 1) + 1)) from (mj_Tb_un (mj_Tb_un (mj_Tb_un (mj_Tb_un (mj_Tb_un (mj_Tb_un R.2.1 (fun _ => by rw [tl_note (by omega) (by omega)]; split <;> omega)) (fun _ => by rw [tl_note (by omega) (by omega)]; split <;> omega)) (fun _ => by rw [tl_note (by omega) (by omega)]; split <;> omega)) (fun _ => by rw [tl_note (by omega) (by omega)]; split <;> omega)) (fun _ => by rw [tl_note (by omega) (by omega)]; split <;> omega)) (fun _ => show (mj_un (mj_un (mj_un (mj_un (mj_un (C 101) (94 + (5 * C 101 1)) c) ((94 + (5 * C 101 1)) + 1) i) ((94 + (5 * C 101 1)) + 2) f) ((94 + (5 * C 101 1)) + 3) s) ((94 + (5 * C 101 1)) + 4) j) 1 + 1 ≤ 6 by rw [e1]; omega))) (show mj_RL 20 _ (mj_un (mj_un (mj_un (mj_un (mj_un (mj_un (C 101) (94 + (5 * ((C 101) 1))) c) ((94 + (5 * ((C 101) 1))) + 1) i) ((94 + (5 * ((C 101) 1))) + 2) f) ((94 + (5 * ((C 101) 1))) + 3) s) ((94 + (5 * ((C 101) 1))) + 4) j) 1 (((mj_un (mj_un (mj_un (mj_un (mj_un (C 101) (94 + (5 * ((C 101) 1))) c) ((94 + (5 * ((C 101) 1))) + 1) i) ((94 + (5 * ((C 101) 1))) + 2) f) ((94 + (5 * ((C 101) 1))) + 3) s) ((94 + (5 * ((C 101) 1))) + 4) j) 1) + 1)) from rl_mk ?_ ?_ ?_ ?_ ?_ ?_ ?_ ?_ ?_ ?_ ?_ ?_ ?_ ?_ ?_ (fun u hu => by have hu2 : u < C 101 3 := (by rw [mj_un_ne (by omega), mj_un_ne (by omega), mj_un_ne (by omega), mj_un_ne (by omega), mj_un_ne (by omega), mj_un_ne (by omega)] at hu; exact hu); exact ⟨by show C 37 u = _; rw [mj_un_ne (by omega), mj_un_ne (by omega), mj_un_ne (by omega), mj_un_ne (by omega), mj_un_ne (by omega), mj_un_ne (by omega)]; exact (aH u hu2).1, fun q hq => by show C 36 (u * 25 + q) = _; rw [mj_un_ne (by omega), mj_un_ne (by omega), mj_un_ne (by omega), mj_un_ne (by omega), mj_un_ne (by omega), mj_un_ne (by omega)]; exact (aH u hu2).2 q hq⟩)) (fun j hj => by rw [mj_u_ne (by omega), mj_u_ne (by omega), mj_u_ne (by omega), mj_u_ne (by omega), mj_u_ne (by omega), mj_u_ne (by omega), mj_u_ne (by omega), mj_u_ne (by omega)])
    · exact (show _ = _ from an).trans (by rw [mj_un_ne (by omega), mj_un_ne (by omega), mj_un_ne (by omega), mj_un_ne (by omega), mj_un_ne (by omega), mj_un_ne (by omega)])
    · exact (show _ = _ from congrArg (· + 1) an1).trans (by rw [mj_un_eq, e1])
    · exact (show _ = _ from an2).trans (by rw [mj_un_ne (by omega), mj_un_ne (by omega), mj_un_ne (by omega), mj_un_ne (by omega), mj_un_ne (by omega), mj_un_ne (by omega)])
    · exact (show _ = _ from an3).trans (by rw [mj_un_ne (by omega), mj_un_ne (by omega), mj_un_ne (by omega), mj_un_ne (by omega), mj_un_ne (by omega), mj_un_ne (by omega)])
    · exact (show _ = _ from ad).trans (by rw [mj_un_ne (by omega), mj_un_ne (by omega), mj_un_ne (by omega), mj_un_ne (by omega), mj_un_ne (by omega), mj_un_ne (by omega)])
    · exact (mj_ag_out (mj_ag_out (mj_ag_out (mj_ag_out (mj_ag_out (mj_ag_out aI (by omega)) (by omega)) (by omega)) (by omega)) (by omega)) (by omega))
    · exact (mj_ag_out (mj_ag_out (mj_ag_out (mj_ag_out (mj_ag_out (mj_ag_out aK (by omega)) (by omega)) (by omega)) (by omega)) (by omega)) (by omega))
    · exact (mj_ag_out (mj_ag_out (mj_ag_out (mj_ag_out (mj_ag_out (mj_ag_out aF (by omega)) (by omega)) (by omega)) (by omega)) (by omega)) (by omega))
    · exact (mj_ag_out (mj_ag_out (mj_ag_out (mj_ag_out (mj_ag_out (mj_ag_out aU (by omega)) (by omega)) (by omega)) (by omega)) (by omega)) (by omega))
    · exact (mj_ag_out (mj_ag_out (mj_ag_out (mj_ag_out (mj_ag_out (mj_ag_out aW (by omega)) (by omega)) (by omega)) (by omega)) (by omega)) (by omega))
    · exact mj_ag_le (mj_ag_out (mj_ag_out (mj_ag_out (mj_ag_out (mj_ag_out (mj_ag_out avk (by omega)) (by omega)) (by omega)) (by omega)) (by omega)) (by omega)) (Nat.le_of_eq (by rw [mj_un_ne (by omega), mj_un_ne (by omega), mj_un_ne (by omega), mj_un_ne (by omega), mj_un_ne (by omega), mj_un_ne (by omega)]))
    · exact mj_ag_le (mj_ag_out (mj_ag_out (mj_ag_out (mj_ag_out (mj_ag_out (mj_ag_out avw (by omega)) (by omega)) (by omega)) (by omega)) (by omega)) (by omega)) (Nat.le_of_eq (by rw [mj_un_ne (by omega), mj_un_ne (by omega), mj_un_ne (by omega), mj_un_ne (by omega), mj_un_ne (by omega), mj_un_ne (by omega)]))
    · exact mj_ag_le (mj_ag_out (mj_ag_out (mj_ag_out (mj_ag_out (mj_ag_out (mj_ag_out avc (by omega)) (by omega)) (by omega)) (by omega)) (by omega)) (by omega)) (Nat.le_of_eq (by rw [mj_un_ne (by omega), mj_un_ne (by omega), mj_un_ne (by omega), mj_un_ne (by omega), mj_un_ne (by omega), mj_un_ne (by omega)]))
    · rw [mj_un_eq, e1]; exact mj_ag_out (show mj_ag (5 * (C 101 1 + 1)) (mj_un (mj_un (mj_un (mj_un (mj_un (C 32) ((C 31 0) * 5) c) ((C 31 0) * 5 + 1) i) ((C 31 0) * 5 + 2) f) ((C 31 0) * 5 + 3) s) ((C 31 0) * 5 + 4) j) _ 94 from by rw [an1]; exact mj_ag_5 aN) (by omega)
    · exact mj_ag_le (mj_ag_out (mj_ag_out (mj_ag_out (mj_ag_out (mj_ag_out (mj_ag_out aP (by omega)) (by omega)) (by omega)) (by omega)) (by omega)) (by omega)) (Nat.le_of_eq (by rw [mj_un_ne (by omega), mj_un_ne (by omega), mj_un_ne (by omega), mj_un_ne (by omega), mj_un_ne (by omega), mj_un_ne (by omega)]))
theorem st_voted_t {E : mj_E} {κ : Nat → Bool} {C : Nat → Nat → Nat} (R : mj_Rel κ C) {v y p m f : Nat} (h0 : v < C 27 0) (h1 : y ≤ 1) (h2 : p ≤ 198) (h3 : m ≤ 198) (h4 : f ≤ 9) (h5 : C 33 0 < 6) : mj_St E mj_G mj_isI iX10_voted iX11_voted [.int (nI v), .int (nI y), .int (nI p), .int (nI m), .int (nI f)] (hh κ C) := by
  refine mj_st (ev_X10_voted R.1 h0 h1 h2 h3 h4 h5) ⟨_, rfl⟩ (ev_X11_voted (E := E) (h := hh κ (mj_u (mj_u C 34 (mj_un (mj_un (mj_un (mj_un (mj_un (C 34) ((C 33 0) * 5) v) ((C 33 0) * 5 + 1) y) ((C 33 0) * 5 + 2) p) ((C 33 0) * 5 + 3) m) ((C 33 0) * 5 + 4) f)) 33 (mj_row [(C 33 0) + 1]))) (hc100 κ (mj_u (mj_u C 34 (mj_un (mj_un (mj_un (mj_un (mj_un (C 34) ((C 33 0) * 5) v) ((C 33 0) * 5 + 1) y) ((C 33 0) * 5 + 2) p) ((C 33 0) * 5 + 3) m) ((C 33 0) * 5 + 4) f)) 33 (mj_row [(C 33 0) + 1]))) (hc101 κ (mj_u (mj_u C 34 (mj_un (mj_un (mj_un (mj_un (mj_un (C 34) ((C 33 0) * 5) v) ((C 33 0) * 5 + 1) y) ((C 33 0) * 5 + 2) p) ((C 33 0) * 5 + 3) m) ((C 33 0) * 5 + 4) f)) 33 (mj_row [(C 33 0) + 1]))) (show mj_Tb ((mj_u (mj_u C 34 (mj_un (mj_un (mj_un (mj_un (mj_un (C 34) ((C 33 0) * 5) v) ((C 33 0) * 5 + 1) y) ((C 33 0) * 5 + 2) p) ((C 33 0) * 5 + 3) m) ((C 33 0) * 5 + 4) f)) 33 (mj_row [(C 33 0) + 1])) 101) from R.2.1) (show v < C 101 0 by rw [← rl_n R]; exact h0) h1 h2 h3 h4 (show C 101 2 < 6 by rw [← rl_n2 R]; exact h5)) ?_ (hu101 (hu101 (hu101 (hu101 (hu101 (hu101 rfl)))))) ?_
  · exact mj_vI (by rw [rl_n2 R]; rfl)
  · have c7 := rv_7 R
    have aH := rl_H R
    have h6 : C 101 2 < 6 := by rw [← rl_n2 R]; exact h5
    have e1 : (mj_un (mj_un (mj_un (mj_un (mj_un (C 101) (124 + (5 * C 101 2)) v) ((124 + (5 * C 101 2)) + 1) y) ((124 + (5 * C 101 2)) + 2) p) ((124 + (5 * C 101 2)) + 3) m) ((124 + (5 * C 101 2)) + 4) f) 2 = C 101 2 := by rw [mj_un_ne (by omega), mj_un_ne (by omega), mj_un_ne (by omega), mj_un_ne (by omega), mj_un_ne (by omega)]
    have an := rl_n R
    have an1 := rl_n1 R
    have an2 := rl_n2 R
    have an3 := rl_n3 R
    have ad := rl_d R
    have aI := rl_I R
    have aK := rl_K R
    have aF := rl_F R
    have aU := rl_U R
    have aW := rl_W R
    have avk := rl_vk R
    have avw := rl_vw R
    have avc := rl_vc R
    have aN := rl_N R
    have aP := rl_P R
    have b0 := R.2.1.1
    have b1 := R.2.1.2.1
    have b2 := R.2.1.2.2.1
    refine R.now (mj_CI_u (mj_CI_u (mj_CI_u (mj_CI_u (mj_CI_u (mj_CI_u (mj_CI_20 (mj_CI_rec R.1 (by omega) (mj_un_le (mj_un_le (mj_un_le (mj_un_le (mj_un_le (R.1.1 14 (by decide)) (show v ≤ 198 by omega)) (show y ≤ 198 by omega)) (show p ≤ 198 by omega)) (show m ≤ 198 by omega)) (show f ≤ 198 by omega)) (fun q => ⟨fun z => absurd z (by decide), fun _ => ⟨mj_un5 (j := 0) (by decide) (R.1.2.2.2.2.2.2.2.2.1 q).2.2.2.1 (fun _ => show v ≤ 6 by omega), mj_un5 (j := 1) (by decide) (R.1.2.2.2.2.2.2.2.2.1 q).2.2.2.2.1 (fun _ => show y ≤ 1 by omega), mj_un5 (j := 4) (by decide) (R.1.2.2.2.2.2.2.2.2.1 q).2.2.2.2.2 (fun _ => show f ≤ 9 by omega)⟩⟩)) (by omega) (by omega) (by omega) (by omega) (mj_row1_0 (show C 33 0 + 1 ≤ 6 by omega))) (by omega) (by omega) (by omega) (by omega) (by omega)) (by omega) (by omega) (by omega) (by omega) (by omega)) (by omega) (by omega) (by omega) (by omega) (by omega)) (by omega) (by omega) (by omega) (by omega) (by omega)) (by omega) (by omega) (by omega) (by omega) (by omega)) (by omega) (by omega) (by omega) (by omega) (by omega)) (show mj_Tb (mj_un (mj_un (mj_un (mj_un (mj_un (mj_un (C 101) (124 + (5 * ((C 101) 2))) v) ((124 + (5 * ((C 101) 2))) + 1) y) ((124 + (5 * ((C 101) 2))) + 2) p) ((124 + (5 * ((C 101) 2))) + 3) m) ((124 + (5 * ((C 101) 2))) + 4) f) 2 (((mj_un (mj_un (mj_un (mj_un (mj_un (C 101) (124 + (5 * ((C 101) 2))) v) ((124 + (5 * ((C 101) 2))) + 1) y) ((124 + (5 * ((C 101) 2))) + 2) p) ((124 + (5 * ((C 101) 2))) + 3) m) ((124 + (5 * ((C 101) 2))) + 4) f) 2) + 1)) from (mj_Tb_un (mj_Tb_un (mj_Tb_un (mj_Tb_un (mj_Tb_un (mj_Tb_un R.2.1 (fun _ => by rw [tl_vote (by omega) (by omega)]; omega)) (fun _ => by rw [tl_vote (by omega) (by omega)]; omega)) (fun _ => by rw [tl_vote (by omega) (by omega)]; omega)) (fun _ => by rw [tl_vote (by omega) (by omega)]; omega)) (fun _ => by rw [tl_vote (by omega) (by omega)]; omega)) (fun _ => show (mj_un (mj_un (mj_un (mj_un (mj_un (C 101) (124 + (5 * C 101 2)) v) ((124 + (5 * C 101 2)) + 1) y) ((124 + (5 * C 101 2)) + 2) p) ((124 + (5 * C 101 2)) + 3) m) ((124 + (5 * C 101 2)) + 4) f) 2 + 1 ≤ 6 by rw [e1]; omega))) (show mj_RL 20 _ (mj_un (mj_un (mj_un (mj_un (mj_un (mj_un (C 101) (124 + (5 * ((C 101) 2))) v) ((124 + (5 * ((C 101) 2))) + 1) y) ((124 + (5 * ((C 101) 2))) + 2) p) ((124 + (5 * ((C 101) 2))) + 3) m) ((124 + (5 * ((C 101) 2))) + 4) f) 2 (((mj_un (mj_un (mj_un (mj_un (mj_un (C 101) (124 + (5 * ((C 101) 2))) v) ((124 + (5 * ((C 101) 2))) + 1) y) ((124 + (5 * ((C 101) 2))) + 2) p) ((124 + (5 * ((C 101) 2))) + 3) m) ((124 + (5 * ((C 101) 2))) + 4) f) 2) + 1)) from rl_mk ?_ ?_ ?_ ?_ ?_ ?_ ?_ ?_ ?_ ?_ ?_ ?_ ?_ ?_ ?_ (fun u hu => by have hu2 : u < C 101 3 := (by rw [mj_un_ne (by omega), mj_un_ne (by omega), mj_un_ne (by omega), mj_un_ne (by omega), mj_un_ne (by omega), mj_un_ne (by omega)] at hu; exact hu); exact ⟨by show C 37 u = _; rw [mj_un_ne (by omega), mj_un_ne (by omega), mj_un_ne (by omega), mj_un_ne (by omega), mj_un_ne (by omega), mj_un_ne (by omega)]; exact (aH u hu2).1, fun q hq => by show C 36 (u * 25 + q) = _; rw [mj_un_ne (by omega), mj_un_ne (by omega), mj_un_ne (by omega), mj_un_ne (by omega), mj_un_ne (by omega), mj_un_ne (by omega)]; exact (aH u hu2).2 q hq⟩)) (fun j hj => by rw [mj_u_ne (by omega), mj_u_ne (by omega), mj_u_ne (by omega), mj_u_ne (by omega), mj_u_ne (by omega), mj_u_ne (by omega), mj_u_ne (by omega), mj_u_ne (by omega)])
    · exact (show _ = _ from an).trans (by rw [mj_un_ne (by omega), mj_un_ne (by omega), mj_un_ne (by omega), mj_un_ne (by omega), mj_un_ne (by omega), mj_un_ne (by omega)])
    · exact (show _ = _ from an1).trans (by rw [mj_un_ne (by omega), mj_un_ne (by omega), mj_un_ne (by omega), mj_un_ne (by omega), mj_un_ne (by omega), mj_un_ne (by omega)])
    · exact (show _ = _ from congrArg (· + 1) an2).trans (by rw [mj_un_eq, e1])
    · exact (show _ = _ from an3).trans (by rw [mj_un_ne (by omega), mj_un_ne (by omega), mj_un_ne (by omega), mj_un_ne (by omega), mj_un_ne (by omega), mj_un_ne (by omega)])
    · exact (show _ = _ from ad).trans (by rw [mj_un_ne (by omega), mj_un_ne (by omega), mj_un_ne (by omega), mj_un_ne (by omega), mj_un_ne (by omega), mj_un_ne (by omega)])
    · exact (mj_ag_out (mj_ag_out (mj_ag_out (mj_ag_out (mj_ag_out (mj_ag_out aI (by omega)) (by omega)) (by omega)) (by omega)) (by omega)) (by omega))
    · exact (mj_ag_out (mj_ag_out (mj_ag_out (mj_ag_out (mj_ag_out (mj_ag_out aK (by omega)) (by omega)) (by omega)) (by omega)) (by omega)) (by omega))
    · exact (mj_ag_out (mj_ag_out (mj_ag_out (mj_ag_out (mj_ag_out (mj_ag_out aF (by omega)) (by omega)) (by omega)) (by omega)) (by omega)) (by omega))
    · exact (mj_ag_out (mj_ag_out (mj_ag_out (mj_ag_out (mj_ag_out (mj_ag_out aU (by omega)) (by omega)) (by omega)) (by omega)) (by omega)) (by omega))
    · exact (mj_ag_out (mj_ag_out (mj_ag_out (mj_ag_out (mj_ag_out (mj_ag_out aW (by omega)) (by omega)) (by omega)) (by omega)) (by omega)) (by omega))
    · exact mj_ag_le (mj_ag_out (mj_ag_out (mj_ag_out (mj_ag_out (mj_ag_out (mj_ag_out avk (by omega)) (by omega)) (by omega)) (by omega)) (by omega)) (by omega)) (Nat.le_of_eq (by rw [mj_un_ne (by omega), mj_un_ne (by omega), mj_un_ne (by omega), mj_un_ne (by omega), mj_un_ne (by omega), mj_un_ne (by omega)]))
    · exact mj_ag_le (mj_ag_out (mj_ag_out (mj_ag_out (mj_ag_out (mj_ag_out (mj_ag_out avw (by omega)) (by omega)) (by omega)) (by omega)) (by omega)) (by omega)) (Nat.le_of_eq (by rw [mj_un_ne (by omega), mj_un_ne (by omega), mj_un_ne (by omega), mj_un_ne (by omega), mj_un_ne (by omega), mj_un_ne (by omega)]))
    · exact mj_ag_le (mj_ag_out (mj_ag_out (mj_ag_out (mj_ag_out (mj_ag_out (mj_ag_out avc (by omega)) (by omega)) (by omega)) (by omega)) (by omega)) (by omega)) (Nat.le_of_eq (by rw [mj_un_ne (by omega), mj_un_ne (by omega), mj_un_ne (by omega), mj_un_ne (by omega), mj_un_ne (by omega), mj_un_ne (by omega)]))
    · exact mj_ag_le (mj_ag_out (mj_ag_out (mj_ag_out (mj_ag_out (mj_ag_out (mj_ag_out aN (by omega)) (by omega)) (by omega)) (by omega)) (by omega)) (by omega)) (Nat.le_of_eq (by rw [mj_un_ne (by omega), mj_un_ne (by omega), mj_un_ne (by omega), mj_un_ne (by omega), mj_un_ne (by omega), mj_un_ne (by omega)]))
    · rw [mj_un_eq, e1]; exact mj_ag_out (show mj_ag (5 * (C 101 2 + 1)) (mj_un (mj_un (mj_un (mj_un (mj_un (C 34) ((C 33 0) * 5) v) ((C 33 0) * 5 + 1) y) ((C 33 0) * 5 + 2) p) ((C 33 0) * 5 + 3) m) ((C 33 0) * 5 + 4) f) _ 124 from by rw [an2]; exact mj_ag_5 aP) (by omega)
