theorem RL_kind {b : Nat} {C : Nat → Nat → Nat} {A K A' : Nat → Nat} (h : mj_RL b C A) (hk : ∀ q, q < 25 → K q = A' (30 + q)) (ho : ∀ x, x < 30 ∨ 55 ≤ x → A' x = A x) : mj_RL b (mj_u C (b + 2) K) A' := by
  obtain ⟨⟨a0, a1, a2, a3, a4⟩, b1, b2, b3, b4, b5, b6, b7, b8, b9⟩ := h
  have o0 := ho 0 (by decide); have o1 := ho 1 (by decide); have o2 := ho 2 (by decide); have o3 := ho 3 (by decide)
  refine ⟨⟨?_, ?_, ?_, ?_, ?_⟩, fun q hq => ?_, fun q hq => ?_, fun q hq => ?_, fun q hq => ?_, fun q hq => ?_, fun v hv => ?_, fun p hp => ?_, fun p hp => ?_, fun u hu => ?_⟩
  · rw [mj_u_ne (by omega), o0]; exact a0
  · rw [mj_u_ne (by omega), o1]; exact a1
  · rw [mj_u_ne (by omega), o2]; exact a2
  · rw [mj_u_ne (by omega), o3]; exact a3
  · rw [mj_u_ne (by omega), ho 29 (by decide)]; exact a4
  · rw [mj_u_ne (by omega), ho _ (by omega)]; exact b1 q hq
  · rw [mj_u_eq]; exact hk q hq
  · rw [mj_u_ne (by omega), ho _ (by omega)]; exact b3 q hq
  · rw [mj_u_ne (by omega), ho _ (by omega)]; exact b4 q hq
  · rw [mj_u_ne (by omega), ho _ (by omega)]; exact b5 q hq
  · rw [mj_u_ne (by omega), mj_u_ne (by omega), mj_u_ne (by omega), ho _ (by omega), ho _ (by omega), ho _ (by omega)]; exact b6 v (by rw [← o0]; exact hv)
  · rw [mj_u_ne (by omega), ho _ (by omega)]; exact b7 p (by rw [← o1]; exact hp)
  · rw [mj_u_ne (by omega), ho _ (by omega)]; exact b8 p (by rw [← o2]; exact hp)
  · rw [mj_u_ne (by omega), mj_u_ne (by omega), ho _ (by omega)]
    have := b9 u (by rw [← o3]; exact hu)
    exact ⟨this.1, fun q hq => by rw [ho _ (by omega)]; exact this.2 q hq⟩
theorem RL_week {b : Nat} {C : Nat → Nat → Nat} {A F U A' : Nat → Nat} (h : mj_RL b C A) (hF : ∀ q, q < 7 → F q = A' (55 + q)) (hU : ∀ q, q < 7 → U q = A' (62 + q)) (ho : ∀ x, x < 55 ∨ 69 ≤ x → A' x = A x) : mj_RL b (mj_u (mj_u C (b + 5) F) (b + 6) U) A' := by
  obtain ⟨⟨a0, a1, a2, a3, a4⟩, b1, b2, b3, b4, b5, b6, b7, b8, b9⟩ := h
  have o0 := ho 0 (by decide); have o1 := ho 1 (by decide); have o2 := ho 2 (by decide); have o3 := ho 3 (by decide)
  refine ⟨⟨?_, ?_, ?_, ?_, ?_⟩, fun q hq => ?_, fun q hq => ?_, fun q hq => ?_, fun q hq => ?_, fun q hq => ?_, fun v hv => ?_, fun p hp => ?_, fun p hp => ?_, fun u hu => ?_⟩
  · rw [mj_u_ne (by omega), mj_u_ne (by omega), o0]; exact a0
  · rw [mj_u_ne (by omega), mj_u_ne (by omega), o1]; exact a1
  · rw [mj_u_ne (by omega), mj_u_ne (by omega), o2]; exact a2
  · rw [mj_u_ne (by omega), mj_u_ne (by omega), o3]; exact a3
  · rw [mj_u_ne (by omega), mj_u_ne (by omega), ho 29 (by decide)]; exact a4
  · rw [mj_u_ne (by omega), mj_u_ne (by omega), ho _ (by omega)]; exact b1 q hq
  · rw [mj_u_ne (by omega), mj_u_ne (by omega), ho _ (by omega)]; exact b2 q hq
  · rw [mj_u_ne (by omega), mj_u_eq]; exact hF q hq
  · rw [mj_u_eq]; exact hU q hq
  · rw [mj_u_ne (by omega), mj_u_ne (by omega), ho _ (by omega)]; exact b5 q hq
  · rw [mj_u_ne (by omega), mj_u_ne (by omega), mj_u_ne (by omega), mj_u_ne (by omega), mj_u_ne (by omega), mj_u_ne (by omega), ho _ (by omega), ho _ (by omega), ho _ (by omega)]; exact b6 v (by rw [← o0]; exact hv)
  · rw [mj_u_ne (by omega), mj_u_ne (by omega), ho _ (by omega)]; exact b7 p (by rw [← o1]; exact hp)
  · rw [mj_u_ne (by omega), mj_u_ne (by omega), ho _ (by omega)]; exact b8 p (by rw [← o2]; exact hp)
  · rw [mj_u_ne (by omega), mj_u_ne (by omega), mj_u_ne (by omega), mj_u_ne (by omega), ho _ (by omega)]
    have := b9 u (by rw [← o3]; exact hu)
    exact ⟨this.1, fun q hq => by rw [ho _ (by omega)]; exact this.2 q hq⟩
theorem RL_voter {b k w c : Nat} {C : Nat → Nat → Nat} {A : Nat → Nat} (h : mj_RL b C A) (hz : A 0 < 7) : mj_RL b (mj_u (mj_u (mj_u (mj_u C (b + 7) (mj_row [C (b + 7) 0 + 1])) (b + 8) (mj_un (C (b + 8)) (C (b + 7) 0) k)) (b + 9) (mj_un (C (b + 9)) (C (b + 7) 0) w)) (b + 10) (mj_un (C (b + 10)) (C (b + 7) 0) c)) (mj_un (mj_un (mj_un (mj_un A (73 + A 0) k) (80 + A 0) w) (87 + A 0) c) 0 (A 0 + 1)) := by
  obtain ⟨⟨a0, a1, a2, a3, a4⟩, b1, b2, b3, b4, b5, b6, b7, b8, b9⟩ := h
  have ho : ∀ x, x ≠ 0 → (x < 73 ∨ 94 ≤ x) → mj_un (mj_un (mj_un (mj_un A (73 + A 0) k) (80 + A 0) w) (87 + A 0) c) 0 (A 0 + 1) x = A x := fun x h0 hx => by rw [mj_un_ne h0, mj_un_ne (by omega), mj_un_ne (by omega), mj_un_ne (by omega)]
  have o1 := ho 1 (by decide) (by decide); have o2 := ho 2 (by decide) (by decide); have o3 := ho 3 (by decide) (by decide)
  refine ⟨⟨?_, ?_, ?_, ?_, ?_⟩, fun q hq => ?_, fun q hq => ?_, fun q hq => ?_, fun q hq => ?_, fun q hq => ?_, fun v hv => ?_, fun p hp => ?_, fun p hp => ?_, fun u hu => ?_⟩
  · rw [mj_u_ne (by omega), mj_u_ne (by omega), mj_u_ne (by omega), mj_u_eq, mj_un_eq, a0]; rfl
  · rw [mj_u_ne (by omega), mj_u_ne (by omega), mj_u_ne (by omega), mj_u_ne (by omega), o1]; exact a1
  · rw [mj_u_ne (by omega), mj_u_ne (by omega), mj_u_ne (by omega), mj_u_ne (by omega), o2]; exact a2
  · rw [mj_u_ne (by omega), mj_u_ne (by omega), mj_u_ne (by omega), mj_u_ne (by omega), o3]; exact a3
  · rw [mj_u_ne (by omega), mj_u_ne (by omega), mj_u_ne (by omega), mj_u_ne (by omega), ho 29 (by decide) (by decide)]; exact a4
  · rw [mj_u_ne (by omega), mj_u_ne (by omega), mj_u_ne (by omega), mj_u_ne (by omega), ho _ (by omega) (by omega)]; exact b1 q hq
  · rw [mj_u_ne (by omega), mj_u_ne (by omega), mj_u_ne (by omega), mj_u_ne (by omega), ho _ (by omega) (by omega)]; exact b2 q hq
  · rw [mj_u_ne (by omega), mj_u_ne (by omega), mj_u_ne (by omega), mj_u_ne (by omega), ho _ (by omega) (by omega)]; exact b3 q hq
  · rw [mj_u_ne (by omega), mj_u_ne (by omega), mj_u_ne (by omega), mj_u_ne (by omega), ho _ (by omega) (by omega)]; exact b4 q hq
  · rw [mj_u_ne (by omega), mj_u_ne (by omega), mj_u_ne (by omega), mj_u_ne (by omega), ho _ (by omega) (by omega)]; exact b5 q hq
  · rw [mj_un_eq] at hv
    have e8 : mj_u (mj_u (mj_u (mj_u C (b + 7) (mj_row [C (b + 7) 0 + 1])) (b + 8) (mj_un (C (b + 8)) (C (b + 7) 0) k)) (b + 9) (mj_un (C (b + 9)) (C (b + 7) 0) w)) (b + 10) (mj_un (C (b + 10)) (C (b + 7) 0) c) (b + 8) = mj_un (C (b + 8)) (C (b + 7) 0) k := by rw [mj_u_ne (by omega), mj_u_ne (by omega), mj_u_eq]
    have e9 : mj_u (mj_u (mj_u (mj_u C (b + 7) (mj_row [C (b + 7) 0 + 1])) (b + 8) (mj_un (C (b + 8)) (C (b + 7) 0) k)) (b + 9) (mj_un (C (b + 9)) (C (b + 7) 0) w)) (b + 10) (mj_un (C (b + 10)) (C (b + 7) 0) c) (b + 9) = mj_un (C (b + 9)) (C (b + 7) 0) w := by rw [mj_u_ne (by omega), mj_u_eq]
    rw [e8, e9, mj_u_eq, a0]
    by_cases q : v = A 0
    · subst q
      rw [mj_un_eq, mj_un_eq, mj_un_eq]
      refine ⟨?_, ?_, ?_⟩
      · rw [mj_un_ne (by omega), mj_un_ne (by omega), mj_un_ne (by omega), mj_un_eq]
      · rw [mj_un_ne (by omega), mj_un_ne (by omega), mj_un_eq]
      · rw [mj_un_ne (by omega), mj_un_eq]
    · rw [mj_un_ne q, mj_un_ne q, mj_un_ne q]
      have := b6 v (by omega)
      refine ⟨?_, ?_, ?_⟩
      · rw [mj_un_ne (by omega), mj_un_ne (by omega), mj_un_ne (by omega), mj_un_ne (by omega)]; exact this.1
      · rw [mj_un_ne (by omega), mj_un_ne (by omega), mj_un_ne (by omega), mj_un_ne (by omega)]; exact this.2.1
      · rw [mj_un_ne (by omega), mj_un_ne (by omega), mj_un_ne (by omega), mj_un_ne (by omega)]; exact this.2.2
  · rw [mj_u_ne (by omega), mj_u_ne (by omega), mj_u_ne (by omega), mj_u_ne (by omega), ho _ (by omega) (by omega)]; exact b7 p (by rw [← o1]; exact hp)
  · rw [mj_u_ne (by omega), mj_u_ne (by omega), mj_u_ne (by omega), mj_u_ne (by omega), ho _ (by omega) (by omega)]; exact b8 p (by rw [← o2]; exact hp)
  · rw [mj_u_ne (by omega), mj_u_ne (by omega), mj_u_ne (by omega), mj_u_ne (by omega), mj_u_ne (by omega), mj_u_ne (by omega), mj_u_ne (by omega), mj_u_ne (by omega), ho _ (by omega) (by omega)]
    have := b9 u (by rw [← o3]; exact hu)
    exact ⟨this.1, fun q hq => by rw [ho _ (by omega) (by omega)]; exact this.2 q hq⟩
/-- where an item's call ends -/
def mj_Zi (κ : Nat → Bool) (C : Nat → Nat → Nat) (t : Nat) (A : Nat → Nat) : Option Value → mj_H → Prop := fun r h' => r = some (.int (mj_b (pi_ok (C 8) (C 7 0) t (A 0)))) ∧ ∃ D : Nat → Nat → Nat, h' = hh κ D ∧ mj_CI κ D ∧ (∀ i, i ≠ 7 → (i < 40 ∨ 59 ≤ i) → D i = C i) ∧ D 7 0 = C 7 0 ∧ D 7 1 = pi_en (C 8) (C 7 0) t (A 0) ∧ D 7 2 = sp_tt (C 8) (C 7 0) (pi_en (C 8) (C 7 0) t (A 0)) ∧ (pi_ok (C 8) (C 7 0) t (A 0) = true → mj_RL 40 D (pi_A (C 8) (C 7 0) t A))
theorem mj_Zi_f {κ : Nat → Bool} {C : Nat → Nat → Nat} {t u : Nat} {A : Nat → Nat} (I : mj_CI κ C) (hok : pi_ok (C 8) (C 7 0) t (A 0) = false) (hen : pi_en (C 8) (C 7 0) t (A 0) = u) : mj_Zi κ C t A (some (.int (mj_b false))) (hh κ (mj_u C 7 (mj_row [C 7 0, u, sp_tt (C 8) (C 7 0) u]))) := by
  refine ⟨by rw [hok], _, rfl, mj_CI_7 I, fun i hi _ => mj_u_ne hi, rfl, by rw [hen]; rfl, by rw [hen]; rfl, fun z => ?_⟩
  rw [hok] at z; exact absurd z (by decide)
set_option maxHeartbeats 4000000 in
theorem ev_X5_item {E : mj_E} {κ : Nat → Bool} {C : Nat → Nat → Nat} (I : mj_CI κ C) (hx : mj_tx C) {t : Nat} (h0 : C 7 1 = t) (h1 : C 7 2 = sp_tt (C 8) (C 7 0) t) (h2 : t < sp_tE (C 8) (C 7 0)) {A : Nat → Nat} (hR : mj_RL 40 C A) : mj_Ev E iX5_itemComes [.ref 7, .ref 40] (hh κ C) (mj_Zi κ C t A) := by
  have hz : C 47 0 = A 0 := hR.1.1
  have hl7x : C 7 0 ≤ 150 := I.2.2.2.2.2.2.1
  have hsz : C 47 0 ≤ 7 := I.2.1 7 (by decide) 0
  have hE := sp_tE_le (B := C 8) hl7x
  have heq : hh κ C = hh κ (mj_u C 7 (mj_row [C 7 0, t, sp_tt (C 8) (C 7 0) t])) := ha0 h0 h1
  have R7 : ∀ u, mj_RL 40 (mj_u C 7 (mj_row [C 7 0, u, sp_tt (C 8) (C 7 0) u])) A := fun u => mj_RL_C hR fun o ho => mj_u_ne (by omega)
  by_cases q1 : sp_tt (C 8) (C 7 0) t = 4294967291
  · by_cases q : sp_tt (C 8) (C 7 0) (t + 1) ≤ 5
    · refine (ev_X5_item_cell I hx h0 h1 h2 q1 q).mono ?_
      rintro r h' ⟨rfl, rfl⟩
      have hen : pi_en (C 8) (C 7 0) t (A 0) = t + 1 + sp_m1 (C 8) (C 7 0) t + 1 := by unfold pi_en; rw [if_pos q1, if_pos q]
      have hB : ∀ c, (sp_ckr (fun i => sp_tt (C 8) (C 7 0) (t + 1 + i + 1)) (sp_tt (C 8) (C 7 0) (t + 1)) (C 42) (sp_fst (sp_cmp (C 8) (C 7 0) (t + 1)) 150)) c ≤ 5 := sp_ckr_le (show ∀ c, C 42 c ≤ 5 from I.2.1 2 (by decide)) q _
      refine ⟨?_, _, rfl, mj_CI_40 (mj_CI_7 I) (by decide) (by decide) (by decide) (by decide) hB, fun i hi hj => by rw [mj_u_ne (by omega), mj_u_ne hi], rfl, by rw [hen]; rfl, by rw [hen]; rfl, fun _ => ?_⟩
      · unfold pi_ok; rw [if_pos q1]
        refine congrArg (fun z => some (Value.int (mj_b z))) (decide_eq_decide.mpr ⟨fun z => ⟨q, z⟩, fun z => z.2⟩)
      · have hA : pi_A (C 8) (C 7 0) t A = sp_cka (fun i => sp_tt (C 8) (C 7 0) (t + 1 + i + 1)) (sp_tt (C 8) (C 7 0) (t + 1)) A (sp_m1 (C 8) (C 7 0) t) := by unfold pi_A; rw [if_pos q1]
        rw [hA]
        exact RL_kind (b := 40) (R7 _) (sp_cka_i hR.2.2.1) (fun x hx => sp_cka_o (fun i hi => sp_m1_f hi) hx)
    · refine (ev_X5_item_cell_k I hx h0 h1 h2 q1 q).mono ?_
      rintro r h' ⟨rfl, rfl⟩
      exact mj_Zi_f I (by unfold pi_ok; rw [if_pos q1]; exact decide_eq_false fun z => q z.1) (by unfold pi_en; rw [if_pos q1, if_neg q])
  by_cases q2 : sp_tt (C 8) (C 7 0) t = 4294967290
  · refine (ev_X5_item_week I hx h0 h1 h2 q2).mono ?_
    rintro r h' ⟨rfl, rfl⟩
    have hen : pi_en (C 8) (C 7 0) t (A 0) = sp_we (C 8) (C 7 0) t (sp_m2 (C 8) (C 7 0) t) := by unfold pi_en; rw [if_neg q1, if_pos q2]
    have hF : ∀ c, (mj_mix (fun i => sp_tt (C 8) (C 7 0) (t + 2 * i + 1)) (C 45) (sp_fst (sp_wmp (C 8) (C 7 0) t) 7)) c ≤ 9 := mj_mix_le (fun i hi => (sp_m2_f hi).1) (show ∀ c, C 45 c ≤ 9 from I.2.1 5 (by decide))
    have hU : ∀ c, (mj_mix (fun i => sp_tt (C 8) (C 7 0) (t + 2 * i + 2)) (C 46) (sp_fst (sp_wmp (C 8) (C 7 0) t) 7)) c ≤ 9 := mj_mix_le (fun i hi => (sp_m2_f hi).2) (show ∀ c, C 46 c ≤ 9 from I.2.1 6 (by decide))
    refine ⟨?_, _, rfl, mj_CI_40 (mj_CI_40 (mj_CI_7 I) (by decide) (by decide) (by decide) (by decide) hF) (by decide) (by decide) (by decide) (by decide) hU, fun i hi hj => by rw [mj_u_ne (by omega), mj_u_ne (by omega), mj_u_ne hi], rfl, by rw [hen]; rfl, by rw [hen]; rfl, fun _ => ?_⟩
    · unfold pi_ok; rw [if_neg q1, if_pos q2]; rfl
    · have hA : pi_A (C 8) (C 7 0) t A = sp_wka (fun i => sp_tt (C 8) (C 7 0) (t + 2 * i + 1)) (fun i => sp_tt (C 8) (C 7 0) (t + 2 * i + 2)) A (sp_m2 (C 8) (C 7 0) t) := by unfold pi_A; rw [if_neg q1, if_pos q2]
      rw [hA]
      have hm := @sp_m2_le (C 8) (C 7 0) t
      refine RL_week (b := 40) (R7 _) (fun q hq => ?_) (fun q hq => ?_) (fun x hx => ?_)
      · rw [sp_wka_e hm]
        unfold mj_mix
        by_cases w : q < sp_m2 (C 8) (C 7 0) t
        · rw [if_pos (show q < sp_fst (sp_wmp (C 8) (C 7 0) t) 7 from w), if_pos (by omega), show 55 + q - 55 = q by omega]
        · rw [if_neg (show ¬ q < sp_fst (sp_wmp (C 8) (C 7 0) t) 7 from w), if_neg (by omega), if_neg (by omega)]; exact hR.2.2.2.1 q hq
      · rw [sp_wka_e hm]
        unfold mj_mix
        by_cases w : q < sp_m2 (C 8) (C 7 0) t
        · rw [if_pos (show q < sp_fst (sp_wmp (C 8) (C 7 0) t) 7 from w), if_neg (by omega), if_pos (by omega), show 62 + q - 62 = q by omega]
        · rw [if_neg (show ¬ q < sp_fst (sp_wmp (C 8) (C 7 0) t) 7 from w), if_neg (by omega), if_neg (by omega)]; exact hR.2.2.2.2.1 q hq
      · rw [sp_wka_e hm, if_neg (by omega), if_neg (by omega)]
  by_cases q3 : sp_tt (C 8) (C 7 0) t = 4294967289
  · have hen : ∀ u, (if A 0 < 7 then (if sp_tt (C 8) (C 7 0) (t + 1) ≤ 5 then (if 1 ≤ sp_tt (C 8) (C 7 0) (t + 2) ∧ sp_tt (C 8) (C 7 0) (t + 2) ≤ 99 then (if sp_tt (C 8) (C 7 0) (t + 3) ≤ 24 then t + 4 else t + 3) else t + 2) else t + 1) else t) = u → pi_en (C 8) (C 7 0) t (A 0) = u := fun u z => by unfold pi_en; rw [if_neg q1, if_neg q2, if_pos q3]; exact z
    have hok : ∀ b, decide (A 0 < 7 ∧ sp_tt (C 8) (C 7 0) (t + 1) ≤ 5 ∧ (1 ≤ sp_tt (C 8) (C 7 0) (t + 2) ∧ sp_tt (C 8) (C 7 0) (t + 2) ≤ 99) ∧ sp_tt (C 8) (C 7 0) (t + 3) ≤ 24 ∧ sp_tt (C 8) (C 7 0) (t + 4) = 4294967294) = b → pi_ok (C 8) (C 7 0) t (A 0) = b := fun b z => by unfold pi_ok; rw [if_neg q1, if_neg q2, if_pos q3]; exact z
    by_cases p0 : C 47 0 < 7
    · have p0' : A 0 < 7 := by omega
      by_cases p1 : sp_tt (C 8) (C 7 0) (t + 1) ≤ 5
      · by_cases p2 : 1 ≤ sp_tt (C 8) (C 7 0) (t + 2) ∧ sp_tt (C 8) (C 7 0) (t + 2) ≤ 99
        · by_cases p3 : sp_tt (C 8) (C 7 0) (t + 3) ≤ 24
          · refine (ev_X5_item_voter I hx h0 h1 h2 q3 p0 p1 p2 p3).mono ?_
            rintro r h' ⟨rfl, rfl⟩
            have hen4 := hen (t + 4) (by rw [if_pos p0', if_pos p1, if_pos p2, if_pos p3])
            have i1 : ∀ c, (mj_row [C 47 0 + 1]) c ≤ 7 := mj_row1_le (by omega)
            have i2 : ∀ c, (mj_un (C 48) (C 47 0) (sp_tt (C 8) (C 7 0) (t + 1))) c ≤ 5 := mj_un_le (show ∀ c, C 48 c ≤ 5 from I.2.1 8 (by decide)) p1
            have i3 : ∀ c, (mj_un (C 49) (C 47 0) (sp_tt (C 8) (C 7 0) (t + 2))) c ≤ 99 := mj_un_le (show ∀ c, C 49 c ≤ 99 from I.2.1 9 (by decide)) p2.2
            have i4 : ∀ c, (mj_un (C 50) (C 47 0) (sp_tt (C 8) (C 7 0) (t + 3))) c ≤ 24 := mj_un_le (show ∀ c, C 50 c ≤ 24 from I.2.1 10 (by decide)) p3
            refine ⟨?_, _, rfl, mj_CI_40 (mj_CI_40 (mj_CI_40 (mj_CI_40 (mj_CI_7 I) (by decide) (by decide) (by decide) (by decide) i1) (by decide) (by decide) (by decide) (by decide) i2) (by decide) (by decide) (by decide) (by decide) i3) (by decide) (by decide) (by decide) (by decide) i4, fun i hi hj => by rw [mj_u_ne (by omega), mj_u_ne (by omega), mj_u_ne (by omega), mj_u_ne (by omega), mj_u_ne hi], rfl, by rw [hen4]; rfl, by rw [hen4]; rfl, fun _ => ?_⟩
            · exact congrArg (fun z => some (Value.int (mj_b z))) (hok _ (decide_eq_decide.mpr ⟨fun z => z.2.2.2.2, fun z => ⟨p0', p1, p2, p3, z⟩⟩)).symm
            · have hA : pi_A (C 8) (C 7 0) t A = mj_un (mj_un (mj_un (mj_un A (73 + A 0) (sp_tt (C 8) (C 7 0) (t + 1))) (80 + A 0) (sp_tt (C 8) (C 7 0) (t + 2))) (87 + A 0) (sp_tt (C 8) (C 7 0) (t + 3))) 0 (A 0 + 1) := by unfold pi_A; rw [if_neg q1, if_neg q2, if_pos q3]
              rw [hA]
              exact RL_voter (b := 40) (R7 (t + 4)) p0'
          · refine (ev_X5_item_voter_3 I hx h0 h1 h2 q3 p0 p1 p2 p3).mono ?_
            rintro r h' ⟨rfl, rfl⟩
            exact mj_Zi_f I (hok _ (decide_eq_false fun z => p3 z.2.2.2.1)) (hen _ (by rw [if_pos p0', if_pos p1, if_pos p2, if_neg p3]))
        · refine (ev_X5_item_voter_2 I hx h0 h1 h2 q3 p0 p1 p2).mono ?_
          rintro r h' ⟨rfl, rfl⟩
          exact mj_Zi_f I (hok _ (decide_eq_false fun z => p2 z.2.2.1)) (hen _ (by rw [if_pos p0', if_pos p1, if_neg p2]))
      · refine (ev_X5_item_voter_1 I hx h0 h1 h2 q3 p0 p1).mono ?_
        rintro r h' ⟨rfl, rfl⟩
        exact mj_Zi_f I (hok _ (decide_eq_false fun z => p1 z.2.1)) (hen _ (by rw [if_pos p0', if_neg p1]))
    · refine (ev_X5_item_voter_f I hx h0 h1 h2 q3 (by omega)).mono ?_
      rintro r h' ⟨rfl, rfl⟩
      rw [heq]
      exact mj_Zi_f I (hok _ (decide_eq_false fun z => by omega)) (hen _ (if_neg (by omega)))
  · refine (ev_X5_item_no I hx h0 h1 h2 q1 q2 q3).mono ?_
    rintro r h' ⟨rfl, rfl⟩
    rw [heq]
    exact mj_Zi_f I (by unfold pi_ok; rw [if_neg q1, if_neg q2, if_neg q3]) (by unfold pi_en; rw [if_neg q1, if_neg q2, if_neg q3])
