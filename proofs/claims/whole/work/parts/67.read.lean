/-- where the reading ends -/
def mj_Zt (κ : Nat → Bool) (G : Nat → Nat → Nat) (B : Nat → Nat) (n : Nat) (R : Bool × Nat × (Nat → Nat)) : Option Value → mj_H → Prop := fun r h' => r = some (.int (sp_an B n R)) ∧ ∃ D : Nat → Nat → Nat, h' = hh κ D ∧ mj_CI κ D ∧ (∀ i, i ≠ 7 → (i < 40 ∨ 59 ≤ i) → D i = G i) ∧ D 7 0 = n ∧ (R.1 = true → mj_RL 40 D R.2.2)
theorem sp_an_f {B : Nat → Nat} {n u : Nat} {A : Nat → Nat} : sp_an B n (false, u, A) = nI 4294967286 - nI (sp_ss B n u) := if_neg (fun z => nomatch z)
theorem sp_an_t {B : Nat → Nat} {n u : Nat} {A : Nat → Nat} : sp_an B n (true, u, A) = nI u := if_pos rfl
theorem mj_tx_of {C D : Nat → Nat → Nat} (hx : mj_tx C) (d8 : D 8 = C 8) (d7 : D 7 0 = C 7 0) (d9 : D 9 = C 9) (d10 : D 10 = C 10) : mj_tx D := by
  intro u hu
  rw [d8, d7] at hu ⊢
  rw [d9, d10]
  exact hx u hu
theorem mj_CI_rst {κ : Nat → Bool} {C : Nat → Nat → Nat} {t : Nat} (I : mj_CI κ C) (ht : t ≤ 99) : mj_CI κ (mj_blk C 40 (mj_rst C 40 t)) := by
  have ou : ∀ i, (i < 40 ∨ 59 ≤ i) → mj_blk C 40 (mj_rst C 40 t) i = C i := fun i hi => if_neg (by omega)
  have li : ∀ b, (b + 19 ≤ 40 ∨ 59 ≤ b) → mj_Li b C → mj_Li b (mj_blk C 40 (mj_rst C 40 t)) := fun b b1 q o ho c => by rw [ou _ (by omega)]; exact q o ho c
  have lr : ∀ b, (b + 19 ≤ 40 ∨ 59 ≤ b) → mj_Lr b C → mj_Lr b (mj_blk C 40 (mj_rst C 40 t)) := fun b b1 q j => by rw [ou _ (by omega), ou _ (by omega)]; exact q j
  obtain ⟨i1, i2, i3, i4, i5, i6, i7, i8, i9, i10, i11, i12⟩ := I
  refine ⟨li 20 (by decide) i1, fun o ho c => ?_, fun q => li 60 (by decide) (i3 q), fun q => li 80 (by decide) (i4 q), ?_, ?_, ?_, ?_, lr 20 (by decide) i9, fun j => ?_, fun q => lr 60 (by decide) (i11 q), fun q => lr 80 (by decide) (i12 q)⟩
  · have e : mj_blk C 40 (mj_rst C 40 t) (40 + o) = mj_rst C 40 t (40 + o) := if_pos (by omega)
    rw [e]
    unfold mj_rst
    by_cases q1 : 40 + o = 40 + 3
    · rw [if_pos q1]
      have : o = 3 := by omega
      subst this
      exact ht
    rw [if_neg q1]
    by_cases q2 : 40 + o = 40 + 8 ∨ 40 + o = 40 + 9 ∨ 40 + o = 40 + 10 ∨ 40 + o = 40 + 12 ∨ 40 + o = 40 + 14 ∨ 40 + o = 40 + 16 ∨ 40 + o = 40 + 17
    · rw [if_pos q2]; exact i2 o ho c
    · rw [if_neg q2]; exact Nat.zero_le _
  · rw [ou 2 (by decide)]; exact i5
  · rw [ou 3 (by decide)]; exact i6
  · rw [ou 7 (by decide)]; exact i7
  · rw [ou 8 (by decide)]; exact i8
  · have e : mj_blk C 40 (mj_rst C 40 t) (40 + 12) = C (40 + 12) := rfl
    have e2 : mj_blk C 40 (mj_rst C 40 t) (40 + 14) = C (40 + 14) := rfl
    rw [e, e2]; exact i10 j
theorem RL_rst {b : Nat} {C : Nat → Nat → Nat} {A : Nat → Nat} {t : Nat} : mj_RL b (mj_blk C b (mj_rst C b t)) (sp_beg A t) := by
  have e : ∀ o, o < 19 → mj_blk C b (mj_rst C b t) (b + o) = mj_rst C b t (b + o) := fun o ho => if_pos (by omega)
  have z : ∀ o, o < 19 → o ≠ 3 → o ≠ 8 → o ≠ 9 → o ≠ 10 → o ≠ 12 → o ≠ 14 → o ≠ 16 → o ≠ 17 → mj_blk C b (mj_rst C b t) (b + o) = fun _ => 0 := fun o ho h3 h8 h9 h10 h12 h14 h16 h17 => by
    rw [e o ho]; unfold mj_rst; rw [if_neg (by omega), if_neg (by omega)]
  have z0 : mj_blk C b (mj_rst C b t) b = fun _ => 0 := z 0 (by decide) (by decide) (by decide) (by decide) (by decide) (by decide) (by decide) (by decide) (by decide)
  have g : ∀ x, x < 154 → (x < 4 ∨ 29 ≤ x) → sp_beg A t x = 0 := fun x h1 h2 => by unfold sp_beg; rw [if_neg (by omega), if_pos h1]
  refine ⟨⟨?_, ?_, ?_, ?_, ?_⟩, fun q hq => ?_, fun q hq => ?_, fun q hq => ?_, fun q hq => ?_, fun q hq => ?_, fun v hv => ?_, fun p hp => ?_, fun p hp => ?_, fun u hu => ?_⟩
  · rw [z 7 (by decide) (by decide) (by decide) (by decide) (by decide) (by decide) (by decide) (by decide) (by decide), g 0 (by decide) (by decide)]
  · rw [z 11 (by decide) (by decide) (by decide) (by decide) (by decide) (by decide) (by decide) (by decide) (by decide), g 1 (by decide) (by decide)]
  · rw [z 13 (by decide) (by decide) (by decide) (by decide) (by decide) (by decide) (by decide) (by decide) (by decide), g 2 (by decide) (by decide)]
  · rw [z 15 (by decide) (by decide) (by decide) (by decide) (by decide) (by decide) (by decide) (by decide) (by decide), g 3 (by decide) (by decide)]
  · rw [z0, g 29 (by decide) (by decide)]
  · rw [e 3 (by decide)]; unfold mj_rst sp_beg; rw [if_pos rfl, if_pos (by omega)]
  · rw [z 2 (by decide) (by decide) (by decide) (by decide) (by decide) (by decide) (by decide) (by decide) (by decide), g _ (by omega) (by omega)]
  · rw [z 5 (by decide) (by decide) (by decide) (by decide) (by decide) (by decide) (by decide) (by decide) (by decide), g _ (by omega) (by omega)]
  · rw [z 6 (by decide) (by decide) (by decide) (by decide) (by decide) (by decide) (by decide) (by decide) (by decide), g _ (by omega) (by omega)]
  · rw [z 18 (by decide) (by decide) (by decide) (by decide) (by decide) (by decide) (by decide) (by decide) (by decide), g _ (by omega) (by omega)]
  · rw [g 0 (by decide) (by decide)] at hv; exact absurd hv (Nat.not_lt_zero _)
  · rw [g 1 (by decide) (by decide)] at hp; exact absurd hp (Nat.not_lt_zero _)
  · rw [g 2 (by decide) (by decide)] at hp; exact absurd hp (Nat.not_lt_zero _)
  · rw [g 3 (by decide) (by decide)] at hu; exact absurd hu (Nat.not_lt_zero _)
theorem tl_loop {E : mj_E} {κ : Nat → Bool} {B : Nat → Nat} {n : Nat} {G : Nat → Nat → Nat} (hn : n ≤ 150) (hB : ∀ c, B c ≤ 127) : ∀ (F i t : Nat) (C : Nat → Nat → Nat) (A : Nat → Nat), i + F = 151 → 1 ≤ i → i + 1 ≤ t → t < sp_tE B n → C 8 = B → C 7 0 = n → C 7 1 = t → C 7 2 = sp_tt B n t → mj_CI κ C → mj_tx C → mj_RL 40 C A → (∀ i, i ≠ 7 → (i < 40 ∨ 59 ≤ i) → C i = G i) →
    gj E (mj_XM E iX5_tell (mj_Zt κ G B n (sp_run B n F t A i))) cX5_tell 0 0 65 [some (.ref 7), some (.ref 40), some (.int (nI i))] [] (hh κ C) := by
  intro F
  induction F with
  | zero =>
    intro i t C A e1 e2 e3 ht
    have := sp_tE_le (B := B) hn
    exfalso; omega
  | succ F ih =>
    intro i t C A e1 e2 e3 ht hb hc h0 h1 I hx hR hf
    subst hb
    subst hc
    have hE := sp_tE_le (B := C 8) hn
    have htl := sp_tt_lt (n := C 7 0) (t := t + 1) hB
    have I1 : mj_CI κ (mj_u C 7 (mj_row [C 7 0, t + 1, sp_tt (C 8) (C 7 0) (t + 1)])) := mj_CI_7 I
    have R1 : mj_RL 40 (mj_u C 7 (mj_row [C 7 0, t + 1, sp_tt (C 8) (C 7 0) (t + 1)])) A := mj_RL_C hR fun o ho => mj_u_ne (by omega)
    have f1 : ∀ i, i ≠ 7 → (i < 40 ∨ 59 ≤ i) → mj_u C 7 (mj_row [C 7 0, t + 1, sp_tt (C 8) (C 7 0) (t + 1)]) i = G i := fun i hi hj => by rw [mj_u_ne hi]; exact hf i hi hj
    refine gj_iload_n dX5_tell_65 rfl ?_
    refine gj_sp 150 dX5_tell_66 (by decide) ?_
    refine gj_icmp_gtN (tgt := 105) (by omega) (by omega) dX5_tell_69 rfl (fun z => ?_) (fun z => ?_)
    · exfalso; omega
    refine gj_aload_n dX5_tell_72 rfl ?_
    refine gj_V0 lkX5_56 (hc7 κ C) rfl rfl (ev_X5_advance (C := C) (t := t) I hx h0 h1 ht) dX5_tell_73 rfl rfl rfl rfl rfl ?_
    refine gj_aload_n dX5_tell_76 rfl ?_
    refine gfX5_28 rfl dX5_tell_77 (hc7 κ (mj_u C 7 (mj_row [C 7 0, t + 1, sp_tt (C 8) (C 7 0) (t + 1)]))) rfl ?_
    show gj _ _ _ _ _ _ _ ((.int (nI (sp_tt (C 8) (C 7 0) (t + 1))) : Value) :: _) _
    refine gj_iconst (v := (-1)) dX5_tell_80 (by decide) ?_
    refine gj_top (y := nI 4294967295) (by decide) ?_
    refine gj_icmp_neW (tgt := 86) (by omega) (by omega) dX5_tell_81 rfl (fun q => ?_) (fun q => ?_)
    · have ht1 : t + 1 < sp_tE (C 8) (C 7 0) := sp_tE_lt hn (by omega) q
      refine gj_aload_n dX5_tell_86 rfl ?_
      refine gj_aload_n dX5_tell_87 rfl ?_
      refine gj_VP lkX5_59 (hc7 κ (mj_u C 7 (mj_row [C 7 0, t + 1, sp_tt (C 8) (C 7 0) (t + 1)]))) rfl rfl (ev_X5_item (C := mj_u C 7 (mj_row [C 7 0, t + 1, sp_tt (C 8) (C 7 0) (t + 1)])) (t := t + 1) I1 (show mj_tx _ from hx) rfl rfl ht1 R1) dX5_tell_88 rfl rfl rfl rfl rfl ?_
      rintro r h' ⟨hr, D, hD, ID, fD, d0, d1, d2, rD⟩
      subst hr
      subst hD
      have d0 : D 7 0 = C 7 0 := d0
      have d1 : D 7 1 = pi_en (C 8) (C 7 0) (t + 1) (A 0) := d1
      have d2 : D 7 2 = sp_tt (C 8) (C 7 0) (pi_en (C 8) (C 7 0) (t + 1) (A 0)) := d2
      have d8 : D 8 = C 8 := fD 8 (by decide) (by decide)
      have xD : mj_tx D := mj_tx_of hx d8 d0 (fD 9 (by decide) (by decide)) (fD 10 (by decide) (by decide))
      have gD : ∀ i, i ≠ 7 → (i < 40 ∨ 59 ≤ i) → D i = G i := fun i hi hj => (fD i hi hj).trans (f1 i hi hj)
      have hle := pi_le (z := A 0) hn ht1
      show gj _ _ _ _ _ _ _ [(.int (mj_b (pi_ok (C 8) (C 7 0) (t + 1) (A 0))) : Value)] _
      refine gj_if_neb (tgt := 99) dX5_tell_91 rfl (fun z => ?_) (fun z => ?_)
      · have hst := pi_stop z
        have hrun : sp_run (C 8) (C 7 0) (F + 1) t A i = sp_run (C 8) (C 7 0) F (pi_en (C 8) (C 7 0) (t + 1) (A 0)) (pi_A (C 8) (C 7 0) (t + 1) A) (i + 1) := by
          show (if _ then _ else _) = _
          rw [if_neg q, if_pos z]
        rw [hrun]
        refine gj_iincN (L' := [some (.ref 7), some (.ref 40), some (.int (nI (i + 1)))]) dX5_tell_99 rfl (Nat.le_of_ble_eq_true rfl) rfl ?_
        refine gj_goto (tgt := 65) dX5_tell_102 rfl ?_
        exact ih (i + 1) _ D _ (by omega) (by omega) (by omega) (sp_tE_lt hn hle (by rw [hst.1]; decide)) d8 d0 d1 d2 ID xD (rD z) gD
      · have hrun : sp_run (C 8) (C 7 0) (F + 1) t A i = (false, pi_en (C 8) (C 7 0) (t + 1) (A 0), A) := by
          show (if _ then _ else _) = _
          rw [if_neg q, if_neg (by rw [z]; decide)]
        rw [hrun]
        refine gj_aload_n dX5_tell_94 rfl ?_
        refine gj_V1 lkX5_42 (hc7 κ D) rfl rfl (ev_X5_fault (C := D) (t := pi_en (C 8) (C 7 0) (t + 1) (A 0)) ID xD d1 (by rw [d8, d0]; exact d2) (by rw [d8, d0]; exact hle)) dX5_tell_95 rfl rfl rfl rfl rfl ?_
        refine gj_iret rfl dX5_tell_98 ⟨Nat.zero_le _, Nat.zero_le _⟩ ⟨by rw [sp_an_f, d8, d0], D, rfl, ID, gD, d0, fun z => nomatch z⟩
    · have hrun : sp_run (C 8) (C 7 0) (F + 1) t A i = (true, i, A) := by
        show (if _ then _ else _) = _
        rw [if_pos q]
      rw [hrun]
      refine gj_iload_n dX5_tell_84 rfl ?_
      exact gj_iret rfl dX5_tell_85 ⟨Nat.zero_le _, Nat.zero_le _⟩ ⟨by rw [sp_an_t], _, rfl, I1, f1, rfl, fun _ => R1⟩
theorem tl_51 {E : mj_E} {κ : Nat → Bool} {C G : Nat → Nat → Nat} {A : Nat → Nat} {R : Bool × Nat × (Nat → Nat)} (I : mj_CI κ C) (hx : mj_tx C) (h0 : C 7 1 = 1) (h1 : C 7 2 = sp_tt (C 8) (C 7 0) 1) (ht : 1 < sp_tE (C 8) (C 7 0)) (hR : mj_RL 40 C A) (hf : ∀ i, i ≠ 7 → (i < 40 ∨ 59 ≤ i) → C i = G i) (hr2 : sp_tt (C 8) (C 7 0) 2 = 4294967294 → R = sp_run (C 8) (C 7 0) 150 2 A 1) (hr0 : ¬ sp_tt (C 8) (C 7 0) 2 = 4294967294 → R = (false, 2, R.2.2)) :
    gj E (mj_XM E iX5_tell (mj_Zt κ G (C 8) (C 7 0) R)) cX5_tell 0 0 51 [some (.ref 7), some (.ref 40), none] [] (hh κ C) := by
  have hl7x : C 7 0 ≤ 150 := I.2.2.2.2.2.2.1
  have hB : ∀ c, C 8 c ≤ 127 := I.2.2.2.2.2.2.2.1
  have hE := sp_tE_le (B := C 8) hl7x
  refine gj_aload_n dX5_tell_51 rfl ?_
  refine gj_V1 lkX5_52 (hc7 κ C) rfl rfl (ev_X5_stopComes (t := 1) I hx h0 h1 ht) dX5_tell_52 rfl rfl rfl rfl rfl ?_
  refine gj_if_neb (tgt := 63) dX5_tell_55 rfl (fun zq1 => ?_) (fun zq1 => ?_)
  · -- 55 taken
    refine gj_ic (w := 1) dX5_tell_63 ?_
    refine gj_istore_n (L' := [some (.ref 7), some (.ref 40), some (.int (nI 1))]) dX5_tell_64 (Nat.le_of_ble_eq_true rfl) rfl ?_
    have q := of_decide_eq_true zq1
    rw [hr2 q]
    exact tl_loop hl7x hB 150 1 2 _ A rfl (by decide) (by decide) (sp_tE_lt hl7x (by omega) (by rw [q]; decide)) rfl rfl rfl rfl (mj_CI_7 I) (show mj_tx _ from hx) (mj_RL_C hR fun o ho => mj_u_ne (by omega)) (fun i hi hj => by rw [mj_u_ne hi]; exact hf i hi hj)
  have hrd := hr0 (of_decide_eq_false zq1)
  refine gj_aload_n dX5_tell_58 rfl ?_
  refine gj_V1 lkX5_42 (hc7 κ (mj_u C 7 (mj_row [C 7 0, 2, sp_tt (C 8) (C 7 0) 2]))) rfl rfl (ev_X5_fault (C := (mj_u C 7 (mj_row [C 7 0, 2, sp_tt (C 8) (C 7 0) 2]))) (t := 2) (mj_CI_7 I) (show mj_tx (mj_u C 7 (mj_row [C 7 0, 2, sp_tt (C 8) (C 7 0) 2])) from hx) rfl rfl (show 2 ≤ sp_tE (C 8) (C 7 0) by omega)) dX5_tell_59 rfl rfl rfl rfl rfl ?_
  show gj _ _ _ _ _ _ _ ((.int ((nI 4294967286) - (nI (sp_ss (C 8) (C 7 0) 2))) : Value) :: _) _
  exact gj_iret rfl dX5_tell_62 ⟨Nat.zero_le _, Nat.zero_le _⟩ ⟨by rw [hrd, sp_an_f], (mj_u C 7 (mj_row [C 7 0, 2, sp_tt (C 8) (C 7 0) 2])), rfl, (mj_CI_7 I), fun i hi hj => by rw [mj_u_ne hi]; exact hf i hi hj, rfl, fun z => by rw [hrd] at z; exact nomatch z⟩
