theorem tl_4 {E : mj_E} {κ : Nat → Bool} {C G : Nat → Nat → Nat} {A : Nat → Nat} (I : mj_CI κ C) (hx : mj_tx C) (hf : ∀ i, i ≠ 7 → (i < 40 ∨ 59 ≤ i) → C i = G i) :
    gj E (mj_XM E iX5_tell (mj_Zt κ G (C 8) (C 7 0) (sp_rd (C 8) (C 7 0) A))) cX5_tell 0 0 4 [some (.ref 7), some (.ref 40), none] [] (hh κ C) := by
  have hl7x : C 7 0 ≤ 150 := I.2.2.2.2.2.2.1
  have hB : ∀ c, C 8 c ≤ 127 := I.2.2.2.2.2.2.2.1
  have hE := sp_tE_le (B := C 8) hl7x
  refine gj_aload_n dX5_tell_4 rfl ?_
  refine gj_ic (w := 0) dX5_tell_5 ?_
  refine pfX5_25 rfl dX5_tell_6 (hc7 κ C) (Nat.le_of_ble_eq_true rfl) ?_
  refine gj_cast (h' := hh κ (mj_u C 7 (mj_row [C 7 0, 0, C 7 2]))) rfl rfl (hu7 (C := C) (z0 := C 7 0) (z1 := 0) (z2 := C 7 2) rfl) ?_
  refine gj_aload_n dX5_tell_9 rfl ?_
  refine gj_aload_n dX5_tell_10 rfl ?_
  refine gfX5_19 rfl dX5_tell_11 (hc7 κ (mj_u C 7 (mj_row [C 7 0, 0, C 7 2]))) rfl ?_
  refine gj_ic (w := 0) dX5_tell_14 ?_
  refine gj_ialdN dX5_tell_15 (hc9 κ (mj_u C 7 (mj_row [C 7 0, 0, C 7 2]))) (by omega) (by omega) ?_
  show gj _ _ _ _ _ _ _ ((.int (nI (C 9 0)) : Value) :: _) _
  refine gj_topN (hx 0 (Nat.zero_le _)).1 ?_
  refine pfX5_28 rfl dX5_tell_16 (hc7 κ (mj_u C 7 (mj_row [C 7 0, 0, C 7 2]))) (Nat.le_of_ble_eq_true rfl) ?_
  refine gj_cast (h' := hh κ (mj_u C 7 (mj_row [C 7 0, 0, sp_tt (C 8) (C 7 0) 0]))) rfl rfl ((hu7 (C := (mj_u C 7 (mj_row [C 7 0, 0, C 7 2]))) (z0 := C 7 0) (z1 := 0) (z2 := sp_tt (C 8) (C 7 0) 0) rfl).trans (congrArg (hh κ) mj_u_u)) ?_
  refine gj_aload_n dX5_tell_19 rfl ?_
  refine gfX5_28 rfl dX5_tell_20 (hc7 κ (mj_u C 7 (mj_row [C 7 0, 0, sp_tt (C 8) (C 7 0) 0]))) rfl ?_
  show gj _ _ _ _ _ _ _ ((.int (nI (sp_tt (C 8) (C 7 0) 0)) : Value) :: _) _
  have htl := sp_tt_lt (n := C 7 0) (t := 0) hB
  refine gj_bipush (v := (-4)) dX5_tell_23 (by decide) ?_
  refine gj_top (y := nI 4294967292) (by decide) ?_
  refine gj_icmp_neW (tgt := 38) (by omega) (by omega) dX5_tell_25 rfl (fun zq1 => ?_) (fun zq1 => ?_)
  · -- 25 taken
    have hrd : sp_rd (C 8) (C 7 0) A = (false, 0, A) := by unfold sp_rd; rw [if_neg zq1]
    refine gj_aload_n dX5_tell_38 rfl ?_
    refine gj_V1 lkX5_42 (hc7 κ (mj_u C 7 (mj_row [C 7 0, 0, sp_tt (C 8) (C 7 0) 0]))) rfl rfl (ev_X5_fault (C := (mj_u C 7 (mj_row [C 7 0, 0, sp_tt (C 8) (C 7 0) 0]))) (t := 0) (mj_CI_7 I) (show mj_tx (mj_u C 7 (mj_row [C 7 0, 0, sp_tt (C 8) (C 7 0) 0])) from hx) rfl rfl (show 0 ≤ sp_tE (C 8) (C 7 0) by omega)) dX5_tell_39 rfl rfl rfl rfl rfl ?_
    show gj _ _ _ _ _ _ _ ((.int ((nI 4294967286) - (nI (sp_ss (C 8) (C 7 0) 0))) : Value) :: _) _
    exact gj_iret rfl dX5_tell_42 ⟨Nat.zero_le _, Nat.zero_le _⟩ ⟨by rw [hrd, sp_an_f], (mj_u C 7 (mj_row [C 7 0, 0, sp_tt (C 8) (C 7 0) 0])), rfl, (mj_CI_7 I), fun i hi hj => by rw [mj_u_ne hi]; exact hf i hi hj, rfl, fun z => by rw [hrd] at z; exact nomatch z⟩
  have q0 := zq1
  have hl0 : 0 < sp_tE (C 8) (C 7 0) := sp_tE_lt hl7x (Nat.zero_le _) (by rw [q0]; decide)
  refine gj_aload_n dX5_tell_28 rfl ?_
  refine gj_ic (w := 0) dX5_tell_29 ?_
  refine gj_bp 99 dX5_tell_30 (by decide) ?_
  refine gj_V1 lkX5_38 (hc7 κ (mj_u C 7 (mj_row [C 7 0, 0, sp_tt (C 8) (C 7 0) 0]))) rfl rfl (ev_X5_numberComes (C := (mj_u C 7 (mj_row [C 7 0, 0, sp_tt (C 8) (C 7 0) 0]))) (t := 0) (mj_CI_7 I) (show mj_tx (mj_u C 7 (mj_row [C 7 0, 0, sp_tt (C 8) (C 7 0) 0])) from hx) rfl rfl (show 0 < sp_tE (C 8) (C 7 0) by omega) (by decide) (by decide)) dX5_tell_32 rfl rfl rfl rfl rfl ?_
  refine gj_cast (h' := hh κ (mj_u C 7 (mj_row [C 7 0, 1, sp_tt (C 8) (C 7 0) 1]))) rfl rfl (congrArg (hh κ) (by funext x; unfold mj_u; (repeat' split) <;> first | rfl | omega)) ?_
  show gj _ _ _ _ _ _ _ ((.int (mj_b (decide (0 ≤ sp_tt (C 8) (C 7 0) 1 ∧ sp_tt (C 8) (C 7 0) 1 ≤ 99))) : Value) :: _) _
  refine gj_if_neb (tgt := 43) dX5_tell_35 rfl (fun zq2 => ?_) (fun zq2 => ?_)
  · -- 35 taken
    have q1 := (of_decide_eq_true zq2).2
    have hl1 : 1 < sp_tE (C 8) (C 7 0) := sp_tE_lt hl7x (by omega) (by omega)
    refine gj_aload_n dX5_tell_43 rfl ?_
    refine gj_aload_n dX5_tell_44 rfl ?_
    refine gfX5_28 rfl dX5_tell_45 (hc7 κ (mj_u C 7 (mj_row [C 7 0, 1, sp_tt (C 8) (C 7 0) 1]))) rfl ?_
    show gj _ _ _ _ _ _ _ ((.int (nI (sp_tt (C 8) (C 7 0) 1)) : Value) :: _) _
    refine gj_V0 lkX5_46 (hc40 κ (mj_u C 7 (mj_row [C 7 0, 1, sp_tt (C 8) (C 7 0) 1]))) rfl rfl (ev_X1_restart mj_lk40 (mj_CI_7 I).2.1 q1) dX5_tell_48 rfl rfl rfl rfl rfl ?_
    refine gj_cast (h' := hh κ (mj_blk (mj_u C 7 (mj_row [C 7 0, 1, sp_tt (C 8) (C 7 0) 1])) 40 (mj_rst (mj_u C 7 (mj_row [C 7 0, 1, sp_tt (C 8) (C 7 0) 1])) 40 (sp_tt (C 8) (C 7 0) 1)))) rfl rfl (hh_lay rfl (fun _ => mj_lk40)) ?_
    exact tl_51 (C := (mj_blk (mj_u C 7 (mj_row [C 7 0, 1, sp_tt (C 8) (C 7 0) 1])) 40 (mj_rst (mj_u C 7 (mj_row [C 7 0, 1, sp_tt (C 8) (C 7 0) 1])) 40 (sp_tt (C 8) (C 7 0) 1)))) (A := sp_beg A (sp_tt (C 8) (C 7 0) 1)) (mj_CI_rst (mj_CI_7 I) q1) (show mj_tx _ from hx) rfl rfl hl1 RL_rst (fun i hi hj => (if_neg (by omega)).trans ((mj_u_ne hi).trans (hf i hi hj))) (fun z => by unfold sp_rd; rw [if_pos q0, if_pos q1]; exact if_pos z) (fun z => by unfold sp_rd; rw [if_pos q0, if_pos q1, if_neg (show ¬ sp_tt (C 8) (C 7 0) 2 = 4294967294 from z)])
  have hrd : sp_rd (C 8) (C 7 0) A = (false, 1, A) := by unfold sp_rd; rw [if_pos q0, if_neg (fun z => of_decide_eq_false zq2 ⟨Nat.zero_le _, z⟩)]
  refine gj_aload_n dX5_tell_38 rfl ?_
  refine gj_V1 lkX5_42 (hc7 κ (mj_u C 7 (mj_row [C 7 0, 1, sp_tt (C 8) (C 7 0) 1]))) rfl rfl (ev_X5_fault (C := (mj_u C 7 (mj_row [C 7 0, 1, sp_tt (C 8) (C 7 0) 1]))) (t := 1) (mj_CI_7 I) (show mj_tx (mj_u C 7 (mj_row [C 7 0, 1, sp_tt (C 8) (C 7 0) 1])) from hx) rfl rfl (show 1 ≤ sp_tE (C 8) (C 7 0) by omega)) dX5_tell_39 rfl rfl rfl rfl rfl ?_
  show gj _ _ _ _ _ _ _ ((.int ((nI 4294967286) - (nI (sp_ss (C 8) (C 7 0) 1))) : Value) :: _) _
  exact gj_iret rfl dX5_tell_42 ⟨Nat.zero_le _, Nat.zero_le _⟩ ⟨by rw [hrd, sp_an_f], (mj_u C 7 (mj_row [C 7 0, 1, sp_tt (C 8) (C 7 0) 1])), rfl, (mj_CI_7 I), fun i hi hj => by rw [mj_u_ne hi]; exact hf i hi hj, rfl, fun z => by rw [hrd] at z; exact nomatch z⟩
/-- behind findTokens -/
def mj_ft (C : Nat → Nat → Nat) : Nat → Nat → Nat := mj_u (mj_u C 9 (mj_mix (sp_tt (C 8) (C 7 0)) (C 9) (sp_tE (C 8) (C 7 0) + 1))) 10 (mj_mix (sp_ss (C 8) (C 7 0)) (C 10) (sp_tE (C 8) (C 7 0) + 1))
theorem mj_ft_tx {C : Nat → Nat → Nat} : mj_tx (mj_ft C) := fun t ht => ⟨mj_mix_lt (show t < sp_tE (C 8) (C 7 0) + 1 from Nat.lt_succ_of_le ht), mj_mix_lt (show t < sp_tE (C 8) (C 7 0) + 1 from Nat.lt_succ_of_le ht)⟩
theorem mj_ft_CI {κ : Nat → Bool} {C : Nat → Nat → Nat} (I : mj_CI κ C) : mj_CI κ (mj_ft C) := mj_CI_u (mj_CI_u I (by decide) (by decide) (by decide) (by decide) (by decide)) (by decide) (by decide) (by decide) (by decide) (by decide)
theorem ev_X5_tell {E : mj_E} {κ : Nat → Bool} {C : Nat → Nat → Nat} (I : mj_CI κ C) {A : Nat → Nat} : mj_Ev E iX5_tell [.ref 7, .ref 40] (hh κ C) (mj_Zt κ (mj_ft C) (C 8) (C 7 0) (sp_rd (C 8) (C 7 0) A)) := by
  refine mj_Ev.of (L0 := [some (.ref 7), some (.ref 40), none]) pnRX5 (Nat.le_of_ble_eq_true rfl) rfl ?_
  refine gj_aload_n dX5_tell_0 rfl ?_
  refine gj_V0 lkX5_35 (hc7 κ C) rfl rfl (ev_X5_findTokens I) dX5_tell_1 rfl rfl rfl rfl rfl ?_
  exact tl_4 (C := mj_ft C) (mj_ft_CI I) mj_ft_tx (fun i _ _ => rfl)
theorem mj_CI_cp {κ : Nat → Bool} {C : Nat → Nat → Nat} {b d : Nat} (I : mj_CI κ C) (hb : b = 20 ∨ b = 60 ∨ b = 80) (hI : mj_Li d C) (hL : mj_Lr d C) : mj_CI κ (mj_blk C b (mj_shf C b d)) := by
  have ou : ∀ i, (i < b ∨ b + 19 ≤ i) → mj_blk C b (mj_shf C b d) i = C i := fun i hi => if_neg (by omega)
  have inn : ∀ o, o < 19 → mj_blk C b (mj_shf C b d) (b + o) = C (d + o) := fun o ho => by
    show (if _ then _ else _) = _
    rw [if_pos (by omega)]; unfold mj_shf; rw [show b + o - b = o by omega]
  have li : ∀ c, c = 20 ∨ c = 40 ∨ c = 60 ∨ c = 80 → mj_Li c C → mj_Li c (mj_blk C b (mj_shf C b d)) := fun c hc q o ho x => by
    by_cases z : c = b
    · rw [z, inn o ho]; exact hI o ho x
    · rw [ou _ (by omega)]; exact q o ho x
  have lr : ∀ c, c = 20 ∨ c = 40 ∨ c = 60 ∨ c = 80 → mj_Lr c C → mj_Lr c (mj_blk C b (mj_shf C b d)) := fun c hc q j => by
    by_cases z : c = b
    · rw [z, inn 12 (by decide), inn 14 (by decide)]; exact hL j
    · rw [ou _ (by omega), ou _ (by omega)]; exact q j
  obtain ⟨i1, i2, i3, i4, i5, i6, i7, i8, i9, i10, i11, i12⟩ := I
  refine ⟨li 20 (by decide) i1, li 40 (by decide) i2, fun q => li 60 (by decide) (i3 q), fun q => li 80 (by decide) (i4 q), ?_, ?_, ?_, ?_, lr 20 (by decide) i9, lr 40 (by decide) i10, fun q => lr 60 (by decide) (i11 q), fun q => lr 80 (by decide) (i12 q)⟩
  · rw [ou 2 (by omega)]; exact i5
  · rw [ou 3 (by omega)]; exact i6
  · rw [ou 7 (by omega)]; exact i7
  · rw [ou 8 (by omega)]; exact i8
theorem RL_cp {b d : Nat} {C : Nat → Nat → Nat} {A : Nat → Nat} (h : mj_RL d C A) : mj_RL b (mj_blk C b (mj_shf C b d)) A := by
  have inn : ∀ o, o < 19 → mj_blk C b (mj_shf C b d) (b + o) = C (d + o) := fun o ho => by
    show (if _ then _ else _) = _
    rw [if_pos (by omega)]; unfold mj_shf; rw [show b + o - b = o by omega]
  have e0 : mj_blk C b (mj_shf C b d) b = C d := inn 0 (by decide)
  obtain ⟨⟨a0, a1, a2, a3, a4⟩, b1, b2, b3, b4, b5, b6, b7, b8, b9⟩ := h
  refine ⟨⟨?_, ?_, ?_, ?_, ?_⟩, ?_, ?_, ?_, ?_, ?_, ?_, ?_, ?_, ?_⟩
  · rw [inn 7 (by decide)]; exact a0
  · rw [inn 11 (by decide)]; exact a1
  · rw [inn 13 (by decide)]; exact a2
  · rw [inn 15 (by decide)]; exact a3
  · rw [e0]; exact a4
  · rw [inn 3 (by decide)]; exact b1
  · rw [inn 2 (by decide)]; exact b2
  · rw [inn 5 (by decide)]; exact b3
  · rw [inn 6 (by decide)]; exact b4
  · rw [inn 18 (by decide)]; exact b5
  · rw [inn 8 (by decide), inn 9 (by decide), inn 10 (by decide)]; exact b6
  · rw [inn 12 (by decide)]; exact b7
  · rw [inn 14 (by decide)]; exact b8
  · rw [inn 17 (by decide), inn 16 (by decide)]; exact b9
theorem sp_run_pos {B : Nat → Nat} {n : Nat} : ∀ (F t i : Nat) (A : Nat → Nat), (sp_run B n F t A i).1 = true → i ≤ (sp_run B n F t A i).2.1 ∧ (sp_run B n F t A i).2.1 ≤ i + F := by
  intro F
  induction F with
  | zero => intro t i A h; exact nomatch h
  | succ F ih =>
    intro t i A h
    have e : sp_run B n (F + 1) t A i = if sp_tt B n (t + 1) = 4294967295 then (true, i, A) else if pi_ok B n (t + 1) (A 0) = true then sp_run B n F (pi_en B n (t + 1) (A 0)) (pi_A B n (t + 1) A) (i + 1) else (false, pi_en B n (t + 1) (A 0), A) := rfl
    rw [e] at h ⊢
    by_cases q : sp_tt B n (t + 1) = 4294967295
    · rw [if_pos q]; exact ⟨Nat.le_refl _, Nat.le_add_right _ _⟩
    rw [if_neg q] at h ⊢
    by_cases z : pi_ok B n (t + 1) (A 0) = true
    · rw [if_pos z] at h ⊢
      have := ih _ _ _ h
      omega
    · rw [if_neg z] at h; exact nomatch h
theorem sp_rd_pos {B : Nat → Nat} {n : Nat} {A : Nat → Nat} (h : (sp_rd B n A).1 = true) : 1 ≤ (sp_rd B n A).2.1 ∧ (sp_rd B n A).2.1 ≤ 151 := by
  unfold sp_rd at h ⊢
  by_cases q0 : sp_tt B n 0 = 4294967292
  · rw [if_pos q0] at h ⊢
    by_cases q1 : sp_tt B n 1 ≤ 99
    · rw [if_pos q1] at h ⊢
      by_cases q2 : sp_tt B n 2 = 4294967294
      · rw [if_pos q2] at h ⊢; exact sp_run_pos _ _ _ _ h
      · rw [if_neg q2] at h; exact nomatch h
    · rw [if_neg q1] at h; exact nomatch h
  · rw [if_neg q0] at h; exact nomatch h
theorem sp_an_pos {B : Nat → Nat} {n : Nat} {R : Bool × Nat × (Nat → Nat)} (hn : n ≤ 150) (h : R.1 = true → 1 ≤ R.2.1 ∧ R.2.1 ≤ 151) : 0 < sp_an B n R ↔ R.1 = true := by
  unfold sp_an
  by_cases q : R.1 = true
  · rw [if_pos q]
    have := h q
    refine ⟨fun _ => q, fun _ => ?_⟩
    rw [Int32.lt_iff_toInt_lt, nI_toInt (by omega)]
    show (0 : Int) < _
    omega
  · rw [if_neg q]
    refine ⟨fun z => ?_, fun z => absurd z q⟩
    have hs := @sp_ss_le B n R.2.1
    have e : (nI 4294967286 - nI (sp_ss B n R.2.1)).toInt = -10 - (sp_ss B n R.2.1 : Int) := by
      rw [Int32.toInt_sub, show (nI 4294967286).toInt = -10 by decide, nI_toInt (show sp_ss B n R.2.1 < 2 ^ 31 by omega)]
      exact Int.bmod_eq_of_le (by omega) (by omega)
    rw [Int32.lt_iff_toInt_lt, e] at z
    have : (0 : Int) < -10 - (sp_ss B n R.2.1 : Int) := z
    omega
/-- where read ends -/
def mj_Zd (κ : Nat → Bool) (C : Nat → Nat → Nat) (R : Bool × Nat × (Nat → Nat)) : Option Value → mj_H → Prop := fun r h' => r = some (.int (sp_an (C 8) (C 7 0) R)) ∧ ∃ D : Nat → Nat → Nat, h' = hh κ D ∧ mj_CI κ D ∧ (∀ i, i ≠ 7 → i ≠ 9 → i ≠ 10 → (i < 20 ∨ 59 ≤ i) → D i = C i) ∧ (R.1 = false → ∀ i, 20 ≤ i → i < 40 → D i = C i) ∧ D 7 0 = C 7 0 ∧ (R.1 = true → mj_RL 20 D R.2.2)
theorem ev_X10_read {E : mj_E} {κ : Nat → Bool} {C : Nat → Nat → Nat} (I : mj_CI κ C) {A : Nat → Nat} : mj_Ev E iX10_read [.ref 0] (hh κ C) (mj_Zd κ C (sp_rd (C 8) (C 7 0) A)) := by
  have hl7x : C 7 0 ≤ 150 := I.2.2.2.2.2.2.1
  refine mj_Ev.of (L0 := [some (.ref 0), none]) pnRX10 (Nat.le_of_ble_eq_true rfl) rfl ?_
  refine gj_aload_n dX10_read_0 rfl ?_
  refine gfX10_40 rfl dX10_read_1 (hc0 κ C) rfl ?_
  refine gj_aload_n dX10_read_4 rfl ?_
  refine gfX10_16 rfl dX10_read_5 (hc0 κ C) rfl ?_
  refine gj_VP lkX10_144 (hc7 κ C) rfl rfl (ev_X5_tell I (A := A)) dX10_read_8 rfl rfl rfl rfl rfl ?_
  rintro r h' ⟨hr, D, hD, ID, fD, d0, rD⟩
  subst hr
  subst hD
  have fC : ∀ i, i ≠ 7 → i ≠ 9 → i ≠ 10 → (i < 40 ∨ 59 ≤ i) → D i = C i := fun i h1 h2 h3 h4 => by
    rw [fD i h1 h4]; unfold mj_ft; rw [mj_u_ne h3, mj_u_ne h2]
  have hp := sp_an_pos (B := C 8) (R := sp_rd (C 8) (C 7 0) A) hl7x sp_rd_pos
  show gj _ _ _ _ _ _ _ [(.int (sp_an (C 8) (C 7 0) (sp_rd (C 8) (C 7 0) A)) : Value)] _
  refine gj_istore_n (L' := [some (.ref 0), some (.int (sp_an (C 8) (C 7 0) (sp_rd (C 8) (C 7 0) A)))]) dX10_read_11 (Nat.le_of_ble_eq_true rfl) rfl ?_
  refine gj_iload_n dX10_read_12 rfl ?_
  refine gj_if_le (tgt := 27) dX10_read_13 rfl (fun z => ?_) (fun z => ?_)
  · have hR : (sp_rd (C 8) (C 7 0) A).1 = false := Bool.eq_false_iff.mpr fun y => Int32.not_lt.mpr z (hp.mpr y)
    refine gj_iload_n dX10_read_27 rfl ?_
    exact gj_iret rfl dX10_read_28 ⟨Nat.zero_le _, Nat.zero_le _⟩ ⟨rfl, D, rfl, ID, fun i h1 h2 h3 h4 => fC i h1 h2 h3 (by omega), fun _ i i1 i2 => fC i (by omega) (by omega) (by omega) (by omega), d0, fun y => by rw [hR] at y; exact nomatch y⟩
  · have hR : (sp_rd (C 8) (C 7 0) A).1 = true := hp.mp (Int32.not_le.mp z)
    refine gj_aload_n dX10_read_16 rfl ?_
    refine gfX10_10 rfl dX10_read_17 (hc0 κ D) rfl ?_
    refine gj_aload_n dX10_read_20 rfl ?_
    refine gfX10_16 rfl dX10_read_21 (hc0 κ D) rfl ?_
    refine gj_V0 lkX10_148 (hc20 κ D) rfl rfl (ev_X1_copy mj_lk20 ID.1 mj_lk40 ID.2.1 (by decide)) dX10_read_24 rfl rfl rfl rfl rfl ?_
    refine gj_cast (h' := hh κ (mj_blk D 20 (mj_shf D 20 40))) rfl rfl (hh_lay rfl (fun _ => mj_lk20)) ?_
    refine gj_iload_n dX10_read_27 rfl ?_
    exact gj_iret rfl dX10_read_28 ⟨Nat.zero_le _, Nat.zero_le _⟩ ⟨rfl, _, rfl, mj_CI_cp ID (by decide) ID.2.1 ID.2.2.2.2.2.2.2.2.2.1, fun i h1 h2 h3 h4 => (if_neg (by omega)).trans (fC i h1 h2 h3 (by omega)), fun y => (by rw [hR] at y; exact nomatch y), d0, fun y => RL_cp (rD y)⟩
