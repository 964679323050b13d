section MJLE
variable {E : mj_E} {X : mj_XT} {cc : ByteArray} {k n pc : Nat} {L : List (Option Value)} {st : List Value} {h : mj_H}
/-- a loop by counting, the cells told by a property -/
theorem gj_loopE (I : Nat → mj_H → Prop) (Lf : Nat → List (Option Value)) (N : Nat) (hx : ∀ h, I N h → gj E X cc k n pc (Lf N) st h) (hs : ∀ j, j < N → ∀ h, I j h → (∀ h', I (j + 1) h' → gj E X cc k n pc (Lf (j + 1)) st h') → gj E X cc k n pc (Lf j) st h) : ∀ j, j ≤ N → ∀ h, I j h → gj E X cc k n pc (Lf j) st h := by
  have : ∀ d j, j + d = N → ∀ h, I j h → gj E X cc k n pc (Lf j) st h := by
    intro d
    induction d with
    | zero => intro j hj h q; rw [show j = N by omega] at q ⊢; exact hx h q
    | succ d ih => intro j hj h q; exact hs j (by omega) h q (fun h' q' => ih (j + 1) (by omega) h' q')
  intro j hj
  exact this (N - j) j (by omega)
end MJLE
/-- an answer; only the trial's and the ways' rows have changed -/
def mj_Zs (κ : Nat → Bool) (C : Nat → Nat → Nat) (v : Nat) : Option Value → mj_H → Prop := fun q h' => q = some (.int (nI v)) ∧ ∃ D : Nat → Nat → Nat, h' = hh κ D ∧ (∀ i, i ≠ 2 → i ≠ 3 → i ≠ 5 → i ≠ 6 → D i = C i) ∧ (∀ c, D 2 c ≤ 5) ∧ ∀ c, D 3 c ≤ 99
def sp_crd (o a c f : Nat) (J : Nat → Nat) (n : Nat) : Nat → Nat := mj_fo (fun i J => mj_un J (sp_here o a c f i) (J (sp_here o a c f i) - 1)) J n
theorem sp_crd_s {o a c f : Nat} {J : Nat → Nat} {n : Nat} : sp_crd o a c f J (n + 1) = mj_un (sp_crd o a c f J n) (sp_here o a c f n) (sp_crd o a c f J n (sp_here o a c f n) - 1) := mj_fo_s
theorem sp_crd_le {o a c f : Nat} {J : Nat → Nat} {n : Nat} (h : ∀ x, J x ≤ 99) : ∀ x, sp_crd o a c f J n x ≤ 99 := by
  induction n with
  | zero => exact h
  | succ n ih => rw [sp_crd_s]; exact mj_un_le ih (by have := ih (sp_here o a c f n); omega)
/-- the ice behind n sledges -/
def sp_crn (K : Nat → Nat) (w a c : Nat) (I : Nat → Nat) (n : Nat) : Nat → Nat := mj_fo (fun _ J => sp_crd (sp_open K J w) a c (sp_far (sp_open K J w) a c) J (sp_far (sp_open K J w) a c + 1)) I n
theorem sp_crn_s {K : Nat → Nat} {w a c : Nat} {I : Nat → Nat} {n : Nat} : sp_crn K w a c I (n + 1) = sp_crd (sp_open K (sp_crn K w a c I n) w) a c (sp_far (sp_open K (sp_crn K w a c I n) w) a c) (sp_crn K w a c I n) (sp_far (sp_open K (sp_crn K w a c I n) w) a c + 1) := mj_fo_s
def sp_crp (K : Nat → Nat) (w a c : Nat) (I : Nat → Nat) (n : Nat) : Bool := decide (sp_far (sp_open K (sp_crn K w a c I n) w) a c = 25)
/-- the rows inside cross -/
def mj_crI (κ : Nat → Bool) (C : Nat → Nat → Nat) (w a c : Nat) (j : Nat) (h : mj_H) : Prop := (∀ i, i < j → sp_crp (C 22) w a c (C 23) i = false) ∧ ∃ D : Nat → Nat → Nat, h = hh κ D ∧ (∀ i, i ≠ 2 → i ≠ 3 → i ≠ 5 → i ≠ 6 → D i = C i) ∧ D 2 = C 22 ∧ D 3 = sp_crn (C 22) w a c (C 23) j ∧ (∀ c, D 2 c ≤ 5) ∧ ∀ c, D 3 c ≤ 99
set_option maxHeartbeats 2000000 in
set_option maxRecDepth 10000 in
theorem ev_X10_cross {E : mj_E} {κ : Nat → Bool} {C : Nat → Nat → Nat} (I : mj_CI κ C) {w a c : Nat} (h0 : 1 ≤ w) (h1 : w ≤ 99) (h2 : a < 25) (h3 : c < 25) (h4 : ¬ a = c) : mj_Ev E iX10_cross [.ref 0, .int (nI w), .int (nI a), .int (nI c)] (hh κ C) (mj_Zs κ C (sp_fst (sp_crp (C 22) w a c (C 23)) 40)) := by
  have hl0 : C 20 0 ≤ 999 := I.1 0 (by decide) 0
  have hl7 : C 27 0 ≤ 7 := I.1 7 (by decide) 0
  have hl11 : C 31 0 ≤ 6 := I.1 11 (by decide) 0
  have hl13 : C 33 0 ≤ 6 := I.1 13 (by decide) 0
  have hl15 : C 35 0 ≤ 8 := I.1 15 (by decide) 0
  have hl7x : C 7 0 ≤ 150 := I.2.2.2.2.2.2.1
  refine mj_Ev.of (L0 := [some (.ref 0), some (.int (nI w)), some (.int (nI a)), some (.int (nI c)), none, none, none, none]) pnRX10 (Nat.le_of_ble_eq_true rfl) rfl ?_
  refine gj_iload_n dX10_cross_0 rfl ?_
  refine gj_ic (w := 1) dX10_cross_1 ?_
  refine gj_bp 99 dX10_cross_2 (by decide) ?_
  refine gj_S1 lkX10_65 (ev_X10_within_t (by omega) (by omega) (by omega)) dX10_cross_4 rfl rfl rfl rfl rfl ?_
  refine gj_if_eqN (tgt := 29) (by omega) dX10_cross_7 rfl (fun zq0 => ?_) (fun zq0 => ?_)
  · exfalso; revert zq0; decide
  refine gj_iload_n dX10_cross_10 rfl ?_
  refine gj_S1 lkX10_87 (ev_X10_isCell_t (by omega) (by omega)) dX10_cross_11 rfl rfl rfl rfl rfl ?_
  refine gj_if_eqN (tgt := 29) (by omega) dX10_cross_14 rfl (fun zq0 => ?_) (fun zq0 => ?_)
  · exfalso; revert zq0; decide
  refine gj_iload_n dX10_cross_17 rfl ?_
  refine gj_S1 lkX10_87 (ev_X10_isCell_t (by omega) (by omega)) dX10_cross_18 rfl rfl rfl rfl rfl ?_
  refine gj_if_eqN (tgt := 29) (by omega) dX10_cross_21 rfl (fun zq0 => ?_) (fun zq0 => ?_)
  · exfalso; revert zq0; decide
  refine gj_iload_n dX10_cross_24 rfl ?_
  refine gj_iload_n dX10_cross_25 rfl ?_
  refine gj_icmp_neN (tgt := 34) (by omega) (by omega) dX10_cross_26 rfl (fun zq1 => ?_) (fun zq1 => ?_)
  rotate_left
  · exfalso; omega
  refine gj_aload_n dX10_cross_34 rfl ?_
  refine gfX10_26 rfl dX10_cross_35 (hc0 κ C) rfl ?_
  refine gj_aload_n dX10_cross_38 rfl ?_
  refine gfX10_10 rfl dX10_cross_39 (hc0 κ C) rfl ?_
  refine gfX10_91 rfl dX10_cross_42 (hc20 κ C) rfl ?_
  refine gj_V0 lkX10_218 (hc1 κ C) rfl rfl (ev_X4_copy ⟨(hc1 κ C), (hc2 κ C), (hc3 κ C), (by decide), I.2.2.2.2.1, I.2.2.2.2.2.1⟩ ⟨(hc21 κ C), (hc22 κ C), (hc23 κ C), (by decide), (show ∀ c, C 22 c ≤ 5 from I.1 2 (by decide)), (show ∀ c, C 23 c ≤ 99 from I.1 3 (by decide))⟩ (by decide)) dX10_cross_45 rfl rfl rfl rfl rfl ?_
  refine gj_ic (w := 0) dX10_cross_48 ?_
  refine gj_istore (L' := [some (.ref 0), some (.int (nI w)), some (.int (nI a)), some (.int (nI c)), some (.int (nI 0)), none, none, none]) dX10_cross_49 (Nat.le_of_ble_eq_true rfl) rfl ?_
  refine gj_loopE (mj_crI κ C w a c) (fun j => [some (.ref 0), some (.int (nI w)), some (.int (nI a)), some (.int (nI c)), some (.int (nI j)), none, none, none]) 40 (fun hv hq => ?_) (fun j hj hv hq ih => ?_) 0 (by omega) _ ⟨fun i hi => absurd hi (Nat.not_lt_zero _), (mj_u (mj_u C 2 (C 22)) 3 (C 23)), (hu3 (hu2 rfl)), fun i q1 q2 q3 q4 => by rw [mj_u_ne q2, mj_u_ne q1], rfl, rfl, (show ∀ c, C 22 c ≤ 5 from I.1 2 (by decide)), (show ∀ c, C 23 c ≤ 99 from I.1 3 (by decide))⟩
  · show gj _ _ _ _ _ _ [some (.ref 0), some (.int (nI w)), some (.int (nI a)), some (.int (nI c)), some (.int (nI 40)), none, none, none] _ _
    obtain ⟨hq, D, hE, hD, hD2, hD3, hB2, hB3⟩ := hq
    subst hE
    refine gj_iload dX10_cross_51 rfl ?_
    refine gj_bp 40 dX10_cross_53 (by decide) ?_
    refine gj_icmp_geN (tgt := 142) (by omega) (by omega) dX10_cross_55 rfl (fun zq0 => ?_) (fun zq0 => ?_)
    rotate_left
    · exfalso; omega
    refine gj_bp 40 dX10_cross_142 (by decide) ?_
    exact gj_iret (i := iX10_cross) rfl dX10_cross_144 ⟨Nat.zero_le _, Nat.zero_le _⟩ ⟨by rw [sp_fst_none (p := sp_crp (C 22) w a c (C 23)) hq], D, rfl, fun i q1 q2 q3 q4 => by  exact hD i q1 q2 q3 q4, by exact hB2, by exact hB3⟩
  show gj _ _ _ _ _ _ [some (.ref 0), some (.int (nI w)), some (.int (nI a)), some (.int (nI c)), some (.int (nI j)), none, none, none] _ _
  obtain ⟨hq, D, hE, hD, hD2, hD3, hB2, hB3⟩ := hq
  subst hE
  refine gj_iload dX10_cross_51 rfl ?_
  refine gj_bp 40 dX10_cross_53 (by decide) ?_
  refine gj_icmp_geN (tgt := 142) (by omega) (by omega) dX10_cross_55 rfl (fun zq2 => ?_) (fun zq2 => ?_)
  · exfalso; omega
  refine gj_aload_n dX10_cross_58 rfl ?_
  refine gfX10_33 rfl dX10_cross_59 (hc0 κ D) rfl ?_
  refine gj_aload_n dX10_cross_62 rfl ?_
  refine gfX10_26 rfl dX10_cross_63 (hc0 κ D) rfl ?_
  refine gj_iload_n dX10_cross_66 rfl ?_
  refine gj_V1 lkX10_224 (hc1 κ D) rfl rfl (ev_X4_bearing ⟨(hc1 κ D), (hc2 κ D), (hc3 κ D), (by decide), hB2, hB3⟩ (by omega)) dX10_cross_67 rfl rfl rfl rfl rfl ?_
  have hb3 := @sp_open_lt (D 2) (D 3) w
  refine gj_iload_n dX10_cross_70 rfl ?_
  refine gj_iload_n dX10_cross_71 rfl ?_
  have ho9 := @sp_open_lt (D 2) (D 3) w
  rcases Nat.lt_or_ge (sp_far (sp_open (D 2) (D 3) w) a c) 25 with hfar | hfar
  · have hn9 : sp_crp (C 22) w a c (C 23) j = false := by unfold sp_crp; rw [← hD3, ← hD2]; exact decide_eq_false (by omega)
    refine gj_V1 lkX10_230 (hc4 κ D) rfl rfl (ev_X8_find_a (hc4 κ D) (hc5 κ D) (hc6 κ D) (by decide) (by omega) (by omega) (by omega) hfar) dX10_cross_72 rfl rfl rfl rfl rfl ?_
    refine gj_istore (L' := [some (.ref 0), some (.int (nI w)), some (.int (nI a)), some (.int (nI c)), some (.int (nI j)), some (.int (nI (sp_far (sp_open (D 2) (D 3) w) a c + 1))), none, none]) dX10_cross_75 (Nat.le_of_ble_eq_true rfl) rfl ?_
    refine gj_iload dX10_cross_77 rfl ?_
    refine gj_if_neN (tgt := 85) (by omega) dX10_cross_79 rfl (fun zq4 => ?_) (fun zq4 => ?_)
    rotate_left
    · exfalso; omega
    refine gj_ic (w := 0) dX10_cross_85 ?_
    refine gj_istore (L' := [some (.ref 0), some (.int (nI w)), some (.int (nI a)), some (.int (nI c)), some (.int (nI j)), some (.int (nI (sp_far (sp_open (D 2) (D 3) w) a c + 1))), some (.int (nI 0)), none]) dX10_cross_86 (Nat.le_of_ble_eq_true rfl) rfl ?_
    refine gj_cast (L' := [some (.ref 0), some (.int (nI w)), some (.int (nI a)), some (.int (nI c)), some (.int (nI j)), some (.int (nI ((sp_far (sp_open (D 2) (D 3) w) a c) + 1))), some (.int (nI 0)), none]) (st' := []) (h' := mj_up (mj_up (mj_up (hh κ D) 5 (mj_ar 25 (mj_mix (sp_ring (sp_open (D 2) (D 3) w) c) (D 5) (min ((sp_far (sp_open (D 2) (D 3) w) a c) + 1) 25)))) 6 (mj_ar 25 (mj_mix (sp_here (sp_open (D 2) (D 3) w) a c (sp_far (sp_open (D 2) (D 3) w) a c)) (D 6) ((sp_far (sp_open (D 2) (D 3) w) a c) + 1)))) 3 (mj_ar 25 (sp_crd (sp_open (D 2) (D 3) w) a c (sp_far (sp_open (D 2) (D 3) w) a c) (D 3) 0))) rfl rfl (by rw [show sp_crd (sp_open (D 2) (D 3) w) a c (sp_far (sp_open (D 2) (D 3) w) a c) (D 3) 0 = D 3 from rfl]; exact (mj_up_self ((mj_up_ne (by decide)).trans ((mj_up_ne (by decide)).trans (hc3 κ D)))).symm) ?_
    refine gj_loop (fun i => [some (.ref 0), some (.int (nI w)), some (.int (nI a)), some (.int (nI c)), some (.int (nI j)), some (.int (nI ((sp_far (sp_open (D 2) (D 3) w) a c) + 1))), some (.int (nI i)), none]) (fun i => mj_up (mj_up (mj_up (hh κ D) 5 (mj_ar 25 (mj_mix (sp_ring (sp_open (D 2) (D 3) w) c) (D 5) (min ((sp_far (sp_open (D 2) (D 3) w) a c) + 1) 25)))) 6 (mj_ar 25 (mj_mix (sp_here (sp_open (D 2) (D 3) w) a c (sp_far (sp_open (D 2) (D 3) w) a c)) (D 6) ((sp_far (sp_open (D 2) (D 3) w) a c) + 1)))) 3 (mj_ar 25 (sp_crd (sp_open (D 2) (D 3) w) a c (sp_far (sp_open (D 2) (D 3) w) a c) (D 3) i))) ((sp_far (sp_open (D 2) (D 3) w) a c) + 1) ?_ (fun i hi ihi => ?_) 0 (by omega)
    · show gj _ _ _ _ _ _ [some (.ref 0), some (.int (nI w)), some (.int (nI a)), some (.int (nI c)), some (.int (nI j)), some (.int (nI ((sp_far (sp_open (D 2) (D 3) w) a c) + 1))), some (.int (nI ((sp_far (sp_open (D 2) (D 3) w) a c) + 1))), none] _ _
      refine gj_iload dX10_cross_88 rfl ?_
      refine gj_iload dX10_cross_90 rfl ?_
      refine gj_icmp_geN (tgt := 136) (by omega) (by omega) dX10_cross_92 rfl (fun zq5 => ?_) (fun zq5 => ?_)
      rotate_left
      · exfalso; omega
      refine gj_iincN (L' := [some (.ref 0), some (.int (nI w)), some (.int (nI a)), some (.int (nI c)), some (.int (nI (j + 1))), some (.int (nI ((sp_far (sp_open (D 2) (D 3) w) a c) + 1))), some (.int (nI ((sp_far (sp_open (D 2) (D 3) w) a c) + 1))), none]) dX10_cross_136 rfl (Nat.le_of_ble_eq_true rfl) rfl ?_
      refine gj_goto (tgt := 51) dX10_cross_139 rfl ?_
      refine gj_forget (i := 5) (L' := [some (.ref 0), some (.int (nI w)), some (.int (nI a)), some (.int (nI c)), some (.int (nI (j + 1))), none, some (.int (nI ((sp_far (sp_open (D 2) (D 3) w) a c) + 1))), none]) rfl ?_
      refine gj_forget (i := 6) (L' := [some (.ref 0), some (.int (nI w)), some (.int (nI a)), some (.int (nI c)), some (.int (nI (j + 1))), none, none, none]) rfl ?_
      exact ih _ ⟨fun i hi => by by_cases q : i = j <;> first | (subst q; exact hn9) | exact hq i (by omega), (mj_u (mj_u (mj_u D 5 (mj_mix (sp_ring (sp_open (D 2) (D 3) w) c) (D 5) (min ((sp_far (sp_open (D 2) (D 3) w) a c) + 1) 25))) 6 (mj_mix (sp_here (sp_open (D 2) (D 3) w) a c (sp_far (sp_open (D 2) (D 3) w) a c)) (D 6) ((sp_far (sp_open (D 2) (D 3) w) a c) + 1))) 3 (sp_crd (sp_open (D 2) (D 3) w) a c (sp_far (sp_open (D 2) (D 3) w) a c) (D 3) ((sp_far (sp_open (D 2) (D 3) w) a c) + 1))), (hu3 (hu6 (hu5 rfl))), fun i q1 q2 q3 q4 => by rw [mj_u_ne q2, mj_u_ne q4, mj_u_ne q3]; exact hD i q1 q2 q3 q4, by rw [mj_u_ne (by decide), mj_u_ne (by decide), mj_u_ne (by decide)]; exact hD2, by rw [mj_u_eq, sp_crn_s, ← hD3, ← hD2], by rw [mj_u_ne (by decide), mj_u_ne (by decide), mj_u_ne (by decide)]; exact hB2, by rw [mj_u_eq]; exact sp_crd_le hB3⟩
    show gj _ _ _ _ _ _ [some (.ref 0), some (.int (nI w)), some (.int (nI a)), some (.int (nI c)), some (.int (nI j)), some (.int (nI ((sp_far (sp_open (D 2) (D 3) w) a c) + 1))), some (.int (nI i)), none] _ _
    refine gj_iload dX10_cross_88 rfl ?_
    refine gj_iload dX10_cross_90 rfl ?_
    refine gj_icmp_geN (tgt := 136) (by omega) (by omega) dX10_cross_92 rfl (fun zq6 => ?_) (fun zq6 => ?_)
    · exfalso; omega
    refine gj_aload_n dX10_cross_95 rfl ?_
    refine gfX10_33 rfl dX10_cross_96 ((mj_up_ne (by decide)).trans ((mj_up_ne (by decide)).trans ((mj_up_ne (by decide)).trans (hc0 κ D)))) rfl ?_
    refine gj_iload dX10_cross_99 rfl ?_
    refine gj_V1 lkX10_233 ((mj_up_ne (by decide)).trans ((mj_up_ne (by decide)).trans ((mj_up_ne (by decide)).trans (hc4 κ D)))) rfl rfl (ev_X8_step ((mj_up_ne (by decide)).trans ((mj_up_ne (by decide)).trans ((mj_up_ne (by decide)).trans (hc4 κ D)))) ((mj_up_ne (by decide)).trans ((mj_up_ne (by decide)).trans (mj_up_eq _ _ _))) ((mj_up_ne (by decide)).trans (mj_up_eq _ _ _)) (by decide) (by omega)) dX10_cross_101 rfl rfl rfl rfl rfl ?_
    refine gj_topN (y := sp_here (sp_open (D 2) (D 3) w) a c (sp_far (sp_open (D 2) (D 3) w) a c) i) (mj_mix_lt (by omega)) ?_
    have hb9 := @sp_here_lt (sp_open (D 2) (D 3) w) a c (sp_far (sp_open (D 2) (D 3) w) a c) i h2
    refine gj_istore (L' := [some (.ref 0), some (.int (nI w)), some (.int (nI a)), some (.int (nI c)), some (.int (nI j)), some (.int (nI ((sp_far (sp_open (D 2) (D 3) w) a c) + 1))), some (.int (nI i)), some (.int (nI (sp_here (sp_open (D 2) (D 3) w) a c (sp_far (sp_open (D 2) (D 3) w) a c) i)))]) dX10_cross_104 (Nat.le_of_ble_eq_true rfl) rfl ?_
    refine gj_aload_n dX10_cross_106 rfl ?_
    refine gfX10_26 rfl dX10_cross_107 ((mj_up_ne (by decide)).trans ((mj_up_ne (by decide)).trans ((mj_up_ne (by decide)).trans (hc0 κ D)))) rfl ?_
    refine gj_iload dX10_cross_110 rfl ?_
    refine gj_ic (w := 0) dX10_cross_112 ?_
    refine gj_aload_n dX10_cross_113 rfl ?_
    refine gfX10_26 rfl dX10_cross_114 ((mj_up_ne (by decide)).trans ((mj_up_ne (by decide)).trans ((mj_up_ne (by decide)).trans (hc0 κ D)))) rfl ?_
    refine gj_iload dX10_cross_117 rfl ?_
    refine gj_V1 lkX10_164 ((mj_up_ne (by decide)).trans ((mj_up_ne (by decide)).trans ((mj_up_ne (by decide)).trans (hc1 κ D)))) rfl rfl (ev_X4_iceOf ⟨((mj_up_ne (by decide)).trans ((mj_up_ne (by decide)).trans ((mj_up_ne (by decide)).trans (hc1 κ D)))), ((mj_up_ne (by decide)).trans ((mj_up_ne (by decide)).trans ((mj_up_ne (by decide)).trans (hc2 κ D)))), (mj_up_eq _ _ _), (by decide), hB2, (show ∀ x, (sp_crd (sp_open (D 2) (D 3) w) a c (sp_far (sp_open (D 2) (D 3) w) a c) (D 3) i) x ≤ 99 from sp_crd_le hB3)⟩ (by omega)) dX10_cross_119 rfl rfl rfl rfl rfl ?_
    have hb7 := (show ∀ x, (sp_crd (sp_open (D 2) (D 3) w) a c (sp_far (sp_open (D 2) (D 3) w) a c) (D 3) i) x ≤ 99 from sp_crd_le hB3) (sp_here (sp_open (D 2) (D 3) w) a c (sp_far (sp_open (D 2) (D 3) w) a c) i)
    refine gj_ic (w := 1) dX10_cross_122 ?_
    refine gj_isub dX10_cross_123 ?_
    refine gj_max0 w_634 w_609 w_83 w_610 (by omega) (by omega) dX10_cross_124 rfl rfl ?_
    refine gj_V0 lkX10_173 ((mj_up_ne (by decide)).trans ((mj_up_ne (by decide)).trans ((mj_up_ne (by decide)).trans (hc1 κ D)))) rfl rfl (ev_X4_setIce ⟨((mj_up_ne (by decide)).trans ((mj_up_ne (by decide)).trans ((mj_up_ne (by decide)).trans (hc1 κ D)))), ((mj_up_ne (by decide)).trans ((mj_up_ne (by decide)).trans ((mj_up_ne (by decide)).trans (hc2 κ D)))), (mj_up_eq _ _ _), (by decide), hB2, (show ∀ x, (sp_crd (sp_open (D 2) (D 3) w) a c (sp_far (sp_open (D 2) (D 3) w) a c) (D 3) i) x ≤ 99 from sp_crd_le hB3)⟩ (by omega)) dX10_cross_127 rfl rfl rfl rfl rfl ?_
    refine gj_iincN (L' := [some (.ref 0), some (.int (nI w)), some (.int (nI a)), some (.int (nI c)), some (.int (nI j)), some (.int (nI ((sp_far (sp_open (D 2) (D 3) w) a c) + 1))), some (.int (nI (i + 1))), some (.int (nI (sp_here (sp_open (D 2) (D 3) w) a c (sp_far (sp_open (D 2) (D 3) w) a c) i)))]) dX10_cross_130 rfl (Nat.le_of_ble_eq_true rfl) rfl ?_
    refine gj_goto (tgt := 88) dX10_cross_133 rfl ?_
    refine gj_forget (i := 7) (L' := [some (.ref 0), some (.int (nI w)), some (.int (nI a)), some (.int (nI c)), some (.int (nI j)), some (.int (nI ((sp_far (sp_open (D 2) (D 3) w) a c) + 1))), some (.int (nI (i + 1))), none]) rfl ?_
    exact gj_cast rfl rfl (by rw [mj_up_up, sp_crd_s]) ihi
  have hfar : (sp_far (sp_open (D 2) (D 3) w) a c) = 25 := by have := @sp_far_le (sp_open (D 2) (D 3) w) a c; omega
  have hp9 : sp_crp (C 22) w a c (C 23) j = true := by unfold sp_crp; rw [← hD3, ← hD2]; exact decide_eq_true hfar
  refine gj_V1 lkX10_230 (hc4 κ D) rfl rfl (ev_X8_find_b (hc4 κ D) (hc5 κ D) (hc6 κ D) (by decide) (by omega) (by omega) (by omega) hfar) dX10_cross_72 rfl rfl rfl rfl rfl ?_
  refine gj_istore (L' := [some (.ref 0), some (.int (nI w)), some (.int (nI a)), some (.int (nI c)), some (.int (nI j)), some (.int (nI 0)), none, none]) dX10_cross_75 (Nat.le_of_ble_eq_true rfl) rfl ?_
  refine gj_iload dX10_cross_77 rfl ?_
  refine gj_if_neN (tgt := 85) (by omega) dX10_cross_79 rfl (fun zq0 => ?_) (fun zq0 => ?_)
  · exfalso; revert zq0; decide
  refine gj_iload dX10_cross_82 rfl ?_
  exact gj_iret (i := iX10_cross) rfl dX10_cross_84 ⟨Nat.zero_le _, Nat.zero_le _⟩ ⟨by rw [sp_fst_at (p := sp_crp (C 22) w a c (C 23)) hj hp9 hq], (mj_u D 5 (mj_mix (sp_ring (sp_open (D 2) (D 3) w) c) (D 5) (min (sp_far (sp_open (D 2) (D 3) w) a c + 1) 25))), (hu5 rfl), fun i q1 q2 q3 q4 => by rw [mj_u_ne q3]; exact hD i q1 q2 q3 q4, by rw [mj_u_ne (by decide)]; exact hB2, by rw [mj_u_ne (by decide)]; exact hB3⟩
