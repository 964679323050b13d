theorem mj_b_inj {p q : Bool} : mj_b p = mj_b q ↔ p = q := by cases p <;> cases q <;> decide
theorem mj_b_n1 {p : Bool} : mj_b p = nI 1 ↔ p = true := by cases p <;> decide
theorem mj_b_n0 {p : Bool} : mj_b p = nI 0 ↔ p = false := by cases p <;> decide
/-- whom to turn -/
def sp_tst (VW : Nat → Nat) (z y : Nat) (s m : Nat) : Nat := if m = 4294967295 ∨ sp_pop s < sp_pop m then (if sp_car VW z (y ^^^ s) = sp_car VW z y then m else s) else m
def sp_turn (VW : Nat → Nat) (z y : Nat) (n : Nat) : Nat := mj_fo (sp_tst VW z y) 4294967295 n
theorem sp_turn_s {VW : Nat → Nat} {z y n : Nat} : sp_turn VW z y (n + 1) = sp_tst VW z y n (sp_turn VW z y n) := rfl
theorem sp_turn_1 {VW : Nat → Nat} {z y : Nat} : sp_turn VW z y 1 = 4294967295 := by
  rw [sp_turn_s]
  unfold sp_tst
  rw [show sp_turn VW z y 0 = 4294967295 from rfl, if_pos (Or.inl rfl), Nat.xor_zero, if_pos rfl]
theorem sp_turn_or {VW : Nat → Nat} {z y n : Nat} : sp_turn VW z y n = 4294967295 ∨ sp_turn VW z y n < n := by
  induction n with
  | zero => exact Or.inl rfl
  | succ n ih => rw [sp_turn_s]; unfold sp_tst; split <;> (try split) <;> omega
def sp_snc (P : Nat → Bool) (n : Nat) : Nat := mj_fo (fun s a => if P s then a + 1 else a) 0 n
def sp_sna (P : Nat → Bool) (n : Nat) : Nat := mj_fo (fun s a => if P s then a &&& s else a) 4294967295 n
def sp_sns (P : Nat → Bool) (n : Nat) : Nat := mj_fo (fun s a => if P s then a ||| s else a) 0 n
theorem sp_snc_t {P : Nat → Bool} {n : Nat} (h : P n = true) : sp_snc P (n + 1) = sp_snc P n + 1 := if_pos h
theorem sp_snc_f {P : Nat → Bool} {n : Nat} (h : P n = false) : sp_snc P (n + 1) = sp_snc P n := if_neg (by rw [h]; decide)
theorem sp_sna_t {P : Nat → Bool} {n : Nat} (h : P n = true) : sp_sna P (n + 1) = sp_sna P n &&& n := if_pos h
theorem sp_sna_f {P : Nat → Bool} {n : Nat} (h : P n = false) : sp_sna P (n + 1) = sp_sna P n := if_neg (by rw [h]; decide)
theorem sp_sns_t {P : Nat → Bool} {n : Nat} (h : P n = true) : sp_sns P (n + 1) = sp_sns P n ||| n := if_pos h
theorem sp_sns_f {P : Nat → Bool} {n : Nat} (h : P n = false) : sp_sns P (n + 1) = sp_sns P n := if_neg (by rw [h]; decide)
def sp_sn (VW : Nat → Nat) (z u x : Nat) (s : Nat) : Bool := decide (s &&& u = x) && sp_car VW z s
def sp_all (p : Nat → Bool) : Nat → Bool
  | 0 => true
  | n + 1 => sp_all p n && p n
theorem sp_all_f {p : Nat → Bool} {n j : Nat} (hj : j < n) (h : p j = false) : sp_all p n = false := by
  induction n with
  | zero => omega
  | succ n ih =>
    show (sp_all p n && p n) = false
    by_cases q : j = n
    · subst q; rw [h, Bool.and_false]
    · rw [ih (by omega), Bool.false_and]
theorem sp_all_t {p : Nat → Bool} {n : Nat} (h : ∀ i, i < n → p i = true) : sp_all p n = true := by
  induction n with
  | zero => rfl
  | succ n ih => show (sp_all p n && p n) = true; rw [ih fun i hi => h i (by omega), h n (by omega)]; rfl
def sp_np (R : Nat → Nat) (c k : Nat) (i : Nat) : Bool := !decide (R (i * 5 + 0) = c) || decide (sp_after k (R (i * 5 + 1)) (R (i * 5 + 2)) (R (i * 5 + 3)) = R (i * 5 + 4))
def sp_kn (R : Nat → Nat) (z c : Nat) : Nat := mj_bits (fun k => sp_all (sp_np R c k) z) 6
def sp_pp (R : Nat → Nat) (w v k : Nat) (i : Nat) : Bool := !decide (R (i * 5 + 0) = v) || (sp_yes k w (R (i * 5 + 2)) (R (i * 5 + 3)) (R (i * 5 + 4)) == decide (R (i * 5 + 1) = 1))
def sp_wk (R : Nat → Nat) (z w v : Nat) : Nat := mj_bits (fun k => sp_all (sp_pp R w v k) z) 6
theorem sp_kn_lt {R : Nat → Nat} {z c : Nat} : sp_kn R z c < 64 := mj_bits_lt
theorem sp_wk_lt {R : Nat → Nat} {z w v : Nat} : sp_wk R z w v < 64 := mj_bits_lt
set_option maxHeartbeats 1000000 in
set_option maxRecDepth 10000 in
theorem ev_X10_turn {E : mj_E} {κ : Nat → Bool} {C : Nat → Nat → Nat} (I : mj_CI κ C)  : mj_Ev E iX10_turn [.ref 0] (hh κ C) (mj_R (some (.int (nI (sp_turn (C 29) (C 27 0) (sp_yess (C 28) (C 29) (C 30) (fun c => sp_bear (C 22 c) (C 23 c)) (C 25 ((C 20 0) % 7)) (C 27 0)) (1 <<< (C 27 0)))))) (hh κ C)) := by
  have hl0 : C 20 0 ≤ 999 := I.1 0 (by decide) 0
  have hl7 : C 27 0 ≤ 7 := I.1 7 (by decide) 0
  have hl11 : C 31 0 ≤ 6 := I.1 11 (by decide) 0
  have hl13 : C 33 0 ≤ 6 := I.1 13 (by decide) 0
  have hl15 : C 35 0 ≤ 8 := I.1 15 (by decide) 0
  have hl7x : C 7 0 ≤ 150 := I.2.2.2.2.2.2.1
  have hY : (sp_yess (C 28) (C 29) (C 30) (fun c => sp_bear (C 22 c) (C 23 c)) (C 25 ((C 20 0) % 7)) (C 27 0)) < 128 := sp_yess_lt (by omega)
  have hZ := mj_sets_le hl7
  refine mj_Ev.of (L0 := [some (.ref 0), none, none, none, none, none]) pnRX10 (Nat.le_of_ble_eq_true rfl) rfl ?_
  refine gj_aload_n dX10_turn_0 rfl ?_
  refine gj_V1 lkX10_197 (hc0 κ C) rfl rfl (ev_X10_yesNow I) dX10_turn_1 rfl rfl rfl rfl rfl ?_
  have hb1 := @sp_yess_lt (C 28) (C 29) (C 30) (fun c => sp_bear (C 22 c) (C 23 c)) (C 25 ((C 20 0) % 7)) (C 27 0) (by omega)
  refine gj_istore_n (L' := [some (.ref 0), some (.int (nI (sp_yess (C 28) (C 29) (C 30) (fun c => sp_bear (C 22 c) (C 23 c)) (C 25 ((C 20 0) % 7)) (C 27 0)))), none, none, none, none]) dX10_turn_4 (Nat.le_of_ble_eq_true rfl) rfl ?_
  refine gj_aload_n dX10_turn_5 rfl ?_
  refine gfX10_10 rfl dX10_turn_6 (hc0 κ C) rfl ?_
  refine gfX10_73 rfl dX10_turn_9 (hc20 κ C) rfl ?_
  refine gj_iload_n dX10_turn_12 rfl ?_
  refine gj_V1 lkX10_242 (hc27 κ C) rfl rfl (ev_X7_carried ⟨(hc27 κ C), (hc28 κ C), (hc29 κ C), (hc30 κ C), (by omega), (show ∀ c, C 28 c ≤ 5 from I.1 8 (by decide)), (show ∀ c, C 29 c ≤ 99 from I.1 9 (by decide)), (show ∀ c, C 30 c ≤ 24 from I.1 10 (by decide))⟩ hY) dX10_turn_13 rfl rfl rfl rfl rfl ?_
  refine gj_istore_n (L' := [some (.ref 0), some (.int (nI (sp_yess (C 28) (C 29) (C 30) (fun c => sp_bear (C 22 c) (C 23 c)) (C 25 ((C 20 0) % 7)) (C 27 0)))), some (.int (mj_b (sp_car (C 29) (C 27 0) (sp_yess (C 28) (C 29) (C 30) (fun c => sp_bear (C 22 c) (C 23 c)) (C 25 ((C 20 0) % 7)) (C 27 0))))), none, none, none]) dX10_turn_16 (Nat.le_of_ble_eq_true rfl) rfl ?_
  refine gj_iconst (v := (-1)) dX10_turn_17 (by decide) ?_
  refine gj_top (y := nI 4294967295) (by decide) ?_
  refine gj_istore_n (L' := [some (.ref 0), some (.int (nI (sp_yess (C 28) (C 29) (C 30) (fun c => sp_bear (C 22 c) (C 23 c)) (C 25 ((C 20 0) % 7)) (C 27 0)))), some (.int (mj_b (sp_car (C 29) (C 27 0) (sp_yess (C 28) (C 29) (C 30) (fun c => sp_bear (C 22 c) (C 23 c)) (C 25 ((C 20 0) % 7)) (C 27 0))))), some (.int (nI 4294967295)), none, none]) dX10_turn_18 (Nat.le_of_ble_eq_true rfl) rfl ?_
  refine gj_ic (w := 1) dX10_turn_19 ?_
  refine gj_istore (L' := [some (.ref 0), some (.int (nI (sp_yess (C 28) (C 29) (C 30) (fun c => sp_bear (C 22 c) (C 23 c)) (C 25 ((C 20 0) % 7)) (C 27 0)))), some (.int (mj_b (sp_car (C 29) (C 27 0) (sp_yess (C 28) (C 29) (C 30) (fun c => sp_bear (C 22 c) (C 23 c)) (C 25 ((C 20 0) % 7)) (C 27 0))))), some (.int (nI 4294967295)), some (.int (nI 1)), none]) dX10_turn_20 (Nat.le_of_ble_eq_true rfl) rfl ?_
  refine gj_cast (L' := [some (.ref 0), some (.int (nI (sp_yess (C 28) (C 29) (C 30) (fun c => sp_bear (C 22 c) (C 23 c)) (C 25 ((C 20 0) % 7)) (C 27 0)))), some (.int (mj_b (sp_car (C 29) (C 27 0) (sp_yess (C 28) (C 29) (C 30) (fun c => sp_bear (C 22 c) (C 23 c)) (C 25 ((C 20 0) % 7)) (C 27 0))))), some (.int (nI (sp_turn (C 29) (C 27 0) (sp_yess (C 28) (C 29) (C 30) (fun c => sp_bear (C 22 c) (C 23 c)) (C 25 ((C 20 0) % 7)) (C 27 0)) 1))), some (.int (nI 1)), none]) (st' := []) (h' := (hh κ C)) (by rw [sp_turn_1]) rfl rfl ?_
  refine gj_loop (fun j => [some (.ref 0), some (.int (nI (sp_yess (C 28) (C 29) (C 30) (fun c => sp_bear (C 22 c) (C 23 c)) (C 25 ((C 20 0) % 7)) (C 27 0)))), some (.int (mj_b (sp_car (C 29) (C 27 0) (sp_yess (C 28) (C 29) (C 30) (fun c => sp_bear (C 22 c) (C 23 c)) (C 25 ((C 20 0) % 7)) (C 27 0))))), some (.int (nI (sp_turn (C 29) (C 27 0) (sp_yess (C 28) (C 29) (C 30) (fun c => sp_bear (C 22 c) (C 23 c)) (C 25 ((C 20 0) % 7)) (C 27 0)) j))), some (.int (nI j)), none]) (fun j => (hh κ C)) (1 <<< (C 27 0)) ?_ (fun j hj ih => ?_) 1 (by omega)
  · show gj _ _ _ _ _ _ [some (.ref 0), some (.int (nI (sp_yess (C 28) (C 29) (C 30) (fun c => sp_bear (C 22 c) (C 23 c)) (C 25 ((C 20 0) % 7)) (C 27 0)))), some (.int (mj_b (sp_car (C 29) (C 27 0) (sp_yess (C 28) (C 29) (C 30) (fun c => sp_bear (C 22 c) (C 23 c)) (C 25 ((C 20 0) % 7)) (C 27 0))))), some (.int (nI (sp_turn (C 29) (C 27 0) (sp_yess (C 28) (C 29) (C 30) (fun c => sp_bear (C 22 c) (C 23 c)) (C 25 ((C 20 0) % 7)) (C 27 0)) (1 <<< (C 27 0))))), some (.int (nI (1 <<< (C 27 0)))), none] _ _
    refine gj_iload dX10_turn_22 rfl ?_
    refine gj_aload_n dX10_turn_24 rfl ?_
    refine gfX10_10 rfl dX10_turn_25 (hc0 κ C) rfl ?_
    refine gfX10_73 rfl dX10_turn_28 (hc20 κ C) rfl ?_
    refine gj_V1 lkX10_252 (hc27 κ C) rfl rfl (ev_X7_sets ⟨(hc27 κ C), (hc28 κ C), (hc29 κ C), (hc30 κ C), (by omega), (show ∀ c, C 28 c ≤ 5 from I.1 8 (by decide)), (show ∀ c, C 29 c ≤ 99 from I.1 9 (by decide)), (show ∀ c, C 30 c ≤ 24 from I.1 10 (by decide))⟩) dX10_turn_31 rfl rfl rfl rfl rfl ?_
    have hb2 := mj_sets_le' (C 27 0) (by omega)
    refine gj_icmp_geN (tgt := 93) (by omega) (by omega) dX10_turn_34 rfl (fun zq3 => ?_) (fun zq3 => ?_)
    rotate_left
    · exfalso; omega
    refine gj_iload_n dX10_turn_93 rfl ?_
    exact gj_ir rfl dX10_turn_94 rfl rfl rfl
  show gj _ _ _ _ _ _ [some (.ref 0), some (.int (nI (sp_yess (C 28) (C 29) (C 30) (fun c => sp_bear (C 22 c) (C 23 c)) (C 25 ((C 20 0) % 7)) (C 27 0)))), some (.int (mj_b (sp_car (C 29) (C 27 0) (sp_yess (C 28) (C 29) (C 30) (fun c => sp_bear (C 22 c) (C 23 c)) (C 25 ((C 20 0) % 7)) (C 27 0))))), some (.int (nI (sp_turn (C 29) (C 27 0) (sp_yess (C 28) (C 29) (C 30) (fun c => sp_bear (C 22 c) (C 23 c)) (C 25 ((C 20 0) % 7)) (C 27 0)) j))), some (.int (nI j)), none] _ _
  refine gj_iload dX10_turn_22 rfl ?_
  refine gj_aload_n dX10_turn_24 rfl ?_
  refine gfX10_10 rfl dX10_turn_25 (hc0 κ C) rfl ?_
  refine gfX10_73 rfl dX10_turn_28 (hc20 κ C) rfl ?_
  refine gj_V1 lkX10_252 (hc27 κ C) rfl rfl (ev_X7_sets ⟨(hc27 κ C), (hc28 κ C), (hc29 κ C), (hc30 κ C), (by omega), (show ∀ c, C 28 c ≤ 5 from I.1 8 (by decide)), (show ∀ c, C 29 c ≤ 99 from I.1 9 (by decide)), (show ∀ c, C 30 c ≤ 24 from I.1 10 (by decide))⟩) dX10_turn_31 rfl rfl rfl rfl rfl ?_
  have hb4 := mj_sets_le' (C 27 0) (by omega)
  refine gj_icmp_geN (tgt := 93) (by omega) (by omega) dX10_turn_34 rfl (fun zq5 => ?_) (fun zq5 => ?_)
  · exfalso; omega
  have ht9 := @sp_turn_or (C 29) (C 27 0) (sp_yess (C 28) (C 29) (C 30) (fun c => sp_bear (C 22 c) (C 23 c)) (C 25 ((C 20 0) % 7)) (C 27 0)) j
  refine gj_iload_n dX10_turn_37 rfl ?_
  refine gj_iconst (v := (-1)) dX10_turn_38 (by decide) ?_
  refine gj_top (y := nI 4294967295) (by decide) ?_
  refine gj_icmp_eqW (tgt := 54) (by omega) (by omega) dX10_turn_39 rfl (fun zq6 => ?_) (fun zq6 => ?_)
  · -- 39 taken
    refine gj_ic (w := 1) dX10_turn_54 ?_
    refine gj_goto (tgt := 59) dX10_turn_55 rfl ?_
    refine gj_istore (L' := [some (.ref 0), some (.int (nI (sp_yess (C 28) (C 29) (C 30) (fun c => sp_bear (C 22 c) (C 23 c)) (C 25 ((C 20 0) % 7)) (C 27 0)))), some (.int (mj_b (sp_car (C 29) (C 27 0) (sp_yess (C 28) (C 29) (C 30) (fun c => sp_bear (C 22 c) (C 23 c)) (C 25 ((C 20 0) % 7)) (C 27 0))))), some (.int (nI (sp_turn (C 29) (C 27 0) (sp_yess (C 28) (C 29) (C 30) (fun c => sp_bear (C 22 c) (C 23 c)) (C 25 ((C 20 0) % 7)) (C 27 0)) j))), some (.int (nI j)), some (.int (nI 1))]) dX10_turn_59 (Nat.le_of_ble_eq_true rfl) rfl ?_
    refine gj_iload dX10_turn_61 rfl ?_
    refine gj_if_eqN (tgt := 87) (by omega) dX10_turn_63 rfl (fun zq0 => ?_) (fun zq0 => ?_)
    · exfalso; revert zq0; decide
    refine gj_aload_n dX10_turn_66 rfl ?_
    refine gfX10_10 rfl dX10_turn_67 (hc0 κ C) rfl ?_
    refine gfX10_73 rfl dX10_turn_70 (hc20 κ C) rfl ?_
    refine gj_iload_n dX10_turn_73 rfl ?_
    refine gj_iload dX10_turn_74 rfl ?_
    refine gj_ixorN  dX10_turn_76 ?_
    refine gj_V1 lkX10_242 (hc27 κ C) rfl rfl (ev_X7_carried ⟨(hc27 κ C), (hc28 κ C), (hc29 κ C), (hc30 κ C), (by omega), (show ∀ c, C 28 c ≤ 5 from I.1 8 (by decide)), (show ∀ c, C 29 c ≤ 99 from I.1 9 (by decide)), (show ∀ c, C 30 c ≤ 24 from I.1 10 (by decide))⟩ (Nat.xor_lt_two_pow (n := 7) hY (by omega))) dX10_turn_77 rfl rfl rfl rfl rfl ?_
    refine gj_iload_n dX10_turn_80 rfl ?_
    refine gj_icmp_eq (tgt := 87) dX10_turn_81 rfl (fun zq7 => ?_) (fun zq7 => ?_)
    · -- 81 taken
      have hw8 := mj_b_inj.mp zq7
      refine gj_iincN (L' := [some (.ref 0), some (.int (nI (sp_yess (C 28) (C 29) (C 30) (fun c => sp_bear (C 22 c) (C 23 c)) (C 25 ((C 20 0) % 7)) (C 27 0)))), some (.int (mj_b (sp_car (C 29) (C 27 0) (sp_yess (C 28) (C 29) (C 30) (fun c => sp_bear (C 22 c) (C 23 c)) (C 25 ((C 20 0) % 7)) (C 27 0))))), some (.int (nI (sp_turn (C 29) (C 27 0) (sp_yess (C 28) (C 29) (C 30) (fun c => sp_bear (C 22 c) (C 23 c)) (C 25 ((C 20 0) % 7)) (C 27 0)) j))), some (.int (nI (j + 1))), some (.int (nI 1))]) dX10_turn_87 rfl (Nat.le_of_ble_eq_true rfl) rfl ?_
      refine gj_goto (tgt := 22) dX10_turn_90 rfl ?_
      refine gj_forget (i := 5) (L' := [some (.ref 0), some (.int (nI (sp_yess (C 28) (C 29) (C 30) (fun c => sp_bear (C 22 c) (C 23 c)) (C 25 ((C 20 0) % 7)) (C 27 0)))), some (.int (mj_b (sp_car (C 29) (C 27 0) (sp_yess (C 28) (C 29) (C 30) (fun c => sp_bear (C 22 c) (C 23 c)) (C 25 ((C 20 0) % 7)) (C 27 0))))), some (.int (nI (sp_turn (C 29) (C 27 0) (sp_yess (C 28) (C 29) (C 30) (fun c => sp_bear (C 22 c) (C 23 c)) (C 25 ((C 20 0) % 7)) (C 27 0)) j))), some (.int (nI (j + 1))), none]) rfl ?_
      exact gj_cast (by rw [sp_turn_s]; unfold sp_tst; first | rw [if_pos (by omega), if_pos hw8] | rw [if_pos (by omega), if_neg hw8] | rw [if_neg (by omega)]) rfl rfl ih
    have hw8 := fun q => zq7 (mj_b_inj.mpr q)
    refine gj_iload dX10_turn_84 rfl ?_
    refine gj_istore_n (L' := [some (.ref 0), some (.int (nI (sp_yess (C 28) (C 29) (C 30) (fun c => sp_bear (C 22 c) (C 23 c)) (C 25 ((C 20 0) % 7)) (C 27 0)))), some (.int (mj_b (sp_car (C 29) (C 27 0) (sp_yess (C 28) (C 29) (C 30) (fun c => sp_bear (C 22 c) (C 23 c)) (C 25 ((C 20 0) % 7)) (C 27 0))))), some (.int (nI j)), some (.int (nI j)), some (.int (nI 1))]) dX10_turn_86 (Nat.le_of_ble_eq_true rfl) rfl ?_
    refine gj_iincN (L' := [some (.ref 0), some (.int (nI (sp_yess (C 28) (C 29) (C 30) (fun c => sp_bear (C 22 c) (C 23 c)) (C 25 ((C 20 0) % 7)) (C 27 0)))), some (.int (mj_b (sp_car (C 29) (C 27 0) (sp_yess (C 28) (C 29) (C 30) (fun c => sp_bear (C 22 c) (C 23 c)) (C 25 ((C 20 0) % 7)) (C 27 0))))), some (.int (nI j)), some (.int (nI (j + 1))), some (.int (nI 1))]) dX10_turn_87 rfl (Nat.le_of_ble_eq_true rfl) rfl ?_
    refine gj_goto (tgt := 22) dX10_turn_90 rfl ?_
    refine gj_forget (i := 5) (L' := [some (.ref 0), some (.int (nI (sp_yess (C 28) (C 29) (C 30) (fun c => sp_bear (C 22 c) (C 23 c)) (C 25 ((C 20 0) % 7)) (C 27 0)))), some (.int (mj_b (sp_car (C 29) (C 27 0) (sp_yess (C 28) (C 29) (C 30) (fun c => sp_bear (C 22 c) (C 23 c)) (C 25 ((C 20 0) % 7)) (C 27 0))))), some (.int (nI j)), some (.int (nI (j + 1))), none]) rfl ?_
    exact gj_cast (by rw [sp_turn_s]; unfold sp_tst; first | rw [if_pos (by omega), if_pos hw8] | rw [if_pos (by omega), if_neg hw8] | rw [if_neg (by omega)]) rfl rfl ih
  refine gj_iload dX10_turn_42 rfl ?_
  refine gj_S1 lkX10_255 (ev_J6_bitCount_0f7a4 (by omega)) dX10_turn_44 rfl rfl rfl rfl rfl ?_
  have hb8 := @sp_pop_le j
  refine gj_iload_n dX10_turn_47 rfl ?_
  refine gj_S1 lkX10_255 (ev_J6_bitCount_0f7a4 (by omega)) dX10_turn_48 rfl rfl rfl rfl rfl ?_
  have hb9 := @sp_pop_le (sp_turn (C 29) (C 27 0) (sp_yess (C 28) (C 29) (C 30) (fun c => sp_bear (C 22 c) (C 23 c)) (C 25 ((C 20 0) % 7)) (C 27 0)) j)
  refine gj_icmp_geN (tgt := 58) (by omega) (by omega) dX10_turn_51 rfl (fun zq10 => ?_) (fun zq10 => ?_)
  · -- 51 taken
    refine gj_ic (w := 0) dX10_turn_58 ?_
    refine gj_istore (L' := [some (.ref 0), some (.int (nI (sp_yess (C 28) (C 29) (C 30) (fun c => sp_bear (C 22 c) (C 23 c)) (C 25 ((C 20 0) % 7)) (C 27 0)))), some (.int (mj_b (sp_car (C 29) (C 27 0) (sp_yess (C 28) (C 29) (C 30) (fun c => sp_bear (C 22 c) (C 23 c)) (C 25 ((C 20 0) % 7)) (C 27 0))))), some (.int (nI (sp_turn (C 29) (C 27 0) (sp_yess (C 28) (C 29) (C 30) (fun c => sp_bear (C 22 c) (C 23 c)) (C 25 ((C 20 0) % 7)) (C 27 0)) j))), some (.int (nI j)), some (.int (nI 0))]) dX10_turn_59 (Nat.le_of_ble_eq_true rfl) rfl ?_
    refine gj_iload dX10_turn_61 rfl ?_
    refine gj_if_eqN (tgt := 87) (by omega) dX10_turn_63 rfl (fun zq0 => ?_) (fun zq0 => ?_)
    rotate_left
    · exfalso; revert zq0; decide
    refine gj_iincN (L' := [some (.ref 0), some (.int (nI (sp_yess (C 28) (C 29) (C 30) (fun c => sp_bear (C 22 c) (C 23 c)) (C 25 ((C 20 0) % 7)) (C 27 0)))), some (.int (mj_b (sp_car (C 29) (C 27 0) (sp_yess (C 28) (C 29) (C 30) (fun c => sp_bear (C 22 c) (C 23 c)) (C 25 ((C 20 0) % 7)) (C 27 0))))), some (.int (nI (sp_turn (C 29) (C 27 0) (sp_yess (C 28) (C 29) (C 30) (fun c => sp_bear (C 22 c) (C 23 c)) (C 25 ((C 20 0) % 7)) (C 27 0)) j))), some (.int (nI (j + 1))), some (.int (nI 0))]) dX10_turn_87 rfl (Nat.le_of_ble_eq_true rfl) rfl ?_
    refine gj_goto (tgt := 22) dX10_turn_90 rfl ?_
    refine gj_forget (i := 5) (L' := [some (.ref 0), some (.int (nI (sp_yess (C 28) (C 29) (C 30) (fun c => sp_bear (C 22 c) (C 23 c)) (C 25 ((C 20 0) % 7)) (C 27 0)))), some (.int (mj_b (sp_car (C 29) (C 27 0) (sp_yess (C 28) (C 29) (C 30) (fun c => sp_bear (C 22 c) (C 23 c)) (C 25 ((C 20 0) % 7)) (C 27 0))))), some (.int (nI (sp_turn (C 29) (C 27 0) (sp_yess (C 28) (C 29) (C 30) (fun c => sp_bear (C 22 c) (C 23 c)) (C 25 ((C 20 0) % 7)) (C 27 0)) j))), some (.int (nI (j + 1))), none]) rfl ?_
    exact gj_cast (by rw [sp_turn_s]; unfold sp_tst; first | rw [if_pos (by omega), if_pos hw8] | rw [if_pos (by omega), if_neg hw8] | rw [if_neg (by omega)]) rfl rfl ih
  refine gj_ic (w := 1) dX10_turn_54 ?_
  refine gj_goto (tgt := 59) dX10_turn_55 rfl ?_
  refine gj_istore (L' := [some (.ref 0), some (.int (nI (sp_yess (C 28) (C 29) (C 30) (fun c => sp_bear (C 22 c) (C 23 c)) (C 25 ((C 20 0) % 7)) (C 27 0)))), some (.int (mj_b (sp_car (C 29) (C 27 0) (sp_yess (C 28) (C 29) (C 30) (fun c => sp_bear (C 22 c) (C 23 c)) (C 25 ((C 20 0) % 7)) (C 27 0))))), some (.int (nI (sp_turn (C 29) (C 27 0) (sp_yess (C 28) (C 29) (C 30) (fun c => sp_bear (C 22 c) (C 23 c)) (C 25 ((C 20 0) % 7)) (C 27 0)) j))), some (.int (nI j)), some (.int (nI 1))]) dX10_turn_59 (Nat.le_of_ble_eq_true rfl) rfl ?_
  refine gj_iload dX10_turn_61 rfl ?_
  refine gj_if_eqN (tgt := 87) (by omega) dX10_turn_63 rfl (fun zq0 => ?_) (fun zq0 => ?_)
  · exfalso; revert zq0; decide
  refine gj_aload_n dX10_turn_66 rfl ?_
  refine gfX10_10 rfl dX10_turn_67 (hc0 κ C) rfl ?_
  refine gfX10_73 rfl dX10_turn_70 (hc20 κ C) rfl ?_
  refine gj_iload_n dX10_turn_73 rfl ?_
  refine gj_iload dX10_turn_74 rfl ?_
  refine gj_ixorN  dX10_turn_76 ?_
  refine gj_V1 lkX10_242 (hc27 κ C) rfl rfl (ev_X7_carried ⟨(hc27 κ C), (hc28 κ C), (hc29 κ C), (hc30 κ C), (by omega), (show ∀ c, C 28 c ≤ 5 from I.1 8 (by decide)), (show ∀ c, C 29 c ≤ 99 from I.1 9 (by decide)), (show ∀ c, C 30 c ≤ 24 from I.1 10 (by decide))⟩ (Nat.xor_lt_two_pow (n := 7) hY (by omega))) dX10_turn_77 rfl rfl rfl rfl rfl ?_
  refine gj_iload_n dX10_turn_80 rfl ?_
  refine gj_icmp_eq (tgt := 87) dX10_turn_81 rfl (fun zq11 => ?_) (fun zq11 => ?_)
  · -- 81 taken
    have hw8 := mj_b_inj.mp zq11
    refine gj_iincN (L' := [some (.ref 0), some (.int (nI (sp_yess (C 28) (C 29) (C 30) (fun c => sp_bear (C 22 c) (C 23 c)) (C 25 ((C 20 0) % 7)) (C 27 0)))), some (.int (mj_b (sp_car (C 29) (C 27 0) (sp_yess (C 28) (C 29) (C 30) (fun c => sp_bear (C 22 c) (C 23 c)) (C 25 ((C 20 0) % 7)) (C 27 0))))), some (.int (nI (sp_turn (C 29) (C 27 0) (sp_yess (C 28) (C 29) (C 30) (fun c => sp_bear (C 22 c) (C 23 c)) (C 25 ((C 20 0) % 7)) (C 27 0)) j))), some (.int (nI (j + 1))), some (.int (nI 1))]) dX10_turn_87 rfl (Nat.le_of_ble_eq_true rfl) rfl ?_
    refine gj_goto (tgt := 22) dX10_turn_90 rfl ?_
    refine gj_forget (i := 5) (L' := [some (.ref 0), some (.int (nI (sp_yess (C 28) (C 29) (C 30) (fun c => sp_bear (C 22 c) (C 23 c)) (C 25 ((C 20 0) % 7)) (C 27 0)))), some (.int (mj_b (sp_car (C 29) (C 27 0) (sp_yess (C 28) (C 29) (C 30) (fun c => sp_bear (C 22 c) (C 23 c)) (C 25 ((C 20 0) % 7)) (C 27 0))))), some (.int (nI (sp_turn (C 29) (C 27 0) (sp_yess (C 28) (C 29) (C 30) (fun c => sp_bear (C 22 c) (C 23 c)) (C 25 ((C 20 0) % 7)) (C 27 0)) j))), some (.int (nI (j + 1))), none]) rfl ?_
    exact gj_cast (by rw [sp_turn_s]; unfold sp_tst; first | rw [if_pos (by omega), if_pos hw8] | rw [if_pos (by omega), if_neg hw8] | rw [if_neg (by omega)]) rfl rfl ih
  have hw8 := fun q => zq11 (mj_b_inj.mpr q)
  refine gj_iload dX10_turn_84 rfl ?_
  refine gj_istore_n (L' := [some (.ref 0), some (.int (nI (sp_yess (C 28) (C 29) (C 30) (fun c => sp_bear (C 22 c) (C 23 c)) (C 25 ((C 20 0) % 7)) (C 27 0)))), some (.int (mj_b (sp_car (C 29) (C 27 0) (sp_yess (C 28) (C 29) (C 30) (fun c => sp_bear (C 22 c) (C 23 c)) (C 25 ((C 20 0) % 7)) (C 27 0))))), some (.int (nI j)), some (.int (nI j)), some (.int (nI 1))]) dX10_turn_86 (Nat.le_of_ble_eq_true rfl) rfl ?_
  refine gj_iincN (L' := [some (.ref 0), some (.int (nI (sp_yess (C 28) (C 29) (C 30) (fun c => sp_bear (C 22 c) (C 23 c)) (C 25 ((C 20 0) % 7)) (C 27 0)))), some (.int (mj_b (sp_car (C 29) (C 27 0) (sp_yess (C 28) (C 29) (C 30) (fun c => sp_bear (C 22 c) (C 23 c)) (C 25 ((C 20 0) % 7)) (C 27 0))))), some (.int (nI j)), some (.int (nI (j + 1))), some (.int (nI 1))]) dX10_turn_87 rfl (Nat.le_of_ble_eq_true rfl) rfl ?_
  refine gj_goto (tgt := 22) dX10_turn_90 rfl ?_
  refine gj_forget (i := 5) (L' := [some (.ref 0), some (.int (nI (sp_yess (C 28) (C 29) (C 30) (fun c => sp_bear (C 22 c) (C 23 c)) (C 25 ((C 20 0) % 7)) (C 27 0)))), some (.int (mj_b (sp_car (C 29) (C 27 0) (sp_yess (C 28) (C 29) (C 30) (fun c => sp_bear (C 22 c) (C 23 c)) (C 25 ((C 20 0) % 7)) (C 27 0))))), some (.int (nI j)), some (.int (nI (j + 1))), none]) rfl ?_
  exact gj_cast (by rw [sp_turn_s]; unfold sp_tst; first | rw [if_pos (by omega), if_pos hw8] | rw [if_pos (by omega), if_neg hw8] | rw [if_neg (by omega)]) rfl rfl ih
set_option maxHeartbeats 1000000 in
set_option maxRecDepth 10000 in
theorem ev_X10_seen_0 {E : mj_E} {κ : Nat → Bool} {C : Nat → Nat → Nat} (I : mj_CI κ C) {x : Nat} (h0 : x < 1 <<< (C 27 0)) : mj_Ev E iX10_seen [.ref 0, .int (nI x), .int (nI 0)] (hh κ C) (mj_R (some (.int (nI (sp_snc (sp_sn (C 29) (C 27 0) (sp_hvy (C 29) (C 30) (fun c => sp_bear (C 22 c) (C 23 c)) (C 27 0)) x) (1 <<< (C 27 0)))))) (hh κ C)) := by
  have hl0 : C 20 0 ≤ 999 := I.1 0 (by decide) 0
  have hl7 : C 27 0 ≤ 7 := I.1 7 (by decide) 0
  have hl11 : C 31 0 ≤ 6 := I.1 11 (by decide) 0
  have hl13 : C 33 0 ≤ 6 := I.1 13 (by decide) 0
  have hl15 : C 35 0 ≤ 8 := I.1 15 (by decide) 0
  have hl7x : C 7 0 ≤ 150 := I.2.2.2.2.2.2.1
  have hZ := mj_sets_le hl7
  refine mj_Ev.of (L0 := [some (.ref 0), some (.int (nI x)), some (.int (nI 0)), none, none, none, none, none]) pnRX10 (Nat.le_of_ble_eq_true rfl) rfl ?_
  refine gj_iload_n dX10_seen_0 rfl ?_
  refine gj_ic (w := 0) dX10_seen_1 ?_
  refine gj_aload_n dX10_seen_2 rfl ?_
  refine gfX10_10 rfl dX10_seen_3 (hc0 κ C) rfl ?_
  refine gfX10_73 rfl dX10_seen_6 (hc20 κ C) rfl ?_
  refine gj_V1 lkX10_252 (hc27 κ C) rfl rfl (ev_X7_sets ⟨(hc27 κ C), (hc28 κ C), (hc29 κ C), (hc30 κ C), (by omega), (show ∀ c, C 28 c ≤ 5 from I.1 8 (by decide)), (show ∀ c, C 29 c ≤ 99 from I.1 9 (by decide)), (show ∀ c, C 30 c ≤ 24 from I.1 10 (by decide))⟩) dX10_seen_9 rfl rfl rfl rfl rfl ?_
  have hb1 := mj_sets_le' (C 27 0) (by omega)
  refine gj_ic (w := 1) dX10_seen_12 ?_
  refine gj_isubN (by omega) dX10_seen_13 ?_
  refine gj_S1 lkX10_65 (ev_X10_within_t (by omega) (by omega) (by omega)) dX10_seen_14 rfl rfl rfl rfl rfl ?_
  refine gj_if_eqN (tgt := 29) (by omega) dX10_seen_17 rfl (fun zq0 => ?_) (fun zq0 => ?_)
  · exfalso; revert zq0; decide
  refine gj_iload_n dX10_seen_20 rfl ?_
  refine gj_ic (w := 0) dX10_seen_21 ?_
  refine gj_ic (w := 2) dX10_seen_22 ?_
  refine gj_S1 lkX10_65 (ev_X10_within_t (by omega) (by omega) (by omega)) dX10_seen_23 rfl rfl rfl rfl rfl ?_
  refine gj_if_neN (tgt := 34) (by omega) dX10_seen_26 rfl (fun zq0 => ?_) (fun zq0 => ?_)
  rotate_left
  · exfalso; revert zq0; decide
  refine gj_aload_n dX10_seen_34 rfl ?_
  refine gfX10_10 rfl dX10_seen_35 (hc0 κ C) rfl ?_
  refine gfX10_73 rfl dX10_seen_38 (hc20 κ C) rfl ?_
  refine gj_aload_n dX10_seen_41 rfl ?_
  refine gfX10_10 rfl dX10_seen_42 (hc0 κ C) rfl ?_
  refine gfX10_91 rfl dX10_seen_45 (hc20 κ C) rfl ?_
  refine gj_V1 lkX10_260 (hc27 κ C) rfl rfl (ev_X7_heavy ⟨(hc27 κ C), (hc28 κ C), (hc29 κ C), (hc30 κ C), (by omega), (show ∀ c, C 28 c ≤ 5 from I.1 8 (by decide)), (show ∀ c, C 29 c ≤ 99 from I.1 9 (by decide)), (show ∀ c, C 30 c ≤ 24 from I.1 10 (by decide))⟩ ⟨(hc21 κ C), (hc22 κ C), (hc23 κ C), (by decide), (show ∀ c, C 22 c ≤ 5 from I.1 2 (by decide)), (show ∀ c, C 23 c ≤ 99 from I.1 3 (by decide))⟩) dX10_seen_48 rfl rfl rfl rfl rfl ?_
  have hb2 := @sp_hvy_lt (C 29) (C 30) (fun c => sp_bear (C 22 c) (C 23 c)) (C 27 0) (by omega)
  refine gj_istore_n (L' := [some (.ref 0), some (.int (nI x)), some (.int (nI 0)), some (.int (nI (sp_hvy (C 29) (C 30) (fun c => sp_bear (C 22 c) (C 23 c)) (C 27 0)))), none, none, none, none]) dX10_seen_51 (Nat.le_of_ble_eq_true rfl) rfl ?_
  refine gj_ic (w := 0) dX10_seen_52 ?_
  refine gj_istore (L' := [some (.ref 0), some (.int (nI x)), some (.int (nI 0)), some (.int (nI (sp_hvy (C 29) (C 30) (fun c => sp_bear (C 22 c) (C 23 c)) (C 27 0)))), some (.int (nI 0)), none, none, none]) dX10_seen_53 (Nat.le_of_ble_eq_true rfl) rfl ?_
  refine gj_iconst (v := (-1)) dX10_seen_55 (by decide) ?_
  refine gj_top (y := nI 4294967295) (by decide) ?_
  refine gj_istore (L' := [some (.ref 0), some (.int (nI x)), some (.int (nI 0)), some (.int (nI (sp_hvy (C 29) (C 30) (fun c => sp_bear (C 22 c) (C 23 c)) (C 27 0)))), some (.int (nI 0)), some (.int (nI 4294967295)), none, none]) dX10_seen_56 (Nat.le_of_ble_eq_true rfl) rfl ?_
  refine gj_ic (w := 0) dX10_seen_58 ?_
  refine gj_istore (L' := [some (.ref 0), some (.int (nI x)), some (.int (nI 0)), some (.int (nI (sp_hvy (C 29) (C 30) (fun c => sp_bear (C 22 c) (C 23 c)) (C 27 0)))), some (.int (nI 0)), some (.int (nI 4294967295)), some (.int (nI 0)), none]) dX10_seen_59 (Nat.le_of_ble_eq_true rfl) rfl ?_
  refine gj_ic (w := 0) dX10_seen_61 ?_
  refine gj_istore (L' := [some (.ref 0), some (.int (nI x)), some (.int (nI 0)), some (.int (nI (sp_hvy (C 29) (C 30) (fun c => sp_bear (C 22 c) (C 23 c)) (C 27 0)))), some (.int (nI 0)), some (.int (nI 4294967295)), some (.int (nI 0)), some (.int (nI 0))]) dX10_seen_62 (Nat.le_of_ble_eq_true rfl) rfl ?_
  refine gj_cast (L' := [some (.ref 0), some (.int (nI x)), some (.int (nI 0)), some (.int (nI (sp_hvy (C 29) (C 30) (fun c => sp_bear (C 22 c) (C 23 c)) (C 27 0)))), some (.int (nI (sp_snc (sp_sn (C 29) (C 27 0) (sp_hvy (C 29) (C 30) (fun c => sp_bear (C 22 c) (C 23 c)) (C 27 0)) x) 0))), some (.int (nI (sp_sna (sp_sn (C 29) (C 27 0) (sp_hvy (C 29) (C 30) (fun c => sp_bear (C 22 c) (C 23 c)) (C 27 0)) x) 0))), some (.int (nI (sp_sns (sp_sn (C 29) (C 27 0) (sp_hvy (C 29) (C 30) (fun c => sp_bear (C 22 c) (C 23 c)) (C 27 0)) x) 0))), some (.int (nI 0))]) (st' := []) (h' := (hh κ C)) rfl rfl rfl ?_
  refine gj_loop (fun j => [some (.ref 0), some (.int (nI x)), some (.int (nI 0)), some (.int (nI (sp_hvy (C 29) (C 30) (fun c => sp_bear (C 22 c) (C 23 c)) (C 27 0)))), some (.int (nI (sp_snc (sp_sn (C 29) (C 27 0) (sp_hvy (C 29) (C 30) (fun c => sp_bear (C 22 c) (C 23 c)) (C 27 0)) x) j))), some (.int (nI (sp_sna (sp_sn (C 29) (C 27 0) (sp_hvy (C 29) (C 30) (fun c => sp_bear (C 22 c) (C 23 c)) (C 27 0)) x) j))), some (.int (nI (sp_sns (sp_sn (C 29) (C 27 0) (sp_hvy (C 29) (C 30) (fun c => sp_bear (C 22 c) (C 23 c)) (C 27 0)) x) j))), some (.int (nI j))]) (fun j => (hh κ C)) (1 <<< (C 27 0)) ?_ (fun j hj ih => ?_) 0 (by omega)
  · show gj _ _ _ _ _ _ [some (.ref 0), some (.int (nI x)), some (.int (nI 0)), some (.int (nI (sp_hvy (C 29) (C 30) (fun c => sp_bear (C 22 c) (C 23 c)) (C 27 0)))), some (.int (nI (sp_snc (sp_sn (C 29) (C 27 0) (sp_hvy (C 29) (C 30) (fun c => sp_bear (C 22 c) (C 23 c)) (C 27 0)) x) (1 <<< (C 27 0))))), some (.int (nI (sp_sna (sp_sn (C 29) (C 27 0) (sp_hvy (C 29) (C 30) (fun c => sp_bear (C 22 c) (C 23 c)) (C 27 0)) x) (1 <<< (C 27 0))))), some (.int (nI (sp_sns (sp_sn (C 29) (C 27 0) (sp_hvy (C 29) (C 30) (fun c => sp_bear (C 22 c) (C 23 c)) (C 27 0)) x) (1 <<< (C 27 0))))), some (.int (nI (1 <<< (C 27 0))))] _ _
    refine gj_iload dX10_seen_64 rfl ?_
    refine gj_aload_n dX10_seen_66 rfl ?_
    refine gfX10_10 rfl dX10_seen_67 (hc0 κ C) rfl ?_
    refine gfX10_73 rfl dX10_seen_70 (hc20 κ C) rfl ?_
    refine gj_V1 lkX10_252 (hc27 κ C) rfl rfl (ev_X7_sets ⟨(hc27 κ C), (hc28 κ C), (hc29 κ C), (hc30 κ C), (by omega), (show ∀ c, C 28 c ≤ 5 from I.1 8 (by decide)), (show ∀ c, C 29 c ≤ 99 from I.1 9 (by decide)), (show ∀ c, C 30 c ≤ 24 from I.1 10 (by decide))⟩) dX10_seen_73 rfl rfl rfl rfl rfl ?_
    have hb3 := mj_sets_le' (C 27 0) (by omega)
    refine gj_icmp_geN (tgt := 125) (by omega) (by omega) dX10_seen_76 rfl (fun zq4 => ?_) (fun zq4 => ?_)
    rotate_left
    · exfalso; omega
    refine gj_iload_n dX10_seen_125 rfl ?_
    refine gj_lkp (a := 0) (tgt := 152) (by decide) dX10_seen_126 (by decide) rfl rfl ?_
    refine gj_iload dX10_seen_152 rfl ?_
    exact gj_ir rfl dX10_seen_154 rfl rfl rfl
  show gj _ _ _ _ _ _ [some (.ref 0), some (.int (nI x)), some (.int (nI 0)), some (.int (nI (sp_hvy (C 29) (C 30) (fun c => sp_bear (C 22 c) (C 23 c)) (C 27 0)))), some (.int (nI (sp_snc (sp_sn (C 29) (C 27 0) (sp_hvy (C 29) (C 30) (fun c => sp_bear (C 22 c) (C 23 c)) (C 27 0)) x) j))), some (.int (nI (sp_sna (sp_sn (C 29) (C 27 0) (sp_hvy (C 29) (C 30) (fun c => sp_bear (C 22 c) (C 23 c)) (C 27 0)) x) j))), some (.int (nI (sp_sns (sp_sn (C 29) (C 27 0) (sp_hvy (C 29) (C 30) (fun c => sp_bear (C 22 c) (C 23 c)) (C 27 0)) x) j))), some (.int (nI j))] _ _
  refine gj_iload dX10_seen_64 rfl ?_
  refine gj_aload_n dX10_seen_66 rfl ?_
  refine gfX10_10 rfl dX10_seen_67 (hc0 κ C) rfl ?_
  refine gfX10_73 rfl dX10_seen_70 (hc20 κ C) rfl ?_
  refine gj_V1 lkX10_252 (hc27 κ C) rfl rfl (ev_X7_sets ⟨(hc27 κ C), (hc28 κ C), (hc29 κ C), (hc30 κ C), (by omega), (show ∀ c, C 28 c ≤ 5 from I.1 8 (by decide)), (show ∀ c, C 29 c ≤ 99 from I.1 9 (by decide)), (show ∀ c, C 30 c ≤ 24 from I.1 10 (by decide))⟩) dX10_seen_73 rfl rfl rfl rfl rfl ?_
  have hb5 := mj_sets_le' (C 27 0) (by omega)
  refine gj_icmp_geN (tgt := 125) (by omega) (by omega) dX10_seen_76 rfl (fun zq6 => ?_) (fun zq6 => ?_)
  · exfalso; omega
  refine gj_iload dX10_seen_79 rfl ?_
  refine gj_iload_n dX10_seen_81 rfl ?_
  refine gj_iandN  dX10_seen_82 ?_
  refine gj_iload_n dX10_seen_83 rfl ?_
  refine gj_icmp_neN (tgt := 119) (Nat.lt_of_le_of_lt Nat.and_le_left (by omega)) (by omega) dX10_seen_84 rfl (fun zq7 => ?_) (fun zq7 => ?_)
  · -- 84 taken
    have hP9 : (sp_sn (C 29) (C 27 0) (sp_hvy (C 29) (C 30) (fun c => sp_bear (C 22 c) (C 23 c)) (C 27 0)) x) j = false := by unfold sp_sn; rw [decide_eq_false zq7, Bool.false_and]
    refine gj_iincN (L' := [some (.ref 0), some (.int (nI x)), some (.int (nI 0)), some (.int (nI (sp_hvy (C 29) (C 30) (fun c => sp_bear (C 22 c) (C 23 c)) (C 27 0)))), some (.int (nI (sp_snc (sp_sn (C 29) (C 27 0) (sp_hvy (C 29) (C 30) (fun c => sp_bear (C 22 c) (C 23 c)) (C 27 0)) x) j))), some (.int (nI (sp_sna (sp_sn (C 29) (C 27 0) (sp_hvy (C 29) (C 30) (fun c => sp_bear (C 22 c) (C 23 c)) (C 27 0)) x) j))), some (.int (nI (sp_sns (sp_sn (C 29) (C 27 0) (sp_hvy (C 29) (C 30) (fun c => sp_bear (C 22 c) (C 23 c)) (C 27 0)) x) j))), some (.int (nI (j + 1)))]) dX10_seen_119 rfl (Nat.le_of_ble_eq_true rfl) rfl ?_
    refine gj_goto (tgt := 64) dX10_seen_122 rfl ?_
    exact gj_cast (by first | rw [sp_snc_t hP9, sp_sna_t hP9, sp_sns_t hP9] | rw [sp_snc_f hP9, sp_sna_f hP9, sp_sns_f hP9]) rfl rfl ih
  have he9 := zq7
  refine gj_aload_n dX10_seen_87 rfl ?_
  refine gfX10_10 rfl dX10_seen_88 (hc0 κ C) rfl ?_
  refine gfX10_73 rfl dX10_seen_91 (hc20 κ C) rfl ?_
  refine gj_iload dX10_seen_94 rfl ?_
  refine gj_V1 lkX10_242 (hc27 κ C) rfl rfl (ev_X7_carried ⟨(hc27 κ C), (hc28 κ C), (hc29 κ C), (hc30 κ C), (by omega), (show ∀ c, C 28 c ≤ 5 from I.1 8 (by decide)), (show ∀ c, C 29 c ≤ 99 from I.1 9 (by decide)), (show ∀ c, C 30 c ≤ 24 from I.1 10 (by decide))⟩ (by omega)) dX10_seen_96 rfl rfl rfl rfl rfl ?_
  refine gj_if_eqb (tgt := 119) dX10_seen_99 rfl (fun zq8 => ?_) (fun zq8 => ?_)
  · -- 99 taken
    have hP9 : (sp_sn (C 29) (C 27 0) (sp_hvy (C 29) (C 30) (fun c => sp_bear (C 22 c) (C 23 c)) (C 27 0)) x) j = false := by unfold sp_sn; rw [zq8, Bool.and_false]
    refine gj_iincN (L' := [some (.ref 0), some (.int (nI x)), some (.int (nI 0)), some (.int (nI (sp_hvy (C 29) (C 30) (fun c => sp_bear (C 22 c) (C 23 c)) (C 27 0)))), some (.int (nI (sp_snc (sp_sn (C 29) (C 27 0) (sp_hvy (C 29) (C 30) (fun c => sp_bear (C 22 c) (C 23 c)) (C 27 0)) x) j))), some (.int (nI (sp_sna (sp_sn (C 29) (C 27 0) (sp_hvy (C 29) (C 30) (fun c => sp_bear (C 22 c) (C 23 c)) (C 27 0)) x) j))), some (.int (nI (sp_sns (sp_sn (C 29) (C 27 0) (sp_hvy (C 29) (C 30) (fun c => sp_bear (C 22 c) (C 23 c)) (C 27 0)) x) j))), some (.int (nI (j + 1)))]) dX10_seen_119 rfl (Nat.le_of_ble_eq_true rfl) rfl ?_
    refine gj_goto (tgt := 64) dX10_seen_122 rfl ?_
    exact gj_cast (by first | rw [sp_snc_t hP9, sp_sna_t hP9, sp_sns_t hP9] | rw [sp_snc_f hP9, sp_sna_f hP9, sp_sns_f hP9]) rfl rfl ih
  have hP9 : (sp_sn (C 29) (C 27 0) (sp_hvy (C 29) (C 30) (fun c => sp_bear (C 22 c) (C 23 c)) (C 27 0)) x) j = true := by unfold sp_sn; rw [decide_eq_true he9, zq8]; rfl
  refine gj_iincN (L' := [some (.ref 0), some (.int (nI x)), some (.int (nI 0)), some (.int (nI (sp_hvy (C 29) (C 30) (fun c => sp_bear (C 22 c) (C 23 c)) (C 27 0)))), some (.int (nI ((sp_snc (sp_sn (C 29) (C 27 0) (sp_hvy (C 29) (C 30) (fun c => sp_bear (C 22 c) (C 23 c)) (C 27 0)) x) j) + 1))), some (.int (nI (sp_sna (sp_sn (C 29) (C 27 0) (sp_hvy (C 29) (C 30) (fun c => sp_bear (C 22 c) (C 23 c)) (C 27 0)) x) j))), some (.int (nI (sp_sns (sp_sn (C 29) (C 27 0) (sp_hvy (C 29) (C 30) (fun c => sp_bear (C 22 c) (C 23 c)) (C 27 0)) x) j))), some (.int (nI j))]) dX10_seen_102 rfl (Nat.le_of_ble_eq_true rfl) rfl ?_
  refine gj_iload dX10_seen_105 rfl ?_
  refine gj_iload dX10_seen_107 rfl ?_
  refine gj_iandN  dX10_seen_109 ?_
  refine gj_istore (L' := [some (.ref 0), some (.int (nI x)), some (.int (nI 0)), some (.int (nI (sp_hvy (C 29) (C 30) (fun c => sp_bear (C 22 c) (C 23 c)) (C 27 0)))), some (.int (nI ((sp_snc (sp_sn (C 29) (C 27 0) (sp_hvy (C 29) (C 30) (fun c => sp_bear (C 22 c) (C 23 c)) (C 27 0)) x) j) + 1))), some (.int (nI ((sp_sna (sp_sn (C 29) (C 27 0) (sp_hvy (C 29) (C 30) (fun c => sp_bear (C 22 c) (C 23 c)) (C 27 0)) x) j) &&& j))), some (.int (nI (sp_sns (sp_sn (C 29) (C 27 0) (sp_hvy (C 29) (C 30) (fun c => sp_bear (C 22 c) (C 23 c)) (C 27 0)) x) j))), some (.int (nI j))]) dX10_seen_110 (Nat.le_of_ble_eq_true rfl) rfl ?_
  refine gj_iload dX10_seen_112 rfl ?_
  refine gj_iload dX10_seen_114 rfl ?_
  refine gj_iorN  dX10_seen_116 ?_
  refine gj_istore (L' := [some (.ref 0), some (.int (nI x)), some (.int (nI 0)), some (.int (nI (sp_hvy (C 29) (C 30) (fun c => sp_bear (C 22 c) (C 23 c)) (C 27 0)))), some (.int (nI ((sp_snc (sp_sn (C 29) (C 27 0) (sp_hvy (C 29) (C 30) (fun c => sp_bear (C 22 c) (C 23 c)) (C 27 0)) x) j) + 1))), some (.int (nI ((sp_sna (sp_sn (C 29) (C 27 0) (sp_hvy (C 29) (C 30) (fun c => sp_bear (C 22 c) (C 23 c)) (C 27 0)) x) j) &&& j))), some (.int (nI ((sp_sns (sp_sn (C 29) (C 27 0) (sp_hvy (C 29) (C 30) (fun c => sp_bear (C 22 c) (C 23 c)) (C 27 0)) x) j) ||| j))), some (.int (nI j))]) dX10_seen_117 (Nat.le_of_ble_eq_true rfl) rfl ?_
  refine gj_iincN (L' := [some (.ref 0), some (.int (nI x)), some (.int (nI 0)), some (.int (nI (sp_hvy (C 29) (C 30) (fun c => sp_bear (C 22 c) (C 23 c)) (C 27 0)))), some (.int (nI ((sp_snc (sp_sn (C 29) (C 27 0) (sp_hvy (C 29) (C 30) (fun c => sp_bear (C 22 c) (C 23 c)) (C 27 0)) x) j) + 1))), some (.int (nI ((sp_sna (sp_sn (C 29) (C 27 0) (sp_hvy (C 29) (C 30) (fun c => sp_bear (C 22 c) (C 23 c)) (C 27 0)) x) j) &&& j))), some (.int (nI ((sp_sns (sp_sn (C 29) (C 27 0) (sp_hvy (C 29) (C 30) (fun c => sp_bear (C 22 c) (C 23 c)) (C 27 0)) x) j) ||| j))), some (.int (nI (j + 1)))]) dX10_seen_119 rfl (Nat.le_of_ble_eq_true rfl) rfl ?_
  refine gj_goto (tgt := 64) dX10_seen_122 rfl ?_
  exact gj_cast (by first | rw [sp_snc_t hP9, sp_sna_t hP9, sp_sns_t hP9] | rw [sp_snc_f hP9, sp_sna_f hP9, sp_sns_f hP9]) rfl rfl ih
set_option maxHeartbeats 1000000 in
set_option maxRecDepth 10000 in
theorem ev_X10_seen_1 {E : mj_E} {κ : Nat → Bool} {C : Nat → Nat → Nat} (I : mj_CI κ C) {x : Nat} (h0 : x < 1 <<< (C 27 0)) : mj_Ev E iX10_seen [.ref 0, .int (nI x), .int (nI 1)] (hh κ C) (mj_R (some (.int (nI (sp_sna (sp_sn (C 29) (C 27 0) (sp_hvy (C 29) (C 30) (fun c => sp_bear (C 22 c) (C 23 c)) (C 27 0)) x) (1 <<< (C 27 0)))))) (hh κ C)) := by
  have hl0 : C 20 0 ≤ 999 := I.1 0 (by decide) 0
  have hl7 : C 27 0 ≤ 7 := I.1 7 (by decide) 0
  have hl11 : C 31 0 ≤ 6 := I.1 11 (by decide) 0
  have hl13 : C 33 0 ≤ 6 := I.1 13 (by decide) 0
  have hl15 : C 35 0 ≤ 8 := I.1 15 (by decide) 0
  have hl7x : C 7 0 ≤ 150 := I.2.2.2.2.2.2.1
  have hZ := mj_sets_le hl7
  refine mj_Ev.of (L0 := [some (.ref 0), some (.int (nI x)), some (.int (nI 1)), none, none, none, none, none]) pnRX10 (Nat.le_of_ble_eq_true rfl) rfl ?_
  refine gj_iload_n dX10_seen_0 rfl ?_
  refine gj_ic (w := 0) dX10_seen_1 ?_
  refine gj_aload_n dX10_seen_2 rfl ?_
  refine gfX10_10 rfl dX10_seen_3 (hc0 κ C) rfl ?_
  refine gfX10_73 rfl dX10_seen_6 (hc20 κ C) rfl ?_
  refine gj_V1 lkX10_252 (hc27 κ C) rfl rfl (ev_X7_sets ⟨(hc27 κ C), (hc28 κ C), (hc29 κ C), (hc30 κ C), (by omega), (show ∀ c, C 28 c ≤ 5 from I.1 8 (by decide)), (show ∀ c, C 29 c ≤ 99 from I.1 9 (by decide)), (show ∀ c, C 30 c ≤ 24 from I.1 10 (by decide))⟩) dX10_seen_9 rfl rfl rfl rfl rfl ?_
  have hb1 := mj_sets_le' (C 27 0) (by omega)
  refine gj_ic (w := 1) dX10_seen_12 ?_
  refine gj_isubN (by omega) dX10_seen_13 ?_
  refine gj_S1 lkX10_65 (ev_X10_within_t (by omega) (by omega) (by omega)) dX10_seen_14 rfl rfl rfl rfl rfl ?_
  refine gj_if_eqN (tgt := 29) (by omega) dX10_seen_17 rfl (fun zq0 => ?_) (fun zq0 => ?_)
  · exfalso; revert zq0; decide
  refine gj_iload_n dX10_seen_20 rfl ?_
  refine gj_ic (w := 0) dX10_seen_21 ?_
  refine gj_ic (w := 2) dX10_seen_22 ?_
  refine gj_S1 lkX10_65 (ev_X10_within_t (by omega) (by omega) (by omega)) dX10_seen_23 rfl rfl rfl rfl rfl ?_
  refine gj_if_neN (tgt := 34) (by omega) dX10_seen_26 rfl (fun zq0 => ?_) (fun zq0 => ?_)
  rotate_left
  · exfalso; revert zq0; decide
  refine gj_aload_n dX10_seen_34 rfl ?_
  refine gfX10_10 rfl dX10_seen_35 (hc0 κ C) rfl ?_
  refine gfX10_73 rfl dX10_seen_38 (hc20 κ C) rfl ?_
  refine gj_aload_n dX10_seen_41 rfl ?_
  refine gfX10_10 rfl dX10_seen_42 (hc0 κ C) rfl ?_
  refine gfX10_91 rfl dX10_seen_45 (hc20 κ C) rfl ?_
  refine gj_V1 lkX10_260 (hc27 κ C) rfl rfl (ev_X7_heavy ⟨(hc27 κ C), (hc28 κ C), (hc29 κ C), (hc30 κ C), (by omega), (show ∀ c, C 28 c ≤ 5 from I.1 8 (by decide)), (show ∀ c, C 29 c ≤ 99 from I.1 9 (by decide)), (show ∀ c, C 30 c ≤ 24 from I.1 10 (by decide))⟩ ⟨(hc21 κ C), (hc22 κ C), (hc23 κ C), (by decide), (show ∀ c, C 22 c ≤ 5 from I.1 2 (by decide)), (show ∀ c, C 23 c ≤ 99 from I.1 3 (by decide))⟩) dX10_seen_48 rfl rfl rfl rfl rfl ?_
  have hb2 := @sp_hvy_lt (C 29) (C 30) (fun c => sp_bear (C 22 c) (C 23 c)) (C 27 0) (by omega)
  refine gj_istore_n (L' := [some (.ref 0), some (.int (nI x)), some (.int (nI 1)), some (.int (nI (sp_hvy (C 29) (C 30) (fun c => sp_bear (C 22 c) (C 23 c)) (C 27 0)))), none, none, none, none]) dX10_seen_51 (Nat.le_of_ble_eq_true rfl) rfl ?_
  refine gj_ic (w := 0) dX10_seen_52 ?_
  refine gj_istore (L' := [some (.ref 0), some (.int (nI x)), some (.int (nI 1)), some (.int (nI (sp_hvy (C 29) (C 30) (fun c => sp_bear (C 22 c) (C 23 c)) (C 27 0)))), some (.int (nI 0)), none, none, none]) dX10_seen_53 (Nat.le_of_ble_eq_true rfl) rfl ?_
  refine gj_iconst (v := (-1)) dX10_seen_55 (by decide) ?_
  refine gj_top (y := nI 4294967295) (by decide) ?_
  refine gj_istore (L' := [some (.ref 0), some (.int (nI x)), some (.int (nI 1)), some (.int (nI (sp_hvy (C 29) (C 30) (fun c => sp_bear (C 22 c) (C 23 c)) (C 27 0)))), some (.int (nI 0)), some (.int (nI 4294967295)), none, none]) dX10_seen_56 (Nat.le_of_ble_eq_true rfl) rfl ?_
  refine gj_ic (w := 0) dX10_seen_58 ?_
  refine gj_istore (L' := [some (.ref 0), some (.int (nI x)), some (.int (nI 1)), some (.int (nI (sp_hvy (C 29) (C 30) (fun c => sp_bear (C 22 c) (C 23 c)) (C 27 0)))), some (.int (nI 0)), some (.int (nI 4294967295)), some (.int (nI 0)), none]) dX10_seen_59 (Nat.le_of_ble_eq_true rfl) rfl ?_
  refine gj_ic (w := 0) dX10_seen_61 ?_
  refine gj_istore (L' := [some (.ref 0), some (.int (nI x)), some (.int (nI 1)), some (.int (nI (sp_hvy (C 29) (C 30) (fun c => sp_bear (C 22 c) (C 23 c)) (C 27 0)))), some (.int (nI 0)), some (.int (nI 4294967295)), some (.int (nI 0)), some (.int (nI 0))]) dX10_seen_62 (Nat.le_of_ble_eq_true rfl) rfl ?_
  refine gj_cast (L' := [some (.ref 0), some (.int (nI x)), some (.int (nI 1)), some (.int (nI (sp_hvy (C 29) (C 30) (fun c => sp_bear (C 22 c) (C 23 c)) (C 27 0)))), some (.int (nI (sp_snc (sp_sn (C 29) (C 27 0) (sp_hvy (C 29) (C 30) (fun c => sp_bear (C 22 c) (C 23 c)) (C 27 0)) x) 0))), some (.int (nI (sp_sna (sp_sn (C 29) (C 27 0) (sp_hvy (C 29) (C 30) (fun c => sp_bear (C 22 c) (C 23 c)) (C 27 0)) x) 0))), some (.int (nI (sp_sns (sp_sn (C 29) (C 27 0) (sp_hvy (C 29) (C 30) (fun c => sp_bear (C 22 c) (C 23 c)) (C 27 0)) x) 0))), some (.int (nI 0))]) (st' := []) (h' := (hh κ C)) rfl rfl rfl ?_
  refine gj_loop (fun j => [some (.ref 0), some (.int (nI x)), some (.int (nI 1)), some (.int (nI (sp_hvy (C 29) (C 30) (fun c => sp_bear (C 22 c) (C 23 c)) (C 27 0)))), some (.int (nI (sp_snc (sp_sn (C 29) (C 27 0) (sp_hvy (C 29) (C 30) (fun c => sp_bear (C 22 c) (C 23 c)) (C 27 0)) x) j))), some (.int (nI (sp_sna (sp_sn (C 29) (C 27 0) (sp_hvy (C 29) (C 30) (fun c => sp_bear (C 22 c) (C 23 c)) (C 27 0)) x) j))), some (.int (nI (sp_sns (sp_sn (C 29) (C 27 0) (sp_hvy (C 29) (C 30) (fun c => sp_bear (C 22 c) (C 23 c)) (C 27 0)) x) j))), some (.int (nI j))]) (fun j => (hh κ C)) (1 <<< (C 27 0)) ?_ (fun j hj ih => ?_) 0 (by omega)
  · show gj _ _ _ _ _ _ [some (.ref 0), some (.int (nI x)), some (.int (nI 1)), some (.int (nI (sp_hvy (C 29) (C 30) (fun c => sp_bear (C 22 c) (C 23 c)) (C 27 0)))), some (.int (nI (sp_snc (sp_sn (C 29) (C 27 0) (sp_hvy (C 29) (C 30) (fun c => sp_bear (C 22 c) (C 23 c)) (C 27 0)) x) (1 <<< (C 27 0))))), some (.int (nI (sp_sna (sp_sn (C 29) (C 27 0) (sp_hvy (C 29) (C 30) (fun c => sp_bear (C 22 c) (C 23 c)) (C 27 0)) x) (1 <<< (C 27 0))))), some (.int (nI (sp_sns (sp_sn (C 29) (C 27 0) (sp_hvy (C 29) (C 30) (fun c => sp_bear (C 22 c) (C 23 c)) (C 27 0)) x) (1 <<< (C 27 0))))), some (.int (nI (1 <<< (C 27 0))))] _ _
    refine gj_iload dX10_seen_64 rfl ?_
    refine gj_aload_n dX10_seen_66 rfl ?_
    refine gfX10_10 rfl dX10_seen_67 (hc0 κ C) rfl ?_
    refine gfX10_73 rfl dX10_seen_70 (hc20 κ C) rfl ?_
    refine gj_V1 lkX10_252 (hc27 κ C) rfl rfl (ev_X7_sets ⟨(hc27 κ C), (hc28 κ C), (hc29 κ C), (hc30 κ C), (by omega), (show ∀ c, C 28 c ≤ 5 from I.1 8 (by decide)), (show ∀ c, C 29 c ≤ 99 from I.1 9 (by decide)), (show ∀ c, C 30 c ≤ 24 from I.1 10 (by decide))⟩) dX10_seen_73 rfl rfl rfl rfl rfl ?_
    have hb3 := mj_sets_le' (C 27 0) (by omega)
    refine gj_icmp_geN (tgt := 125) (by omega) (by omega) dX10_seen_76 rfl (fun zq4 => ?_) (fun zq4 => ?_)
    rotate_left
    · exfalso; omega
    refine gj_iload_n dX10_seen_125 rfl ?_
    refine gj_lkp (a := 1) (tgt := 155) (by decide) dX10_seen_126 (by decide) rfl rfl ?_
    refine gj_iload dX10_seen_155 rfl ?_
    exact gj_ir rfl dX10_seen_157 rfl rfl rfl
  show gj _ _ _ _ _ _ [some (.ref 0), some (.int (nI x)), some (.int (nI 1)), some (.int (nI (sp_hvy (C 29) (C 30) (fun c => sp_bear (C 22 c) (C 23 c)) (C 27 0)))), some (.int (nI (sp_snc (sp_sn (C 29) (C 27 0) (sp_hvy (C 29) (C 30) (fun c => sp_bear (C 22 c) (C 23 c)) (C 27 0)) x) j))), some (.int (nI (sp_sna (sp_sn (C 29) (C 27 0) (sp_hvy (C 29) (C 30) (fun c => sp_bear (C 22 c) (C 23 c)) (C 27 0)) x) j))), some (.int (nI (sp_sns (sp_sn (C 29) (C 27 0) (sp_hvy (C 29) (C 30) (fun c => sp_bear (C 22 c) (C 23 c)) (C 27 0)) x) j))), some (.int (nI j))] _ _
  refine gj_iload dX10_seen_64 rfl ?_
  refine gj_aload_n dX10_seen_66 rfl ?_
  refine gfX10_10 rfl dX10_seen_67 (hc0 κ C) rfl ?_
  refine gfX10_73 rfl dX10_seen_70 (hc20 κ C) rfl ?_
  refine gj_V1 lkX10_252 (hc27 κ C) rfl rfl (ev_X7_sets ⟨(hc27 κ C), (hc28 κ C), (hc29 κ C), (hc30 κ C), (by omega), (show ∀ c, C 28 c ≤ 5 from I.1 8 (by decide)), (show ∀ c, C 29 c ≤ 99 from I.1 9 (by decide)), (show ∀ c, C 30 c ≤ 24 from I.1 10 (by decide))⟩) dX10_seen_73 rfl rfl rfl rfl rfl ?_
  have hb5 := mj_sets_le' (C 27 0) (by omega)
  refine gj_icmp_geN (tgt := 125) (by omega) (by omega) dX10_seen_76 rfl (fun zq6 => ?_) (fun zq6 => ?_)
  · exfalso; omega
  refine gj_iload dX10_seen_79 rfl ?_
  refine gj_iload_n dX10_seen_81 rfl ?_
  refine gj_iandN  dX10_seen_82 ?_
  refine gj_iload_n dX10_seen_83 rfl ?_
  refine gj_icmp_neN (tgt := 119) (Nat.lt_of_le_of_lt Nat.and_le_left (by omega)) (by omega) dX10_seen_84 rfl (fun zq7 => ?_) (fun zq7 => ?_)
  · -- 84 taken
    have hP9 : (sp_sn (C 29) (C 27 0) (sp_hvy (C 29) (C 30) (fun c => sp_bear (C 22 c) (C 23 c)) (C 27 0)) x) j = false := by unfold sp_sn; rw [decide_eq_false zq7, Bool.false_and]
    refine gj_iincN (L' := [some (.ref 0), some (.int (nI x)), some (.int (nI 1)), some (.int (nI (sp_hvy (C 29) (C 30) (fun c => sp_bear (C 22 c) (C 23 c)) (C 27 0)))), some (.int (nI (sp_snc (sp_sn (C 29) (C 27 0) (sp_hvy (C 29) (C 30) (fun c => sp_bear (C 22 c) (C 23 c)) (C 27 0)) x) j))), some (.int (nI (sp_sna (sp_sn (C 29) (C 27 0) (sp_hvy (C 29) (C 30) (fun c => sp_bear (C 22 c) (C 23 c)) (C 27 0)) x) j))), some (.int (nI (sp_sns (sp_sn (C 29) (C 27 0) (sp_hvy (C 29) (C 30) (fun c => sp_bear (C 22 c) (C 23 c)) (C 27 0)) x) j))), some (.int (nI (j + 1)))]) dX10_seen_119 rfl (Nat.le_of_ble_eq_true rfl) rfl ?_
    refine gj_goto (tgt := 64) dX10_seen_122 rfl ?_
    exact gj_cast (by first | rw [sp_snc_t hP9, sp_sna_t hP9, sp_sns_t hP9] | rw [sp_snc_f hP9, sp_sna_f hP9, sp_sns_f hP9]) rfl rfl ih
  have he9 := zq7
  refine gj_aload_n dX10_seen_87 rfl ?_
  refine gfX10_10 rfl dX10_seen_88 (hc0 κ C) rfl ?_
  refine gfX10_73 rfl dX10_seen_91 (hc20 κ C) rfl ?_
  refine gj_iload dX10_seen_94 rfl ?_
  refine gj_V1 lkX10_242 (hc27 κ C) rfl rfl (ev_X7_carried ⟨(hc27 κ C), (hc28 κ C), (hc29 κ C), (hc30 κ C), (by omega), (show ∀ c, C 28 c ≤ 5 from I.1 8 (by decide)), (show ∀ c, C 29 c ≤ 99 from I.1 9 (by decide)), (show ∀ c, C 30 c ≤ 24 from I.1 10 (by decide))⟩ (by omega)) dX10_seen_96 rfl rfl rfl rfl rfl ?_
  refine gj_if_eqb (tgt := 119) dX10_seen_99 rfl (fun zq8 => ?_) (fun zq8 => ?_)
  · -- 99 taken
    have hP9 : (sp_sn (C 29) (C 27 0) (sp_hvy (C 29) (C 30) (fun c => sp_bear (C 22 c) (C 23 c)) (C 27 0)) x) j = false := by unfold sp_sn; rw [zq8, Bool.and_false]
    refine gj_iincN (L' := [some (.ref 0), some (.int (nI x)), some (.int (nI 1)), some (.int (nI (sp_hvy (C 29) (C 30) (fun c => sp_bear (C 22 c) (C 23 c)) (C 27 0)))), some (.int (nI (sp_snc (sp_sn (C 29) (C 27 0) (sp_hvy (C 29) (C 30) (fun c => sp_bear (C 22 c) (C 23 c)) (C 27 0)) x) j))), some (.int (nI (sp_sna (sp_sn (C 29) (C 27 0) (sp_hvy (C 29) (C 30) (fun c => sp_bear (C 22 c) (C 23 c)) (C 27 0)) x) j))), some (.int (nI (sp_sns (sp_sn (C 29) (C 27 0) (sp_hvy (C 29) (C 30) (fun c => sp_bear (C 22 c) (C 23 c)) (C 27 0)) x) j))), some (.int (nI (j + 1)))]) dX10_seen_119 rfl (Nat.le_of_ble_eq_true rfl) rfl ?_
    refine gj_goto (tgt := 64) dX10_seen_122 rfl ?_
    exact gj_cast (by first | rw [sp_snc_t hP9, sp_sna_t hP9, sp_sns_t hP9] | rw [sp_snc_f hP9, sp_sna_f hP9, sp_sns_f hP9]) rfl rfl ih
  have hP9 : (sp_sn (C 29) (C 27 0) (sp_hvy (C 29) (C 30) (fun c => sp_bear (C 22 c) (C 23 c)) (C 27 0)) x) j = true := by unfold sp_sn; rw [decide_eq_true he9, zq8]; rfl
  refine gj_iincN (L' := [some (.ref 0), some (.int (nI x)), some (.int (nI 1)), some (.int (nI (sp_hvy (C 29) (C 30) (fun c => sp_bear (C 22 c) (C 23 c)) (C 27 0)))), some (.int (nI ((sp_snc (sp_sn (C 29) (C 27 0) (sp_hvy (C 29) (C 30) (fun c => sp_bear (C 22 c) (C 23 c)) (C 27 0)) x) j) + 1))), some (.int (nI (sp_sna (sp_sn (C 29) (C 27 0) (sp_hvy (C 29) (C 30) (fun c => sp_bear (C 22 c) (C 23 c)) (C 27 0)) x) j))), some (.int (nI (sp_sns (sp_sn (C 29) (C 27 0) (sp_hvy (C 29) (C 30) (fun c => sp_bear (C 22 c) (C 23 c)) (C 27 0)) x) j))), some (.int (nI j))]) dX10_seen_102 rfl (Nat.le_of_ble_eq_true rfl) rfl ?_
  refine gj_iload dX10_seen_105 rfl ?_
  refine gj_iload dX10_seen_107 rfl ?_
  refine gj_iandN  dX10_seen_109 ?_
  refine gj_istore (L' := [some (.ref 0), some (.int (nI x)), some (.int (nI 1)), some (.int (nI (sp_hvy (C 29) (C 30) (fun c => sp_bear (C 22 c) (C 23 c)) (C 27 0)))), some (.int (nI ((sp_snc (sp_sn (C 29) (C 27 0) (sp_hvy (C 29) (C 30) (fun c => sp_bear (C 22 c) (C 23 c)) (C 27 0)) x) j) + 1))), some (.int (nI ((sp_sna (sp_sn (C 29) (C 27 0) (sp_hvy (C 29) (C 30) (fun c => sp_bear (C 22 c) (C 23 c)) (C 27 0)) x) j) &&& j))), some (.int (nI (sp_sns (sp_sn (C 29) (C 27 0) (sp_hvy (C 29) (C 30) (fun c => sp_bear (C 22 c) (C 23 c)) (C 27 0)) x) j))), some (.int (nI j))]) dX10_seen_110 (Nat.le_of_ble_eq_true rfl) rfl ?_
  refine gj_iload dX10_seen_112 rfl ?_
  refine gj_iload dX10_seen_114 rfl ?_
  refine gj_iorN  dX10_seen_116 ?_
  refine gj_istore (L' := [some (.ref 0), some (.int (nI x)), some (.int (nI 1)), some (.int (nI (sp_hvy (C 29) (C 30) (fun c => sp_bear (C 22 c) (C 23 c)) (C 27 0)))), some (.int (nI ((sp_snc (sp_sn (C 29) (C 27 0) (sp_hvy (C 29) (C 30) (fun c => sp_bear (C 22 c) (C 23 c)) (C 27 0)) x) j) + 1))), some (.int (nI ((sp_sna (sp_sn (C 29) (C 27 0) (sp_hvy (C 29) (C 30) (fun c => sp_bear (C 22 c) (C 23 c)) (C 27 0)) x) j) &&& j))), some (.int (nI ((sp_sns (sp_sn (C 29) (C 27 0) (sp_hvy (C 29) (C 30) (fun c => sp_bear (C 22 c) (C 23 c)) (C 27 0)) x) j) ||| j))), some (.int (nI j))]) dX10_seen_117 (Nat.le_of_ble_eq_true rfl) rfl ?_
  refine gj_iincN (L' := [some (.ref 0), some (.int (nI x)), some (.int (nI 1)), some (.int (nI (sp_hvy (C 29) (C 30) (fun c => sp_bear (C 22 c) (C 23 c)) (C 27 0)))), some (.int (nI ((sp_snc (sp_sn (C 29) (C 27 0) (sp_hvy (C 29) (C 30) (fun c => sp_bear (C 22 c) (C 23 c)) (C 27 0)) x) j) + 1))), some (.int (nI ((sp_sna (sp_sn (C 29) (C 27 0) (sp_hvy (C 29) (C 30) (fun c => sp_bear (C 22 c) (C 23 c)) (C 27 0)) x) j) &&& j))), some (.int (nI ((sp_sns (sp_sn (C 29) (C 27 0) (sp_hvy (C 29) (C 30) (fun c => sp_bear (C 22 c) (C 23 c)) (C 27 0)) x) j) ||| j))), some (.int (nI (j + 1)))]) dX10_seen_119 rfl (Nat.le_of_ble_eq_true rfl) rfl ?_
  refine gj_goto (tgt := 64) dX10_seen_122 rfl ?_
  exact gj_cast (by first | rw [sp_snc_t hP9, sp_sna_t hP9, sp_sns_t hP9] | rw [sp_snc_f hP9, sp_sna_f hP9, sp_sns_f hP9]) rfl rfl ih
set_option maxHeartbeats 1000000 in
set_option maxRecDepth 10000 in
theorem ev_X10_seen_2 {E : mj_E} {κ : Nat → Bool} {C : Nat → Nat → Nat} (I : mj_CI κ C) {x : Nat} (h0 : x < 1 <<< (C 27 0)) : mj_Ev E iX10_seen [.ref 0, .int (nI x), .int (nI 2)] (hh κ C) (mj_R (some (.int (nI (sp_sns (sp_sn (C 29) (C 27 0) (sp_hvy (C 29) (C 30) (fun c => sp_bear (C 22 c) (C 23 c)) (C 27 0)) x) (1 <<< (C 27 0)))))) (hh κ C)) := by
  have hl0 : C 20 0 ≤ 999 := I.1 0 (by decide) 0
  have hl7 : C 27 0 ≤ 7 := I.1 7 (by decide) 0
  have hl11 : C 31 0 ≤ 6 := I.1 11 (by decide) 0
  have hl13 : C 33 0 ≤ 6 := I.1 13 (by decide) 0
  have hl15 : C 35 0 ≤ 8 := I.1 15 (by decide) 0
  have hl7x : C 7 0 ≤ 150 := I.2.2.2.2.2.2.1
  have hZ := mj_sets_le hl7
  refine mj_Ev.of (L0 := [some (.ref 0), some (.int (nI x)), some (.int (nI 2)), none, none, none, none, none]) pnRX10 (Nat.le_of_ble_eq_true rfl) rfl ?_
  refine gj_iload_n dX10_seen_0 rfl ?_
  refine gj_ic (w := 0) dX10_seen_1 ?_
  refine gj_aload_n dX10_seen_2 rfl ?_
  refine gfX10_10 rfl dX10_seen_3 (hc0 κ C) rfl ?_
  refine gfX10_73 rfl dX10_seen_6 (hc20 κ C) rfl ?_
  refine gj_V1 lkX10_252 (hc27 κ C) rfl rfl (ev_X7_sets ⟨(hc27 κ C), (hc28 κ C), (hc29 κ C), (hc30 κ C), (by omega), (show ∀ c, C 28 c ≤ 5 from I.1 8 (by decide)), (show ∀ c, C 29 c ≤ 99 from I.1 9 (by decide)), (show ∀ c, C 30 c ≤ 24 from I.1 10 (by decide))⟩) dX10_seen_9 rfl rfl rfl rfl rfl ?_
  have hb1 := mj_sets_le' (C 27 0) (by omega)
  refine gj_ic (w := 1) dX10_seen_12 ?_
  refine gj_isubN (by omega) dX10_seen_13 ?_
  refine gj_S1 lkX10_65 (ev_X10_within_t (by omega) (by omega) (by omega)) dX10_seen_14 rfl rfl rfl rfl rfl ?_
  refine gj_if_eqN (tgt := 29) (by omega) dX10_seen_17 rfl (fun zq0 => ?_) (fun zq0 => ?_)
  · exfalso; revert zq0; decide
  refine gj_iload_n dX10_seen_20 rfl ?_
  refine gj_ic (w := 0) dX10_seen_21 ?_
  refine gj_ic (w := 2) dX10_seen_22 ?_
  refine gj_S1 lkX10_65 (ev_X10_within_t (by omega) (by omega) (by omega)) dX10_seen_23 rfl rfl rfl rfl rfl ?_
  refine gj_if_neN (tgt := 34) (by omega) dX10_seen_26 rfl (fun zq0 => ?_) (fun zq0 => ?_)
  rotate_left
  · exfalso; revert zq0; decide
  refine gj_aload_n dX10_seen_34 rfl ?_
  refine gfX10_10 rfl dX10_seen_35 (hc0 κ C) rfl ?_
  refine gfX10_73 rfl dX10_seen_38 (hc20 κ C) rfl ?_
  refine gj_aload_n dX10_seen_41 rfl ?_
  refine gfX10_10 rfl dX10_seen_42 (hc0 κ C) rfl ?_
  refine gfX10_91 rfl dX10_seen_45 (hc20 κ C) rfl ?_
  refine gj_V1 lkX10_260 (hc27 κ C) rfl rfl (ev_X7_heavy ⟨(hc27 κ C), (hc28 κ C), (hc29 κ C), (hc30 κ C), (by omega), (show ∀ c, C 28 c ≤ 5 from I.1 8 (by decide)), (show ∀ c, C 29 c ≤ 99 from I.1 9 (by decide)), (show ∀ c, C 30 c ≤ 24 from I.1 10 (by decide))⟩ ⟨(hc21 κ C), (hc22 κ C), (hc23 κ C), (by decide), (show ∀ c, C 22 c ≤ 5 from I.1 2 (by decide)), (show ∀ c, C 23 c ≤ 99 from I.1 3 (by decide))⟩) dX10_seen_48 rfl rfl rfl rfl rfl ?_
  have hb2 := @sp_hvy_lt (C 29) (C 30) (fun c => sp_bear (C 22 c) (C 23 c)) (C 27 0) (by omega)
  refine gj_istore_n (L' := [some (.ref 0), some (.int (nI x)), some (.int (nI 2)), some (.int (nI (sp_hvy (C 29) (C 30) (fun c => sp_bear (C 22 c) (C 23 c)) (C 27 0)))), none, none, none, none]) dX10_seen_51 (Nat.le_of_ble_eq_true rfl) rfl ?_
  refine gj_ic (w := 0) dX10_seen_52 ?_
  refine gj_istore (L' := [some (.ref 0), some (.int (nI x)), some (.int (nI 2)), some (.int (nI (sp_hvy (C 29) (C 30) (fun c => sp_bear (C 22 c) (C 23 c)) (C 27 0)))), some (.int (nI 0)), none, none, none]) dX10_seen_53 (Nat.le_of_ble_eq_true rfl) rfl ?_
  refine gj_iconst (v := (-1)) dX10_seen_55 (by decide) ?_
  refine gj_top (y := nI 4294967295) (by decide) ?_
  refine gj_istore (L' := [some (.ref 0), some (.int (nI x)), some (.int (nI 2)), some (.int (nI (sp_hvy (C 29) (C 30) (fun c => sp_bear (C 22 c) (C 23 c)) (C 27 0)))), some (.int (nI 0)), some (.int (nI 4294967295)), none, none]) dX10_seen_56 (Nat.le_of_ble_eq_true rfl) rfl ?_
  refine gj_ic (w := 0) dX10_seen_58 ?_
  refine gj_istore (L' := [some (.ref 0), some (.int (nI x)), some (.int (nI 2)), some (.int (nI (sp_hvy (C 29) (C 30) (fun c => sp_bear (C 22 c) (C 23 c)) (C 27 0)))), some (.int (nI 0)), some (.int (nI 4294967295)), some (.int (nI 0)), none]) dX10_seen_59 (Nat.le_of_ble_eq_true rfl) rfl ?_
  refine gj_ic (w := 0) dX10_seen_61 ?_
  refine gj_istore (L' := [some (.ref 0), some (.int (nI x)), some (.int (nI 2)), some (.int (nI (sp_hvy (C 29) (C 30) (fun c => sp_bear (C 22 c) (C 23 c)) (C 27 0)))), some (.int (nI 0)), some (.int (nI 4294967295)), some (.int (nI 0)), some (.int (nI 0))]) dX10_seen_62 (Nat.le_of_ble_eq_true rfl) rfl ?_
  refine gj_cast (L' := [some (.ref 0), some (.int (nI x)), some (.int (nI 2)), some (.int (nI (sp_hvy (C 29) (C 30) (fun c => sp_bear (C 22 c) (C 23 c)) (C 27 0)))), some (.int (nI (sp_snc (sp_sn (C 29) (C 27 0) (sp_hvy (C 29) (C 30) (fun c => sp_bear (C 22 c) (C 23 c)) (C 27 0)) x) 0))), some (.int (nI (sp_sna (sp_sn (C 29) (C 27 0) (sp_hvy (C 29) (C 30) (fun c => sp_bear (C 22 c) (C 23 c)) (C 27 0)) x) 0))), some (.int (nI (sp_sns (sp_sn (C 29) (C 27 0) (sp_hvy (C 29) (C 30) (fun c => sp_bear (C 22 c) (C 23 c)) (C 27 0)) x) 0))), some (.int (nI 0))]) (st' := []) (h' := (hh κ C)) rfl rfl rfl ?_
  refine gj_loop (fun j => [some (.ref 0), some (.int (nI x)), some (.int (nI 2)), some (.int (nI (sp_hvy (C 29) (C 30) (fun c => sp_bear (C 22 c) (C 23 c)) (C 27 0)))), some (.int (nI (sp_snc (sp_sn (C 29) (C 27 0) (sp_hvy (C 29) (C 30) (fun c => sp_bear (C 22 c) (C 23 c)) (C 27 0)) x) j))), some (.int (nI (sp_sna (sp_sn (C 29) (C 27 0) (sp_hvy (C 29) (C 30) (fun c => sp_bear (C 22 c) (C 23 c)) (C 27 0)) x) j))), some (.int (nI (sp_sns (sp_sn (C 29) (C 27 0) (sp_hvy (C 29) (C 30) (fun c => sp_bear (C 22 c) (C 23 c)) (C 27 0)) x) j))), some (.int (nI j))]) (fun j => (hh κ C)) (1 <<< (C 27 0)) ?_ (fun j hj ih => ?_) 0 (by omega)
  · show gj _ _ _ _ _ _ [some (.ref 0), some (.int (nI x)), some (.int (nI 2)), some (.int (nI (sp_hvy (C 29) (C 30) (fun c => sp_bear (C 22 c) (C 23 c)) (C 27 0)))), some (.int (nI (sp_snc (sp_sn (C 29) (C 27 0) (sp_hvy (C 29) (C 30) (fun c => sp_bear (C 22 c) (C 23 c)) (C 27 0)) x) (1 <<< (C 27 0))))), some (.int (nI (sp_sna (sp_sn (C 29) (C 27 0) (sp_hvy (C 29) (C 30) (fun c => sp_bear (C 22 c) (C 23 c)) (C 27 0)) x) (1 <<< (C 27 0))))), some (.int (nI (sp_sns (sp_sn (C 29) (C 27 0) (sp_hvy (C 29) (C 30) (fun c => sp_bear (C 22 c) (C 23 c)) (C 27 0)) x) (1 <<< (C 27 0))))), some (.int (nI (1 <<< (C 27 0))))] _ _
    refine gj_iload dX10_seen_64 rfl ?_
    refine gj_aload_n dX10_seen_66 rfl ?_
    refine gfX10_10 rfl dX10_seen_67 (hc0 κ C) rfl ?_
    refine gfX10_73 rfl dX10_seen_70 (hc20 κ C) rfl ?_
    refine gj_V1 lkX10_252 (hc27 κ C) rfl rfl (ev_X7_sets ⟨(hc27 κ C), (hc28 κ C), (hc29 κ C), (hc30 κ C), (by omega), (show ∀ c, C 28 c ≤ 5 from I.1 8 (by decide)), (show ∀ c, C 29 c ≤ 99 from I.1 9 (by decide)), (show ∀ c, C 30 c ≤ 24 from I.1 10 (by decide))⟩) dX10_seen_73 rfl rfl rfl rfl rfl ?_
    have hb3 := mj_sets_le' (C 27 0) (by omega)
    refine gj_icmp_geN (tgt := 125) (by omega) (by omega) dX10_seen_76 rfl (fun zq4 => ?_) (fun zq4 => ?_)
    rotate_left
    · exfalso; omega
    refine gj_iload_n dX10_seen_125 rfl ?_
    refine gj_lkp (a := 2) (tgt := 158) (by decide) dX10_seen_126 (by decide) rfl rfl ?_
    refine gj_iload dX10_seen_158 rfl ?_
    exact gj_ir rfl dX10_seen_160 rfl rfl rfl
  show gj _ _ _ _ _ _ [some (.ref 0), some (.int (nI x)), some (.int (nI 2)), some (.int (nI (sp_hvy (C 29) (C 30) (fun c => sp_bear (C 22 c) (C 23 c)) (C 27 0)))), some (.int (nI (sp_snc (sp_sn (C 29) (C 27 0) (sp_hvy (C 29) (C 30) (fun c => sp_bear (C 22 c) (C 23 c)) (C 27 0)) x) j))), some (.int (nI (sp_sna (sp_sn (C 29) (C 27 0) (sp_hvy (C 29) (C 30) (fun c => sp_bear (C 22 c) (C 23 c)) (C 27 0)) x) j))), some (.int (nI (sp_sns (sp_sn (C 29) (C 27 0) (sp_hvy (C 29) (C 30) (fun c => sp_bear (C 22 c) (C 23 c)) (C 27 0)) x) j))), some (.int (nI j))] _ _
  refine gj_iload dX10_seen_64 rfl ?_
  refine gj_aload_n dX10_seen_66 rfl ?_
  refine gfX10_10 rfl dX10_seen_67 (hc0 κ C) rfl ?_
  refine gfX10_73 rfl dX10_seen_70 (hc20 κ C) rfl ?_
  refine gj_V1 lkX10_252 (hc27 κ C) rfl rfl (ev_X7_sets ⟨(hc27 κ C), (hc28 κ C), (hc29 κ C), (hc30 κ C), (by omega), (show ∀ c, C 28 c ≤ 5 from I.1 8 (by decide)), (show ∀ c, C 29 c ≤ 99 from I.1 9 (by decide)), (show ∀ c, C 30 c ≤ 24 from I.1 10 (by decide))⟩) dX10_seen_73 rfl rfl rfl rfl rfl ?_
  have hb5 := mj_sets_le' (C 27 0) (by omega)
  refine gj_icmp_geN (tgt := 125) (by omega) (by omega) dX10_seen_76 rfl (fun zq6 => ?_) (fun zq6 => ?_)
  · exfalso; omega
  refine gj_iload dX10_seen_79 rfl ?_
  refine gj_iload_n dX10_seen_81 rfl ?_
  refine gj_iandN  dX10_seen_82 ?_
  refine gj_iload_n dX10_seen_83 rfl ?_
  refine gj_icmp_neN (tgt := 119) (Nat.lt_of_le_of_lt Nat.and_le_left (by omega)) (by omega) dX10_seen_84 rfl (fun zq7 => ?_) (fun zq7 => ?_)
  · -- 84 taken
    have hP9 : (sp_sn (C 29) (C 27 0) (sp_hvy (C 29) (C 30) (fun c => sp_bear (C 22 c) (C 23 c)) (C 27 0)) x) j = false := by unfold sp_sn; rw [decide_eq_false zq7, Bool.false_and]
    refine gj_iincN (L' := [some (.ref 0), some (.int (nI x)), some (.int (nI 2)), some (.int (nI (sp_hvy (C 29) (C 30) (fun c => sp_bear (C 22 c) (C 23 c)) (C 27 0)))), some (.int (nI (sp_snc (sp_sn (C 29) (C 27 0) (sp_hvy (C 29) (C 30) (fun c => sp_bear (C 22 c) (C 23 c)) (C 27 0)) x) j))), some (.int (nI (sp_sna (sp_sn (C 29) (C 27 0) (sp_hvy (C 29) (C 30) (fun c => sp_bear (C 22 c) (C 23 c)) (C 27 0)) x) j))), some (.int (nI (sp_sns (sp_sn (C 29) (C 27 0) (sp_hvy (C 29) (C 30) (fun c => sp_bear (C 22 c) (C 23 c)) (C 27 0)) x) j))), some (.int (nI (j + 1)))]) dX10_seen_119 rfl (Nat.le_of_ble_eq_true rfl) rfl ?_
    refine gj_goto (tgt := 64) dX10_seen_122 rfl ?_
    exact gj_cast (by first | rw [sp_snc_t hP9, sp_sna_t hP9, sp_sns_t hP9] | rw [sp_snc_f hP9, sp_sna_f hP9, sp_sns_f hP9]) rfl rfl ih
  have he9 := zq7
  refine gj_aload_n dX10_seen_87 rfl ?_
  refine gfX10_10 rfl dX10_seen_88 (hc0 κ C) rfl ?_
  refine gfX10_73 rfl dX10_seen_91 (hc20 κ C) rfl ?_
  refine gj_iload dX10_seen_94 rfl ?_
  refine gj_V1 lkX10_242 (hc27 κ C) rfl rfl (ev_X7_carried ⟨(hc27 κ C), (hc28 κ C), (hc29 κ C), (hc30 κ C), (by omega), (show ∀ c, C 28 c ≤ 5 from I.1 8 (by decide)), (show ∀ c, C 29 c ≤ 99 from I.1 9 (by decide)), (show ∀ c, C 30 c ≤ 24 from I.1 10 (by decide))⟩ (by omega)) dX10_seen_96 rfl rfl rfl rfl rfl ?_
  refine gj_if_eqb (tgt := 119) dX10_seen_99 rfl (fun zq8 => ?_) (fun zq8 => ?_)
  · -- 99 taken
    have hP9 : (sp_sn (C 29) (C 27 0) (sp_hvy (C 29) (C 30) (fun c => sp_bear (C 22 c) (C 23 c)) (C 27 0)) x) j = false := by unfold sp_sn; rw [zq8, Bool.and_false]
    refine gj_iincN (L' := [some (.ref 0), some (.int (nI x)), some (.int (nI 2)), some (.int (nI (sp_hvy (C 29) (C 30) (fun c => sp_bear (C 22 c) (C 23 c)) (C 27 0)))), some (.int (nI (sp_snc (sp_sn (C 29) (C 27 0) (sp_hvy (C 29) (C 30) (fun c => sp_bear (C 22 c) (C 23 c)) (C 27 0)) x) j))), some (.int (nI (sp_sna (sp_sn (C 29) (C 27 0) (sp_hvy (C 29) (C 30) (fun c => sp_bear (C 22 c) (C 23 c)) (C 27 0)) x) j))), some (.int (nI (sp_sns (sp_sn (C 29) (C 27 0) (sp_hvy (C 29) (C 30) (fun c => sp_bear (C 22 c) (C 23 c)) (C 27 0)) x) j))), some (.int (nI (j + 1)))]) dX10_seen_119 rfl (Nat.le_of_ble_eq_true rfl) rfl ?_
    refine gj_goto (tgt := 64) dX10_seen_122 rfl ?_
    exact gj_cast (by first | rw [sp_snc_t hP9, sp_sna_t hP9, sp_sns_t hP9] | rw [sp_snc_f hP9, sp_sna_f hP9, sp_sns_f hP9]) rfl rfl ih
  have hP9 : (sp_sn (C 29) (C 27 0) (sp_hvy (C 29) (C 30) (fun c => sp_bear (C 22 c) (C 23 c)) (C 27 0)) x) j = true := by unfold sp_sn; rw [decide_eq_true he9, zq8]; rfl
  refine gj_iincN (L' := [some (.ref 0), some (.int (nI x)), some (.int (nI 2)), some (.int (nI (sp_hvy (C 29) (C 30) (fun c => sp_bear (C 22 c) (C 23 c)) (C 27 0)))), some (.int (nI ((sp_snc (sp_sn (C 29) (C 27 0) (sp_hvy (C 29) (C 30) (fun c => sp_bear (C 22 c) (C 23 c)) (C 27 0)) x) j) + 1))), some (.int (nI (sp_sna (sp_sn (C 29) (C 27 0) (sp_hvy (C 29) (C 30) (fun c => sp_bear (C 22 c) (C 23 c)) (C 27 0)) x) j))), some (.int (nI (sp_sns (sp_sn (C 29) (C 27 0) (sp_hvy (C 29) (C 30) (fun c => sp_bear (C 22 c) (C 23 c)) (C 27 0)) x) j))), some (.int (nI j))]) dX10_seen_102 rfl (Nat.le_of_ble_eq_true rfl) rfl ?_
  refine gj_iload dX10_seen_105 rfl ?_
  refine gj_iload dX10_seen_107 rfl ?_
  refine gj_iandN  dX10_seen_109 ?_
  refine gj_istore (L' := [some (.ref 0), some (.int (nI x)), some (.int (nI 2)), some (.int (nI (sp_hvy (C 29) (C 30) (fun c => sp_bear (C 22 c) (C 23 c)) (C 27 0)))), some (.int (nI ((sp_snc (sp_sn (C 29) (C 27 0) (sp_hvy (C 29) (C 30) (fun c => sp_bear (C 22 c) (C 23 c)) (C 27 0)) x) j) + 1))), some (.int (nI ((sp_sna (sp_sn (C 29) (C 27 0) (sp_hvy (C 29) (C 30) (fun c => sp_bear (C 22 c) (C 23 c)) (C 27 0)) x) j) &&& j))), some (.int (nI (sp_sns (sp_sn (C 29) (C 27 0) (sp_hvy (C 29) (C 30) (fun c => sp_bear (C 22 c) (C 23 c)) (C 27 0)) x) j))), some (.int (nI j))]) dX10_seen_110 (Nat.le_of_ble_eq_true rfl) rfl ?_
  refine gj_iload dX10_seen_112 rfl ?_
  refine gj_iload dX10_seen_114 rfl ?_
  refine gj_iorN  dX10_seen_116 ?_
  refine gj_istore (L' := [some (.ref 0), some (.int (nI x)), some (.int (nI 2)), some (.int (nI (sp_hvy (C 29) (C 30) (fun c => sp_bear (C 22 c) (C 23 c)) (C 27 0)))), some (.int (nI ((sp_snc (sp_sn (C 29) (C 27 0) (sp_hvy (C 29) (C 30) (fun c => sp_bear (C 22 c) (C 23 c)) (C 27 0)) x) j) + 1))), some (.int (nI ((sp_sna (sp_sn (C 29) (C 27 0) (sp_hvy (C 29) (C 30) (fun c => sp_bear (C 22 c) (C 23 c)) (C 27 0)) x) j) &&& j))), some (.int (nI ((sp_sns (sp_sn (C 29) (C 27 0) (sp_hvy (C 29) (C 30) (fun c => sp_bear (C 22 c) (C 23 c)) (C 27 0)) x) j) ||| j))), some (.int (nI j))]) dX10_seen_117 (Nat.le_of_ble_eq_true rfl) rfl ?_
  refine gj_iincN (L' := [some (.ref 0), some (.int (nI x)), some (.int (nI 2)), some (.int (nI (sp_hvy (C 29) (C 30) (fun c => sp_bear (C 22 c) (C 23 c)) (C 27 0)))), some (.int (nI ((sp_snc (sp_sn (C 29) (C 27 0) (sp_hvy (C 29) (C 30) (fun c => sp_bear (C 22 c) (C 23 c)) (C 27 0)) x) j) + 1))), some (.int (nI ((sp_sna (sp_sn (C 29) (C 27 0) (sp_hvy (C 29) (C 30) (fun c => sp_bear (C 22 c) (C 23 c)) (C 27 0)) x) j) &&& j))), some (.int (nI ((sp_sns (sp_sn (C 29) (C 27 0) (sp_hvy (C 29) (C 30) (fun c => sp_bear (C 22 c) (C 23 c)) (C 27 0)) x) j) ||| j))), some (.int (nI (j + 1)))]) dX10_seen_119 rfl (Nat.le_of_ble_eq_true rfl) rfl ?_
  refine gj_goto (tgt := 64) dX10_seen_122 rfl ?_
  exact gj_cast (by first | rw [sp_snc_t hP9, sp_sna_t hP9, sp_sns_t hP9] | rw [sp_snc_f hP9, sp_sna_f hP9, sp_sns_f hP9]) rfl rfl ih
set_option maxHeartbeats 1000000 in
set_option maxRecDepth 10000 in
theorem ev_X10_fitsNotes {E : mj_E} {κ : Nat → Bool} {C : Nat → Nat → Nat} (I : mj_CI κ C) {k c : Nat} (h0 : k ≤ 5) (h1 : c < 25) : mj_Ev E iX10_fitsNotes [.ref 0, .int (nI k), .int (nI c)] (hh κ C) (mj_R (some (.int (mj_b (sp_all (sp_np (C 32) c k) (C 31 0))))) (hh κ C)) := by
  have hl0 : C 20 0 ≤ 999 := I.1 0 (by decide) 0
  have hl7 : C 27 0 ≤ 7 := I.1 7 (by decide) 0
  have hl11 : C 31 0 ≤ 6 := I.1 11 (by decide) 0
  have hl13 : C 33 0 ≤ 6 := I.1 13 (by decide) 0
  have hl15 : C 35 0 ≤ 8 := I.1 15 (by decide) 0
  have hl7x : C 7 0 ≤ 150 := I.2.2.2.2.2.2.1
  refine mj_Ev.of (L0 := [some (.ref 0), some (.int (nI k)), some (.int (nI c)), none, none, none]) pnRX10 (Nat.le_of_ble_eq_true rfl) rfl ?_
  refine gj_aload_n dX10_fitsNotes_0 rfl ?_
  refine gfX10_10 rfl dX10_fitsNotes_1 (hc0 κ C) rfl ?_
  refine gfX10_266 rfl dX10_fitsNotes_4 (hc20 κ C) rfl ?_
  refine gj_astore_n (L' := [some (.ref 0), some (.int (nI k)), some (.int (nI c)), some (.ref 31), none, none]) dX10_fitsNotes_7 (Nat.le_of_ble_eq_true rfl) rfl ?_
  refine gj_ic (w := 0) dX10_fitsNotes_8 ?_
  refine gj_istore (L' := [some (.ref 0), some (.int (nI k)), some (.int (nI c)), some (.ref 31), some (.int (nI 0)), none]) dX10_fitsNotes_9 (Nat.le_of_ble_eq_true rfl) rfl ?_
  refine gj_cast (L' := [some (.ref 0), some (.int (nI k)), some (.int (nI c)), some (.ref 31), some (.int (nI 0)), none]) (st' := []) (h' := (hh κ C)) rfl rfl rfl ?_
  refine gj_loopI (fun j => ∀ i, i < j → (sp_np (C 32) c k) i = true) (fun j => [some (.ref 0), some (.int (nI k)), some (.int (nI c)), some (.ref 31), some (.int (nI j)), none]) (fun j => (hh κ C)) (C 31 0) (fun hq => ?_) (fun j hj hq ih => ?_) 0 (by omega) (fun i hi => absurd hi (Nat.not_lt_zero _))
  · show gj _ _ _ _ _ _ [some (.ref 0), some (.int (nI k)), some (.int (nI c)), some (.ref 31), some (.int (nI (C 31 0))), none] _ _
    refine gj_iload dX10_fitsNotes_11 rfl ?_
    refine gj_aload_n dX10_fitsNotes_13 rfl ?_
    refine gfX10_270 rfl dX10_fitsNotes_14 (hc31 κ C) rfl ?_
    refine gj_icmp_geN (tgt := 78) (by omega) (by omega) dX10_fitsNotes_17 rfl (fun zq1 => ?_) (fun zq1 => ?_)
    rotate_left
    · exfalso; omega
    refine gj_ic (w := 1) dX10_fitsNotes_78 ?_
    exact gj_zr rfl dX10_fitsNotes_79 rfl (mj_b1 (by exact sp_all_t hq)) rfl
  show gj _ _ _ _ _ _ [some (.ref 0), some (.int (nI k)), some (.int (nI c)), some (.ref 31), some (.int (nI j)), none] _ _
  refine gj_iload dX10_fitsNotes_11 rfl ?_
  refine gj_aload_n dX10_fitsNotes_13 rfl ?_
  refine gfX10_270 rfl dX10_fitsNotes_14 (hc31 κ C) rfl ?_
  refine gj_icmp_geN (tgt := 78) (by omega) (by omega) dX10_fitsNotes_17 rfl (fun zq2 => ?_) (fun zq2 => ?_)
  · exfalso; omega
  have hL2 : C 32 (j * 5 + 2) ≤ 9 := (I.2.2.2.2.2.2.2.2.1 j).2.1
  have hL3 : C 32 (j * 5 + 3) ≤ 9 := (I.2.2.2.2.2.2.2.2.1 j).2.2.1
  refine gj_iload_n dX10_fitsNotes_20 rfl ?_
  refine gj_aload_n dX10_fitsNotes_21 rfl ?_
  refine gj_iload dX10_fitsNotes_22 rfl ?_
  refine gj_ic (w := 1) dX10_fitsNotes_24 ?_
  refine gj_V1 lkX10_342 (hc31 κ C) rfl rfl (ev_X3_at (hc31 κ C) (hc32 κ C) (by omega) (by omega)) dX10_fitsNotes_25 rfl rfl rfl rfl rfl ?_
  have hb3 := (show ∀ c, C 32 c ≤ 99 from I.1 12 (by decide)) (j * 5 + 1)
  refine gj_aload_n dX10_fitsNotes_28 rfl ?_
  refine gj_iload dX10_fitsNotes_29 rfl ?_
  refine gj_ic (w := 2) dX10_fitsNotes_31 ?_
  refine gj_V1 lkX10_342 (hc31 κ C) rfl rfl (ev_X3_at (hc31 κ C) (hc32 κ C) (by omega) (by omega)) dX10_fitsNotes_32 rfl rfl rfl rfl rfl ?_
  have hb4 := (show ∀ c, C 32 c ≤ 99 from I.1 12 (by decide)) (j * 5 + 2)
  refine gj_aload_n dX10_fitsNotes_35 rfl ?_
  refine gj_iload dX10_fitsNotes_36 rfl ?_
  refine gj_ic (w := 3) dX10_fitsNotes_38 ?_
  refine gj_V1 lkX10_342 (hc31 κ C) rfl rfl (ev_X3_at (hc31 κ C) (hc32 κ C) (by omega) (by omega)) dX10_fitsNotes_39 rfl rfl rfl rfl rfl ?_
  have hb5 := (show ∀ c, C 32 c ≤ 99 from I.1 12 (by decide)) (j * 5 + 3)
  refine gj_S1 lkX10_345 (ev_X0_after (by omega) (by omega) (by omega) (by omega)) dX10_fitsNotes_42 rfl rfl rfl rfl rfl ?_
  have hb6 := @sp_after_le k (C 32 (j * 5 + 1)) (C 32 (j * 5 + 2)) (C 32 (j * 5 + 3))
  refine gj_istore (L' := [some (.ref 0), some (.int (nI k)), some (.int (nI c)), some (.ref 31), some (.int (nI j)), some (.int (nI (sp_after k (C 32 (j * 5 + 1)) (C 32 (j * 5 + 2)) (C 32 (j * 5 + 3)))))]) dX10_fitsNotes_45 (Nat.le_of_ble_eq_true rfl) rfl ?_
  refine gj_aload_n dX10_fitsNotes_47 rfl ?_
  refine gj_iload dX10_fitsNotes_48 rfl ?_
  refine gj_ic (w := 0) dX10_fitsNotes_50 ?_
  refine gj_V1 lkX10_342 (hc31 κ C) rfl rfl (ev_X3_at (hc31 κ C) (hc32 κ C) (by omega) (by omega)) dX10_fitsNotes_51 rfl rfl rfl rfl rfl ?_
  have hb7 := (show ∀ c, C 32 c ≤ 99 from I.1 12 (by decide)) (j * 5 + 0)
  refine gj_iload_n dX10_fitsNotes_54 rfl ?_
  refine gj_icmp_neN (tgt := 72) (by omega) (by omega) dX10_fitsNotes_55 rfl (fun zq8 => ?_) (fun zq8 => ?_)
  · -- 55 taken
    have hn9 : (sp_np (C 32) c k) j = true := by unfold sp_np; rw [decide_eq_false zq8]; rfl
    refine gj_iincN (L' := [some (.ref 0), some (.int (nI k)), some (.int (nI c)), some (.ref 31), some (.int (nI (j + 1))), some (.int (nI (sp_after k (C 32 (j * 5 + 1)) (C 32 (j * 5 + 2)) (C 32 (j * 5 + 3)))))]) dX10_fitsNotes_72 rfl (Nat.le_of_ble_eq_true rfl) rfl ?_
    refine gj_goto (tgt := 11) dX10_fitsNotes_75 rfl ?_
    refine gj_forget (i := 5) (L' := [some (.ref 0), some (.int (nI k)), some (.int (nI c)), some (.ref 31), some (.int (nI (j + 1))), none]) rfl ?_
    exact ih (fun i hi => by by_cases q : i = j <;> first | (subst q; exact hn9) | exact hq i (by omega))
  have he9 := zq8
  refine gj_iload dX10_fitsNotes_58 rfl ?_
  refine gj_aload_n dX10_fitsNotes_60 rfl ?_
  refine gj_iload dX10_fitsNotes_61 rfl ?_
  refine gj_ic (w := 4) dX10_fitsNotes_63 ?_
  refine gj_V1 lkX10_342 (hc31 κ C) rfl rfl (ev_X3_at (hc31 κ C) (hc32 κ C) (by omega) (by omega)) dX10_fitsNotes_64 rfl rfl rfl rfl rfl ?_
  have hb9 := (show ∀ c, C 32 c ≤ 99 from I.1 12 (by decide)) (j * 5 + 4)
  refine gj_icmp_eqN (tgt := 72) (by omega) (by omega) dX10_fitsNotes_67 rfl (fun zq10 => ?_) (fun zq10 => ?_)
  · -- 67 taken
    have hn9 : (sp_np (C 32) c k) j = true := by unfold sp_np; rw [decide_eq_true zq10, Bool.or_true]
    refine gj_iincN (L' := [some (.ref 0), some (.int (nI k)), some (.int (nI c)), some (.ref 31), some (.int (nI (j + 1))), some (.int (nI (sp_after k (C 32 (j * 5 + 1)) (C 32 (j * 5 + 2)) (C 32 (j * 5 + 3)))))]) dX10_fitsNotes_72 rfl (Nat.le_of_ble_eq_true rfl) rfl ?_
    refine gj_goto (tgt := 11) dX10_fitsNotes_75 rfl ?_
    refine gj_forget (i := 5) (L' := [some (.ref 0), some (.int (nI k)), some (.int (nI c)), some (.ref 31), some (.int (nI (j + 1))), none]) rfl ?_
    exact ih (fun i hi => by by_cases q : i = j <;> first | (subst q; exact hn9) | exact hq i (by omega))
  have hn9 : (sp_np (C 32) c k) j = false := by unfold sp_np; rw [decide_eq_false zq10, decide_eq_true he9]; rfl
  refine gj_ic (w := 0) dX10_fitsNotes_70 ?_
  exact gj_zr rfl dX10_fitsNotes_71 rfl (mj_b0 (by exact sp_all_f hj hn9)) rfl
set_option maxHeartbeats 1000000 in
set_option maxRecDepth 10000 in
theorem ev_X10_kindsNoted {E : mj_E} {κ : Nat → Bool} {C : Nat → Nat → Nat} (I : mj_CI κ C) {c : Nat} (h0 : c < 25) : mj_Ev E iX10_kindsNoted [.ref 0, .int (nI c)] (hh κ C) (mj_R (some (.int (nI (sp_kn (C 32) (C 31 0) c)))) (hh κ C)) := by
  have hl0 : C 20 0 ≤ 999 := I.1 0 (by decide) 0
  have hl7 : C 27 0 ≤ 7 := I.1 7 (by decide) 0
  have hl11 : C 31 0 ≤ 6 := I.1 11 (by decide) 0
  have hl13 : C 33 0 ≤ 6 := I.1 13 (by decide) 0
  have hl15 : C 35 0 ≤ 8 := I.1 15 (by decide) 0
  have hl7x : C 7 0 ≤ 150 := I.2.2.2.2.2.2.1
  refine mj_Ev.of (L0 := [some (.ref 0), some (.int (nI c)), none, none]) pnRX10 (Nat.le_of_ble_eq_true rfl) rfl ?_
  refine gj_ic (w := 0) dX10_kindsNoted_0 ?_
  refine gj_istore_n (L' := [some (.ref 0), some (.int (nI c)), some (.int (nI 0)), none]) dX10_kindsNoted_1 (Nat.le_of_ble_eq_true rfl) rfl ?_
  refine gj_ic (w := 0) dX10_kindsNoted_2 ?_
  refine gj_istore_n (L' := [some (.ref 0), some (.int (nI c)), some (.int (nI 0)), some (.int (nI 0))]) dX10_kindsNoted_3 (Nat.le_of_ble_eq_true rfl) rfl ?_
  refine gj_cast (L' := [some (.ref 0), some (.int (nI c)), some (.int (nI (mj_bits (fun k => sp_all (sp_np (C 32) c k) (C 31 0)) 0))), some (.int (nI 0))]) (st' := []) (h' := (hh κ C)) rfl rfl rfl ?_
  refine gj_loop (fun j => [some (.ref 0), some (.int (nI c)), some (.int (nI (mj_bits (fun k => sp_all (sp_np (C 32) c k) (C 31 0)) j))), some (.int (nI j))]) (fun j => (hh κ C)) 6 ?_ (fun j hj ih => ?_) 0 (by omega)
  · show gj _ _ _ _ _ _ [some (.ref 0), some (.int (nI c)), some (.int (nI (mj_bits (fun k => sp_all (sp_np (C 32) c k) (C 31 0)) 6))), some (.int (nI 6))] _ _
    refine gj_iload_n dX10_kindsNoted_4 rfl ?_
    refine gj_bp 6 dX10_kindsNoted_5 (by decide) ?_
    refine gj_icmp_geN (tgt := 31) (by omega) (by omega) dX10_kindsNoted_7 rfl (fun zq0 => ?_) (fun zq0 => ?_)
    rotate_left
    · exfalso; omega
    refine gj_iload_n dX10_kindsNoted_31 rfl ?_
    exact gj_ir rfl dX10_kindsNoted_32 rfl rfl rfl
  show gj _ _ _ _ _ _ [some (.ref 0), some (.int (nI c)), some (.int (nI (mj_bits (fun k => sp_all (sp_np (C 32) c k) (C 31 0)) j))), some (.int (nI j))] _ _
  refine gj_iload_n dX10_kindsNoted_4 rfl ?_
  refine gj_bp 6 dX10_kindsNoted_5 (by decide) ?_
  refine gj_icmp_geN (tgt := 31) (by omega) (by omega) dX10_kindsNoted_7 rfl (fun zq1 => ?_) (fun zq1 => ?_)
  · exfalso; omega
  refine gj_aload_n dX10_kindsNoted_10 rfl ?_
  refine gj_iload_n dX10_kindsNoted_11 rfl ?_
  refine gj_iload_n dX10_kindsNoted_12 rfl ?_
  refine gj_V1 lkX10_339 (hc0 κ C) rfl rfl (ev_X10_fitsNotes I (by omega) (by omega)) dX10_kindsNoted_13 rfl rfl rfl rfl rfl ?_
  refine gj_if_eqb (tgt := 25) dX10_kindsNoted_16 rfl (fun zq2 => ?_) (fun zq2 => ?_)
  · -- 16 taken
    have hw9 := zq2
    refine gj_iincN (L' := [some (.ref 0), some (.int (nI c)), some (.int (nI (mj_bits (fun k => sp_all (sp_np (C 32) c k) (C 31 0)) j))), some (.int (nI (j + 1)))]) dX10_kindsNoted_25 rfl (Nat.le_of_ble_eq_true rfl) rfl ?_
    refine gj_goto (tgt := 4) dX10_kindsNoted_28 rfl ?_
    exact gj_cast (by first | rw [mj_bits_t (p := (fun k => sp_all (sp_np (C 32) c k) (C 31 0))) hw9] | rw [mj_bits_f (p := (fun k => sp_all (sp_np (C 32) c k) (C 31 0))) hw9]) rfl rfl ih
  have hw9 := zq2
  refine gj_iload_n dX10_kindsNoted_19 rfl ?_
  refine gj_ic (w := 1) dX10_kindsNoted_20 ?_
  refine gj_iload_n dX10_kindsNoted_21 rfl ?_
  refine gj_ishlN (by omega) dX10_kindsNoted_22 ?_
  refine gj_iorN  dX10_kindsNoted_23 ?_
  refine gj_istore_n (L' := [some (.ref 0), some (.int (nI c)), some (.int (nI ((mj_bits (fun k => sp_all (sp_np (C 32) c k) (C 31 0)) j) ||| (1 <<< j)))), some (.int (nI j))]) dX10_kindsNoted_24 (Nat.le_of_ble_eq_true rfl) rfl ?_
  refine gj_iincN (L' := [some (.ref 0), some (.int (nI c)), some (.int (nI ((mj_bits (fun k => sp_all (sp_np (C 32) c k) (C 31 0)) j) ||| (1 <<< j)))), some (.int (nI (j + 1)))]) dX10_kindsNoted_25 rfl (Nat.le_of_ble_eq_true rfl) rfl ?_
  refine gj_goto (tgt := 4) dX10_kindsNoted_28 rfl ?_
  exact gj_cast (by first | rw [mj_bits_t (p := (fun k => sp_all (sp_np (C 32) c k) (C 31 0))) hw9] | rw [mj_bits_f (p := (fun k => sp_all (sp_np (C 32) c k) (C 31 0))) hw9]) rfl rfl ih
set_option maxHeartbeats 1000000 in
set_option maxRecDepth 10000 in
theorem ev_X10_is {E : mj_E} {κ : Nat → Bool} {C : Nat → Nat → Nat} (I : mj_CI κ C) {c : Nat} (h0 : c < 25) : mj_Ev E iX10_is [.ref 0, .int (nI c)] (hh κ C) (mj_R (some (.int (nI (sp_kn (C 32) (C 31 0) c)))) (hh κ C)) := by
  have hl0 : C 20 0 ≤ 999 := I.1 0 (by decide) 0
  have hl7 : C 27 0 ≤ 7 := I.1 7 (by decide) 0
  have hl11 : C 31 0 ≤ 6 := I.1 11 (by decide) 0
  have hl13 : C 33 0 ≤ 6 := I.1 13 (by decide) 0
  have hl15 : C 35 0 ≤ 8 := I.1 15 (by decide) 0
  have hl7x : C 7 0 ≤ 150 := I.2.2.2.2.2.2.1
  refine mj_Ev.of (L0 := [some (.ref 0), some (.int (nI c))]) pnRX10 (Nat.le_of_ble_eq_true rfl) rfl ?_
  refine gj_iload_n dX10_is_0 rfl ?_
  refine gj_S1 lkX10_87 (ev_X10_isCell_t (by omega) (by omega)) dX10_is_1 rfl rfl rfl rfl rfl ?_
  refine gj_if_eqN (tgt := 15) (by omega) dX10_is_4 rfl (fun zq0 => ?_) (fun zq0 => ?_)
  · exfalso; revert zq0; decide
  refine gj_aload_n dX10_is_7 rfl ?_
  refine gj_iload_n dX10_is_8 rfl ?_
  refine gj_V1 lkX10_281 (hc0 κ C) rfl rfl (ev_X10_kindsNoted I (by omega)) dX10_is_9 rfl rfl rfl rfl rfl ?_
  have hb1 := @sp_kn_lt (C 32) (C 31 0) c
  refine gj_goto (tgt := 19) dX10_is_12 rfl ?_
  exact gj_ir rfl dX10_is_19 rfl rfl rfl
set_option maxHeartbeats 1000000 in
set_option maxRecDepth 10000 in
theorem ev_X10_fitsPolls {E : mj_E} {κ : Nat → Bool} {C : Nat → Nat → Nat} (I : mj_CI κ C) {k v : Nat} (h0 : k ≤ 5) (h1 : v < C 27 0) : mj_Ev E iX10_fitsPolls [.ref 0, .int (nI k), .int (nI v)] (hh κ C) (mj_R (some (.int (mj_b (sp_all (sp_pp (C 34) (C 29 v) v k) (C 33 0))))) (hh κ C)) := by
  have hl0 : C 20 0 ≤ 999 := I.1 0 (by decide) 0
  have hl7 : C 27 0 ≤ 7 := I.1 7 (by decide) 0
  have hl11 : C 31 0 ≤ 6 := I.1 11 (by decide) 0
  have hl13 : C 33 0 ≤ 6 := I.1 13 (by decide) 0
  have hl15 : C 35 0 ≤ 8 := I.1 15 (by decide) 0
  have hl7x : C 7 0 ≤ 150 := I.2.2.2.2.2.2.1
  refine mj_Ev.of (L0 := [some (.ref 0), some (.int (nI k)), some (.int (nI v)), none, none, none, none]) pnRX10 (Nat.le_of_ble_eq_true rfl) rfl ?_
  refine gj_aload_n dX10_fitsPolls_0 rfl ?_
  refine gfX10_10 rfl dX10_fitsPolls_1 (hc0 κ C) rfl ?_
  refine gfX10_276 rfl dX10_fitsPolls_4 (hc20 κ C) rfl ?_
  refine gj_astore_n (L' := [some (.ref 0), some (.int (nI k)), some (.int (nI v)), some (.ref 33), none, none, none]) dX10_fitsPolls_7 (Nat.le_of_ble_eq_true rfl) rfl ?_
  refine gj_aload_n dX10_fitsPolls_8 rfl ?_
  refine gfX10_10 rfl dX10_fitsPolls_9 (hc0 κ C) rfl ?_
  refine gfX10_73 rfl dX10_fitsPolls_12 (hc20 κ C) rfl ?_
  refine gj_iload_n dX10_fitsPolls_15 rfl ?_
  refine gj_V1 lkX10_191 (hc27 κ C) rfl rfl (ev_X7_weightOf ⟨(hc27 κ C), (hc28 κ C), (hc29 κ C), (hc30 κ C), (by omega), (show ∀ c, C 28 c ≤ 5 from I.1 8 (by decide)), (show ∀ c, C 29 c ≤ 99 from I.1 9 (by decide)), (show ∀ c, C 30 c ≤ 24 from I.1 10 (by decide))⟩ (by omega)) dX10_fitsPolls_16 rfl rfl rfl rfl rfl ?_
  have hb1 := (show ∀ c, C 29 c ≤ 99 from I.1 9 (by decide)) v
  refine gj_istore (L' := [some (.ref 0), some (.int (nI k)), some (.int (nI v)), some (.ref 33), some (.int (nI (C 29 v))), none, none]) dX10_fitsPolls_19 (Nat.le_of_ble_eq_true rfl) rfl ?_
  refine gj_ic (w := 0) dX10_fitsPolls_21 ?_
  refine gj_istore (L' := [some (.ref 0), some (.int (nI k)), some (.int (nI v)), some (.ref 33), some (.int (nI (C 29 v))), some (.int (nI 0)), none]) dX10_fitsPolls_22 (Nat.le_of_ble_eq_true rfl) rfl ?_
  refine gj_cast (L' := [some (.ref 0), some (.int (nI k)), some (.int (nI v)), some (.ref 33), some (.int (nI (C 29 v))), some (.int (nI 0)), none]) (st' := []) (h' := (hh κ C)) rfl rfl rfl ?_
  refine gj_loopI (fun j => ∀ i, i < j → (sp_pp (C 34) (C 29 v) v k) i = true) (fun j => [some (.ref 0), some (.int (nI k)), some (.int (nI v)), some (.ref 33), some (.int (nI (C 29 v))), some (.int (nI j)), none]) (fun j => (hh κ C)) (C 33 0) (fun hq => ?_) (fun j hj hq ih => ?_) 0 (by omega) (fun i hi => absurd hi (Nat.not_lt_zero _))
  · show gj _ _ _ _ _ _ [some (.ref 0), some (.int (nI k)), some (.int (nI v)), some (.ref 33), some (.int (nI (C 29 v))), some (.int (nI (C 33 0))), none] _ _
    refine gj_iload dX10_fitsPolls_24 rfl ?_
    refine gj_aload_n dX10_fitsPolls_26 rfl ?_
    refine gfX10_270 rfl dX10_fitsPolls_27 (hc33 κ C) rfl ?_
    refine gj_icmp_geN (tgt := 102) (by omega) (by omega) dX10_fitsPolls_30 rfl (fun zq2 => ?_) (fun zq2 => ?_)
    rotate_left
    · exfalso; omega
    refine gj_ic (w := 1) dX10_fitsPolls_102 ?_
    exact gj_zr rfl dX10_fitsPolls_103 rfl (mj_b1 (by exact sp_all_t hq)) rfl
  show gj _ _ _ _ _ _ [some (.ref 0), some (.int (nI k)), some (.int (nI v)), some (.ref 33), some (.int (nI (C 29 v))), some (.int (nI j)), none] _ _
  refine gj_iload dX10_fitsPolls_24 rfl ?_
  refine gj_aload_n dX10_fitsPolls_26 rfl ?_
  refine gfX10_270 rfl dX10_fitsPolls_27 (hc33 κ C) rfl ?_
  refine gj_icmp_geN (tgt := 102) (by omega) (by omega) dX10_fitsPolls_30 rfl (fun zq3 => ?_) (fun zq3 => ?_)
  · exfalso; omega
  refine gj_iload_n dX10_fitsPolls_33 rfl ?_
  refine gj_iload dX10_fitsPolls_34 rfl ?_
  refine gj_aload_n dX10_fitsPolls_36 rfl ?_
  refine gj_iload dX10_fitsPolls_37 rfl ?_
  refine gj_ic (w := 2) dX10_fitsPolls_39 ?_
  refine gj_V1 lkX10_342 (hc33 κ C) rfl rfl (ev_X3_at (hc33 κ C) (hc34 κ C) (by omega) (by omega)) dX10_fitsPolls_40 rfl rfl rfl rfl rfl ?_
  have hb4 := (show ∀ c, C 34 c ≤ 198 from I.1 14 (by decide)) (j * 5 + 2)
  refine gj_aload_n dX10_fitsPolls_43 rfl ?_
  refine gj_iload dX10_fitsPolls_44 rfl ?_
  refine gj_ic (w := 3) dX10_fitsPolls_46 ?_
  refine gj_V1 lkX10_342 (hc33 κ C) rfl rfl (ev_X3_at (hc33 κ C) (hc34 κ C) (by omega) (by omega)) dX10_fitsPolls_47 rfl rfl rfl rfl rfl ?_
  have hb5 := (show ∀ c, C 34 c ≤ 198 from I.1 14 (by decide)) (j * 5 + 3)
  refine gj_aload_n dX10_fitsPolls_50 rfl ?_
  refine gj_iload dX10_fitsPolls_51 rfl ?_
  refine gj_ic (w := 4) dX10_fitsPolls_53 ?_
  refine gj_V1 lkX10_342 (hc33 κ C) rfl rfl (ev_X3_at (hc33 κ C) (hc34 κ C) (by omega) (by omega)) dX10_fitsPolls_54 rfl rfl rfl rfl rfl ?_
  have hb6 := (show ∀ c, C 34 c ≤ 198 from I.1 14 (by decide)) (j * 5 + 4)
  refine gj_S1 lkX10_348 (ev_X6_yes (by omega) (by omega) (by omega) (by omega) (by omega)) dX10_fitsPolls_57 rfl rfl rfl rfl rfl ?_
  refine gj_istore (L' := [some (.ref 0), some (.int (nI k)), some (.int (nI v)), some (.ref 33), some (.int (nI (C 29 v))), some (.int (nI j)), some (.int (mj_b (sp_yes k (C 29 v) (C 34 (j * 5 + 2)) (C 34 (j * 5 + 3)) (C 34 (j * 5 + 4)))))]) dX10_fitsPolls_60 (Nat.le_of_ble_eq_true rfl) rfl ?_
  refine gj_aload_n dX10_fitsPolls_62 rfl ?_
  refine gj_iload dX10_fitsPolls_63 rfl ?_
  refine gj_ic (w := 0) dX10_fitsPolls_65 ?_
  refine gj_V1 lkX10_342 (hc33 κ C) rfl rfl (ev_X3_at (hc33 κ C) (hc34 κ C) (by omega) (by omega)) dX10_fitsPolls_66 rfl rfl rfl rfl rfl ?_
  have hb7 := (show ∀ c, C 34 c ≤ 198 from I.1 14 (by decide)) (j * 5 + 0)
  refine gj_iload_n dX10_fitsPolls_69 rfl ?_
  refine gj_icmp_neN (tgt := 96) (by omega) (by omega) dX10_fitsPolls_70 rfl (fun zq8 => ?_) (fun zq8 => ?_)
  · -- 70 taken
    have hn9 : (sp_pp (C 34) (C 29 v) v k) j = true := by unfold sp_pp; rw [decide_eq_false zq8]; rfl
    refine gj_iincN (L' := [some (.ref 0), some (.int (nI k)), some (.int (nI v)), some (.ref 33), some (.int (nI (C 29 v))), some (.int (nI (j + 1))), some (.int (mj_b (sp_yes k (C 29 v) (C 34 (j * 5 + 2)) (C 34 (j * 5 + 3)) (C 34 (j * 5 + 4)))))]) dX10_fitsPolls_96 rfl (Nat.le_of_ble_eq_true rfl) rfl ?_
    refine gj_goto (tgt := 24) dX10_fitsPolls_99 rfl ?_
    refine gj_forget (i := 6) (L' := [some (.ref 0), some (.int (nI k)), some (.int (nI v)), some (.ref 33), some (.int (nI (C 29 v))), some (.int (nI (j + 1))), none]) rfl ?_
    exact ih (fun i hi => by by_cases q : i = j <;> first | (subst q; exact hn9) | exact hq i (by omega))
  have he9 := zq8
  refine gj_iload dX10_fitsPolls_73 rfl ?_
  refine gj_aload_n dX10_fitsPolls_75 rfl ?_
  refine gj_iload dX10_fitsPolls_76 rfl ?_
  refine gj_ic (w := 1) dX10_fitsPolls_78 ?_
  refine gj_V1 lkX10_342 (hc33 κ C) rfl rfl (ev_X3_at (hc33 κ C) (hc34 κ C) (by omega) (by omega)) dX10_fitsPolls_79 rfl rfl rfl rfl rfl ?_
  have hb9 := (show ∀ c, C 34 c ≤ 198 from I.1 14 (by decide)) (j * 5 + 1)
  refine gj_ic (w := 1) dX10_fitsPolls_82 ?_
  refine gj_icmp_neN (tgt := 90) (by omega) (by omega) dX10_fitsPolls_83 rfl (fun zq10 => ?_) (fun zq10 => ?_)
  · -- 83 taken
    have hd9 := decide_eq_false zq10
    refine gj_ic (w := 0) dX10_fitsPolls_90 ?_
    refine gj_icmp_eq (tgt := 96) dX10_fitsPolls_91 rfl (fun zq11 => ?_) (fun zq11 => ?_)
    · -- 91 taken
      have hn9 : (sp_pp (C 34) (C 29 v) v k) j = true := by unfold sp_pp; rw [hd9]; first | (rw [mj_b_n1.mp zq11]; simp) | (rw [mj_b_n0.mp zq11]; simp)
      refine gj_iincN (L' := [some (.ref 0), some (.int (nI k)), some (.int (nI v)), some (.ref 33), some (.int (nI (C 29 v))), some (.int (nI (j + 1))), some (.int (mj_b (sp_yes k (C 29 v) (C 34 (j * 5 + 2)) (C 34 (j * 5 + 3)) (C 34 (j * 5 + 4)))))]) dX10_fitsPolls_96 rfl (Nat.le_of_ble_eq_true rfl) rfl ?_
      refine gj_goto (tgt := 24) dX10_fitsPolls_99 rfl ?_
      refine gj_forget (i := 6) (L' := [some (.ref 0), some (.int (nI k)), some (.int (nI v)), some (.ref 33), some (.int (nI (C 29 v))), some (.int (nI (j + 1))), none]) rfl ?_
      exact ih (fun i hi => by by_cases q : i = j <;> first | (subst q; exact hn9) | exact hq i (by omega))
    have hn9 : (sp_pp (C 34) (C 29 v) v k) j = false := by unfold sp_pp; rw [hd9, decide_eq_true he9]; first | (rw [Bool.eq_false_iff.mpr (fun q => zq11 (mj_b_n1.mpr q))]; rfl) | (rw [Bool.ne_false_iff.mp (fun q => zq11 (mj_b_n0.mpr q))]; rfl)
    refine gj_ic (w := 0) dX10_fitsPolls_94 ?_
    exact gj_zr rfl dX10_fitsPolls_95 rfl (mj_b0 (by exact sp_all_f hj hn9)) rfl
  have hd9 := decide_eq_true zq10
  refine gj_ic (w := 1) dX10_fitsPolls_86 ?_
  refine gj_goto (tgt := 91) dX10_fitsPolls_87 rfl ?_
  refine gj_icmp_eq (tgt := 96) dX10_fitsPolls_91 rfl (fun zq12 => ?_) (fun zq12 => ?_)
  · -- 91 taken
    have hn9 : (sp_pp (C 34) (C 29 v) v k) j = true := by unfold sp_pp; rw [hd9]; first | (rw [mj_b_n1.mp zq12]; simp) | (rw [mj_b_n0.mp zq12]; simp)
    refine gj_iincN (L' := [some (.ref 0), some (.int (nI k)), some (.int (nI v)), some (.ref 33), some (.int (nI (C 29 v))), some (.int (nI (j + 1))), some (.int (mj_b (sp_yes k (C 29 v) (C 34 (j * 5 + 2)) (C 34 (j * 5 + 3)) (C 34 (j * 5 + 4)))))]) dX10_fitsPolls_96 rfl (Nat.le_of_ble_eq_true rfl) rfl ?_
    refine gj_goto (tgt := 24) dX10_fitsPolls_99 rfl ?_
    refine gj_forget (i := 6) (L' := [some (.ref 0), some (.int (nI k)), some (.int (nI v)), some (.ref 33), some (.int (nI (C 29 v))), some (.int (nI (j + 1))), none]) rfl ?_
    exact ih (fun i hi => by by_cases q : i = j <;> first | (subst q; exact hn9) | exact hq i (by omega))
  have hn9 : (sp_pp (C 34) (C 29 v) v k) j = false := by unfold sp_pp; rw [hd9, decide_eq_true he9]; first | (rw [Bool.eq_false_iff.mpr (fun q => zq12 (mj_b_n1.mpr q))]; rfl) | (rw [Bool.ne_false_iff.mp (fun q => zq12 (mj_b_n0.mpr q))]; rfl)
  refine gj_ic (w := 0) dX10_fitsPolls_94 ?_
  exact gj_zr rfl dX10_fitsPolls_95 rfl (mj_b0 (by exact sp_all_f hj hn9)) rfl
set_option maxHeartbeats 1000000 in
set_option maxRecDepth 10000 in
theorem ev_X10_who {E : mj_E} {κ : Nat → Bool} {C : Nat → Nat → Nat} (I : mj_CI κ C) {v : Nat} (h0 : v < C 27 0) : mj_Ev E iX10_who [.ref 0, .int (nI v)] (hh κ C) (mj_R (some (.int (nI (sp_wk (C 34) (C 33 0) (C 29 v) v)))) (hh κ C)) := by
  have hl0 : C 20 0 ≤ 999 := I.1 0 (by decide) 0
  have hl7 : C 27 0 ≤ 7 := I.1 7 (by decide) 0
  have hl11 : C 31 0 ≤ 6 := I.1 11 (by decide) 0
  have hl13 : C 33 0 ≤ 6 := I.1 13 (by decide) 0
  have hl15 : C 35 0 ≤ 8 := I.1 15 (by decide) 0
  have hl7x : C 7 0 ≤ 150 := I.2.2.2.2.2.2.1
  refine mj_Ev.of (L0 := [some (.ref 0), some (.int (nI v)), none, none]) pnRX10 (Nat.le_of_ble_eq_true rfl) rfl ?_
  refine gj_aload_n dX10_who_0 rfl ?_
  refine gj_iload_n dX10_who_1 rfl ?_
  refine gj_V1 lkX10_187 (hc0 κ C) rfl rfl (ev_X10_isVoter I (by omega)) dX10_who_2 rfl rfl rfl rfl rfl ?_
  refine gj_if_neN (tgt := 13) (by omega) dX10_who_5 rfl (fun zq0 => ?_) (fun zq0 => ?_)
  rotate_left
  · exfalso; revert zq0; decide
  refine gj_ic (w := 0) dX10_who_13 ?_
  refine gj_istore_n (L' := [some (.ref 0), some (.int (nI v)), some (.int (nI 0)), none]) dX10_who_14 (Nat.le_of_ble_eq_true rfl) rfl ?_
  refine gj_ic (w := 0) dX10_who_15 ?_
  refine gj_istore_n (L' := [some (.ref 0), some (.int (nI v)), some (.int (nI 0)), some (.int (nI 0))]) dX10_who_16 (Nat.le_of_ble_eq_true rfl) rfl ?_
  refine gj_cast (L' := [some (.ref 0), some (.int (nI v)), some (.int (nI (mj_bits (fun k => sp_all (sp_pp (C 34) (C 29 v) v k) (C 33 0)) 0))), some (.int (nI 0))]) (st' := []) (h' := (hh κ C)) rfl rfl rfl ?_
  refine gj_loop (fun j => [some (.ref 0), some (.int (nI v)), some (.int (nI (mj_bits (fun k => sp_all (sp_pp (C 34) (C 29 v) v k) (C 33 0)) j))), some (.int (nI j))]) (fun j => (hh κ C)) 6 ?_ (fun j hj ih => ?_) 0 (by omega)
  · show gj _ _ _ _ _ _ [some (.ref 0), some (.int (nI v)), some (.int (nI (mj_bits (fun k => sp_all (sp_pp (C 34) (C 29 v) v k) (C 33 0)) 6))), some (.int (nI 6))] _ _
    refine gj_iload_n dX10_who_17 rfl ?_
    refine gj_bp 6 dX10_who_18 (by decide) ?_
    refine gj_icmp_geN (tgt := 44) (by omega) (by omega) dX10_who_20 rfl (fun zq0 => ?_) (fun zq0 => ?_)
    rotate_left
    · exfalso; omega
    refine gj_iload_n dX10_who_44 rfl ?_
    exact gj_ir rfl dX10_who_45 rfl rfl rfl
  show gj _ _ _ _ _ _ [some (.ref 0), some (.int (nI v)), some (.int (nI (mj_bits (fun k => sp_all (sp_pp (C 34) (C 29 v) v k) (C 33 0)) j))), some (.int (nI j))] _ _
  refine gj_iload_n dX10_who_17 rfl ?_
  refine gj_bp 6 dX10_who_18 (by decide) ?_
  refine gj_icmp_geN (tgt := 44) (by omega) (by omega) dX10_who_20 rfl (fun zq1 => ?_) (fun zq1 => ?_)
  · exfalso; omega
  refine gj_aload_n dX10_who_23 rfl ?_
  refine gj_iload_n dX10_who_24 rfl ?_
  refine gj_iload_n dX10_who_25 rfl ?_
  refine gj_V1 lkX10_288 (hc0 κ C) rfl rfl (ev_X10_fitsPolls I (by omega) (by omega)) dX10_who_26 rfl rfl rfl rfl rfl ?_
  refine gj_if_eqb (tgt := 38) dX10_who_29 rfl (fun zq2 => ?_) (fun zq2 => ?_)
  · -- 29 taken
    have hw9 := zq2
    refine gj_iincN (L' := [some (.ref 0), some (.int (nI v)), some (.int (nI (mj_bits (fun k => sp_all (sp_pp (C 34) (C 29 v) v k) (C 33 0)) j))), some (.int (nI (j + 1)))]) dX10_who_38 rfl (Nat.le_of_ble_eq_true rfl) rfl ?_
    refine gj_goto (tgt := 17) dX10_who_41 rfl ?_
    exact gj_cast (by first | rw [mj_bits_t (p := (fun k => sp_all (sp_pp (C 34) (C 29 v) v k) (C 33 0))) hw9] | rw [mj_bits_f (p := (fun k => sp_all (sp_pp (C 34) (C 29 v) v k) (C 33 0))) hw9]) rfl rfl ih
  have hw9 := zq2
  refine gj_iload_n dX10_who_32 rfl ?_
  refine gj_ic (w := 1) dX10_who_33 ?_
  refine gj_iload_n dX10_who_34 rfl ?_
  refine gj_ishlN (by omega) dX10_who_35 ?_
  refine gj_iorN  dX10_who_36 ?_
  refine gj_istore_n (L' := [some (.ref 0), some (.int (nI v)), some (.int (nI ((mj_bits (fun k => sp_all (sp_pp (C 34) (C 29 v) v k) (C 33 0)) j) ||| (1 <<< j)))), some (.int (nI j))]) dX10_who_37 (Nat.le_of_ble_eq_true rfl) rfl ?_
  refine gj_iincN (L' := [some (.ref 0), some (.int (nI v)), some (.int (nI ((mj_bits (fun k => sp_all (sp_pp (C 34) (C 29 v) v k) (C 33 0)) j) ||| (1 <<< j)))), some (.int (nI (j + 1)))]) dX10_who_38 rfl (Nat.le_of_ble_eq_true rfl) rfl ?_
  refine gj_goto (tgt := 17) dX10_who_41 rfl ?_
  exact gj_cast (by first | rw [mj_bits_t (p := (fun k => sp_all (sp_pp (C 34) (C 29 v) v k) (C 33 0))) hw9] | rw [mj_bits_f (p := (fun k => sp_all (sp_pp (C 34) (C 29 v) v k) (C 33 0))) hw9]) rfl rfl ih
