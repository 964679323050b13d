/-- how a cell would look by a kind of these -/
def sp_lk (s i f u : Nat) : Nat → Nat := fun k => if Nat.testBit s k then sp_after k i f u else 4294967295
theorem sp_lk_or {s i f u k : Nat} : sp_lk s i f u k = 4294967295 ∨ sp_lk s i f u k ≤ 99 := by
  unfold sp_lk; split
  · exact Or.inr sp_after_le
  · exact Or.inl rfl
def sp_ak (g : Nat → Nat) (k n : Nat) : Nat := mj_fo (fun o a => if g o = g k then a + 1 else a) 0 n
theorem sp_ak_t {g : Nat → Nat} {k n : Nat} (h : g n = g k) : sp_ak g k (n + 1) = sp_ak g k n + 1 := if_pos h
theorem sp_ak_f {g : Nat → Nat} {k n : Nat} (h : ¬ g n = g k) : sp_ak g k (n + 1) = sp_ak g k n := if_neg h
theorem sp_ak_le {g : Nat → Nat} {k n : Nat} : sp_ak g k n ≤ n := by
  induction n with
  | zero => exact Nat.le_refl _
  | succ n ih =>
    by_cases q : g n = g k
    · rw [sp_ak_t q]; omega
    · rw [sp_ak_f q]; omega
def sp_ma (g : Nat → Nat) (n : Nat) : Nat := mj_fo (fun k m => if g k = 4294967295 then m else max m (sp_ak g k 6)) 0 n
theorem sp_ma_t {g : Nat → Nat} {n : Nat} (h : g n = 4294967295) : sp_ma g (n + 1) = sp_ma g n := if_pos h
theorem sp_ma_f {g : Nat → Nat} {n : Nat} (h : ¬ g n = 4294967295) : sp_ma g (n + 1) = max (sp_ma g n) (sp_ak g n 6) := if_neg h
theorem sp_ma_le {g : Nat → Nat} {n : Nat} : sp_ma g n ≤ 6 := by
  induction n with
  | zero => exact Nat.zero_le _
  | succ n ih =>
    by_cases q : g n = 4294967295
    · rw [sp_ma_t q]; exact ih
    · rw [sp_ma_f q]; have := @sp_ak_le g n 6; omega
/-- the state behind a look: the row of looks is g -/
def mj_lkst (C : Nat → Nat → Nat) (g : Nat → Nat) : Nat → Nat → Nat := mj_u C 12 g
set_option maxHeartbeats 1000000 in
set_option maxRecDepth 10000 in
theorem ev_X10_mostAlike {E : mj_E} {κ : Nat → Bool} {C : Nat → Nat → Nat} (I : mj_CI κ C) {s i f u : Nat} (h0 : s < 64) (h1 : i ≤ 99) (h2 : f ≤ 9) (h3 : u ≤ 9) : mj_Ev E iX10_mostAlike [.ref 0, .int (nI s), .int (nI i), .int (nI f), .int (nI u)] (hh κ C) (mj_R (some (.int (nI (sp_ma (sp_lk s i f u) 6)))) (hh κ (mj_u C 12 (sp_lk s i f u)))) := by
  have hl0 : C 20 0 ≤ 999 := I.1 0 (by decide) 0
  have hl7 : C 27 0 ≤ 7 := I.1 7 (by decide) 0
  have hl11 : C 31 0 ≤ 6 := I.1 11 (by decide) 0
  have hl13 : C 33 0 ≤ 6 := I.1 13 (by decide) 0
  have hl15 : C 35 0 ≤ 8 := I.1 15 (by decide) 0
  have hl7x : C 7 0 ≤ 150 := I.2.2.2.2.2.2.1
  refine mj_Ev.of (L0 := [some (.ref 0), some (.int (nI s)), some (.int (nI i)), some (.int (nI f)), some (.int (nI u)), none, none, none, none]) pnRX10 (Nat.le_of_ble_eq_true rfl) rfl ?_
  refine gj_ic (w := 0) dX10_mostAlike_0 ?_
  refine gj_istore (L' := [some (.ref 0), some (.int (nI s)), some (.int (nI i)), some (.int (nI f)), some (.int (nI u)), some (.int (nI 0)), none, none, none]) dX10_mostAlike_1 (Nat.le_of_ble_eq_true rfl) rfl ?_
  refine gj_cast (L' := [some (.ref 0), some (.int (nI s)), some (.int (nI i)), some (.int (nI f)), some (.int (nI u)), some (.int (nI 0)), none, none, none]) (st' := []) (h' := mj_up (hh κ C) 12 (mj_ar 6 (mj_mix (sp_lk s i f u) (C 12) 0))) rfl rfl (by rw [mj_mix_0, mj_up_self (hc12 κ C)]) ?_
  refine gj_loop (fun j => [some (.ref 0), some (.int (nI s)), some (.int (nI i)), some (.int (nI f)), some (.int (nI u)), some (.int (nI j)), none, none, none]) (fun j => mj_up (hh κ C) 12 (mj_ar 6 (mj_mix (sp_lk s i f u) (C 12) j))) 6 ?_ (fun j hj ih => ?_) 0 (by omega)
  · show gj _ _ _ _ _ _ [some (.ref 0), some (.int (nI s)), some (.int (nI i)), some (.int (nI f)), some (.int (nI u)), some (.int (nI 6)), none, none, none] _ _
    refine gj_iload dX10_mostAlike_3 rfl ?_
    refine gj_bp 6 dX10_mostAlike_5 (by decide) ?_
    refine gj_icmp_geN (tgt := 45) (by omega) (by omega) dX10_mostAlike_7 rfl (fun zq0 => ?_) (fun zq0 => ?_)
    rotate_left
    · exfalso; omega
    refine gj_reN (g := (sp_lk s i f u)) (fun j hj => mj_mix_lt hj) ?_
    refine gj_ic (w := 0) dX10_mostAlike_45 ?_
    refine gj_istore (L' := [some (.ref 0), some (.int (nI s)), some (.int (nI i)), some (.int (nI f)), some (.int (nI u)), some (.int (nI 0)), none, none, none]) dX10_mostAlike_46 (Nat.le_of_ble_eq_true rfl) rfl ?_
    refine gj_ic (w := 0) dX10_mostAlike_48 ?_
    refine gj_istore (L' := [some (.ref 0), some (.int (nI s)), some (.int (nI i)), some (.int (nI f)), some (.int (nI u)), some (.int (nI 0)), some (.int (nI 0)), none, none]) dX10_mostAlike_49 (Nat.le_of_ble_eq_true rfl) rfl ?_
    refine gj_cast (L' := [some (.ref 0), some (.int (nI s)), some (.int (nI i)), some (.int (nI f)), some (.int (nI u)), some (.int (nI (sp_ma (sp_lk s i f u) 0))), some (.int (nI 0)), none, none]) (st' := []) (h' := mj_up (hh κ C) 12 (mj_ar 6 (sp_lk s i f u))) rfl rfl rfl ?_
    refine gj_loop (fun k => [some (.ref 0), some (.int (nI s)), some (.int (nI i)), some (.int (nI f)), some (.int (nI u)), some (.int (nI (sp_ma (sp_lk s i f u) k))), some (.int (nI k)), none, none]) (fun k => mj_up (hh κ C) 12 (mj_ar 6 (sp_lk s i f u))) 6 ?_ (fun k hk ihk => ?_) 0 (by omega)
    · show gj _ _ _ _ _ _ [some (.ref 0), some (.int (nI s)), some (.int (nI i)), some (.int (nI f)), some (.int (nI u)), some (.int (nI (sp_ma (sp_lk s i f u) 6))), some (.int (nI 6)), none, none] _ _
      refine gj_iload dX10_mostAlike_51 rfl ?_
      refine gj_bp 6 dX10_mostAlike_53 (by decide) ?_
      refine gj_icmp_geN (tgt := 130) (by omega) (by omega) dX10_mostAlike_55 rfl (fun zq0 => ?_) (fun zq0 => ?_)
      rotate_left
      · exfalso; omega
      refine gj_iload dX10_mostAlike_130 rfl ?_
      exact gj_ir rfl dX10_mostAlike_132 rfl rfl (hh_s rfl rfl)
    show gj _ _ _ _ _ _ [some (.ref 0), some (.int (nI s)), some (.int (nI i)), some (.int (nI f)), some (.int (nI u)), some (.int (nI (sp_ma (sp_lk s i f u) k))), some (.int (nI k)), none, none] _ _
    refine gj_iload dX10_mostAlike_51 rfl ?_
    refine gj_bp 6 dX10_mostAlike_53 (by decide) ?_
    refine gj_icmp_geN (tgt := 130) (by omega) (by omega) dX10_mostAlike_55 rfl (fun zq1 => ?_) (fun zq1 => ?_)
    · exfalso; omega
    refine gj_ic (w := 0) dX10_mostAlike_58 ?_
    refine gj_istore (L' := [some (.ref 0), some (.int (nI s)), some (.int (nI i)), some (.int (nI f)), some (.int (nI u)), some (.int (nI (sp_ma (sp_lk s i f u) k))), some (.int (nI k)), some (.int (nI 0)), none]) dX10_mostAlike_59 (Nat.le_of_ble_eq_true rfl) rfl ?_
    refine gj_ic (w := 0) dX10_mostAlike_61 ?_
    refine gj_istore (L' := [some (.ref 0), some (.int (nI s)), some (.int (nI i)), some (.int (nI f)), some (.int (nI u)), some (.int (nI (sp_ma (sp_lk s i f u) k))), some (.int (nI k)), some (.int (nI 0)), some (.int (nI 0))]) dX10_mostAlike_62 (Nat.le_of_ble_eq_true rfl) rfl ?_
    refine gj_cast (L' := [some (.ref 0), some (.int (nI s)), some (.int (nI i)), some (.int (nI f)), some (.int (nI u)), some (.int (nI (sp_ma (sp_lk s i f u) k))), some (.int (nI k)), some (.int (nI (sp_ak (sp_lk s i f u) k 0))), some (.int (nI 0))]) (st' := []) (h' := mj_up (hh κ C) 12 (mj_ar 6 (sp_lk s i f u))) rfl rfl rfl ?_
    refine gj_loop (fun o => [some (.ref 0), some (.int (nI s)), some (.int (nI i)), some (.int (nI f)), some (.int (nI u)), some (.int (nI (sp_ma (sp_lk s i f u) k))), some (.int (nI k)), some (.int (nI (sp_ak (sp_lk s i f u) k o))), some (.int (nI o))]) (fun o => mj_up (hh κ C) 12 (mj_ar 6 (sp_lk s i f u))) 6 ?_ (fun o ho iho => ?_) 0 (by omega)
    · show gj _ _ _ _ _ _ [some (.ref 0), some (.int (nI s)), some (.int (nI i)), some (.int (nI f)), some (.int (nI u)), some (.int (nI (sp_ma (sp_lk s i f u) k))), some (.int (nI k)), some (.int (nI (sp_ak (sp_lk s i f u) k 6))), some (.int (nI 6))] _ _
      refine gj_iload dX10_mostAlike_64 rfl ?_
      refine gj_bp 6 dX10_mostAlike_66 (by decide) ?_
      refine gj_icmp_geN (tgt := 104) (by omega) (by omega) dX10_mostAlike_68 rfl (fun zq0 => ?_) (fun zq0 => ?_)
      rotate_left
      · exfalso; omega
      refine gj_aload_n dX10_mostAlike_104 rfl ?_
      refine gfX10_48 rfl dX10_mostAlike_105 ((mj_up_ne (by decide)).trans (hc0 κ C)) rfl ?_
      refine gj_iload dX10_mostAlike_108 rfl ?_
      refine gj_ialdN dX10_mostAlike_110 (mj_up_eq _ _ _) (by omega) (by omega) ?_
      refine gj_iconst (v := (-1)) dX10_mostAlike_111 (by decide) ?_
      refine gj_top (y := nI 4294967295) (by decide) ?_
      have hlk := @sp_lk_or s i f u k
      have hm1 := @sp_ma_le (sp_lk s i f u) k
      have hm2 := @sp_ak_le (sp_lk s i f u) k 6
      refine gj_icmp_eqW (tgt := 124) (by omega) (by omega) dX10_mostAlike_112 rfl (fun zq2 => ?_) (fun zq2 => ?_)
      · -- 112 taken
        have hg9 := zq2
        refine gj_iincN (L' := [some (.ref 0), some (.int (nI s)), some (.int (nI i)), some (.int (nI f)), some (.int (nI u)), some (.int (nI (sp_ma (sp_lk s i f u) k))), some (.int (nI (k + 1))), some (.int (nI (sp_ak (sp_lk s i f u) k 6))), some (.int (nI 6))]) dX10_mostAlike_124 rfl (Nat.le_of_ble_eq_true rfl) rfl ?_
        refine gj_goto (tgt := 51) dX10_mostAlike_127 rfl ?_
        refine gj_forget (i := 7) (L' := [some (.ref 0), some (.int (nI s)), some (.int (nI i)), some (.int (nI f)), some (.int (nI u)), some (.int (nI (sp_ma (sp_lk s i f u) k))), some (.int (nI (k + 1))), none, some (.int (nI 6))]) rfl ?_
        refine gj_forget (i := 8) (L' := [some (.ref 0), some (.int (nI s)), some (.int (nI i)), some (.int (nI f)), some (.int (nI u)), some (.int (nI (sp_ma (sp_lk s i f u) k))), some (.int (nI (k + 1))), none, none]) rfl ?_
        exact gj_cast (by first | rw [sp_ma_t hg9] | rw [sp_ma_f hg9]) rfl rfl ihk
      have hg9 := zq2
      refine gj_iload dX10_mostAlike_115 rfl ?_
      refine gj_iload dX10_mostAlike_117 rfl ?_
      refine gj_maxN w_634 w_609 w_83 w_610 (by omega) (by omega) dX10_mostAlike_119 rfl rfl ?_
      refine gj_istore (L' := [some (.ref 0), some (.int (nI s)), some (.int (nI i)), some (.int (nI f)), some (.int (nI u)), some (.int (nI (max (sp_ma (sp_lk s i f u) k) (sp_ak (sp_lk s i f u) k 6)))), some (.int (nI k)), some (.int (nI (sp_ak (sp_lk s i f u) k 6))), some (.int (nI 6))]) dX10_mostAlike_122 (Nat.le_of_ble_eq_true rfl) rfl ?_
      refine gj_iincN (L' := [some (.ref 0), some (.int (nI s)), some (.int (nI i)), some (.int (nI f)), some (.int (nI u)), some (.int (nI (max (sp_ma (sp_lk s i f u) k) (sp_ak (sp_lk s i f u) k 6)))), some (.int (nI (k + 1))), some (.int (nI (sp_ak (sp_lk s i f u) k 6))), some (.int (nI 6))]) dX10_mostAlike_124 rfl (Nat.le_of_ble_eq_true rfl) rfl ?_
      refine gj_goto (tgt := 51) dX10_mostAlike_127 rfl ?_
      refine gj_forget (i := 7) (L' := [some (.ref 0), some (.int (nI s)), some (.int (nI i)), some (.int (nI f)), some (.int (nI u)), some (.int (nI (max (sp_ma (sp_lk s i f u) k) (sp_ak (sp_lk s i f u) k 6)))), some (.int (nI (k + 1))), none, some (.int (nI 6))]) rfl ?_
      refine gj_forget (i := 8) (L' := [some (.ref 0), some (.int (nI s)), some (.int (nI i)), some (.int (nI f)), some (.int (nI u)), some (.int (nI (max (sp_ma (sp_lk s i f u) k) (sp_ak (sp_lk s i f u) k 6)))), some (.int (nI (k + 1))), none, none]) rfl ?_
      exact gj_cast (by first | rw [sp_ma_t hg9] | rw [sp_ma_f hg9]) rfl rfl ihk
    show gj _ _ _ _ _ _ [some (.ref 0), some (.int (nI s)), some (.int (nI i)), some (.int (nI f)), some (.int (nI u)), some (.int (nI (sp_ma (sp_lk s i f u) k))), some (.int (nI k)), some (.int (nI (sp_ak (sp_lk s i f u) k o))), some (.int (nI o))] _ _
    refine gj_iload dX10_mostAlike_64 rfl ?_
    refine gj_bp 6 dX10_mostAlike_66 (by decide) ?_
    refine gj_icmp_geN (tgt := 104) (by omega) (by omega) dX10_mostAlike_68 rfl (fun zq3 => ?_) (fun zq3 => ?_)
    · exfalso; omega
    refine gj_iload dX10_mostAlike_71 rfl ?_
    refine gj_aload_n dX10_mostAlike_73 rfl ?_
    refine gfX10_48 rfl dX10_mostAlike_74 ((mj_up_ne (by decide)).trans (hc0 κ C)) rfl ?_
    refine gj_iload dX10_mostAlike_77 rfl ?_
    refine gj_ialdN dX10_mostAlike_79 (mj_up_eq _ _ _) (by omega) (by omega) ?_
    have hlo := @sp_lk_or s i f u o
    refine gj_aload_n dX10_mostAlike_80 rfl ?_
    refine gfX10_48 rfl dX10_mostAlike_81 ((mj_up_ne (by decide)).trans (hc0 κ C)) rfl ?_
    refine gj_iload dX10_mostAlike_84 rfl ?_
    refine gj_ialdN dX10_mostAlike_86 (mj_up_eq _ _ _) (by omega) (by omega) ?_
    have hlk := @sp_lk_or s i f u k
    refine gj_icmp_neW (tgt := 94) (by omega) (by omega) dX10_mostAlike_87 rfl (fun zq4 => ?_) (fun zq4 => ?_)
    · -- 87 taken
      have ha9 := zq4
      refine gj_ic (w := 0) dX10_mostAlike_94 ?_
      refine gj_iaddN  dX10_mostAlike_95 ?_
      refine gj_istore (L' := [some (.ref 0), some (.int (nI s)), some (.int (nI i)), some (.int (nI f)), some (.int (nI u)), some (.int (nI (sp_ma (sp_lk s i f u) k))), some (.int (nI k)), some (.int (nI ((sp_ak (sp_lk s i f u) k o) + 0))), some (.int (nI o))]) dX10_mostAlike_96 (Nat.le_of_ble_eq_true rfl) rfl ?_
      refine gj_iincN (L' := [some (.ref 0), some (.int (nI s)), some (.int (nI i)), some (.int (nI f)), some (.int (nI u)), some (.int (nI (sp_ma (sp_lk s i f u) k))), some (.int (nI k)), some (.int (nI ((sp_ak (sp_lk s i f u) k o) + 0))), some (.int (nI (o + 1)))]) dX10_mostAlike_98 rfl (Nat.le_of_ble_eq_true rfl) rfl ?_
      refine gj_goto (tgt := 64) dX10_mostAlike_101 rfl ?_
      exact gj_cast (by first | rw [sp_ak_t ha9] | rw [sp_ak_f ha9]; rfl) rfl rfl iho
    have ha9 := zq4
    refine gj_ic (w := 1) dX10_mostAlike_90 ?_
    refine gj_goto (tgt := 95) dX10_mostAlike_91 rfl ?_
    refine gj_iaddN  dX10_mostAlike_95 ?_
    refine gj_istore (L' := [some (.ref 0), some (.int (nI s)), some (.int (nI i)), some (.int (nI f)), some (.int (nI u)), some (.int (nI (sp_ma (sp_lk s i f u) k))), some (.int (nI k)), some (.int (nI ((sp_ak (sp_lk s i f u) k o) + 1))), some (.int (nI o))]) dX10_mostAlike_96 (Nat.le_of_ble_eq_true rfl) rfl ?_
    refine gj_iincN (L' := [some (.ref 0), some (.int (nI s)), some (.int (nI i)), some (.int (nI f)), some (.int (nI u)), some (.int (nI (sp_ma (sp_lk s i f u) k))), some (.int (nI k)), some (.int (nI ((sp_ak (sp_lk s i f u) k o) + 1))), some (.int (nI (o + 1)))]) dX10_mostAlike_98 rfl (Nat.le_of_ble_eq_true rfl) rfl ?_
    refine gj_goto (tgt := 64) dX10_mostAlike_101 rfl ?_
    exact gj_cast (by first | rw [sp_ak_t ha9] | rw [sp_ak_f ha9]; rfl) rfl rfl iho
  show gj _ _ _ _ _ _ [some (.ref 0), some (.int (nI s)), some (.int (nI i)), some (.int (nI f)), some (.int (nI u)), some (.int (nI j)), none, none, none] _ _
  refine gj_iload dX10_mostAlike_3 rfl ?_
  refine gj_bp 6 dX10_mostAlike_5 (by decide) ?_
  refine gj_icmp_geN (tgt := 45) (by omega) (by omega) dX10_mostAlike_7 rfl (fun zq5 => ?_) (fun zq5 => ?_)
  · exfalso; omega
  refine gj_aload_n dX10_mostAlike_10 rfl ?_
  refine gfX10_48 rfl dX10_mostAlike_11 ((mj_up_ne (by decide)).trans (hc0 κ C)) rfl ?_
  refine gj_iload dX10_mostAlike_14 rfl ?_
  refine gj_iload_n dX10_mostAlike_16 rfl ?_
  refine gj_iload dX10_mostAlike_17 rfl ?_
  refine gj_S1 lkX10_200 (ev_X10_has (by omega) (by omega)) dX10_mostAlike_19 rfl rfl rfl rfl rfl ?_
  refine gj_if_eqb (tgt := 37) dX10_mostAlike_22 rfl (fun zq6 => ?_) (fun zq6 => ?_)
  · -- 22 taken
    have hw9 := zq6
    refine gj_iconst (v := (-1)) dX10_mostAlike_37 (by decide) ?_
    refine gj_top (y := nI 4294967295) (by decide) ?_
    refine gj_iastN dX10_mostAlike_38 (mj_up_eq _ _ _) (by omega) (by omega) ?_
    refine gj_iincN (L' := [some (.ref 0), some (.int (nI s)), some (.int (nI i)), some (.int (nI f)), some (.int (nI u)), some (.int (nI (j + 1))), none, none, none]) dX10_mostAlike_39 rfl (Nat.le_of_ble_eq_true rfl) rfl ?_
    refine gj_goto (tgt := 3) dX10_mostAlike_42 rfl ?_
    exact gj_cast rfl rfl (by rw [mj_up_up, mj_mix_un]; first | exact (if_pos hw9).symm | exact (if_neg (by rw [hw9]; decide)).symm) ih
  have hw9 := zq6
  refine gj_iload dX10_mostAlike_25 rfl ?_
  refine gj_iload_n dX10_mostAlike_27 rfl ?_
  refine gj_iload_n dX10_mostAlike_28 rfl ?_
  refine gj_iload dX10_mostAlike_29 rfl ?_
  refine gj_S1 lkX10_345 (ev_X0_after (by omega) (by omega) (by omega) (by omega)) dX10_mostAlike_31 rfl rfl rfl rfl rfl ?_
  have hb7 := @sp_after_le j i f u
  refine gj_goto (tgt := 38) dX10_mostAlike_34 rfl ?_
  refine gj_iastN dX10_mostAlike_38 (mj_up_eq _ _ _) (by omega) (by omega) ?_
  refine gj_iincN (L' := [some (.ref 0), some (.int (nI s)), some (.int (nI i)), some (.int (nI f)), some (.int (nI u)), some (.int (nI (j + 1))), none, none, none]) dX10_mostAlike_39 rfl (Nat.le_of_ble_eq_true rfl) rfl ?_
  refine gj_goto (tgt := 3) dX10_mostAlike_42 rfl ?_
  exact gj_cast rfl rfl (by rw [mj_up_up, mj_mix_un]; first | exact (if_pos hw9).symm | exact (if_neg (by rw [hw9]; decide)).symm) ih
