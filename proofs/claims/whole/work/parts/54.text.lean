theorem mj_CI_7 {κ : Nat → Bool} {C : Nat → Nat → Nat} {a b : Nat} (I : mj_CI κ C) : mj_CI κ (mj_u C 7 (mj_row [C 7 0, a, b])) := by
  refine mj_CI_of I (fun j j1 j2 => mj_u_ne (by omega)) ?_ ?_ ?_ ?_
  · rw [mj_u_ne (by decide)]; exact I.2.2.2.2.1
  · rw [mj_u_ne (by decide)]; exact I.2.2.2.2.2.1
  · rw [mj_u_eq]; exact I.2.2.2.2.2.2.1
  · rw [mj_u_ne (by decide)]; exact I.2.2.2.2.2.2.2.1
theorem mj_CI_40 {κ : Nat → Bool} {C : Nat → Nat → Nat} {i : Nat} {K : Nat → Nat} (I : mj_CI κ C) (h : 40 ≤ i) (h2 : i < 59) (h3 : i ≠ 52) (h4 : i ≠ 54) (hK : ∀ c, K c ≤ mj_lim (i - 40)) : mj_CI κ (mj_u C i K) := by
  have li : ∀ b, b ≠ 40 → (b + 19 ≤ 40 ∨ 59 ≤ b) → mj_Li b C → mj_Li b (mj_u C i K) := fun b b0 b1 q o ho c => by rw [mj_u_ne (by omega)]; exact q o ho c
  have lr : ∀ b, (b = 20 ∨ b = 40 ∨ b = 60 ∨ b = 80) → mj_Lr b C → mj_Lr b (mj_u C i K) := fun b b1 q j => by rw [mj_u_ne (by omega), mj_u_ne (by omega)]; exact q j
  obtain ⟨i1, i2, i3, i4, i5, i6, i7, i8, i9, i10, i11, i12⟩ := I
  refine ⟨li 20 (by decide) (by decide) i1, fun o ho c => ?_, fun q => li 60 (by decide) (by decide) (i3 q), fun q => li 80 (by decide) (by decide) (i4 q), ?_, ?_, ?_, ?_, lr 20 (by decide) i9, lr 40 (by decide) i10, fun q => lr 60 (by decide) (i11 q), fun q => lr 80 (by decide) (i12 q)⟩
  · by_cases q : 40 + o = i
    · rw [q, mj_u_eq]; have := hK c; rwa [show i - 40 = o by omega] at this
    · rw [mj_u_ne q]; exact i2 o ho c
  · rw [mj_u_ne (by omega)]; exact i5
  · rw [mj_u_ne (by omega)]; exact i6
  · rw [mj_u_ne (by omega)]; exact i7
  · rw [mj_u_ne (by omega)]; exact i8
set_option maxHeartbeats 1000000 in
set_option maxRecDepth 10000 in
theorem ev_X5_findTokens {E : mj_E} {κ : Nat → Bool} {C : Nat → Nat → Nat} (I : mj_CI κ C)  : mj_Ev E iX5_findTokens [.ref 7] (hh κ C) (mj_R none (hh κ (mj_u (mj_u C 9 (mj_mix (sp_tt (C 8) (C 7 0)) (C 9) (sp_tE (C 8) (C 7 0) + 1))) 10 (mj_mix (sp_ss (C 8) (C 7 0)) (C 10) (sp_tE (C 8) (C 7 0) + 1))))) := by
  have hl7x : C 7 0 ≤ 150 := I.2.2.2.2.2.2.1
  have hB : ∀ c, C 8 c ≤ 127 := I.2.2.2.2.2.2.2.1
  refine mj_Ev.of (L0 := [some (.ref 7), none, none, none]) pnRX5 (Nat.le_of_ble_eq_true rfl) rfl ?_
  refine gj_ic (w := 0) dX5_findTokens_0 ?_
  refine gj_istore_n (L' := [some (.ref 7), some (.int (nI 0)), none, none]) dX5_findTokens_1 (Nat.le_of_ble_eq_true rfl) rfl ?_
  refine gj_ic (w := 0) dX5_findTokens_2 ?_
  refine gj_istore_n (L' := [some (.ref 7), some (.int (nI 0)), some (.int (nI 0)), none]) dX5_findTokens_3 (Nat.le_of_ble_eq_true rfl) rfl ?_
  refine gj_cast (L' := [some (.ref 7), some (.int (nI (sp_ps (C 8) (C 7 0) 0))), some (.int (nI 0)), none]) (st' := []) (h' := hh κ (mj_u (mj_u C 9 (mj_mix (sp_tt (C 8) (C 7 0)) (C 9) 0)) 10 (mj_mix (sp_ss (C 8) (C 7 0)) (C 10) 0))) rfl rfl (by rw [mj_mix_0, mj_mix_0, mj_u_self, mj_u_self]) ?_
  refine gj_loopI (fun j => ∀ i, i < j → (fun t => decide (sp_tt (C 8) (C 7 0) t = 4294967295)) i = false) (fun j => [some (.ref 7), some (.int (nI (sp_ps (C 8) (C 7 0) j))), some (.int (nI j)), none]) (fun j => hh κ (mj_u (mj_u C 9 (mj_mix (sp_tt (C 8) (C 7 0)) (C 9) j)) 10 (mj_mix (sp_ss (C 8) (C 7 0)) (C 10) j))) 151 (fun hq => ?_) (fun j hj hq ih => ?_) 0 (Nat.zero_le _) (fun i hi => absurd hi (Nat.not_lt_zero _))
  · show gj _ _ _ _ _ _ [some (.ref 7), some (.int (nI (sp_ps (C 8) (C 7 0) 151))), some (.int (nI 151)), none] _ _
    have hps := @sp_ps_le (C 8) (C 7 0) 151
    refine gj_iload_n dX5_findTokens_4 rfl ?_
    refine gj_sp 150 dX5_findTokens_5 (by decide) ?_
    refine gj_icmp_gtN (tgt := 65) (by omega) (by omega) dX5_findTokens_8 rfl (fun zq0 => ?_) (fun zq0 => ?_)
    rotate_left
    · exfalso; omega
    exfalso
    have hx1 := sp_ps_t (B := C 8) (n := C 7 0) (t := 151) (fun i hi => of_decide_eq_false (hq i hi))
    have hx2 := @sp_ps_le (C 8) (C 7 0) 151
    omega
  show gj _ _ _ _ _ _ [some (.ref 7), some (.int (nI (sp_ps (C 8) (C 7 0) j))), some (.int (nI j)), none] _ _
  have hps := @sp_ps_le (C 8) (C 7 0) j
  refine gj_iload_n dX5_findTokens_4 rfl ?_
  refine gj_sp 150 dX5_findTokens_5 (by decide) ?_
  refine gj_icmp_gtN (tgt := 65) (by omega) (by omega) dX5_findTokens_8 rfl (fun zq1 => ?_) (fun zq1 => ?_)
  · exfalso; omega
  refine gj_aload_n dX5_findTokens_11 rfl ?_
  refine gj_iload_n dX5_findTokens_12 rfl ?_
  refine gj_bp 32 dX5_findTokens_13 (by decide) ?_
  refine gj_bp 32 dX5_findTokens_15 (by decide) ?_
  refine gj_V1 lkX5_107 (hc7 κ (mj_u (mj_u C 9 (mj_mix (sp_tt (C 8) (C 7 0)) (C 9) j)) 10 (mj_mix (sp_ss (C 8) (C 7 0)) (C 10) j))) rfl rfl (ev_X5_endOfRun (C := (mj_u (mj_u C 9 (mj_mix (sp_tt (C 8) (C 7 0)) (C 9) j)) 10 (mj_mix (sp_ss (C 8) (C 7 0)) (C 10) j))) (mj_CI_u (mj_CI_u I (by decide) (by decide) (by decide) (by decide) (by decide)) (by decide) (by decide) (by decide) (by decide) (by decide)) (show sp_ps (C 8) (C 7 0) j ≤ C 7 0 by omega) (show 32 ≤ 127 by omega) (show 32 ≤ 127 by omega)) dX5_findTokens_17 rfl rfl rfl rfl rfl ?_
  show gj _ _ _ _ _ _ _ ((.int (nI (sp_er (C 8) (C 7 0) 32 32 (sp_ps (C 8) (C 7 0) j))) : Value) :: _) _
  have hb2 := @sp_er_le (C 8) (C 7 0) 32 32 (sp_ps (C 8) (C 7 0) j) (by omega)
  refine gj_topN rfl ?_
  have hss := @sp_ss_le (C 8) (C 7 0) j
  refine gj_istore_n (L' := [some (.ref 7), some (.int (nI (sp_ss (C 8) (C 7 0) j))), some (.int (nI j)), none]) dX5_findTokens_20 (Nat.le_of_ble_eq_true rfl) rfl ?_
  refine gj_aload_n dX5_findTokens_21 rfl ?_
  refine gj_iload_n dX5_findTokens_22 rfl ?_
  refine gj_V1 lkX5_111 (hc7 κ (mj_u (mj_u C 9 (mj_mix (sp_tt (C 8) (C 7 0)) (C 9) j)) 10 (mj_mix (sp_ss (C 8) (C 7 0)) (C 10) j))) rfl rfl (ev_X5_endOfToken (C := (mj_u (mj_u C 9 (mj_mix (sp_tt (C 8) (C 7 0)) (C 9) j)) 10 (mj_mix (sp_ss (C 8) (C 7 0)) (C 10) j))) (mj_CI_u (mj_CI_u I (by decide) (by decide) (by decide) (by decide) (by decide)) (by decide) (by decide) (by decide) (by decide) (by decide)) (show sp_ss (C 8) (C 7 0) j ≤ C 7 0 by omega)) dX5_findTokens_23 rfl rfl rfl rfl rfl ?_
  show gj _ _ _ _ _ _ _ ((.int (nI (sp_eb (C 8) (C 7 0) (sp_ss (C 8) (C 7 0) j))) : Value) :: _) _
  have hb3 := @sp_eb_le (C 8) (C 7 0) (sp_ss (C 8) (C 7 0) j) (by omega)
  refine gj_topN rfl ?_
  refine gj_istore_n (L' := [some (.ref 7), some (.int (nI (sp_ss (C 8) (C 7 0) j))), some (.int (nI j)), some (.int (nI (sp_ps (C 8) (C 7 0) (j + 1))))]) dX5_findTokens_26 (Nat.le_of_ble_eq_true rfl) rfl ?_
  refine gj_aload_n dX5_findTokens_27 rfl ?_
  refine gfX5_22 rfl dX5_findTokens_28 (hc7 κ (mj_u (mj_u C 9 (mj_mix (sp_tt (C 8) (C 7 0)) (C 9) j)) 10 (mj_mix (sp_ss (C 8) (C 7 0)) (C 10) j))) rfl ?_
  refine gj_iload_n dX5_findTokens_31 rfl ?_
  refine gj_iload_n dX5_findTokens_32 rfl ?_
  refine gj_iastN dX5_findTokens_33 (hc10 κ (mj_u (mj_u C 9 (mj_mix (sp_tt (C 8) (C 7 0)) (C 9) j)) 10 (mj_mix (sp_ss (C 8) (C 7 0)) (C 10) j))) (by omega) (by omega) ?_
  refine gj_cast (h' := hh κ (mj_u (mj_u C 9 (mj_mix (sp_tt (C 8) (C 7 0)) (C 9) j)) 10 (mj_mix (sp_ss (C 8) (C 7 0)) (C 10) (j + 1)))) rfl rfl ((hu10 (K := mj_un (mj_mix (sp_ss (C 8) (C 7 0)) (C 10) j) j (sp_ss (C 8) (C 7 0) j)) rfl).trans (congrArg (hh κ) (by rw [mj_mix_un rfl]; funext x; unfold mj_u; (repeat' split) <;> first | rfl | omega))) ?_
  refine gj_aload_n dX5_findTokens_34 rfl ?_
  refine gfX5_19 rfl dX5_findTokens_35 (hc7 κ (mj_u (mj_u C 9 (mj_mix (sp_tt (C 8) (C 7 0)) (C 9) j)) 10 (mj_mix (sp_ss (C 8) (C 7 0)) (C 10) (j + 1)))) rfl ?_
  refine gj_iload_n dX5_findTokens_38 rfl ?_
  refine gj_aload_n dX5_findTokens_39 rfl ?_
  refine gj_iload_n dX5_findTokens_40 rfl ?_
  refine gj_iload_n dX5_findTokens_41 rfl ?_
  refine gj_V1 lkX5_115 (hc7 κ (mj_u (mj_u C 9 (mj_mix (sp_tt (C 8) (C 7 0)) (C 9) j)) 10 (mj_mix (sp_ss (C 8) (C 7 0)) (C 10) (j + 1)))) rfl rfl (ev_X5_tokenIn (C := (mj_u (mj_u C 9 (mj_mix (sp_tt (C 8) (C 7 0)) (C 9) j)) 10 (mj_mix (sp_ss (C 8) (C 7 0)) (C 10) (j + 1)))) (mj_CI_u (mj_CI_u I (by decide) (by decide) (by decide) (by decide) (by decide)) (by decide) (by decide) (by decide) (by decide) (by decide)) (show sp_ss (C 8) (C 7 0) j ≤ C 7 0 by omega)) dX5_findTokens_42 rfl rfl rfl rfl rfl ?_
  show gj _ _ _ _ _ _ _ ((.int (nI (sp_tk (C 8) (C 7 0) (sp_ss (C 8) (C 7 0) j) (sp_eb (C 8) (C 7 0) (sp_ss (C 8) (C 7 0) j)))) : Value) :: _) _
  have hb4 := @sp_tk_lt (C 8) (C 7 0) (sp_ss (C 8) (C 7 0) j) (sp_eb (C 8) (C 7 0) (sp_ss (C 8) (C 7 0) j)) hB
  refine gj_topN rfl ?_
  refine gj_iastN dX5_findTokens_45 (hc9 κ (mj_u (mj_u C 9 (mj_mix (sp_tt (C 8) (C 7 0)) (C 9) j)) 10 (mj_mix (sp_ss (C 8) (C 7 0)) (C 10) (j + 1)))) (by omega) (by omega) ?_
  refine gj_cast (h' := hh κ (mj_u (mj_u C 9 (mj_mix (sp_tt (C 8) (C 7 0)) (C 9) (j + 1))) 10 (mj_mix (sp_ss (C 8) (C 7 0)) (C 10) (j + 1)))) rfl rfl ((hu9 (K := mj_un (mj_mix (sp_tt (C 8) (C 7 0)) (C 9) j) j (sp_tt (C 8) (C 7 0) j)) rfl).trans (congrArg (hh κ) (by rw [mj_mix_un rfl]; funext x; unfold mj_u; (repeat' split) <;> first | rfl | omega))) ?_
  refine gj_aload_n dX5_findTokens_46 rfl ?_
  refine gfX5_19 rfl dX5_findTokens_47 (hc7 κ (mj_u (mj_u C 9 (mj_mix (sp_tt (C 8) (C 7 0)) (C 9) (j + 1))) 10 (mj_mix (sp_ss (C 8) (C 7 0)) (C 10) (j + 1)))) rfl ?_
  refine gj_iload_n dX5_findTokens_50 rfl ?_
  refine gj_ialdN dX5_findTokens_51 (hc9 κ (mj_u (mj_u C 9 (mj_mix (sp_tt (C 8) (C 7 0)) (C 9) (j + 1))) 10 (mj_mix (sp_ss (C 8) (C 7 0)) (C 10) (j + 1)))) (by omega) (by omega) ?_
  show gj _ _ _ _ _ _ _ ((.int (nI ((mj_mix (sp_tt (C 8) (C 7 0)) (C 9) (j + 1)) j)) : Value) :: _) _
  refine gj_topN (mj_mix_lt (Nat.lt_succ_self _)) ?_
  have htl := sp_tt_lt (n := C 7 0) (t := j) hB
  refine gj_iconst (v := (-1)) dX5_findTokens_52 (by decide) ?_
  refine gj_top (y := nI 4294967295) (by decide) ?_
  refine gj_icmp_neW (tgt := 57) (by omega) (by omega) dX5_findTokens_53 rfl (fun zq5 => ?_) (fun zq5 => ?_)
  · -- 53 taken
    have hn9 : (fun t => decide (sp_tt (C 8) (C 7 0) t = 4294967295)) j = false := decide_eq_false zq5
    refine gj_iload_n dX5_findTokens_57 rfl ?_
    refine gj_istore_n (L' := [some (.ref 7), some (.int (nI (sp_ps (C 8) (C 7 0) (j + 1)))), some (.int (nI j)), some (.int (nI (sp_ps (C 8) (C 7 0) (j + 1))))]) dX5_findTokens_58 (Nat.le_of_ble_eq_true rfl) rfl ?_
    refine gj_iincN (L' := [some (.ref 7), some (.int (nI (sp_ps (C 8) (C 7 0) (j + 1)))), some (.int (nI (j + 1))), some (.int (nI (sp_ps (C 8) (C 7 0) (j + 1))))]) dX5_findTokens_59 rfl (Nat.le_of_ble_eq_true rfl) rfl ?_
    refine gj_goto (tgt := 4) dX5_findTokens_62 rfl ?_
    refine gj_forget (i := 3) (L' := [some (.ref 7), some (.int (nI (sp_ps (C 8) (C 7 0) (j + 1)))), some (.int (nI (j + 1))), none]) rfl ?_
    exact (ih (fun i hi => by by_cases q : i = j <;> first | (subst q; exact hn9) | exact hq i (by omega)))
  have hp9 : (fun t => decide (sp_tt (C 8) (C 7 0) t = 4294967295)) j = true := decide_eq_true zq5
  have hte : sp_tE (C 8) (C 7 0) = j := sp_fst_at hj hp9 hq
  exact gj_vr rfl dX5_findTokens_56 (by rw [hte])
