theorem sp_uu {K : Nat → Nat} {i x y : Nat} : mj_un (mj_un K i x) i y = mj_un K i y := by
  funext q
  by_cases z : q = i
  · rw [z, mj_un_eq, mj_un_eq]
  · rw [mj_un_ne z, mj_un_ne z, mj_un_ne z]
theorem sp_us {K : Nat → Nat} {i : Nat} : mj_un K i (K i) = K := by
  funext q
  by_cases z : q = i
  · rw [z, mj_un_eq]
  · rw [mj_un_ne z]
/-- the neighbour of c in the direction d, and whether there is one -/
def sp_nbr (c d : Nat) : Nat := if d = 0 then c - 5 else if d = 1 then c - 1 else if d = 2 then c + 1 else c + 5
def sp_nbk (c d : Nat) : Bool := if d = 0 then decide (5 ≤ c) else if d = 1 then decide (0 < c % 5) else if d = 2 then decide (c % 5 < 4) else decide (c < 20)
def sp_lnv (F : Nat → Nat) (c n : Nat) : Nat := mj_fo (fun d v => if sp_nbk c d = true ∧ F (sp_nbr c d) + 1 < v then F (sp_nbr c d) + 1 else v) (F c) n
theorem sp_lnv_s {F : Nat → Nat} {c n : Nat} : sp_lnv F c (n + 1) = if sp_nbk c n = true ∧ F (sp_nbr c n) + 1 < sp_lnv F c n then F (sp_nbr c n) + 1 else sp_lnv F c n := mj_fo_s
theorem sp_lnv_t {F : Nat → Nat} {c n m : Nat} (h : sp_nbk c n = true) (e : sp_nbr c n = m) (h2 : F m + 1 < sp_lnv F c n) : sp_lnv F c (n + 1) = F m + 1 := by rw [sp_lnv_s, e, if_pos ⟨h, h2⟩]
theorem sp_lnv_f {F : Nat → Nat} {c n m : Nat} (e : sp_nbr c n = m) (h2 : sp_lnv F c n ≤ F m + 1) : sp_lnv F c (n + 1) = sp_lnv F c n := by rw [sp_lnv_s, e, if_neg (fun z => absurd z.2 (Nat.not_lt.mpr h2))]
theorem sp_lnv_k {F : Nat → Nat} {c n : Nat} (h : sp_nbk c n = false) : sp_lnv F c (n + 1) = sp_lnv F c n := by rw [sp_lnv_s, if_neg (fun z => by rw [h] at z; exact absurd z.1 (by decide))]
theorem sp_lnv_le {F : Nat → Nat} {c n : Nat} : sp_lnv F c n ≤ F c := by
  induction n with
  | zero => exact Nat.le_refl _
  | succ n ih => rw [sp_lnv_s]; split <;> omega
theorem ly_b0 : ∀ c, c < 25 → 5 ≤ c → sp_abs (c - 5) c = true := by decide +kernel
theorem ly_b1 : ∀ c, c < 25 → 0 < c % 5 → sp_abs (c - 1) c = true := by decide +kernel
theorem ly_b2 : ∀ c, c < 25 → c % 5 < 4 → sp_abs (c + 1) c = true := by decide +kernel
theorem ly_b3 : ∀ c, c < 20 → sp_abs (c + 5) c = true := by decide +kernel
theorem ly_n1 : ∀ c, c < 25 → c % 5 = 0 → sp_abs (c - 1) c = false ∨ c = 0 := by decide +kernel
theorem ly_n2 : ∀ c, c < 24 → c % 5 = 4 → sp_abs (c + 1) c = false := by decide +kernel
theorem ly_r0 : ∀ c, c < 5 → decide (nI 0 ≤ nI c - nI 5 ∧ nI c - nI 5 ≤ nI 24) = false := by decide +kernel
theorem ly_r1 : ∀ c, c < 1 → decide (nI 0 ≤ nI c - nI 1 ∧ nI c - nI 1 ≤ nI 24) = false := by decide +kernel
theorem ly_r2 : ∀ c, c < 25 → 24 ≤ c → decide (nI 0 ≤ nI c + nI 1 ∧ nI c + nI 1 ≤ nI 24) = false := by decide +kernel
theorem ly_r3 : ∀ c, c < 25 → 20 ≤ c → decide (nI 0 ≤ nI c + nI 5 ∧ nI c + nI 5 ≤ nI 24) = false := by decide +kernel
set_option maxHeartbeats 1000000 in
set_option maxRecDepth 10000 in
theorem ev_X11_layNearer {E : mj_E} {h : mj_H} {a0 a1 y2 y3 y4 y5 y6 : Nat} (H0 : h 100 = some (mj_mo a0 a1 y2 y3 y4 y5 y6)) {F : Nat → Nat} (HF : h 106 = some (mj_ar 25 F)) {c : Nat} (h0 : c < 25) (h1 : ∀ q, q < 25 → F q ≤ 1000000) : mj_Ev E iX11_layNearer [.ref 100, .int (nI c)] h (mj_R (some (.int (mj_b (decide (sp_lnv F c 4 < F c))))) (mj_up h 106 (mj_ar 25 (mj_un F c (sp_lnv F c 4))))) := by
  refine mj_Ev.of (L0 := [some (.ref 100), some (.int (nI c)), none, none, none]) pnRX11 (Nat.le_of_ble_eq_true rfl) rfl ?_
  have hb9 := h1 c h0
  refine gj_aload_n dX11_layNearer_0 rfl ?_
  refine gfX11_30 rfl dX11_layNearer_1 H0 rfl ?_
  refine gj_iload_n dX11_layNearer_4 rfl ?_
  refine gj_ialdN dX11_layNearer_5 HF (by omega) (by omega) ?_
  refine gj_istore_n (L' := [some (.ref 100), some (.int (nI c)), some (.int (nI (F c))), none, none]) dX11_layNearer_6 (Nat.le_of_ble_eq_true rfl) rfl ?_
  refine gj_ic (w := 0) dX11_layNearer_7 ?_
  refine gj_istore_n (L' := [some (.ref 100), some (.int (nI c)), some (.int (nI (F c))), some (.int (nI 0)), none]) dX11_layNearer_8 (Nat.le_of_ble_eq_true rfl) rfl ?_
  refine gj_cast (L' := [some (.ref 100), some (.int (nI c)), some (.int (nI (F c))), some (.int (nI 0)), none]) (st' := []) (h' := mj_up h 106 (mj_ar 25 (mj_un F c (sp_lnv F c 0)))) rfl rfl (by rw [show sp_lnv F c 0 = F c from rfl, sp_us, mj_up_self HF]) ?_
  refine gj_loop (fun j => [some (.ref 100), some (.int (nI c)), some (.int (nI (F c))), some (.int (nI j)), none]) (fun j => mj_up h 106 (mj_ar 25 (mj_un F c (sp_lnv F c j)))) 4 ?_ (fun j hj ih => ?_) 0 (Nat.zero_le _)
  · show gj _ _ _ _ _ _ [some (.ref 100), some (.int (nI c)), some (.int (nI (F c))), some (.int (nI 4)), none] _ _
    refine gj_iload_n dX11_layNearer_9 rfl ?_
    refine gj_ic (w := 4) dX11_layNearer_10 ?_
    refine gj_icmp_geN (tgt := 107) (by omega) (by omega) dX11_layNearer_11 rfl (fun zq0 => ?_) (fun zq0 => ?_)
    rotate_left
    · exfalso; omega
    have hl8 := @sp_lnv_le F c 4
    refine gj_aload_n dX11_layNearer_107 rfl ?_
    refine gfX11_30 rfl dX11_layNearer_108 ((mj_up_ne (by decide)).trans H0) rfl ?_
    refine gj_iload_n dX11_layNearer_111 rfl ?_
    refine gj_ialdN dX11_layNearer_112 (mj_up_eq _ _ _) (by omega) (by omega) ?_
    refine gj_topN (mj_un_eq _ _ _) ?_
    refine gj_iload_n dX11_layNearer_113 rfl ?_
    refine gj_icmp_geN (tgt := 121) (by omega) (by omega) dX11_layNearer_114 rfl (fun zq1 => ?_) (fun zq1 => ?_)
    · -- 114 taken
      refine gj_ic (w := 0) dX11_layNearer_121 ?_
      exact gj_zr rfl dX11_layNearer_122 rfl (mj_b0 (by first | exact decide_eq_true (by omega) | exact decide_eq_false (by omega))) rfl
    refine gj_ic (w := 1) dX11_layNearer_117 ?_
    refine gj_goto (tgt := 122) dX11_layNearer_118 rfl ?_
    exact gj_zr rfl dX11_layNearer_122 rfl (mj_b1 (by first | exact decide_eq_true (by omega) | exact decide_eq_false (by omega))) rfl
  show gj _ _ _ _ _ _ [some (.ref 100), some (.int (nI c)), some (.int (nI (F c))), some (.int (nI j)), none] _ _
  refine gj_iload_n dX11_layNearer_9 rfl ?_
  refine gj_ic (w := 4) dX11_layNearer_10 ?_
  refine gj_icmp_geN (tgt := 107) (by omega) (by omega) dX11_layNearer_11 rfl (fun zq2 => ?_) (fun zq2 => ?_)
  · exfalso; omega
  rcases (by omega : (j = 0 ∧ (5 ≤ c)) ∨ (j = 0 ∧ (¬ 5 ≤ c)) ∨ (j = 1 ∧ (0 < c % 5)) ∨ (j = 1 ∧ (c % 5 = 0 ∧ 0 < c)) ∨ (j = 1 ∧ (c = 0)) ∨ (j = 2 ∧ (c % 5 < 4)) ∨ (j = 2 ∧ (c % 5 = 4 ∧ c < 24)) ∨ (j = 2 ∧ (c = 24)) ∨ (j = 3 ∧ (c < 20)) ∨ (j = 3 ∧ (¬ c < 20))) with ⟨hj9, hc9⟩ | ⟨hj9, hc9⟩ | ⟨hj9, hc9⟩ | ⟨hj9, hc9⟩ | ⟨hj9, hc9⟩ | ⟨hj9, hc9⟩ | ⟨hj9, hc9⟩ | ⟨hj9, hc9⟩ | ⟨hj9, hc9⟩ | ⟨hj9, hc9⟩
  · -- 0 5 ≤ c
    refine gj_iload_n dX11_layNearer_14 rfl ?_
    refine gj_if_neN (tgt := 24) (by omega) dX11_layNearer_15 rfl (fun zq3 => ?_) (fun zq3 => ?_)
    · exfalso; omega
    refine gj_iload_n dX11_layNearer_18 rfl ?_
    refine gj_ic (w := 5) dX11_layNearer_19 ?_
    refine gj_isubN (by omega) dX11_layNearer_20 ?_
    refine gj_goto (tgt := 49) dX11_layNearer_21 rfl ?_
    refine gj_istore (L' := [some (.ref 100), some (.int (nI c)), some (.int (nI (F c))), some (.int (nI j)), some (.int (nI (c - 5)))]) dX11_layNearer_49 (Nat.le_of_ble_eq_true rfl) rfl ?_
    refine gj_iload dX11_layNearer_51 rfl ?_
    refine gj_S1 lkX11_70 (ev_X11_isCell_t (by omega) (by omega)) dX11_layNearer_53 rfl rfl rfl rfl rfl ?_
    refine gj_if_eqN (tgt := 101) (by omega) dX11_layNearer_56 rfl (fun zq0 => ?_) (fun zq0 => ?_)
    · exfalso; revert zq0; decide
    have hl9 := @sp_lnv_le F c j
    refine gj_iload dX11_layNearer_59 rfl ?_
    refine gj_iload_n dX11_layNearer_61 rfl ?_
    refine gj_S1 lkX11_112 (ev_X11_areBeside (by omega) (by omega)) dX11_layNearer_62 rfl rfl rfl rfl rfl ?_
    refine gj_if_eqb (tgt := 101) dX11_layNearer_65 rfl (fun zq4 => ?_) (fun zq4 => ?_)
    · exfalso; exact absurd (ly_b0 c h0 hc9) (by rw [zq4]; decide)
    refine gj_aload_n dX11_layNearer_68 rfl ?_
    refine gfX11_30 rfl dX11_layNearer_69 ((mj_up_ne (by decide)).trans H0) rfl ?_
    have hb7 := h1 (c - 5) (by omega)
    refine gj_iload dX11_layNearer_72 rfl ?_
    refine gj_ialdN dX11_layNearer_74 (mj_up_eq _ _ _) (by omega) (by omega) ?_
    refine gj_topN (mj_un_ne (by omega)) ?_
    refine gj_ic (w := 1) dX11_layNearer_75 ?_
    have hbn := h1
    refine gj_iaddN  dX11_layNearer_76 ?_
    refine gj_aload_n dX11_layNearer_77 rfl ?_
    refine gfX11_30 rfl dX11_layNearer_78 ((mj_up_ne (by decide)).trans H0) rfl ?_
    refine gj_iload_n dX11_layNearer_81 rfl ?_
    refine gj_ialdN dX11_layNearer_82 (mj_up_eq _ _ _) (by omega) (by omega) ?_
    refine gj_topN (mj_un_eq _ _ _) ?_
    refine gj_icmp_geN (tgt := 101) (by omega) (by omega) dX11_layNearer_83 rfl (fun zq5 => ?_) (fun zq5 => ?_)
    · -- 83 taken
      have hq9 := zq5
      refine gj_iincN (L' := [some (.ref 100), some (.int (nI c)), some (.int (nI (F c))), some (.int (nI (j + 1))), some (.int (nI (c - 5)))]) dX11_layNearer_101 rfl (Nat.le_of_ble_eq_true rfl) rfl ?_
      refine gj_goto (tgt := 9) dX11_layNearer_104 rfl ?_
      refine gj_forget (i := 4) (L' := [some (.ref 100), some (.int (nI c)), some (.int (nI (F c))), some (.int (nI (j + 1))), none]) rfl ?_
      first | exact gj_cast rfl rfl (by rw [mj_up_up, sp_uu, sp_lnv_t (by rw [hj9]; exact decide_eq_true hc9) (by rw [hj9]; rfl) hq9]) ih | exact gj_cast rfl rfl (by rw [sp_lnv_f (m := c - 5) (by rw [hj9]; rfl) hq9]) ih
    have hq9 := zq5
    refine gj_aload_n dX11_layNearer_86 rfl ?_
    refine gfX11_30 rfl dX11_layNearer_87 ((mj_up_ne (by decide)).trans H0) rfl ?_
    refine gj_iload_n dX11_layNearer_90 rfl ?_
    refine gj_aload_n dX11_layNearer_91 rfl ?_
    refine gfX11_30 rfl dX11_layNearer_92 ((mj_up_ne (by decide)).trans H0) rfl ?_
    refine gj_iload dX11_layNearer_95 rfl ?_
    refine gj_ialdN dX11_layNearer_97 (mj_up_eq _ _ _) (by omega) (by omega) ?_
    refine gj_topN (mj_un_ne (by omega)) ?_
    refine gj_ic (w := 1) dX11_layNearer_98 ?_
    refine gj_iaddN  dX11_layNearer_99 ?_
    refine gj_iastN dX11_layNearer_100 (mj_up_eq _ _ _) (by omega) (by omega) ?_
    refine gj_iincN (L' := [some (.ref 100), some (.int (nI c)), some (.int (nI (F c))), some (.int (nI (j + 1))), some (.int (nI (c - 5)))]) dX11_layNearer_101 rfl (Nat.le_of_ble_eq_true rfl) rfl ?_
    refine gj_goto (tgt := 9) dX11_layNearer_104 rfl ?_
    refine gj_forget (i := 4) (L' := [some (.ref 100), some (.int (nI c)), some (.int (nI (F c))), some (.int (nI (j + 1))), none]) rfl ?_
    first | exact gj_cast rfl rfl (by rw [mj_up_up, sp_uu, sp_lnv_t (by rw [hj9]; exact decide_eq_true hc9) (by rw [hj9]; rfl) hq9]) ih | exact gj_cast rfl rfl (by rw [sp_lnv_f (m := c - 5) (by rw [hj9]; rfl) hq9]) ih
  · -- 0 ¬ 5 ≤ c
    refine gj_iload_n dX11_layNearer_14 rfl ?_
    refine gj_if_neN (tgt := 24) (by omega) dX11_layNearer_15 rfl (fun zq6 => ?_) (fun zq6 => ?_)
    · exfalso; omega
    refine gj_iload_n dX11_layNearer_18 rfl ?_
    refine gj_ic (w := 5) dX11_layNearer_19 ?_
    refine gj_isub dX11_layNearer_20 ?_
    refine gj_goto (tgt := 49) dX11_layNearer_21 rfl ?_
    refine gj_istore (L' := [some (.ref 100), some (.int (nI c)), some (.int (nI (F c))), some (.int (nI j)), some (.int ((nI c) - (nI 5)))]) dX11_layNearer_49 (Nat.le_of_ble_eq_true rfl) rfl ?_
    refine gj_iload dX11_layNearer_51 rfl ?_
    refine gj_S1 lkX11_70 ev_X11_isCell dX11_layNearer_53 rfl rfl rfl rfl rfl ?_
    refine gj_if_eqb (tgt := 101) dX11_layNearer_56 rfl (fun zq7 => ?_) (fun zq7 => ?_)
    rotate_left
    · exfalso; exact absurd (ly_r0 c (by omega)) (by rw [zq7]; decide)
    refine gj_iincN (L' := [some (.ref 100), some (.int (nI c)), some (.int (nI (F c))), some (.int (nI (j + 1))), some (.int ((nI c) - (nI 5)))]) dX11_layNearer_101 rfl (Nat.le_of_ble_eq_true rfl) rfl ?_
    refine gj_goto (tgt := 9) dX11_layNearer_104 rfl ?_
    refine gj_forget (i := 4) (L' := [some (.ref 100), some (.int (nI c)), some (.int (nI (F c))), some (.int (nI (j + 1))), none]) rfl ?_
    exact gj_cast rfl rfl (by rw [sp_lnv_k (by rw [hj9]; simp only [sp_nbk]; simp; omega)]) ih
  · -- 1 0 < c % 5
    refine gj_iload_n dX11_layNearer_14 rfl ?_
    refine gj_if_neN (tgt := 24) (by omega) dX11_layNearer_15 rfl (fun zq8 => ?_) (fun zq8 => ?_)
    rotate_left
    · exfalso; omega
    refine gj_iload_n dX11_layNearer_24 rfl ?_
    refine gj_ic (w := 1) dX11_layNearer_25 ?_
    refine gj_icmp_neN (tgt := 35) (by omega) (by omega) dX11_layNearer_26 rfl (fun zq9 => ?_) (fun zq9 => ?_)
    · exfalso; omega
    refine gj_iload_n dX11_layNearer_29 rfl ?_
    refine gj_ic (w := 1) dX11_layNearer_30 ?_
    refine gj_isubN (by omega) dX11_layNearer_31 ?_
    refine gj_goto (tgt := 49) dX11_layNearer_32 rfl ?_
    refine gj_istore (L' := [some (.ref 100), some (.int (nI c)), some (.int (nI (F c))), some (.int (nI j)), some (.int (nI (c - 1)))]) dX11_layNearer_49 (Nat.le_of_ble_eq_true rfl) rfl ?_
    refine gj_iload dX11_layNearer_51 rfl ?_
    refine gj_S1 lkX11_70 (ev_X11_isCell_t (by omega) (by omega)) dX11_layNearer_53 rfl rfl rfl rfl rfl ?_
    refine gj_if_eqN (tgt := 101) (by omega) dX11_layNearer_56 rfl (fun zq0 => ?_) (fun zq0 => ?_)
    · exfalso; revert zq0; decide
    have hl9 := @sp_lnv_le F c j
    refine gj_iload dX11_layNearer_59 rfl ?_
    refine gj_iload_n dX11_layNearer_61 rfl ?_
    refine gj_S1 lkX11_112 (ev_X11_areBeside (by omega) (by omega)) dX11_layNearer_62 rfl rfl rfl rfl rfl ?_
    refine gj_if_eqb (tgt := 101) dX11_layNearer_65 rfl (fun zq10 => ?_) (fun zq10 => ?_)
    · exfalso; exact absurd (ly_b1 c h0 hc9) (by rw [zq10]; decide)
    refine gj_aload_n dX11_layNearer_68 rfl ?_
    refine gfX11_30 rfl dX11_layNearer_69 ((mj_up_ne (by decide)).trans H0) rfl ?_
    have hb7 := h1 (c - 1) (by omega)
    refine gj_iload dX11_layNearer_72 rfl ?_
    refine gj_ialdN dX11_layNearer_74 (mj_up_eq _ _ _) (by omega) (by omega) ?_
    refine gj_topN (mj_un_ne (by omega)) ?_
    refine gj_ic (w := 1) dX11_layNearer_75 ?_
    have hbn := h1
    refine gj_iaddN  dX11_layNearer_76 ?_
    refine gj_aload_n dX11_layNearer_77 rfl ?_
    refine gfX11_30 rfl dX11_layNearer_78 ((mj_up_ne (by decide)).trans H0) rfl ?_
    refine gj_iload_n dX11_layNearer_81 rfl ?_
    refine gj_ialdN dX11_layNearer_82 (mj_up_eq _ _ _) (by omega) (by omega) ?_
    refine gj_topN (mj_un_eq _ _ _) ?_
    refine gj_icmp_geN (tgt := 101) (by omega) (by omega) dX11_layNearer_83 rfl (fun zq11 => ?_) (fun zq11 => ?_)
    · -- 83 taken
      have hq9 := zq11
      refine gj_iincN (L' := [some (.ref 100), some (.int (nI c)), some (.int (nI (F c))), some (.int (nI (j + 1))), some (.int (nI (c - 1)))]) dX11_layNearer_101 rfl (Nat.le_of_ble_eq_true rfl) rfl ?_
      refine gj_goto (tgt := 9) dX11_layNearer_104 rfl ?_
      refine gj_forget (i := 4) (L' := [some (.ref 100), some (.int (nI c)), some (.int (nI (F c))), some (.int (nI (j + 1))), none]) rfl ?_
      first | exact gj_cast rfl rfl (by rw [mj_up_up, sp_uu, sp_lnv_t (by rw [hj9]; exact decide_eq_true hc9) (by rw [hj9]; rfl) hq9]) ih | exact gj_cast rfl rfl (by rw [sp_lnv_f (m := c - 1) (by rw [hj9]; rfl) hq9]) ih
    have hq9 := zq11
    refine gj_aload_n dX11_layNearer_86 rfl ?_
    refine gfX11_30 rfl dX11_layNearer_87 ((mj_up_ne (by decide)).trans H0) rfl ?_
    refine gj_iload_n dX11_layNearer_90 rfl ?_
    refine gj_aload_n dX11_layNearer_91 rfl ?_
    refine gfX11_30 rfl dX11_layNearer_92 ((mj_up_ne (by decide)).trans H0) rfl ?_
    refine gj_iload dX11_layNearer_95 rfl ?_
    refine gj_ialdN dX11_layNearer_97 (mj_up_eq _ _ _) (by omega) (by omega) ?_
    refine gj_topN (mj_un_ne (by omega)) ?_
    refine gj_ic (w := 1) dX11_layNearer_98 ?_
    refine gj_iaddN  dX11_layNearer_99 ?_
    refine gj_iastN dX11_layNearer_100 (mj_up_eq _ _ _) (by omega) (by omega) ?_
    refine gj_iincN (L' := [some (.ref 100), some (.int (nI c)), some (.int (nI (F c))), some (.int (nI (j + 1))), some (.int (nI (c - 1)))]) dX11_layNearer_101 rfl (Nat.le_of_ble_eq_true rfl) rfl ?_
    refine gj_goto (tgt := 9) dX11_layNearer_104 rfl ?_
    refine gj_forget (i := 4) (L' := [some (.ref 100), some (.int (nI c)), some (.int (nI (F c))), some (.int (nI (j + 1))), none]) rfl ?_
    first | exact gj_cast rfl rfl (by rw [mj_up_up, sp_uu, sp_lnv_t (by rw [hj9]; exact decide_eq_true hc9) (by rw [hj9]; rfl) hq9]) ih | exact gj_cast rfl rfl (by rw [sp_lnv_f (m := c - 1) (by rw [hj9]; rfl) hq9]) ih
  · -- 1 c % 5 = 0 ∧ 0 < c
    refine gj_iload_n dX11_layNearer_14 rfl ?_
    refine gj_if_neN (tgt := 24) (by omega) dX11_layNearer_15 rfl (fun zq12 => ?_) (fun zq12 => ?_)
    rotate_left
    · exfalso; omega
    refine gj_iload_n dX11_layNearer_24 rfl ?_
    refine gj_ic (w := 1) dX11_layNearer_25 ?_
    refine gj_icmp_neN (tgt := 35) (by omega) (by omega) dX11_layNearer_26 rfl (fun zq13 => ?_) (fun zq13 => ?_)
    · exfalso; omega
    refine gj_iload_n dX11_layNearer_29 rfl ?_
    refine gj_ic (w := 1) dX11_layNearer_30 ?_
    refine gj_isubN (by omega) dX11_layNearer_31 ?_
    refine gj_goto (tgt := 49) dX11_layNearer_32 rfl ?_
    refine gj_istore (L' := [some (.ref 100), some (.int (nI c)), some (.int (nI (F c))), some (.int (nI j)), some (.int (nI (c - 1)))]) dX11_layNearer_49 (Nat.le_of_ble_eq_true rfl) rfl ?_
    refine gj_iload dX11_layNearer_51 rfl ?_
    refine gj_S1 lkX11_70 (ev_X11_isCell_t (by omega) (by omega)) dX11_layNearer_53 rfl rfl rfl rfl rfl ?_
    refine gj_if_eqN (tgt := 101) (by omega) dX11_layNearer_56 rfl (fun zq0 => ?_) (fun zq0 => ?_)
    · exfalso; revert zq0; decide
    have hl9 := @sp_lnv_le F c j
    refine gj_iload dX11_layNearer_59 rfl ?_
    refine gj_iload_n dX11_layNearer_61 rfl ?_
    refine gj_S1 lkX11_112 (ev_X11_areBeside (by omega) (by omega)) dX11_layNearer_62 rfl rfl rfl rfl rfl ?_
    refine gj_if_eqb (tgt := 101) dX11_layNearer_65 rfl (fun zq14 => ?_) (fun zq14 => ?_)
    rotate_left
    · exfalso; exact absurd ((ly_n1 c h0 hc9.1).resolve_right (by omega)) (by rw [zq14]; decide)
    refine gj_iincN (L' := [some (.ref 100), some (.int (nI c)), some (.int (nI (F c))), some (.int (nI (j + 1))), some (.int (nI (c - 1)))]) dX11_layNearer_101 rfl (Nat.le_of_ble_eq_true rfl) rfl ?_
    refine gj_goto (tgt := 9) dX11_layNearer_104 rfl ?_
    refine gj_forget (i := 4) (L' := [some (.ref 100), some (.int (nI c)), some (.int (nI (F c))), some (.int (nI (j + 1))), none]) rfl ?_
    exact gj_cast rfl rfl (by rw [sp_lnv_k (by rw [hj9]; simp only [sp_nbk]; simp; omega)]) ih
  · -- 1 c = 0
    refine gj_iload_n dX11_layNearer_14 rfl ?_
    refine gj_if_neN (tgt := 24) (by omega) dX11_layNearer_15 rfl (fun zq15 => ?_) (fun zq15 => ?_)
    rotate_left
    · exfalso; omega
    refine gj_iload_n dX11_layNearer_24 rfl ?_
    refine gj_ic (w := 1) dX11_layNearer_25 ?_
    refine gj_icmp_neN (tgt := 35) (by omega) (by omega) dX11_layNearer_26 rfl (fun zq16 => ?_) (fun zq16 => ?_)
    · exfalso; omega
    refine gj_iload_n dX11_layNearer_29 rfl ?_
    refine gj_ic (w := 1) dX11_layNearer_30 ?_
    refine gj_isub dX11_layNearer_31 ?_
    refine gj_goto (tgt := 49) dX11_layNearer_32 rfl ?_
    refine gj_istore (L' := [some (.ref 100), some (.int (nI c)), some (.int (nI (F c))), some (.int (nI j)), some (.int ((nI c) - (nI 1)))]) dX11_layNearer_49 (Nat.le_of_ble_eq_true rfl) rfl ?_
    refine gj_iload dX11_layNearer_51 rfl ?_
    refine gj_S1 lkX11_70 ev_X11_isCell dX11_layNearer_53 rfl rfl rfl rfl rfl ?_
    refine gj_if_eqb (tgt := 101) dX11_layNearer_56 rfl (fun zq17 => ?_) (fun zq17 => ?_)
    rotate_left
    · exfalso; exact absurd (ly_r1 c (by omega)) (by rw [zq17]; decide)
    refine gj_iincN (L' := [some (.ref 100), some (.int (nI c)), some (.int (nI (F c))), some (.int (nI (j + 1))), some (.int ((nI c) - (nI 1)))]) dX11_layNearer_101 rfl (Nat.le_of_ble_eq_true rfl) rfl ?_
    refine gj_goto (tgt := 9) dX11_layNearer_104 rfl ?_
    refine gj_forget (i := 4) (L' := [some (.ref 100), some (.int (nI c)), some (.int (nI (F c))), some (.int (nI (j + 1))), none]) rfl ?_
    exact gj_cast rfl rfl (by rw [sp_lnv_k (by rw [hj9]; simp only [sp_nbk]; simp; omega)]) ih
  · -- 2 c % 5 < 4
    refine gj_iload_n dX11_layNearer_14 rfl ?_
    refine gj_if_neN (tgt := 24) (by omega) dX11_layNearer_15 rfl (fun zq18 => ?_) (fun zq18 => ?_)
    rotate_left
    · exfalso; omega
    refine gj_iload_n dX11_layNearer_24 rfl ?_
    refine gj_ic (w := 1) dX11_layNearer_25 ?_
    refine gj_icmp_neN (tgt := 35) (by omega) (by omega) dX11_layNearer_26 rfl (fun zq19 => ?_) (fun zq19 => ?_)
    rotate_left
    · exfalso; omega
    refine gj_iload_n dX11_layNearer_35 rfl ?_
    refine gj_ic (w := 2) dX11_layNearer_36 ?_
    refine gj_icmp_neN (tgt := 46) (by omega) (by omega) dX11_layNearer_37 rfl (fun zq20 => ?_) (fun zq20 => ?_)
    · exfalso; omega
    refine gj_iload_n dX11_layNearer_40 rfl ?_
    refine gj_ic (w := 1) dX11_layNearer_41 ?_
    refine gj_iaddN  dX11_layNearer_42 ?_
    refine gj_goto (tgt := 49) dX11_layNearer_43 rfl ?_
    refine gj_istore (L' := [some (.ref 100), some (.int (nI c)), some (.int (nI (F c))), some (.int (nI j)), some (.int (nI (c + 1)))]) dX11_layNearer_49 (Nat.le_of_ble_eq_true rfl) rfl ?_
    refine gj_iload dX11_layNearer_51 rfl ?_
    refine gj_S1 lkX11_70 (ev_X11_isCell_t (by omega) (by omega)) dX11_layNearer_53 rfl rfl rfl rfl rfl ?_
    refine gj_if_eqN (tgt := 101) (by omega) dX11_layNearer_56 rfl (fun zq0 => ?_) (fun zq0 => ?_)
    · exfalso; revert zq0; decide
    have hl9 := @sp_lnv_le F c j
    refine gj_iload dX11_layNearer_59 rfl ?_
    refine gj_iload_n dX11_layNearer_61 rfl ?_
    refine gj_S1 lkX11_112 (ev_X11_areBeside (by omega) (by omega)) dX11_layNearer_62 rfl rfl rfl rfl rfl ?_
    refine gj_if_eqb (tgt := 101) dX11_layNearer_65 rfl (fun zq21 => ?_) (fun zq21 => ?_)
    · exfalso; exact absurd (ly_b2 c h0 hc9) (by rw [zq21]; decide)
    refine gj_aload_n dX11_layNearer_68 rfl ?_
    refine gfX11_30 rfl dX11_layNearer_69 ((mj_up_ne (by decide)).trans H0) rfl ?_
    have hb7 := h1 (c + 1) (by omega)
    refine gj_iload dX11_layNearer_72 rfl ?_
    refine gj_ialdN dX11_layNearer_74 (mj_up_eq _ _ _) (by omega) (by omega) ?_
    refine gj_topN (mj_un_ne (by omega)) ?_
    refine gj_ic (w := 1) dX11_layNearer_75 ?_
    have hbn := h1
    refine gj_iaddN  dX11_layNearer_76 ?_
    refine gj_aload_n dX11_layNearer_77 rfl ?_
    refine gfX11_30 rfl dX11_layNearer_78 ((mj_up_ne (by decide)).trans H0) rfl ?_
    refine gj_iload_n dX11_layNearer_81 rfl ?_
    refine gj_ialdN dX11_layNearer_82 (mj_up_eq _ _ _) (by omega) (by omega) ?_
    refine gj_topN (mj_un_eq _ _ _) ?_
    refine gj_icmp_geN (tgt := 101) (by omega) (by omega) dX11_layNearer_83 rfl (fun zq22 => ?_) (fun zq22 => ?_)
    · -- 83 taken
      have hq9 := zq22
      refine gj_iincN (L' := [some (.ref 100), some (.int (nI c)), some (.int (nI (F c))), some (.int (nI (j + 1))), some (.int (nI (c + 1)))]) dX11_layNearer_101 rfl (Nat.le_of_ble_eq_true rfl) rfl ?_
      refine gj_goto (tgt := 9) dX11_layNearer_104 rfl ?_
      refine gj_forget (i := 4) (L' := [some (.ref 100), some (.int (nI c)), some (.int (nI (F c))), some (.int (nI (j + 1))), none]) rfl ?_
      first | exact gj_cast rfl rfl (by rw [mj_up_up, sp_uu, sp_lnv_t (by rw [hj9]; exact decide_eq_true hc9) (by rw [hj9]; rfl) hq9]) ih | exact gj_cast rfl rfl (by rw [sp_lnv_f (m := c + 1) (by rw [hj9]; rfl) hq9]) ih
    have hq9 := zq22
    refine gj_aload_n dX11_layNearer_86 rfl ?_
    refine gfX11_30 rfl dX11_layNearer_87 ((mj_up_ne (by decide)).trans H0) rfl ?_
    refine gj_iload_n dX11_layNearer_90 rfl ?_
    refine gj_aload_n dX11_layNearer_91 rfl ?_
    refine gfX11_30 rfl dX11_layNearer_92 ((mj_up_ne (by decide)).trans H0) rfl ?_
    refine gj_iload dX11_layNearer_95 rfl ?_
    refine gj_ialdN dX11_layNearer_97 (mj_up_eq _ _ _) (by omega) (by omega) ?_
    refine gj_topN (mj_un_ne (by omega)) ?_
    refine gj_ic (w := 1) dX11_layNearer_98 ?_
    refine gj_iaddN  dX11_layNearer_99 ?_
    refine gj_iastN dX11_layNearer_100 (mj_up_eq _ _ _) (by omega) (by omega) ?_
    refine gj_iincN (L' := [some (.ref 100), some (.int (nI c)), some (.int (nI (F c))), some (.int (nI (j + 1))), some (.int (nI (c + 1)))]) dX11_layNearer_101 rfl (Nat.le_of_ble_eq_true rfl) rfl ?_
    refine gj_goto (tgt := 9) dX11_layNearer_104 rfl ?_
    refine gj_forget (i := 4) (L' := [some (.ref 100), some (.int (nI c)), some (.int (nI (F c))), some (.int (nI (j + 1))), none]) rfl ?_
    first | exact gj_cast rfl rfl (by rw [mj_up_up, sp_uu, sp_lnv_t (by rw [hj9]; exact decide_eq_true hc9) (by rw [hj9]; rfl) hq9]) ih | exact gj_cast rfl rfl (by rw [sp_lnv_f (m := c + 1) (by rw [hj9]; rfl) hq9]) ih
  · -- 2 c % 5 = 4 ∧ c < 24
    refine gj_iload_n dX11_layNearer_14 rfl ?_
    refine gj_if_neN (tgt := 24) (by omega) dX11_layNearer_15 rfl (fun zq23 => ?_) (fun zq23 => ?_)
    rotate_left
    · exfalso; omega
    refine gj_iload_n dX11_layNearer_24 rfl ?_
    refine gj_ic (w := 1) dX11_layNearer_25 ?_
    refine gj_icmp_neN (tgt := 35) (by omega) (by omega) dX11_layNearer_26 rfl (fun zq24 => ?_) (fun zq24 => ?_)
    rotate_left
    · exfalso; omega
    refine gj_iload_n dX11_layNearer_35 rfl ?_
    refine gj_ic (w := 2) dX11_layNearer_36 ?_
    refine gj_icmp_neN (tgt := 46) (by omega) (by omega) dX11_layNearer_37 rfl (fun zq25 => ?_) (fun zq25 => ?_)
    · exfalso; omega
    refine gj_iload_n dX11_layNearer_40 rfl ?_
    refine gj_ic (w := 1) dX11_layNearer_41 ?_
    refine gj_iaddN  dX11_layNearer_42 ?_
    refine gj_goto (tgt := 49) dX11_layNearer_43 rfl ?_
    refine gj_istore (L' := [some (.ref 100), some (.int (nI c)), some (.int (nI (F c))), some (.int (nI j)), some (.int (nI (c + 1)))]) dX11_layNearer_49 (Nat.le_of_ble_eq_true rfl) rfl ?_
    refine gj_iload dX11_layNearer_51 rfl ?_
    refine gj_S1 lkX11_70 (ev_X11_isCell_t (by omega) (by omega)) dX11_layNearer_53 rfl rfl rfl rfl rfl ?_
    refine gj_if_eqN (tgt := 101) (by omega) dX11_layNearer_56 rfl (fun zq0 => ?_) (fun zq0 => ?_)
    · exfalso; revert zq0; decide
    have hl9 := @sp_lnv_le F c j
    refine gj_iload dX11_layNearer_59 rfl ?_
    refine gj_iload_n dX11_layNearer_61 rfl ?_
    refine gj_S1 lkX11_112 (ev_X11_areBeside (by omega) (by omega)) dX11_layNearer_62 rfl rfl rfl rfl rfl ?_
    refine gj_if_eqb (tgt := 101) dX11_layNearer_65 rfl (fun zq26 => ?_) (fun zq26 => ?_)
    rotate_left
    · exfalso; exact absurd (ly_n2 c hc9.2 hc9.1) (by rw [zq26]; decide)
    refine gj_iincN (L' := [some (.ref 100), some (.int (nI c)), some (.int (nI (F c))), some (.int (nI (j + 1))), some (.int (nI (c + 1)))]) dX11_layNearer_101 rfl (Nat.le_of_ble_eq_true rfl) rfl ?_
    refine gj_goto (tgt := 9) dX11_layNearer_104 rfl ?_
    refine gj_forget (i := 4) (L' := [some (.ref 100), some (.int (nI c)), some (.int (nI (F c))), some (.int (nI (j + 1))), none]) rfl ?_
    exact gj_cast rfl rfl (by rw [sp_lnv_k (by rw [hj9]; simp only [sp_nbk]; simp; omega)]) ih
  · -- 2 c = 24
    refine gj_iload_n dX11_layNearer_14 rfl ?_
    refine gj_if_neN (tgt := 24) (by omega) dX11_layNearer_15 rfl (fun zq27 => ?_) (fun zq27 => ?_)
    rotate_left
    · exfalso; omega
    refine gj_iload_n dX11_layNearer_24 rfl ?_
    refine gj_ic (w := 1) dX11_layNearer_25 ?_
    refine gj_icmp_neN (tgt := 35) (by omega) (by omega) dX11_layNearer_26 rfl (fun zq28 => ?_) (fun zq28 => ?_)
    rotate_left
    · exfalso; omega
    refine gj_iload_n dX11_layNearer_35 rfl ?_
    refine gj_ic (w := 2) dX11_layNearer_36 ?_
    refine gj_icmp_neN (tgt := 46) (by omega) (by omega) dX11_layNearer_37 rfl (fun zq29 => ?_) (fun zq29 => ?_)
    · exfalso; omega
    refine gj_iload_n dX11_layNearer_40 rfl ?_
    refine gj_ic (w := 1) dX11_layNearer_41 ?_
    refine gj_iadd dX11_layNearer_42 ?_
    refine gj_goto (tgt := 49) dX11_layNearer_43 rfl ?_
    refine gj_istore (L' := [some (.ref 100), some (.int (nI c)), some (.int (nI (F c))), some (.int (nI j)), some (.int ((nI c) + (nI 1)))]) dX11_layNearer_49 (Nat.le_of_ble_eq_true rfl) rfl ?_
    refine gj_iload dX11_layNearer_51 rfl ?_
    refine gj_S1 lkX11_70 ev_X11_isCell dX11_layNearer_53 rfl rfl rfl rfl rfl ?_
    refine gj_if_eqb (tgt := 101) dX11_layNearer_56 rfl (fun zq30 => ?_) (fun zq30 => ?_)
    rotate_left
    · exfalso; exact absurd (ly_r2 c h0 (by omega)) (by rw [zq30]; decide)
    refine gj_iincN (L' := [some (.ref 100), some (.int (nI c)), some (.int (nI (F c))), some (.int (nI (j + 1))), some (.int ((nI c) + (nI 1)))]) dX11_layNearer_101 rfl (Nat.le_of_ble_eq_true rfl) rfl ?_
    refine gj_goto (tgt := 9) dX11_layNearer_104 rfl ?_
    refine gj_forget (i := 4) (L' := [some (.ref 100), some (.int (nI c)), some (.int (nI (F c))), some (.int (nI (j + 1))), none]) rfl ?_
    exact gj_cast rfl rfl (by rw [sp_lnv_k (by rw [hj9]; simp only [sp_nbk]; simp; omega)]) ih
  · -- 3 c < 20
    refine gj_iload_n dX11_layNearer_14 rfl ?_
    refine gj_if_neN (tgt := 24) (by omega) dX11_layNearer_15 rfl (fun zq31 => ?_) (fun zq31 => ?_)
    rotate_left
    · exfalso; omega
    refine gj_iload_n dX11_layNearer_24 rfl ?_
    refine gj_ic (w := 1) dX11_layNearer_25 ?_
    refine gj_icmp_neN (tgt := 35) (by omega) (by omega) dX11_layNearer_26 rfl (fun zq32 => ?_) (fun zq32 => ?_)
    rotate_left
    · exfalso; omega
    refine gj_iload_n dX11_layNearer_35 rfl ?_
    refine gj_ic (w := 2) dX11_layNearer_36 ?_
    refine gj_icmp_neN (tgt := 46) (by omega) (by omega) dX11_layNearer_37 rfl (fun zq33 => ?_) (fun zq33 => ?_)
    rotate_left
    · exfalso; omega
    refine gj_iload_n dX11_layNearer_46 rfl ?_
    refine gj_ic (w := 5) dX11_layNearer_47 ?_
    refine gj_iaddN  dX11_layNearer_48 ?_
    refine gj_istore (L' := [some (.ref 100), some (.int (nI c)), some (.int (nI (F c))), some (.int (nI j)), some (.int (nI (c + 5)))]) dX11_layNearer_49 (Nat.le_of_ble_eq_true rfl) rfl ?_
    refine gj_iload dX11_layNearer_51 rfl ?_
    refine gj_S1 lkX11_70 (ev_X11_isCell_t (by omega) (by omega)) dX11_layNearer_53 rfl rfl rfl rfl rfl ?_
    refine gj_if_eqN (tgt := 101) (by omega) dX11_layNearer_56 rfl (fun zq0 => ?_) (fun zq0 => ?_)
    · exfalso; revert zq0; decide
    have hl9 := @sp_lnv_le F c j
    refine gj_iload dX11_layNearer_59 rfl ?_
    refine gj_iload_n dX11_layNearer_61 rfl ?_
    refine gj_S1 lkX11_112 (ev_X11_areBeside (by omega) (by omega)) dX11_layNearer_62 rfl rfl rfl rfl rfl ?_
    refine gj_if_eqb (tgt := 101) dX11_layNearer_65 rfl (fun zq34 => ?_) (fun zq34 => ?_)
    · exfalso; exact absurd (ly_b3 c hc9) (by rw [zq34]; decide)
    refine gj_aload_n dX11_layNearer_68 rfl ?_
    refine gfX11_30 rfl dX11_layNearer_69 ((mj_up_ne (by decide)).trans H0) rfl ?_
    have hb7 := h1 (c + 5) (by omega)
    refine gj_iload dX11_layNearer_72 rfl ?_
    refine gj_ialdN dX11_layNearer_74 (mj_up_eq _ _ _) (by omega) (by omega) ?_
    refine gj_topN (mj_un_ne (by omega)) ?_
    refine gj_ic (w := 1) dX11_layNearer_75 ?_
    have hbn := h1
    refine gj_iaddN  dX11_layNearer_76 ?_
    refine gj_aload_n dX11_layNearer_77 rfl ?_
    refine gfX11_30 rfl dX11_layNearer_78 ((mj_up_ne (by decide)).trans H0) rfl ?_
    refine gj_iload_n dX11_layNearer_81 rfl ?_
    refine gj_ialdN dX11_layNearer_82 (mj_up_eq _ _ _) (by omega) (by omega) ?_
    refine gj_topN (mj_un_eq _ _ _) ?_
    refine gj_icmp_geN (tgt := 101) (by omega) (by omega) dX11_layNearer_83 rfl (fun zq35 => ?_) (fun zq35 => ?_)
    · -- 83 taken
      have hq9 := zq35
      refine gj_iincN (L' := [some (.ref 100), some (.int (nI c)), some (.int (nI (F c))), some (.int (nI (j + 1))), some (.int (nI (c + 5)))]) dX11_layNearer_101 rfl (Nat.le_of_ble_eq_true rfl) rfl ?_
      refine gj_goto (tgt := 9) dX11_layNearer_104 rfl ?_
      refine gj_forget (i := 4) (L' := [some (.ref 100), some (.int (nI c)), some (.int (nI (F c))), some (.int (nI (j + 1))), none]) rfl ?_
      first | exact gj_cast rfl rfl (by rw [mj_up_up, sp_uu, sp_lnv_t (by rw [hj9]; exact decide_eq_true hc9) (by rw [hj9]; rfl) hq9]) ih | exact gj_cast rfl rfl (by rw [sp_lnv_f (m := c + 5) (by rw [hj9]; rfl) hq9]) ih
    have hq9 := zq35
    refine gj_aload_n dX11_layNearer_86 rfl ?_
    refine gfX11_30 rfl dX11_layNearer_87 ((mj_up_ne (by decide)).trans H0) rfl ?_
    refine gj_iload_n dX11_layNearer_90 rfl ?_
    refine gj_aload_n dX11_layNearer_91 rfl ?_
    refine gfX11_30 rfl dX11_layNearer_92 ((mj_up_ne (by decide)).trans H0) rfl ?_
    refine gj_iload dX11_layNearer_95 rfl ?_
    refine gj_ialdN dX11_layNearer_97 (mj_up_eq _ _ _) (by omega) (by omega) ?_
    refine gj_topN (mj_un_ne (by omega)) ?_
    refine gj_ic (w := 1) dX11_layNearer_98 ?_
    refine gj_iaddN  dX11_layNearer_99 ?_
    refine gj_iastN dX11_layNearer_100 (mj_up_eq _ _ _) (by omega) (by omega) ?_
    refine gj_iincN (L' := [some (.ref 100), some (.int (nI c)), some (.int (nI (F c))), some (.int (nI (j + 1))), some (.int (nI (c + 5)))]) dX11_layNearer_101 rfl (Nat.le_of_ble_eq_true rfl) rfl ?_
    refine gj_goto (tgt := 9) dX11_layNearer_104 rfl ?_
    refine gj_forget (i := 4) (L' := [some (.ref 100), some (.int (nI c)), some (.int (nI (F c))), some (.int (nI (j + 1))), none]) rfl ?_
    first | exact gj_cast rfl rfl (by rw [mj_up_up, sp_uu, sp_lnv_t (by rw [hj9]; exact decide_eq_true hc9) (by rw [hj9]; rfl) hq9]) ih | exact gj_cast rfl rfl (by rw [sp_lnv_f (m := c + 5) (by rw [hj9]; rfl) hq9]) ih
  · -- 3 ¬ c < 20
    refine gj_iload_n dX11_layNearer_14 rfl ?_
    refine gj_if_neN (tgt := 24) (by omega) dX11_layNearer_15 rfl (fun zq36 => ?_) (fun zq36 => ?_)
    rotate_left
    · exfalso; omega
    refine gj_iload_n dX11_layNearer_24 rfl ?_
    refine gj_ic (w := 1) dX11_layNearer_25 ?_
    refine gj_icmp_neN (tgt := 35) (by omega) (by omega) dX11_layNearer_26 rfl (fun zq37 => ?_) (fun zq37 => ?_)
    rotate_left
    · exfalso; omega
    refine gj_iload_n dX11_layNearer_35 rfl ?_
    refine gj_ic (w := 2) dX11_layNearer_36 ?_
    refine gj_icmp_neN (tgt := 46) (by omega) (by omega) dX11_layNearer_37 rfl (fun zq38 => ?_) (fun zq38 => ?_)
    rotate_left
    · exfalso; omega
    refine gj_iload_n dX11_layNearer_46 rfl ?_
    refine gj_ic (w := 5) dX11_layNearer_47 ?_
    refine gj_iadd dX11_layNearer_48 ?_
    refine gj_istore (L' := [some (.ref 100), some (.int (nI c)), some (.int (nI (F c))), some (.int (nI j)), some (.int ((nI c) + (nI 5)))]) dX11_layNearer_49 (Nat.le_of_ble_eq_true rfl) rfl ?_
    refine gj_iload dX11_layNearer_51 rfl ?_
    refine gj_S1 lkX11_70 ev_X11_isCell dX11_layNearer_53 rfl rfl rfl rfl rfl ?_
    refine gj_if_eqb (tgt := 101) dX11_layNearer_56 rfl (fun zq39 => ?_) (fun zq39 => ?_)
    rotate_left
    · exfalso; exact absurd (ly_r3 c h0 (by omega)) (by rw [zq39]; decide)
    refine gj_iincN (L' := [some (.ref 100), some (.int (nI c)), some (.int (nI (F c))), some (.int (nI (j + 1))), some (.int ((nI c) + (nI 5)))]) dX11_layNearer_101 rfl (Nat.le_of_ble_eq_true rfl) rfl ?_
    refine gj_goto (tgt := 9) dX11_layNearer_104 rfl ?_
    refine gj_forget (i := 4) (L' := [some (.ref 100), some (.int (nI c)), some (.int (nI (F c))), some (.int (nI (j + 1))), none]) rfl ?_
    exact gj_cast rfl rfl (by rw [sp_lnv_k (by rw [hj9]; simp only [sp_nbk]; simp; omega)]) ih
