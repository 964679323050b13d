theorem sp_xk_n2 {B : Nat → Nat} {n s e : Nat} (h : s < n) (h4 : ¬ (97 ≤ B s ∧ B s ≤ 122)) (h5 : 48 ≤ B s ∧ B s ≤ 57) (he : e - s ≤ 2) : sp_xk B n s e = 2 := by unfold sp_xk; rw [if_neg (Nat.not_le.mpr h), if_neg h4, if_pos h5, if_neg (Nat.not_lt.mpr he)]
theorem sp_xk_n4 {B : Nat → Nat} {n s e : Nat} (h : s < n) (h4 : ¬ (97 ≤ B s ∧ B s ≤ 122)) (h5 : 48 ≤ B s ∧ B s ≤ 57) (he : 2 < e - s) : sp_xk B n s e = 4 := by unfold sp_xk; rw [if_neg (Nat.not_le.mpr h), if_neg h4, if_pos h5, if_pos he]
theorem sp_xv_1 {B : Nat → Nat} {n s e : Nat} (h : s < n) (h4 : ¬ (97 ≤ B s ∧ B s ≤ 122)) (h5 : 48 ≤ B s ∧ B s ≤ 57) (he : e - s = 1) : sp_xv B n s e = B s - 48 := by unfold sp_xv; rw [if_neg (Nat.not_le.mpr h), if_neg h4, if_pos h5, if_pos he]
theorem sp_xv_2 {B : Nat → Nat} {n s e : Nat} (h : s < n) (h4 : ¬ (97 ≤ B s ∧ B s ≤ 122)) (h5 : 48 ≤ B s ∧ B s ≤ 57) (he : ¬ e - s = 1) : sp_xv B n s e = 10 * (B s - 48) + (B (s + 1) - 48) := by unfold sp_xv; rw [if_neg (Nat.not_le.mpr h), if_neg h4, if_pos h5, if_neg he]
set_option maxHeartbeats 1000000 in
set_option maxRecDepth 10000 in
theorem ev_X11_lookAt_word {E : mj_E} {h : mj_H} {a0 a1 y2 y3 y4 y5 y6 : Nat} (H0 : h 100 = some (mj_mo a0 a1 y2 y3 y4 y5 y6)) {B : Nat → Nat} (HB : h 107 = some (mj_ar 150 B)) {p : Nat} (h0 : ∀ c, B c ≤ 127) (h1 : y2 ≤ 150) (h2 : p ≤ y2) (h3 : sp_er B y2 32 32 p < y2) (h4 : 97 ≤ B (sp_er B y2 32 32 p) ∧ B (sp_er B y2 32 32 p) ≤ 122) : mj_Ev E iX11_lookAt [.ref 100, .int (nI p)] h (mj_R none (mj_up h 100 (mj_mo a0 a1 y2 (sp_er B y2 32 32 p) (sp_eb B y2 (sp_er B y2 32 32 p) - (sp_er B y2 32 32 p)) (sp_xk B y2 (sp_er B y2 32 32 p) (sp_eb B y2 (sp_er B y2 32 32 p))) (sp_xv B y2 (sp_er B y2 32 32 p) (sp_eb B y2 (sp_er B y2 32 32 p)))))) := by
  have hB := h0
  have hsl := @sp_er_le B y2 32 32 p h2
  have hbs := hB (sp_er B y2 32 32 p)
  have hgt := sp_eb_gt (B := B) h3
  have hel := @sp_eb_le B y2 (sp_er B y2 32 32 p) hsl
  refine mj_Ev.of (L0 := [some (.ref 100), some (.int (nI p)), none, none, none]) pnRX11 (Nat.le_of_ble_eq_true rfl) rfl ?_
  refine gj_cut 43 [some (.ref 100), some (.int (nI p)), none, none, none] [] (mj_up h 100 (.inr (9, [.ref 101, .ref 102, .ref 103, .ref 104, .long (lN a0), .long (lN a1), .ref 105, .ref 106, .ref 107, .int (nI y2), .int (nI (sp_er B y2 32 32 p)), .int (nI y4), .int (nI y5), .int (nI y6), .ref 108, .ref 109]))) ?_ (fun jn43 => ?_)
  · -- behind 43
    refine gj_aload_n dX11_lookAt_43 rfl ?_
    refine gj_ic (w := 0) dX11_lookAt_44 ?_
    refine pfX11_245 rfl dX11_lookAt_45 (mj_up_eq _ _ _) (Nat.le_of_ble_eq_true rfl) ?_
    refine gj_cast (h' := mj_up h 100 (.inr (9, [.ref 101, .ref 102, .ref 103, .ref 104, .long (lN a0), .long (lN a1), .ref 105, .ref 106, .ref 107, .int (nI y2), .int (nI (sp_er B y2 32 32 p)), .int (nI 0), .int (nI y5), .int (nI y6), .ref 108, .ref 109]))) rfl rfl (by funext x; unfold mj_up; (repeat' split) <;> first | rfl | omega) ?_
    refine gj_aload_n dX11_lookAt_48 rfl ?_
    refine gj_ic (w := 0) dX11_lookAt_49 ?_
    refine pfX11_248 rfl dX11_lookAt_50 (mj_up_eq _ _ _) (Nat.le_of_ble_eq_true rfl) ?_
    refine gj_cast (h' := mj_up h 100 (.inr (9, [.ref 101, .ref 102, .ref 103, .ref 104, .long (lN a0), .long (lN a1), .ref 105, .ref 106, .ref 107, .int (nI y2), .int (nI (sp_er B y2 32 32 p)), .int (nI 0), .int (nI 0), .int (nI y6), .ref 108, .ref 109]))) rfl rfl (by funext x; unfold mj_up; (repeat' split) <;> first | rfl | omega) ?_
    refine gj_aload_n dX11_lookAt_53 rfl ?_
    refine gj_ic (w := 0) dX11_lookAt_54 ?_
    refine pfX11_251 rfl dX11_lookAt_55 (mj_up_eq _ _ _) (Nat.le_of_ble_eq_true rfl) ?_
    refine gj_cast (h' := mj_up h 100 (.inr (9, [.ref 101, .ref 102, .ref 103, .ref 104, .long (lN a0), .long (lN a1), .ref 105, .ref 106, .ref 107, .int (nI y2), .int (nI (sp_er B y2 32 32 p)), .int (nI 0), .int (nI 0), .int (nI 0), .ref 108, .ref 109]))) rfl rfl (by funext x; unfold mj_up; (repeat' split) <;> first | rfl | omega) ?_
    refine gj_aload_n dX11_lookAt_58 rfl ?_
    refine gfX11_242 rfl dX11_lookAt_59 (mj_up_eq _ _ _) rfl ?_
    refine gj_aload_n dX11_lookAt_62 rfl ?_
    refine gfX11_230 rfl dX11_lookAt_63 (mj_up_eq _ _ _) rfl ?_
    refine gj_icmp_neN (tgt := 70) (by omega) (by omega) dX11_lookAt_66 rfl (fun zq1 => ?_) (fun zq1 => ?_)
    rotate_left
    · exfalso; omega
    refine gj_aload_n dX11_lookAt_70 rfl ?_
    refine gfX11_33 rfl dX11_lookAt_71 (mj_up_eq _ _ _) rfl ?_
    refine gj_aload_n dX11_lookAt_74 rfl ?_
    refine gfX11_242 rfl dX11_lookAt_75 (mj_up_eq _ _ _) rfl ?_
    refine gj_ialdN dX11_lookAt_78 ((mj_up_ne (by decide)).trans HB) (by omega) (by omega) ?_
    refine gj_istore_n (L' := [some (.ref 100), some (.int (nI p)), some (.int (nI (B (sp_er B y2 32 32 p)))), none, none]) dX11_lookAt_79 (Nat.le_of_ble_eq_true rfl) rfl ?_
    refine gj_aload_n dX11_lookAt_80 rfl ?_
    refine gj_iload_n dX11_lookAt_81 rfl ?_
    refine gj_S1 lkX11_254 (ev_X11_isSmall (by omega)) dX11_lookAt_82 rfl rfl rfl rfl rfl ?_
    refine gj_if_eqb (tgt := 92) dX11_lookAt_85 rfl (fun zq2 => ?_) (fun zq2 => ?_)
    · exfalso; first | exact absurd (of_decide_eq_true zq2) h4 | exact absurd zq2 (by rw [decide_eq_true h4]; decide)
    refine gj_ic (w := 1) dX11_lookAt_88 ?_
    refine gj_goto (tgt := 114) dX11_lookAt_89 rfl ?_
    refine pfX11_248 rfl dX11_lookAt_114 (mj_up_eq _ _ _) (Nat.le_of_ble_eq_true rfl) ?_
    refine gj_cast (h' := mj_up h 100 (.inr (9, [.ref 101, .ref 102, .ref 103, .ref 104, .long (lN a0), .long (lN a1), .ref 105, .ref 106, .ref 107, .int (nI y2), .int (nI (sp_er B y2 32 32 p)), .int (nI 0), .int (nI 1), .int (nI 0), .ref 108, .ref 109]))) rfl rfl (by funext x; unfold mj_up; (repeat' split) <;> first | rfl | omega) ?_
    refine gj_aload_n dX11_lookAt_117 rfl ?_
    refine gj_ic (w := 1) dX11_lookAt_118 ?_
    refine pfX11_245 rfl dX11_lookAt_119 (mj_up_eq _ _ _) (Nat.le_of_ble_eq_true rfl) ?_
    refine gj_cast (h' := mj_up h 100 (.inr (9, [.ref 101, .ref 102, .ref 103, .ref 104, .long (lN a0), .long (lN a1), .ref 105, .ref 106, .ref 107, .int (nI y2), .int (nI (sp_er B y2 32 32 p)), .int (nI 1), .int (nI 1), .int (nI 0), .ref 108, .ref 109]))) rfl rfl (by funext x; unfold mj_up; (repeat' split) <;> first | rfl | omega) ?_
    refine gj_cut 215 [some (.ref 100), some (.int (nI p)), some (.int (nI (B (sp_er B y2 32 32 p)))), none, none] [] (mj_up h 100 (.inr (9, [.ref 101, .ref 102, .ref 103, .ref 104, .long (lN a0), .long (lN a1), .ref 105, .ref 106, .ref 107, .int (nI y2), .int (nI (sp_er B y2 32 32 p)), .int (nI (sp_eb B y2 (sp_er B y2 32 32 p) - (sp_er B y2 32 32 p))), .int (nI 1), .int (nI 0), .ref 108, .ref 109]))) ?_ (fun jn215 => ?_)
    · -- behind 215
      refine gj_ic (w := 0) dX11_lookAt_215 ?_
      refine gj_istore (L' := [some (.ref 100), some (.int (nI p)), some (.int (nI (B (sp_er B y2 32 32 p)))), none, some (.int (nI 0))]) dX11_lookAt_216 (Nat.le_of_ble_eq_true rfl) rfl ?_
      refine gj_iload dX11_lookAt_218 rfl ?_
      refine gj_aload_n dX11_lookAt_220 rfl ?_
      refine gfX11_245 rfl dX11_lookAt_221 (mj_up_eq _ _ _) rfl ?_
      refine gj_icmp_geN (tgt := 274) (by omega) (by omega) dX11_lookAt_224 rfl (fun zq3 => ?_) (fun zq3 => ?_)
      · exfalso; omega
      refine gj_iload dX11_lookAt_227 rfl ?_
      refine gj_ic (w := 2) dX11_lookAt_229 ?_
      refine gj_icmp_geN (tgt := 274) (by omega) (by omega) dX11_lookAt_230 rfl (fun zq0 => ?_) (fun zq0 => ?_)
      · exfalso; omega
      refine gj_aload_n dX11_lookAt_233 rfl ?_
      refine gfX11_248 rfl dX11_lookAt_234 (mj_up_eq _ _ _) rfl ?_
      refine gj_ic (w := 2) dX11_lookAt_237 ?_
      refine gj_icmp_neN (tgt := 274) (by omega) (by omega) dX11_lookAt_238 rfl (fun zq0 => ?_) (fun zq0 => ?_)
      rotate_left
      · exfalso; omega
      refine gj_aload_n dX11_lookAt_274 rfl ?_
      refine gj_aload_n dX11_lookAt_275 rfl ?_
      refine gfX11_248 rfl dX11_lookAt_276 (mj_up_eq _ _ _) rfl ?_
      refine gj_ic (w := 2) dX11_lookAt_279 ?_
      refine gj_icmp_neN (tgt := 295) (by omega) (by omega) dX11_lookAt_280 rfl (fun zq0 => ?_) (fun zq0 => ?_)
      rotate_left
      · exfalso; omega
      refine gj_aload_n dX11_lookAt_295 rfl ?_
      refine gfX11_248 rfl dX11_lookAt_296 (mj_up_eq _ _ _) rfl ?_
      refine pfX11_248 rfl dX11_lookAt_299 (mj_up_eq _ _ _) (Nat.le_of_ble_eq_true rfl) ?_
      refine gj_cast (h' := mj_up h 100 (.inr (9, [.ref 101, .ref 102, .ref 103, .ref 104, .long (lN a0), .long (lN a1), .ref 105, .ref 106, .ref 107, .int (nI y2), .int (nI (sp_er B y2 32 32 p)), .int (nI (sp_eb B y2 (sp_er B y2 32 32 p) - (sp_er B y2 32 32 p))), .int (nI 1), .int (nI 0), .ref 108, .ref 109]))) rfl rfl (by funext x; unfold mj_up; (repeat' split) <;> first | rfl | omega) ?_
      exact gj_vr rfl dX11_lookAt_302 (by unfold sp_xk sp_xv; rw [if_neg (Nat.not_le.mpr h3), if_neg (Nat.not_le.mpr h3), if_pos h4, if_pos h4]; first | done | rfl)
    refine gj_aload_n dX11_lookAt_122 rfl ?_
    refine gfX11_248 rfl dX11_lookAt_123 (mj_up_eq _ _ _) rfl ?_
    refine gj_ic (w := 3) dX11_lookAt_126 ?_
    refine gj_icmp_geN (tgt := 134) (by omega) (by omega) dX11_lookAt_127 rfl (fun zq0 => ?_) (fun zq0 => ?_)
    · exfalso; omega
    refine gj_ic (w := 1) dX11_lookAt_130 ?_
    refine gj_goto (tgt := 135) dX11_lookAt_131 rfl ?_
    refine gj_istore_n (L' := [some (.ref 100), some (.int (nI p)), some (.int (nI (B (sp_er B y2 32 32 p)))), some (.int (nI 1)), none]) dX11_lookAt_135 (Nat.le_of_ble_eq_true rfl) rfl ?_
    refine gj_cast (L' := [some (.ref 100), some (.int (nI p)), some (.int (nI (B (sp_er B y2 32 32 p)))), some (.int (nI 1)), none]) (st' := []) (h' := mj_up h 100 (.inr (9, [.ref 101, .ref 102, .ref 103, .ref 104, .long (lN a0), .long (lN a1), .ref 105, .ref 106, .ref 107, .int (nI y2), .int (nI (sp_er B y2 32 32 p)), .int (nI (1 + 0)), .int (nI 1), .int (nI 0), .ref 108, .ref 109]))) rfl rfl rfl ?_
    refine gj_loopI (fun j => ∀ i, i < j → (fun i => sp_erp B 97 122 (sp_er B y2 32 32 p) (1 + i)) i = false) (fun j => [some (.ref 100), some (.int (nI p)), some (.int (nI (B (sp_er B y2 32 32 p)))), some (.int (nI 1)), none]) (fun j => mj_up h 100 (.inr (9, [.ref 101, .ref 102, .ref 103, .ref 104, .long (lN a0), .long (lN a1), .ref 105, .ref 106, .ref 107, .int (nI y2), .int (nI (sp_er B y2 32 32 p)), .int (nI (1 + j)), .int (nI 1), .int (nI 0), .ref 108, .ref 109]))) (y2 - (sp_er B y2 32 32 p) - 1) (fun hq => ?_) (fun j hj hq ih => ?_) 0 (Nat.zero_le _) (fun i hi => absurd hi (Nat.not_lt_zero _))
    · show gj _ _ _ _ _ _ [some (.ref 100), some (.int (nI p)), some (.int (nI (B (sp_er B y2 32 32 p)))), some (.int (nI 1)), none] _ _
      refine gj_iload_n dX11_lookAt_136 rfl ?_
      refine gj_if_eqN (tgt := 215) (by omega) dX11_lookAt_137 rfl (fun zq0 => ?_) (fun zq0 => ?_)
      · exfalso; revert zq0; decide
      refine gj_aload_n dX11_lookAt_140 rfl ?_
      refine gfX11_242 rfl dX11_lookAt_141 (mj_up_eq _ _ _) rfl ?_
      refine gj_aload_n dX11_lookAt_144 rfl ?_
      refine gfX11_245 rfl dX11_lookAt_145 (mj_up_eq _ _ _) rfl ?_
      refine gj_iaddN  dX11_lookAt_148 ?_
      refine gj_aload_n dX11_lookAt_149 rfl ?_
      refine gfX11_230 rfl dX11_lookAt_150 (mj_up_eq _ _ _) rfl ?_
      refine gj_icmp_geN (tgt := 215) (by omega) (by omega) dX11_lookAt_153 rfl (fun zq4 => ?_) (fun zq4 => ?_)
      rotate_left
      · exfalso; omega
      refine gj_forget (i := 3) (L' := [some (.ref 100), some (.int (nI p)), some (.int (nI (B (sp_er B y2 32 32 p)))), none, none]) rfl ?_
      have he9 : sp_eb B y2 (sp_er B y2 32 32 p) = (sp_er B y2 32 32 p) + (1 + (y2 - (sp_er B y2 32 32 p) - 1)) := by rw [sp_eb_w h3 h4]; exact sp_er_at h3 h4 hq (by omega) (fun z => absurd z (by omega))
      exact gj_cast rfl rfl (by rw [show sp_eb B y2 (sp_er B y2 32 32 p) - (sp_er B y2 32 32 p) = 1 + (y2 - (sp_er B y2 32 32 p) - 1) by omega]; first | done | rfl) jn215
    show gj _ _ _ _ _ _ [some (.ref 100), some (.int (nI p)), some (.int (nI (B (sp_er B y2 32 32 p)))), some (.int (nI 1)), none] _ _
    refine gj_iload_n dX11_lookAt_136 rfl ?_
    refine gj_if_eqN (tgt := 215) (by omega) dX11_lookAt_137 rfl (fun zq0 => ?_) (fun zq0 => ?_)
    · exfalso; revert zq0; decide
    refine gj_aload_n dX11_lookAt_140 rfl ?_
    refine gfX11_242 rfl dX11_lookAt_141 (mj_up_eq _ _ _) rfl ?_
    refine gj_aload_n dX11_lookAt_144 rfl ?_
    refine gfX11_245 rfl dX11_lookAt_145 (mj_up_eq _ _ _) rfl ?_
    refine gj_iaddN  dX11_lookAt_148 ?_
    refine gj_aload_n dX11_lookAt_149 rfl ?_
    refine gfX11_230 rfl dX11_lookAt_150 (mj_up_eq _ _ _) rfl ?_
    refine gj_icmp_geN (tgt := 215) (by omega) (by omega) dX11_lookAt_153 rfl (fun zq5 => ?_) (fun zq5 => ?_)
    · exfalso; omega
    refine gj_aload_n dX11_lookAt_156 rfl ?_
    refine gfX11_33 rfl dX11_lookAt_157 (mj_up_eq _ _ _) rfl ?_
    refine gj_aload_n dX11_lookAt_160 rfl ?_
    refine gfX11_242 rfl dX11_lookAt_161 (mj_up_eq _ _ _) rfl ?_
    refine gj_aload_n dX11_lookAt_164 rfl ?_
    refine gfX11_245 rfl dX11_lookAt_165 (mj_up_eq _ _ _) rfl ?_
    refine gj_iaddN  dX11_lookAt_168 ?_
    refine gj_ialdN dX11_lookAt_169 ((mj_up_ne (by decide)).trans HB) (by omega) (by omega) ?_
    have hb7 := hB ((sp_er B y2 32 32 p) + (1 + j))
    refine gj_istore (L' := [some (.ref 100), some (.int (nI p)), some (.int (nI (B (sp_er B y2 32 32 p)))), some (.int (nI 1)), some (.int (nI (B ((sp_er B y2 32 32 p) + (1 + j)))))]) dX11_lookAt_170 (Nat.le_of_ble_eq_true rfl) rfl ?_
    refine gj_aload_n dX11_lookAt_172 rfl ?_
    refine gfX11_248 rfl dX11_lookAt_173 (mj_up_eq _ _ _) rfl ?_
    refine gj_ic (w := 1) dX11_lookAt_176 ?_
    refine gj_icmp_neN (tgt := 188) (by omega) (by omega) dX11_lookAt_177 rfl (fun zq0 => ?_) (fun zq0 => ?_)
    · exfalso; omega
    refine gj_iload dX11_lookAt_180 rfl ?_
    refine gj_S1 lkX11_254 (ev_X11_isSmall (by omega)) dX11_lookAt_182 rfl rfl rfl rfl rfl ?_
    refine gj_goto (tgt := 193) dX11_lookAt_185 rfl ?_
    rcases Bool.eq_false_or_eq_true (decide (97 ≤ B ((sp_er B y2 32 32 p) + (1 + j)) ∧ B ((sp_er B y2 32 32 p) + (1 + j)) ≤ 122)) with hq9 | hq9
    · refine gj_top (y := nI 1) (by rw [hq9]; rfl) ?_
      have hn9 : (fun i => sp_erp B 97 122 (sp_er B y2 32 32 p) (1 + i)) j = false := by show sp_erp B 97 122 (sp_er B y2 32 32 p) (1 + j) = false; unfold sp_erp; rw [hq9]; rfl
      refine gj_istore_n (L' := [some (.ref 100), some (.int (nI p)), some (.int (nI (B (sp_er B y2 32 32 p)))), some (.int (nI 1)), some (.int (nI (B ((sp_er B y2 32 32 p) + (1 + j)))))]) dX11_lookAt_193 (Nat.le_of_ble_eq_true rfl) rfl ?_
      refine gj_aload_n dX11_lookAt_194 rfl ?_
      refine gj_dup dX11_lookAt_195 rfl ?_
      refine gfX11_245 rfl dX11_lookAt_196 (mj_up_eq _ _ _) rfl ?_
      refine gj_iload_n dX11_lookAt_199 rfl ?_
      refine gj_if_eqN (tgt := 207) (by omega) dX11_lookAt_200 rfl (fun zq0 => ?_) (fun zq0 => ?_)
      · exfalso; revert zq0; decide
      refine gj_ic (w := 1) dX11_lookAt_203 ?_
      refine gj_goto (tgt := 208) dX11_lookAt_204 rfl ?_
      refine gj_iaddN  dX11_lookAt_208 ?_
      refine pfX11_245 rfl dX11_lookAt_209 (mj_up_eq _ _ _) (Nat.le_of_ble_eq_true rfl) ?_
      refine gj_cast (h' := mj_up h 100 (.inr (9, [.ref 101, .ref 102, .ref 103, .ref 104, .long (lN a0), .long (lN a1), .ref 105, .ref 106, .ref 107, .int (nI y2), .int (nI (sp_er B y2 32 32 p)), .int (nI ((1 + j) + 1)), .int (nI 1), .int (nI 0), .ref 108, .ref 109]))) rfl rfl (by funext x; unfold mj_up; (repeat' split) <;> first | rfl | omega) ?_
      refine gj_goto (tgt := 136) dX11_lookAt_212 rfl ?_
      refine gj_forget (i := 4) (L' := [some (.ref 100), some (.int (nI p)), some (.int (nI (B (sp_er B y2 32 32 p)))), some (.int (nI 1)), none]) rfl ?_
      exact (ih (fun i hi => by by_cases q : i = j <;> first | (subst q; exact hn9) | exact hq i (by omega)))
    refine gj_top (y := nI 0) (by rw [hq9]; rfl) ?_
    have hp9 : (fun i => sp_erp B 97 122 (sp_er B y2 32 32 p) (1 + i)) j = true := by show sp_erp B 97 122 (sp_er B y2 32 32 p) (1 + j) = true; unfold sp_erp; rw [hq9]; rfl
    refine gj_istore_n (L' := [some (.ref 100), some (.int (nI p)), some (.int (nI (B (sp_er B y2 32 32 p)))), some (.int (nI 0)), some (.int (nI (B ((sp_er B y2 32 32 p) + (1 + j)))))]) dX11_lookAt_193 (Nat.le_of_ble_eq_true rfl) rfl ?_
    refine gj_aload_n dX11_lookAt_194 rfl ?_
    refine gj_dup dX11_lookAt_195 rfl ?_
    refine gfX11_245 rfl dX11_lookAt_196 (mj_up_eq _ _ _) rfl ?_
    refine gj_iload_n dX11_lookAt_199 rfl ?_
    refine gj_if_eqN (tgt := 207) (by omega) dX11_lookAt_200 rfl (fun zq0 => ?_) (fun zq0 => ?_)
    rotate_left
    · exfalso; revert zq0; decide
    refine gj_ic (w := 0) dX11_lookAt_207 ?_
    refine gj_iaddN  dX11_lookAt_208 ?_
    refine pfX11_245 rfl dX11_lookAt_209 (mj_up_eq _ _ _) (Nat.le_of_ble_eq_true rfl) ?_
    refine gj_cast (h' := mj_up h 100 (.inr (9, [.ref 101, .ref 102, .ref 103, .ref 104, .long (lN a0), .long (lN a1), .ref 105, .ref 106, .ref 107, .int (nI y2), .int (nI (sp_er B y2 32 32 p)), .int (nI ((1 + j) + 0)), .int (nI 1), .int (nI 0), .ref 108, .ref 109]))) rfl rfl (by funext x; unfold mj_up; (repeat' split) <;> first | rfl | omega) ?_
    refine gj_goto (tgt := 136) dX11_lookAt_212 rfl ?_
    refine gj_iload_n dX11_lookAt_136 rfl ?_
    refine gj_if_eqN (tgt := 215) (by omega) dX11_lookAt_137 rfl (fun zq0 => ?_) (fun zq0 => ?_)
    rotate_left
    · exfalso; revert zq0; decide
    refine gj_forget (i := 3) (L' := [some (.ref 100), some (.int (nI p)), some (.int (nI (B (sp_er B y2 32 32 p)))), none, some (.int (nI (B ((sp_er B y2 32 32 p) + (1 + j)))))]) rfl ?_
    refine gj_forget (i := 4) (L' := [some (.ref 100), some (.int (nI p)), some (.int (nI (B (sp_er B y2 32 32 p)))), none, none]) rfl ?_
    have he9 : sp_eb B y2 (sp_er B y2 32 32 p) = (sp_er B y2 32 32 p) + (1 + j) := by rw [sp_eb_w h3 h4]; exact sp_er_at h3 h4 hq (by omega) (fun _ => hp9)
    exact gj_cast rfl rfl (by rw [show sp_eb B y2 (sp_er B y2 32 32 p) - (sp_er B y2 32 32 p) = 1 + j by omega]; first | done | rfl) jn215
  refine gj_aload_n dX11_lookAt_0 rfl ?_
  refine gj_iload_n dX11_lookAt_1 rfl ?_
  refine pfX11_242 rfl dX11_lookAt_2 H0 (Nat.le_of_ble_eq_true rfl) ?_
  show gj _ _ _ _ _ _ _ _ (mj_up h 100 (.inr (9, [.ref 101, .ref 102, .ref 103, .ref 104, .long (lN a0), .long (lN a1), .ref 105, .ref 106, .ref 107, .int (nI y2), .int (nI p), .int (nI y4), .int (nI y5), .int (nI y6), .ref 108, .ref 109])))
  refine gj_cast (L' := [some (.ref 100), some (.int (nI p)), none, none, none]) (st' := []) (h' := mj_up h 100 (.inr (9, [.ref 101, .ref 102, .ref 103, .ref 104, .long (lN a0), .long (lN a1), .ref 105, .ref 106, .ref 107, .int (nI y2), .int (nI (p + 0)), .int (nI y4), .int (nI y5), .int (nI y6), .ref 108, .ref 109]))) rfl rfl rfl ?_
  refine gj_loopI (fun j => ∀ i, i < j → (sp_erp B 32 32 p) i = false) (fun j => [some (.ref 100), some (.int (nI p)), none, none, none]) (fun j => mj_up h 100 (.inr (9, [.ref 101, .ref 102, .ref 103, .ref 104, .long (lN a0), .long (lN a1), .ref 105, .ref 106, .ref 107, .int (nI y2), .int (nI (p + j)), .int (nI y4), .int (nI y5), .int (nI y6), .ref 108, .ref 109]))) (y2 - p) (fun hq => ?_) (fun j hj hq ih => ?_) 0 (Nat.zero_le _) (fun i hi => absurd hi (Nat.not_lt_zero _))
  · show gj _ _ _ _ _ _ [some (.ref 100), some (.int (nI p)), none, none, none] _ _
    refine gj_aload_n dX11_lookAt_5 rfl ?_
    refine gfX11_242 rfl dX11_lookAt_6 (mj_up_eq _ _ _) rfl ?_
    refine gj_aload_n dX11_lookAt_9 rfl ?_
    refine gfX11_230 rfl dX11_lookAt_10 (mj_up_eq _ _ _) rfl ?_
    refine gj_icmp_geN (tgt := 43) (by omega) (by omega) dX11_lookAt_13 rfl (fun zq6 => ?_) (fun zq6 => ?_)
    rotate_left
    · exfalso; omega
    have hs9 : sp_er B y2 32 32 p = p + (y2 - p) := by unfold sp_er; rw [sp_fst_none hq]
    exact gj_cast rfl rfl (by rw [hs9]) jn43
  show gj _ _ _ _ _ _ [some (.ref 100), some (.int (nI p)), none, none, none] _ _
  refine gj_aload_n dX11_lookAt_5 rfl ?_
  refine gfX11_242 rfl dX11_lookAt_6 (mj_up_eq _ _ _) rfl ?_
  refine gj_aload_n dX11_lookAt_9 rfl ?_
  refine gfX11_230 rfl dX11_lookAt_10 (mj_up_eq _ _ _) rfl ?_
  refine gj_icmp_geN (tgt := 43) (by omega) (by omega) dX11_lookAt_13 rfl (fun zq7 => ?_) (fun zq7 => ?_)
  · exfalso; omega
  refine gj_aload_n dX11_lookAt_16 rfl ?_
  refine gfX11_33 rfl dX11_lookAt_17 (mj_up_eq _ _ _) rfl ?_
  refine gj_aload_n dX11_lookAt_20 rfl ?_
  refine gfX11_242 rfl dX11_lookAt_21 (mj_up_eq _ _ _) rfl ?_
  refine gj_ialdN dX11_lookAt_24 ((mj_up_ne (by decide)).trans HB) (by omega) (by omega) ?_
  have hb8 := hB (p + j)
  refine gj_bp 32 dX11_lookAt_25 (by decide) ?_
  refine gj_icmp_neN (tgt := 43) (by omega) (by omega) dX11_lookAt_27 rfl (fun zq8 => ?_) (fun zq8 => ?_)
  · -- 27 taken
    have hp9 : (sp_erp B 32 32 p) j = true := by unfold sp_erp; rw [decide_eq_false (by omega)]; rfl
    have hs9 : sp_er B y2 32 32 p = p + j := by unfold sp_er; rw [sp_fst_at hj hp9 hq]
    exact gj_cast rfl rfl (by rw [hs9]) jn43
  have hn9 : (sp_erp B 32 32 p) j = false := by unfold sp_erp; rw [decide_eq_true (by omega)]; rfl
  refine gj_aload_n dX11_lookAt_30 rfl ?_
  refine gj_dup dX11_lookAt_31 rfl ?_
  refine gfX11_242 rfl dX11_lookAt_32 (mj_up_eq _ _ _) rfl ?_
  refine gj_ic (w := 1) dX11_lookAt_35 ?_
  refine gj_iaddN  dX11_lookAt_36 ?_
  refine pfX11_242 rfl dX11_lookAt_37 (mj_up_eq _ _ _) (Nat.le_of_ble_eq_true rfl) ?_
  refine gj_cast (h' := mj_up h 100 (.inr (9, [.ref 101, .ref 102, .ref 103, .ref 104, .long (lN a0), .long (lN a1), .ref 105, .ref 106, .ref 107, .int (nI y2), .int (nI ((p + j) + 1)), .int (nI y4), .int (nI y5), .int (nI y6), .ref 108, .ref 109]))) rfl rfl (by funext x; unfold mj_up; (repeat' split) <;> first | rfl | omega) ?_
  refine gj_goto (tgt := 5) dX11_lookAt_40 rfl ?_
  exact gj_cast rfl rfl (by rw [Nat.add_assoc]) (ih (fun i hi => by by_cases q : i = j <;> first | (subst q; exact hn9) | exact hq i (by omega)))
set_option maxHeartbeats 1000000 in
set_option maxRecDepth 10000 in
theorem ev_X11_lookAt_num {E : mj_E} {h : mj_H} {a0 a1 y2 y3 y4 y5 y6 : Nat} (H0 : h 100 = some (mj_mo a0 a1 y2 y3 y4 y5 y6)) {B : Nat → Nat} (HB : h 107 = some (mj_ar 150 B)) {p : Nat} (h0 : ∀ c, B c ≤ 127) (h1 : y2 ≤ 150) (h2 : p ≤ y2) (h3 : sp_er B y2 32 32 p < y2) (h4 : ¬ (97 ≤ B (sp_er B y2 32 32 p) ∧ B (sp_er B y2 32 32 p) ≤ 122)) (h5 : 48 ≤ B (sp_er B y2 32 32 p) ∧ B (sp_er B y2 32 32 p) ≤ 57) : mj_Ev E iX11_lookAt [.ref 100, .int (nI p)] h (mj_R none (mj_up h 100 (mj_mo a0 a1 y2 (sp_er B y2 32 32 p) (sp_eb B y2 (sp_er B y2 32 32 p) - (sp_er B y2 32 32 p)) (sp_xk B y2 (sp_er B y2 32 32 p) (sp_eb B y2 (sp_er B y2 32 32 p))) (sp_xv B y2 (sp_er B y2 32 32 p) (sp_eb B y2 (sp_er B y2 32 32 p)))))) := by
  have hB := h0
  have hsl := @sp_er_le B y2 32 32 p h2
  have hbs := hB (sp_er B y2 32 32 p)
  have hgt := sp_eb_gt (B := B) h3
  have hel := @sp_eb_le B y2 (sp_er B y2 32 32 p) hsl
  refine mj_Ev.of (L0 := [some (.ref 100), some (.int (nI p)), none, none, none]) pnRX11 (Nat.le_of_ble_eq_true rfl) rfl ?_
  refine gj_cut 43 [some (.ref 100), some (.int (nI p)), none, none, none] [] (mj_up h 100 (.inr (9, [.ref 101, .ref 102, .ref 103, .ref 104, .long (lN a0), .long (lN a1), .ref 105, .ref 106, .ref 107, .int (nI y2), .int (nI (sp_er B y2 32 32 p)), .int (nI y4), .int (nI y5), .int (nI y6), .ref 108, .ref 109]))) ?_ (fun jn43 => ?_)
  · -- behind 43
    refine gj_aload_n dX11_lookAt_43 rfl ?_
    refine gj_ic (w := 0) dX11_lookAt_44 ?_
    refine pfX11_245 rfl dX11_lookAt_45 (mj_up_eq _ _ _) (Nat.le_of_ble_eq_true rfl) ?_
    refine gj_cast (h' := mj_up h 100 (.inr (9, [.ref 101, .ref 102, .ref 103, .ref 104, .long (lN a0), .long (lN a1), .ref 105, .ref 106, .ref 107, .int (nI y2), .int (nI (sp_er B y2 32 32 p)), .int (nI 0), .int (nI y5), .int (nI y6), .ref 108, .ref 109]))) rfl rfl (by funext x; unfold mj_up; (repeat' split) <;> first | rfl | omega) ?_
    refine gj_aload_n dX11_lookAt_48 rfl ?_
    refine gj_ic (w := 0) dX11_lookAt_49 ?_
    refine pfX11_248 rfl dX11_lookAt_50 (mj_up_eq _ _ _) (Nat.le_of_ble_eq_true rfl) ?_
    refine gj_cast (h' := mj_up h 100 (.inr (9, [.ref 101, .ref 102, .ref 103, .ref 104, .long (lN a0), .long (lN a1), .ref 105, .ref 106, .ref 107, .int (nI y2), .int (nI (sp_er B y2 32 32 p)), .int (nI 0), .int (nI 0), .int (nI y6), .ref 108, .ref 109]))) rfl rfl (by funext x; unfold mj_up; (repeat' split) <;> first | rfl | omega) ?_
    refine gj_aload_n dX11_lookAt_53 rfl ?_
    refine gj_ic (w := 0) dX11_lookAt_54 ?_
    refine pfX11_251 rfl dX11_lookAt_55 (mj_up_eq _ _ _) (Nat.le_of_ble_eq_true rfl) ?_
    refine gj_cast (h' := mj_up h 100 (.inr (9, [.ref 101, .ref 102, .ref 103, .ref 104, .long (lN a0), .long (lN a1), .ref 105, .ref 106, .ref 107, .int (nI y2), .int (nI (sp_er B y2 32 32 p)), .int (nI 0), .int (nI 0), .int (nI 0), .ref 108, .ref 109]))) rfl rfl (by funext x; unfold mj_up; (repeat' split) <;> first | rfl | omega) ?_
    refine gj_aload_n dX11_lookAt_58 rfl ?_
    refine gfX11_242 rfl dX11_lookAt_59 (mj_up_eq _ _ _) rfl ?_
    refine gj_aload_n dX11_lookAt_62 rfl ?_
    refine gfX11_230 rfl dX11_lookAt_63 (mj_up_eq _ _ _) rfl ?_
    refine gj_icmp_neN (tgt := 70) (by omega) (by omega) dX11_lookAt_66 rfl (fun zq1 => ?_) (fun zq1 => ?_)
    rotate_left
    · exfalso; omega
    refine gj_aload_n dX11_lookAt_70 rfl ?_
    refine gfX11_33 rfl dX11_lookAt_71 (mj_up_eq _ _ _) rfl ?_
    refine gj_aload_n dX11_lookAt_74 rfl ?_
    refine gfX11_242 rfl dX11_lookAt_75 (mj_up_eq _ _ _) rfl ?_
    refine gj_ialdN dX11_lookAt_78 ((mj_up_ne (by decide)).trans HB) (by omega) (by omega) ?_
    refine gj_istore_n (L' := [some (.ref 100), some (.int (nI p)), some (.int (nI (B (sp_er B y2 32 32 p)))), none, none]) dX11_lookAt_79 (Nat.le_of_ble_eq_true rfl) rfl ?_
    refine gj_aload_n dX11_lookAt_80 rfl ?_
    refine gj_iload_n dX11_lookAt_81 rfl ?_
    refine gj_S1 lkX11_254 (ev_X11_isSmall (by omega)) dX11_lookAt_82 rfl rfl rfl rfl rfl ?_
    refine gj_if_eqb (tgt := 92) dX11_lookAt_85 rfl (fun zq2 => ?_) (fun zq2 => ?_)
    rotate_left
    · exfalso; first | exact absurd (of_decide_eq_true zq2) h4 | exact absurd zq2 (by rw [decide_eq_true h4]; decide)
    refine gj_iload_n dX11_lookAt_92 rfl ?_
    refine gj_S1 lkX11_257 (ev_X11_isFigure (by omega)) dX11_lookAt_93 rfl rfl rfl rfl rfl ?_
    refine gj_if_eqb (tgt := 103) dX11_lookAt_96 rfl (fun zq3 => ?_) (fun zq3 => ?_)
    · exfalso; first | exact absurd (of_decide_eq_true zq3) h5 | exact absurd zq3 (by rw [decide_eq_true h5]; decide)
    refine gj_ic (w := 2) dX11_lookAt_99 ?_
    refine gj_goto (tgt := 114) dX11_lookAt_100 rfl ?_
    refine pfX11_248 rfl dX11_lookAt_114 (mj_up_eq _ _ _) (Nat.le_of_ble_eq_true rfl) ?_
    refine gj_cast (h' := mj_up h 100 (.inr (9, [.ref 101, .ref 102, .ref 103, .ref 104, .long (lN a0), .long (lN a1), .ref 105, .ref 106, .ref 107, .int (nI y2), .int (nI (sp_er B y2 32 32 p)), .int (nI 0), .int (nI 2), .int (nI 0), .ref 108, .ref 109]))) rfl rfl (by funext x; unfold mj_up; (repeat' split) <;> first | rfl | omega) ?_
    refine gj_aload_n dX11_lookAt_117 rfl ?_
    refine gj_ic (w := 1) dX11_lookAt_118 ?_
    refine pfX11_245 rfl dX11_lookAt_119 (mj_up_eq _ _ _) (Nat.le_of_ble_eq_true rfl) ?_
    refine gj_cast (h' := mj_up h 100 (.inr (9, [.ref 101, .ref 102, .ref 103, .ref 104, .long (lN a0), .long (lN a1), .ref 105, .ref 106, .ref 107, .int (nI y2), .int (nI (sp_er B y2 32 32 p)), .int (nI 1), .int (nI 2), .int (nI 0), .ref 108, .ref 109]))) rfl rfl (by funext x; unfold mj_up; (repeat' split) <;> first | rfl | omega) ?_
    refine gj_cut 215 [some (.ref 100), some (.int (nI p)), some (.int (nI (B (sp_er B y2 32 32 p)))), none, none] [] (mj_up h 100 (.inr (9, [.ref 101, .ref 102, .ref 103, .ref 104, .long (lN a0), .long (lN a1), .ref 105, .ref 106, .ref 107, .int (nI y2), .int (nI (sp_er B y2 32 32 p)), .int (nI (sp_eb B y2 (sp_er B y2 32 32 p) - (sp_er B y2 32 32 p))), .int (nI 2), .int (nI 0), .ref 108, .ref 109]))) ?_ (fun jn215 => ?_)
    · -- behind 215
      refine gj_ic (w := 0) dX11_lookAt_215 ?_
      refine gj_istore (L' := [some (.ref 100), some (.int (nI p)), some (.int (nI (B (sp_er B y2 32 32 p)))), none, some (.int (nI 0))]) dX11_lookAt_216 (Nat.le_of_ble_eq_true rfl) rfl ?_
      refine gj_iload dX11_lookAt_218 rfl ?_
      refine gj_aload_n dX11_lookAt_220 rfl ?_
      refine gfX11_245 rfl dX11_lookAt_221 (mj_up_eq _ _ _) rfl ?_
      refine gj_icmp_geN (tgt := 274) (by omega) (by omega) dX11_lookAt_224 rfl (fun zq4 => ?_) (fun zq4 => ?_)
      · -- 224 taken
        refine gj_aload_n dX11_lookAt_274 rfl ?_
        refine gj_aload_n dX11_lookAt_275 rfl ?_
        refine gfX11_248 rfl dX11_lookAt_276 (mj_up_eq _ _ _) rfl ?_
        refine gj_ic (w := 2) dX11_lookAt_279 ?_
        refine gj_icmp_neN (tgt := 295) (by omega) (by omega) dX11_lookAt_280 rfl (fun zq0 => ?_) (fun zq0 => ?_)
        · exfalso; omega
        refine gj_aload_n dX11_lookAt_283 rfl ?_
        refine gfX11_245 rfl dX11_lookAt_284 (mj_up_eq _ _ _) rfl ?_
        refine gj_ic (w := 2) dX11_lookAt_287 ?_
        refine gj_icmp_leN (tgt := 295) (by omega) (by omega) dX11_lookAt_288 rfl (fun zq5 => ?_) (fun zq5 => ?_)
        · -- 288 taken
          refine gj_aload_n dX11_lookAt_295 rfl ?_
          refine gfX11_248 rfl dX11_lookAt_296 (mj_up_eq _ _ _) rfl ?_
          refine pfX11_248 rfl dX11_lookAt_299 (mj_up_eq _ _ _) (Nat.le_of_ble_eq_true rfl) ?_
          refine gj_cast (h' := mj_up h 100 (.inr (9, [.ref 101, .ref 102, .ref 103, .ref 104, .long (lN a0), .long (lN a1), .ref 105, .ref 106, .ref 107, .int (nI y2), .int (nI (sp_er B y2 32 32 p)), .int (nI (sp_eb B y2 (sp_er B y2 32 32 p) - (sp_er B y2 32 32 p))), .int (nI 2), .int (nI 0), .ref 108, .ref 109]))) rfl rfl (by funext x; unfold mj_up; (repeat' split) <;> first | rfl | omega) ?_
          exact gj_vr rfl dX11_lookAt_302 (by first | (exfalso; omega) | (rw [sp_xk_n2 h3 h4 h5 (by omega), sp_xv_1 h3 h4 h5 (by omega), ← show 10 * 0 + B (sp_er B y2 32 32 p) - 48 = B (sp_er B y2 32 32 p) - 48 by omega]; first | done | rfl) | (rw [sp_xk_n2 h3 h4 h5 (by omega), sp_xv_2 h3 h4 h5 (by omega), ← show 10 * (10 * 0 + B (sp_er B y2 32 32 p) - 48) + B ((sp_er B y2 32 32 p) + 1) - 48 = 10 * (B (sp_er B y2 32 32 p) - 48) + (B ((sp_er B y2 32 32 p) + 1) - 48) by omega]; first | done | rfl) | (rw [sp_xk_n4 h3 h4 h5 (by omega), sp_xv_2 h3 h4 h5 (by omega), ← show 10 * (10 * 0 + B (sp_er B y2 32 32 p) - 48) + B ((sp_er B y2 32 32 p) + 1) - 48 = 10 * (B (sp_er B y2 32 32 p) - 48) + (B ((sp_er B y2 32 32 p) + 1) - 48) by omega]; first | done | rfl))
        refine gj_ic (w := 4) dX11_lookAt_291 ?_
        refine gj_goto (tgt := 299) dX11_lookAt_292 rfl ?_
        refine pfX11_248 rfl dX11_lookAt_299 (mj_up_eq _ _ _) (Nat.le_of_ble_eq_true rfl) ?_
        refine gj_cast (h' := mj_up h 100 (.inr (9, [.ref 101, .ref 102, .ref 103, .ref 104, .long (lN a0), .long (lN a1), .ref 105, .ref 106, .ref 107, .int (nI y2), .int (nI (sp_er B y2 32 32 p)), .int (nI (sp_eb B y2 (sp_er B y2 32 32 p) - (sp_er B y2 32 32 p))), .int (nI 4), .int (nI 0), .ref 108, .ref 109]))) rfl rfl (by funext x; unfold mj_up; (repeat' split) <;> first | rfl | omega) ?_
        exact gj_vr rfl dX11_lookAt_302 (by first | (exfalso; omega) | (rw [sp_xk_n2 h3 h4 h5 (by omega), sp_xv_1 h3 h4 h5 (by omega), ← show 10 * 0 + B (sp_er B y2 32 32 p) - 48 = B (sp_er B y2 32 32 p) - 48 by omega]; first | done | rfl) | (rw [sp_xk_n2 h3 h4 h5 (by omega), sp_xv_2 h3 h4 h5 (by omega), ← show 10 * (10 * 0 + B (sp_er B y2 32 32 p) - 48) + B ((sp_er B y2 32 32 p) + 1) - 48 = 10 * (B (sp_er B y2 32 32 p) - 48) + (B ((sp_er B y2 32 32 p) + 1) - 48) by omega]; first | done | rfl) | (rw [sp_xk_n4 h3 h4 h5 (by omega), sp_xv_2 h3 h4 h5 (by omega), ← show 10 * (10 * 0 + B (sp_er B y2 32 32 p) - 48) + B ((sp_er B y2 32 32 p) + 1) - 48 = 10 * (B (sp_er B y2 32 32 p) - 48) + (B ((sp_er B y2 32 32 p) + 1) - 48) by omega]; first | done | rfl))
      refine gj_iload dX11_lookAt_227 rfl ?_
      refine gj_ic (w := 2) dX11_lookAt_229 ?_
      refine gj_icmp_geN (tgt := 274) (by omega) (by omega) dX11_lookAt_230 rfl (fun zq0 => ?_) (fun zq0 => ?_)
      · exfalso; omega
      refine gj_aload_n dX11_lookAt_233 rfl ?_
      refine gfX11_248 rfl dX11_lookAt_234 (mj_up_eq _ _ _) rfl ?_
      refine gj_ic (w := 2) dX11_lookAt_237 ?_
      refine gj_icmp_neN (tgt := 274) (by omega) (by omega) dX11_lookAt_238 rfl (fun zq0 => ?_) (fun zq0 => ?_)
      · exfalso; omega
      refine gj_aload_n dX11_lookAt_241 rfl ?_
      refine gj_bp 10 dX11_lookAt_242 (by decide) ?_
      refine gj_aload_n dX11_lookAt_244 rfl ?_
      refine gfX11_251 rfl dX11_lookAt_245 (mj_up_eq _ _ _) rfl ?_
      refine gj_imulN  dX11_lookAt_248 ?_
      refine gj_aload_n dX11_lookAt_249 rfl ?_
      refine gfX11_33 rfl dX11_lookAt_250 (mj_up_eq _ _ _) rfl ?_
      refine gj_aload_n dX11_lookAt_253 rfl ?_
      refine gfX11_242 rfl dX11_lookAt_254 (mj_up_eq _ _ _) rfl ?_
      refine gj_iload dX11_lookAt_257 rfl ?_
      refine gj_iaddN  dX11_lookAt_259 ?_
      refine gj_ialdN dX11_lookAt_260 ((mj_up_ne (by decide)).trans HB) (by omega) (by omega) ?_
      refine gj_topN (show B ((sp_er B y2 32 32 p) + 0) = B (sp_er B y2 32 32 p) from rfl) ?_
      refine gj_iaddN  dX11_lookAt_261 ?_
      refine gj_bp 48 dX11_lookAt_262 (by decide) ?_
      refine gj_isubN (by omega) dX11_lookAt_264 ?_
      refine pfX11_251 rfl dX11_lookAt_265 (mj_up_eq _ _ _) (Nat.le_of_ble_eq_true rfl) ?_
      refine gj_cast (h' := mj_up h 100 (.inr (9, [.ref 101, .ref 102, .ref 103, .ref 104, .long (lN a0), .long (lN a1), .ref 105, .ref 106, .ref 107, .int (nI y2), .int (nI (sp_er B y2 32 32 p)), .int (nI (sp_eb B y2 (sp_er B y2 32 32 p) - (sp_er B y2 32 32 p))), .int (nI 2), .int (nI (((10 * 0) + (B (sp_er B y2 32 32 p))) - 48)), .ref 108, .ref 109]))) rfl rfl (by funext x; unfold mj_up; (repeat' split) <;> first | rfl | omega) ?_
      refine gj_iincN (L' := [some (.ref 100), some (.int (nI p)), some (.int (nI (B (sp_er B y2 32 32 p)))), none, some (.int (nI 1))]) dX11_lookAt_268 rfl (Nat.le_of_ble_eq_true rfl) rfl ?_
      refine gj_goto (tgt := 218) dX11_lookAt_271 rfl ?_
      refine gj_iload dX11_lookAt_218 rfl ?_
      refine gj_aload_n dX11_lookAt_220 rfl ?_
      refine gfX11_245 rfl dX11_lookAt_221 (mj_up_eq _ _ _) rfl ?_
      refine gj_icmp_geN (tgt := 274) (by omega) (by omega) dX11_lookAt_224 rfl (fun zq6 => ?_) (fun zq6 => ?_)
      · -- 224 taken
        refine gj_aload_n dX11_lookAt_274 rfl ?_
        refine gj_aload_n dX11_lookAt_275 rfl ?_
        refine gfX11_248 rfl dX11_lookAt_276 (mj_up_eq _ _ _) rfl ?_
        refine gj_ic (w := 2) dX11_lookAt_279 ?_
        refine gj_icmp_neN (tgt := 295) (by omega) (by omega) dX11_lookAt_280 rfl (fun zq0 => ?_) (fun zq0 => ?_)
        · exfalso; omega
        refine gj_aload_n dX11_lookAt_283 rfl ?_
        refine gfX11_245 rfl dX11_lookAt_284 (mj_up_eq _ _ _) rfl ?_
        refine gj_ic (w := 2) dX11_lookAt_287 ?_
        refine gj_icmp_leN (tgt := 295) (by omega) (by omega) dX11_lookAt_288 rfl (fun zq7 => ?_) (fun zq7 => ?_)
        · -- 288 taken
          refine gj_aload_n dX11_lookAt_295 rfl ?_
          refine gfX11_248 rfl dX11_lookAt_296 (mj_up_eq _ _ _) rfl ?_
          refine pfX11_248 rfl dX11_lookAt_299 (mj_up_eq _ _ _) (Nat.le_of_ble_eq_true rfl) ?_
          refine gj_cast (h' := mj_up h 100 (.inr (9, [.ref 101, .ref 102, .ref 103, .ref 104, .long (lN a0), .long (lN a1), .ref 105, .ref 106, .ref 107, .int (nI y2), .int (nI (sp_er B y2 32 32 p)), .int (nI (sp_eb B y2 (sp_er B y2 32 32 p) - (sp_er B y2 32 32 p))), .int (nI 2), .int (nI (((10 * 0) + (B (sp_er B y2 32 32 p))) - 48)), .ref 108, .ref 109]))) rfl rfl (by funext x; unfold mj_up; (repeat' split) <;> first | rfl | omega) ?_
          exact gj_vr rfl dX11_lookAt_302 (by first | (exfalso; omega) | (rw [sp_xk_n2 h3 h4 h5 (by omega), sp_xv_1 h3 h4 h5 (by omega), ← show 10 * 0 + B (sp_er B y2 32 32 p) - 48 = B (sp_er B y2 32 32 p) - 48 by omega]; first | done | rfl) | (rw [sp_xk_n2 h3 h4 h5 (by omega), sp_xv_2 h3 h4 h5 (by omega), ← show 10 * (10 * 0 + B (sp_er B y2 32 32 p) - 48) + B ((sp_er B y2 32 32 p) + 1) - 48 = 10 * (B (sp_er B y2 32 32 p) - 48) + (B ((sp_er B y2 32 32 p) + 1) - 48) by omega]; first | done | rfl) | (rw [sp_xk_n4 h3 h4 h5 (by omega), sp_xv_2 h3 h4 h5 (by omega), ← show 10 * (10 * 0 + B (sp_er B y2 32 32 p) - 48) + B ((sp_er B y2 32 32 p) + 1) - 48 = 10 * (B (sp_er B y2 32 32 p) - 48) + (B ((sp_er B y2 32 32 p) + 1) - 48) by omega]; first | done | rfl))
        refine gj_ic (w := 4) dX11_lookAt_291 ?_
        refine gj_goto (tgt := 299) dX11_lookAt_292 rfl ?_
        refine pfX11_248 rfl dX11_lookAt_299 (mj_up_eq _ _ _) (Nat.le_of_ble_eq_true rfl) ?_
        refine gj_cast (h' := mj_up h 100 (.inr (9, [.ref 101, .ref 102, .ref 103, .ref 104, .long (lN a0), .long (lN a1), .ref 105, .ref 106, .ref 107, .int (nI y2), .int (nI (sp_er B y2 32 32 p)), .int (nI (sp_eb B y2 (sp_er B y2 32 32 p) - (sp_er B y2 32 32 p))), .int (nI 4), .int (nI (((10 * 0) + (B (sp_er B y2 32 32 p))) - 48)), .ref 108, .ref 109]))) rfl rfl (by funext x; unfold mj_up; (repeat' split) <;> first | rfl | omega) ?_
        exact gj_vr rfl dX11_lookAt_302 (by first | (exfalso; omega) | (rw [sp_xk_n2 h3 h4 h5 (by omega), sp_xv_1 h3 h4 h5 (by omega), ← show 10 * 0 + B (sp_er B y2 32 32 p) - 48 = B (sp_er B y2 32 32 p) - 48 by omega]; first | done | rfl) | (rw [sp_xk_n2 h3 h4 h5 (by omega), sp_xv_2 h3 h4 h5 (by omega), ← show 10 * (10 * 0 + B (sp_er B y2 32 32 p) - 48) + B ((sp_er B y2 32 32 p) + 1) - 48 = 10 * (B (sp_er B y2 32 32 p) - 48) + (B ((sp_er B y2 32 32 p) + 1) - 48) by omega]; first | done | rfl) | (rw [sp_xk_n4 h3 h4 h5 (by omega), sp_xv_2 h3 h4 h5 (by omega), ← show 10 * (10 * 0 + B (sp_er B y2 32 32 p) - 48) + B ((sp_er B y2 32 32 p) + 1) - 48 = 10 * (B (sp_er B y2 32 32 p) - 48) + (B ((sp_er B y2 32 32 p) + 1) - 48) by omega]; first | done | rfl))
      refine gj_iload dX11_lookAt_227 rfl ?_
      refine gj_ic (w := 2) dX11_lookAt_229 ?_
      refine gj_icmp_geN (tgt := 274) (by omega) (by omega) dX11_lookAt_230 rfl (fun zq0 => ?_) (fun zq0 => ?_)
      · exfalso; omega
      refine gj_aload_n dX11_lookAt_233 rfl ?_
      refine gfX11_248 rfl dX11_lookAt_234 (mj_up_eq _ _ _) rfl ?_
      refine gj_ic (w := 2) dX11_lookAt_237 ?_
      refine gj_icmp_neN (tgt := 274) (by omega) (by omega) dX11_lookAt_238 rfl (fun zq0 => ?_) (fun zq0 => ?_)
      · exfalso; omega
      refine gj_aload_n dX11_lookAt_241 rfl ?_
      refine gj_bp 10 dX11_lookAt_242 (by decide) ?_
      refine gj_aload_n dX11_lookAt_244 rfl ?_
      refine gfX11_251 rfl dX11_lookAt_245 (mj_up_eq _ _ _) rfl ?_
      refine gj_imulN  dX11_lookAt_248 ?_
      refine gj_aload_n dX11_lookAt_249 rfl ?_
      refine gfX11_33 rfl dX11_lookAt_250 (mj_up_eq _ _ _) rfl ?_
      refine gj_aload_n dX11_lookAt_253 rfl ?_
      refine gfX11_242 rfl dX11_lookAt_254 (mj_up_eq _ _ _) rfl ?_
      refine gj_iload dX11_lookAt_257 rfl ?_
      refine gj_iaddN  dX11_lookAt_259 ?_
      refine gj_ialdN dX11_lookAt_260 ((mj_up_ne (by decide)).trans HB) (by omega) (by omega) ?_
      have hd2 := (sp_er_in (B := B) (n := y2) (lo := 48) (hi := 57) (p := (sp_er B y2 32 32 p)) (i := (sp_er B y2 32 32 p) + 1) (by omega) (by rw [← sp_eb_n h3 h5]; omega))
      refine gj_iaddN  dX11_lookAt_261 ?_
      refine gj_bp 48 dX11_lookAt_262 (by decide) ?_
      refine gj_isubN (by omega) dX11_lookAt_264 ?_
      refine pfX11_251 rfl dX11_lookAt_265 (mj_up_eq _ _ _) (Nat.le_of_ble_eq_true rfl) ?_
      refine gj_cast (h' := mj_up h 100 (.inr (9, [.ref 101, .ref 102, .ref 103, .ref 104, .long (lN a0), .long (lN a1), .ref 105, .ref 106, .ref 107, .int (nI y2), .int (nI (sp_er B y2 32 32 p)), .int (nI (sp_eb B y2 (sp_er B y2 32 32 p) - (sp_er B y2 32 32 p))), .int (nI 2), .int (nI (((10 * (((10 * 0) + (B (sp_er B y2 32 32 p))) - 48)) + (B ((sp_er B y2 32 32 p) + 1))) - 48)), .ref 108, .ref 109]))) rfl rfl (by funext x; unfold mj_up; (repeat' split) <;> first | rfl | omega) ?_
      refine gj_iincN (L' := [some (.ref 100), some (.int (nI p)), some (.int (nI (B (sp_er B y2 32 32 p)))), none, some (.int (nI 2))]) dX11_lookAt_268 rfl (Nat.le_of_ble_eq_true rfl) rfl ?_
      refine gj_goto (tgt := 218) dX11_lookAt_271 rfl ?_
      refine gj_iload dX11_lookAt_218 rfl ?_
      refine gj_aload_n dX11_lookAt_220 rfl ?_
      refine gfX11_245 rfl dX11_lookAt_221 (mj_up_eq _ _ _) rfl ?_
      refine gj_icmp_geN (tgt := 274) (by omega) (by omega) dX11_lookAt_224 rfl (fun zq8 => ?_) (fun zq8 => ?_)
      · -- 224 taken
        refine gj_aload_n dX11_lookAt_274 rfl ?_
        refine gj_aload_n dX11_lookAt_275 rfl ?_
        refine gfX11_248 rfl dX11_lookAt_276 (mj_up_eq _ _ _) rfl ?_
        refine gj_ic (w := 2) dX11_lookAt_279 ?_
        refine gj_icmp_neN (tgt := 295) (by omega) (by omega) dX11_lookAt_280 rfl (fun zq0 => ?_) (fun zq0 => ?_)
        · exfalso; omega
        refine gj_aload_n dX11_lookAt_283 rfl ?_
        refine gfX11_245 rfl dX11_lookAt_284 (mj_up_eq _ _ _) rfl ?_
        refine gj_ic (w := 2) dX11_lookAt_287 ?_
        refine gj_icmp_leN (tgt := 295) (by omega) (by omega) dX11_lookAt_288 rfl (fun zq9 => ?_) (fun zq9 => ?_)
        · -- 288 taken
          refine gj_aload_n dX11_lookAt_295 rfl ?_
          refine gfX11_248 rfl dX11_lookAt_296 (mj_up_eq _ _ _) rfl ?_
          refine pfX11_248 rfl dX11_lookAt_299 (mj_up_eq _ _ _) (Nat.le_of_ble_eq_true rfl) ?_
          refine gj_cast (h' := mj_up h 100 (.inr (9, [.ref 101, .ref 102, .ref 103, .ref 104, .long (lN a0), .long (lN a1), .ref 105, .ref 106, .ref 107, .int (nI y2), .int (nI (sp_er B y2 32 32 p)), .int (nI (sp_eb B y2 (sp_er B y2 32 32 p) - (sp_er B y2 32 32 p))), .int (nI 2), .int (nI (((10 * (((10 * 0) + (B (sp_er B y2 32 32 p))) - 48)) + (B ((sp_er B y2 32 32 p) + 1))) - 48)), .ref 108, .ref 109]))) rfl rfl (by funext x; unfold mj_up; (repeat' split) <;> first | rfl | omega) ?_
          exact gj_vr rfl dX11_lookAt_302 (by first | (exfalso; omega) | (rw [sp_xk_n2 h3 h4 h5 (by omega), sp_xv_1 h3 h4 h5 (by omega), ← show 10 * 0 + B (sp_er B y2 32 32 p) - 48 = B (sp_er B y2 32 32 p) - 48 by omega]; first | done | rfl) | (rw [sp_xk_n2 h3 h4 h5 (by omega), sp_xv_2 h3 h4 h5 (by omega), ← show 10 * (10 * 0 + B (sp_er B y2 32 32 p) - 48) + B ((sp_er B y2 32 32 p) + 1) - 48 = 10 * (B (sp_er B y2 32 32 p) - 48) + (B ((sp_er B y2 32 32 p) + 1) - 48) by omega]; first | done | rfl) | (rw [sp_xk_n4 h3 h4 h5 (by omega), sp_xv_2 h3 h4 h5 (by omega), ← show 10 * (10 * 0 + B (sp_er B y2 32 32 p) - 48) + B ((sp_er B y2 32 32 p) + 1) - 48 = 10 * (B (sp_er B y2 32 32 p) - 48) + (B ((sp_er B y2 32 32 p) + 1) - 48) by omega]; first | done | rfl))
        refine gj_ic (w := 4) dX11_lookAt_291 ?_
        refine gj_goto (tgt := 299) dX11_lookAt_292 rfl ?_
        refine pfX11_248 rfl dX11_lookAt_299 (mj_up_eq _ _ _) (Nat.le_of_ble_eq_true rfl) ?_
        refine gj_cast (h' := mj_up h 100 (.inr (9, [.ref 101, .ref 102, .ref 103, .ref 104, .long (lN a0), .long (lN a1), .ref 105, .ref 106, .ref 107, .int (nI y2), .int (nI (sp_er B y2 32 32 p)), .int (nI (sp_eb B y2 (sp_er B y2 32 32 p) - (sp_er B y2 32 32 p))), .int (nI 4), .int (nI (((10 * (((10 * 0) + (B (sp_er B y2 32 32 p))) - 48)) + (B ((sp_er B y2 32 32 p) + 1))) - 48)), .ref 108, .ref 109]))) rfl rfl (by funext x; unfold mj_up; (repeat' split) <;> first | rfl | omega) ?_
        exact gj_vr rfl dX11_lookAt_302 (by first | (exfalso; omega) | (rw [sp_xk_n2 h3 h4 h5 (by omega), sp_xv_1 h3 h4 h5 (by omega), ← show 10 * 0 + B (sp_er B y2 32 32 p) - 48 = B (sp_er B y2 32 32 p) - 48 by omega]; first | done | rfl) | (rw [sp_xk_n2 h3 h4 h5 (by omega), sp_xv_2 h3 h4 h5 (by omega), ← show 10 * (10 * 0 + B (sp_er B y2 32 32 p) - 48) + B ((sp_er B y2 32 32 p) + 1) - 48 = 10 * (B (sp_er B y2 32 32 p) - 48) + (B ((sp_er B y2 32 32 p) + 1) - 48) by omega]; first | done | rfl) | (rw [sp_xk_n4 h3 h4 h5 (by omega), sp_xv_2 h3 h4 h5 (by omega), ← show 10 * (10 * 0 + B (sp_er B y2 32 32 p) - 48) + B ((sp_er B y2 32 32 p) + 1) - 48 = 10 * (B (sp_er B y2 32 32 p) - 48) + (B ((sp_er B y2 32 32 p) + 1) - 48) by omega]; first | done | rfl))
      refine gj_iload dX11_lookAt_227 rfl ?_
      refine gj_ic (w := 2) dX11_lookAt_229 ?_
      refine gj_icmp_geN (tgt := 274) (by omega) (by omega) dX11_lookAt_230 rfl (fun zq0 => ?_) (fun zq0 => ?_)
      rotate_left
      · exfalso; omega
      refine gj_aload_n dX11_lookAt_274 rfl ?_
      refine gj_aload_n dX11_lookAt_275 rfl ?_
      refine gfX11_248 rfl dX11_lookAt_276 (mj_up_eq _ _ _) rfl ?_
      refine gj_ic (w := 2) dX11_lookAt_279 ?_
      refine gj_icmp_neN (tgt := 295) (by omega) (by omega) dX11_lookAt_280 rfl (fun zq0 => ?_) (fun zq0 => ?_)
      · exfalso; omega
      refine gj_aload_n dX11_lookAt_283 rfl ?_
      refine gfX11_245 rfl dX11_lookAt_284 (mj_up_eq _ _ _) rfl ?_
      refine gj_ic (w := 2) dX11_lookAt_287 ?_
      refine gj_icmp_leN (tgt := 295) (by omega) (by omega) dX11_lookAt_288 rfl (fun zq10 => ?_) (fun zq10 => ?_)
      · -- 288 taken
        refine gj_aload_n dX11_lookAt_295 rfl ?_
        refine gfX11_248 rfl dX11_lookAt_296 (mj_up_eq _ _ _) rfl ?_
        refine pfX11_248 rfl dX11_lookAt_299 (mj_up_eq _ _ _) (Nat.le_of_ble_eq_true rfl) ?_
        refine gj_cast (h' := mj_up h 100 (.inr (9, [.ref 101, .ref 102, .ref 103, .ref 104, .long (lN a0), .long (lN a1), .ref 105, .ref 106, .ref 107, .int (nI y2), .int (nI (sp_er B y2 32 32 p)), .int (nI (sp_eb B y2 (sp_er B y2 32 32 p) - (sp_er B y2 32 32 p))), .int (nI 2), .int (nI (((10 * (((10 * 0) + (B (sp_er B y2 32 32 p))) - 48)) + (B ((sp_er B y2 32 32 p) + 1))) - 48)), .ref 108, .ref 109]))) rfl rfl (by funext x; unfold mj_up; (repeat' split) <;> first | rfl | omega) ?_
        exact gj_vr rfl dX11_lookAt_302 (by first | (exfalso; omega) | (rw [sp_xk_n2 h3 h4 h5 (by omega), sp_xv_1 h3 h4 h5 (by omega), ← show 10 * 0 + B (sp_er B y2 32 32 p) - 48 = B (sp_er B y2 32 32 p) - 48 by omega]; first | done | rfl) | (rw [sp_xk_n2 h3 h4 h5 (by omega), sp_xv_2 h3 h4 h5 (by omega), ← show 10 * (10 * 0 + B (sp_er B y2 32 32 p) - 48) + B ((sp_er B y2 32 32 p) + 1) - 48 = 10 * (B (sp_er B y2 32 32 p) - 48) + (B ((sp_er B y2 32 32 p) + 1) - 48) by omega]; first | done | rfl) | (rw [sp_xk_n4 h3 h4 h5 (by omega), sp_xv_2 h3 h4 h5 (by omega), ← show 10 * (10 * 0 + B (sp_er B y2 32 32 p) - 48) + B ((sp_er B y2 32 32 p) + 1) - 48 = 10 * (B (sp_er B y2 32 32 p) - 48) + (B ((sp_er B y2 32 32 p) + 1) - 48) by omega]; first | done | rfl))
      refine gj_ic (w := 4) dX11_lookAt_291 ?_
      refine gj_goto (tgt := 299) dX11_lookAt_292 rfl ?_
      refine pfX11_248 rfl dX11_lookAt_299 (mj_up_eq _ _ _) (Nat.le_of_ble_eq_true rfl) ?_
      refine gj_cast (h' := mj_up h 100 (.inr (9, [.ref 101, .ref 102, .ref 103, .ref 104, .long (lN a0), .long (lN a1), .ref 105, .ref 106, .ref 107, .int (nI y2), .int (nI (sp_er B y2 32 32 p)), .int (nI (sp_eb B y2 (sp_er B y2 32 32 p) - (sp_er B y2 32 32 p))), .int (nI 4), .int (nI (((10 * (((10 * 0) + (B (sp_er B y2 32 32 p))) - 48)) + (B ((sp_er B y2 32 32 p) + 1))) - 48)), .ref 108, .ref 109]))) rfl rfl (by funext x; unfold mj_up; (repeat' split) <;> first | rfl | omega) ?_
      exact gj_vr rfl dX11_lookAt_302 (by first | (exfalso; omega) | (rw [sp_xk_n2 h3 h4 h5 (by omega), sp_xv_1 h3 h4 h5 (by omega), ← show 10 * 0 + B (sp_er B y2 32 32 p) - 48 = B (sp_er B y2 32 32 p) - 48 by omega]; first | done | rfl) | (rw [sp_xk_n2 h3 h4 h5 (by omega), sp_xv_2 h3 h4 h5 (by omega), ← show 10 * (10 * 0 + B (sp_er B y2 32 32 p) - 48) + B ((sp_er B y2 32 32 p) + 1) - 48 = 10 * (B (sp_er B y2 32 32 p) - 48) + (B ((sp_er B y2 32 32 p) + 1) - 48) by omega]; first | done | rfl) | (rw [sp_xk_n4 h3 h4 h5 (by omega), sp_xv_2 h3 h4 h5 (by omega), ← show 10 * (10 * 0 + B (sp_er B y2 32 32 p) - 48) + B ((sp_er B y2 32 32 p) + 1) - 48 = 10 * (B (sp_er B y2 32 32 p) - 48) + (B ((sp_er B y2 32 32 p) + 1) - 48) by omega]; first | done | rfl))
    refine gj_aload_n dX11_lookAt_122 rfl ?_
    refine gfX11_248 rfl dX11_lookAt_123 (mj_up_eq _ _ _) rfl ?_
    refine gj_ic (w := 3) dX11_lookAt_126 ?_
    refine gj_icmp_geN (tgt := 134) (by omega) (by omega) dX11_lookAt_127 rfl (fun zq0 => ?_) (fun zq0 => ?_)
    · exfalso; omega
    refine gj_ic (w := 1) dX11_lookAt_130 ?_
    refine gj_goto (tgt := 135) dX11_lookAt_131 rfl ?_
    refine gj_istore_n (L' := [some (.ref 100), some (.int (nI p)), some (.int (nI (B (sp_er B y2 32 32 p)))), some (.int (nI 1)), none]) dX11_lookAt_135 (Nat.le_of_ble_eq_true rfl) rfl ?_
    refine gj_cast (L' := [some (.ref 100), some (.int (nI p)), some (.int (nI (B (sp_er B y2 32 32 p)))), some (.int (nI 1)), none]) (st' := []) (h' := mj_up h 100 (.inr (9, [.ref 101, .ref 102, .ref 103, .ref 104, .long (lN a0), .long (lN a1), .ref 105, .ref 106, .ref 107, .int (nI y2), .int (nI (sp_er B y2 32 32 p)), .int (nI (1 + 0)), .int (nI 2), .int (nI 0), .ref 108, .ref 109]))) rfl rfl rfl ?_
    refine gj_loopI (fun j => ∀ i, i < j → (fun i => sp_erp B 48 57 (sp_er B y2 32 32 p) (1 + i)) i = false) (fun j => [some (.ref 100), some (.int (nI p)), some (.int (nI (B (sp_er B y2 32 32 p)))), some (.int (nI 1)), none]) (fun j => mj_up h 100 (.inr (9, [.ref 101, .ref 102, .ref 103, .ref 104, .long (lN a0), .long (lN a1), .ref 105, .ref 106, .ref 107, .int (nI y2), .int (nI (sp_er B y2 32 32 p)), .int (nI (1 + j)), .int (nI 2), .int (nI 0), .ref 108, .ref 109]))) (y2 - (sp_er B y2 32 32 p) - 1) (fun hq => ?_) (fun j hj hq ih => ?_) 0 (Nat.zero_le _) (fun i hi => absurd hi (Nat.not_lt_zero _))
    · show gj _ _ _ _ _ _ [some (.ref 100), some (.int (nI p)), some (.int (nI (B (sp_er B y2 32 32 p)))), some (.int (nI 1)), none] _ _
      refine gj_iload_n dX11_lookAt_136 rfl ?_
      refine gj_if_eqN (tgt := 215) (by omega) dX11_lookAt_137 rfl (fun zq0 => ?_) (fun zq0 => ?_)
      · exfalso; revert zq0; decide
      refine gj_aload_n dX11_lookAt_140 rfl ?_
      refine gfX11_242 rfl dX11_lookAt_141 (mj_up_eq _ _ _) rfl ?_
      refine gj_aload_n dX11_lookAt_144 rfl ?_
      refine gfX11_245 rfl dX11_lookAt_145 (mj_up_eq _ _ _) rfl ?_
      refine gj_iaddN  dX11_lookAt_148 ?_
      refine gj_aload_n dX11_lookAt_149 rfl ?_
      refine gfX11_230 rfl dX11_lookAt_150 (mj_up_eq _ _ _) rfl ?_
      refine gj_icmp_geN (tgt := 215) (by omega) (by omega) dX11_lookAt_153 rfl (fun zq11 => ?_) (fun zq11 => ?_)
      rotate_left
      · exfalso; omega
      refine gj_forget (i := 3) (L' := [some (.ref 100), some (.int (nI p)), some (.int (nI (B (sp_er B y2 32 32 p)))), none, none]) rfl ?_
      have he9 : sp_eb B y2 (sp_er B y2 32 32 p) = (sp_er B y2 32 32 p) + (1 + (y2 - (sp_er B y2 32 32 p) - 1)) := by rw [sp_eb_n h3 h5]; exact sp_er_at h3 h5 hq (by omega) (fun z => absurd z (by omega))
      exact gj_cast rfl rfl (by rw [show sp_eb B y2 (sp_er B y2 32 32 p) - (sp_er B y2 32 32 p) = 1 + (y2 - (sp_er B y2 32 32 p) - 1) by omega]; first | done | rfl) jn215
    show gj _ _ _ _ _ _ [some (.ref 100), some (.int (nI p)), some (.int (nI (B (sp_er B y2 32 32 p)))), some (.int (nI 1)), none] _ _
    refine gj_iload_n dX11_lookAt_136 rfl ?_
    refine gj_if_eqN (tgt := 215) (by omega) dX11_lookAt_137 rfl (fun zq0 => ?_) (fun zq0 => ?_)
    · exfalso; revert zq0; decide
    refine gj_aload_n dX11_lookAt_140 rfl ?_
    refine gfX11_242 rfl dX11_lookAt_141 (mj_up_eq _ _ _) rfl ?_
    refine gj_aload_n dX11_lookAt_144 rfl ?_
    refine gfX11_245 rfl dX11_lookAt_145 (mj_up_eq _ _ _) rfl ?_
    refine gj_iaddN  dX11_lookAt_148 ?_
    refine gj_aload_n dX11_lookAt_149 rfl ?_
    refine gfX11_230 rfl dX11_lookAt_150 (mj_up_eq _ _ _) rfl ?_
    refine gj_icmp_geN (tgt := 215) (by omega) (by omega) dX11_lookAt_153 rfl (fun zq12 => ?_) (fun zq12 => ?_)
    · exfalso; omega
    refine gj_aload_n dX11_lookAt_156 rfl ?_
    refine gfX11_33 rfl dX11_lookAt_157 (mj_up_eq _ _ _) rfl ?_
    refine gj_aload_n dX11_lookAt_160 rfl ?_
    refine gfX11_242 rfl dX11_lookAt_161 (mj_up_eq _ _ _) rfl ?_
    refine gj_aload_n dX11_lookAt_164 rfl ?_
    refine gfX11_245 rfl dX11_lookAt_165 (mj_up_eq _ _ _) rfl ?_
    refine gj_iaddN  dX11_lookAt_168 ?_
    refine gj_ialdN dX11_lookAt_169 ((mj_up_ne (by decide)).trans HB) (by omega) (by omega) ?_
    have hb7 := hB ((sp_er B y2 32 32 p) + (1 + j))
    refine gj_istore (L' := [some (.ref 100), some (.int (nI p)), some (.int (nI (B (sp_er B y2 32 32 p)))), some (.int (nI 1)), some (.int (nI (B ((sp_er B y2 32 32 p) + (1 + j)))))]) dX11_lookAt_170 (Nat.le_of_ble_eq_true rfl) rfl ?_
    refine gj_aload_n dX11_lookAt_172 rfl ?_
    refine gfX11_248 rfl dX11_lookAt_173 (mj_up_eq _ _ _) rfl ?_
    refine gj_ic (w := 1) dX11_lookAt_176 ?_
    refine gj_icmp_neN (tgt := 188) (by omega) (by omega) dX11_lookAt_177 rfl (fun zq0 => ?_) (fun zq0 => ?_)
    rotate_left
    · exfalso; omega
    refine gj_iload dX11_lookAt_188 rfl ?_
    refine gj_S1 lkX11_257 (ev_X11_isFigure (by omega)) dX11_lookAt_190 rfl rfl rfl rfl rfl ?_
    rcases Bool.eq_false_or_eq_true (decide (48 ≤ B ((sp_er B y2 32 32 p) + (1 + j)) ∧ B ((sp_er B y2 32 32 p) + (1 + j)) ≤ 57)) with hq9 | hq9
    · refine gj_top (y := nI 1) (by rw [hq9]; rfl) ?_
      have hn9 : (fun i => sp_erp B 48 57 (sp_er B y2 32 32 p) (1 + i)) j = false := by show sp_erp B 48 57 (sp_er B y2 32 32 p) (1 + j) = false; unfold sp_erp; rw [hq9]; rfl
      refine gj_istore_n (L' := [some (.ref 100), some (.int (nI p)), some (.int (nI (B (sp_er B y2 32 32 p)))), some (.int (nI 1)), some (.int (nI (B ((sp_er B y2 32 32 p) + (1 + j)))))]) dX11_lookAt_193 (Nat.le_of_ble_eq_true rfl) rfl ?_
      refine gj_aload_n dX11_lookAt_194 rfl ?_
      refine gj_dup dX11_lookAt_195 rfl ?_
      refine gfX11_245 rfl dX11_lookAt_196 (mj_up_eq _ _ _) rfl ?_
      refine gj_iload_n dX11_lookAt_199 rfl ?_
      refine gj_if_eqN (tgt := 207) (by omega) dX11_lookAt_200 rfl (fun zq0 => ?_) (fun zq0 => ?_)
      · exfalso; revert zq0; decide
      refine gj_ic (w := 1) dX11_lookAt_203 ?_
      refine gj_goto (tgt := 208) dX11_lookAt_204 rfl ?_
      refine gj_iaddN  dX11_lookAt_208 ?_
      refine pfX11_245 rfl dX11_lookAt_209 (mj_up_eq _ _ _) (Nat.le_of_ble_eq_true rfl) ?_
      refine gj_cast (h' := mj_up h 100 (.inr (9, [.ref 101, .ref 102, .ref 103, .ref 104, .long (lN a0), .long (lN a1), .ref 105, .ref 106, .ref 107, .int (nI y2), .int (nI (sp_er B y2 32 32 p)), .int (nI ((1 + j) + 1)), .int (nI 2), .int (nI 0), .ref 108, .ref 109]))) rfl rfl (by funext x; unfold mj_up; (repeat' split) <;> first | rfl | omega) ?_
      refine gj_goto (tgt := 136) dX11_lookAt_212 rfl ?_
      refine gj_forget (i := 4) (L' := [some (.ref 100), some (.int (nI p)), some (.int (nI (B (sp_er B y2 32 32 p)))), some (.int (nI 1)), none]) rfl ?_
      exact (ih (fun i hi => by by_cases q : i = j <;> first | (subst q; exact hn9) | exact hq i (by omega)))
    refine gj_top (y := nI 0) (by rw [hq9]; rfl) ?_
    have hp9 : (fun i => sp_erp B 48 57 (sp_er B y2 32 32 p) (1 + i)) j = true := by show sp_erp B 48 57 (sp_er B y2 32 32 p) (1 + j) = true; unfold sp_erp; rw [hq9]; rfl
    refine gj_istore_n (L' := [some (.ref 100), some (.int (nI p)), some (.int (nI (B (sp_er B y2 32 32 p)))), some (.int (nI 0)), some (.int (nI (B ((sp_er B y2 32 32 p) + (1 + j)))))]) dX11_lookAt_193 (Nat.le_of_ble_eq_true rfl) rfl ?_
    refine gj_aload_n dX11_lookAt_194 rfl ?_
    refine gj_dup dX11_lookAt_195 rfl ?_
    refine gfX11_245 rfl dX11_lookAt_196 (mj_up_eq _ _ _) rfl ?_
    refine gj_iload_n dX11_lookAt_199 rfl ?_
    refine gj_if_eqN (tgt := 207) (by omega) dX11_lookAt_200 rfl (fun zq0 => ?_) (fun zq0 => ?_)
    rotate_left
    · exfalso; revert zq0; decide
    refine gj_ic (w := 0) dX11_lookAt_207 ?_
    refine gj_iaddN  dX11_lookAt_208 ?_
    refine pfX11_245 rfl dX11_lookAt_209 (mj_up_eq _ _ _) (Nat.le_of_ble_eq_true rfl) ?_
    refine gj_cast (h' := mj_up h 100 (.inr (9, [.ref 101, .ref 102, .ref 103, .ref 104, .long (lN a0), .long (lN a1), .ref 105, .ref 106, .ref 107, .int (nI y2), .int (nI (sp_er B y2 32 32 p)), .int (nI ((1 + j) + 0)), .int (nI 2), .int (nI 0), .ref 108, .ref 109]))) rfl rfl (by funext x; unfold mj_up; (repeat' split) <;> first | rfl | omega) ?_
    refine gj_goto (tgt := 136) dX11_lookAt_212 rfl ?_
    refine gj_iload_n dX11_lookAt_136 rfl ?_
    refine gj_if_eqN (tgt := 215) (by omega) dX11_lookAt_137 rfl (fun zq0 => ?_) (fun zq0 => ?_)
    rotate_left
    · exfalso; revert zq0; decide
    refine gj_forget (i := 3) (L' := [some (.ref 100), some (.int (nI p)), some (.int (nI (B (sp_er B y2 32 32 p)))), none, some (.int (nI (B ((sp_er B y2 32 32 p) + (1 + j)))))]) rfl ?_
    refine gj_forget (i := 4) (L' := [some (.ref 100), some (.int (nI p)), some (.int (nI (B (sp_er B y2 32 32 p)))), none, none]) rfl ?_
    have he9 : sp_eb B y2 (sp_er B y2 32 32 p) = (sp_er B y2 32 32 p) + (1 + j) := by rw [sp_eb_n h3 h5]; exact sp_er_at h3 h5 hq (by omega) (fun _ => hp9)
    exact gj_cast rfl rfl (by rw [show sp_eb B y2 (sp_er B y2 32 32 p) - (sp_er B y2 32 32 p) = 1 + j by omega]; first | done | rfl) jn215
  refine gj_aload_n dX11_lookAt_0 rfl ?_
  refine gj_iload_n dX11_lookAt_1 rfl ?_
  refine pfX11_242 rfl dX11_lookAt_2 H0 (Nat.le_of_ble_eq_true rfl) ?_
  show gj _ _ _ _ _ _ _ _ (mj_up h 100 (.inr (9, [.ref 101, .ref 102, .ref 103, .ref 104, .long (lN a0), .long (lN a1), .ref 105, .ref 106, .ref 107, .int (nI y2), .int (nI p), .int (nI y4), .int (nI y5), .int (nI y6), .ref 108, .ref 109])))
  refine gj_cast (L' := [some (.ref 100), some (.int (nI p)), none, none, none]) (st' := []) (h' := mj_up h 100 (.inr (9, [.ref 101, .ref 102, .ref 103, .ref 104, .long (lN a0), .long (lN a1), .ref 105, .ref 106, .ref 107, .int (nI y2), .int (nI (p + 0)), .int (nI y4), .int (nI y5), .int (nI y6), .ref 108, .ref 109]))) rfl rfl rfl ?_
  refine gj_loopI (fun j => ∀ i, i < j → (sp_erp B 32 32 p) i = false) (fun j => [some (.ref 100), some (.int (nI p)), none, none, none]) (fun j => mj_up h 100 (.inr (9, [.ref 101, .ref 102, .ref 103, .ref 104, .long (lN a0), .long (lN a1), .ref 105, .ref 106, .ref 107, .int (nI y2), .int (nI (p + j)), .int (nI y4), .int (nI y5), .int (nI y6), .ref 108, .ref 109]))) (y2 - p) (fun hq => ?_) (fun j hj hq ih => ?_) 0 (Nat.zero_le _) (fun i hi => absurd hi (Nat.not_lt_zero _))
  · show gj _ _ _ _ _ _ [some (.ref 100), some (.int (nI p)), none, none, none] _ _
    refine gj_aload_n dX11_lookAt_5 rfl ?_
    refine gfX11_242 rfl dX11_lookAt_6 (mj_up_eq _ _ _) rfl ?_
    refine gj_aload_n dX11_lookAt_9 rfl ?_
    refine gfX11_230 rfl dX11_lookAt_10 (mj_up_eq _ _ _) rfl ?_
    refine gj_icmp_geN (tgt := 43) (by omega) (by omega) dX11_lookAt_13 rfl (fun zq13 => ?_) (fun zq13 => ?_)
    rotate_left
    · exfalso; omega
    have hs9 : sp_er B y2 32 32 p = p + (y2 - p) := by unfold sp_er; rw [sp_fst_none hq]
    exact gj_cast rfl rfl (by rw [hs9]) jn43
  show gj _ _ _ _ _ _ [some (.ref 100), some (.int (nI p)), none, none, none] _ _
  refine gj_aload_n dX11_lookAt_5 rfl ?_
  refine gfX11_242 rfl dX11_lookAt_6 (mj_up_eq _ _ _) rfl ?_
  refine gj_aload_n dX11_lookAt_9 rfl ?_
  refine gfX11_230 rfl dX11_lookAt_10 (mj_up_eq _ _ _) rfl ?_
  refine gj_icmp_geN (tgt := 43) (by omega) (by omega) dX11_lookAt_13 rfl (fun zq14 => ?_) (fun zq14 => ?_)
  · exfalso; omega
  refine gj_aload_n dX11_lookAt_16 rfl ?_
  refine gfX11_33 rfl dX11_lookAt_17 (mj_up_eq _ _ _) rfl ?_
  refine gj_aload_n dX11_lookAt_20 rfl ?_
  refine gfX11_242 rfl dX11_lookAt_21 (mj_up_eq _ _ _) rfl ?_
  refine gj_ialdN dX11_lookAt_24 ((mj_up_ne (by decide)).trans HB) (by omega) (by omega) ?_
  have hb8 := hB (p + j)
  refine gj_bp 32 dX11_lookAt_25 (by decide) ?_
  refine gj_icmp_neN (tgt := 43) (by omega) (by omega) dX11_lookAt_27 rfl (fun zq15 => ?_) (fun zq15 => ?_)
  · -- 27 taken
    have hp9 : (sp_erp B 32 32 p) j = true := by unfold sp_erp; rw [decide_eq_false (by omega)]; rfl
    have hs9 : sp_er B y2 32 32 p = p + j := by unfold sp_er; rw [sp_fst_at hj hp9 hq]
    exact gj_cast rfl rfl (by rw [hs9]) jn43
  have hn9 : (sp_erp B 32 32 p) j = false := by unfold sp_erp; rw [decide_eq_true (by omega)]; rfl
  refine gj_aload_n dX11_lookAt_30 rfl ?_
  refine gj_dup dX11_lookAt_31 rfl ?_
  refine gfX11_242 rfl dX11_lookAt_32 (mj_up_eq _ _ _) rfl ?_
  refine gj_ic (w := 1) dX11_lookAt_35 ?_
  refine gj_iaddN  dX11_lookAt_36 ?_
  refine pfX11_242 rfl dX11_lookAt_37 (mj_up_eq _ _ _) (Nat.le_of_ble_eq_true rfl) ?_
  refine gj_cast (h' := mj_up h 100 (.inr (9, [.ref 101, .ref 102, .ref 103, .ref 104, .long (lN a0), .long (lN a1), .ref 105, .ref 106, .ref 107, .int (nI y2), .int (nI ((p + j) + 1)), .int (nI y4), .int (nI y5), .int (nI y6), .ref 108, .ref 109]))) rfl rfl (by funext x; unfold mj_up; (repeat' split) <;> first | rfl | omega) ?_
  refine gj_goto (tgt := 5) dX11_lookAt_40 rfl ?_
  exact gj_cast rfl rfl (by rw [Nat.add_assoc]) (ih (fun i hi => by by_cases q : i = j <;> first | (subst q; exact hn9) | exact hq i (by omega)))
