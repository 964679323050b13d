theorem mj_Ev.mono {E : mj_E} {i : mj_I} {as : List Value} {h : mj_H} {Z Z' : Option Value → mj_H → Prop} (hEv : mj_Ev E i as h Z) (hz : ∀ r h', Z r h' → Z' r h') : mj_Ev E i as h Z' := fun φ sz p e ha hc hk s m args below hf h1 h2 h3 => by
  obtain ⟨k, o, g1, g2, g3, hQ⟩ := hEv φ sz p e ha hc hk s m args below hf h1 h2 h3
  refine ⟨k, o, g1, g2, g3, ⟨⟨?_, hQ.1.2⟩, hQ.2⟩⟩
  obtain ⟨r, h', φ', e1, e2, e3⟩ := hQ.1.1
  exact ⟨r, h', φ', e1, hz _ _ e2, e3⟩
theorem mj_tout {k : Nat} (hk : k < 2 ^ 32) (h1 : ¬ k = 4294967291) (h2 : ¬ k = 4294967290) (h3 : ¬ k = 4294967289) : (nI k).toInt < (-7) ∨ (-5) < (nI k).toInt := by
  by_cases q : k < 2 ^ 31
  · rw [nI_toInt q]; omega
  · have e : (nI k).toInt = (k : Int) - 4294967296 := by
      show (BitVec.ofNat 32 k).toInt = _
      rw [BitVec.toInt_eq_toNat_bmod, BitVec.toNat_ofNat, Nat.mod_eq_of_lt hk, Int.bmod_def]
      omega
    rw [e]; omega
set_option maxHeartbeats 1000000 in
set_option maxRecDepth 10000 in
theorem ev_X5_item_cell_k {E : mj_E} {κ : Nat → Bool} {C : Nat → Nat → Nat} (I : mj_CI κ C) (hx : mj_tx C) {t : Nat} (h0 : C 7 1 = t) (h1 : C 7 2 = sp_tt (C 8) (C 7 0) t) (h2 : t < sp_tE (C 8) (C 7 0)) (h3 : sp_tt (C 8) (C 7 0) t = 4294967291) (h4 : ¬ sp_tt (C 8) (C 7 0) (t + 1) ≤ 5) : mj_Ev E iX5_itemComes [.ref 7, .ref 40] (hh κ C) (mj_R (some (.int (mj_b false))) (hh κ (mj_u C 7 (mj_row [C 7 0, t + 1, sp_tt (C 8) (C 7 0) (t + 1)])))) := by
  have hl7x : C 7 0 ≤ 150 := I.2.2.2.2.2.2.1
  have hB : ∀ c, C 8 c ≤ 127 := I.2.2.2.2.2.2.2.1
  have hE := sp_tE_le (B := C 8) hl7x
  refine mj_Ev.of (L0 := [some (.ref 7), some (.ref 40)]) pnRX5 (Nat.le_of_ble_eq_true rfl) rfl ?_
  refine gj_aload_n dX5_itemComes_0 rfl ?_
  refine gfX5_28 rfl dX5_itemComes_1 (hc7 κ C) rfl ?_
  refine gj_topN h1 ?_
  refine gj_topN h3 ?_
  refine gj_top (y := (-5)) (by decide) ?_
  refine gj_tableIn (tgt := 32) dX5_itemComes_4 (by decide) (by decide) rfl rfl ?_
  refine gj_aload_n dX5_itemComes_32 rfl ?_
  refine gj_aload_n dX5_itemComes_33 rfl ?_
  refine gfX5_63 rfl dX5_itemComes_34 (hc40 κ C) rfl ?_
  refine gj_V1 lkX5_67 (hc7 κ C) rfl rfl (ev_X5_cells_k I hx h0 h1 h2 h4) dX5_itemComes_37 rfl rfl rfl rfl rfl ?_
  exact gj_zr rfl dX5_itemComes_40 rfl rfl rfl
set_option maxHeartbeats 1000000 in
set_option maxRecDepth 10000 in
theorem ev_X5_item_cell {E : mj_E} {κ : Nat → Bool} {C : Nat → Nat → Nat} (I : mj_CI κ C) (hx : mj_tx C) {t : Nat} (h0 : C 7 1 = t) (h1 : C 7 2 = sp_tt (C 8) (C 7 0) t) (h2 : t < sp_tE (C 8) (C 7 0)) (h3 : sp_tt (C 8) (C 7 0) t = 4294967291) (h4 : sp_tt (C 8) (C 7 0) (t + 1) ≤ 5) : mj_Ev E iX5_itemComes [.ref 7, .ref 40] (hh κ C) (mj_R (some (.int (mj_b (decide (0 < (sp_fst (sp_cmp (C 8) (C 7 0) (t + 1)) 150) ∧ sp_tt (C 8) (C 7 0) (t + 1 + (sp_fst (sp_cmp (C 8) (C 7 0) (t + 1)) 150) + 1) = 4294967294))))) (hh κ (mj_u (mj_u C 7 (mj_row [C 7 0, t + 1 + (sp_fst (sp_cmp (C 8) (C 7 0) (t + 1)) 150) + 1, sp_tt (C 8) (C 7 0) (t + 1 + (sp_fst (sp_cmp (C 8) (C 7 0) (t + 1)) 150) + 1)])) 42 (sp_ckr (fun i => sp_tt (C 8) (C 7 0) (t + 1 + i + 1)) (sp_tt (C 8) (C 7 0) (t + 1)) (C 42) (sp_fst (sp_cmp (C 8) (C 7 0) (t + 1)) 150))))) := by
  have hl7x : C 7 0 ≤ 150 := I.2.2.2.2.2.2.1
  have hB : ∀ c, C 8 c ≤ 127 := I.2.2.2.2.2.2.2.1
  have hE := sp_tE_le (B := C 8) hl7x
  refine mj_Ev.of (L0 := [some (.ref 7), some (.ref 40)]) pnRX5 (Nat.le_of_ble_eq_true rfl) rfl ?_
  refine gj_aload_n dX5_itemComes_0 rfl ?_
  refine gfX5_28 rfl dX5_itemComes_1 (hc7 κ C) rfl ?_
  refine gj_topN h1 ?_
  refine gj_topN h3 ?_
  refine gj_top (y := (-5)) (by decide) ?_
  refine gj_tableIn (tgt := 32) dX5_itemComes_4 (by decide) (by decide) rfl rfl ?_
  refine gj_aload_n dX5_itemComes_32 rfl ?_
  refine gj_aload_n dX5_itemComes_33 rfl ?_
  refine gfX5_63 rfl dX5_itemComes_34 (hc40 κ C) rfl ?_
  refine gj_V1 lkX5_67 (hc7 κ C) rfl rfl (ev_X5_cells I hx h0 h1 h2 h4) dX5_itemComes_37 rfl rfl rfl rfl rfl ?_
  exact gj_zr rfl dX5_itemComes_40 rfl rfl rfl
set_option maxHeartbeats 1000000 in
set_option maxRecDepth 10000 in
theorem ev_X5_item_week {E : mj_E} {κ : Nat → Bool} {C : Nat → Nat → Nat} (I : mj_CI κ C) (hx : mj_tx C) {t : Nat} (h0 : C 7 1 = t) (h1 : C 7 2 = sp_tt (C 8) (C 7 0) t) (h2 : t < sp_tE (C 8) (C 7 0)) (h3 : sp_tt (C 8) (C 7 0) t = 4294967290) : mj_Ev E iX5_itemComes [.ref 7, .ref 40] (hh κ C) (mj_R (some (.int (mj_b (decide (0 < (sp_fst (sp_wmp (C 8) (C 7 0) t) 7) ∧ sp_tt (C 8) (C 7 0) (t + 2 * (sp_fst (sp_wmp (C 8) (C 7 0) t) 7) + 1) = 4294967294))))) (hh κ (mj_u (mj_u (mj_u C 7 (mj_row [C 7 0, sp_we (C 8) (C 7 0) t (sp_fst (sp_wmp (C 8) (C 7 0) t) 7), sp_tt (C 8) (C 7 0) (sp_we (C 8) (C 7 0) t (sp_fst (sp_wmp (C 8) (C 7 0) t) 7))])) 45 (mj_mix (fun i => sp_tt (C 8) (C 7 0) (t + 2 * i + 1)) (C 45) (sp_fst (sp_wmp (C 8) (C 7 0) t) 7))) 46 (mj_mix (fun i => sp_tt (C 8) (C 7 0) (t + 2 * i + 2)) (C 46) (sp_fst (sp_wmp (C 8) (C 7 0) t) 7))))) := by
  have hl7x : C 7 0 ≤ 150 := I.2.2.2.2.2.2.1
  have hB : ∀ c, C 8 c ≤ 127 := I.2.2.2.2.2.2.2.1
  have hE := sp_tE_le (B := C 8) hl7x
  refine mj_Ev.of (L0 := [some (.ref 7), some (.ref 40)]) pnRX5 (Nat.le_of_ble_eq_true rfl) rfl ?_
  refine gj_aload_n dX5_itemComes_0 rfl ?_
  refine gfX5_28 rfl dX5_itemComes_1 (hc7 κ C) rfl ?_
  refine gj_topN h1 ?_
  refine gj_topN h3 ?_
  refine gj_top (y := (-6)) (by decide) ?_
  refine gj_tableIn (tgt := 41) dX5_itemComes_4 (by decide) (by decide) rfl rfl ?_
  refine gj_aload_n dX5_itemComes_41 rfl ?_
  refine gj_aload_n dX5_itemComes_42 rfl ?_
  refine gfX5_71 rfl dX5_itemComes_43 (hc40 κ C) rfl ?_
  refine gj_V1 lkX5_75 (hc7 κ C) rfl rfl (ev_X5_pairs I hx h0 h1 h2 ) dX5_itemComes_46 rfl rfl rfl rfl rfl ?_
  exact gj_zr rfl dX5_itemComes_49 rfl rfl rfl
set_option maxHeartbeats 1000000 in
set_option maxRecDepth 10000 in
theorem ev_X5_item_voter_f {E : mj_E} {κ : Nat → Bool} {C : Nat → Nat → Nat} (I : mj_CI κ C) (hx : mj_tx C) {t : Nat} (h0 : C 7 1 = t) (h1 : C 7 2 = sp_tt (C 8) (C 7 0) t) (h2 : t < sp_tE (C 8) (C 7 0)) (h3 : sp_tt (C 8) (C 7 0) t = 4294967289) (h4 : C 47 0 = 7) : mj_Ev E iX5_itemComes [.ref 7, .ref 40] (hh κ C) (mj_R (some (.int (mj_b false))) (hh κ C)) := by
  have hl7x : C 7 0 ≤ 150 := I.2.2.2.2.2.2.1
  have hB : ∀ c, C 8 c ≤ 127 := I.2.2.2.2.2.2.2.1
  have hE := sp_tE_le (B := C 8) hl7x
  refine mj_Ev.of (L0 := [some (.ref 7), some (.ref 40)]) pnRX5 (Nat.le_of_ble_eq_true rfl) rfl ?_
  refine gj_aload_n dX5_itemComes_0 rfl ?_
  refine gfX5_28 rfl dX5_itemComes_1 (hc7 κ C) rfl ?_
  refine gj_topN h1 ?_
  refine gj_topN h3 ?_
  refine gj_top (y := (-7)) (by decide) ?_
  refine gj_tableIn (tgt := 50) dX5_itemComes_4 (by decide) (by decide) rfl rfl ?_
  refine gj_aload_n dX5_itemComes_50 rfl ?_
  refine gfX5_79 rfl dX5_itemComes_51 (hc40 κ C) rfl ?_
  refine gfX5_83 rfl dX5_itemComes_54 (hc47 κ C) rfl ?_
  refine gj_bp 7 dX5_itemComes_57 (by decide) ?_
  refine gj_icmp_geN (tgt := 77) (by omega) (by omega) dX5_itemComes_59 rfl (fun zq1 => ?_) (fun zq1 => ?_)
  rotate_left
  · exfalso; omega
  refine gj_ic (w := 0) dX5_itemComes_77 ?_
  exact gj_zr rfl dX5_itemComes_78 rfl (mj_b0 (by decide)) rfl
set_option maxHeartbeats 1000000 in
set_option maxRecDepth 10000 in
theorem ev_X5_item_voter_1 {E : mj_E} {κ : Nat → Bool} {C : Nat → Nat → Nat} (I : mj_CI κ C) (hx : mj_tx C) {t : Nat} (h0 : C 7 1 = t) (h1 : C 7 2 = sp_tt (C 8) (C 7 0) t) (h2 : t < sp_tE (C 8) (C 7 0)) (h3 : sp_tt (C 8) (C 7 0) t = 4294967289) (h4 : C 47 0 < 7) (h5 : ¬ (sp_tt (C 8) (C 7 0) (t + 1) ≤ 5)) : mj_Ev E iX5_itemComes [.ref 7, .ref 40] (hh κ C) (mj_R (some (.int (mj_b false))) (hh κ (mj_u C 7 (mj_row [C 7 0, t + 1, sp_tt (C 8) (C 7 0) (t + 1)])))) := by
  have hl7x : C 7 0 ≤ 150 := I.2.2.2.2.2.2.1
  have hB : ∀ c, C 8 c ≤ 127 := I.2.2.2.2.2.2.2.1
  have hE := sp_tE_le (B := C 8) hl7x
  refine mj_Ev.of (L0 := [some (.ref 7), some (.ref 40)]) pnRX5 (Nat.le_of_ble_eq_true rfl) rfl ?_
  refine gj_aload_n dX5_itemComes_0 rfl ?_
  refine gfX5_28 rfl dX5_itemComes_1 (hc7 κ C) rfl ?_
  refine gj_topN h1 ?_
  refine gj_topN h3 ?_
  refine gj_top (y := (-7)) (by decide) ?_
  refine gj_tableIn (tgt := 50) dX5_itemComes_4 (by decide) (by decide) rfl rfl ?_
  refine gj_aload_n dX5_itemComes_50 rfl ?_
  refine gfX5_79 rfl dX5_itemComes_51 (hc40 κ C) rfl ?_
  refine gfX5_83 rfl dX5_itemComes_54 (hc47 κ C) rfl ?_
  refine gj_bp 7 dX5_itemComes_57 (by decide) ?_
  refine gj_icmp_geN (tgt := 77) (by omega) (by omega) dX5_itemComes_59 rfl (fun zq1 => ?_) (fun zq1 => ?_)
  · exfalso; omega
  refine gj_aload_n dX5_itemComes_62 rfl ?_
  refine gj_aload_n dX5_itemComes_63 rfl ?_
  refine gfX5_79 rfl dX5_itemComes_64 (hc40 κ C) rfl ?_
  refine gj_V1 lkX5_88 (hc7 κ C) rfl rfl (ev_X5_voter_1 I hx h0 h1 h2 h5) dX5_itemComes_67 rfl rfl rfl rfl rfl ?_
  refine gj_if_eqb (tgt := 77) dX5_itemComes_70 rfl (fun zq2 => ?_) (fun zq2 => ?_)
  rotate_left
  · exfalso; exact nomatch zq2
  refine gj_ic (w := 0) dX5_itemComes_77 ?_
  exact gj_zr rfl dX5_itemComes_78 rfl (mj_b0 (by decide)) rfl
set_option maxHeartbeats 1000000 in
set_option maxRecDepth 10000 in
theorem ev_X5_item_voter_2 {E : mj_E} {κ : Nat → Bool} {C : Nat → Nat → Nat} (I : mj_CI κ C) (hx : mj_tx C) {t : Nat} (h0 : C 7 1 = t) (h1 : C 7 2 = sp_tt (C 8) (C 7 0) t) (h2 : t < sp_tE (C 8) (C 7 0)) (h3 : sp_tt (C 8) (C 7 0) t = 4294967289) (h4 : C 47 0 < 7) (h5 : sp_tt (C 8) (C 7 0) (t + 1) ≤ 5) (h6 : ¬ (1 ≤ sp_tt (C 8) (C 7 0) (t + 2) ∧ sp_tt (C 8) (C 7 0) (t + 2) ≤ 99)) : mj_Ev E iX5_itemComes [.ref 7, .ref 40] (hh κ C) (mj_R (some (.int (mj_b false))) (hh κ (mj_u C 7 (mj_row [C 7 0, t + 2, sp_tt (C 8) (C 7 0) (t + 2)])))) := by
  have hl7x : C 7 0 ≤ 150 := I.2.2.2.2.2.2.1
  have hB : ∀ c, C 8 c ≤ 127 := I.2.2.2.2.2.2.2.1
  have hE := sp_tE_le (B := C 8) hl7x
  refine mj_Ev.of (L0 := [some (.ref 7), some (.ref 40)]) pnRX5 (Nat.le_of_ble_eq_true rfl) rfl ?_
  refine gj_aload_n dX5_itemComes_0 rfl ?_
  refine gfX5_28 rfl dX5_itemComes_1 (hc7 κ C) rfl ?_
  refine gj_topN h1 ?_
  refine gj_topN h3 ?_
  refine gj_top (y := (-7)) (by decide) ?_
  refine gj_tableIn (tgt := 50) dX5_itemComes_4 (by decide) (by decide) rfl rfl ?_
  refine gj_aload_n dX5_itemComes_50 rfl ?_
  refine gfX5_79 rfl dX5_itemComes_51 (hc40 κ C) rfl ?_
  refine gfX5_83 rfl dX5_itemComes_54 (hc47 κ C) rfl ?_
  refine gj_bp 7 dX5_itemComes_57 (by decide) ?_
  refine gj_icmp_geN (tgt := 77) (by omega) (by omega) dX5_itemComes_59 rfl (fun zq1 => ?_) (fun zq1 => ?_)
  · exfalso; omega
  refine gj_aload_n dX5_itemComes_62 rfl ?_
  refine gj_aload_n dX5_itemComes_63 rfl ?_
  refine gfX5_79 rfl dX5_itemComes_64 (hc40 κ C) rfl ?_
  refine gj_V1 lkX5_88 (hc7 κ C) rfl rfl (ev_X5_voter_2 I hx h0 h1 h2 h5 h6) dX5_itemComes_67 rfl rfl rfl rfl rfl ?_
  refine gj_if_eqb (tgt := 77) dX5_itemComes_70 rfl (fun zq2 => ?_) (fun zq2 => ?_)
  rotate_left
  · exfalso; exact nomatch zq2
  refine gj_ic (w := 0) dX5_itemComes_77 ?_
  exact gj_zr rfl dX5_itemComes_78 rfl (mj_b0 (by decide)) rfl
set_option maxHeartbeats 1000000 in
set_option maxRecDepth 10000 in
theorem ev_X5_item_voter_3 {E : mj_E} {κ : Nat → Bool} {C : Nat → Nat → Nat} (I : mj_CI κ C) (hx : mj_tx C) {t : Nat} (h0 : C 7 1 = t) (h1 : C 7 2 = sp_tt (C 8) (C 7 0) t) (h2 : t < sp_tE (C 8) (C 7 0)) (h3 : sp_tt (C 8) (C 7 0) t = 4294967289) (h4 : C 47 0 < 7) (h5 : sp_tt (C 8) (C 7 0) (t + 1) ≤ 5) (h6 : 1 ≤ sp_tt (C 8) (C 7 0) (t + 2) ∧ sp_tt (C 8) (C 7 0) (t + 2) ≤ 99) (h7 : ¬ (sp_tt (C 8) (C 7 0) (t + 3) ≤ 24)) : mj_Ev E iX5_itemComes [.ref 7, .ref 40] (hh κ C) (mj_R (some (.int (mj_b false))) (hh κ (mj_u C 7 (mj_row [C 7 0, t + 3, sp_tt (C 8) (C 7 0) (t + 3)])))) := by
  have hl7x : C 7 0 ≤ 150 := I.2.2.2.2.2.2.1
  have hB : ∀ c, C 8 c ≤ 127 := I.2.2.2.2.2.2.2.1
  have hE := sp_tE_le (B := C 8) hl7x
  refine mj_Ev.of (L0 := [some (.ref 7), some (.ref 40)]) pnRX5 (Nat.le_of_ble_eq_true rfl) rfl ?_
  refine gj_aload_n dX5_itemComes_0 rfl ?_
  refine gfX5_28 rfl dX5_itemComes_1 (hc7 κ C) rfl ?_
  refine gj_topN h1 ?_
  refine gj_topN h3 ?_
  refine gj_top (y := (-7)) (by decide) ?_
  refine gj_tableIn (tgt := 50) dX5_itemComes_4 (by decide) (by decide) rfl rfl ?_
  refine gj_aload_n dX5_itemComes_50 rfl ?_
  refine gfX5_79 rfl dX5_itemComes_51 (hc40 κ C) rfl ?_
  refine gfX5_83 rfl dX5_itemComes_54 (hc47 κ C) rfl ?_
  refine gj_bp 7 dX5_itemComes_57 (by decide) ?_
  refine gj_icmp_geN (tgt := 77) (by omega) (by omega) dX5_itemComes_59 rfl (fun zq1 => ?_) (fun zq1 => ?_)
  · exfalso; omega
  refine gj_aload_n dX5_itemComes_62 rfl ?_
  refine gj_aload_n dX5_itemComes_63 rfl ?_
  refine gfX5_79 rfl dX5_itemComes_64 (hc40 κ C) rfl ?_
  refine gj_V1 lkX5_88 (hc7 κ C) rfl rfl (ev_X5_voter_3 I hx h0 h1 h2 h5 h6 h7) dX5_itemComes_67 rfl rfl rfl rfl rfl ?_
  refine gj_if_eqb (tgt := 77) dX5_itemComes_70 rfl (fun zq2 => ?_) (fun zq2 => ?_)
  rotate_left
  · exfalso; exact nomatch zq2
  refine gj_ic (w := 0) dX5_itemComes_77 ?_
  exact gj_zr rfl dX5_itemComes_78 rfl (mj_b0 (by decide)) rfl
set_option maxHeartbeats 1000000 in
set_option maxRecDepth 10000 in
theorem ev_X5_item_voter {E : mj_E} {κ : Nat → Bool} {C : Nat → Nat → Nat} (I : mj_CI κ C) (hx : mj_tx C) {t : Nat} (h0 : C 7 1 = t) (h1 : C 7 2 = sp_tt (C 8) (C 7 0) t) (h2 : t < sp_tE (C 8) (C 7 0)) (h3 : sp_tt (C 8) (C 7 0) t = 4294967289) (h4 : C 47 0 < 7) (h5 : sp_tt (C 8) (C 7 0) (t + 1) ≤ 5) (h6 : 1 ≤ sp_tt (C 8) (C 7 0) (t + 2) ∧ sp_tt (C 8) (C 7 0) (t + 2) ≤ 99) (h7 : sp_tt (C 8) (C 7 0) (t + 3) ≤ 24) : mj_Ev E iX5_itemComes [.ref 7, .ref 40] (hh κ C) (mj_R (some (.int (mj_b (decide (sp_tt (C 8) (C 7 0) (t + 4) = 4294967294))))) (hh κ (mj_u (mj_u (mj_u (mj_u (mj_u C 7 (mj_row [C 7 0, t + 4, sp_tt (C 8) (C 7 0) (t + 4)])) 47 (mj_row [C 47 0 + 1])) 48 (mj_un (C 48) (C 47 0) (sp_tt (C 8) (C 7 0) (t + 1)))) 49 (mj_un (C 49) (C 47 0) (sp_tt (C 8) (C 7 0) (t + 2)))) 50 (mj_un (C 50) (C 47 0) (sp_tt (C 8) (C 7 0) (t + 3)))))) := by
  have hl7x : C 7 0 ≤ 150 := I.2.2.2.2.2.2.1
  have hB : ∀ c, C 8 c ≤ 127 := I.2.2.2.2.2.2.2.1
  have hE := sp_tE_le (B := C 8) hl7x
  refine mj_Ev.of (L0 := [some (.ref 7), some (.ref 40)]) pnRX5 (Nat.le_of_ble_eq_true rfl) rfl ?_
  refine gj_aload_n dX5_itemComes_0 rfl ?_
  refine gfX5_28 rfl dX5_itemComes_1 (hc7 κ C) rfl ?_
  refine gj_topN h1 ?_
  refine gj_topN h3 ?_
  refine gj_top (y := (-7)) (by decide) ?_
  refine gj_tableIn (tgt := 50) dX5_itemComes_4 (by decide) (by decide) rfl rfl ?_
  refine gj_aload_n dX5_itemComes_50 rfl ?_
  refine gfX5_79 rfl dX5_itemComes_51 (hc40 κ C) rfl ?_
  refine gfX5_83 rfl dX5_itemComes_54 (hc47 κ C) rfl ?_
  refine gj_bp 7 dX5_itemComes_57 (by decide) ?_
  refine gj_icmp_geN (tgt := 77) (by omega) (by omega) dX5_itemComes_59 rfl (fun zq1 => ?_) (fun zq1 => ?_)
  · exfalso; omega
  refine gj_aload_n dX5_itemComes_62 rfl ?_
  refine gj_aload_n dX5_itemComes_63 rfl ?_
  refine gfX5_79 rfl dX5_itemComes_64 (hc40 κ C) rfl ?_
  refine gj_V1 lkX5_88 (hc7 κ C) rfl rfl (ev_X5_voter_t I hx h0 h1 h2 h5 h6 h7 h4) dX5_itemComes_67 rfl rfl rfl rfl rfl ?_
  refine gj_if_eqb (tgt := 77) dX5_itemComes_70 rfl (fun zq2 => ?_) (fun zq2 => ?_)
  · -- 70 taken
    have hz9 := zq2
    refine gj_ic (w := 0) dX5_itemComes_77 ?_
    exact gj_zr rfl dX5_itemComes_78 rfl (mj_b0 (by exact hz9)) rfl
  have hz9 := zq2
  refine gj_ic (w := 1) dX5_itemComes_73 ?_
  refine gj_goto (tgt := 78) dX5_itemComes_74 rfl ?_
  exact gj_zr rfl dX5_itemComes_78 rfl (mj_b1 (by exact hz9)) rfl
set_option maxHeartbeats 1000000 in
set_option maxRecDepth 10000 in
theorem ev_X5_item_no {E : mj_E} {κ : Nat → Bool} {C : Nat → Nat → Nat} (I : mj_CI κ C) (hx : mj_tx C) {t : Nat} (h0 : C 7 1 = t) (h1 : C 7 2 = sp_tt (C 8) (C 7 0) t) (h2 : t < sp_tE (C 8) (C 7 0)) (h3 : ¬ sp_tt (C 8) (C 7 0) t = 4294967291) (h4 : ¬ sp_tt (C 8) (C 7 0) t = 4294967290) (h5 : ¬ sp_tt (C 8) (C 7 0) t = 4294967289) : mj_Ev E iX5_itemComes [.ref 7, .ref 40] (hh κ C) (mj_R (some (.int (mj_b false))) (hh κ C)) := by
  have hl7x : C 7 0 ≤ 150 := I.2.2.2.2.2.2.1
  have hB : ∀ c, C 8 c ≤ 127 := I.2.2.2.2.2.2.2.1
  have hE := sp_tE_le (B := C 8) hl7x
  refine mj_Ev.of (L0 := [some (.ref 7), some (.ref 40)]) pnRX5 (Nat.le_of_ble_eq_true rfl) rfl ?_
  refine gj_aload_n dX5_itemComes_0 rfl ?_
  refine gfX5_28 rfl dX5_itemComes_1 (hc7 κ C) rfl ?_
  refine gj_topN h1 ?_
  refine gj_tableOut (tgt := 79) dX5_itemComes_4 (mj_tout (sp_tt_lt hB) h3 h4 h5) rfl ?_
  refine gj_ic (w := 0) dX5_itemComes_79 ?_
  exact gj_zr rfl dX5_itemComes_80 rfl (mj_b0 (by decide)) rfl
