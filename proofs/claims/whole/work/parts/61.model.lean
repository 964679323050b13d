theorem sp_isw_i {j : Nat} {B : Nat → Nat} {s e : Nat} : sp_isw j B s e = true ↔ (e - s = mj_slen.getD j 0 ∧ ∀ i, i < mj_slen.getD j 0 → B (s + i) = sp_sch j i) := by
  unfold sp_isw
  rw [Bool.and_eq_true, decide_eq_true_eq, decide_eq_true_eq]
  refine ⟨fun z => ⟨z.1, fun i hi => ?_⟩, fun z => ⟨z.1, sp_fst_none fun i hi => ?_⟩⟩
  · have := sp_fst_f (p := sp_iwp j B s) (n := mj_slen.getD j 0) (i := i) (by rw [z.2]; exact hi)
    unfold sp_iwp at this
    by_cases q : B (s + i) = sp_sch j i
    · exact q
    · rw [decide_eq_false q] at this; exact absurd this (by decide)
  · unfold sp_iwp; rw [decide_eq_true (z.2 i hi)]; rfl
theorem sp_isw_0 {B : Nat → Nat} {s e : Nat} : sp_isw 0 B s e = true ↔ (e - s = 4 ∧ B (s + 0) = 108 ∧ B (s + 1) = 97 ∧ B (s + 2) = 107 ∧ B (s + 3) = 101) := by
  rw [sp_isw_i]
  refine and_congr_right fun _ => ⟨fun z => ⟨z 0 (by decide), z 1 (by decide), z 2 (by decide), z 3 (by decide)⟩, fun z i hi => ?_⟩
  · have hi : i < 4 := hi
    rcases (by omega : i = 0 ∨ i = 1 ∨ i = 2 ∨ i = 3) with rfl | rfl | rfl | rfl
    · exact z.1
    · exact z.2.1
    · exact z.2.2.1
    · exact z.2.2.2
theorem sp_isw_1 {B : Nat → Nat} {s e : Nat} : sp_isw 1 B s e = true ↔ (e - s = 4 ∧ B (s + 0) = 99 ∧ B (s + 1) = 101 ∧ B (s + 2) = 108 ∧ B (s + 3) = 108) := by
  rw [sp_isw_i]
  refine and_congr_right fun _ => ⟨fun z => ⟨z 0 (by decide), z 1 (by decide), z 2 (by decide), z 3 (by decide)⟩, fun z i hi => ?_⟩
  · have hi : i < 4 := hi
    rcases (by omega : i = 0 ∨ i = 1 ∨ i = 2 ∨ i = 3) with rfl | rfl | rfl | rfl
    · exact z.1
    · exact z.2.1
    · exact z.2.2.1
    · exact z.2.2.2
theorem sp_isw_2 {B : Nat → Nat} {s e : Nat} : sp_isw 2 B s e = true ↔ (e - s = 4 ∧ B (s + 0) = 119 ∧ B (s + 1) = 101 ∧ B (s + 2) = 101 ∧ B (s + 3) = 107) := by
  rw [sp_isw_i]
  refine and_congr_right fun _ => ⟨fun z => ⟨z 0 (by decide), z 1 (by decide), z 2 (by decide), z 3 (by decide)⟩, fun z i hi => ?_⟩
  · have hi : i < 4 := hi
    rcases (by omega : i = 0 ∨ i = 1 ∨ i = 2 ∨ i = 3) with rfl | rfl | rfl | rfl
    · exact z.1
    · exact z.2.1
    · exact z.2.2.1
    · exact z.2.2.2
theorem sp_isw_3 {B : Nat → Nat} {s e : Nat} : sp_isw 3 B s e = true ↔ (e - s = 5 ∧ B (s + 0) = 118 ∧ B (s + 1) = 111 ∧ B (s + 2) = 116 ∧ B (s + 3) = 101 ∧ B (s + 4) = 114) := by
  rw [sp_isw_i]
  refine and_congr_right fun _ => ⟨fun z => ⟨z 0 (by decide), z 1 (by decide), z 2 (by decide), z 3 (by decide), z 4 (by decide)⟩, fun z i hi => ?_⟩
  · have hi : i < 5 := hi
    rcases (by omega : i = 0 ∨ i = 1 ∨ i = 2 ∨ i = 3 ∨ i = 4) with rfl | rfl | rfl | rfl | rfl
    · exact z.1
    · exact z.2.1
    · exact z.2.2.1
    · exact z.2.2.2.1
    · exact z.2.2.2.2
theorem sp_wt_0 {B : Nat → Nat} {s e : Nat} : (e - s = 4 ∧ B (s + 0) = 108 ∧ B (s + 1) = 97 ∧ B (s + 2) = 107 ∧ B (s + 3) = 101) ↔ sp_wt B s e = 4294967292 := by
  rw [← sp_isw_0]
  unfold sp_wt
  constructor
  · intro z
    rw [if_pos z]
  · intro z
    revert z
    (repeat' split) <;> intro z <;> first | assumption | (exfalso; omega)
theorem sp_wt_1 {B : Nat → Nat} {s e : Nat} : (e - s = 4 ∧ B (s + 0) = 99 ∧ B (s + 1) = 101 ∧ B (s + 2) = 108 ∧ B (s + 3) = 108) ↔ sp_wt B s e = 4294967291 := by
  rw [← sp_isw_1]
  unfold sp_wt
  constructor
  · intro z
    have n0 : ¬ sp_isw 0 B s e = true := fun y => by have y1 := sp_isw_0.mp y; have z1 := sp_isw_1.mp z; omega
    rw [if_neg n0, if_pos z]
  · intro z
    revert z
    (repeat' split) <;> intro z <;> first | assumption | (exfalso; omega)
theorem sp_wt_2 {B : Nat → Nat} {s e : Nat} : (e - s = 4 ∧ B (s + 0) = 119 ∧ B (s + 1) = 101 ∧ B (s + 2) = 101 ∧ B (s + 3) = 107) ↔ sp_wt B s e = 4294967290 := by
  rw [← sp_isw_2]
  unfold sp_wt
  constructor
  · intro z
    have n0 : ¬ sp_isw 0 B s e = true := fun y => by have y1 := sp_isw_0.mp y; have z1 := sp_isw_2.mp z; omega
    have n1 : ¬ sp_isw 1 B s e = true := fun y => by have y1 := sp_isw_1.mp y; have z1 := sp_isw_2.mp z; omega
    rw [if_neg n0, if_neg n1, if_pos z]
  · intro z
    revert z
    (repeat' split) <;> intro z <;> first | assumption | (exfalso; omega)
theorem sp_wt_3 {B : Nat → Nat} {s e : Nat} : (e - s = 5 ∧ B (s + 0) = 118 ∧ B (s + 1) = 111 ∧ B (s + 2) = 116 ∧ B (s + 3) = 101 ∧ B (s + 4) = 114) ↔ sp_wt B s e = 4294967289 := by
  rw [← sp_isw_3]
  unfold sp_wt
  constructor
  · intro z
    have n0 : ¬ sp_isw 0 B s e = true := fun y => by have y1 := sp_isw_0.mp y; have z1 := sp_isw_3.mp z; omega
    have n1 : ¬ sp_isw 1 B s e = true := fun y => by have y1 := sp_isw_1.mp y; have z1 := sp_isw_3.mp z; omega
    have n2 : ¬ sp_isw 2 B s e = true := fun y => by have y1 := sp_isw_2.mp y; have z1 := sp_isw_3.mp z; omega
    rw [if_neg n0, if_neg n1, if_neg n2, if_pos z]
  · intro z
    revert z
    (repeat' split) <;> intro z <;> first | assumption | (exfalso; omega)
set_option maxHeartbeats 1000000 in
set_option maxRecDepth 10000 in
theorem ev_X11_spells_w0 {E : mj_E} {h : mj_H} {a0 a1 y2 t : Nat} {B : Nat → Nat} (H0 : h 100 = some (mj_mo a0 a1 y2 (sp_ss B y2 t) (sp_ps B y2 (t + 1) - sp_ss B y2 t) (sp_xkt B y2 t) (sp_xvt B y2 t))) (HB : h 107 = some (mj_ar 150 B)) (h0 : ∀ c, B c ≤ 127) (h1 : y2 ≤ 150) : mj_Ev E iX11_spells [.ref 100, .int (nI 4), .int (nI 108), .int (nI 97), .int (nI 107), .int (nI 101), .int (nI 0), .int (nI 0)] h (mj_R (some (.int (mj_b (decide (sp_xkt B y2 t = 1) && (decide (sp_ps B y2 (t + 1) - sp_ss B y2 t = 4) && (decide (B (sp_ss B y2 t + 0) = 108) && (decide (B (sp_ss B y2 t + 1) = 97) && (decide (B (sp_ss B y2 t + 2) = 107) && decide (B (sp_ss B y2 t + 3) = 101))))))))) h) := by
  have hB := h0
  refine mj_Ev.of (L0 := [some (.ref 100), some (.int (nI 4)), some (.int (nI 108)), some (.int (nI 97)), some (.int (nI 107)), some (.int (nI 101)), some (.int (nI 0)), some (.int (nI 0)), none, none]) pnRX11 (Nat.le_of_ble_eq_true rfl) rfl ?_
  refine gj_aload_n dX11_spells_0 rfl ?_
  refine gfX11_248 rfl dX11_spells_1 H0 rfl ?_
  have hxl := @sp_xkt_le B y2 t
  have hps := @sp_ps_le B y2 (t + 1)
  refine gj_ic (w := 1) dX11_spells_4 ?_
  refine gj_icmp_neN (tgt := 20) (by omega) (by omega) dX11_spells_5 rfl (fun zq1 => ?_) (fun zq1 => ?_)
  · -- 5 taken
    have hA9 : decide (sp_xkt B y2 t = 1) = false := decide_eq_false zq1
    refine gj_ic (w := 0) dX11_spells_20 ?_
    refine gj_istore (L' := [some (.ref 100), some (.int (nI 4)), some (.int (nI 108)), some (.int (nI 97)), some (.int (nI 107)), some (.int (nI 101)), some (.int (nI 0)), some (.int (nI 0)), some (.int (nI 0)), none]) dX11_spells_21 (Nat.le_of_ble_eq_true rfl) rfl ?_
    refine gj_ic (w := 0) dX11_spells_23 ?_
    refine gj_istore (L' := [some (.ref 100), some (.int (nI 4)), some (.int (nI 108)), some (.int (nI 97)), some (.int (nI 107)), some (.int (nI 101)), some (.int (nI 0)), some (.int (nI 0)), some (.int (nI 0)), some (.int (nI 0))]) dX11_spells_24 (Nat.le_of_ble_eq_true rfl) rfl ?_
    refine gj_iload dX11_spells_26 rfl ?_
    refine gj_iload_n dX11_spells_28 rfl ?_
    refine gj_icmp_geN (tgt := 119) (by omega) (by omega) dX11_spells_29 rfl (fun zq0 => ?_) (fun zq0 => ?_)
    · exfalso; omega
    refine gj_iload dX11_spells_32 rfl ?_
    refine gj_if_eqN (tgt := 119) (by omega) dX11_spells_34 rfl (fun zq0 => ?_) (fun zq0 => ?_)
    rotate_left
    · exfalso; revert zq0; decide
    refine gj_iload dX11_spells_119 rfl ?_
    exact gj_zr rfl dX11_spells_121 rfl (mj_b0 (by first | rw [hA9, hL9, hc0, hc1, hc2, hc3]; rfl | rw [hA9, hL9, hc0, hc1, hc2]; rfl | rw [hA9, hL9, hc0, hc1]; rfl | rw [hA9, hL9, hc0]; rfl | rw [hA9, hL9]; rfl | rw [hA9]; rfl)) rfl
  have hA9 : decide (sp_xkt B y2 t = 1) = true := decide_eq_true zq1
  refine gj_aload_n dX11_spells_8 rfl ?_
  refine gfX11_245 rfl dX11_spells_9 H0 rfl ?_
  refine gj_iload_n dX11_spells_12 rfl ?_
  refine gj_icmp_neN (tgt := 20) (by omega) (by omega) dX11_spells_13 rfl (fun zq2 => ?_) (fun zq2 => ?_)
  · -- 13 taken
    have hL9 : decide (sp_ps B y2 (t + 1) - sp_ss B y2 t = 4) = false := decide_eq_false zq2
    refine gj_ic (w := 0) dX11_spells_20 ?_
    refine gj_istore (L' := [some (.ref 100), some (.int (nI 4)), some (.int (nI 108)), some (.int (nI 97)), some (.int (nI 107)), some (.int (nI 101)), some (.int (nI 0)), some (.int (nI 0)), some (.int (nI 0)), none]) dX11_spells_21 (Nat.le_of_ble_eq_true rfl) rfl ?_
    refine gj_ic (w := 0) dX11_spells_23 ?_
    refine gj_istore (L' := [some (.ref 100), some (.int (nI 4)), some (.int (nI 108)), some (.int (nI 97)), some (.int (nI 107)), some (.int (nI 101)), some (.int (nI 0)), some (.int (nI 0)), some (.int (nI 0)), some (.int (nI 0))]) dX11_spells_24 (Nat.le_of_ble_eq_true rfl) rfl ?_
    refine gj_iload dX11_spells_26 rfl ?_
    refine gj_iload_n dX11_spells_28 rfl ?_
    refine gj_icmp_geN (tgt := 119) (by omega) (by omega) dX11_spells_29 rfl (fun zq0 => ?_) (fun zq0 => ?_)
    · exfalso; omega
    refine gj_iload dX11_spells_32 rfl ?_
    refine gj_if_eqN (tgt := 119) (by omega) dX11_spells_34 rfl (fun zq0 => ?_) (fun zq0 => ?_)
    rotate_left
    · exfalso; revert zq0; decide
    refine gj_iload dX11_spells_119 rfl ?_
    exact gj_zr rfl dX11_spells_121 rfl (mj_b0 (by first | rw [hA9, hL9, hc0, hc1, hc2, hc3]; rfl | rw [hA9, hL9, hc0, hc1, hc2]; rfl | rw [hA9, hL9, hc0, hc1]; rfl | rw [hA9, hL9, hc0]; rfl | rw [hA9, hL9]; rfl | rw [hA9]; rfl)) rfl
  have hL9 : decide (sp_ps B y2 (t + 1) - sp_ss B y2 t = 4) = true := decide_eq_true zq2
  refine gj_ic (w := 1) dX11_spells_16 ?_
  refine gj_goto (tgt := 21) dX11_spells_17 rfl ?_
  refine gj_istore (L' := [some (.ref 100), some (.int (nI 4)), some (.int (nI 108)), some (.int (nI 97)), some (.int (nI 107)), some (.int (nI 101)), some (.int (nI 0)), some (.int (nI 0)), some (.int (nI 1)), none]) dX11_spells_21 (Nat.le_of_ble_eq_true rfl) rfl ?_
  refine gj_ic (w := 0) dX11_spells_23 ?_
  refine gj_istore (L' := [some (.ref 100), some (.int (nI 4)), some (.int (nI 108)), some (.int (nI 97)), some (.int (nI 107)), some (.int (nI 101)), some (.int (nI 0)), some (.int (nI 0)), some (.int (nI 1)), some (.int (nI 0))]) dX11_spells_24 (Nat.le_of_ble_eq_true rfl) rfl ?_
  refine gj_iload dX11_spells_26 rfl ?_
  refine gj_iload_n dX11_spells_28 rfl ?_
  refine gj_icmp_geN (tgt := 119) (by omega) (by omega) dX11_spells_29 rfl (fun zq0 => ?_) (fun zq0 => ?_)
  · exfalso; omega
  refine gj_iload dX11_spells_32 rfl ?_
  refine gj_if_eqN (tgt := 119) (by omega) dX11_spells_34 rfl (fun zq0 => ?_) (fun zq0 => ?_)
  · exfalso; revert zq0; decide
  refine gj_aload_n dX11_spells_37 rfl ?_
  refine gfX11_33 rfl dX11_spells_38 H0 rfl ?_
  refine gj_aload_n dX11_spells_41 rfl ?_
  refine gfX11_242 rfl dX11_spells_42 H0 rfl ?_
  refine gj_iload dX11_spells_45 rfl ?_
  refine gj_iaddN  dX11_spells_47 ?_
  refine gj_ialdN dX11_spells_48 HB (by omega) (by omega) ?_
  have hb40 := hB (sp_ss B y2 t + 0)
  refine gj_iload dX11_spells_49 rfl ?_
  refine gj_if_neN (tgt := 58) (by omega) dX11_spells_51 rfl (fun zq0 => ?_) (fun zq0 => ?_)
  · exfalso; revert zq0; decide
  refine gj_iload_n dX11_spells_54 rfl ?_
  refine gj_goto (tgt := 103) dX11_spells_55 rfl ?_
  refine gj_icmp_neN (tgt := 110) (by omega) (by omega) dX11_spells_103 rfl (fun zq3 => ?_) (fun zq3 => ?_)
  · -- 103 taken
    have hc0 : decide (B (sp_ss B y2 t + 0) = 108) = false := decide_eq_false zq3
    refine gj_ic (w := 0) dX11_spells_110 ?_
    refine gj_istore (L' := [some (.ref 100), some (.int (nI 4)), some (.int (nI 108)), some (.int (nI 97)), some (.int (nI 107)), some (.int (nI 101)), some (.int (nI 0)), some (.int (nI 0)), some (.int (nI 0)), some (.int (nI 0))]) dX11_spells_111 (Nat.le_of_ble_eq_true rfl) rfl ?_
    refine gj_iincN (L' := [some (.ref 100), some (.int (nI 4)), some (.int (nI 108)), some (.int (nI 97)), some (.int (nI 107)), some (.int (nI 101)), some (.int (nI 0)), some (.int (nI 0)), some (.int (nI 0)), some (.int (nI 1))]) dX11_spells_113 rfl (Nat.le_of_ble_eq_true rfl) rfl ?_
    refine gj_goto (tgt := 26) dX11_spells_116 rfl ?_
    refine gj_iload dX11_spells_26 rfl ?_
    refine gj_iload_n dX11_spells_28 rfl ?_
    refine gj_icmp_geN (tgt := 119) (by omega) (by omega) dX11_spells_29 rfl (fun zq0 => ?_) (fun zq0 => ?_)
    · exfalso; omega
    refine gj_iload dX11_spells_32 rfl ?_
    refine gj_if_eqN (tgt := 119) (by omega) dX11_spells_34 rfl (fun zq0 => ?_) (fun zq0 => ?_)
    rotate_left
    · exfalso; revert zq0; decide
    refine gj_iload dX11_spells_119 rfl ?_
    exact gj_zr rfl dX11_spells_121 rfl (mj_b0 (by first | rw [hA9, hL9, hc0, hc1, hc2, hc3]; rfl | rw [hA9, hL9, hc0, hc1, hc2]; rfl | rw [hA9, hL9, hc0, hc1]; rfl | rw [hA9, hL9, hc0]; rfl | rw [hA9, hL9]; rfl | rw [hA9]; rfl)) rfl
  have hc0 : decide (B (sp_ss B y2 t + 0) = 108) = true := decide_eq_true zq3
  refine gj_ic (w := 1) dX11_spells_106 ?_
  refine gj_goto (tgt := 111) dX11_spells_107 rfl ?_
  refine gj_istore (L' := [some (.ref 100), some (.int (nI 4)), some (.int (nI 108)), some (.int (nI 97)), some (.int (nI 107)), some (.int (nI 101)), some (.int (nI 0)), some (.int (nI 0)), some (.int (nI 1)), some (.int (nI 0))]) dX11_spells_111 (Nat.le_of_ble_eq_true rfl) rfl ?_
  refine gj_iincN (L' := [some (.ref 100), some (.int (nI 4)), some (.int (nI 108)), some (.int (nI 97)), some (.int (nI 107)), some (.int (nI 101)), some (.int (nI 0)), some (.int (nI 0)), some (.int (nI 1)), some (.int (nI 1))]) dX11_spells_113 rfl (Nat.le_of_ble_eq_true rfl) rfl ?_
  refine gj_goto (tgt := 26) dX11_spells_116 rfl ?_
  refine gj_iload dX11_spells_26 rfl ?_
  refine gj_iload_n dX11_spells_28 rfl ?_
  refine gj_icmp_geN (tgt := 119) (by omega) (by omega) dX11_spells_29 rfl (fun zq0 => ?_) (fun zq0 => ?_)
  · exfalso; omega
  refine gj_iload dX11_spells_32 rfl ?_
  refine gj_if_eqN (tgt := 119) (by omega) dX11_spells_34 rfl (fun zq0 => ?_) (fun zq0 => ?_)
  · exfalso; revert zq0; decide
  refine gj_aload_n dX11_spells_37 rfl ?_
  refine gfX11_33 rfl dX11_spells_38 H0 rfl ?_
  refine gj_aload_n dX11_spells_41 rfl ?_
  refine gfX11_242 rfl dX11_spells_42 H0 rfl ?_
  refine gj_iload dX11_spells_45 rfl ?_
  refine gj_iaddN  dX11_spells_47 ?_
  refine gj_ialdN dX11_spells_48 HB (by omega) (by omega) ?_
  have hb41 := hB (sp_ss B y2 t + 1)
  refine gj_iload dX11_spells_49 rfl ?_
  refine gj_if_neN (tgt := 58) (by omega) dX11_spells_51 rfl (fun zq0 => ?_) (fun zq0 => ?_)
  rotate_left
  · exfalso; revert zq0; decide
  refine gj_iload dX11_spells_58 rfl ?_
  refine gj_ic (w := 1) dX11_spells_60 ?_
  refine gj_icmp_neN (tgt := 68) (by omega) (by omega) dX11_spells_61 rfl (fun zq0 => ?_) (fun zq0 => ?_)
  · exfalso; omega
  refine gj_iload_n dX11_spells_64 rfl ?_
  refine gj_goto (tgt := 103) dX11_spells_65 rfl ?_
  refine gj_icmp_neN (tgt := 110) (by omega) (by omega) dX11_spells_103 rfl (fun zq4 => ?_) (fun zq4 => ?_)
  · -- 103 taken
    have hc1 : decide (B (sp_ss B y2 t + 1) = 97) = false := decide_eq_false zq4
    refine gj_ic (w := 0) dX11_spells_110 ?_
    refine gj_istore (L' := [some (.ref 100), some (.int (nI 4)), some (.int (nI 108)), some (.int (nI 97)), some (.int (nI 107)), some (.int (nI 101)), some (.int (nI 0)), some (.int (nI 0)), some (.int (nI 0)), some (.int (nI 1))]) dX11_spells_111 (Nat.le_of_ble_eq_true rfl) rfl ?_
    refine gj_iincN (L' := [some (.ref 100), some (.int (nI 4)), some (.int (nI 108)), some (.int (nI 97)), some (.int (nI 107)), some (.int (nI 101)), some (.int (nI 0)), some (.int (nI 0)), some (.int (nI 0)), some (.int (nI 2))]) dX11_spells_113 rfl (Nat.le_of_ble_eq_true rfl) rfl ?_
    refine gj_goto (tgt := 26) dX11_spells_116 rfl ?_
    refine gj_iload dX11_spells_26 rfl ?_
    refine gj_iload_n dX11_spells_28 rfl ?_
    refine gj_icmp_geN (tgt := 119) (by omega) (by omega) dX11_spells_29 rfl (fun zq0 => ?_) (fun zq0 => ?_)
    · exfalso; omega
    refine gj_iload dX11_spells_32 rfl ?_
    refine gj_if_eqN (tgt := 119) (by omega) dX11_spells_34 rfl (fun zq0 => ?_) (fun zq0 => ?_)
    rotate_left
    · exfalso; revert zq0; decide
    refine gj_iload dX11_spells_119 rfl ?_
    exact gj_zr rfl dX11_spells_121 rfl (mj_b0 (by first | rw [hA9, hL9, hc0, hc1, hc2, hc3]; rfl | rw [hA9, hL9, hc0, hc1, hc2]; rfl | rw [hA9, hL9, hc0, hc1]; rfl | rw [hA9, hL9, hc0]; rfl | rw [hA9, hL9]; rfl | rw [hA9]; rfl)) rfl
  have hc1 : decide (B (sp_ss B y2 t + 1) = 97) = true := decide_eq_true zq4
  refine gj_ic (w := 1) dX11_spells_106 ?_
  refine gj_goto (tgt := 111) dX11_spells_107 rfl ?_
  refine gj_istore (L' := [some (.ref 100), some (.int (nI 4)), some (.int (nI 108)), some (.int (nI 97)), some (.int (nI 107)), some (.int (nI 101)), some (.int (nI 0)), some (.int (nI 0)), some (.int (nI 1)), some (.int (nI 1))]) dX11_spells_111 (Nat.le_of_ble_eq_true rfl) rfl ?_
  refine gj_iincN (L' := [some (.ref 100), some (.int (nI 4)), some (.int (nI 108)), some (.int (nI 97)), some (.int (nI 107)), some (.int (nI 101)), some (.int (nI 0)), some (.int (nI 0)), some (.int (nI 1)), some (.int (nI 2))]) dX11_spells_113 rfl (Nat.le_of_ble_eq_true rfl) rfl ?_
  refine gj_goto (tgt := 26) dX11_spells_116 rfl ?_
  refine gj_iload dX11_spells_26 rfl ?_
  refine gj_iload_n dX11_spells_28 rfl ?_
  refine gj_icmp_geN (tgt := 119) (by omega) (by omega) dX11_spells_29 rfl (fun zq0 => ?_) (fun zq0 => ?_)
  · exfalso; omega
  refine gj_iload dX11_spells_32 rfl ?_
  refine gj_if_eqN (tgt := 119) (by omega) dX11_spells_34 rfl (fun zq0 => ?_) (fun zq0 => ?_)
  · exfalso; revert zq0; decide
  refine gj_aload_n dX11_spells_37 rfl ?_
  refine gfX11_33 rfl dX11_spells_38 H0 rfl ?_
  refine gj_aload_n dX11_spells_41 rfl ?_
  refine gfX11_242 rfl dX11_spells_42 H0 rfl ?_
  refine gj_iload dX11_spells_45 rfl ?_
  refine gj_iaddN  dX11_spells_47 ?_
  refine gj_ialdN dX11_spells_48 HB (by omega) (by omega) ?_
  have hb42 := hB (sp_ss B y2 t + 2)
  refine gj_iload dX11_spells_49 rfl ?_
  refine gj_if_neN (tgt := 58) (by omega) dX11_spells_51 rfl (fun zq0 => ?_) (fun zq0 => ?_)
  rotate_left
  · exfalso; revert zq0; decide
  refine gj_iload dX11_spells_58 rfl ?_
  refine gj_ic (w := 1) dX11_spells_60 ?_
  refine gj_icmp_neN (tgt := 68) (by omega) (by omega) dX11_spells_61 rfl (fun zq0 => ?_) (fun zq0 => ?_)
  rotate_left
  · exfalso; omega
  refine gj_iload dX11_spells_68 rfl ?_
  refine gj_ic (w := 2) dX11_spells_70 ?_
  refine gj_icmp_neN (tgt := 79) (by omega) (by omega) dX11_spells_71 rfl (fun zq0 => ?_) (fun zq0 => ?_)
  · exfalso; omega
  refine gj_iload dX11_spells_74 rfl ?_
  refine gj_goto (tgt := 103) dX11_spells_76 rfl ?_
  refine gj_icmp_neN (tgt := 110) (by omega) (by omega) dX11_spells_103 rfl (fun zq5 => ?_) (fun zq5 => ?_)
  · -- 103 taken
    have hc2 : decide (B (sp_ss B y2 t + 2) = 107) = false := decide_eq_false zq5
    refine gj_ic (w := 0) dX11_spells_110 ?_
    refine gj_istore (L' := [some (.ref 100), some (.int (nI 4)), some (.int (nI 108)), some (.int (nI 97)), some (.int (nI 107)), some (.int (nI 101)), some (.int (nI 0)), some (.int (nI 0)), some (.int (nI 0)), some (.int (nI 2))]) dX11_spells_111 (Nat.le_of_ble_eq_true rfl) rfl ?_
    refine gj_iincN (L' := [some (.ref 100), some (.int (nI 4)), some (.int (nI 108)), some (.int (nI 97)), some (.int (nI 107)), some (.int (nI 101)), some (.int (nI 0)), some (.int (nI 0)), some (.int (nI 0)), some (.int (nI 3))]) dX11_spells_113 rfl (Nat.le_of_ble_eq_true rfl) rfl ?_
    refine gj_goto (tgt := 26) dX11_spells_116 rfl ?_
    refine gj_iload dX11_spells_26 rfl ?_
    refine gj_iload_n dX11_spells_28 rfl ?_
    refine gj_icmp_geN (tgt := 119) (by omega) (by omega) dX11_spells_29 rfl (fun zq0 => ?_) (fun zq0 => ?_)
    · exfalso; omega
    refine gj_iload dX11_spells_32 rfl ?_
    refine gj_if_eqN (tgt := 119) (by omega) dX11_spells_34 rfl (fun zq0 => ?_) (fun zq0 => ?_)
    rotate_left
    · exfalso; revert zq0; decide
    refine gj_iload dX11_spells_119 rfl ?_
    exact gj_zr rfl dX11_spells_121 rfl (mj_b0 (by first | rw [hA9, hL9, hc0, hc1, hc2, hc3]; rfl | rw [hA9, hL9, hc0, hc1, hc2]; rfl | rw [hA9, hL9, hc0, hc1]; rfl | rw [hA9, hL9, hc0]; rfl | rw [hA9, hL9]; rfl | rw [hA9]; rfl)) rfl
  have hc2 : decide (B (sp_ss B y2 t + 2) = 107) = true := decide_eq_true zq5
  refine gj_ic (w := 1) dX11_spells_106 ?_
  refine gj_goto (tgt := 111) dX11_spells_107 rfl ?_
  refine gj_istore (L' := [some (.ref 100), some (.int (nI 4)), some (.int (nI 108)), some (.int (nI 97)), some (.int (nI 107)), some (.int (nI 101)), some (.int (nI 0)), some (.int (nI 0)), some (.int (nI 1)), some (.int (nI 2))]) dX11_spells_111 (Nat.le_of_ble_eq_true rfl) rfl ?_
  refine gj_iincN (L' := [some (.ref 100), some (.int (nI 4)), some (.int (nI 108)), some (.int (nI 97)), some (.int (nI 107)), some (.int (nI 101)), some (.int (nI 0)), some (.int (nI 0)), some (.int (nI 1)), some (.int (nI 3))]) dX11_spells_113 rfl (Nat.le_of_ble_eq_true rfl) rfl ?_
  refine gj_goto (tgt := 26) dX11_spells_116 rfl ?_
  refine gj_iload dX11_spells_26 rfl ?_
  refine gj_iload_n dX11_spells_28 rfl ?_
  refine gj_icmp_geN (tgt := 119) (by omega) (by omega) dX11_spells_29 rfl (fun zq0 => ?_) (fun zq0 => ?_)
  · exfalso; omega
  refine gj_iload dX11_spells_32 rfl ?_
  refine gj_if_eqN (tgt := 119) (by omega) dX11_spells_34 rfl (fun zq0 => ?_) (fun zq0 => ?_)
  · exfalso; revert zq0; decide
  refine gj_aload_n dX11_spells_37 rfl ?_
  refine gfX11_33 rfl dX11_spells_38 H0 rfl ?_
  refine gj_aload_n dX11_spells_41 rfl ?_
  refine gfX11_242 rfl dX11_spells_42 H0 rfl ?_
  refine gj_iload dX11_spells_45 rfl ?_
  refine gj_iaddN  dX11_spells_47 ?_
  refine gj_ialdN dX11_spells_48 HB (by omega) (by omega) ?_
  have hb43 := hB (sp_ss B y2 t + 3)
  refine gj_iload dX11_spells_49 rfl ?_
  refine gj_if_neN (tgt := 58) (by omega) dX11_spells_51 rfl (fun zq0 => ?_) (fun zq0 => ?_)
  rotate_left
  · exfalso; revert zq0; decide
  refine gj_iload dX11_spells_58 rfl ?_
  refine gj_ic (w := 1) dX11_spells_60 ?_
  refine gj_icmp_neN (tgt := 68) (by omega) (by omega) dX11_spells_61 rfl (fun zq0 => ?_) (fun zq0 => ?_)
  rotate_left
  · exfalso; omega
  refine gj_iload dX11_spells_68 rfl ?_
  refine gj_ic (w := 2) dX11_spells_70 ?_
  refine gj_icmp_neN (tgt := 79) (by omega) (by omega) dX11_spells_71 rfl (fun zq0 => ?_) (fun zq0 => ?_)
  rotate_left
  · exfalso; omega
  refine gj_iload dX11_spells_79 rfl ?_
  refine gj_ic (w := 3) dX11_spells_81 ?_
  refine gj_icmp_neN (tgt := 90) (by omega) (by omega) dX11_spells_82 rfl (fun zq0 => ?_) (fun zq0 => ?_)
  · exfalso; omega
  refine gj_iload dX11_spells_85 rfl ?_
  refine gj_goto (tgt := 103) dX11_spells_87 rfl ?_
  refine gj_icmp_neN (tgt := 110) (by omega) (by omega) dX11_spells_103 rfl (fun zq6 => ?_) (fun zq6 => ?_)
  · -- 103 taken
    have hc3 : decide (B (sp_ss B y2 t + 3) = 101) = false := decide_eq_false zq6
    refine gj_ic (w := 0) dX11_spells_110 ?_
    refine gj_istore (L' := [some (.ref 100), some (.int (nI 4)), some (.int (nI 108)), some (.int (nI 97)), some (.int (nI 107)), some (.int (nI 101)), some (.int (nI 0)), some (.int (nI 0)), some (.int (nI 0)), some (.int (nI 3))]) dX11_spells_111 (Nat.le_of_ble_eq_true rfl) rfl ?_
    refine gj_iincN (L' := [some (.ref 100), some (.int (nI 4)), some (.int (nI 108)), some (.int (nI 97)), some (.int (nI 107)), some (.int (nI 101)), some (.int (nI 0)), some (.int (nI 0)), some (.int (nI 0)), some (.int (nI 4))]) dX11_spells_113 rfl (Nat.le_of_ble_eq_true rfl) rfl ?_
    refine gj_goto (tgt := 26) dX11_spells_116 rfl ?_
    refine gj_iload dX11_spells_26 rfl ?_
    refine gj_iload_n dX11_spells_28 rfl ?_
    refine gj_icmp_geN (tgt := 119) (by omega) (by omega) dX11_spells_29 rfl (fun zq0 => ?_) (fun zq0 => ?_)
    rotate_left
    · exfalso; omega
    refine gj_iload dX11_spells_119 rfl ?_
    exact gj_zr rfl dX11_spells_121 rfl (mj_b0 (by first | rw [hA9, hL9, hc0, hc1, hc2, hc3]; rfl | rw [hA9, hL9, hc0, hc1, hc2]; rfl | rw [hA9, hL9, hc0, hc1]; rfl | rw [hA9, hL9, hc0]; rfl | rw [hA9, hL9]; rfl | rw [hA9]; rfl)) rfl
  have hc3 : decide (B (sp_ss B y2 t + 3) = 101) = true := decide_eq_true zq6
  refine gj_ic (w := 1) dX11_spells_106 ?_
  refine gj_goto (tgt := 111) dX11_spells_107 rfl ?_
  refine gj_istore (L' := [some (.ref 100), some (.int (nI 4)), some (.int (nI 108)), some (.int (nI 97)), some (.int (nI 107)), some (.int (nI 101)), some (.int (nI 0)), some (.int (nI 0)), some (.int (nI 1)), some (.int (nI 3))]) dX11_spells_111 (Nat.le_of_ble_eq_true rfl) rfl ?_
  refine gj_iincN (L' := [some (.ref 100), some (.int (nI 4)), some (.int (nI 108)), some (.int (nI 97)), some (.int (nI 107)), some (.int (nI 101)), some (.int (nI 0)), some (.int (nI 0)), some (.int (nI 1)), some (.int (nI 4))]) dX11_spells_113 rfl (Nat.le_of_ble_eq_true rfl) rfl ?_
  refine gj_goto (tgt := 26) dX11_spells_116 rfl ?_
  refine gj_iload dX11_spells_26 rfl ?_
  refine gj_iload_n dX11_spells_28 rfl ?_
  refine gj_icmp_geN (tgt := 119) (by omega) (by omega) dX11_spells_29 rfl (fun zq0 => ?_) (fun zq0 => ?_)
  rotate_left
  · exfalso; omega
  refine gj_iload dX11_spells_119 rfl ?_
  exact gj_zr rfl dX11_spells_121 rfl (mj_b1 (by first | rw [hA9, hL9, hc0, hc1, hc2, hc3]; rfl | rw [hA9, hL9, hc0, hc1, hc2]; rfl | rw [hA9, hL9, hc0, hc1]; rfl | rw [hA9, hL9, hc0]; rfl | rw [hA9, hL9]; rfl | rw [hA9]; rfl)) rfl
theorem sp_spq0 {B : Nat → Nat} {n t : Nat} (hB : ∀ c, B c ≤ 127) : (sp_xkt B n t = 1 ∧ (sp_ps B n (t + 1) - sp_ss B n t = 4 ∧ B (sp_ss B n t + 0) = 108 ∧ B (sp_ss B n t + 1) = 97 ∧ B (sp_ss B n t + 2) = 107 ∧ B (sp_ss B n t + 3) = 101)) ↔ sp_tt B n t = 4294967292 := by
  have g1 := hB (sp_ss B n t)
  have g2 := hB (sp_ss B n t + 1)
  unfold sp_xkt sp_tt sp_xk sp_tk sp_nvl sp_ba
  by_cases q : n ≤ sp_ss B n t
  · rw [if_pos q, if_pos q]; exact ⟨fun z => absurd z.1 (by decide), fun z => absurd z (by decide)⟩
  rw [if_neg q, if_neg q, if_pos (Nat.not_le.mp q)]
  by_cases q1 : 97 ≤ B (sp_ss B n t) ∧ B (sp_ss B n t) ≤ 122
  · rw [if_pos q1, if_pos q1, ← sp_wt_0]
    exact ⟨fun z => z.2, fun z => ⟨rfl, z⟩⟩
  rw [if_neg q1, if_neg q1]
  refine ⟨fun z => ?_, fun z => ?_⟩
  · exact absurd z.2.2.1 (by rw [Nat.add_zero]; omega)
  · exfalso; revert z; (repeat' split) <;> omega
theorem sp_spl0 {B : Nat → Nat} {n t : Nat} (hB : ∀ c, B c ≤ 127) : (decide (sp_xkt B n t = 1) && (decide (sp_ps B n (t + 1) - sp_ss B n t = 4) && (decide (B (sp_ss B n t + 0) = 108) && (decide (B (sp_ss B n t + 1) = 97) && (decide (B (sp_ss B n t + 2) = 107) && decide (B (sp_ss B n t + 3) = 101)))))) = decide (sp_tt B n t = 4294967292) := by
  rw [Bool.eq_iff_iff]
  simp only [Bool.and_eq_true, decide_eq_true_eq]
  exact sp_spq0 hB
set_option maxHeartbeats 1000000 in
set_option maxRecDepth 10000 in
theorem ev_X11_spells_w1 {E : mj_E} {h : mj_H} {a0 a1 y2 t : Nat} {B : Nat → Nat} (H0 : h 100 = some (mj_mo a0 a1 y2 (sp_ss B y2 t) (sp_ps B y2 (t + 1) - sp_ss B y2 t) (sp_xkt B y2 t) (sp_xvt B y2 t))) (HB : h 107 = some (mj_ar 150 B)) (h0 : ∀ c, B c ≤ 127) (h1 : y2 ≤ 150) : mj_Ev E iX11_spells [.ref 100, .int (nI 4), .int (nI 99), .int (nI 101), .int (nI 108), .int (nI 108), .int (nI 0), .int (nI 0)] h (mj_R (some (.int (mj_b (decide (sp_xkt B y2 t = 1) && (decide (sp_ps B y2 (t + 1) - sp_ss B y2 t = 4) && (decide (B (sp_ss B y2 t + 0) = 99) && (decide (B (sp_ss B y2 t + 1) = 101) && (decide (B (sp_ss B y2 t + 2) = 108) && decide (B (sp_ss B y2 t + 3) = 108))))))))) h) := by
  have hB := h0
  refine mj_Ev.of (L0 := [some (.ref 100), some (.int (nI 4)), some (.int (nI 99)), some (.int (nI 101)), some (.int (nI 108)), some (.int (nI 108)), some (.int (nI 0)), some (.int (nI 0)), none, none]) pnRX11 (Nat.le_of_ble_eq_true rfl) rfl ?_
  refine gj_aload_n dX11_spells_0 rfl ?_
  refine gfX11_248 rfl dX11_spells_1 H0 rfl ?_
  have hxl := @sp_xkt_le B y2 t
  have hps := @sp_ps_le B y2 (t + 1)
  refine gj_ic (w := 1) dX11_spells_4 ?_
  refine gj_icmp_neN (tgt := 20) (by omega) (by omega) dX11_spells_5 rfl (fun zq1 => ?_) (fun zq1 => ?_)
  · -- 5 taken
    have hA9 : decide (sp_xkt B y2 t = 1) = false := decide_eq_false zq1
    refine gj_ic (w := 0) dX11_spells_20 ?_
    refine gj_istore (L' := [some (.ref 100), some (.int (nI 4)), some (.int (nI 99)), some (.int (nI 101)), some (.int (nI 108)), some (.int (nI 108)), some (.int (nI 0)), some (.int (nI 0)), some (.int (nI 0)), none]) dX11_spells_21 (Nat.le_of_ble_eq_true rfl) rfl ?_
    refine gj_ic (w := 0) dX11_spells_23 ?_
    refine gj_istore (L' := [some (.ref 100), some (.int (nI 4)), some (.int (nI 99)), some (.int (nI 101)), some (.int (nI 108)), some (.int (nI 108)), some (.int (nI 0)), some (.int (nI 0)), some (.int (nI 0)), some (.int (nI 0))]) dX11_spells_24 (Nat.le_of_ble_eq_true rfl) rfl ?_
    refine gj_iload dX11_spells_26 rfl ?_
    refine gj_iload_n dX11_spells_28 rfl ?_
    refine gj_icmp_geN (tgt := 119) (by omega) (by omega) dX11_spells_29 rfl (fun zq0 => ?_) (fun zq0 => ?_)
    · exfalso; omega
    refine gj_iload dX11_spells_32 rfl ?_
    refine gj_if_eqN (tgt := 119) (by omega) dX11_spells_34 rfl (fun zq0 => ?_) (fun zq0 => ?_)
    rotate_left
    · exfalso; revert zq0; decide
    refine gj_iload dX11_spells_119 rfl ?_
    exact gj_zr rfl dX11_spells_121 rfl (mj_b0 (by first | rw [hA9, hL9, hc0, hc1, hc2, hc3]; rfl | rw [hA9, hL9, hc0, hc1, hc2]; rfl | rw [hA9, hL9, hc0, hc1]; rfl | rw [hA9, hL9, hc0]; rfl | rw [hA9, hL9]; rfl | rw [hA9]; rfl)) rfl
  have hA9 : decide (sp_xkt B y2 t = 1) = true := decide_eq_true zq1
  refine gj_aload_n dX11_spells_8 rfl ?_
  refine gfX11_245 rfl dX11_spells_9 H0 rfl ?_
  refine gj_iload_n dX11_spells_12 rfl ?_
  refine gj_icmp_neN (tgt := 20) (by omega) (by omega) dX11_spells_13 rfl (fun zq2 => ?_) (fun zq2 => ?_)
  · -- 13 taken
    have hL9 : decide (sp_ps B y2 (t + 1) - sp_ss B y2 t = 4) = false := decide_eq_false zq2
    refine gj_ic (w := 0) dX11_spells_20 ?_
    refine gj_istore (L' := [some (.ref 100), some (.int (nI 4)), some (.int (nI 99)), some (.int (nI 101)), some (.int (nI 108)), some (.int (nI 108)), some (.int (nI 0)), some (.int (nI 0)), some (.int (nI 0)), none]) dX11_spells_21 (Nat.le_of_ble_eq_true rfl) rfl ?_
    refine gj_ic (w := 0) dX11_spells_23 ?_
    refine gj_istore (L' := [some (.ref 100), some (.int (nI 4)), some (.int (nI 99)), some (.int (nI 101)), some (.int (nI 108)), some (.int (nI 108)), some (.int (nI 0)), some (.int (nI 0)), some (.int (nI 0)), some (.int (nI 0))]) dX11_spells_24 (Nat.le_of_ble_eq_true rfl) rfl ?_
    refine gj_iload dX11_spells_26 rfl ?_
    refine gj_iload_n dX11_spells_28 rfl ?_
    refine gj_icmp_geN (tgt := 119) (by omega) (by omega) dX11_spells_29 rfl (fun zq0 => ?_) (fun zq0 => ?_)
    · exfalso; omega
    refine gj_iload dX11_spells_32 rfl ?_
    refine gj_if_eqN (tgt := 119) (by omega) dX11_spells_34 rfl (fun zq0 => ?_) (fun zq0 => ?_)
    rotate_left
    · exfalso; revert zq0; decide
    refine gj_iload dX11_spells_119 rfl ?_
    exact gj_zr rfl dX11_spells_121 rfl (mj_b0 (by first | rw [hA9, hL9, hc0, hc1, hc2, hc3]; rfl | rw [hA9, hL9, hc0, hc1, hc2]; rfl | rw [hA9, hL9, hc0, hc1]; rfl | rw [hA9, hL9, hc0]; rfl | rw [hA9, hL9]; rfl | rw [hA9]; rfl)) rfl
  have hL9 : decide (sp_ps B y2 (t + 1) - sp_ss B y2 t = 4) = true := decide_eq_true zq2
  refine gj_ic (w := 1) dX11_spells_16 ?_
  refine gj_goto (tgt := 21) dX11_spells_17 rfl ?_
  refine gj_istore (L' := [some (.ref 100), some (.int (nI 4)), some (.int (nI 99)), some (.int (nI 101)), some (.int (nI 108)), some (.int (nI 108)), some (.int (nI 0)), some (.int (nI 0)), some (.int (nI 1)), none]) dX11_spells_21 (Nat.le_of_ble_eq_true rfl) rfl ?_
  refine gj_ic (w := 0) dX11_spells_23 ?_
  refine gj_istore (L' := [some (.ref 100), some (.int (nI 4)), some (.int (nI 99)), some (.int (nI 101)), some (.int (nI 108)), some (.int (nI 108)), some (.int (nI 0)), some (.int (nI 0)), some (.int (nI 1)), some (.int (nI 0))]) dX11_spells_24 (Nat.le_of_ble_eq_true rfl) rfl ?_
  refine gj_iload dX11_spells_26 rfl ?_
  refine gj_iload_n dX11_spells_28 rfl ?_
  refine gj_icmp_geN (tgt := 119) (by omega) (by omega) dX11_spells_29 rfl (fun zq0 => ?_) (fun zq0 => ?_)
  · exfalso; omega
  refine gj_iload dX11_spells_32 rfl ?_
  refine gj_if_eqN (tgt := 119) (by omega) dX11_spells_34 rfl (fun zq0 => ?_) (fun zq0 => ?_)
  · exfalso; revert zq0; decide
  refine gj_aload_n dX11_spells_37 rfl ?_
  refine gfX11_33 rfl dX11_spells_38 H0 rfl ?_
  refine gj_aload_n dX11_spells_41 rfl ?_
  refine gfX11_242 rfl dX11_spells_42 H0 rfl ?_
  refine gj_iload dX11_spells_45 rfl ?_
  refine gj_iaddN  dX11_spells_47 ?_
  refine gj_ialdN dX11_spells_48 HB (by omega) (by omega) ?_
  have hb40 := hB (sp_ss B y2 t + 0)
  refine gj_iload dX11_spells_49 rfl ?_
  refine gj_if_neN (tgt := 58) (by omega) dX11_spells_51 rfl (fun zq0 => ?_) (fun zq0 => ?_)
  · exfalso; revert zq0; decide
  refine gj_iload_n dX11_spells_54 rfl ?_
  refine gj_goto (tgt := 103) dX11_spells_55 rfl ?_
  refine gj_icmp_neN (tgt := 110) (by omega) (by omega) dX11_spells_103 rfl (fun zq3 => ?_) (fun zq3 => ?_)
  · -- 103 taken
    have hc0 : decide (B (sp_ss B y2 t + 0) = 99) = false := decide_eq_false zq3
    refine gj_ic (w := 0) dX11_spells_110 ?_
    refine gj_istore (L' := [some (.ref 100), some (.int (nI 4)), some (.int (nI 99)), some (.int (nI 101)), some (.int (nI 108)), some (.int (nI 108)), some (.int (nI 0)), some (.int (nI 0)), some (.int (nI 0)), some (.int (nI 0))]) dX11_spells_111 (Nat.le_of_ble_eq_true rfl) rfl ?_
    refine gj_iincN (L' := [some (.ref 100), some (.int (nI 4)), some (.int (nI 99)), some (.int (nI 101)), some (.int (nI 108)), some (.int (nI 108)), some (.int (nI 0)), some (.int (nI 0)), some (.int (nI 0)), some (.int (nI 1))]) dX11_spells_113 rfl (Nat.le_of_ble_eq_true rfl) rfl ?_
    refine gj_goto (tgt := 26) dX11_spells_116 rfl ?_
    refine gj_iload dX11_spells_26 rfl ?_
    refine gj_iload_n dX11_spells_28 rfl ?_
    refine gj_icmp_geN (tgt := 119) (by omega) (by omega) dX11_spells_29 rfl (fun zq0 => ?_) (fun zq0 => ?_)
    · exfalso; omega
    refine gj_iload dX11_spells_32 rfl ?_
    refine gj_if_eqN (tgt := 119) (by omega) dX11_spells_34 rfl (fun zq0 => ?_) (fun zq0 => ?_)
    rotate_left
    · exfalso; revert zq0; decide
    refine gj_iload dX11_spells_119 rfl ?_
    exact gj_zr rfl dX11_spells_121 rfl (mj_b0 (by first | rw [hA9, hL9, hc0, hc1, hc2, hc3]; rfl | rw [hA9, hL9, hc0, hc1, hc2]; rfl | rw [hA9, hL9, hc0, hc1]; rfl | rw [hA9, hL9, hc0]; rfl | rw [hA9, hL9]; rfl | rw [hA9]; rfl)) rfl
  have hc0 : decide (B (sp_ss B y2 t + 0) = 99) = true := decide_eq_true zq3
  refine gj_ic (w := 1) dX11_spells_106 ?_
  refine gj_goto (tgt := 111) dX11_spells_107 rfl ?_
  refine gj_istore (L' := [some (.ref 100), some (.int (nI 4)), some (.int (nI 99)), some (.int (nI 101)), some (.int (nI 108)), some (.int (nI 108)), some (.int (nI 0)), some (.int (nI 0)), some (.int (nI 1)), some (.int (nI 0))]) dX11_spells_111 (Nat.le_of_ble_eq_true rfl) rfl ?_
  refine gj_iincN (L' := [some (.ref 100), some (.int (nI 4)), some (.int (nI 99)), some (.int (nI 101)), some (.int (nI 108)), some (.int (nI 108)), some (.int (nI 0)), some (.int (nI 0)), some (.int (nI 1)), some (.int (nI 1))]) dX11_spells_113 rfl (Nat.le_of_ble_eq_true rfl) rfl ?_
  refine gj_goto (tgt := 26) dX11_spells_116 rfl ?_
  refine gj_iload dX11_spells_26 rfl ?_
  refine gj_iload_n dX11_spells_28 rfl ?_
  refine gj_icmp_geN (tgt := 119) (by omega) (by omega) dX11_spells_29 rfl (fun zq0 => ?_) (fun zq0 => ?_)
  · exfalso; omega
  refine gj_iload dX11_spells_32 rfl ?_
  refine gj_if_eqN (tgt := 119) (by omega) dX11_spells_34 rfl (fun zq0 => ?_) (fun zq0 => ?_)
  · exfalso; revert zq0; decide
  refine gj_aload_n dX11_spells_37 rfl ?_
  refine gfX11_33 rfl dX11_spells_38 H0 rfl ?_
  refine gj_aload_n dX11_spells_41 rfl ?_
  refine gfX11_242 rfl dX11_spells_42 H0 rfl ?_
  refine gj_iload dX11_spells_45 rfl ?_
  refine gj_iaddN  dX11_spells_47 ?_
  refine gj_ialdN dX11_spells_48 HB (by omega) (by omega) ?_
  have hb41 := hB (sp_ss B y2 t + 1)
  refine gj_iload dX11_spells_49 rfl ?_
  refine gj_if_neN (tgt := 58) (by omega) dX11_spells_51 rfl (fun zq0 => ?_) (fun zq0 => ?_)
  rotate_left
  · exfalso; revert zq0; decide
  refine gj_iload dX11_spells_58 rfl ?_
  refine gj_ic (w := 1) dX11_spells_60 ?_
  refine gj_icmp_neN (tgt := 68) (by omega) (by omega) dX11_spells_61 rfl (fun zq0 => ?_) (fun zq0 => ?_)
  · exfalso; omega
  refine gj_iload_n dX11_spells_64 rfl ?_
  refine gj_goto (tgt := 103) dX11_spells_65 rfl ?_
  refine gj_icmp_neN (tgt := 110) (by omega) (by omega) dX11_spells_103 rfl (fun zq4 => ?_) (fun zq4 => ?_)
  · -- 103 taken
    have hc1 : decide (B (sp_ss B y2 t + 1) = 101) = false := decide_eq_false zq4
    refine gj_ic (w := 0) dX11_spells_110 ?_
    refine gj_istore (L' := [some (.ref 100), some (.int (nI 4)), some (.int (nI 99)), some (.int (nI 101)), some (.int (nI 108)), some (.int (nI 108)), some (.int (nI 0)), some (.int (nI 0)), some (.int (nI 0)), some (.int (nI 1))]) dX11_spells_111 (Nat.le_of_ble_eq_true rfl) rfl ?_
    refine gj_iincN (L' := [some (.ref 100), some (.int (nI 4)), some (.int (nI 99)), some (.int (nI 101)), some (.int (nI 108)), some (.int (nI 108)), some (.int (nI 0)), some (.int (nI 0)), some (.int (nI 0)), some (.int (nI 2))]) dX11_spells_113 rfl (Nat.le_of_ble_eq_true rfl) rfl ?_
    refine gj_goto (tgt := 26) dX11_spells_116 rfl ?_
    refine gj_iload dX11_spells_26 rfl ?_
    refine gj_iload_n dX11_spells_28 rfl ?_
    refine gj_icmp_geN (tgt := 119) (by omega) (by omega) dX11_spells_29 rfl (fun zq0 => ?_) (fun zq0 => ?_)
    · exfalso; omega
    refine gj_iload dX11_spells_32 rfl ?_
    refine gj_if_eqN (tgt := 119) (by omega) dX11_spells_34 rfl (fun zq0 => ?_) (fun zq0 => ?_)
    rotate_left
    · exfalso; revert zq0; decide
    refine gj_iload dX11_spells_119 rfl ?_
    exact gj_zr rfl dX11_spells_121 rfl (mj_b0 (by first | rw [hA9, hL9, hc0, hc1, hc2, hc3]; rfl | rw [hA9, hL9, hc0, hc1, hc2]; rfl | rw [hA9, hL9, hc0, hc1]; rfl | rw [hA9, hL9, hc0]; rfl | rw [hA9, hL9]; rfl | rw [hA9]; rfl)) rfl
  have hc1 : decide (B (sp_ss B y2 t + 1) = 101) = true := decide_eq_true zq4
  refine gj_ic (w := 1) dX11_spells_106 ?_
  refine gj_goto (tgt := 111) dX11_spells_107 rfl ?_
  refine gj_istore (L' := [some (.ref 100), some (.int (nI 4)), some (.int (nI 99)), some (.int (nI 101)), some (.int (nI 108)), some (.int (nI 108)), some (.int (nI 0)), some (.int (nI 0)), some (.int (nI 1)), some (.int (nI 1))]) dX11_spells_111 (Nat.le_of_ble_eq_true rfl) rfl ?_
  refine gj_iincN (L' := [some (.ref 100), some (.int (nI 4)), some (.int (nI 99)), some (.int (nI 101)), some (.int (nI 108)), some (.int (nI 108)), some (.int (nI 0)), some (.int (nI 0)), some (.int (nI 1)), some (.int (nI 2))]) dX11_spells_113 rfl (Nat.le_of_ble_eq_true rfl) rfl ?_
  refine gj_goto (tgt := 26) dX11_spells_116 rfl ?_
  refine gj_iload dX11_spells_26 rfl ?_
  refine gj_iload_n dX11_spells_28 rfl ?_
  refine gj_icmp_geN (tgt := 119) (by omega) (by omega) dX11_spells_29 rfl (fun zq0 => ?_) (fun zq0 => ?_)
  · exfalso; omega
  refine gj_iload dX11_spells_32 rfl ?_
  refine gj_if_eqN (tgt := 119) (by omega) dX11_spells_34 rfl (fun zq0 => ?_) (fun zq0 => ?_)
  · exfalso; revert zq0; decide
  refine gj_aload_n dX11_spells_37 rfl ?_
  refine gfX11_33 rfl dX11_spells_38 H0 rfl ?_
  refine gj_aload_n dX11_spells_41 rfl ?_
  refine gfX11_242 rfl dX11_spells_42 H0 rfl ?_
  refine gj_iload dX11_spells_45 rfl ?_
  refine gj_iaddN  dX11_spells_47 ?_
  refine gj_ialdN dX11_spells_48 HB (by omega) (by omega) ?_
  have hb42 := hB (sp_ss B y2 t + 2)
  refine gj_iload dX11_spells_49 rfl ?_
  refine gj_if_neN (tgt := 58) (by omega) dX11_spells_51 rfl (fun zq0 => ?_) (fun zq0 => ?_)
  rotate_left
  · exfalso; revert zq0; decide
  refine gj_iload dX11_spells_58 rfl ?_
  refine gj_ic (w := 1) dX11_spells_60 ?_
  refine gj_icmp_neN (tgt := 68) (by omega) (by omega) dX11_spells_61 rfl (fun zq0 => ?_) (fun zq0 => ?_)
  rotate_left
  · exfalso; omega
  refine gj_iload dX11_spells_68 rfl ?_
  refine gj_ic (w := 2) dX11_spells_70 ?_
  refine gj_icmp_neN (tgt := 79) (by omega) (by omega) dX11_spells_71 rfl (fun zq0 => ?_) (fun zq0 => ?_)
  · exfalso; omega
  refine gj_iload dX11_spells_74 rfl ?_
  refine gj_goto (tgt := 103) dX11_spells_76 rfl ?_
  refine gj_icmp_neN (tgt := 110) (by omega) (by omega) dX11_spells_103 rfl (fun zq5 => ?_) (fun zq5 => ?_)
  · -- 103 taken
    have hc2 : decide (B (sp_ss B y2 t + 2) = 108) = false := decide_eq_false zq5
    refine gj_ic (w := 0) dX11_spells_110 ?_
    refine gj_istore (L' := [some (.ref 100), some (.int (nI 4)), some (.int (nI 99)), some (.int (nI 101)), some (.int (nI 108)), some (.int (nI 108)), some (.int (nI 0)), some (.int (nI 0)), some (.int (nI 0)), some (.int (nI 2))]) dX11_spells_111 (Nat.le_of_ble_eq_true rfl) rfl ?_
    refine gj_iincN (L' := [some (.ref 100), some (.int (nI 4)), some (.int (nI 99)), some (.int (nI 101)), some (.int (nI 108)), some (.int (nI 108)), some (.int (nI 0)), some (.int (nI 0)), some (.int (nI 0)), some (.int (nI 3))]) dX11_spells_113 rfl (Nat.le_of_ble_eq_true rfl) rfl ?_
    refine gj_goto (tgt := 26) dX11_spells_116 rfl ?_
    refine gj_iload dX11_spells_26 rfl ?_
    refine gj_iload_n dX11_spells_28 rfl ?_
    refine gj_icmp_geN (tgt := 119) (by omega) (by omega) dX11_spells_29 rfl (fun zq0 => ?_) (fun zq0 => ?_)
    · exfalso; omega
    refine gj_iload dX11_spells_32 rfl ?_
    refine gj_if_eqN (tgt := 119) (by omega) dX11_spells_34 rfl (fun zq0 => ?_) (fun zq0 => ?_)
    rotate_left
    · exfalso; revert zq0; decide
    refine gj_iload dX11_spells_119 rfl ?_
    exact gj_zr rfl dX11_spells_121 rfl (mj_b0 (by first | rw [hA9, hL9, hc0, hc1, hc2, hc3]; rfl | rw [hA9, hL9, hc0, hc1, hc2]; rfl | rw [hA9, hL9, hc0, hc1]; rfl | rw [hA9, hL9, hc0]; rfl | rw [hA9, hL9]; rfl | rw [hA9]; rfl)) rfl
  have hc2 : decide (B (sp_ss B y2 t + 2) = 108) = true := decide_eq_true zq5
  refine gj_ic (w := 1) dX11_spells_106 ?_
  refine gj_goto (tgt := 111) dX11_spells_107 rfl ?_
  refine gj_istore (L' := [some (.ref 100), some (.int (nI 4)), some (.int (nI 99)), some (.int (nI 101)), some (.int (nI 108)), some (.int (nI 108)), some (.int (nI 0)), some (.int (nI 0)), some (.int (nI 1)), some (.int (nI 2))]) dX11_spells_111 (Nat.le_of_ble_eq_true rfl) rfl ?_
  refine gj_iincN (L' := [some (.ref 100), some (.int (nI 4)), some (.int (nI 99)), some (.int (nI 101)), some (.int (nI 108)), some (.int (nI 108)), some (.int (nI 0)), some (.int (nI 0)), some (.int (nI 1)), some (.int (nI 3))]) dX11_spells_113 rfl (Nat.le_of_ble_eq_true rfl) rfl ?_
  refine gj_goto (tgt := 26) dX11_spells_116 rfl ?_
  refine gj_iload dX11_spells_26 rfl ?_
  refine gj_iload_n dX11_spells_28 rfl ?_
  refine gj_icmp_geN (tgt := 119) (by omega) (by omega) dX11_spells_29 rfl (fun zq0 => ?_) (fun zq0 => ?_)
  · exfalso; omega
  refine gj_iload dX11_spells_32 rfl ?_
  refine gj_if_eqN (tgt := 119) (by omega) dX11_spells_34 rfl (fun zq0 => ?_) (fun zq0 => ?_)
  · exfalso; revert zq0; decide
  refine gj_aload_n dX11_spells_37 rfl ?_
  refine gfX11_33 rfl dX11_spells_38 H0 rfl ?_
  refine gj_aload_n dX11_spells_41 rfl ?_
  refine gfX11_242 rfl dX11_spells_42 H0 rfl ?_
  refine gj_iload dX11_spells_45 rfl ?_
  refine gj_iaddN  dX11_spells_47 ?_
  refine gj_ialdN dX11_spells_48 HB (by omega) (by omega) ?_
  have hb43 := hB (sp_ss B y2 t + 3)
  refine gj_iload dX11_spells_49 rfl ?_
  refine gj_if_neN (tgt := 58) (by omega) dX11_spells_51 rfl (fun zq0 => ?_) (fun zq0 => ?_)
  rotate_left
  · exfalso; revert zq0; decide
  refine gj_iload dX11_spells_58 rfl ?_
  refine gj_ic (w := 1) dX11_spells_60 ?_
  refine gj_icmp_neN (tgt := 68) (by omega) (by omega) dX11_spells_61 rfl (fun zq0 => ?_) (fun zq0 => ?_)
  rotate_left
  · exfalso; omega
  refine gj_iload dX11_spells_68 rfl ?_
  refine gj_ic (w := 2) dX11_spells_70 ?_
  refine gj_icmp_neN (tgt := 79) (by omega) (by omega) dX11_spells_71 rfl (fun zq0 => ?_) (fun zq0 => ?_)
  rotate_left
  · exfalso; omega
  refine gj_iload dX11_spells_79 rfl ?_
  refine gj_ic (w := 3) dX11_spells_81 ?_
  refine gj_icmp_neN (tgt := 90) (by omega) (by omega) dX11_spells_82 rfl (fun zq0 => ?_) (fun zq0 => ?_)
  · exfalso; omega
  refine gj_iload dX11_spells_85 rfl ?_
  refine gj_goto (tgt := 103) dX11_spells_87 rfl ?_
  refine gj_icmp_neN (tgt := 110) (by omega) (by omega) dX11_spells_103 rfl (fun zq6 => ?_) (fun zq6 => ?_)
  · -- 103 taken
    have hc3 : decide (B (sp_ss B y2 t + 3) = 108) = false := decide_eq_false zq6
    refine gj_ic (w := 0) dX11_spells_110 ?_
    refine gj_istore (L' := [some (.ref 100), some (.int (nI 4)), some (.int (nI 99)), some (.int (nI 101)), some (.int (nI 108)), some (.int (nI 108)), some (.int (nI 0)), some (.int (nI 0)), some (.int (nI 0)), some (.int (nI 3))]) dX11_spells_111 (Nat.le_of_ble_eq_true rfl) rfl ?_
    refine gj_iincN (L' := [some (.ref 100), some (.int (nI 4)), some (.int (nI 99)), some (.int (nI 101)), some (.int (nI 108)), some (.int (nI 108)), some (.int (nI 0)), some (.int (nI 0)), some (.int (nI 0)), some (.int (nI 4))]) dX11_spells_113 rfl (Nat.le_of_ble_eq_true rfl) rfl ?_
    refine gj_goto (tgt := 26) dX11_spells_116 rfl ?_
    refine gj_iload dX11_spells_26 rfl ?_
    refine gj_iload_n dX11_spells_28 rfl ?_
    refine gj_icmp_geN (tgt := 119) (by omega) (by omega) dX11_spells_29 rfl (fun zq0 => ?_) (fun zq0 => ?_)
    rotate_left
    · exfalso; omega
    refine gj_iload dX11_spells_119 rfl ?_
    exact gj_zr rfl dX11_spells_121 rfl (mj_b0 (by first | rw [hA9, hL9, hc0, hc1, hc2, hc3]; rfl | rw [hA9, hL9, hc0, hc1, hc2]; rfl | rw [hA9, hL9, hc0, hc1]; rfl | rw [hA9, hL9, hc0]; rfl | rw [hA9, hL9]; rfl | rw [hA9]; rfl)) rfl
  have hc3 : decide (B (sp_ss B y2 t + 3) = 108) = true := decide_eq_true zq6
  refine gj_ic (w := 1) dX11_spells_106 ?_
  refine gj_goto (tgt := 111) dX11_spells_107 rfl ?_
  refine gj_istore (L' := [some (.ref 100), some (.int (nI 4)), some (.int (nI 99)), some (.int (nI 101)), some (.int (nI 108)), some (.int (nI 108)), some (.int (nI 0)), some (.int (nI 0)), some (.int (nI 1)), some (.int (nI 3))]) dX11_spells_111 (Nat.le_of_ble_eq_true rfl) rfl ?_
  refine gj_iincN (L' := [some (.ref 100), some (.int (nI 4)), some (.int (nI 99)), some (.int (nI 101)), some (.int (nI 108)), some (.int (nI 108)), some (.int (nI 0)), some (.int (nI 0)), some (.int (nI 1)), some (.int (nI 4))]) dX11_spells_113 rfl (Nat.le_of_ble_eq_true rfl) rfl ?_
  refine gj_goto (tgt := 26) dX11_spells_116 rfl ?_
  refine gj_iload dX11_spells_26 rfl ?_
  refine gj_iload_n dX11_spells_28 rfl ?_
  refine gj_icmp_geN (tgt := 119) (by omega) (by omega) dX11_spells_29 rfl (fun zq0 => ?_) (fun zq0 => ?_)
  rotate_left
  · exfalso; omega
  refine gj_iload dX11_spells_119 rfl ?_
  exact gj_zr rfl dX11_spells_121 rfl (mj_b1 (by first | rw [hA9, hL9, hc0, hc1, hc2, hc3]; rfl | rw [hA9, hL9, hc0, hc1, hc2]; rfl | rw [hA9, hL9, hc0, hc1]; rfl | rw [hA9, hL9, hc0]; rfl | rw [hA9, hL9]; rfl | rw [hA9]; rfl)) rfl
theorem sp_spq1 {B : Nat → Nat} {n t : Nat} (hB : ∀ c, B c ≤ 127) : (sp_xkt B n t = 1 ∧ (sp_ps B n (t + 1) - sp_ss B n t = 4 ∧ B (sp_ss B n t + 0) = 99 ∧ B (sp_ss B n t + 1) = 101 ∧ B (sp_ss B n t + 2) = 108 ∧ B (sp_ss B n t + 3) = 108)) ↔ sp_tt B n t = 4294967291 := by
  have g1 := hB (sp_ss B n t)
  have g2 := hB (sp_ss B n t + 1)
  unfold sp_xkt sp_tt sp_xk sp_tk sp_nvl sp_ba
  by_cases q : n ≤ sp_ss B n t
  · rw [if_pos q, if_pos q]; exact ⟨fun z => absurd z.1 (by decide), fun z => absurd z (by decide)⟩
  rw [if_neg q, if_neg q, if_pos (Nat.not_le.mp q)]
  by_cases q1 : 97 ≤ B (sp_ss B n t) ∧ B (sp_ss B n t) ≤ 122
  · rw [if_pos q1, if_pos q1, ← sp_wt_1]
    exact ⟨fun z => z.2, fun z => ⟨rfl, z⟩⟩
  rw [if_neg q1, if_neg q1]
  refine ⟨fun z => ?_, fun z => ?_⟩
  · exact absurd z.2.2.1 (by rw [Nat.add_zero]; omega)
  · exfalso; revert z; (repeat' split) <;> omega
theorem sp_spl1 {B : Nat → Nat} {n t : Nat} (hB : ∀ c, B c ≤ 127) : (decide (sp_xkt B n t = 1) && (decide (sp_ps B n (t + 1) - sp_ss B n t = 4) && (decide (B (sp_ss B n t + 0) = 99) && (decide (B (sp_ss B n t + 1) = 101) && (decide (B (sp_ss B n t + 2) = 108) && decide (B (sp_ss B n t + 3) = 108)))))) = decide (sp_tt B n t = 4294967291) := by
  rw [Bool.eq_iff_iff]
  simp only [Bool.and_eq_true, decide_eq_true_eq]
  exact sp_spq1 hB
set_option maxHeartbeats 1000000 in
set_option maxRecDepth 10000 in
theorem ev_X11_spells_w2 {E : mj_E} {h : mj_H} {a0 a1 y2 t : Nat} {B : Nat → Nat} (H0 : h 100 = some (mj_mo a0 a1 y2 (sp_ss B y2 t) (sp_ps B y2 (t + 1) - sp_ss B y2 t) (sp_xkt B y2 t) (sp_xvt B y2 t))) (HB : h 107 = some (mj_ar 150 B)) (h0 : ∀ c, B c ≤ 127) (h1 : y2 ≤ 150) : mj_Ev E iX11_spells [.ref 100, .int (nI 4), .int (nI 119), .int (nI 101), .int (nI 101), .int (nI 107), .int (nI 0), .int (nI 0)] h (mj_R (some (.int (mj_b (decide (sp_xkt B y2 t = 1) && (decide (sp_ps B y2 (t + 1) - sp_ss B y2 t = 4) && (decide (B (sp_ss B y2 t + 0) = 119) && (decide (B (sp_ss B y2 t + 1) = 101) && (decide (B (sp_ss B y2 t + 2) = 101) && decide (B (sp_ss B y2 t + 3) = 107))))))))) h) := by
  have hB := h0
  refine mj_Ev.of (L0 := [some (.ref 100), some (.int (nI 4)), some (.int (nI 119)), some (.int (nI 101)), some (.int (nI 101)), some (.int (nI 107)), some (.int (nI 0)), some (.int (nI 0)), none, none]) pnRX11 (Nat.le_of_ble_eq_true rfl) rfl ?_
  refine gj_aload_n dX11_spells_0 rfl ?_
  refine gfX11_248 rfl dX11_spells_1 H0 rfl ?_
  have hxl := @sp_xkt_le B y2 t
  have hps := @sp_ps_le B y2 (t + 1)
  refine gj_ic (w := 1) dX11_spells_4 ?_
  refine gj_icmp_neN (tgt := 20) (by omega) (by omega) dX11_spells_5 rfl (fun zq1 => ?_) (fun zq1 => ?_)
  · -- 5 taken
    have hA9 : decide (sp_xkt B y2 t = 1) = false := decide_eq_false zq1
    refine gj_ic (w := 0) dX11_spells_20 ?_
    refine gj_istore (L' := [some (.ref 100), some (.int (nI 4)), some (.int (nI 119)), some (.int (nI 101)), some (.int (nI 101)), some (.int (nI 107)), some (.int (nI 0)), some (.int (nI 0)), some (.int (nI 0)), none]) dX11_spells_21 (Nat.le_of_ble_eq_true rfl) rfl ?_
    refine gj_ic (w := 0) dX11_spells_23 ?_
    refine gj_istore (L' := [some (.ref 100), some (.int (nI 4)), some (.int (nI 119)), some (.int (nI 101)), some (.int (nI 101)), some (.int (nI 107)), some (.int (nI 0)), some (.int (nI 0)), some (.int (nI 0)), some (.int (nI 0))]) dX11_spells_24 (Nat.le_of_ble_eq_true rfl) rfl ?_
    refine gj_iload dX11_spells_26 rfl ?_
    refine gj_iload_n dX11_spells_28 rfl ?_
    refine gj_icmp_geN (tgt := 119) (by omega) (by omega) dX11_spells_29 rfl (fun zq0 => ?_) (fun zq0 => ?_)
    · exfalso; omega
    refine gj_iload dX11_spells_32 rfl ?_
    refine gj_if_eqN (tgt := 119) (by omega) dX11_spells_34 rfl (fun zq0 => ?_) (fun zq0 => ?_)
    rotate_left
    · exfalso; revert zq0; decide
    refine gj_iload dX11_spells_119 rfl ?_
    exact gj_zr rfl dX11_spells_121 rfl (mj_b0 (by first | rw [hA9, hL9, hc0, hc1, hc2, hc3]; rfl | rw [hA9, hL9, hc0, hc1, hc2]; rfl | rw [hA9, hL9, hc0, hc1]; rfl | rw [hA9, hL9, hc0]; rfl | rw [hA9, hL9]; rfl | rw [hA9]; rfl)) rfl
  have hA9 : decide (sp_xkt B y2 t = 1) = true := decide_eq_true zq1
  refine gj_aload_n dX11_spells_8 rfl ?_
  refine gfX11_245 rfl dX11_spells_9 H0 rfl ?_
  refine gj_iload_n dX11_spells_12 rfl ?_
  refine gj_icmp_neN (tgt := 20) (by omega) (by omega) dX11_spells_13 rfl (fun zq2 => ?_) (fun zq2 => ?_)
  · -- 13 taken
    have hL9 : decide (sp_ps B y2 (t + 1) - sp_ss B y2 t = 4) = false := decide_eq_false zq2
    refine gj_ic (w := 0) dX11_spells_20 ?_
    refine gj_istore (L' := [some (.ref 100), some (.int (nI 4)), some (.int (nI 119)), some (.int (nI 101)), some (.int (nI 101)), some (.int (nI 107)), some (.int (nI 0)), some (.int (nI 0)), some (.int (nI 0)), none]) dX11_spells_21 (Nat.le_of_ble_eq_true rfl) rfl ?_
    refine gj_ic (w := 0) dX11_spells_23 ?_
    refine gj_istore (L' := [some (.ref 100), some (.int (nI 4)), some (.int (nI 119)), some (.int (nI 101)), some (.int (nI 101)), some (.int (nI 107)), some (.int (nI 0)), some (.int (nI 0)), some (.int (nI 0)), some (.int (nI 0))]) dX11_spells_24 (Nat.le_of_ble_eq_true rfl) rfl ?_
    refine gj_iload dX11_spells_26 rfl ?_
    refine gj_iload_n dX11_spells_28 rfl ?_
    refine gj_icmp_geN (tgt := 119) (by omega) (by omega) dX11_spells_29 rfl (fun zq0 => ?_) (fun zq0 => ?_)
    · exfalso; omega
    refine gj_iload dX11_spells_32 rfl ?_
    refine gj_if_eqN (tgt := 119) (by omega) dX11_spells_34 rfl (fun zq0 => ?_) (fun zq0 => ?_)
    rotate_left
    · exfalso; revert zq0; decide
    refine gj_iload dX11_spells_119 rfl ?_
    exact gj_zr rfl dX11_spells_121 rfl (mj_b0 (by first | rw [hA9, hL9, hc0, hc1, hc2, hc3]; rfl | rw [hA9, hL9, hc0, hc1, hc2]; rfl | rw [hA9, hL9, hc0, hc1]; rfl | rw [hA9, hL9, hc0]; rfl | rw [hA9, hL9]; rfl | rw [hA9]; rfl)) rfl
  have hL9 : decide (sp_ps B y2 (t + 1) - sp_ss B y2 t = 4) = true := decide_eq_true zq2
  refine gj_ic (w := 1) dX11_spells_16 ?_
  refine gj_goto (tgt := 21) dX11_spells_17 rfl ?_
  refine gj_istore (L' := [some (.ref 100), some (.int (nI 4)), some (.int (nI 119)), some (.int (nI 101)), some (.int (nI 101)), some (.int (nI 107)), some (.int (nI 0)), some (.int (nI 0)), some (.int (nI 1)), none]) dX11_spells_21 (Nat.le_of_ble_eq_true rfl) rfl ?_
  refine gj_ic (w := 0) dX11_spells_23 ?_
  refine gj_istore (L' := [some (.ref 100), some (.int (nI 4)), some (.int (nI 119)), some (.int (nI 101)), some (.int (nI 101)), some (.int (nI 107)), some (.int (nI 0)), some (.int (nI 0)), some (.int (nI 1)), some (.int (nI 0))]) dX11_spells_24 (Nat.le_of_ble_eq_true rfl) rfl ?_
  refine gj_iload dX11_spells_26 rfl ?_
  refine gj_iload_n dX11_spells_28 rfl ?_
  refine gj_icmp_geN (tgt := 119) (by omega) (by omega) dX11_spells_29 rfl (fun zq0 => ?_) (fun zq0 => ?_)
  · exfalso; omega
  refine gj_iload dX11_spells_32 rfl ?_
  refine gj_if_eqN (tgt := 119) (by omega) dX11_spells_34 rfl (fun zq0 => ?_) (fun zq0 => ?_)
  · exfalso; revert zq0; decide
  refine gj_aload_n dX11_spells_37 rfl ?_
  refine gfX11_33 rfl dX11_spells_38 H0 rfl ?_
  refine gj_aload_n dX11_spells_41 rfl ?_
  refine gfX11_242 rfl dX11_spells_42 H0 rfl ?_
  refine gj_iload dX11_spells_45 rfl ?_
  refine gj_iaddN  dX11_spells_47 ?_
  refine gj_ialdN dX11_spells_48 HB (by omega) (by omega) ?_
  have hb40 := hB (sp_ss B y2 t + 0)
  refine gj_iload dX11_spells_49 rfl ?_
  refine gj_if_neN (tgt := 58) (by omega) dX11_spells_51 rfl (fun zq0 => ?_) (fun zq0 => ?_)
  · exfalso; revert zq0; decide
  refine gj_iload_n dX11_spells_54 rfl ?_
  refine gj_goto (tgt := 103) dX11_spells_55 rfl ?_
  refine gj_icmp_neN (tgt := 110) (by omega) (by omega) dX11_spells_103 rfl (fun zq3 => ?_) (fun zq3 => ?_)
  · -- 103 taken
    have hc0 : decide (B (sp_ss B y2 t + 0) = 119) = false := decide_eq_false zq3
    refine gj_ic (w := 0) dX11_spells_110 ?_
    refine gj_istore (L' := [some (.ref 100), some (.int (nI 4)), some (.int (nI 119)), some (.int (nI 101)), some (.int (nI 101)), some (.int (nI 107)), some (.int (nI 0)), some (.int (nI 0)), some (.int (nI 0)), some (.int (nI 0))]) dX11_spells_111 (Nat.le_of_ble_eq_true rfl) rfl ?_
    refine gj_iincN (L' := [some (.ref 100), some (.int (nI 4)), some (.int (nI 119)), some (.int (nI 101)), some (.int (nI 101)), some (.int (nI 107)), some (.int (nI 0)), some (.int (nI 0)), some (.int (nI 0)), some (.int (nI 1))]) dX11_spells_113 rfl (Nat.le_of_ble_eq_true rfl) rfl ?_
    refine gj_goto (tgt := 26) dX11_spells_116 rfl ?_
    refine gj_iload dX11_spells_26 rfl ?_
    refine gj_iload_n dX11_spells_28 rfl ?_
    refine gj_icmp_geN (tgt := 119) (by omega) (by omega) dX11_spells_29 rfl (fun zq0 => ?_) (fun zq0 => ?_)
    · exfalso; omega
    refine gj_iload dX11_spells_32 rfl ?_
    refine gj_if_eqN (tgt := 119) (by omega) dX11_spells_34 rfl (fun zq0 => ?_) (fun zq0 => ?_)
    rotate_left
    · exfalso; revert zq0; decide
    refine gj_iload dX11_spells_119 rfl ?_
    exact gj_zr rfl dX11_spells_121 rfl (mj_b0 (by first | rw [hA9, hL9, hc0, hc1, hc2, hc3]; rfl | rw [hA9, hL9, hc0, hc1, hc2]; rfl | rw [hA9, hL9, hc0, hc1]; rfl | rw [hA9, hL9, hc0]; rfl | rw [hA9, hL9]; rfl | rw [hA9]; rfl)) rfl
  have hc0 : decide (B (sp_ss B y2 t + 0) = 119) = true := decide_eq_true zq3
  refine gj_ic (w := 1) dX11_spells_106 ?_
  refine gj_goto (tgt := 111) dX11_spells_107 rfl ?_
  refine gj_istore (L' := [some (.ref 100), some (.int (nI 4)), some (.int (nI 119)), some (.int (nI 101)), some (.int (nI 101)), some (.int (nI 107)), some (.int (nI 0)), some (.int (nI 0)), some (.int (nI 1)), some (.int (nI 0))]) dX11_spells_111 (Nat.le_of_ble_eq_true rfl) rfl ?_
  refine gj_iincN (L' := [some (.ref 100), some (.int (nI 4)), some (.int (nI 119)), some (.int (nI 101)), some (.int (nI 101)), some (.int (nI 107)), some (.int (nI 0)), some (.int (nI 0)), some (.int (nI 1)), some (.int (nI 1))]) dX11_spells_113 rfl (Nat.le_of_ble_eq_true rfl) rfl ?_
  refine gj_goto (tgt := 26) dX11_spells_116 rfl ?_
  refine gj_iload dX11_spells_26 rfl ?_
  refine gj_iload_n dX11_spells_28 rfl ?_
  refine gj_icmp_geN (tgt := 119) (by omega) (by omega) dX11_spells_29 rfl (fun zq0 => ?_) (fun zq0 => ?_)
  · exfalso; omega
  refine gj_iload dX11_spells_32 rfl ?_
  refine gj_if_eqN (tgt := 119) (by omega) dX11_spells_34 rfl (fun zq0 => ?_) (fun zq0 => ?_)
  · exfalso; revert zq0; decide
  refine gj_aload_n dX11_spells_37 rfl ?_
  refine gfX11_33 rfl dX11_spells_38 H0 rfl ?_
  refine gj_aload_n dX11_spells_41 rfl ?_
  refine gfX11_242 rfl dX11_spells_42 H0 rfl ?_
  refine gj_iload dX11_spells_45 rfl ?_
  refine gj_iaddN  dX11_spells_47 ?_
  refine gj_ialdN dX11_spells_48 HB (by omega) (by omega) ?_
  have hb41 := hB (sp_ss B y2 t + 1)
  refine gj_iload dX11_spells_49 rfl ?_
  refine gj_if_neN (tgt := 58) (by omega) dX11_spells_51 rfl (fun zq0 => ?_) (fun zq0 => ?_)
  rotate_left
  · exfalso; revert zq0; decide
  refine gj_iload dX11_spells_58 rfl ?_
  refine gj_ic (w := 1) dX11_spells_60 ?_
  refine gj_icmp_neN (tgt := 68) (by omega) (by omega) dX11_spells_61 rfl (fun zq0 => ?_) (fun zq0 => ?_)
  · exfalso; omega
  refine gj_iload_n dX11_spells_64 rfl ?_
  refine gj_goto (tgt := 103) dX11_spells_65 rfl ?_
  refine gj_icmp_neN (tgt := 110) (by omega) (by omega) dX11_spells_103 rfl (fun zq4 => ?_) (fun zq4 => ?_)
  · -- 103 taken
    have hc1 : decide (B (sp_ss B y2 t + 1) = 101) = false := decide_eq_false zq4
    refine gj_ic (w := 0) dX11_spells_110 ?_
    refine gj_istore (L' := [some (.ref 100), some (.int (nI 4)), some (.int (nI 119)), some (.int (nI 101)), some (.int (nI 101)), some (.int (nI 107)), some (.int (nI 0)), some (.int (nI 0)), some (.int (nI 0)), some (.int (nI 1))]) dX11_spells_111 (Nat.le_of_ble_eq_true rfl) rfl ?_
    refine gj_iincN (L' := [some (.ref 100), some (.int (nI 4)), some (.int (nI 119)), some (.int (nI 101)), some (.int (nI 101)), some (.int (nI 107)), some (.int (nI 0)), some (.int (nI 0)), some (.int (nI 0)), some (.int (nI 2))]) dX11_spells_113 rfl (Nat.le_of_ble_eq_true rfl) rfl ?_
    refine gj_goto (tgt := 26) dX11_spells_116 rfl ?_
    refine gj_iload dX11_spells_26 rfl ?_
    refine gj_iload_n dX11_spells_28 rfl ?_
    refine gj_icmp_geN (tgt := 119) (by omega) (by omega) dX11_spells_29 rfl (fun zq0 => ?_) (fun zq0 => ?_)
    · exfalso; omega
    refine gj_iload dX11_spells_32 rfl ?_
    refine gj_if_eqN (tgt := 119) (by omega) dX11_spells_34 rfl (fun zq0 => ?_) (fun zq0 => ?_)
    rotate_left
    · exfalso; revert zq0; decide
    refine gj_iload dX11_spells_119 rfl ?_
    exact gj_zr rfl dX11_spells_121 rfl (mj_b0 (by first | rw [hA9, hL9, hc0, hc1, hc2, hc3]; rfl | rw [hA9, hL9, hc0, hc1, hc2]; rfl | rw [hA9, hL9, hc0, hc1]; rfl | rw [hA9, hL9, hc0]; rfl | rw [hA9, hL9]; rfl | rw [hA9]; rfl)) rfl
  have hc1 : decide (B (sp_ss B y2 t + 1) = 101) = true := decide_eq_true zq4
  refine gj_ic (w := 1) dX11_spells_106 ?_
  refine gj_goto (tgt := 111) dX11_spells_107 rfl ?_
  refine gj_istore (L' := [some (.ref 100), some (.int (nI 4)), some (.int (nI 119)), some (.int (nI 101)), some (.int (nI 101)), some (.int (nI 107)), some (.int (nI 0)), some (.int (nI 0)), some (.int (nI 1)), some (.int (nI 1))]) dX11_spells_111 (Nat.le_of_ble_eq_true rfl) rfl ?_
  refine gj_iincN (L' := [some (.ref 100), some (.int (nI 4)), some (.int (nI 119)), some (.int (nI 101)), some (.int (nI 101)), some (.int (nI 107)), some (.int (nI 0)), some (.int (nI 0)), some (.int (nI 1)), some (.int (nI 2))]) dX11_spells_113 rfl (Nat.le_of_ble_eq_true rfl) rfl ?_
  refine gj_goto (tgt := 26) dX11_spells_116 rfl ?_
  refine gj_iload dX11_spells_26 rfl ?_
  refine gj_iload_n dX11_spells_28 rfl ?_
  refine gj_icmp_geN (tgt := 119) (by omega) (by omega) dX11_spells_29 rfl (fun zq0 => ?_) (fun zq0 => ?_)
  · exfalso; omega
  refine gj_iload dX11_spells_32 rfl ?_
  refine gj_if_eqN (tgt := 119) (by omega) dX11_spells_34 rfl (fun zq0 => ?_) (fun zq0 => ?_)
  · exfalso; revert zq0; decide
  refine gj_aload_n dX11_spells_37 rfl ?_
  refine gfX11_33 rfl dX11_spells_38 H0 rfl ?_
  refine gj_aload_n dX11_spells_41 rfl ?_
  refine gfX11_242 rfl dX11_spells_42 H0 rfl ?_
  refine gj_iload dX11_spells_45 rfl ?_
  refine gj_iaddN  dX11_spells_47 ?_
  refine gj_ialdN dX11_spells_48 HB (by omega) (by omega) ?_
  have hb42 := hB (sp_ss B y2 t + 2)
  refine gj_iload dX11_spells_49 rfl ?_
  refine gj_if_neN (tgt := 58) (by omega) dX11_spells_51 rfl (fun zq0 => ?_) (fun zq0 => ?_)
  rotate_left
  · exfalso; revert zq0; decide
  refine gj_iload dX11_spells_58 rfl ?_
  refine gj_ic (w := 1) dX11_spells_60 ?_
  refine gj_icmp_neN (tgt := 68) (by omega) (by omega) dX11_spells_61 rfl (fun zq0 => ?_) (fun zq0 => ?_)
  rotate_left
  · exfalso; omega
  refine gj_iload dX11_spells_68 rfl ?_
  refine gj_ic (w := 2) dX11_spells_70 ?_
  refine gj_icmp_neN (tgt := 79) (by omega) (by omega) dX11_spells_71 rfl (fun zq0 => ?_) (fun zq0 => ?_)
  · exfalso; omega
  refine gj_iload dX11_spells_74 rfl ?_
  refine gj_goto (tgt := 103) dX11_spells_76 rfl ?_
  refine gj_icmp_neN (tgt := 110) (by omega) (by omega) dX11_spells_103 rfl (fun zq5 => ?_) (fun zq5 => ?_)
  · -- 103 taken
    have hc2 : decide (B (sp_ss B y2 t + 2) = 101) = false := decide_eq_false zq5
    refine gj_ic (w := 0) dX11_spells_110 ?_
    refine gj_istore (L' := [some (.ref 100), some (.int (nI 4)), some (.int (nI 119)), some (.int (nI 101)), some (.int (nI 101)), some (.int (nI 107)), some (.int (nI 0)), some (.int (nI 0)), some (.int (nI 0)), some (.int (nI 2))]) dX11_spells_111 (Nat.le_of_ble_eq_true rfl) rfl ?_
    refine gj_iincN (L' := [some (.ref 100), some (.int (nI 4)), some (.int (nI 119)), some (.int (nI 101)), some (.int (nI 101)), some (.int (nI 107)), some (.int (nI 0)), some (.int (nI 0)), some (.int (nI 0)), some (.int (nI 3))]) dX11_spells_113 rfl (Nat.le_of_ble_eq_true rfl) rfl ?_
    refine gj_goto (tgt := 26) dX11_spells_116 rfl ?_
    refine gj_iload dX11_spells_26 rfl ?_
    refine gj_iload_n dX11_spells_28 rfl ?_
    refine gj_icmp_geN (tgt := 119) (by omega) (by omega) dX11_spells_29 rfl (fun zq0 => ?_) (fun zq0 => ?_)
    · exfalso; omega
    refine gj_iload dX11_spells_32 rfl ?_
    refine gj_if_eqN (tgt := 119) (by omega) dX11_spells_34 rfl (fun zq0 => ?_) (fun zq0 => ?_)
    rotate_left
    · exfalso; revert zq0; decide
    refine gj_iload dX11_spells_119 rfl ?_
    exact gj_zr rfl dX11_spells_121 rfl (mj_b0 (by first | rw [hA9, hL9, hc0, hc1, hc2, hc3]; rfl | rw [hA9, hL9, hc0, hc1, hc2]; rfl | rw [hA9, hL9, hc0, hc1]; rfl | rw [hA9, hL9, hc0]; rfl | rw [hA9, hL9]; rfl | rw [hA9]; rfl)) rfl
  have hc2 : decide (B (sp_ss B y2 t + 2) = 101) = true := decide_eq_true zq5
  refine gj_ic (w := 1) dX11_spells_106 ?_
  refine gj_goto (tgt := 111) dX11_spells_107 rfl ?_
  refine gj_istore (L' := [some (.ref 100), some (.int (nI 4)), some (.int (nI 119)), some (.int (nI 101)), some (.int (nI 101)), some (.int (nI 107)), some (.int (nI 0)), some (.int (nI 0)), some (.int (nI 1)), some (.int (nI 2))]) dX11_spells_111 (Nat.le_of_ble_eq_true rfl) rfl ?_
  refine gj_iincN (L' := [some (.ref 100), some (.int (nI 4)), some (.int (nI 119)), some (.int (nI 101)), some (.int (nI 101)), some (.int (nI 107)), some (.int (nI 0)), some (.int (nI 0)), some (.int (nI 1)), some (.int (nI 3))]) dX11_spells_113 rfl (Nat.le_of_ble_eq_true rfl) rfl ?_
  refine gj_goto (tgt := 26) dX11_spells_116 rfl ?_
  refine gj_iload dX11_spells_26 rfl ?_
  refine gj_iload_n dX11_spells_28 rfl ?_
  refine gj_icmp_geN (tgt := 119) (by omega) (by omega) dX11_spells_29 rfl (fun zq0 => ?_) (fun zq0 => ?_)
  · exfalso; omega
  refine gj_iload dX11_spells_32 rfl ?_
  refine gj_if_eqN (tgt := 119) (by omega) dX11_spells_34 rfl (fun zq0 => ?_) (fun zq0 => ?_)
  · exfalso; revert zq0; decide
  refine gj_aload_n dX11_spells_37 rfl ?_
  refine gfX11_33 rfl dX11_spells_38 H0 rfl ?_
  refine gj_aload_n dX11_spells_41 rfl ?_
  refine gfX11_242 rfl dX11_spells_42 H0 rfl ?_
  refine gj_iload dX11_spells_45 rfl ?_
  refine gj_iaddN  dX11_spells_47 ?_
  refine gj_ialdN dX11_spells_48 HB (by omega) (by omega) ?_
  have hb43 := hB (sp_ss B y2 t + 3)
  refine gj_iload dX11_spells_49 rfl ?_
  refine gj_if_neN (tgt := 58) (by omega) dX11_spells_51 rfl (fun zq0 => ?_) (fun zq0 => ?_)
  rotate_left
  · exfalso; revert zq0; decide
  refine gj_iload dX11_spells_58 rfl ?_
  refine gj_ic (w := 1) dX11_spells_60 ?_
  refine gj_icmp_neN (tgt := 68) (by omega) (by omega) dX11_spells_61 rfl (fun zq0 => ?_) (fun zq0 => ?_)
  rotate_left
  · exfalso; omega
  refine gj_iload dX11_spells_68 rfl ?_
  refine gj_ic (w := 2) dX11_spells_70 ?_
  refine gj_icmp_neN (tgt := 79) (by omega) (by omega) dX11_spells_71 rfl (fun zq0 => ?_) (fun zq0 => ?_)
  rotate_left
  · exfalso; omega
  refine gj_iload dX11_spells_79 rfl ?_
  refine gj_ic (w := 3) dX11_spells_81 ?_
  refine gj_icmp_neN (tgt := 90) (by omega) (by omega) dX11_spells_82 rfl (fun zq0 => ?_) (fun zq0 => ?_)
  · exfalso; omega
  refine gj_iload dX11_spells_85 rfl ?_
  refine gj_goto (tgt := 103) dX11_spells_87 rfl ?_
  refine gj_icmp_neN (tgt := 110) (by omega) (by omega) dX11_spells_103 rfl (fun zq6 => ?_) (fun zq6 => ?_)
  · -- 103 taken
    have hc3 : decide (B (sp_ss B y2 t + 3) = 107) = false := decide_eq_false zq6
    refine gj_ic (w := 0) dX11_spells_110 ?_
    refine gj_istore (L' := [some (.ref 100), some (.int (nI 4)), some (.int (nI 119)), some (.int (nI 101)), some (.int (nI 101)), some (.int (nI 107)), some (.int (nI 0)), some (.int (nI 0)), some (.int (nI 0)), some (.int (nI 3))]) dX11_spells_111 (Nat.le_of_ble_eq_true rfl) rfl ?_
    refine gj_iincN (L' := [some (.ref 100), some (.int (nI 4)), some (.int (nI 119)), some (.int (nI 101)), some (.int (nI 101)), some (.int (nI 107)), some (.int (nI 0)), some (.int (nI 0)), some (.int (nI 0)), some (.int (nI 4))]) dX11_spells_113 rfl (Nat.le_of_ble_eq_true rfl) rfl ?_
    refine gj_goto (tgt := 26) dX11_spells_116 rfl ?_
    refine gj_iload dX11_spells_26 rfl ?_
    refine gj_iload_n dX11_spells_28 rfl ?_
    refine gj_icmp_geN (tgt := 119) (by omega) (by omega) dX11_spells_29 rfl (fun zq0 => ?_) (fun zq0 => ?_)
    rotate_left
    · exfalso; omega
    refine gj_iload dX11_spells_119 rfl ?_
    exact gj_zr rfl dX11_spells_121 rfl (mj_b0 (by first | rw [hA9, hL9, hc0, hc1, hc2, hc3]; rfl | rw [hA9, hL9, hc0, hc1, hc2]; rfl | rw [hA9, hL9, hc0, hc1]; rfl | rw [hA9, hL9, hc0]; rfl | rw [hA9, hL9]; rfl | rw [hA9]; rfl)) rfl
  have hc3 : decide (B (sp_ss B y2 t + 3) = 107) = true := decide_eq_true zq6
  refine gj_ic (w := 1) dX11_spells_106 ?_
  refine gj_goto (tgt := 111) dX11_spells_107 rfl ?_
  refine gj_istore (L' := [some (.ref 100), some (.int (nI 4)), some (.int (nI 119)), some (.int (nI 101)), some (.int (nI 101)), some (.int (nI 107)), some (.int (nI 0)), some (.int (nI 0)), some (.int (nI 1)), some (.int (nI 3))]) dX11_spells_111 (Nat.le_of_ble_eq_true rfl) rfl ?_
  refine gj_iincN (L' := [some (.ref 100), some (.int (nI 4)), some (.int (nI 119)), some (.int (nI 101)), some (.int (nI 101)), some (.int (nI 107)), some (.int (nI 0)), some (.int (nI 0)), some (.int (nI 1)), some (.int (nI 4))]) dX11_spells_113 rfl (Nat.le_of_ble_eq_true rfl) rfl ?_
  refine gj_goto (tgt := 26) dX11_spells_116 rfl ?_
  refine gj_iload dX11_spells_26 rfl ?_
  refine gj_iload_n dX11_spells_28 rfl ?_
  refine gj_icmp_geN (tgt := 119) (by omega) (by omega) dX11_spells_29 rfl (fun zq0 => ?_) (fun zq0 => ?_)
  rotate_left
  · exfalso; omega
  refine gj_iload dX11_spells_119 rfl ?_
  exact gj_zr rfl dX11_spells_121 rfl (mj_b1 (by first | rw [hA9, hL9, hc0, hc1, hc2, hc3]; rfl | rw [hA9, hL9, hc0, hc1, hc2]; rfl | rw [hA9, hL9, hc0, hc1]; rfl | rw [hA9, hL9, hc0]; rfl | rw [hA9, hL9]; rfl | rw [hA9]; rfl)) rfl
theorem sp_spq2 {B : Nat → Nat} {n t : Nat} (hB : ∀ c, B c ≤ 127) : (sp_xkt B n t = 1 ∧ (sp_ps B n (t + 1) - sp_ss B n t = 4 ∧ B (sp_ss B n t + 0) = 119 ∧ B (sp_ss B n t + 1) = 101 ∧ B (sp_ss B n t + 2) = 101 ∧ B (sp_ss B n t + 3) = 107)) ↔ sp_tt B n t = 4294967290 := by
  have g1 := hB (sp_ss B n t)
  have g2 := hB (sp_ss B n t + 1)
  unfold sp_xkt sp_tt sp_xk sp_tk sp_nvl sp_ba
  by_cases q : n ≤ sp_ss B n t
  · rw [if_pos q, if_pos q]; exact ⟨fun z => absurd z.1 (by decide), fun z => absurd z (by decide)⟩
  rw [if_neg q, if_neg q, if_pos (Nat.not_le.mp q)]
  by_cases q1 : 97 ≤ B (sp_ss B n t) ∧ B (sp_ss B n t) ≤ 122
  · rw [if_pos q1, if_pos q1, ← sp_wt_2]
    exact ⟨fun z => z.2, fun z => ⟨rfl, z⟩⟩
  rw [if_neg q1, if_neg q1]
  refine ⟨fun z => ?_, fun z => ?_⟩
  · exact absurd z.2.2.1 (by rw [Nat.add_zero]; omega)
  · exfalso; revert z; (repeat' split) <;> omega
theorem sp_spl2 {B : Nat → Nat} {n t : Nat} (hB : ∀ c, B c ≤ 127) : (decide (sp_xkt B n t = 1) && (decide (sp_ps B n (t + 1) - sp_ss B n t = 4) && (decide (B (sp_ss B n t + 0) = 119) && (decide (B (sp_ss B n t + 1) = 101) && (decide (B (sp_ss B n t + 2) = 101) && decide (B (sp_ss B n t + 3) = 107)))))) = decide (sp_tt B n t = 4294967290) := by
  rw [Bool.eq_iff_iff]
  simp only [Bool.and_eq_true, decide_eq_true_eq]
  exact sp_spq2 hB
set_option maxHeartbeats 1000000 in
set_option maxRecDepth 10000 in
theorem ev_X11_spells_w3 {E : mj_E} {h : mj_H} {a0 a1 y2 t : Nat} {B : Nat → Nat} (H0 : h 100 = some (mj_mo a0 a1 y2 (sp_ss B y2 t) (sp_ps B y2 (t + 1) - sp_ss B y2 t) (sp_xkt B y2 t) (sp_xvt B y2 t))) (HB : h 107 = some (mj_ar 150 B)) (h0 : ∀ c, B c ≤ 127) (h1 : y2 ≤ 150) : mj_Ev E iX11_spells [.ref 100, .int (nI 5), .int (nI 118), .int (nI 111), .int (nI 116), .int (nI 101), .int (nI 114), .int (nI 0)] h (mj_R (some (.int (mj_b (decide (sp_xkt B y2 t = 1) && (decide (sp_ps B y2 (t + 1) - sp_ss B y2 t = 5) && (decide (B (sp_ss B y2 t + 0) = 118) && (decide (B (sp_ss B y2 t + 1) = 111) && (decide (B (sp_ss B y2 t + 2) = 116) && (decide (B (sp_ss B y2 t + 3) = 101) && decide (B (sp_ss B y2 t + 4) = 114)))))))))) h) := by
  have hB := h0
  refine mj_Ev.of (L0 := [some (.ref 100), some (.int (nI 5)), some (.int (nI 118)), some (.int (nI 111)), some (.int (nI 116)), some (.int (nI 101)), some (.int (nI 114)), some (.int (nI 0)), none, none]) pnRX11 (Nat.le_of_ble_eq_true rfl) rfl ?_
  refine gj_aload_n dX11_spells_0 rfl ?_
  refine gfX11_248 rfl dX11_spells_1 H0 rfl ?_
  have hxl := @sp_xkt_le B y2 t
  have hps := @sp_ps_le B y2 (t + 1)
  refine gj_ic (w := 1) dX11_spells_4 ?_
  refine gj_icmp_neN (tgt := 20) (by omega) (by omega) dX11_spells_5 rfl (fun zq1 => ?_) (fun zq1 => ?_)
  · -- 5 taken
    have hA9 : decide (sp_xkt B y2 t = 1) = false := decide_eq_false zq1
    refine gj_ic (w := 0) dX11_spells_20 ?_
    refine gj_istore (L' := [some (.ref 100), some (.int (nI 5)), some (.int (nI 118)), some (.int (nI 111)), some (.int (nI 116)), some (.int (nI 101)), some (.int (nI 114)), some (.int (nI 0)), some (.int (nI 0)), none]) dX11_spells_21 (Nat.le_of_ble_eq_true rfl) rfl ?_
    refine gj_ic (w := 0) dX11_spells_23 ?_
    refine gj_istore (L' := [some (.ref 100), some (.int (nI 5)), some (.int (nI 118)), some (.int (nI 111)), some (.int (nI 116)), some (.int (nI 101)), some (.int (nI 114)), some (.int (nI 0)), some (.int (nI 0)), some (.int (nI 0))]) dX11_spells_24 (Nat.le_of_ble_eq_true rfl) rfl ?_
    refine gj_iload dX11_spells_26 rfl ?_
    refine gj_iload_n dX11_spells_28 rfl ?_
    refine gj_icmp_geN (tgt := 119) (by omega) (by omega) dX11_spells_29 rfl (fun zq0 => ?_) (fun zq0 => ?_)
    · exfalso; omega
    refine gj_iload dX11_spells_32 rfl ?_
    refine gj_if_eqN (tgt := 119) (by omega) dX11_spells_34 rfl (fun zq0 => ?_) (fun zq0 => ?_)
    rotate_left
    · exfalso; revert zq0; decide
    refine gj_iload dX11_spells_119 rfl ?_
    exact gj_zr rfl dX11_spells_121 rfl (mj_b0 (by first | rw [hA9, hL9, hc0, hc1, hc2, hc3, hc4]; rfl | rw [hA9, hL9, hc0, hc1, hc2, hc3]; rfl | rw [hA9, hL9, hc0, hc1, hc2]; rfl | rw [hA9, hL9, hc0, hc1]; rfl | rw [hA9, hL9, hc0]; rfl | rw [hA9, hL9]; rfl | rw [hA9]; rfl)) rfl
  have hA9 : decide (sp_xkt B y2 t = 1) = true := decide_eq_true zq1
  refine gj_aload_n dX11_spells_8 rfl ?_
  refine gfX11_245 rfl dX11_spells_9 H0 rfl ?_
  refine gj_iload_n dX11_spells_12 rfl ?_
  refine gj_icmp_neN (tgt := 20) (by omega) (by omega) dX11_spells_13 rfl (fun zq2 => ?_) (fun zq2 => ?_)
  · -- 13 taken
    have hL9 : decide (sp_ps B y2 (t + 1) - sp_ss B y2 t = 5) = false := decide_eq_false zq2
    refine gj_ic (w := 0) dX11_spells_20 ?_
    refine gj_istore (L' := [some (.ref 100), some (.int (nI 5)), some (.int (nI 118)), some (.int (nI 111)), some (.int (nI 116)), some (.int (nI 101)), some (.int (nI 114)), some (.int (nI 0)), some (.int (nI 0)), none]) dX11_spells_21 (Nat.le_of_ble_eq_true rfl) rfl ?_
    refine gj_ic (w := 0) dX11_spells_23 ?_
    refine gj_istore (L' := [some (.ref 100), some (.int (nI 5)), some (.int (nI 118)), some (.int (nI 111)), some (.int (nI 116)), some (.int (nI 101)), some (.int (nI 114)), some (.int (nI 0)), some (.int (nI 0)), some (.int (nI 0))]) dX11_spells_24 (Nat.le_of_ble_eq_true rfl) rfl ?_
    refine gj_iload dX11_spells_26 rfl ?_
    refine gj_iload_n dX11_spells_28 rfl ?_
    refine gj_icmp_geN (tgt := 119) (by omega) (by omega) dX11_spells_29 rfl (fun zq0 => ?_) (fun zq0 => ?_)
    · exfalso; omega
    refine gj_iload dX11_spells_32 rfl ?_
    refine gj_if_eqN (tgt := 119) (by omega) dX11_spells_34 rfl (fun zq0 => ?_) (fun zq0 => ?_)
    rotate_left
    · exfalso; revert zq0; decide
    refine gj_iload dX11_spells_119 rfl ?_
    exact gj_zr rfl dX11_spells_121 rfl (mj_b0 (by first | rw [hA9, hL9, hc0, hc1, hc2, hc3, hc4]; rfl | rw [hA9, hL9, hc0, hc1, hc2, hc3]; rfl | rw [hA9, hL9, hc0, hc1, hc2]; rfl | rw [hA9, hL9, hc0, hc1]; rfl | rw [hA9, hL9, hc0]; rfl | rw [hA9, hL9]; rfl | rw [hA9]; rfl)) rfl
  have hL9 : decide (sp_ps B y2 (t + 1) - sp_ss B y2 t = 5) = true := decide_eq_true zq2
  refine gj_ic (w := 1) dX11_spells_16 ?_
  refine gj_goto (tgt := 21) dX11_spells_17 rfl ?_
  refine gj_istore (L' := [some (.ref 100), some (.int (nI 5)), some (.int (nI 118)), some (.int (nI 111)), some (.int (nI 116)), some (.int (nI 101)), some (.int (nI 114)), some (.int (nI 0)), some (.int (nI 1)), none]) dX11_spells_21 (Nat.le_of_ble_eq_true rfl) rfl ?_
  refine gj_ic (w := 0) dX11_spells_23 ?_
  refine gj_istore (L' := [some (.ref 100), some (.int (nI 5)), some (.int (nI 118)), some (.int (nI 111)), some (.int (nI 116)), some (.int (nI 101)), some (.int (nI 114)), some (.int (nI 0)), some (.int (nI 1)), some (.int (nI 0))]) dX11_spells_24 (Nat.le_of_ble_eq_true rfl) rfl ?_
  refine gj_iload dX11_spells_26 rfl ?_
  refine gj_iload_n dX11_spells_28 rfl ?_
  refine gj_icmp_geN (tgt := 119) (by omega) (by omega) dX11_spells_29 rfl (fun zq0 => ?_) (fun zq0 => ?_)
  · exfalso; omega
  refine gj_iload dX11_spells_32 rfl ?_
  refine gj_if_eqN (tgt := 119) (by omega) dX11_spells_34 rfl (fun zq0 => ?_) (fun zq0 => ?_)
  · exfalso; revert zq0; decide
  refine gj_aload_n dX11_spells_37 rfl ?_
  refine gfX11_33 rfl dX11_spells_38 H0 rfl ?_
  refine gj_aload_n dX11_spells_41 rfl ?_
  refine gfX11_242 rfl dX11_spells_42 H0 rfl ?_
  refine gj_iload dX11_spells_45 rfl ?_
  refine gj_iaddN  dX11_spells_47 ?_
  refine gj_ialdN dX11_spells_48 HB (by omega) (by omega) ?_
  have hb40 := hB (sp_ss B y2 t + 0)
  refine gj_iload dX11_spells_49 rfl ?_
  refine gj_if_neN (tgt := 58) (by omega) dX11_spells_51 rfl (fun zq0 => ?_) (fun zq0 => ?_)
  · exfalso; revert zq0; decide
  refine gj_iload_n dX11_spells_54 rfl ?_
  refine gj_goto (tgt := 103) dX11_spells_55 rfl ?_
  refine gj_icmp_neN (tgt := 110) (by omega) (by omega) dX11_spells_103 rfl (fun zq3 => ?_) (fun zq3 => ?_)
  · -- 103 taken
    have hc0 : decide (B (sp_ss B y2 t + 0) = 118) = false := decide_eq_false zq3
    refine gj_ic (w := 0) dX11_spells_110 ?_
    refine gj_istore (L' := [some (.ref 100), some (.int (nI 5)), some (.int (nI 118)), some (.int (nI 111)), some (.int (nI 116)), some (.int (nI 101)), some (.int (nI 114)), some (.int (nI 0)), some (.int (nI 0)), some (.int (nI 0))]) dX11_spells_111 (Nat.le_of_ble_eq_true rfl) rfl ?_
    refine gj_iincN (L' := [some (.ref 100), some (.int (nI 5)), some (.int (nI 118)), some (.int (nI 111)), some (.int (nI 116)), some (.int (nI 101)), some (.int (nI 114)), some (.int (nI 0)), some (.int (nI 0)), some (.int (nI 1))]) dX11_spells_113 rfl (Nat.le_of_ble_eq_true rfl) rfl ?_
    refine gj_goto (tgt := 26) dX11_spells_116 rfl ?_
    refine gj_iload dX11_spells_26 rfl ?_
    refine gj_iload_n dX11_spells_28 rfl ?_
    refine gj_icmp_geN (tgt := 119) (by omega) (by omega) dX11_spells_29 rfl (fun zq0 => ?_) (fun zq0 => ?_)
    · exfalso; omega
    refine gj_iload dX11_spells_32 rfl ?_
    refine gj_if_eqN (tgt := 119) (by omega) dX11_spells_34 rfl (fun zq0 => ?_) (fun zq0 => ?_)
    rotate_left
    · exfalso; revert zq0; decide
    refine gj_iload dX11_spells_119 rfl ?_
    exact gj_zr rfl dX11_spells_121 rfl (mj_b0 (by first | rw [hA9, hL9, hc0, hc1, hc2, hc3, hc4]; rfl | rw [hA9, hL9, hc0, hc1, hc2, hc3]; rfl | rw [hA9, hL9, hc0, hc1, hc2]; rfl | rw [hA9, hL9, hc0, hc1]; rfl | rw [hA9, hL9, hc0]; rfl | rw [hA9, hL9]; rfl | rw [hA9]; rfl)) rfl
  have hc0 : decide (B (sp_ss B y2 t + 0) = 118) = true := decide_eq_true zq3
  refine gj_ic (w := 1) dX11_spells_106 ?_
  refine gj_goto (tgt := 111) dX11_spells_107 rfl ?_
  refine gj_istore (L' := [some (.ref 100), some (.int (nI 5)), some (.int (nI 118)), some (.int (nI 111)), some (.int (nI 116)), some (.int (nI 101)), some (.int (nI 114)), some (.int (nI 0)), some (.int (nI 1)), some (.int (nI 0))]) dX11_spells_111 (Nat.le_of_ble_eq_true rfl) rfl ?_
  refine gj_iincN (L' := [some (.ref 100), some (.int (nI 5)), some (.int (nI 118)), some (.int (nI 111)), some (.int (nI 116)), some (.int (nI 101)), some (.int (nI 114)), some (.int (nI 0)), some (.int (nI 1)), some (.int (nI 1))]) dX11_spells_113 rfl (Nat.le_of_ble_eq_true rfl) rfl ?_
  refine gj_goto (tgt := 26) dX11_spells_116 rfl ?_
  refine gj_iload dX11_spells_26 rfl ?_
  refine gj_iload_n dX11_spells_28 rfl ?_
  refine gj_icmp_geN (tgt := 119) (by omega) (by omega) dX11_spells_29 rfl (fun zq0 => ?_) (fun zq0 => ?_)
  · exfalso; omega
  refine gj_iload dX11_spells_32 rfl ?_
  refine gj_if_eqN (tgt := 119) (by omega) dX11_spells_34 rfl (fun zq0 => ?_) (fun zq0 => ?_)
  · exfalso; revert zq0; decide
  refine gj_aload_n dX11_spells_37 rfl ?_
  refine gfX11_33 rfl dX11_spells_38 H0 rfl ?_
  refine gj_aload_n dX11_spells_41 rfl ?_
  refine gfX11_242 rfl dX11_spells_42 H0 rfl ?_
  refine gj_iload dX11_spells_45 rfl ?_
  refine gj_iaddN  dX11_spells_47 ?_
  refine gj_ialdN dX11_spells_48 HB (by omega) (by omega) ?_
  have hb41 := hB (sp_ss B y2 t + 1)
  refine gj_iload dX11_spells_49 rfl ?_
  refine gj_if_neN (tgt := 58) (by omega) dX11_spells_51 rfl (fun zq0 => ?_) (fun zq0 => ?_)
  rotate_left
  · exfalso; revert zq0; decide
  refine gj_iload dX11_spells_58 rfl ?_
  refine gj_ic (w := 1) dX11_spells_60 ?_
  refine gj_icmp_neN (tgt := 68) (by omega) (by omega) dX11_spells_61 rfl (fun zq0 => ?_) (fun zq0 => ?_)
  · exfalso; omega
  refine gj_iload_n dX11_spells_64 rfl ?_
  refine gj_goto (tgt := 103) dX11_spells_65 rfl ?_
  refine gj_icmp_neN (tgt := 110) (by omega) (by omega) dX11_spells_103 rfl (fun zq4 => ?_) (fun zq4 => ?_)
  · -- 103 taken
    have hc1 : decide (B (sp_ss B y2 t + 1) = 111) = false := decide_eq_false zq4
    refine gj_ic (w := 0) dX11_spells_110 ?_
    refine gj_istore (L' := [some (.ref 100), some (.int (nI 5)), some (.int (nI 118)), some (.int (nI 111)), some (.int (nI 116)), some (.int (nI 101)), some (.int (nI 114)), some (.int (nI 0)), some (.int (nI 0)), some (.int (nI 1))]) dX11_spells_111 (Nat.le_of_ble_eq_true rfl) rfl ?_
    refine gj_iincN (L' := [some (.ref 100), some (.int (nI 5)), some (.int (nI 118)), some (.int (nI 111)), some (.int (nI 116)), some (.int (nI 101)), some (.int (nI 114)), some (.int (nI 0)), some (.int (nI 0)), some (.int (nI 2))]) dX11_spells_113 rfl (Nat.le_of_ble_eq_true rfl) rfl ?_
    refine gj_goto (tgt := 26) dX11_spells_116 rfl ?_
    refine gj_iload dX11_spells_26 rfl ?_
    refine gj_iload_n dX11_spells_28 rfl ?_
    refine gj_icmp_geN (tgt := 119) (by omega) (by omega) dX11_spells_29 rfl (fun zq0 => ?_) (fun zq0 => ?_)
    · exfalso; omega
    refine gj_iload dX11_spells_32 rfl ?_
    refine gj_if_eqN (tgt := 119) (by omega) dX11_spells_34 rfl (fun zq0 => ?_) (fun zq0 => ?_)
    rotate_left
    · exfalso; revert zq0; decide
    refine gj_iload dX11_spells_119 rfl ?_
    exact gj_zr rfl dX11_spells_121 rfl (mj_b0 (by first | rw [hA9, hL9, hc0, hc1, hc2, hc3, hc4]; rfl | rw [hA9, hL9, hc0, hc1, hc2, hc3]; rfl | rw [hA9, hL9, hc0, hc1, hc2]; rfl | rw [hA9, hL9, hc0, hc1]; rfl | rw [hA9, hL9, hc0]; rfl | rw [hA9, hL9]; rfl | rw [hA9]; rfl)) rfl
  have hc1 : decide (B (sp_ss B y2 t + 1) = 111) = true := decide_eq_true zq4
  refine gj_ic (w := 1) dX11_spells_106 ?_
  refine gj_goto (tgt := 111) dX11_spells_107 rfl ?_
  refine gj_istore (L' := [some (.ref 100), some (.int (nI 5)), some (.int (nI 118)), some (.int (nI 111)), some (.int (nI 116)), some (.int (nI 101)), some (.int (nI 114)), some (.int (nI 0)), some (.int (nI 1)), some (.int (nI 1))]) dX11_spells_111 (Nat.le_of_ble_eq_true rfl) rfl ?_
  refine gj_iincN (L' := [some (.ref 100), some (.int (nI 5)), some (.int (nI 118)), some (.int (nI 111)), some (.int (nI 116)), some (.int (nI 101)), some (.int (nI 114)), some (.int (nI 0)), some (.int (nI 1)), some (.int (nI 2))]) dX11_spells_113 rfl (Nat.le_of_ble_eq_true rfl) rfl ?_
  refine gj_goto (tgt := 26) dX11_spells_116 rfl ?_
  refine gj_iload dX11_spells_26 rfl ?_
  refine gj_iload_n dX11_spells_28 rfl ?_
  refine gj_icmp_geN (tgt := 119) (by omega) (by omega) dX11_spells_29 rfl (fun zq0 => ?_) (fun zq0 => ?_)
  · exfalso; omega
  refine gj_iload dX11_spells_32 rfl ?_
  refine gj_if_eqN (tgt := 119) (by omega) dX11_spells_34 rfl (fun zq0 => ?_) (fun zq0 => ?_)
  · exfalso; revert zq0; decide
  refine gj_aload_n dX11_spells_37 rfl ?_
  refine gfX11_33 rfl dX11_spells_38 H0 rfl ?_
  refine gj_aload_n dX11_spells_41 rfl ?_
  refine gfX11_242 rfl dX11_spells_42 H0 rfl ?_
  refine gj_iload dX11_spells_45 rfl ?_
  refine gj_iaddN  dX11_spells_47 ?_
  refine gj_ialdN dX11_spells_48 HB (by omega) (by omega) ?_
  have hb42 := hB (sp_ss B y2 t + 2)
  refine gj_iload dX11_spells_49 rfl ?_
  refine gj_if_neN (tgt := 58) (by omega) dX11_spells_51 rfl (fun zq0 => ?_) (fun zq0 => ?_)
  rotate_left
  · exfalso; revert zq0; decide
  refine gj_iload dX11_spells_58 rfl ?_
  refine gj_ic (w := 1) dX11_spells_60 ?_
  refine gj_icmp_neN (tgt := 68) (by omega) (by omega) dX11_spells_61 rfl (fun zq0 => ?_) (fun zq0 => ?_)
  rotate_left
  · exfalso; omega
  refine gj_iload dX11_spells_68 rfl ?_
  refine gj_ic (w := 2) dX11_spells_70 ?_
  refine gj_icmp_neN (tgt := 79) (by omega) (by omega) dX11_spells_71 rfl (fun zq0 => ?_) (fun zq0 => ?_)
  · exfalso; omega
  refine gj_iload dX11_spells_74 rfl ?_
  refine gj_goto (tgt := 103) dX11_spells_76 rfl ?_
  refine gj_icmp_neN (tgt := 110) (by omega) (by omega) dX11_spells_103 rfl (fun zq5 => ?_) (fun zq5 => ?_)
  · -- 103 taken
    have hc2 : decide (B (sp_ss B y2 t + 2) = 116) = false := decide_eq_false zq5
    refine gj_ic (w := 0) dX11_spells_110 ?_
    refine gj_istore (L' := [some (.ref 100), some (.int (nI 5)), some (.int (nI 118)), some (.int (nI 111)), some (.int (nI 116)), some (.int (nI 101)), some (.int (nI 114)), some (.int (nI 0)), some (.int (nI 0)), some (.int (nI 2))]) dX11_spells_111 (Nat.le_of_ble_eq_true rfl) rfl ?_
    refine gj_iincN (L' := [some (.ref 100), some (.int (nI 5)), some (.int (nI 118)), some (.int (nI 111)), some (.int (nI 116)), some (.int (nI 101)), some (.int (nI 114)), some (.int (nI 0)), some (.int (nI 0)), some (.int (nI 3))]) dX11_spells_113 rfl (Nat.le_of_ble_eq_true rfl) rfl ?_
    refine gj_goto (tgt := 26) dX11_spells_116 rfl ?_
    refine gj_iload dX11_spells_26 rfl ?_
    refine gj_iload_n dX11_spells_28 rfl ?_
    refine gj_icmp_geN (tgt := 119) (by omega) (by omega) dX11_spells_29 rfl (fun zq0 => ?_) (fun zq0 => ?_)
    · exfalso; omega
    refine gj_iload dX11_spells_32 rfl ?_
    refine gj_if_eqN (tgt := 119) (by omega) dX11_spells_34 rfl (fun zq0 => ?_) (fun zq0 => ?_)
    rotate_left
    · exfalso; revert zq0; decide
    refine gj_iload dX11_spells_119 rfl ?_
    exact gj_zr rfl dX11_spells_121 rfl (mj_b0 (by first | rw [hA9, hL9, hc0, hc1, hc2, hc3, hc4]; rfl | rw [hA9, hL9, hc0, hc1, hc2, hc3]; rfl | rw [hA9, hL9, hc0, hc1, hc2]; rfl | rw [hA9, hL9, hc0, hc1]; rfl | rw [hA9, hL9, hc0]; rfl | rw [hA9, hL9]; rfl | rw [hA9]; rfl)) rfl
  have hc2 : decide (B (sp_ss B y2 t + 2) = 116) = true := decide_eq_true zq5
  refine gj_ic (w := 1) dX11_spells_106 ?_
  refine gj_goto (tgt := 111) dX11_spells_107 rfl ?_
  refine gj_istore (L' := [some (.ref 100), some (.int (nI 5)), some (.int (nI 118)), some (.int (nI 111)), some (.int (nI 116)), some (.int (nI 101)), some (.int (nI 114)), some (.int (nI 0)), some (.int (nI 1)), some (.int (nI 2))]) dX11_spells_111 (Nat.le_of_ble_eq_true rfl) rfl ?_
  refine gj_iincN (L' := [some (.ref 100), some (.int (nI 5)), some (.int (nI 118)), some (.int (nI 111)), some (.int (nI 116)), some (.int (nI 101)), some (.int (nI 114)), some (.int (nI 0)), some (.int (nI 1)), some (.int (nI 3))]) dX11_spells_113 rfl (Nat.le_of_ble_eq_true rfl) rfl ?_
  refine gj_goto (tgt := 26) dX11_spells_116 rfl ?_
  refine gj_iload dX11_spells_26 rfl ?_
  refine gj_iload_n dX11_spells_28 rfl ?_
  refine gj_icmp_geN (tgt := 119) (by omega) (by omega) dX11_spells_29 rfl (fun zq0 => ?_) (fun zq0 => ?_)
  · exfalso; omega
  refine gj_iload dX11_spells_32 rfl ?_
  refine gj_if_eqN (tgt := 119) (by omega) dX11_spells_34 rfl (fun zq0 => ?_) (fun zq0 => ?_)
  · exfalso; revert zq0; decide
  refine gj_aload_n dX11_spells_37 rfl ?_
  refine gfX11_33 rfl dX11_spells_38 H0 rfl ?_
  refine gj_aload_n dX11_spells_41 rfl ?_
  refine gfX11_242 rfl dX11_spells_42 H0 rfl ?_
  refine gj_iload dX11_spells_45 rfl ?_
  refine gj_iaddN  dX11_spells_47 ?_
  refine gj_ialdN dX11_spells_48 HB (by omega) (by omega) ?_
  have hb43 := hB (sp_ss B y2 t + 3)
  refine gj_iload dX11_spells_49 rfl ?_
  refine gj_if_neN (tgt := 58) (by omega) dX11_spells_51 rfl (fun zq0 => ?_) (fun zq0 => ?_)
  rotate_left
  · exfalso; revert zq0; decide
  refine gj_iload dX11_spells_58 rfl ?_
  refine gj_ic (w := 1) dX11_spells_60 ?_
  refine gj_icmp_neN (tgt := 68) (by omega) (by omega) dX11_spells_61 rfl (fun zq0 => ?_) (fun zq0 => ?_)
  rotate_left
  · exfalso; omega
  refine gj_iload dX11_spells_68 rfl ?_
  refine gj_ic (w := 2) dX11_spells_70 ?_
  refine gj_icmp_neN (tgt := 79) (by omega) (by omega) dX11_spells_71 rfl (fun zq0 => ?_) (fun zq0 => ?_)
  rotate_left
  · exfalso; omega
  refine gj_iload dX11_spells_79 rfl ?_
  refine gj_ic (w := 3) dX11_spells_81 ?_
  refine gj_icmp_neN (tgt := 90) (by omega) (by omega) dX11_spells_82 rfl (fun zq0 => ?_) (fun zq0 => ?_)
  · exfalso; omega
  refine gj_iload dX11_spells_85 rfl ?_
  refine gj_goto (tgt := 103) dX11_spells_87 rfl ?_
  refine gj_icmp_neN (tgt := 110) (by omega) (by omega) dX11_spells_103 rfl (fun zq6 => ?_) (fun zq6 => ?_)
  · -- 103 taken
    have hc3 : decide (B (sp_ss B y2 t + 3) = 101) = false := decide_eq_false zq6
    refine gj_ic (w := 0) dX11_spells_110 ?_
    refine gj_istore (L' := [some (.ref 100), some (.int (nI 5)), some (.int (nI 118)), some (.int (nI 111)), some (.int (nI 116)), some (.int (nI 101)), some (.int (nI 114)), some (.int (nI 0)), some (.int (nI 0)), some (.int (nI 3))]) dX11_spells_111 (Nat.le_of_ble_eq_true rfl) rfl ?_
    refine gj_iincN (L' := [some (.ref 100), some (.int (nI 5)), some (.int (nI 118)), some (.int (nI 111)), some (.int (nI 116)), some (.int (nI 101)), some (.int (nI 114)), some (.int (nI 0)), some (.int (nI 0)), some (.int (nI 4))]) dX11_spells_113 rfl (Nat.le_of_ble_eq_true rfl) rfl ?_
    refine gj_goto (tgt := 26) dX11_spells_116 rfl ?_
    refine gj_iload dX11_spells_26 rfl ?_
    refine gj_iload_n dX11_spells_28 rfl ?_
    refine gj_icmp_geN (tgt := 119) (by omega) (by omega) dX11_spells_29 rfl (fun zq0 => ?_) (fun zq0 => ?_)
    · exfalso; omega
    refine gj_iload dX11_spells_32 rfl ?_
    refine gj_if_eqN (tgt := 119) (by omega) dX11_spells_34 rfl (fun zq0 => ?_) (fun zq0 => ?_)
    rotate_left
    · exfalso; revert zq0; decide
    refine gj_iload dX11_spells_119 rfl ?_
    exact gj_zr rfl dX11_spells_121 rfl (mj_b0 (by first | rw [hA9, hL9, hc0, hc1, hc2, hc3, hc4]; rfl | rw [hA9, hL9, hc0, hc1, hc2, hc3]; rfl | rw [hA9, hL9, hc0, hc1, hc2]; rfl | rw [hA9, hL9, hc0, hc1]; rfl | rw [hA9, hL9, hc0]; rfl | rw [hA9, hL9]; rfl | rw [hA9]; rfl)) rfl
  have hc3 : decide (B (sp_ss B y2 t + 3) = 101) = true := decide_eq_true zq6
  refine gj_ic (w := 1) dX11_spells_106 ?_
  refine gj_goto (tgt := 111) dX11_spells_107 rfl ?_
  refine gj_istore (L' := [some (.ref 100), some (.int (nI 5)), some (.int (nI 118)), some (.int (nI 111)), some (.int (nI 116)), some (.int (nI 101)), some (.int (nI 114)), some (.int (nI 0)), some (.int (nI 1)), some (.int (nI 3))]) dX11_spells_111 (Nat.le_of_ble_eq_true rfl) rfl ?_
  refine gj_iincN (L' := [some (.ref 100), some (.int (nI 5)), some (.int (nI 118)), some (.int (nI 111)), some (.int (nI 116)), some (.int (nI 101)), some (.int (nI 114)), some (.int (nI 0)), some (.int (nI 1)), some (.int (nI 4))]) dX11_spells_113 rfl (Nat.le_of_ble_eq_true rfl) rfl ?_
  refine gj_goto (tgt := 26) dX11_spells_116 rfl ?_
  refine gj_iload dX11_spells_26 rfl ?_
  refine gj_iload_n dX11_spells_28 rfl ?_
  refine gj_icmp_geN (tgt := 119) (by omega) (by omega) dX11_spells_29 rfl (fun zq0 => ?_) (fun zq0 => ?_)
  · exfalso; omega
  refine gj_iload dX11_spells_32 rfl ?_
  refine gj_if_eqN (tgt := 119) (by omega) dX11_spells_34 rfl (fun zq0 => ?_) (fun zq0 => ?_)
  · exfalso; revert zq0; decide
  refine gj_aload_n dX11_spells_37 rfl ?_
  refine gfX11_33 rfl dX11_spells_38 H0 rfl ?_
  refine gj_aload_n dX11_spells_41 rfl ?_
  refine gfX11_242 rfl dX11_spells_42 H0 rfl ?_
  refine gj_iload dX11_spells_45 rfl ?_
  refine gj_iaddN  dX11_spells_47 ?_
  refine gj_ialdN dX11_spells_48 HB (by omega) (by omega) ?_
  have hb44 := hB (sp_ss B y2 t + 4)
  refine gj_iload dX11_spells_49 rfl ?_
  refine gj_if_neN (tgt := 58) (by omega) dX11_spells_51 rfl (fun zq0 => ?_) (fun zq0 => ?_)
  rotate_left
  · exfalso; revert zq0; decide
  refine gj_iload dX11_spells_58 rfl ?_
  refine gj_ic (w := 1) dX11_spells_60 ?_
  refine gj_icmp_neN (tgt := 68) (by omega) (by omega) dX11_spells_61 rfl (fun zq0 => ?_) (fun zq0 => ?_)
  rotate_left
  · exfalso; omega
  refine gj_iload dX11_spells_68 rfl ?_
  refine gj_ic (w := 2) dX11_spells_70 ?_
  refine gj_icmp_neN (tgt := 79) (by omega) (by omega) dX11_spells_71 rfl (fun zq0 => ?_) (fun zq0 => ?_)
  rotate_left
  · exfalso; omega
  refine gj_iload dX11_spells_79 rfl ?_
  refine gj_ic (w := 3) dX11_spells_81 ?_
  refine gj_icmp_neN (tgt := 90) (by omega) (by omega) dX11_spells_82 rfl (fun zq0 => ?_) (fun zq0 => ?_)
  rotate_left
  · exfalso; omega
  refine gj_iload dX11_spells_90 rfl ?_
  refine gj_ic (w := 4) dX11_spells_92 ?_
  refine gj_icmp_neN (tgt := 101) (by omega) (by omega) dX11_spells_93 rfl (fun zq0 => ?_) (fun zq0 => ?_)
  · exfalso; omega
  refine gj_iload dX11_spells_96 rfl ?_
  refine gj_goto (tgt := 103) dX11_spells_98 rfl ?_
  refine gj_icmp_neN (tgt := 110) (by omega) (by omega) dX11_spells_103 rfl (fun zq7 => ?_) (fun zq7 => ?_)
  · -- 103 taken
    have hc4 : decide (B (sp_ss B y2 t + 4) = 114) = false := decide_eq_false zq7
    refine gj_ic (w := 0) dX11_spells_110 ?_
    refine gj_istore (L' := [some (.ref 100), some (.int (nI 5)), some (.int (nI 118)), some (.int (nI 111)), some (.int (nI 116)), some (.int (nI 101)), some (.int (nI 114)), some (.int (nI 0)), some (.int (nI 0)), some (.int (nI 4))]) dX11_spells_111 (Nat.le_of_ble_eq_true rfl) rfl ?_
    refine gj_iincN (L' := [some (.ref 100), some (.int (nI 5)), some (.int (nI 118)), some (.int (nI 111)), some (.int (nI 116)), some (.int (nI 101)), some (.int (nI 114)), some (.int (nI 0)), some (.int (nI 0)), some (.int (nI 5))]) dX11_spells_113 rfl (Nat.le_of_ble_eq_true rfl) rfl ?_
    refine gj_goto (tgt := 26) dX11_spells_116 rfl ?_
    refine gj_iload dX11_spells_26 rfl ?_
    refine gj_iload_n dX11_spells_28 rfl ?_
    refine gj_icmp_geN (tgt := 119) (by omega) (by omega) dX11_spells_29 rfl (fun zq0 => ?_) (fun zq0 => ?_)
    rotate_left
    · exfalso; omega
    refine gj_iload dX11_spells_119 rfl ?_
    exact gj_zr rfl dX11_spells_121 rfl (mj_b0 (by first | rw [hA9, hL9, hc0, hc1, hc2, hc3, hc4]; rfl | rw [hA9, hL9, hc0, hc1, hc2, hc3]; rfl | rw [hA9, hL9, hc0, hc1, hc2]; rfl | rw [hA9, hL9, hc0, hc1]; rfl | rw [hA9, hL9, hc0]; rfl | rw [hA9, hL9]; rfl | rw [hA9]; rfl)) rfl
  have hc4 : decide (B (sp_ss B y2 t + 4) = 114) = true := decide_eq_true zq7
  refine gj_ic (w := 1) dX11_spells_106 ?_
  refine gj_goto (tgt := 111) dX11_spells_107 rfl ?_
  refine gj_istore (L' := [some (.ref 100), some (.int (nI 5)), some (.int (nI 118)), some (.int (nI 111)), some (.int (nI 116)), some (.int (nI 101)), some (.int (nI 114)), some (.int (nI 0)), some (.int (nI 1)), some (.int (nI 4))]) dX11_spells_111 (Nat.le_of_ble_eq_true rfl) rfl ?_
  refine gj_iincN (L' := [some (.ref 100), some (.int (nI 5)), some (.int (nI 118)), some (.int (nI 111)), some (.int (nI 116)), some (.int (nI 101)), some (.int (nI 114)), some (.int (nI 0)), some (.int (nI 1)), some (.int (nI 5))]) dX11_spells_113 rfl (Nat.le_of_ble_eq_true rfl) rfl ?_
  refine gj_goto (tgt := 26) dX11_spells_116 rfl ?_
  refine gj_iload dX11_spells_26 rfl ?_
  refine gj_iload_n dX11_spells_28 rfl ?_
  refine gj_icmp_geN (tgt := 119) (by omega) (by omega) dX11_spells_29 rfl (fun zq0 => ?_) (fun zq0 => ?_)
  rotate_left
  · exfalso; omega
  refine gj_iload dX11_spells_119 rfl ?_
  exact gj_zr rfl dX11_spells_121 rfl (mj_b1 (by first | rw [hA9, hL9, hc0, hc1, hc2, hc3, hc4]; rfl | rw [hA9, hL9, hc0, hc1, hc2, hc3]; rfl | rw [hA9, hL9, hc0, hc1, hc2]; rfl | rw [hA9, hL9, hc0, hc1]; rfl | rw [hA9, hL9, hc0]; rfl | rw [hA9, hL9]; rfl | rw [hA9]; rfl)) rfl
theorem sp_spq3 {B : Nat → Nat} {n t : Nat} (hB : ∀ c, B c ≤ 127) : (sp_xkt B n t = 1 ∧ (sp_ps B n (t + 1) - sp_ss B n t = 5 ∧ B (sp_ss B n t + 0) = 118 ∧ B (sp_ss B n t + 1) = 111 ∧ B (sp_ss B n t + 2) = 116 ∧ B (sp_ss B n t + 3) = 101 ∧ B (sp_ss B n t + 4) = 114)) ↔ sp_tt B n t = 4294967289 := by
  have g1 := hB (sp_ss B n t)
  have g2 := hB (sp_ss B n t + 1)
  unfold sp_xkt sp_tt sp_xk sp_tk sp_nvl sp_ba
  by_cases q : n ≤ sp_ss B n t
  · rw [if_pos q, if_pos q]; exact ⟨fun z => absurd z.1 (by decide), fun z => absurd z (by decide)⟩
  rw [if_neg q, if_neg q, if_pos (Nat.not_le.mp q)]
  by_cases q1 : 97 ≤ B (sp_ss B n t) ∧ B (sp_ss B n t) ≤ 122
  · rw [if_pos q1, if_pos q1, ← sp_wt_3]
    exact ⟨fun z => z.2, fun z => ⟨rfl, z⟩⟩
  rw [if_neg q1, if_neg q1]
  refine ⟨fun z => ?_, fun z => ?_⟩
  · exact absurd z.2.2.1 (by rw [Nat.add_zero]; omega)
  · exfalso; revert z; (repeat' split) <;> omega
theorem sp_spl3 {B : Nat → Nat} {n t : Nat} (hB : ∀ c, B c ≤ 127) : (decide (sp_xkt B n t = 1) && (decide (sp_ps B n (t + 1) - sp_ss B n t = 5) && (decide (B (sp_ss B n t + 0) = 118) && (decide (B (sp_ss B n t + 1) = 111) && (decide (B (sp_ss B n t + 2) = 116) && (decide (B (sp_ss B n t + 3) = 101) && decide (B (sp_ss B n t + 4) = 114))))))) = decide (sp_tt B n t = 4294967289) := by
  rw [Bool.eq_iff_iff]
  simp only [Bool.and_eq_true, decide_eq_true_eq]
  exact sp_spq3 hB
