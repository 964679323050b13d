section MU3
variable {κ : Nat → Bool} {C : Nat → Nat → Nat}
theorem rl_undo (R : mj_Rel κ C) (h0 : 0 < C 101 3) : mj_RL 20 (mj_u C 35 (mj_row [C 35 0 - 1])) (mj_un (C 101) 3 (C 101 3 - 1)) := by
  have an := rl_n R
  have an1 := rl_n1 R
  have an2 := rl_n2 R
  have an3 := rl_n3 R
  have ad := rl_d R
  have aI := rl_I R
  have aK := rl_K R
  have aF := rl_F R
  have aU := rl_U R
  have aW := rl_W R
  have avk := rl_vk R
  have avw := rl_vw R
  have avc := rl_vc R
  have aN := rl_N R
  have aP := rl_P R
  have aH := rl_H R
  have b0 := R.2.1.1
  have b1 := R.2.1.2.1
  have b2 := R.2.1.2.2.1
  refine rl_mk ?_ ?_ ?_ ?_ ?_ ?_ ?_ ?_ ?_ ?_ ?_ ?_ ?_ ?_ ?_ ?_
  · exact (show _ = _ from an).trans (by rw [mj_un_ne (by omega)])
  · exact (show _ = _ from an1).trans (by rw [mj_un_ne (by omega)])
  · exact (show _ = _ from an2).trans (by rw [mj_un_ne (by omega)])
  · rw [mj_un_eq]; exact congrArg (· - 1) an3
  · exact (show _ = _ from ad).trans (by rw [mj_un_ne (by omega)])
  · exact mj_ag_out aI (by omega)
  · exact mj_ag_out aK (by omega)
  · exact mj_ag_out aF (by omega)
  · exact mj_ag_out aU (by omega)
  · exact mj_ag_out aW (by omega)
  · exact mj_ag_le (mj_ag_out avk (by omega)) (Nat.le_of_eq (by rw [mj_un_ne (by omega)]))
  · exact mj_ag_le (mj_ag_out avw (by omega)) (Nat.le_of_eq (by rw [mj_un_ne (by omega)]))
  · exact mj_ag_le (mj_ag_out avc (by omega)) (Nat.le_of_eq (by rw [mj_un_ne (by omega)]))
  · exact mj_ag_le (mj_ag_out aN (by omega)) (Nat.le_of_eq (by rw [mj_un_ne (by omega)]))
  · exact mj_ag_le (mj_ag_out aP (by omega)) (Nat.le_of_eq (by rw [mj_un_ne (by omega)]))
  · intro u hu
    rw [mj_un_eq] at hu
    refine ⟨?_, fun q hq => ?_⟩
    · show C 37 u = _
      rw [mj_un_ne (by omega)]; exact (aH u (by omega)).1
    · show C 36 (u * 25 + q) = _
      rw [mj_un_ne (by omega)]; exact (aH u (by omega)).2 q hq
theorem mj_RL_A {b : Nat} {A A' : Nat → Nat} (h : mj_RL b C A) (t : mj_Tb A) (e : ∀ q, q < 362 → A' q = A q) : mj_RL b C A' := by
  obtain ⟨⟨a0, a1, a2, a3, a4⟩, b1, b2, b3, b4, b5, b6, b7, b8, b9⟩ := h
  have t0 := t.1
  have t1 := t.2.1
  have t2 := t.2.2.1
  have t3 := t.2.2.2.1
  have e0 := e 0 (by decide)
  have e1 := e 1 (by decide)
  have e2 := e 2 (by decide)
  have e3 := e 3 (by decide)
  refine ⟨⟨by rw [e0]; exact a0, by rw [e1]; exact a1, by rw [e2]; exact a2, by rw [e3]; exact a3, by rw [e 29 (by decide)]; exact a4⟩, fun q hq => ?_, fun q hq => ?_, fun q hq => ?_, fun q hq => ?_, fun q hq => ?_, ?_, ?_, ?_, ?_⟩
  · rw [e _ (by omega)]; exact b1 q hq
  · rw [e _ (by omega)]; exact b2 q hq
  · rw [e _ (by omega)]; exact b3 q hq
  · rw [e _ (by omega)]; exact b4 q hq
  · rw [e _ (by omega)]; exact b5 q hq
  · rw [e0]; intro v hv
    rw [e _ (by omega), e _ (by omega), e _ (by omega)]; exact b6 v hv
  · rw [e1]; intro p hp
    rw [e _ (by omega)]; exact b7 p hp
  · rw [e2]; intro p hp
    rw [e _ (by omega)]; exact b8 p hp
  · rw [e3]; intro u hu
    refine ⟨?_, fun q hq => ?_⟩
    · rw [e _ (by omega)]; exact (b9 u hu).1
    · rw [e _ (by omega)]; exact (b9 u hu).2 q hq
theorem mj_Tb_A {A A' : Nat → Nat} (t : mj_Tb A) (e : ∀ q, q < 362 → A' q = A q) : mj_Tb A' := mj_Tb_of t (fun i hi _ => e i (by omega)) (by rw [e 3 (by decide)]; exact t.2.2.2.1)
end MU3
theorem sp_pt_in {T J : Nat → Nat} {n q : Nat} (h : q < n) : sp_pt T J n (4 + q) = J q := by
  unfold sp_pt; rw [if_pos (by omega), Nat.add_sub_cancel_left]
theorem sp_pt_out {T J : Nat → Nat} {n i : Nat} (h : i < 4 ∨ 4 + n ≤ i) : sp_pt T J n i = T i := if_neg (by omega)
theorem sp_bk_in {T : Nat → Nat} {P n q : Nat} (h : q < n) : sp_bk T P n (4 + q) = T (P + q) := by
  unfold sp_bk; rw [if_pos (by omega), Nat.add_sub_cancel_left]
theorem sp_bk_out {T : Nat → Nat} {P n i : Nat} (h : i < 4 ∨ 4 + n ≤ i) : sp_bk T P n i = T i := if_neg (by omega)
theorem mj_Tb_pt {T J : Nat → Nat} (t : mj_Tb T) (h : ∀ q, q < 25 → J q ≤ 99) : mj_Tb (sp_pt T J 25) := mj_Tb_e.mpr fun i hi => by
  by_cases g : 4 ≤ i ∧ i < 29
  · rw [tl_ice g.1 g.2]
    have e : sp_pt T J 25 (4 + (i - 4)) = J (i - 4) := sp_pt_in (by omega)
    rw [show 4 + (i - 4) = i by omega] at e
    rw [e]; exact h _ (by omega)
  · rw [sp_pt_out (by omega)]; exact mj_Tb_e.mp t i hi
section MU4
variable {κ κ' : Nat → Bool} {C D D2 : Nat → Nat → Nat}
theorem rl_days (R : mj_Rel κ C) {m : Nat} : ∀ q, q < 25 → sp_days (fun q => sp_kp (C 101) (30 + q)) (fun q => sp_kp (C 101) (55 + q)) (fun q => sp_kp (C 101) (62 + q)) (sp_kp (C 101) 29) (fun q => sp_kp (C 101) (4 + q)) m q = sp_days (C 22) (C 25) (C 26) (C 20 0) (C 23) m q := fun q hq => by
  have lo : ∀ i, i < 154 → i ≠ 3 → sp_kp (C 101) i = C 101 i := fun i h h3 => sp_kp_lo h h3
  rw [lo 29 (by decide) (by decide), ← rl_d R]
  exact (sp_days_c (mj_ag_T (rl_K R) fun q hq => lo _ (by omega) (by omega)) (mj_ag_T (rl_F R) fun q hq => lo _ (by omega) (by omega)) (mj_ag_T (rl_U R) fun q hq => lo _ (by omega) (by omega)) (mj_ag_T (rl_I R) fun q hq => lo _ (by omega) (by omega)) q hq).symm
theorem rl_image (R : mj_Rel κ C) {i : Nat} (hi : i < 2) (hk : κ' i = true) (ho : ∀ j, j < 2 → j ≠ i → κ' j = κ j) : mj_Rel κ' (mj_u (mj_u (mj_blk C (60 + 20 * i) (mj_shf C (60 + 20 * i) 20)) 102 (sp_im (C 102) (C 101) (362 * i) 362)) 103 (mj_un (C 103) i 1)) := by
  have out : ∀ j, (j < 60 + 20 * i ∨ 60 + 20 * i + 19 ≤ j) → mj_blk C (60 + 20 * i) (mj_shf C (60 + 20 * i) 20) j = C j := fun j hj => if_neg (by omega)
  have inn : ∀ o, o < 19 → mj_blk C (60 + 20 * i) (mj_shf C (60 + 20 * i) 20) (60 + 20 * i + o) = C (20 + o) := fun o ho => by
    show (if _ then _ else _) = _
    rw [if_pos (by omega)]; unfold mj_shf; rw [show 60 + 20 * i + o - (60 + 20 * i) = o by omega]
  have out2 : ∀ j, (j < 60 + 20 * i ∨ 60 + 20 * i + 19 ≤ j) → j ≠ 102 → j ≠ 103 → mj_u (mj_u (mj_blk C (60 + 20 * i) (mj_shf C (60 + 20 * i) 20)) 102 (sp_im (C 102) (C 101) (362 * i) 362)) 103 (mj_un (C 103) i 1) j = C j := fun j hj h1 h2 => by rw [mj_u_ne h2, mj_u_ne h1]; exact out j hj
  have inn2 : ∀ o, o < 19 → mj_u (mj_u (mj_blk C (60 + 20 * i) (mj_shf C (60 + 20 * i) 20)) 102 (sp_im (C 102) (C 101) (362 * i) 362)) 103 (mj_un (C 103) i 1) (60 + 20 * i + o) = C (20 + o) := fun o ho => by rw [mj_u_ne (by omega), mj_u_ne (by omega)]; exact inn o ho
  have e102 : mj_u (mj_u (mj_blk C (60 + 20 * i) (mj_shf C (60 + 20 * i) 20)) 102 (sp_im (C 102) (C 101) (362 * i) 362)) 103 (mj_un (C 103) i 1) 102 = sp_im (C 102) (C 101) (362 * i) 362 := rfl
  have e103 : mj_u (mj_u (mj_blk C (60 + 20 * i) (mj_shf C (60 + 20 * i) 20)) 102 (sp_im (C 102) (C 101) (362 * i) 362)) 103 (mj_un (C 103) i 1) 103 = mj_un (C 103) i 1 := rfl
  have e60 : κ' 0 = true → mj_Li 60 (mj_u (mj_u (mj_blk C (60 + 20 * i) (mj_shf C (60 + 20 * i) 20)) 102 (sp_im (C 102) (C 101) (362 * i) 362)) 103 (mj_un (C 103) i 1)) ∧ mj_Lr 60 (mj_u (mj_u (mj_blk C (60 + 20 * i) (mj_shf C (60 + 20 * i) 20)) 102 (sp_im (C 102) (C 101) (362 * i) 362)) 103 (mj_un (C 103) i 1)) := fun k => by
    by_cases e : i = 0
    · subst e
      have q12 := inn2 12 (by decide)
      have q14 := inn2 14 (by decide)
      exact ⟨fun o ho c => by rw [show 60 + o = 60 + 20 * 0 + o by omega, inn2 o ho]; exact R.1.1 o ho c, fun q => by rw [show 60 + 12 = 60 + 20 * 0 + 12 by omega, show 60 + 14 = 60 + 20 * 0 + 14 by omega, q12, q14]; exact R.1.2.2.2.2.2.2.2.2.1 q⟩
    · rw [ho 0 (by decide) (by omega)] at k
      exact ⟨fun o ho c => by rw [out2 _ (by omega) (by omega) (by omega)]; exact R.1.2.2.1 k o ho c, fun q => by rw [out2 _ (by omega) (by omega) (by omega), out2 _ (by omega) (by omega) (by omega)]; exact R.1.2.2.2.2.2.2.2.2.2.2.1 k q⟩
  have e80 : κ' 1 = true → mj_Li 80 (mj_u (mj_u (mj_blk C (60 + 20 * i) (mj_shf C (60 + 20 * i) 20)) 102 (sp_im (C 102) (C 101) (362 * i) 362)) 103 (mj_un (C 103) i 1)) ∧ mj_Lr 80 (mj_u (mj_u (mj_blk C (60 + 20 * i) (mj_shf C (60 + 20 * i) 20)) 102 (sp_im (C 102) (C 101) (362 * i) 362)) 103 (mj_un (C 103) i 1)) := fun k => by
    by_cases e : i = 1
    · subst e
      have q12 := inn2 12 (by decide)
      have q14 := inn2 14 (by decide)
      exact ⟨fun o ho c => by rw [show 80 + o = 60 + 20 * 1 + o by omega, inn2 o ho]; exact R.1.1 o ho c, fun q => by rw [show 80 + 12 = 60 + 20 * 1 + 12 by omega, show 80 + 14 = 60 + 20 * 1 + 14 by omega, q12, q14]; exact R.1.2.2.2.2.2.2.2.2.1 q⟩
    · rw [ho 1 (by decide) (by omega)] at k
      exact ⟨fun o ho c => by rw [out2 _ (by omega) (by omega) (by omega)]; exact R.1.2.2.2.1 k o ho c, fun q => by rw [out2 _ (by omega) (by omega) (by omega), out2 _ (by omega) (by omega) (by omega)]; exact R.1.2.2.2.2.2.2.2.2.2.2.2 k q⟩
  refine ⟨⟨fun o ho c => ?_, fun o ho c => ?_, fun k => (e60 k).1, fun k => (e80 k).1, ?_, ?_, ?_, ?_, fun q => ?_, fun q => ?_, fun k => (e60 k).2, fun k => (e80 k).2⟩, ?_, ?_, fun j hj => ?_, ?_, ?_, ?_, ?_, ?_⟩
  · rw [out2 _ (by omega) (by omega) (by omega)]; exact R.1.1 o ho c
  · rw [out2 _ (by omega) (by omega) (by omega)]; exact R.1.2.1 o ho c
  · rw [out2 _ (by omega) (by omega) (by omega)]; exact R.1.2.2.2.2.1
  · rw [out2 _ (by omega) (by omega) (by omega)]; exact R.1.2.2.2.2.2.1
  · rw [out2 _ (by omega) (by omega) (by omega)]; exact R.1.2.2.2.2.2.2.1
  · rw [out2 _ (by omega) (by omega) (by omega)]; exact R.1.2.2.2.2.2.2.2.1
  · rw [out2 _ (by omega) (by omega) (by omega), out2 _ (by omega) (by omega) (by omega)]; exact R.1.2.2.2.2.2.2.2.2.1 q
  · rw [out2 _ (by omega) (by omega) (by omega), out2 _ (by omega) (by omega) (by omega)]; exact R.1.2.2.2.2.2.2.2.2.2.1 q
  · rw [out2 101 (by omega) (by omega) (by omega)]; exact R.2.1
  · rw [out2 101 (by omega) (by omega) (by omega)]; exact mj_RL_C R.2.2.1 fun o ho => out2 _ (by omega) (by omega) (by omega)
  · rw [e102, e103]
    by_cases e : j = i
    · subst e
      have im : ∀ q, q < 362 → sp_im (C 102) (C 101) (362 * j) 362 (362 * j + q) = C 101 q := fun q hq => by
        unfold sp_im; rw [if_pos (by omega), Nat.add_sub_cancel_left]
      refine ⟨fun _ => ⟨mj_un_eq _ _ _, mj_RL_A ?_ R.2.1 im, mj_Tb_A R.2.1 im⟩, fun z => absurd hk (by rw [z]; decide)⟩
      refine mj_RL_C (RL_cp (b := 60 + 20 * j) R.2.2.1) fun o ho => ?_
      rw [mj_u_ne (by omega), mj_u_ne (by omega)]
    · rw [ho j hj e]
      have im : (fun q => sp_im (C 102) (C 101) (362 * i) 362 (362 * j + q)) = fun q => if 362 * i ≤ 362 * j + q ∧ 362 * j + q < 362 * i + 362 then C 101 (362 * j + q - 362 * i) else C 102 (362 * j + q) := rfl
      have im2 : ∀ q, q < 362 → sp_im (C 102) (C 101) (362 * i) 362 (362 * j + q) = C 102 (362 * j + q) := fun q hq => if_neg (by omega)
      refine ⟨fun k => ?_, fun k => by rw [mj_un_ne e]; exact (rl_im R hj).2 k⟩
      obtain ⟨q1, q2, q3⟩ := (rl_im R hj).1 k
      exact ⟨by rw [mj_un_ne e]; exact q1, mj_RL_A (mj_RL_C q2 fun o ho => out2 _ (by omega) (by omega) (by omega)) q3 im2, mj_Tb_A q3 im2⟩
  · rw [out2 7 (by omega) (by omega) (by omega), out2 100 (by omega) (by omega) (by omega)]; exact rl_tx R
  · rw [out2 8 (by omega) (by omega) (by omega), out2 107 (by omega) (by omega) (by omega)]; exact rl_B R
  · rw [out2 11 (by omega) (by omega) (by omega), out2 104 (by omega) (by omega) (by omega)]; exact rl_st R
  · rw [out2 0 (by omega) (by omega) (by omega), out2 100 (by omega) (by omega) (by omega)]; exact rl_f0 R
  · rw [out2 0 (by omega) (by omega) (by omega), out2 100 (by omega) (by omega) (by omega)]; exact rl_f1 R
end MU4
theorem st_tread_1_t {E : mj_E} {κ : Nat → Bool} {C : Nat → Nat → Nat} (R : mj_Rel κ C) {c w : Nat} (h0 : c < 25) (h1 : 1 ≤ w) (h2 : w ≤ 99) (h3 : w ≤ sp_bear (C 22 c) (C 23 c))  : mj_St E mj_G mj_isI iX10_tread iX11_tread [.int (nI c), .int (nI w)] (hh κ C) := by
  refine mj_st (ev_X10_tread_1 R.1 h0 h1 h2 h3) ⟨_, rfl⟩ (ev_X11_tread_1 (E := E) (h := hh κ (mj_u (mj_u (mj_u (mj_u C 36 (sp_ki (C 36) (C 23) (C 35 0))) 37 (sp_kd (C 37) (C 35 0) (C 20 0))) 35 (mj_row [sp_kz (C 35 0)])) 23 (mj_un (C 23) c ((C 23 c) - 1)))) (hc100 κ (mj_u (mj_u (mj_u (mj_u C 36 (sp_ki (C 36) (C 23) (C 35 0))) 37 (sp_kd (C 37) (C 35 0) (C 20 0))) 35 (mj_row [sp_kz (C 35 0)])) 23 (mj_un (C 23) c ((C 23 c) - 1)))) (hc101 κ (mj_u (mj_u (mj_u (mj_u C 36 (sp_ki (C 36) (C 23) (C 35 0))) 37 (sp_kd (C 37) (C 35 0) (C 20 0))) 35 (mj_row [sp_kz (C 35 0)])) 23 (mj_un (C 23) c ((C 23 c) - 1)))) (show mj_Tb ((mj_u (mj_u (mj_u (mj_u C 36 (sp_ki (C 36) (C 23) (C 35 0))) 37 (sp_kd (C 37) (C 35 0) (C 20 0))) 35 (mj_row [sp_kz (C 35 0)])) 23 (mj_un (C 23) c ((C 23 c) - 1))) 101) from R.2.1) h0 h1 h2 (show w ≤ sp_bear (C 101 (30 + c)) (C 101 (4 + c)) from by rw [← rl_K R c h0, ← rl_I R c h0]; exact h3)) ?_ (hu101 (hu101 rfl)) ?_
  · exact rfl
  · have aI := rl_I R
    have ad := rl_d R
    have b9 := rv_99 R
    have lo : ∀ i, i < 154 → i ≠ 3 → sp_kp (C 101) i = C 101 i := fun i h h3 => sp_kp_lo h h3
    refine R.now (mj_CI_u (mj_CI_u (mj_CI_20 (mj_kC_CI R.1) (by omega) (by omega) (by omega) (by omega) (mj_un_le (R.1.1 3 (by decide)) (show C 23 c - 1 ≤ 99 by have := R.1.1 3 (by decide) c; exact Nat.le_trans (Nat.sub_le _ _) this))) (by omega) (by omega) (by omega) (by omega) (by omega)) (by omega) (by omega) (by omega) (by omega) (by omega)) (show mj_Tb (mj_un (sp_kp (C 101)) (4 + c) (((C 101) (4 + c)) - 1)) from (mj_Tb_un (mj_Tb_kp R.2.1) (fun _ => by rw [tl_ice (by omega) (by omega)]; have := b9 c h0; omega))) (show mj_RL 20 _ (mj_un (sp_kp (C 101)) (4 + c) (((C 101) (4 + c)) - 1)) from rl_ice (rl_keep R) (fun i h1 h2 h3 => by rw [mj_u_ne (by omega), mj_u_ne (by omega), mj_u_ne (by omega)]; rfl) (by show mj_ag 25 (mj_un (C 23) c (C 23 c - 1)) _ 4; rw [aI c h0]; exact mj_ag_in (mj_ag_T aI fun q hq => lo _ (by omega) (by omega))) (by rw [mj_un_ne (by omega), lo 29 (by decide) (by decide)]; exact ad) (fun i hi => mj_un_ne (by omega))) (fun j hj => by rw [mj_u_ne (by omega), mj_u_ne (by omega), mj_u_ne (by omega)]; rw [mj_u_ne (by omega), mj_u_ne (by omega), mj_u_ne (by omega)])
theorem st_tread_0_t {E : mj_E} {κ : Nat → Bool} {C : Nat → Nat → Nat} (R : mj_Rel κ C) {c w : Nat} (h0 : c < 25) (h1 : 1 ≤ w) (h2 : w ≤ 99) (h3 : sp_bear (C 22 c) (C 23 c) < w)  : mj_St E mj_G mj_isI iX10_tread iX11_tread [.int (nI c), .int (nI w)] (hh κ C) := by
  refine mj_st (ev_X10_tread_0 R.1 h0 h1 h2 h3) ⟨_, rfl⟩ (ev_X11_tread_0 (E := E) (h := hh κ (mj_u (mj_u (mj_u (mj_u C 36 (sp_ki (C 36) (C 23) (C 35 0))) 37 (sp_kd (C 37) (C 35 0) (C 20 0))) 35 (mj_row [sp_kz (C 35 0)])) 23 (mj_un (C 23) c 0))) (hc100 κ (mj_u (mj_u (mj_u (mj_u C 36 (sp_ki (C 36) (C 23) (C 35 0))) 37 (sp_kd (C 37) (C 35 0) (C 20 0))) 35 (mj_row [sp_kz (C 35 0)])) 23 (mj_un (C 23) c 0))) (hc101 κ (mj_u (mj_u (mj_u (mj_u C 36 (sp_ki (C 36) (C 23) (C 35 0))) 37 (sp_kd (C 37) (C 35 0) (C 20 0))) 35 (mj_row [sp_kz (C 35 0)])) 23 (mj_un (C 23) c 0))) (show mj_Tb ((mj_u (mj_u (mj_u (mj_u C 36 (sp_ki (C 36) (C 23) (C 35 0))) 37 (sp_kd (C 37) (C 35 0) (C 20 0))) 35 (mj_row [sp_kz (C 35 0)])) 23 (mj_un (C 23) c 0)) 101) from R.2.1) h0 h1 h2 (show sp_bear (C 101 (30 + c)) (C 101 (4 + c)) < w from by rw [← rl_K R c h0, ← rl_I R c h0]; exact h3)) ?_ (hu101 (hu101 rfl)) ?_
  · exact rfl
  · have aI := rl_I R
    have ad := rl_d R
    have b9 := rv_99 R
    have lo : ∀ i, i < 154 → i ≠ 3 → sp_kp (C 101) i = C 101 i := fun i h h3 => sp_kp_lo h h3
    refine R.now (mj_CI_u (mj_CI_u (mj_CI_20 (mj_kC_CI R.1) (by omega) (by omega) (by omega) (by omega) (mj_un_le (R.1.1 3 (by decide)) (Nat.zero_le _))) (by omega) (by omega) (by omega) (by omega) (by omega)) (by omega) (by omega) (by omega) (by omega) (by omega)) (show mj_Tb (mj_un (sp_kp (C 101)) (4 + c) 0) from (mj_Tb_un (mj_Tb_kp R.2.1) (fun _ => by rw [tl_ice (by omega) (by omega)]; have := b9 c h0; omega))) (show mj_RL 20 _ (mj_un (sp_kp (C 101)) (4 + c) 0) from rl_ice (rl_keep R) (fun i h1 h2 h3 => by rw [mj_u_ne (by omega), mj_u_ne (by omega), mj_u_ne (by omega)]; rfl) (by show mj_ag 25 (mj_un (C 23) c 0) _ 4; exact mj_ag_in (mj_ag_T aI fun q hq => lo _ (by omega) (by omega))) (by rw [mj_un_ne (by omega), lo 29 (by decide) (by decide)]; exact ad) (fun i hi => mj_un_ne (by omega))) (fun j hj => by rw [mj_u_ne (by omega), mj_u_ne (by omega), mj_u_ne (by omega)]; rw [mj_u_ne (by omega), mj_u_ne (by omega), mj_u_ne (by omega)])
theorem st_stone_t {E : mj_E} {κ : Nat → Bool} {C : Nat → Nat → Nat} (R : mj_Rel κ C) {c : Nat} (h0 : c < 25)  : mj_St E mj_G mj_isI iX10_stone iX11_stone [.int (nI c)] (hh κ C) := by
  refine mj_st (ev_X10_stone R.1 h0) ⟨_, rfl⟩ (ev_X11_stone (E := E) (h := hh κ (mj_u (mj_u (mj_u (mj_u C 36 (sp_ki (C 36) (C 23) (C 35 0))) 37 (sp_kd (C 37) (C 35 0) (C 20 0))) 35 (mj_row [sp_kz (C 35 0)])) 23 (mj_un (C 23) c ((C 23 c) / 2)))) (hc100 κ (mj_u (mj_u (mj_u (mj_u C 36 (sp_ki (C 36) (C 23) (C 35 0))) 37 (sp_kd (C 37) (C 35 0) (C 20 0))) 35 (mj_row [sp_kz (C 35 0)])) 23 (mj_un (C 23) c ((C 23 c) / 2)))) (hc101 κ (mj_u (mj_u (mj_u (mj_u C 36 (sp_ki (C 36) (C 23) (C 35 0))) 37 (sp_kd (C 37) (C 35 0) (C 20 0))) 35 (mj_row [sp_kz (C 35 0)])) 23 (mj_un (C 23) c ((C 23 c) / 2)))) (show mj_Tb ((mj_u (mj_u (mj_u (mj_u C 36 (sp_ki (C 36) (C 23) (C 35 0))) 37 (sp_kd (C 37) (C 35 0) (C 20 0))) 35 (mj_row [sp_kz (C 35 0)])) 23 (mj_un (C 23) c ((C 23 c) / 2))) 101) from R.2.1) h0) ?_ (hu101 (hu101 rfl)) ?_
  · refine mj_vI ((mj_un_eq _ _ _).trans (Eq.trans ?_ (mj_un_eq _ _ _).symm))
    rw [sp_kp_lo (by omega) (by omega), rl_I R c h0]
    rfl
  · have aI := rl_I R
    have ad := rl_d R
    have b9 := rv_99 R
    have lo : ∀ i, i < 154 → i ≠ 3 → sp_kp (C 101) i = C 101 i := fun i h h3 => sp_kp_lo h h3
    refine R.now (mj_CI_u (mj_CI_u (mj_CI_20 (mj_kC_CI R.1) (by omega) (by omega) (by omega) (by omega) (mj_un_le (R.1.1 3 (by decide)) (show C 23 c / 2 ≤ 99 by have := R.1.1 3 (by decide) c; exact Nat.le_trans (Nat.div_le_self _ _) this))) (by omega) (by omega) (by omega) (by omega) (by omega)) (by omega) (by omega) (by omega) (by omega) (by omega)) (show mj_Tb (mj_un (sp_kp (C 101)) (4 + c) ((sp_kp (C 101) (4 + c)) / 2)) from (mj_Tb_un (mj_Tb_kp R.2.1) (fun _ => by rw [tl_ice (by omega) (by omega), lo _ (by omega) (by omega)]; have := b9 c h0; omega))) (show mj_RL 20 _ (mj_un (sp_kp (C 101)) (4 + c) ((sp_kp (C 101) (4 + c)) / 2)) from rl_ice (rl_keep R) (fun i h1 h2 h3 => by rw [mj_u_ne (by omega), mj_u_ne (by omega), mj_u_ne (by omega)]; rfl) (by show mj_ag 25 (mj_un (C 23) c (C 23 c / 2)) _ 4; rw [aI c h0, lo _ (by omega) (by omega)]; exact mj_ag_in (mj_ag_T aI fun q hq => lo _ (by omega) (by omega))) (by rw [mj_un_ne (by omega), lo 29 (by decide) (by decide)]; exact ad) (fun i hi => mj_un_ne (by omega))) (fun j hj => by rw [mj_u_ne (by omega), mj_u_ne (by omega), mj_u_ne (by omega)]; rw [mj_u_ne (by omega), mj_u_ne (by omega), mj_u_ne (by omega)])
theorem st_from_no_0_t {E : mj_E} {κ : Nat → Bool} {C : Nat → Nat → Nat} (R : mj_Rel κ C)  (h0 : κ 0 = false)  : mj_St E mj_G mj_isI iX10_from iX11_from [.int (nI 0)] (hh κ C) := by
  refine mj_st (ev_X10_from_no_0 R.1 h0) ⟨_, rfl⟩ (ev_X11_from_no_0 (E := E) (h := hh κ (mj_u C 11 (mj_un (C 11) 1 ((C 11 1) + 1)))) (hc100 κ (mj_u C 11 (mj_un (C 11) 1 ((C 11 1) + 1)))) (hc104 κ (mj_u C 11 (mj_un (C 11) 1 ((C 11 1) + 1)))) (hc103 κ (mj_u C 11 (mj_un (C 11) 1 ((C 11 1) + 1)))) ((rl_im R (show 0 < 2 by decide)).2 h0)) ?_ (hu104 rfl) ?_
  · exact rfl
  · exact R.bad
theorem st_from_no_1_t {E : mj_E} {κ : Nat → Bool} {C : Nat → Nat → Nat} (R : mj_Rel κ C)  (h0 : κ 1 = false)  : mj_St E mj_G mj_isI iX10_from iX11_from [.int (nI 1)] (hh κ C) := by
  refine mj_st (ev_X10_from_no_1 R.1 h0) ⟨_, rfl⟩ (ev_X11_from_no_1 (E := E) (h := hh κ (mj_u C 11 (mj_un (C 11) 1 ((C 11 1) + 1)))) (hc100 κ (mj_u C 11 (mj_un (C 11) 1 ((C 11 1) + 1)))) (hc104 κ (mj_u C 11 (mj_un (C 11) 1 ((C 11 1) + 1)))) (hc103 κ (mj_u C 11 (mj_un (C 11) 1 ((C 11 1) + 1)))) ((rl_im R (show 1 < 2 by decide)).2 h0)) ?_ (hu104 rfl) ?_
  · exact rfl
  · exact R.bad
theorem st_day_0_t {E : mj_E} {κ : Nat → Bool} {C : Nat → Nat → Nat} (R : mj_Rel κ C) {m : Nat} (h0 : 1 ≤ m) (h1 : m ≤ 60) (h2 : C 20 0 + m ≤ 999) : mj_St E mj_G mj_isI iX10_day iX11_day [.int (nI m)] (hh κ C) := by
  refine mj_st (ev_X10_day R.1 h0 h1) ⟨_, rfl⟩ (ev_X11_day_0 (E := E) (h := hh κ (mj_u (mj_u (mj_u (mj_u (mj_u C 36 (sp_ki (C 36) (C 23) (C 35 0))) 37 (sp_kd (C 37) (C 35 0) (C 20 0))) 35 (mj_row [sp_kz (C 35 0)])) 23 (sp_days (C 22) (C 25) (C 26) (C 20 0) (C 23) (min m (999 - (C 20 0))))) 20 (mj_row [(C 20 0) + (min m (999 - (C 20 0)))]))) (hc100 κ (mj_u (mj_u (mj_u (mj_u (mj_u C 36 (sp_ki (C 36) (C 23) (C 35 0))) 37 (sp_kd (C 37) (C 35 0) (C 20 0))) 35 (mj_row [sp_kz (C 35 0)])) 23 (sp_days (C 22) (C 25) (C 26) (C 20 0) (C 23) (min m (999 - (C 20 0))))) 20 (mj_row [(C 20 0) + (min m (999 - (C 20 0)))]))) (hc101 κ (mj_u (mj_u (mj_u (mj_u (mj_u C 36 (sp_ki (C 36) (C 23) (C 35 0))) 37 (sp_kd (C 37) (C 35 0) (C 20 0))) 35 (mj_row [sp_kz (C 35 0)])) 23 (sp_days (C 22) (C 25) (C 26) (C 20 0) (C 23) (min m (999 - (C 20 0))))) 20 (mj_row [(C 20 0) + (min m (999 - (C 20 0)))]))) (hc105 κ (mj_u (mj_u (mj_u (mj_u (mj_u C 36 (sp_ki (C 36) (C 23) (C 35 0))) 37 (sp_kd (C 37) (C 35 0) (C 20 0))) 35 (mj_row [sp_kz (C 35 0)])) 23 (sp_days (C 22) (C 25) (C 26) (C 20 0) (C 23) (min m (999 - (C 20 0))))) 20 (mj_row [(C 20 0) + (min m (999 - (C 20 0)))]))) (show mj_Tb ((mj_u (mj_u (mj_u (mj_u (mj_u C 36 (sp_ki (C 36) (C 23) (C 35 0))) 37 (sp_kd (C 37) (C 35 0) (C 20 0))) 35 (mj_row [sp_kz (C 35 0)])) 23 (sp_days (C 22) (C 25) (C 26) (C 20 0) (C 23) (min m (999 - (C 20 0))))) 20 (mj_row [(C 20 0) + (min m (999 - (C 20 0)))])) 101) from R.2.1) h0 h1 (show C 101 29 + m ≤ 999 by rw [← rl_d R]; exact h2)) ?_ (hu101 (hu101 (hu105 (hu105 (hu101 rfl))))) ?_
  · refine mj_vI (sp_sum_congr fun q hq => ?_)
    rw [mj_un_ne (by omega), sp_pt_in hq, (show min m (999 - C 20 0) = m by omega)]
    exact rl_days R q hq
  · have aI := rl_I R
    have ad := rl_d R
    have b9 := rv_99 R
    have lo : ∀ i, i < 154 → i ≠ 3 → sp_kp (C 101) i = C 101 i := fun i h h3 => sp_kp_lo h h3
    refine R.now (mj_CI_u (mj_CI_u (mj_CI_u (mj_CI_u (mj_CI_u (mj_CI_20 (mj_CI_20 (mj_kC_CI R.1) (by omega) (by omega) (by omega) (by omega) (fun q => sp_icem_le (R.1.1 3 (by decide) q))) (by omega) (by omega) (by omega) (by omega) (mj_row1_0 (show C 20 0 + min m (999 - C 20 0) ≤ 999 by have := R.1.1 0 (by decide) 0; have := (show C 20 0 ≤ 999 from this); omega))) (by omega) (by omega) (by omega) (by omega) (by omega)) (by omega) (by omega) (by omega) (by omega) (by omega)) (by omega) (by omega) (by omega) (by omega) (by omega)) (by omega) (by omega) (by omega) (by omega) (by omega)) (by omega) (by omega) (by omega) (by omega) (by omega)) (show mj_Tb (mj_un (sp_pt (sp_kp (C 101)) (sp_days (fun q => sp_kp (C 101) (30 + q)) (fun q => sp_kp (C 101) (55 + q)) (fun q => sp_kp (C 101) (62 + q)) (sp_kp (C 101) 29) (fun q => sp_kp (C 101) (4 + q)) m) 25) 29 (((sp_pt (sp_kp (C 101)) (sp_days (fun q => sp_kp (C 101) (30 + q)) (fun q => sp_kp (C 101) (55 + q)) (fun q => sp_kp (C 101) (62 + q)) (sp_kp (C 101) 29) (fun q => sp_kp (C 101) (4 + q)) m) 25) 29) + m)) from (mj_Tb_un (mj_Tb_pt (mj_Tb_kp R.2.1) (fun q hq => sp_icem_le (by show sp_kp (C 101) (4 + q) ≤ 99; rw [lo _ (by omega) (by omega)]; exact b9 q hq))) (fun _ => by rw [sp_pt_out (by omega), lo 29 (by decide) (by decide)]; have := R.2.1.2.2.2.2.1; show _ ≤ 999; omega))) (show mj_RL 20 _ (mj_un (sp_pt (sp_kp (C 101)) (sp_days (fun q => sp_kp (C 101) (30 + q)) (fun q => sp_kp (C 101) (55 + q)) (fun q => sp_kp (C 101) (62 + q)) (sp_kp (C 101) 29) (fun q => sp_kp (C 101) (4 + q)) m) 25) 29 (((sp_pt (sp_kp (C 101)) (sp_days (fun q => sp_kp (C 101) (30 + q)) (fun q => sp_kp (C 101) (55 + q)) (fun q => sp_kp (C 101) (62 + q)) (sp_kp (C 101) 29) (fun q => sp_kp (C 101) (4 + q)) m) 25) 29) + m)) from rl_ice (rl_keep R) (fun i h1 h2 h3 => by rw [mj_u_ne (by omega), mj_u_ne (by omega), mj_u_ne (by omega), mj_u_ne (by omega), mj_u_ne (by omega), mj_u_ne (by omega), mj_u_ne (by omega)]; rfl) (fun q hq => by show (sp_days (C 22) (C 25) (C 26) (C 20 0) (C 23) (min m (999 - C 20 0))) q = _; rw [mj_un_ne (by omega), sp_pt_in hq, (show min m (999 - C 20 0) = m by omega)]; exact (rl_days R q hq).symm) (by show C 20 0 + min m (999 - C 20 0) = _; rw [mj_un_eq, sp_pt_out (by omega), lo 29 (by decide) (by decide), (show min m (999 - C 20 0) = m by omega), ad]) (fun i hi => by rw [mj_un_ne (by omega), sp_pt_out (by omega)])) (fun j hj => by rw [mj_u_ne (by omega), mj_u_ne (by omega), mj_u_ne (by omega), mj_u_ne (by omega), mj_u_ne (by omega), mj_u_ne (by omega), mj_u_ne (by omega)]; rw [mj_u_ne (by omega), mj_u_ne (by omega), mj_u_ne (by omega)])
theorem st_day_1_t {E : mj_E} {κ : Nat → Bool} {C : Nat → Nat → Nat} (R : mj_Rel κ C) {m : Nat} (h0 : 1 ≤ m) (h1 : m ≤ 60) (h2 : 999 < C 20 0 + m) : mj_St E mj_G mj_isI iX10_day iX11_day [.int (nI m)] (hh κ C) := by
  refine mj_st (ev_X10_day R.1 h0 h1) ⟨_, rfl⟩ (ev_X11_day_1 (E := E) (h := hh κ (mj_u (mj_u (mj_u (mj_u (mj_u C 36 (sp_ki (C 36) (C 23) (C 35 0))) 37 (sp_kd (C 37) (C 35 0) (C 20 0))) 35 (mj_row [sp_kz (C 35 0)])) 23 (sp_days (C 22) (C 25) (C 26) (C 20 0) (C 23) (min m (999 - (C 20 0))))) 20 (mj_row [(C 20 0) + (min m (999 - (C 20 0)))]))) (hc100 κ (mj_u (mj_u (mj_u (mj_u (mj_u C 36 (sp_ki (C 36) (C 23) (C 35 0))) 37 (sp_kd (C 37) (C 35 0) (C 20 0))) 35 (mj_row [sp_kz (C 35 0)])) 23 (sp_days (C 22) (C 25) (C 26) (C 20 0) (C 23) (min m (999 - (C 20 0))))) 20 (mj_row [(C 20 0) + (min m (999 - (C 20 0)))]))) (hc101 κ (mj_u (mj_u (mj_u (mj_u (mj_u C 36 (sp_ki (C 36) (C 23) (C 35 0))) 37 (sp_kd (C 37) (C 35 0) (C 20 0))) 35 (mj_row [sp_kz (C 35 0)])) 23 (sp_days (C 22) (C 25) (C 26) (C 20 0) (C 23) (min m (999 - (C 20 0))))) 20 (mj_row [(C 20 0) + (min m (999 - (C 20 0)))]))) (hc105 κ (mj_u (mj_u (mj_u (mj_u (mj_u C 36 (sp_ki (C 36) (C 23) (C 35 0))) 37 (sp_kd (C 37) (C 35 0) (C 20 0))) 35 (mj_row [sp_kz (C 35 0)])) 23 (sp_days (C 22) (C 25) (C 26) (C 20 0) (C 23) (min m (999 - (C 20 0))))) 20 (mj_row [(C 20 0) + (min m (999 - (C 20 0)))]))) (show mj_Tb ((mj_u (mj_u (mj_u (mj_u (mj_u C 36 (sp_ki (C 36) (C 23) (C 35 0))) 37 (sp_kd (C 37) (C 35 0) (C 20 0))) 35 (mj_row [sp_kz (C 35 0)])) 23 (sp_days (C 22) (C 25) (C 26) (C 20 0) (C 23) (min m (999 - (C 20 0))))) 20 (mj_row [(C 20 0) + (min m (999 - (C 20 0)))])) 101) from R.2.1) h0 h1 (show 999 < C 101 29 + m by rw [← rl_d R]; exact h2)) ?_ (hu101 (hu101 (hu105 (hu105 (hu101 rfl))))) ?_
  · refine mj_vI (sp_sum_congr fun q hq => ?_)
    rw [mj_un_ne (by omega), sp_pt_in hq, (show min m (999 - C 20 0) = 999 - C 101 29 by have := rl_d R; omega)]
    exact rl_days R q hq
  · have aI := rl_I R
    have ad := rl_d R
    have b9 := rv_99 R
    have lo : ∀ i, i < 154 → i ≠ 3 → sp_kp (C 101) i = C 101 i := fun i h h3 => sp_kp_lo h h3
    refine R.now (mj_CI_u (mj_CI_u (mj_CI_u (mj_CI_u (mj_CI_u (mj_CI_20 (mj_CI_20 (mj_kC_CI R.1) (by omega) (by omega) (by omega) (by omega) (fun q => sp_icem_le (R.1.1 3 (by decide) q))) (by omega) (by omega) (by omega) (by omega) (mj_row1_0 (show C 20 0 + min m (999 - C 20 0) ≤ 999 by have := R.1.1 0 (by decide) 0; have := (show C 20 0 ≤ 999 from this); omega))) (by omega) (by omega) (by omega) (by omega) (by omega)) (by omega) (by omega) (by omega) (by omega) (by omega)) (by omega) (by omega) (by omega) (by omega) (by omega)) (by omega) (by omega) (by omega) (by omega) (by omega)) (by omega) (by omega) (by omega) (by omega) (by omega)) (show mj_Tb (mj_un (sp_pt (sp_kp (C 101)) (sp_days (fun q => sp_kp (C 101) (30 + q)) (fun q => sp_kp (C 101) (55 + q)) (fun q => sp_kp (C 101) (62 + q)) (sp_kp (C 101) 29) (fun q => sp_kp (C 101) (4 + q)) (999 - (C 101) 29)) 25) 29 (((sp_pt (sp_kp (C 101)) (sp_days (fun q => sp_kp (C 101) (30 + q)) (fun q => sp_kp (C 101) (55 + q)) (fun q => sp_kp (C 101) (62 + q)) (sp_kp (C 101) 29) (fun q => sp_kp (C 101) (4 + q)) (999 - (C 101) 29)) 25) 29) + (999 - (C 101) 29))) from (mj_Tb_un (mj_Tb_pt (mj_Tb_kp R.2.1) (fun q hq => sp_icem_le (by show sp_kp (C 101) (4 + q) ≤ 99; rw [lo _ (by omega) (by omega)]; exact b9 q hq))) (fun _ => by rw [sp_pt_out (by omega), lo 29 (by decide) (by decide)]; have := R.2.1.2.2.2.2.1; show _ ≤ 999; omega))) (show mj_RL 20 _ (mj_un (sp_pt (sp_kp (C 101)) (sp_days (fun q => sp_kp (C 101) (30 + q)) (fun q => sp_kp (C 101) (55 + q)) (fun q => sp_kp (C 101) (62 + q)) (sp_kp (C 101) 29) (fun q => sp_kp (C 101) (4 + q)) (999 - (C 101) 29)) 25) 29 (((sp_pt (sp_kp (C 101)) (sp_days (fun q => sp_kp (C 101) (30 + q)) (fun q => sp_kp (C 101) (55 + q)) (fun q => sp_kp (C 101) (62 + q)) (sp_kp (C 101) 29) (fun q => sp_kp (C 101) (4 + q)) (999 - (C 101) 29)) 25) 29) + (999 - (C 101) 29))) from rl_ice (rl_keep R) (fun i h1 h2 h3 => by rw [mj_u_ne (by omega), mj_u_ne (by omega), mj_u_ne (by omega), mj_u_ne (by omega), mj_u_ne (by omega), mj_u_ne (by omega), mj_u_ne (by omega)]; rfl) (fun q hq => by show (sp_days (C 22) (C 25) (C 26) (C 20 0) (C 23) (min m (999 - C 20 0))) q = _; rw [mj_un_ne (by omega), sp_pt_in hq, (show min m (999 - C 20 0) = 999 - C 101 29 by have := rl_d R; omega)]; exact (rl_days R q hq).symm) (by show C 20 0 + min m (999 - C 20 0) = _; rw [mj_un_eq, sp_pt_out (by omega), lo 29 (by decide) (by decide), (show min m (999 - C 20 0) = 999 - C 101 29 by have := rl_d R; omega), ad]) (fun i hi => by rw [mj_un_ne (by omega), sp_pt_out (by omega)])) (fun j hj => by rw [mj_u_ne (by omega), mj_u_ne (by omega), mj_u_ne (by omega), mj_u_ne (by omega), mj_u_ne (by omega), mj_u_ne (by omega), mj_u_ne (by omega)]; rw [mj_u_ne (by omega), mj_u_ne (by omega), mj_u_ne (by omega)])
theorem st_undo_t {E : mj_E} {κ : Nat → Bool} {C : Nat → Nat → Nat} (R : mj_Rel κ C)  (h0 : 0 < C 35 0)  : mj_St E mj_G mj_isI iX10_undo iX11_undo [] (hh κ C) := by
  refine mj_st (ev_X10_undo R.1 h0) ⟨_, rfl⟩ (ev_X11_undo (E := E) (h := hh κ (mj_u (mj_u (mj_u C 35 (mj_row [(C 35 0) - 1])) 23 (mj_cp (C 36) (C 23) (((C 35 0) - 1) * 25) 0 25)) 20 (mj_row [(C 37) ((C 35 0) - 1)]))) (hc100 κ (mj_u (mj_u (mj_u C 35 (mj_row [(C 35 0) - 1])) 23 (mj_cp (C 36) (C 23) (((C 35 0) - 1) * 25) 0 25)) 20 (mj_row [(C 37) ((C 35 0) - 1)]))) (hc101 κ (mj_u (mj_u (mj_u C 35 (mj_row [(C 35 0) - 1])) 23 (mj_cp (C 36) (C 23) (((C 35 0) - 1) * 25) 0 25)) 20 (mj_row [(C 37) ((C 35 0) - 1)]))) (show mj_Tb ((mj_u (mj_u (mj_u C 35 (mj_row [(C 35 0) - 1])) 23 (mj_cp (C 36) (C 23) (((C 35 0) - 1) * 25) 0 25)) 20 (mj_row [(C 37) ((C 35 0) - 1)])) 101) from R.2.1) (show 0 < C 101 3 by rw [← rl_n3 R]; exact h0)) ?_ (hu101 rfl) ?_
  · refine mj_vI ?_
    have h1 : 0 < C 101 3 := by rw [← rl_n3 R]; exact h0
    have h8 : C 101 3 ≤ 8 := R.2.1.2.2.2.1
    rw [show (29 : Nat) = 4 + 25 from rfl, sp_bk_in (by decide), rl_n3 R]
    exact (mj_un_ne (by omega)).trans ((rl_H R (C 101 3 - 1) (by omega)).1.symm)
  · have h1 : 0 < C 101 3 := by rw [← rl_n3 R]; exact h0
    have h8 : C 101 3 ≤ 8 := R.2.1.2.2.2.1
    have an3 := rl_n3 R
    obtain ⟨k1, k2⟩ := rl_H R (C 101 3 - 1) (by omega)
    have e29 : (sp_bk (mj_un (C 101) 3 ((C 101) 3 - 1)) (154 + 26 * ((C 101) 3 - 1)) 26) 29 = C 37 (C 35 0 - 1) := by rw [show (29 : Nat) = 4 + 25 from rfl, sp_bk_in (by decide), an3]; exact (mj_un_ne (by omega)).trans k1.symm
    have eI : ∀ q, q < 25 → (sp_bk (mj_un (C 101) 3 ((C 101) 3 - 1)) (154 + 26 * ((C 101) 3 - 1)) 26) (4 + q) = C 36 ((C 35 0 - 1) * 25 + q) := fun q hq => by rw [sp_bk_in (by omega), mj_un_ne (by omega), an3]; exact (k2 q hq).symm
    have tb : mj_Tb (sp_bk (mj_un (C 101) 3 ((C 101) 3 - 1)) (154 + 26 * ((C 101) 3 - 1)) 26) := mj_Tb_e.mpr fun i hi => by
      by_cases g : 4 ≤ i ∧ i < 29
      · rw [tl_ice g.1 g.2, show i = 4 + (i - 4) by omega, eI _ (by omega)]; exact R.1.1 16 (by decide) _
      · by_cases g2 : i = 29
        · rw [g2, e29]; exact R.1.1 17 (by decide) _
        · rw [sp_bk_out (by omega)]; exact mj_Tb_e.mp (mj_Tb_un R.2.1 (fun _ => show _ ≤ 8 by omega)) i hi
    refine R.now (mj_CI_u (mj_CI_20 (mj_CI_20 (mj_CI_20 R.1 (by omega) (by omega) (by omega) (by omega) (mj_row1_0 (show C 35 0 - 1 ≤ 8 by omega))) (by omega) (by omega) (by omega) (by omega) (mj_cp_le (R.1.1 16 (by decide)) (R.1.1 3 (by decide)))) (by omega) (by omega) (by omega) (by omega) (mj_row1_0 (R.1.1 17 (by decide) _))) (by omega) (by omega) (by omega) (by omega) (by omega)) tb (show mj_RL 20 _ (sp_bk (mj_un (C 101) 3 ((C 101) 3 - 1)) (154 + 26 * ((C 101) 3 - 1)) 26) from rl_ice (rl_undo R h1) (fun i h1 h2 h3 => ?_) (fun q hq => ?_) e29.symm (fun i hi => sp_bk_out (by omega))) (fun j hj => by rw [mj_u_ne (by omega), mj_u_ne (by omega), mj_u_ne (by omega), mj_u_ne (by omega)])
    · rw [mj_u_ne (by omega), mj_u_ne (by omega), mj_u_ne (by omega)]
    · rw [eI q hq]; show mj_cp (C 36) (C 23) ((C 35 0 - 1) * 25) 0 25 q = _; unfold mj_cp; rw [if_pos (by omega), Nat.sub_zero]
theorem st_from_0_t {E : mj_E} {κ : Nat → Bool} {C : Nat → Nat → Nat} (R : mj_Rel κ C)  (h0 : κ 0 = true)  : mj_St E mj_G mj_isI iX10_from iX11_from [.int (nI 0)] (hh κ C) := by
  refine mj_st (ev_X10_from_0 R.1 h0) ⟨_, rfl⟩ (ev_X11_from_0 (E := E) (h := hh κ (mj_blk C 20 (mj_shf C 20 60))) (hc100 κ (mj_blk C 20 (mj_shf C 20 60))) (hc101 κ (mj_blk C 20 (mj_shf C 20 60))) (hc102 κ (mj_blk C 20 (mj_shf C 20 60))) (hc103 κ (mj_blk C 20 (mj_shf C 20 60))) ((rl_im R (show 0 < 2 by decide)).1 h0).1) ?_ (hu101 rfl) ?_
  · exact rfl
  · obtain ⟨q1, q2, q3⟩ := (rl_im R (show 0 < 2 by decide)).1 h0
    refine R.now (mj_CI_u (mj_CI_cp R.1 (Or.inl rfl) (R.1.2.2.1 h0) (R.1.2.2.2.2.2.2.2.2.2.2.1 h0)) (by omega) (by omega) (by omega) (by omega) (by omega)) q3 ?_ (fun j hj => ?_)
    · exact mj_RL_C (RL_cp (b := 20) (d := 60) q2) fun o ho => mj_u_ne (by omega)
    · rw [mj_u_ne (by omega)]; exact if_neg (by omega)
theorem st_image_0_t {E : mj_E} {κ : Nat → Bool} {C : Nat → Nat → Nat} (R : mj_Rel κ C)  (h0 : κ 0 = true)  : mj_St E mj_G mj_isI iX10_image iX11_image [.int (nI 0)] (hh κ C) := by
  refine mj_st (ev_X10_image_0 R.1 h0) ⟨_, rfl⟩ (ev_X11_image_0 (E := E) (h := hh κ (mj_blk C 60 (mj_shf C 60 20))) (hc100 κ (mj_blk C 60 (mj_shf C 60 20))) (hc101 κ (mj_blk C 60 (mj_shf C 60 20))) (hc102 κ (mj_blk C 60 (mj_shf C 60 20))) (hc103 κ (mj_blk C 60 (mj_shf C 60 20)))) ?_ (hu103 (hu102 rfl)) ?_
  · exact rfl
  · exact rl_image R (i := 0) (κ' := κ) (by decide) h0 (fun _ _ _ => rfl)
theorem st_from_1_t {E : mj_E} {κ : Nat → Bool} {C : Nat → Nat → Nat} (R : mj_Rel κ C)  (h0 : κ 1 = true)  : mj_St E mj_G mj_isI iX10_from iX11_from [.int (nI 1)] (hh κ C) := by
  refine mj_st (ev_X10_from_1 R.1 h0) ⟨_, rfl⟩ (ev_X11_from_1 (E := E) (h := hh κ (mj_blk C 20 (mj_shf C 20 80))) (hc100 κ (mj_blk C 20 (mj_shf C 20 80))) (hc101 κ (mj_blk C 20 (mj_shf C 20 80))) (hc102 κ (mj_blk C 20 (mj_shf C 20 80))) (hc103 κ (mj_blk C 20 (mj_shf C 20 80))) ((rl_im R (show 1 < 2 by decide)).1 h0).1) ?_ (hu101 rfl) ?_
  · exact rfl
  · obtain ⟨q1, q2, q3⟩ := (rl_im R (show 1 < 2 by decide)).1 h0
    refine R.now (mj_CI_u (mj_CI_cp R.1 (Or.inl rfl) (R.1.2.2.2.1 h0) (R.1.2.2.2.2.2.2.2.2.2.2.2 h0)) (by omega) (by omega) (by omega) (by omega) (by omega)) q3 ?_ (fun j hj => ?_)
    · exact mj_RL_C (RL_cp (b := 20) (d := 80) q2) fun o ho => mj_u_ne (by omega)
    · rw [mj_u_ne (by omega)]; exact if_neg (by omega)
theorem st_image_1_t {E : mj_E} {κ : Nat → Bool} {C : Nat → Nat → Nat} (R : mj_Rel κ C)  (h0 : κ 1 = true)  : mj_St E mj_G mj_isI iX10_image iX11_image [.int (nI 1)] (hh κ C) := by
  refine mj_st (ev_X10_image_1 R.1 h0) ⟨_, rfl⟩ (ev_X11_image_1 (E := E) (h := hh κ (mj_blk C 80 (mj_shf C 80 20))) (hc100 κ (mj_blk C 80 (mj_shf C 80 20))) (hc101 κ (mj_blk C 80 (mj_shf C 80 20))) (hc102 κ (mj_blk C 80 (mj_shf C 80 20))) (hc103 κ (mj_blk C 80 (mj_shf C 80 20)))) ?_ (hu103 (hu102 rfl)) ?_
  · exact rfl
  · exact rl_image R (i := 1) (κ' := κ) (by decide) h0 (fun _ _ _ => rfl)
