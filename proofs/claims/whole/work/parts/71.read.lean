theorem rl_fault {E : mj_E} {h : mj_H} {a0 a1 n u : Nat} {B T A' W' A : Nat → Nat} {R : Bool × Nat × (Nat → Nat)} (hR : R = (false, u, A)) : gj E (mj_XM E iX11_read (mj_Zr h a0 a1 n B T R)) cX11_read 0 0 12 [some (.ref 100), none, none] [] (mj_up (mj_up (mj_up h 100 (mj_mt a0 a1 n B u)) 108 (mj_ar 154 A')) 109 (mj_ar 3 W')) := by
  refine gj_bipush (v := (-10)) dX11_read_12 (by decide) ?_
  refine gj_top (y := nI 4294967286) (by decide) ?_
  refine gj_aload_n dX11_read_14 rfl ?_
  refine gfX11_242 rfl dX11_read_15 ((mj_up_ne (by decide)).trans ((mj_up_ne (by decide)).trans (mj_up_eq _ _ _))) rfl ?_
  refine gj_isub dX11_read_18 ?_
  exact gj_iret rfl dX11_read_19 ⟨Nat.zero_le _, Nat.zero_le _⟩ ⟨by rw [hR, sp_an_f], u, _, _, fun _ => rfl, fun y => by rw [hR] at y; exact nomatch y⟩
theorem ev_X11_read {E : mj_E} {h : mj_H} {a0 a1 n y3 y4 y5 y6 : Nat} (H0 : h 100 = some (mj_mo a0 a1 n y3 y4 y5 y6)) {B T A W : Nat → Nat} (HT : h 101 = some (mj_ar 362 T)) (HB : h 107 = some (mj_ar 150 B)) (HA : h 108 = some (mj_ar 154 A)) (HW : h 109 = some (mj_ar 3 W)) (hB : ∀ c, B c ≤ 127) (hn : n ≤ 150) : mj_Ev E iX11_read [.ref 100] h (mj_Zr h a0 a1 n B T (sp_rd B n A)) := by
  have hE := sp_tE_le (B := B) hn
  have B1 : mj_up h 100 (mj_mt a0 a1 n B 0) 107 = some (mj_ar 150 B) := (mj_up_ne (by decide)).trans HB
  have A1 : mj_up h 100 (mj_mt a0 a1 n B 0) 108 = some (mj_ar 154 A) := (mj_up_ne (by decide)).trans HA
  have W1 : mj_up h 100 (mj_mt a0 a1 n B 0) 109 = some (mj_ar 3 W) := (mj_up_ne (by decide)).trans HW
  have L1 : mj_up h 100 (mj_mt a0 a1 n B 0) 100 = some (mj_mt a0 a1 n B 0) := mj_up_eq _ _ _
  refine mj_Ev.of (L0 := [some (.ref 100), none, none]) pnRX11 (Nat.le_of_ble_eq_true rfl) rfl ?_
  refine gj_aload_n dX11_read_0 rfl ?_
  refine gj_ic (w := 0) dX11_read_1 ?_
  refine gj_V0 lkX11_260 H0 rfl rfl (ev_X11_lookAt (p := 0) H0 HB hB hn (Nat.zero_le _)) dX11_read_2 rfl rfl rfl rfl rfl ?_
  show gj _ _ _ _ _ _ _ _ (mj_up h 100 (mj_mt a0 a1 n B 0))
  refine gj_aload_n dX11_read_5 rfl ?_
  by_cases q0 : sp_tt B n 0 = 4294967292
  · by_cases q1 : sp_tt B n 1 ≤ 99
    · refine gj_V1 lkX11_284 L1 rfl rfl (ev_X11_rd_lake_2 (t := 0) L1 B1 A1 W1 hB hn q0 q1) dX11_read_6 rfl rfl rfl rfl rfl ?_
      refine gj_cast (h' := mj_up (mj_up (mj_up h 100 (mj_mt a0 a1 n B 2)) 108 (mj_ar 154 (sp_beg A (sp_tt B n 1)))) 109 (mj_ar 3 (mj_un W 0 (sp_tt B n 1)))) rfl rfl (by funext x; unfold mj_up; (repeat' split) <;> first | rfl | omega) ?_
      have L2 : mj_up (mj_up (mj_up h 100 (mj_mt a0 a1 n B 2)) 108 (mj_ar 154 (sp_beg A (sp_tt B n 1)))) 109 (mj_ar 3 (mj_un W 0 (sp_tt B n 1))) 100 = some (mj_mt a0 a1 n B 2) := (mj_up_ne (by decide)).trans ((mj_up_ne (by decide)).trans (mj_up_eq _ _ _))
      refine gj_if_neb (tgt := 20) dX11_read_9 rfl (fun z => ?_) (fun z => ?_)
      · have q2 : sp_tt B n 2 = 4294967294 := of_decide_eq_true z
        have hR : sp_rd B n A = sp_run B n 150 2 (sp_beg A (sp_tt B n 1)) 1 := by unfold sp_rd; rw [if_pos q0, if_pos q1, if_pos q2]
        rw [hR]
        have t0 : 0 < sp_tE B n := sp_tE_lt hn (Nat.zero_le _) (by rw [q0]; decide)
        have t1 : 1 < sp_tE B n := sp_tE_lt hn (by omega) (by omega)
        have t2 : 2 < sp_tE B n := sp_tE_lt hn (by omega) (by rw [q2]; decide)
        refine gj_aload_n dX11_read_20 rfl ?_
        refine gj_V0 lkX11_263 L2 rfl rfl (ev_X11_goBehind (t := 2) L2 ((mj_up_ne (by decide)).trans ((mj_up_ne (by decide)).trans ((mj_up_ne (by decide)).trans HB))) hB hn) dX11_read_21 rfl rfl rfl rfl rfl ?_
        refine gj_cast (h' := mj_up (mj_up (mj_up h 100 (mj_mt a0 a1 n B (2 + 1))) 108 (mj_ar 154 (sp_beg A (sp_tt B n 1)))) 109 (mj_ar 3 (mj_un W 0 (sp_tt B n 1)))) rfl rfl (by funext x; unfold mj_up; (repeat' split) <;> first | rfl | omega) ?_
        refine gj_ic (w := 1) dX11_read_24 ?_
        refine gj_istore_n (L' := [some (.ref 100), some (.int (nI 1)), none]) dX11_read_25 (Nat.le_of_ble_eq_true rfl) rfl ?_
        exact rl_loop HT HB hB hn 150 1 2 _ _ rfl (by decide) (by decide) t2 (mj_Tb_beg q1)
      · have q2 : ¬ sp_tt B n 2 = 4294967294 := of_decide_eq_false z
        exact rl_fault (u := 2) (A := A) (by unfold sp_rd; rw [if_pos q0, if_pos q1, if_neg q2])
    · refine gj_V1 lkX11_284 L1 rfl rfl (ev_X11_rd_lake_1 (t := 0) L1 B1 hB hn q0 q1) dX11_read_6 rfl rfl rfl rfl rfl ?_
      refine gj_cast (h' := mj_up (mj_up (mj_up h 100 (mj_mt a0 a1 n B 1)) 108 (mj_ar 154 A)) 109 (mj_ar 3 W)) rfl rfl (by rw [← mj_p2 HA HW]; exact mj_up_up _ _ _ _) ?_
      refine gj_if_neb (tgt := 20) dX11_read_9 rfl (fun z => nomatch z) (fun z => ?_)
      exact rl_fault (u := 1) (A := A) (by unfold sp_rd; rw [if_pos q0, if_neg q1])
  · refine gj_V1 lkX11_284 L1 rfl rfl (ev_X11_rd_lake_0 (t := 0) L1 B1 hB hn q0) dX11_read_6 rfl rfl rfl rfl rfl ?_
    refine gj_cast (h' := mj_up (mj_up (mj_up h 100 (mj_mt a0 a1 n B 0)) 108 (mj_ar 154 A)) 109 (mj_ar 3 W)) rfl rfl (by rw [← mj_p2 HA HW]) ?_
    refine gj_if_neb (tgt := 20) dX11_read_9 rfl (fun z => nomatch z) (fun z => ?_)
    exact rl_fault (u := 0) (A := A) (by unfold sp_rd; rw [if_neg q0])
