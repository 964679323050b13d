theorem mj_vI {x y : Nat} (h : x = y) : some (Value.int (nI x)) = some (.int (nI y)) := by rw [h]
section RV
variable {κ : Nat → Bool} {C : Nat → Nat → Nat}
theorem rv_7 (R : mj_Rel κ C) : C 27 0 ≤ 7 := by rw [rl_n R]; exact R.2.1.1
theorem rv_24 (R : mj_Rel κ C) : ∀ v, v < 7 → C 101 (87 + v) ≤ 24 := R.2.1.2.2.2.2.2.2.2.2.2.2.2.2.1
theorem rv_99 (R : mj_Rel κ C) : ∀ q, q < 25 → C 101 (4 + q) ≤ 99 := R.2.1.2.2.2.2.2.1
theorem rv_B (R : mj_Rel κ C) : ∀ q, q < 25 → (fun c => sp_bear (C 22 c) (C 23 c)) q = sp_mb (C 101) (fun q => C 101 (4 + q)) q := fun q hq => by
  show sp_bear (C 22 q) (C 23 q) = sp_bear (C 101 (30 + q)) (C 101 (4 + q))
  rw [rl_K R q hq, rl_I R q hq]
theorem rv_198 (R : mj_Rel κ C) : ∀ q, q < 25 → sp_mb (C 101) (fun q => C 101 (4 + q)) q ≤ 198 := fun q hq => by
  have := rv_99 R q hq
  have h2 : sp_mb (C 101) (fun q => C 101 (4 + q)) q ≤ 2 * C 101 (4 + q) := sp_bear_le
  omega
theorem rv_k (R : mj_Rel κ C) : ∀ v, v < C 27 0 → C 28 v = C 101 (73 + v) := fun v hv => rl_vk R v (by rw [← rl_n R]; exact hv)
theorem rv_w (R : mj_Rel κ C) : ∀ v, v < C 27 0 → C 29 v = C 101 (80 + v) := fun v hv => rl_vw R v (by rw [← rl_n R]; exact hv)
theorem rv_c (R : mj_Rel κ C) : ∀ v, v < C 27 0 → C 30 v = C 101 (87 + v) := fun v hv => rl_vc R v (by rw [← rl_n R]; exact hv)
theorem rv_f (R : mj_Rel κ C) : C 25 (C 20 0 % 7) = C 101 (55 + C 101 29 % 7) := by
  rw [rl_F R _ (Nat.mod_lt _ (by decide)), rl_d R]
theorem rv_yes (R : mj_Rel κ C) : sp_yess (C 28) (C 29) (C 30) (fun c => sp_bear (C 22 c) (C 23 c)) (C 25 (C 20 0 % 7)) (C 27 0) = sp_my (C 101) (fun q => C 101 (4 + q)) (C 101 (55 + C 101 29 % 7)) (C 101 0) := by
  rw [sp_yes_my (rv_7 R) (rv_k R) (rv_w R) (rv_c R) (rv_B R) (rv_198 R) (rv_24 R), rv_f R, rl_n R]
theorem rv_car (R : mj_Rel κ C) {s : Nat} : sp_car (C 29) (C 27 0) s = sp_mc (C 101) s := sp_car_mc (rl_n R) (rv_w R)
theorem rv_wet (R : mj_Rel κ C) : sp_wet (C 28) (C 29) (C 30) (fun c => sp_bear (C 22 c) (C 23 c)) (C 25 (C 20 0 % 7)) (C 27 0) = sp_mw (C 101) (fun q => C 101 (4 + q)) (sp_my (C 101) (fun q => C 101 (4 + q)) (C 101 (55 + C 101 29 % 7)) (C 101 0)) (C 101 0) := by
  rw [sp_wet_mw (rl_n R) (rv_7 R) (rv_k R) (rv_w R) (rv_c R) (rv_B R) (rv_198 R) (rv_24 R), rv_f R, rl_n R]
theorem rv_sn (R : mj_Rel κ C) {x s : Nat} : sp_sn (C 29) (C 27 0) (sp_hvy (C 29) (C 30) (fun c => sp_bear (C 22 c) (C 23 c)) (C 27 0)) x s = sp_msn (C 101) (fun q => C 101 (4 + q)) x s := sp_sn_msn (rl_n R) (rv_7 R) (rv_w R) (rv_c R) (rv_B R) (rv_24 R)
theorem mj_CI_7z {l : List Nat} {n : Nat} (I : mj_CI κ C) (hn : n ≤ 150) : mj_CI κ (mj_u C 7 (mj_row (n :: l))) :=
  mj_CI_of I (fun i q1 q2 => mj_u_ne (by omega)) I.2.2.2.2.1 I.2.2.2.2.2.1 hn I.2.2.2.2.2.2.2.1
theorem mj_CI_8 {i x : Nat} (I : mj_CI κ C) (hx : x ≤ 127) : mj_CI κ (mj_u C 8 (mj_un (C 8) i x)) :=
  mj_CI_of I (fun i q1 q2 => mj_u_ne (by omega)) I.2.2.2.2.1 I.2.2.2.2.2.1 I.2.2.2.2.2.2.1 (mj_un_le I.2.2.2.2.2.2.2.1 hx)
end RV
theorem st_clear_t {E : mj_E} {κ : Nat → Bool} {C : Nat → Nat → Nat} (R : mj_Rel κ C)   : mj_St E mj_G mj_isI iX10_clear iX11_clear [] (hh κ C) := by
  refine mj_st (ev_X10_clear R.1 ) ⟨_, rfl⟩ (ev_X11_clear (E := E) (h := hh κ (mj_u C 7 (mj_row [0, C 7 1, C 7 2]))) (hc100 κ (mj_u C 7 (mj_row [0, C 7 1, C 7 2])))) ?_ (hu100 rfl) ?_
  · exact mj_vI (rl_tx R).symm
  · refine ⟨mj_CI_u (mj_CI_7z R.1 (Nat.zero_le _)) (by omega) (by omega) (by omega) (by omega) (by omega), R.2.1, mj_RL_C R.2.2.1 fun o ho => ?_, fun i hi => ?_, ?_, ?_, (show C 11 = C 104 from rl_st R), (show C 0 0 = C 100 0 from rl_f0 R), (show C 0 1 = C 100 1 from rl_f1 R)⟩
    · rw [mj_u_ne (by omega), mj_u_ne (by omega)]
    · refine ⟨fun hk => ?_, (rl_im R hi).2⟩
      obtain ⟨q1, q2, q3⟩ := (rl_im R hi).1 hk
      exact ⟨q1, mj_RL_C q2 fun o ho => (by rw [mj_u_ne (by omega), mj_u_ne (by omega)]), q3⟩
    · exact rfl
    · exact (show C 8 = C 107 from rl_B R)
theorem st_type_t {E : mj_E} {κ : Nat → Bool} {C : Nat → Nat → Nat} (R : mj_Rel κ C) {c : Nat} (h0 : c ≤ 127) (h1 : C 7 0 < 150) : mj_St E mj_G mj_isI iX10_type iX11_type [.int (nI c)] (hh κ C) := by
  refine mj_st (ev_X10_type R.1 h0 h1) ⟨_, rfl⟩ (ev_X11_type (E := E) (h := hh κ (mj_u (mj_u C 8 (mj_un (C 8) (C 7 0) c)) 7 (mj_row [(C 7 0) + 1, C 7 1, C 7 2]))) (hc100 κ (mj_u (mj_u C 8 (mj_un (C 8) (C 7 0) c)) 7 (mj_row [(C 7 0) + 1, C 7 1, C 7 2]))) (hc107 κ (mj_u (mj_u C 8 (mj_un (C 8) (C 7 0) c)) 7 (mj_row [(C 7 0) + 1, C 7 1, C 7 2]))) h0 (show C 100 2 < 150 by rw [← rl_tx R]; exact h1)) ?_ (hu100 (hu107 rfl)) ?_
  · exact mj_vI (congrArg (· + 1) (rl_tx R).symm)
  · refine ⟨mj_CI_u (mj_CI_u (mj_CI_7z (mj_CI_8 R.1 h0) (show C 7 0 + 1 ≤ 150 by omega)) (by omega) (by omega) (by omega) (by omega) (by omega)) (by omega) (by omega) (by omega) (by omega) (by omega), R.2.1, mj_RL_C R.2.2.1 fun o ho => ?_, fun i hi => ?_, ?_, ?_, (show C 11 = C 104 from rl_st R), (show C 0 0 = C 100 0 from rl_f0 R), (show C 0 1 = C 100 1 from rl_f1 R)⟩
    · rw [mj_u_ne (by omega), mj_u_ne (by omega), mj_u_ne (by omega), mj_u_ne (by omega)]
    · refine ⟨fun hk => ?_, (rl_im R hi).2⟩
      obtain ⟨q1, q2, q3⟩ := (rl_im R hi).1 hk
      exact ⟨q1, mj_RL_C q2 fun o ho => (by rw [mj_u_ne (by omega), mj_u_ne (by omega), mj_u_ne (by omega), mj_u_ne (by omega)]), q3⟩
    · exact congrArg (· + 1) (rl_tx R)
    · show mj_un (C 8) (C 7 0) c = mj_un (C 107) (C 100 2) c
      rw [rl_tx R, rl_B R]
theorem st_type_full_t {E : mj_E} {κ : Nat → Bool} {C : Nat → Nat → Nat} (R : mj_Rel κ C) {c : Nat} (h0 : c ≤ 127) (h1 : C 7 0 = 150) : mj_St E mj_G mj_isI iX10_type iX11_type [.int (nI c)] (hh κ C) := by
  refine mj_st (ev_X10_type_full R.1 h0 h1) ⟨_, rfl⟩ (ev_X11_type_full (E := E) (h := hh κ (mj_u C 11 (mj_un (C 11) 2 ((C 11 2) + 1)))) (hc100 κ (mj_u C 11 (mj_un (C 11) 2 ((C 11 2) + 1)))) (hc107 κ (mj_u C 11 (mj_un (C 11) 2 ((C 11 2) + 1)))) (hc104 κ (mj_u C 11 (mj_un (C 11) 2 ((C 11 2) + 1)))) h0 (show C 100 2 = 150 by rw [← rl_tx R]; exact h1)) ?_ (hu104 rfl) ?_
  · exact rfl
  · exact R.bad
theorem st_voter_full_t {E : mj_E} {κ : Nat → Bool} {C : Nat → Nat → Nat} (R : mj_Rel κ C) {k w c : Nat} (h0 : k ≤ 5) (h1 : 1 ≤ w) (h2 : w ≤ 99) (h3 : c < 25) (h4 : C 27 0 = 7) : mj_St E mj_G mj_isI iX10_voter iX11_voter [.int (nI k), .int (nI w), .int (nI c)] (hh κ C) := by
  refine mj_st (ev_X10_voter_full R.1 h0 h1 h2 h3 h4) ⟨_, rfl⟩ (ev_X11_voter_full (E := E) (h := hh κ (mj_u C 11 (mj_un (C 11) 2 ((C 11 2) + 1)))) (hc100 κ (mj_u C 11 (mj_un (C 11) 2 ((C 11 2) + 1)))) (hc101 κ (mj_u C 11 (mj_un (C 11) 2 ((C 11 2) + 1)))) (hc104 κ (mj_u C 11 (mj_un (C 11) 2 ((C 11 2) + 1)))) (show mj_Tb ((mj_u C 11 (mj_un (C 11) 2 ((C 11 2) + 1))) 101) from R.2.1) h0 h1 h2 h3 (show C 101 0 = 7 by rw [← rl_n R]; exact h4)) ?_ (hu104 rfl) ?_
  · exact rfl
  · exact R.bad
theorem st_note_full_t {E : mj_E} {κ : Nat → Bool} {C : Nat → Nat → Nat} (R : mj_Rel κ C) {c i f s j : Nat} (h0 : c < 25) (h1 : i ≤ 99) (h2 : f ≤ 9) (h3 : s ≤ 9) (h4 : j ≤ 99) (h5 : C 31 0 = 6) : mj_St E mj_G mj_isI iX10_note iX11_note [.int (nI c), .int (nI i), .int (nI f), .int (nI s), .int (nI j)] (hh κ C) := by
  refine mj_st (ev_X10_note_full R.1 h0 h1 h2 h3 h4 h5) ⟨_, rfl⟩ (ev_X11_note_full (E := E) (h := hh κ (mj_u C 11 (mj_un (C 11) 2 ((C 11 2) + 1)))) (hc100 κ (mj_u C 11 (mj_un (C 11) 2 ((C 11 2) + 1)))) (hc101 κ (mj_u C 11 (mj_un (C 11) 2 ((C 11 2) + 1)))) (hc104 κ (mj_u C 11 (mj_un (C 11) 2 ((C 11 2) + 1)))) (show mj_Tb ((mj_u C 11 (mj_un (C 11) 2 ((C 11 2) + 1))) 101) from R.2.1) h0 h1 h2 h3 h4 (show C 101 1 = 6 by rw [← rl_n1 R]; exact h5)) ?_ (hu104 rfl) ?_
  · exact rfl
  · exact R.bad
theorem st_voted_full_t {E : mj_E} {κ : Nat → Bool} {C : Nat → Nat → Nat} (R : mj_Rel κ C) {v y p m f : Nat} (h0 : v < C 27 0) (h1 : y ≤ 1) (h2 : p ≤ 198) (h3 : m ≤ 198) (h4 : f ≤ 9) (h5 : C 33 0 = 6) : mj_St E mj_G mj_isI iX10_voted iX11_voted [.int (nI v), .int (nI y), .int (nI p), .int (nI m), .int (nI f)] (hh κ C) := by
  refine mj_st (ev_X10_voted_full R.1 h0 h1 h2 h3 h4 h5) ⟨_, rfl⟩ (ev_X11_voted_full (E := E) (h := hh κ (mj_u C 11 (mj_un (C 11) 2 ((C 11 2) + 1)))) (hc100 κ (mj_u C 11 (mj_un (C 11) 2 ((C 11 2) + 1)))) (hc101 κ (mj_u C 11 (mj_un (C 11) 2 ((C 11 2) + 1)))) (hc104 κ (mj_u C 11 (mj_un (C 11) 2 ((C 11 2) + 1)))) (show mj_Tb ((mj_u C 11 (mj_un (C 11) 2 ((C 11 2) + 1))) 101) from R.2.1) (show v < C 101 0 by rw [← rl_n R]; exact h0) h1 h2 h3 h4 (show C 101 2 = 6 by rw [← rl_n2 R]; exact h5)) ?_ (hu104 rfl) ?_
  · exact rfl
  · exact R.bad
theorem st_undo_no_t {E : mj_E} {κ : Nat → Bool} {C : Nat → Nat → Nat} (R : mj_Rel κ C)  (h0 : C 35 0 = 0) : mj_St E mj_G mj_isI iX10_undo iX11_undo [] (hh κ C) := by
  refine mj_st (ev_X10_undo_no R.1 h0) ⟨_, rfl⟩ (ev_X11_undo_no (E := E) (h := hh κ (mj_u C 11 (mj_un (C 11) 1 ((C 11 1) + 1)))) (hc100 κ (mj_u C 11 (mj_un (C 11) 1 ((C 11 1) + 1)))) (hc101 κ (mj_u C 11 (mj_un (C 11) 1 ((C 11 1) + 1)))) (hc104 κ (mj_u C 11 (mj_un (C 11) 1 ((C 11 1) + 1)))) (show mj_Tb ((mj_u C 11 (mj_un (C 11) 1 ((C 11 1) + 1))) 101) from R.2.1) (show C 101 3 = 0 by rw [← rl_n3 R]; exact h0)) ?_ (hu104 rfl) ?_
  · exact rfl
  · exact R.bad
theorem st_of_0_t {E : mj_E} {κ : Nat → Bool} {C : Nat → Nat → Nat} (R : mj_Rel κ C) {c : Nat} (h0 : c < 25) : mj_St E mj_G mj_isI iX10_of iX11_of [.int (nI c), .int (nI 0)] (hh κ C) := by
  refine mj_st (ev_X10_of_0 R.1 h0) ⟨_, rfl⟩ (ev_X11_of_0 (E := E) (h := hh κ C) (hc100 κ C) (hc101 κ C) (show mj_Tb (C 101) from R.2.1) h0) ?_ rfl ?_
  · exact mj_vI (rl_K R c h0).symm
  · exact R.al (mj_Al.rf R.1)
theorem st_of_1_t {E : mj_E} {κ : Nat → Bool} {C : Nat → Nat → Nat} (R : mj_Rel κ C) {c : Nat} (h0 : c < 25) : mj_St E mj_G mj_isI iX10_of iX11_of [.int (nI c), .int (nI 1)] (hh κ C) := by
  refine mj_st (ev_X10_of_1 R.1 h0) ⟨_, rfl⟩ (ev_X11_of_1 (E := E) (h := hh κ C) (hc100 κ C) (hc101 κ C) (show mj_Tb (C 101) from R.2.1) h0) ?_ rfl ?_
  · exact mj_vI (rl_I R c h0).symm
  · exact R.al (mj_Al.rf R.1)
theorem st_of_2_t {E : mj_E} {κ : Nat → Bool} {C : Nat → Nat → Nat} (R : mj_Rel κ C) {c : Nat} (h0 : c < 25) : mj_St E mj_G mj_isI iX10_of iX11_of [.int (nI c), .int (nI 2)] (hh κ C) := by
  refine mj_st (ev_X10_of_2 R.1 h0) ⟨_, rfl⟩ (ev_X11_of_2 (E := E) (h := hh κ C) (hc100 κ C) (hc101 κ C) (show mj_Tb (C 101) from R.2.1) h0) ?_ rfl ?_
  · exact mj_vI (by rw [rl_K R c h0, rl_I R c h0])
  · exact R.al (mj_Al.rf R.1)
theorem st_about_0_t {E : mj_E} {κ : Nat → Bool} {C : Nat → Nat → Nat} (R : mj_Rel κ C) {v : Nat} (h0 : v < C 27 0) : mj_St E mj_G mj_isI iX10_about iX11_about [.int (nI v), .int (nI 0)] (hh κ C) := by
  refine mj_st (ev_X10_about_0 R.1 h0) ⟨_, rfl⟩ (ev_X11_about_0 (E := E) (h := hh κ C) (hc100 κ C) (hc101 κ C) (hc105 κ C) (show mj_Tb (C 101) from R.2.1) (show v < C 101 0 by rw [← rl_n R]; exact h0)) ?_ (hu105 rfl) ?_
  · exact mj_vI (rl_vk R v (by rw [← rl_n R]; exact h0)).symm
  · exact R.al ((mj_Al.rf R.1).u rfl (by decide) (by decide))
theorem st_about_1_t {E : mj_E} {κ : Nat → Bool} {C : Nat → Nat → Nat} (R : mj_Rel κ C) {v : Nat} (h0 : v < C 27 0) : mj_St E mj_G mj_isI iX10_about iX11_about [.int (nI v), .int (nI 1)] (hh κ C) := by
  refine mj_st (ev_X10_about_1 R.1 h0) ⟨_, rfl⟩ (ev_X11_about_1 (E := E) (h := hh κ C) (hc100 κ C) (hc101 κ C) (hc105 κ C) (show mj_Tb (C 101) from R.2.1) (show v < C 101 0 by rw [← rl_n R]; exact h0)) ?_ (hu105 rfl) ?_
  · exact mj_vI (rl_vw R v (by rw [← rl_n R]; exact h0)).symm
  · exact R.al ((mj_Al.rf R.1).u rfl (by decide) (by decide))
theorem st_about_2_t {E : mj_E} {κ : Nat → Bool} {C : Nat → Nat → Nat} (R : mj_Rel κ C) {v : Nat} (h0 : v < C 27 0) : mj_St E mj_G mj_isI iX10_about iX11_about [.int (nI v), .int (nI 2)] (hh κ C) := by
  refine mj_st (ev_X10_about_2 R.1 h0) ⟨_, rfl⟩ (ev_X11_about_2 (E := E) (h := hh κ C) (hc100 κ C) (hc101 κ C) (hc105 κ C) (show mj_Tb (C 101) from R.2.1) (show v < C 101 0 by rw [← rl_n R]; exact h0)) ?_ (hu105 rfl) ?_
  · exact mj_vI (rl_vc R v (by rw [← rl_n R]; exact h0)).symm
  · exact R.al ((mj_Al.rf R.1).u rfl (by decide) (by decide))
theorem st_about_3_t {E : mj_E} {κ : Nat → Bool} {C : Nat → Nat → Nat} (R : mj_Rel κ C) {v : Nat} (h0 : v < C 27 0) : mj_St E mj_G mj_isI iX10_about iX11_about [.int (nI v), .int (nI 3)] (hh κ C) := by
  refine mj_st (ev_X10_about_3 R.1 h0) ⟨_, rfl⟩ (ev_X11_about_3 (E := E) (h := hh κ C) (hc100 κ C) (hc101 κ C) (hc105 κ C) (show mj_Tb (C 101) from R.2.1) (show v < C 101 0 by rw [← rl_n R]; exact h0)) ?_ (hu105 rfl) ?_
  · refine mj_vI ?_
    rw [rv_yes R]
    have hv : v < C 101 0 := by rw [← rl_n R]; exact h0
    have e : Nat.testBit (sp_my (C 101) (fun q => C 101 (4 + q)) (C 101 (55 + C 101 29 % 7)) (C 101 0)) v = sp_mv (C 101) (fun q => C 101 (4 + q)) (C 101 (55 + C 101 29 % 7)) v := by
      unfold sp_my; rw [mj_bits_tb, decide_eq_true hv, Bool.true_and]
    rw [e]
  · exact R.al ((mj_Al.rf R.1).u rfl (by decide) (by decide))
theorem st_then_0_t {E : mj_E} {κ : Nat → Bool} {C : Nat → Nat → Nat} (R : mj_Rel κ C) {c m : Nat} (h0 : c < 25) (h1 : m ≤ 60) : mj_St E mj_G mj_isI iX10_then iX11_then [.int (nI c), .int (nI m), .int (nI 0)] (hh κ C) := by
  refine mj_st (ev_X10_then_0 R.1 h0 h1) ⟨_, rfl⟩ (ev_X11_then_0 (E := E) (h := hh κ C) (hc100 κ C) (hc101 κ C) (hc105 κ C) (show mj_Tb (C 101) from R.2.1) h0 h1) ?_ (hu105 (hu105 rfl)) ?_
  · exact mj_vI (by rw [rl_d R]; exact (sp_days_c (rl_K R) (rl_F R) (rl_U R) (rl_I R) c h0).symm)
  · exact R.al (((mj_Al.rf R.1).u rfl (by decide) (by decide)).u rfl (by decide) (by decide))
theorem st_then_1_t {E : mj_E} {κ : Nat → Bool} {C : Nat → Nat → Nat} (R : mj_Rel κ C) {c m : Nat} (h0 : c < 25) (h1 : m ≤ 60) : mj_St E mj_G mj_isI iX10_then iX11_then [.int (nI c), .int (nI m), .int (nI 1)] (hh κ C) := by
  refine mj_st (ev_X10_then_1 R.1 h0 h1) ⟨_, rfl⟩ (ev_X11_then_1 (E := E) (h := hh κ C) (hc100 κ C) (hc101 κ C) (hc105 κ C) (show mj_Tb (C 101) from R.2.1) h0 h1) ?_ (hu105 (hu105 rfl)) ?_
  · exact mj_vI (by rw [rl_d R, rl_K R c h0]; exact congrArg (sp_bear _) ((sp_icem_c (rl_F R) (rl_U R)).trans (by rw [rl_I R c h0]; rfl)).symm)
  · exact R.al (((mj_Al.rf R.1).u rfl (by decide) (by decide)).u rfl (by decide) (by decide))
theorem st_votes_0_t {E : mj_E} {κ : Nat → Bool} {C : Nat → Nat → Nat} (R : mj_Rel κ C)   : mj_St E mj_G mj_isI iX10_votes iX11_votes [.int (nI 0)] (hh κ C) := by
  refine mj_st (ev_X10_votes_0 R.1 ) ⟨_, rfl⟩ (ev_X11_votes_0 (E := E) (h := hh κ C) (hc100 κ C) (hc101 κ C) (hc105 κ C) (show mj_Tb (C 101) from R.2.1)) ?_ (hu105 rfl) ?_
  · exact mj_vI (rv_yes R).symm
  · exact R.al ((mj_Al.rf R.1).u rfl (by decide) (by decide))
theorem st_votes_1_t {E : mj_E} {κ : Nat → Bool} {C : Nat → Nat → Nat} (R : mj_Rel κ C)   : mj_St E mj_G mj_isI iX10_votes iX11_votes [.int (nI 1)] (hh κ C) := by
  refine mj_st (ev_X10_votes_1 R.1 ) ⟨_, rfl⟩ (ev_X11_votes_1 (E := E) (h := hh κ C) (hc100 κ C) (hc101 κ C) (hc105 κ C) (show mj_Tb (C 101) from R.2.1)) ?_ (hu105 rfl) ?_
  · refine mj_vI ?_
    rw [rv_yes R, rv_car R]
  · exact R.al ((mj_Al.rf R.1).u rfl (by decide) (by decide))
theorem st_votes_2_t {E : mj_E} {κ : Nat → Bool} {C : Nat → Nat → Nat} (R : mj_Rel κ C)   : mj_St E mj_G mj_isI iX10_votes iX11_votes [.int (nI 2)] (hh κ C) := by
  refine mj_st (ev_X10_votes_2 R.1 ) ⟨_, rfl⟩ (ev_X11_votes_2 (E := E) (h := hh κ C) (hc100 κ C) (hc101 κ C) (hc105 κ C) (show mj_Tb (C 101) from R.2.1)) ?_ (hu105 rfl) ?_
  · exact mj_vI (rv_wet R).symm
  · exact R.al ((mj_Al.rf R.1).u rfl (by decide) (by decide))
theorem st_turn_t {E : mj_E} {κ : Nat → Bool} {C : Nat → Nat → Nat} (R : mj_Rel κ C)   : mj_St E mj_G mj_isI iX10_turn iX11_turn [] (hh κ C) := by
  refine mj_st (ev_X10_turn R.1 ) ⟨_, rfl⟩ (ev_X11_turn (E := E) (h := hh κ C) (hc100 κ C) (hc101 κ C) (hc105 κ C) (show mj_Tb (C 101) from R.2.1)) ?_ (hu105 rfl) ?_
  · exact mj_vI (by rw [rv_yes R, rl_n R]; exact (sp_turn_c (rl_vw R)).symm)
  · exact R.al ((mj_Al.rf R.1).u rfl (by decide) (by decide))
theorem st_when_t {E : mj_E} {κ : Nat → Bool} {C : Nat → Nat → Nat} (R : mj_Rel κ C) {c w : Nat} (h0 : c < 25) (h1 : 1 ≤ w) (h2 : w ≤ 198) : mj_St E mj_G mj_isI iX10_when iX11_when [.int (nI c), .int (nI w)] (hh κ C) := by
  refine mj_st (ev_X10_when R.1 h0 h1 h2) ⟨_, rfl⟩ (ev_X11_when (E := E) (h := hh κ C) (hc100 κ C) (hc101 κ C) (hc105 κ C) (show mj_Tb (C 101) from R.2.1) h0 h1 h2) ?_ (hu105 rfl) ?_
  · refine mj_vI (congrArg (sp_or 61) ?_)
    rw [rl_K R c h0, rl_I R c h0, rl_d R]
    exact (sp_fst_congr fun m _ => sp_wh_c (rl_F R) (rl_U R)).symm
  · exact R.al ((mj_Al.rf R.1).u rfl (by decide) (by decide))
theorem st_where_t {E : mj_E} {κ : Nat → Bool} {C : Nat → Nat → Nat} (R : mj_Rel κ C) {w m : Nat} (h0 : 1 ≤ w) (h1 : w ≤ 198) (h2 : m ≤ 60) : mj_St E mj_G mj_isI iX10_where iX11_where [.int (nI w), .int (nI m)] (hh κ C) := by
  refine mj_st (ev_X10_where R.1 h0 h1 h2) ⟨_, rfl⟩ (ev_X11_where (E := E) (h := hh κ (mj_u (mj_u C 2 (C 22)) 3 (sp_days (C 22) (C 25) (C 26) (C 20 0) (C 23) m))) (hc100 κ (mj_u (mj_u C 2 (C 22)) 3 (sp_days (C 22) (C 25) (C 26) (C 20 0) (C 23) m))) (hc101 κ (mj_u (mj_u C 2 (C 22)) 3 (sp_days (C 22) (C 25) (C 26) (C 20 0) (C 23) m))) (hc105 κ (mj_u (mj_u C 2 (C 22)) 3 (sp_days (C 22) (C 25) (C 26) (C 20 0) (C 23) m))) (show mj_Tb ((mj_u (mj_u C 2 (C 22)) 3 (sp_days (C 22) (C 25) (C 26) (C 20 0) (C 23) m)) 101) from R.2.1) h0 h1 h2) ?_ (hu105 (hu105 rfl)) ?_
  · exact mj_vI (by rw [rl_d R]; exact (sp_open_c (rl_K R) (sp_days_c (rl_K R) (rl_F R) (rl_U R) (rl_I R))).symm)
  · exact R.al (((((mj_Al.rf R.1).u2 (fun q => R.1.1 2 (by decide) q)).u3 (fun q => sp_icem_le (R.1.1 3 (by decide) q))).u rfl (by decide) (by decide)).u rfl (by decide) (by decide))
theorem st_horses_t {E : mj_E} {κ : Nat → Bool} {C : Nat → Nat → Nat} (R : mj_Rel κ C) {w : Nat} (h0 : 1 ≤ w) (h1 : w ≤ 198) : mj_St E mj_G mj_isI iX10_horses iX11_horses [.int (nI w)] (hh κ C) := by
  refine mj_st (ev_X10_horses R.1 h0 h1) ⟨_, rfl⟩ (ev_X11_horses (E := E) (h := hh κ (mj_u (mj_u C 2 (C 22)) 3 (sp_days (C 22) (C 25) (C 26) (C 20 0) (C 23) (sp_fst (sp_hp (C 22) (C 25) (C 26) (C 20 0) (C 23) w) 61)))) (hc100 κ (mj_u (mj_u C 2 (C 22)) 3 (sp_days (C 22) (C 25) (C 26) (C 20 0) (C 23) (sp_fst (sp_hp (C 22) (C 25) (C 26) (C 20 0) (C 23) w) 61)))) (hc101 κ (mj_u (mj_u C 2 (C 22)) 3 (sp_days (C 22) (C 25) (C 26) (C 20 0) (C 23) (sp_fst (sp_hp (C 22) (C 25) (C 26) (C 20 0) (C 23) w) 61)))) (hc105 κ (mj_u (mj_u C 2 (C 22)) 3 (sp_days (C 22) (C 25) (C 26) (C 20 0) (C 23) (sp_fst (sp_hp (C 22) (C 25) (C 26) (C 20 0) (C 23) w) 61)))) (show mj_Tb ((mj_u (mj_u C 2 (C 22)) 3 (sp_days (C 22) (C 25) (C 26) (C 20 0) (C 23) (sp_fst (sp_hp (C 22) (C 25) (C 26) (C 20 0) (C 23) w) 61))) 101) from R.2.1) h0 h1) ?_ (hu105 rfl) ?_
  · exact mj_vI (congrArg (sp_or 61) (by rw [rl_d R]; exact (sp_fst_congr fun m _ => sp_hp_c (rl_K R) (rl_F R) (rl_U R) (rl_I R)).symm))
  · exact R.al ((((mj_Al.rf R.1).u2 (fun q => R.1.1 2 (by decide) q)).u3 (fun q => sp_icem_le (R.1.1 3 (by decide) q))).u rfl (by decide) (by decide))
theorem st_stones_t {E : mj_E} {κ : Nat → Bool} {C : Nat → Nat → Nat} (R : mj_Rel κ C) {w a c : Nat} (h0 : 1 ≤ w) (h1 : w ≤ 198) (h2 : a < 25) (h3 : c < 25) (h4 : ¬ a = c) : mj_St E mj_G mj_isI iX10_stones iX11_stones [.int (nI w), .int (nI a), .int (nI c)] (hh κ C) := by
  refine mj_st (ev_X10_stones R.1 h0 h1 h2 h3 h4) ⟨_, rfl⟩ (ev_X11_stones (E := E) (h := hh κ C) (hc100 κ C) (hc101 κ C) (hc105 κ C) (show mj_Tb (C 101) from R.2.1) h0 h1 h2 h3 h4) ?_ (hu105 rfl) ?_
  · exact mj_vI (by rw [rl_K R a h2, rl_I R a h2, rl_K R c h3, rl_I R c h3])
  · exact R.al ((mj_Al.rf R.1).u rfl (by decide) (by decide))
theorem st_lies_t {E : mj_E} {κ : Nat → Bool} {C : Nat → Nat → Nat} (R : mj_Rel κ C)   : mj_St E mj_G mj_isI iX10_lies iX11_lies [] (hh κ C) := by
  refine mj_st (ev_X10_lies R.1 ) ⟨_, rfl⟩ (ev_X11_lies (E := E) (h := hh κ C) (hc100 κ C) (hc101 κ C) (show mj_Tb (C 101) from R.2.1)) ?_ rfl ?_
  · exact mj_vI (mj_bits_c fun w hw => by rw [sp_ward_c (rl_I R) hw, rl_W R w hw]).symm
  · exact R.al (mj_Al.rf R.1)
theorem st_status_0_t {E : mj_E} {κ : Nat → Bool} {C : Nat → Nat → Nat} (R : mj_Rel κ C)   : mj_St E mj_G mj_isI iX10_status iX11_status [.int (nI 0)] (hh κ C) := by
  refine mj_st (ev_X10_status_0 R.1 ) ⟨_, rfl⟩ (ev_X11_status_0 (E := E) (h := hh κ C) (hc100 κ C) (hc104 κ C)) ?_ rfl ?_
  · exact mj_vI (congrFun (rl_st R) 0).symm
  · exact R.al (mj_Al.rf R.1)
theorem st_status_1_t {E : mj_E} {κ : Nat → Bool} {C : Nat → Nat → Nat} (R : mj_Rel κ C)   : mj_St E mj_G mj_isI iX10_status iX11_status [.int (nI 1)] (hh κ C) := by
  refine mj_st (ev_X10_status_1 R.1 ) ⟨_, rfl⟩ (ev_X11_status_1 (E := E) (h := hh κ C) (hc100 κ C) (hc104 κ C)) ?_ rfl ?_
  · exact mj_vI (congrFun (rl_st R) 1).symm
  · exact R.al (mj_Al.rf R.1)
theorem st_status_2_t {E : mj_E} {κ : Nat → Bool} {C : Nat → Nat → Nat} (R : mj_Rel κ C)   : mj_St E mj_G mj_isI iX10_status iX11_status [.int (nI 2)] (hh κ C) := by
  refine mj_st (ev_X10_status_2 R.1 ) ⟨_, rfl⟩ (ev_X11_status_2 (E := E) (h := hh κ C) (hc100 κ C) (hc104 κ C)) ?_ rfl ?_
  · exact mj_vI (congrFun (rl_st R) 2).symm
  · exact R.al (mj_Al.rf R.1)
theorem st_count_0_t {E : mj_E} {κ : Nat → Bool} {C : Nat → Nat → Nat} (R : mj_Rel κ C)   : mj_St E mj_G mj_isI iX10_count iX11_count [.int (nI 0)] (hh κ C) := by
  refine mj_st (ev_X10_count_0 R.1 ) ⟨_, rfl⟩ (ev_X11_count_0 (E := E) (h := hh κ C) (hc100 κ C) (hc101 κ C)) ?_ rfl ?_
  · exact mj_vI (rl_n R).symm
  · exact R.al (mj_Al.rf R.1)
theorem st_count_1_t {E : mj_E} {κ : Nat → Bool} {C : Nat → Nat → Nat} (R : mj_Rel κ C)   : mj_St E mj_G mj_isI iX10_count iX11_count [.int (nI 1)] (hh κ C) := by
  refine mj_st (ev_X10_count_1 R.1 ) ⟨_, rfl⟩ (ev_X11_count_1 (E := E) (h := hh κ C) (hc100 κ C) (hc101 κ C)) ?_ rfl ?_
  · exact mj_vI (rl_d R).symm
  · exact R.al (mj_Al.rf R.1)
theorem st_count_2_t {E : mj_E} {κ : Nat → Bool} {C : Nat → Nat → Nat} (R : mj_Rel κ C)   : mj_St E mj_G mj_isI iX10_count iX11_count [.int (nI 2)] (hh κ C) := by
  refine mj_st (ev_X10_count_2 R.1 ) ⟨_, rfl⟩ (ev_X11_count_2 (E := E) (h := hh κ C) (hc100 κ C) (hc101 κ C)) ?_ rfl ?_
  · exact mj_vI (sp_sum_congr (rl_I R)).symm
  · exact R.al (mj_Al.rf R.1)
theorem st_count_3_t {E : mj_E} {κ : Nat → Bool} {C : Nat → Nat → Nat} (R : mj_Rel κ C)   : mj_St E mj_G mj_isI iX10_count iX11_count [.int (nI 3)] (hh κ C) := by
  refine mj_st (ev_X10_count_3 R.1 ) ⟨_, rfl⟩ (ev_X11_count_3 (E := E) (h := hh κ C) (hc100 κ C) (hc101 κ C)) ?_ rfl ?_
  · exact mj_vI (rl_n1 R).symm
  · exact R.al (mj_Al.rf R.1)
theorem st_count_4_t {E : mj_E} {κ : Nat → Bool} {C : Nat → Nat → Nat} (R : mj_Rel κ C)   : mj_St E mj_G mj_isI iX10_count iX11_count [.int (nI 4)] (hh κ C) := by
  refine mj_st (ev_X10_count_4 R.1 ) ⟨_, rfl⟩ (ev_X11_count_4 (E := E) (h := hh κ C) (hc100 κ C) (hc101 κ C)) ?_ rfl ?_
  · exact mj_vI (rl_n2 R).symm
  · exact R.al (mj_Al.rf R.1)
theorem st_count_5_t {E : mj_E} {κ : Nat → Bool} {C : Nat → Nat → Nat} (R : mj_Rel κ C)   : mj_St E mj_G mj_isI iX10_count iX11_count [.int (nI 5)] (hh κ C) := by
  refine mj_st (ev_X10_count_5 R.1 ) ⟨_, rfl⟩ (ev_X11_count_5 (E := E) (h := hh κ C) (hc100 κ C) (hc101 κ C)) ?_ rfl ?_
  · exact mj_vI (rl_n3 R).symm
  · exact R.al (mj_Al.rf R.1)
theorem st_count_6_t {E : mj_E} {κ : Nat → Bool} {C : Nat → Nat → Nat} (R : mj_Rel κ C)   : mj_St E mj_G mj_isI iX10_count iX11_count [.int (nI 6)] (hh κ C) := by
  refine mj_st (ev_X10_count_6 R.1 ) ⟨_, rfl⟩ (ev_X11_count_6 (E := E) (h := hh κ C) (hc100 κ C) (hc101 κ C)) ?_ rfl ?_
  · exact mj_vI (rl_tx R).symm
  · exact R.al (mj_Al.rf R.1)
theorem st_part_0_t {E : mj_E} {κ : Nat → Bool} {C : Nat → Nat → Nat} (R : mj_Rel κ C)   : mj_St E mj_G mj_isL iX10_part iX11_part [.int (nI 0)] (hh κ C) := by
  refine mj_st (ev_X10_part_0 R.1 ) ⟨_, rfl⟩ (ev_X11_part_0 (E := E) (h := hh κ C) (hc100 κ C)) ?_ rfl ?_
  · exact congrArg (fun x => some (Value.long (lN x))) (rl_f0 R).symm
  · exact R.al (mj_Al.rf R.1)
theorem st_part_1_t {E : mj_E} {κ : Nat → Bool} {C : Nat → Nat → Nat} (R : mj_Rel κ C)   : mj_St E mj_G mj_isL iX10_part iX11_part [.int (nI 1)] (hh κ C) := by
  refine mj_st (ev_X10_part_1 R.1 ) ⟨_, rfl⟩ (ev_X11_part_1 (E := E) (h := hh κ C) (hc100 κ C)) ?_ rfl ?_
  · exact congrArg (fun x => some (Value.long (lN x))) (rl_f1 R).symm
  · exact R.al (mj_Al.rf R.1)
theorem st_seen_0_t {E : mj_E} {κ : Nat → Bool} {C : Nat → Nat → Nat} (R : mj_Rel κ C) {x : Nat} (h0 : x < 1 <<< (C 27 0)) : mj_St E mj_G mj_isI iX10_seen iX11_seen [.int (nI x), .int (nI 0)] (hh κ C) := by
  refine mj_st (ev_X10_seen_0 R.1 h0) ⟨_, rfl⟩ (ev_X11_seen_0 (E := E) (h := hh κ C) (hc100 κ C) (hc101 κ C) (hc105 κ C) (show mj_Tb (C 101) from R.2.1) (show x < 1 <<< C 101 0 by rw [← rl_n R]; exact h0)) ?_ (hu105 rfl) ?_
  · exact mj_vI (by rw [rl_n R]; exact (mj_fo_c fun s _ a => by rw [← rv_sn R (x := x) (s := s), rl_n R]).symm)
  · exact R.al ((mj_Al.rf R.1).u rfl (by decide) (by decide))
theorem st_seen_2_t {E : mj_E} {κ : Nat → Bool} {C : Nat → Nat → Nat} (R : mj_Rel κ C) {x : Nat} (h0 : x < 1 <<< (C 27 0)) : mj_St E mj_G mj_isI iX10_seen iX11_seen [.int (nI x), .int (nI 2)] (hh κ C) := by
  refine mj_st (ev_X10_seen_2 R.1 h0) ⟨_, rfl⟩ (ev_X11_seen_2 (E := E) (h := hh κ C) (hc100 κ C) (hc101 κ C) (hc105 κ C) (show mj_Tb (C 101) from R.2.1) (show x < 1 <<< C 101 0 by rw [← rl_n R]; exact h0)) ?_ (hu105 rfl) ?_
  · exact mj_vI (by rw [rl_n R]; exact (mj_fo_c fun s _ a => by rw [← rv_sn R (x := x) (s := s), rl_n R]).symm)
  · exact R.al ((mj_Al.rf R.1).u rfl (by decide) (by decide))
