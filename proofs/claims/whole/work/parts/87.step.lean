section RV2
variable {κ : Nat → Bool} {C : Nat → Nat → Nat}
theorem rv_kn (R : mj_Rel κ C) {c : Nat} : sp_kn (C 32) (C 31 0) c = sp_mkn (C 101) c := by
  unfold sp_kn sp_mkn
  rw [rl_n1 R]
  refine mj_bits_c fun k _ => sp_all_c fun i hi => ?_
  have e : ∀ j, j < 5 → C 32 (i * 5 + j) = C 101 (94 + 5 * i + j) := fun j hj => by
    rw [rl_N R (i * 5 + j) (by omega)]; exact congrArg (C 101) (by omega)
  unfold sp_np sp_mnp
  rw [e 0 (by decide), e 1 (by decide), e 2 (by decide), e 3 (by decide), e 4 (by decide), Nat.add_zero]
theorem rv_wk (R : mj_Rel κ C) {v : Nat} (hv : v < C 27 0) : sp_wk (C 34) (C 33 0) (C 29 v) v = sp_mwk (C 101) v := by
  unfold sp_wk sp_mwk
  rw [rl_n2 R, rv_w R v hv]
  refine mj_bits_c fun k _ => sp_all_c fun i hi => ?_
  have e : ∀ j, j < 5 → C 34 (i * 5 + j) = C 101 (124 + 5 * i + j) := fun j hj => by
    rw [rl_P R (i * 5 + j) (by omega)]; exact congrArg (C 101) (by omega)
  unfold sp_pp sp_mpp
  rw [e 0 (by decide), e 1 (by decide), e 2 (by decide), e 3 (by decide), e 4 (by decide), Nat.add_zero]
theorem rv_rst (R : mj_Rel κ C) {a s : Nat} (ha : a < C 27 0) : sp_rst (C 29) (C 27 0) (sp_hvy (C 29) (C 30) (fun c => sp_bear (C 22 c) (C 23 c)) (C 27 0)) a s = sp_mrt (C 101) (fun q => C 101 (4 + q)) a s := by
  have e : ∀ s, sp_r1 (C 29) (C 27 0) (sp_hvy (C 29) (C 30) (fun c => sp_bear (C 22 c) (C 23 c)) (C 27 0)) a s = sp_mr1 (C 101) (fun q => C 101 (4 + q)) a s := fun s => by
    unfold sp_r1 sp_mr1
    rw [rv_car R, sp_hvy_tb (rv_7 R) (rv_w R) (rv_c R) (rv_B R) (rv_24 R), decide_eq_true ha, Bool.true_and]
  unfold sp_rst sp_mrt
  rw [e, e]
theorem sp_fold_c {f g : Nat → Nat} {h : Int64} {m : Nat} (e : ∀ i, i < m → f i = g i) : sp_fold f h m = sp_fold g h m := mj_fo_c fun i hi x => by rw [e i hi]
theorem sp_f2_c {f g f' g' : Nat → Nat} {h : Int64} {m : Nat} (e : ∀ i, i < m → f i = f' i) (e2 : ∀ i, i < m → g i = g' i) : sp_f2 f g h m = sp_f2 f' g' h m := mj_fo_c fun i hi x => by rw [e i hi, e2 i hi]
theorem sp_vfold_c {f g k f' g' k' : Nat → Nat} {h : Int64} {m : Nat} (e : ∀ i, i < m → f i = f' i) (e2 : ∀ i, i < m → g i = g' i) (e3 : ∀ i, i < m → k i = k' i) : sp_vfold f g k h m = sp_vfold f' g' k' h m := mj_fo_c fun i hi x => by rw [e i hi, e2 i hi, e3 i hi]
/-! what is noted next -/
theorem mj_fo_i {α : Type} {P : α → Prop} {f : Nat → α → α} {a : α} {n : Nat} (h0 : P a) (hs : ∀ i x, i < n → P x → P (f i x)) : P (mj_fo f a n) := by
  have : ∀ k, k ≤ n → P (mj_fo f a k) := by
    intro k
    induction k with
    | zero => exact fun _ => h0
    | succ k ih => exact fun hk => by rw [mj_fo_s]; exact hs k _ (by omega) (ih (by omega))
  exact this n (Nat.le_refl _)
theorem sp_after_le99 {k i f s : Nat} : sp_after k i f s ≤ 99 := by unfold sp_after; omega
theorem sp_rma_ma {s i f u : Nat} : sp_rma s (fun y => sp_after y i f u) 6 = sp_ma (sp_lk s i f u) 6 := by
  unfold sp_rma sp_ma
  refine mj_fo_c fun k _ m => ?_
  by_cases hk : Nat.testBit s k = true
  · have e1 : sp_lk s i f u k = sp_after k i f u := if_pos hk
    have h99 := @sp_after_le99 k i f u
    rw [e1, if_neg (by omega)]
    refine congrArg (max m) ?_
    unfold sp_rak sp_ak
    refine mj_fo_c fun y _ x => ?_
    rw [e1]
    by_cases hy : Nat.testBit s y = true
    · rw [show sp_lk s i f u y = sp_after y i f u from if_pos hy]
      by_cases g : sp_after y i f u = sp_after k i f u
      · rw [if_pos ⟨hk, hy, g⟩, if_pos g]
      · rw [if_neg (fun z => g z.2.2), if_neg g]
    · rw [show sp_lk s i f u y = 4294967295 from if_neg hy, if_neg (fun z => hy z.2.1), if_neg (by omega)]
  · rw [show sp_lk s i f u k = 4294967295 from if_neg hk, if_pos rfl]
    have : sp_rak s (fun y => sp_after y i f u) k 6 = 0 := by
      unfold sp_rak
      exact mj_fo_i (P := fun x => x = 0) rfl (fun j x _ hx => by rw [if_neg (fun z => hk z.1)]; exact hx)
    rw [this]; exact Nat.max_zero m
theorem sp_ma_le6 {g : Nat → Nat} : sp_ma g 6 ≤ 6 := by
  unfold sp_ma
  refine mj_fo_i (P := fun x => x ≤ 6) (by decide) fun k x _ hx => ?_
  have : sp_ak g k 6 ≤ 6 := by
    have : ∀ n, sp_ak g k n ≤ n := by
      intro n
      induction n with
      | zero => exact Nat.le_refl _
      | succ n ih => unfold sp_ak at ih ⊢; rw [mj_fo_s]; split <;> omega
    exact this 6
  split
  · exact hx
  · exact Nat.max_le.mpr ⟨hx, this⟩
theorem sp_rnx_nx {s i n : Nat} (hn : 0 < n) : sp_rnx s i n = sp_nx s i n := by
  have key : ∀ m, sp_rnx s i (m + 1) = sp_nx s i (m + 1) := by
    intro m
    induction m with
    | zero =>
      unfold sp_rnx sp_nx
      rw [mj_fo_s, mj_fo_s]
      have h1 : sp_rma s (sp_rg i 0) 6 = sp_nxv s i 0 := sp_rma_ma
      have h2 : sp_nxv s i 0 ≤ 6 := sp_ma_le6
      show (if sp_rma s (sp_rg i 0) 6 < 1000000 then _ else _) = (if sp_nxv s i 0 < 7 then _ else _)
      rw [h1, if_pos (by omega), if_pos (by omega)]
    | succ m ih =>
      unfold sp_rnx sp_nx at ih ⊢
      rw [mj_fo_s, ih, mj_fo_s (n := m + 1)]
      have h1 : sp_rma s (sp_rg i (m + 1)) 6 = sp_nxv s i (m + 1) := sp_rma_ma
      rw [h1]
  obtain ⟨m, rfl⟩ : ∃ m, n = m + 1 := ⟨n - 1, by omega⟩
  exact key m
/-! what is seen -/
theorem sp_sna_msa {P : Nat → Bool} {z : Nat} (hz : z ≤ 7) : ∀ n, n ≤ 1 <<< z → (sp_snc P n = 0 → sp_sna P n = 4294967295 ∧ sp_msa P (1 <<< z - 1) n = 1 <<< z - 1) ∧ (0 < sp_snc P n → sp_sna P n = sp_msa P (1 <<< z - 1) n) := by
  intro n
  induction n with
  | zero => exact fun _ => ⟨fun _ => ⟨rfl, rfl⟩, fun h => absurd h (Nat.lt_irrefl _)⟩
  | succ n ih =>
    intro hn
    obtain ⟨h1, h2⟩ := ih (by omega)
    have hs : sp_msa P (1 <<< z - 1) (n + 1) = if P n then sp_msa P (1 <<< z - 1) n &&& n else sp_msa P (1 <<< z - 1) n := mj_fo_s
    cases hp : P n with
    | false =>
      rw [hp, if_neg (fun z => nomatch z)] at hs
      rw [sp_snc_f hp, sp_sna_f hp, hs]
      exact ⟨h1, h2⟩
    | true =>
      rw [hp, if_pos rfl] at hs
      rw [sp_snc_t hp, sp_sna_t hp, hs]
      refine ⟨fun z => absurd z (by omega), fun _ => ?_⟩
      by_cases g : sp_snc P n = 0
      · obtain ⟨e1, e2⟩ := h1 g
        have hlt : n < 2 ^ z := by rw [Nat.one_shiftLeft] at hn; omega
        have hz32 : (2 : Nat) ^ z ≤ 2 ^ 7 := Nat.pow_le_pow_right (by decide) hz
        rw [e1, e2, Nat.and_comm, Nat.and_comm (1 <<< z - 1), Nat.one_shiftLeft, Nat.and_two_pow_sub_one_eq_mod, Nat.mod_eq_of_lt hlt, show (4294967295 : Nat) = 2 ^ 32 - 1 from rfl, Nat.and_two_pow_sub_one_eq_mod]
        exact Nat.mod_eq_of_lt (by omega)
      · rw [h2 (by omega)]
/-! winters -/
theorem rv_wd (R : mj_Rel κ C) {s d : Nat} : sp_wd (C 28) (C 29) (C 30) (C 22) (C 23) (C 27 0) s d = sp_mwd (C 101) s d := by
  unfold sp_wd sp_mwd
  have hB : ∀ q, q < 25 → (fun c => sp_bear (C 22 c) (sp_wi (C 22) (C 23) s (d + 1) c)) q = sp_mb (C 101) (sp_wi (fun q => C 101 (30 + q)) (fun q => C 101 (4 + q)) s (d + 1)) q := fun q hq => by
    show sp_bear (C 22 q) (sp_wi (C 22) (C 23) s (d + 1) q) = sp_bear (C 101 (30 + q)) (sp_wi (fun q => C 101 (30 + q)) (fun q => C 101 (4 + q)) s (d + 1) q)
    rw [rl_K R q hq, sp_wi_c (rl_K R) (rl_I R) q hq]
  have h198 : ∀ q, q < 25 → sp_mb (C 101) (sp_wi (fun q => C 101 (30 + q)) (fun q => C 101 (4 + q)) s (d + 1)) q ≤ 198 := fun q hq => by
    have h1 : sp_wi (fun q => C 101 (30 + q)) (fun q => C 101 (4 + q)) s (d + 1) q ≤ 99 := by
      unfold sp_wi; rw [mj_fo_s]; exact sp_after_le99
    have h2 : sp_mb (C 101) (sp_wi (fun q => C 101 (30 + q)) (fun q => C 101 (4 + q)) s (d + 1)) q ≤ 2 * sp_wi (fun q => C 101 (30 + q)) (fun q => C 101 (4 + q)) s (d + 1) q := sp_bear_le
    omega
  rw [sp_wet_mw (rl_n R) (rv_7 R) (rv_k R) (rv_w R) (rv_c R) hB h198 (rv_24 R), rl_n R]
end RV2
theorem mj_wi_le {K I : Nat → Nat} {s n : Nat} (h : ∀ q, I q ≤ 99) : ∀ q, sp_wi K I s n q ≤ 99 := fun q => by
  cases n with
  | zero => exact h q
  | succ n => unfold sp_wi; rw [mj_fo_s]; exact sp_after_le99
theorem st_is_t {E : mj_E} {κ : Nat → Bool} {C : Nat → Nat → Nat} (R : mj_Rel κ C) {c : Nat} (h0 : c < 25)  : mj_St E mj_G mj_isI iX10_is iX11_is [.int (nI c)] (hh κ C) := by
  refine mj_st (ev_X10_is R.1 h0) ⟨_, rfl⟩ (ev_X11_is (E := E) (h := hh κ C) (hc100 κ C) (hc101 κ C) (show mj_Tb (C 101) from R.2.1) h0) ?_ rfl ?_
  · exact mj_vI (rv_kn R).symm
  · exact R.al (mj_Al.rf R.1)
theorem st_who_t {E : mj_E} {κ : Nat → Bool} {C : Nat → Nat → Nat} (R : mj_Rel κ C) {v : Nat} (h0 : v < C 27 0)  : mj_St E mj_G mj_isI iX10_who iX11_who [.int (nI v)] (hh κ C) := by
  refine mj_st (ev_X10_who R.1 h0) ⟨_, rfl⟩ (ev_X11_who (E := E) (h := hh κ C) (hc100 κ C) (hc101 κ C) (show mj_Tb (C 101) from R.2.1) (show v < C 101 0 by rw [← rl_n R]; exact h0)) ?_ rfl ?_
  · exact mj_vI (rv_wk R h0).symm
  · exact R.al (mj_Al.rf R.1)
theorem st_two_t {E : mj_E} {κ : Nat → Bool} {C : Nat → Nat → Nat} (R : mj_Rel κ C) {a c : Nat} (h0 : a < C 27 0) (h1 : c < C 27 0) (h2 : ¬ a = c)  : mj_St E mj_G mj_isI iX10_two iX11_two [.int (nI a), .int (nI c)] (hh κ C) := by
  refine mj_st (ev_X10_two R.1 h0 h1 h2) ⟨_, rfl⟩ (ev_X11_two (E := E) (h := hh κ C) (hc100 κ C) (hc101 κ C) (hc105 κ C) (show mj_Tb (C 101) from R.2.1) (show a < C 101 0 by rw [← rl_n R]; exact h0) (show c < C 101 0 by rw [← rl_n R]; exact h1) h2) ?_ (hu105 rfl) ?_
  · refine mj_vI (mj_bits_c fun j hj => ?_)
    rw [sp_mtw_e hj, rv_yes R, rv_rst R h0, rv_rst R h1]
  · exact R.al ((mj_Al.rf R.1).u rfl (by decide) (by decide))
theorem st_digest_t {E : mj_E} {κ : Nat → Bool} {C : Nat → Nat → Nat} (R : mj_Rel κ C)    : mj_St E mj_G mj_isL iX10_digest iX11_digest [] (hh κ C) := by
  refine mj_st (ev_X10_digest R.1 ) ⟨_, rfl⟩ (ev_X11_digest (E := E) (h := hh κ C) (hc100 κ C) (hc101 κ C) (show mj_Tb (C 101) from R.2.1)) ?_ rfl ?_
  · refine congrArg (fun x => some (Value.long x)) ?_
    rw [rl_n R, rl_d R, rl_n1 R, rl_n2 R, rl_n3 R, rl_tx R, rl_f0 R, rl_f1 R, sp_sum_congr (rl_I R), sp_f2_c (rl_K R) (rl_I R), sp_f2_c (rl_F R) (rl_U R), sp_fold_c (rl_W R), sp_vfold_c (rl_vk R) (rl_vw R) (rl_vc R), Nat.mul_comm (C 101 1) 5, sp_fold_c (rl_N R), Nat.mul_comm (C 101 2) 5, sp_fold_c (rl_P R)]
  · exact R.al (mj_Al.rf R.1)
theorem st_next_none_t {E : mj_E} {κ : Nat → Bool} {C : Nat → Nat → Nat} (R : mj_Rel κ C) {c : Nat} (h0 : c < 25) (h1 : (sp_kn (C 32) (C 31 0) c) = 0)  : mj_St E mj_G mj_isI iX10_next iX11_next [.int (nI c)] (hh κ C) := by
  refine mj_st (ev_X10_next_none R.1 h0 h1) ⟨_, rfl⟩ (ev_X11_next_0 (E := E) (h := hh κ C) (hc100 κ C) (hc101 κ C) (show mj_Tb (C 101) from R.2.1) h0 (show sp_mkn (C 101) c = 0 by rw [← rv_kn R]; exact h1)) ?_ rfl ?_
  · exact rfl
  · exact R.al (mj_Al.rf R.1)
theorem st_next_t {E : mj_E} {κ : Nat → Bool} {C : Nat → Nat → Nat} (R : mj_Rel κ C) {c : Nat} (h0 : c < 25) (h1 : 0 < (sp_kn (C 32) (C 31 0) c))  : mj_St E mj_G mj_isI iX10_next iX11_next [.int (nI c)] (hh κ C) := by
  refine mj_st (ev_X10_next R.1 h0 h1) ⟨_, rfl⟩ (ev_X11_next_1 (E := E) (h := hh κ (mj_u C 12 (sp_nxr (C 12) (sp_kn (C 32) (C 31 0) c) (C 23 c) 100))) (hc100 κ (mj_u C 12 (sp_nxr (C 12) (sp_kn (C 32) (C 31 0) c) (C 23 c) 100))) (hc101 κ (mj_u C 12 (sp_nxr (C 12) (sp_kn (C 32) (C 31 0) c) (C 23 c) 100))) (show mj_Tb ((mj_u C 12 (sp_nxr (C 12) (sp_kn (C 32) (C 31 0) c) (C 23 c) 100)) 101) from R.2.1) h0 (show 0 < sp_mkn (C 101) c by rw [← rv_kn R]; exact h1)) ?_ rfl ?_
  · refine mj_vI ?_
    rw [rv_kn R, rl_I R c h0]
    exact congrArg Prod.snd (sp_rnx_nx (by decide))
  · exact R.al ((mj_Al.rf R.1).u rfl (by decide) (by decide))
theorem st_seen_1_t {E : mj_E} {κ : Nat → Bool} {C : Nat → Nat → Nat} (R : mj_Rel κ C) {x : Nat} (h0 : x < 1 <<< (C 27 0))  : mj_St E mj_G mj_isI iX10_seen iX11_seen [.int (nI x), .int (nI 1)] (hh κ C) := by
  refine mj_st (ev_X10_seen_1 R.1 h0) ⟨_, rfl⟩ (ev_X11_seen_1 (E := E) (h := hh κ C) (hc100 κ C) (hc101 κ C) (hc105 κ C) (show mj_Tb (C 101) from R.2.1) (show x < 1 <<< C 101 0 by rw [← rl_n R]; exact h0)) ?_ (hu105 rfl) ?_
  · refine mj_vI ?_
    have e : sp_sn (C 29) (C 27 0) (sp_hvy (C 29) (C 30) (fun c => sp_bear (C 22 c) (C 23 c)) (C 27 0)) x = sp_msn (C 101) (fun q => C 101 (4 + q)) x := funext fun s => rv_sn R
    rw [e, rl_n R]
    obtain ⟨k1, k2⟩ := sp_sna_msa (P := sp_msn (C 101) (fun q => C 101 (4 + q)) x) R.2.1.1 (1 <<< C 101 0) (Nat.le_refl _)
    by_cases g : sp_snc (sp_msn (C 101) (fun q => C 101 (4 + q)) x) (1 <<< C 101 0) = 0
    · exact (if_pos g).trans (k1 g).1.symm
    · exact (if_neg g).trans (k2 (by omega)).symm
  · exact R.al ((mj_Al.rf R.1).u rfl (by decide) (by decide))
theorem st_winters_t {E : mj_E} {κ : Nat → Bool} {C : Nat → Nat → Nat} (R : mj_Rel κ C) {s m : Nat} (h0 : s ≤ 999999) (h1 : m ≤ 60)  : mj_St E mj_G mj_isI iX10_winters iX11_winters [.int (nI s), .int (nI m)] (hh κ C) := by
  refine mj_st (ev_X10_winters R.1 h0 h1) ⟨_, rfl⟩ (ev_X11_winters (E := E) (h := hh κ (mj_u (mj_u C 2 (C 22)) 3 (sp_wi (C 22) (C 23) s m))) (hc100 κ (mj_u (mj_u C 2 (C 22)) 3 (sp_wi (C 22) (C 23) s m))) (hc101 κ (mj_u (mj_u C 2 (C 22)) 3 (sp_wi (C 22) (C 23) s m))) (hc105 κ (mj_u (mj_u C 2 (C 22)) 3 (sp_wi (C 22) (C 23) s m))) (show mj_Tb ((mj_u (mj_u C 2 (C 22)) 3 (sp_wi (C 22) (C 23) s m)) 101) from R.2.1) h0 h1) ?_ (hu105 rfl) ?_
  · exact mj_vI (sp_sum_congr fun d _ => (rv_wd R).symm)
  · exact R.al ((((mj_Al.rf R.1).u2 (fun q => R.1.1 2 (by decide) q)).u3 (mj_wi_le (R.1.1 3 (by decide)))).u rfl (by decide) (by decide))
