theorem mj_fo_c {α : Type} {f g : Nat → α → α} {a : α} : ∀ {n : Nat}, (∀ i, i < n → ∀ x, f i x = g i x) → mj_fo f a n = mj_fo g a n := by
  intro n
  induction n with
  | zero => exact fun _ => rfl
  | succ n ih => exact fun h => by rw [mj_fo_s, mj_fo_s, ih (fun i hi => h i (by omega)), h n (by omega)]
theorem mj_bits_c {p q : Nat → Bool} : ∀ {n : Nat}, (∀ i, i < n → p i = q i) → mj_bits p n = mj_bits q n := by
  intro n
  induction n with
  | zero => exact fun _ => rfl
  | succ n ih =>
    intro h
    show (if p n then _ else _) = (if q n then _ else _)
    rw [ih (fun i hi => h i (by omega)), h n (by omega)]
theorem sp_all_c {p q : Nat → Bool} : ∀ {n : Nat}, (∀ i, i < n → p i = q i) → sp_all p n = sp_all q n := by
  intro n
  induction n with
  | zero => exact fun _ => rfl
  | succ n ih =>
    intro h
    rw [sp_all_s, sp_all_s, ih (fun i hi => h i (by omega)), h n (by omega)]
theorem sp_icem_c {k day i m : Nat} {F F' U U' : Nat → Nat} (hF : ∀ q, q < 7 → F q = F' q) (hU : ∀ q, q < 7 → U q = U' q) : sp_icem k F U day i m = sp_icem k F' U' day i m :=
  mj_fo_c fun t _ x => by rw [hF _ (Nat.mod_lt _ (by decide)), hU _ (Nat.mod_lt _ (by decide))]
theorem sp_days_c {day m : Nat} {K K' F F' U U' I I' : Nat → Nat} (hK : ∀ q, q < 25 → K q = K' q) (hF : ∀ q, q < 7 → F q = F' q) (hU : ∀ q, q < 7 → U q = U' q) (hI : ∀ q, q < 25 → I q = I' q) : ∀ c, c < 25 → sp_days K F U day I m c = sp_days K' F' U' day I' m c := fun c hc => by
  unfold sp_days
  rw [hK c hc, hI c hc]
  exact sp_icem_c hF hU
theorem sp_open_c {w : Nat} {K K' I I' : Nat → Nat} (hK : ∀ q, q < 25 → K q = K' q) (hI : ∀ q, q < 25 → I q = I' q) : sp_open K I w = sp_open K' I' w :=
  mj_bits_c fun c hc => by rw [hK c hc, hI c hc]
theorem sp_wh_c {k day i w m : Nat} {F F' U U' : Nat → Nat} (hF : ∀ q, q < 7 → F q = F' q) (hU : ∀ q, q < 7 → U q = U' q) : sp_wh k F U day i w m = sp_wh k F' U' day i w m := by
  unfold sp_wh; rw [sp_icem_c hF hU]
theorem sp_hp_c {day w m : Nat} {K K' F F' U U' I I' : Nat → Nat} (hK : ∀ q, q < 25 → K q = K' q) (hF : ∀ q, q < 7 → F q = F' q) (hU : ∀ q, q < 7 → U q = U' q) (hI : ∀ q, q < 25 → I q = I' q) : sp_hp K F U day I w m = sp_hp K' F' U' day I' w m := by
  unfold sp_hp
  rw [sp_sum_congr (f := fun c => sp_bear (K c) (sp_days K F U day I m c)) fun c hc => by rw [hK c hc, sp_days_c hK hF hU hI c hc]]
theorem sp_ward_c {I I' : Nat → Nat} (hI : ∀ q, q < 25 → I q = I' q) {w : Nat} (hw : w < 4) : sp_ward I w = sp_ward I' w := by
  unfold sp_ward
  rw [hI _ (by omega), hI _ (by omega), hI _ (by omega), hI _ (by omega)]
theorem sp_wi_c {s n : Nat} {K K' I I' : Nat → Nat} (hK : ∀ q, q < 25 → K q = K' q) (hI : ∀ q, q < 25 → I q = I' q) : ∀ c, c < 25 → sp_wi K I s n c = sp_wi K' I' s n c := by
  induction n with
  | zero => exact hI
  | succ n ih =>
    intro c hc
    unfold sp_wi at ih ⊢
    rw [mj_fo_s, mj_fo_s]
    show sp_after _ _ _ _ = sp_after _ _ _ _
    rw [hK c hc, ih c hc]
/-! bits -/
theorem mj_bits_tb {p : Nat → Bool} {n i : Nat} : Nat.testBit (mj_bits p n) i = (decide (i < n) && p i) := by
  induction n with
  | zero => show Nat.testBit 0 i = _; simp
  | succ n ih =>
    cases hp : p n with
    | true =>
      rw [mj_bits_t hp, Nat.testBit_or, ih, Nat.one_shiftLeft, Nat.testBit_two_pow]
      by_cases e : n = i
      · subst e; simp [hp]
      · have : decide (i < n + 1) = decide (i < n) := by simp only [decide_eq_decide]; omega
        rw [this]; simp [e]
    | false =>
      rw [mj_bits_f hp, ih]
      by_cases e : n = i
      · subst e; simp [hp]
      · have : decide (i < n + 1) = decide (i < n) := by simp only [decide_eq_decide]; omega
        rw [this]
/-! the least beside -/
theorem sp_lbn_iff {B : Nat → Nat} {c x : Nat} : ∀ {n : Nat}, x ≤ sp_lbn B c n ↔ x ≤ 1000000 ∧ ∀ q, q < n → sp_abs q c = true → x ≤ B q := by
  intro n
  induction n with
  | zero => exact ⟨fun h => ⟨h, fun q hq => absurd hq (Nat.not_lt_zero q)⟩, fun h => h.1⟩
  | succ n ih =>
    by_cases ha : sp_abs n c = true
    · by_cases hb : B n < sp_lbn B c n
      · rw [sp_lbn_t ha hb]
        refine ⟨fun h => ?_, fun h => h.2 n (by omega) ha⟩
        obtain ⟨h1, h2⟩ := ih.mp (show x ≤ sp_lbn B c n by omega)
        refine ⟨h1, fun q hq hqa => ?_⟩
        by_cases e : q = n
        · rw [e]; exact h
        · exact h2 q (by omega) hqa
      · rw [sp_lbn_g (by omega)]
        refine ⟨fun h => ?_, fun h => ih.mpr ⟨h.1, fun q hq => h.2 q (by omega)⟩⟩
        obtain ⟨h1, h2⟩ := ih.mp h
        refine ⟨h1, fun q hq hqa => ?_⟩
        by_cases e : q = n
        · rw [e]; omega
        · exact h2 q (by omega) hqa
    · have ha : sp_abs n c = false := by revert ha; cases sp_abs n c <;> simp
      rw [sp_lbn_f ha]
      refine ⟨fun h => ?_, fun h => ih.mpr ⟨h.1, fun q hq => h.2 q (by omega)⟩⟩
      obtain ⟨h1, h2⟩ := ih.mp h
      refine ⟨h1, fun q hq hqa => ?_⟩
      by_cases e : q = n
      · rw [e, ha] at hqa; cases hqa
      · exact h2 q (by omega) hqa
theorem sp_lstep {p : Prop} [Decidable p] {x m b : Nat} {Q : Prop} (h : x ≤ m ↔ Q) : (x ≤ if p then min m b else m) ↔ Q ∧ (p → x ≤ b) := by
  by_cases g : p
  · rw [if_pos g, Nat.le_min, h]; exact ⟨fun q => ⟨q.1, fun _ => q.2⟩, fun q => ⟨q.1, q.2 g⟩⟩
  · rw [if_neg g, h]; exact ⟨fun q => ⟨q, fun z => absurd z g⟩, fun q => q.1⟩
theorem sp_least_iff {B : Nat → Nat} {c x : Nat} : x ≤ sp_least B c ↔ (((x ≤ 198 ∧ (0 < c % 5 → x ≤ B (c - 1))) ∧ (c % 5 < 4 → x ≤ B (c + 1))) ∧ (5 ≤ c → x ≤ B (c - 5))) ∧ (c + 5 < 25 → x ≤ B (c + 5)) := by
  refine sp_lstep (sp_lstep (sp_lstep ?_))
  unfold sp_l1
  by_cases g : 0 < c % 5
  · rw [if_pos g, Nat.le_min]; exact ⟨fun q => ⟨q.1, fun _ => q.2⟩, fun q => ⟨q.1, q.2 g⟩⟩
  · rw [if_neg g]; exact ⟨fun q => ⟨q, fun z => absurd z g⟩, fun q => q.1⟩
theorem sp_least_lb {B B' : Nat → Nat} (hB : ∀ q, q < 25 → B q = B' q) (h198 : ∀ q, q < 25 → B' q ≤ 198) {c : Nat} (hc : c < 25) : sp_least B c = sp_lb B' c := by
  have key : ∀ x, x ≤ sp_least B c ↔ x ≤ sp_lb B' c := fun x => by
    rw [sp_least_iff]
    unfold sp_lb
    rw [sp_lbn_iff]
    have ab : ∀ q, sp_abs q c = true ↔ (q / 5 = c / 5 ∧ (q % 5 + 1 = c % 5 ∨ c % 5 + 1 = q % 5)) ∨ (q % 5 = c % 5 ∧ (q / 5 + 1 = c / 5 ∨ c / 5 + 1 = q / 5)) := fun q => by unfold sp_abs; exact decide_eq_true_iff
    constructor
    · rintro ⟨⟨⟨⟨h0, h1⟩, h2⟩, h3⟩, h4⟩
      refine ⟨by omega, fun q hq ha => ?_⟩
      rw [← hB q hq]
      have ha := (ab q).mp ha
      have hq4 : (0 < c % 5 ∧ q = c - 1) ∨ (c % 5 < 4 ∧ q = c + 1) ∨ (5 ≤ c ∧ q = c - 5) ∨ (c + 5 < 25 ∧ q = c + 5) := by omega
      rcases hq4 with ⟨g, rfl⟩ | ⟨g, rfl⟩ | ⟨g, rfl⟩ | ⟨g, rfl⟩
      · exact h1 g
      · exact h2 g
      · exact h3 g
      · exact h4 g
    · rintro ⟨h0, h1⟩
      have n1 : 0 < c % 5 → x ≤ B (c - 1) := fun g => by rw [hB _ (by omega)]; exact h1 _ (by omega) ((ab _).mpr (by omega))
      have n2 : c % 5 < 4 → x ≤ B (c + 1) := fun g => by rw [hB _ (by omega)]; exact h1 _ (by omega) ((ab _).mpr (by omega))
      refine ⟨⟨⟨⟨?_, n1⟩, n2⟩, fun g => by rw [hB _ (by omega)]; exact h1 _ (by omega) ((ab _).mpr (by omega))⟩, fun g => by rw [hB _ (by omega)]; exact h1 _ (by omega) ((ab _).mpr (by omega))⟩
      by_cases g : 0 < c % 5
      · have := n1 g
        rw [hB _ (by omega)] at this
        exact Nat.le_trans this (h198 _ (by omega))
      · have := n2 (by omega)
        rw [hB _ (by omega)] at this
        exact Nat.le_trans this (h198 _ (by omega))
  exact Nat.le_antisymm ((key _).mp (Nat.le_refl _)) ((key _).mpr (Nat.le_refl _))
/-! votes -/
theorem sp_heav_c {W W' : Nat → Nat} {z : Nat} (h : ∀ v, v < z → W v = W' v) : sp_heav W z = sp_heav W' z := by
  have key : ∀ n, n ≤ z → sp_heav W n = sp_heav W' n := by
    intro n
    induction n with
    | zero => exact fun _ => rfl
    | succ n ih =>
      intro hn
      have hl : sp_heav W' n < z := by
        by_cases e : n = 0
        · subst e; show 0 < z; omega
        · have := sp_heav_lt (VW := W') (z := n) (by omega); omega
      rw [sp_heav_s, sp_heav_s, ih (by omega), h n (by omega), h _ hl]
  exact key z (Nat.le_refl _)
theorem sp_car_c {W W' : Nat → Nat} {z s : Nat} (h : ∀ v, v < z → W v = W' v) : sp_car W z s = sp_car W' z s := by
  unfold sp_car
  rw [sp_heav_c h]
theorem sp_turn_c {W W' : Nat → Nat} {z y n : Nat} (h : ∀ v, v < z → W v = W' v) : sp_turn W z y n = sp_turn W' z y n :=
  mj_fo_c fun s _ m => by unfold sp_tst; rw [sp_car_c h, sp_car_c h]
section VOT
variable {T J VK VW VC B : Nat → Nat} {z f s x : Nat}
theorem sp_yes_my (hz : z ≤ 7) (hk : ∀ v, v < z → VK v = T (73 + v)) (hw : ∀ v, v < z → VW v = T (80 + v)) (hc : ∀ v, v < z → VC v = T (87 + v)) (hB : ∀ q, q < 25 → B q = sp_mb T J q) (h198 : ∀ q, q < 25 → sp_mb T J q ≤ 198) (h24 : ∀ v, v < 7 → T (87 + v) ≤ 24) : sp_yess VK VW VC B f z = sp_my T J f z :=
  mj_bits_c fun v hv => by
    unfold sp_mv
    rw [hk v hv, hw v hv, hc v hv, hB _ (by have := h24 v (by omega); omega), sp_least_lb hB h198 (by have := h24 v (by omega); omega)]
theorem sp_hvy_tb (hz : z ≤ 7) (hw : ∀ v, v < z → VW v = T (80 + v)) (hc : ∀ v, v < z → VC v = T (87 + v)) (hB : ∀ q, q < 25 → B q = sp_mb T J q) (h24 : ∀ v, v < 7 → T (87 + v) ≤ 24) (v : Nat) : Nat.testBit (sp_hvy VW VC B z) v = (decide (v < z) && !sp_mi T J v) := by
  unfold sp_hvy
  rw [mj_bits_tb]
  by_cases hv : v < z
  · rw [decide_eq_true hv, Bool.true_and, Bool.true_and, hw v hv, hc v hv, hB _ (by have := h24 v (by omega); omega)]
    unfold sp_mi
    by_cases g : T (80 + v) ≤ sp_mb T J (T (87 + v))
    · rw [decide_eq_true g, decide_eq_false (by omega)]; rfl
    · rw [decide_eq_false g, decide_eq_true (by omega)]; rfl
  · rw [decide_eq_false hv, Bool.false_and, Bool.false_and]
theorem sp_car_mc (hz : z = T 0) (hw : ∀ v, v < z → VW v = T (80 + v)) : sp_car VW z s = sp_mc T s := by
  unfold sp_mc
  rw [← hz]
  exact sp_car_c hw
theorem sp_mw_and (hz : z ≤ 7) (hw : ∀ v, v < z → VW v = T (80 + v)) (hc : ∀ v, v < z → VC v = T (87 + v)) (hB : ∀ q, q < 25 → B q = sp_mb T J q) (h24 : ∀ v, v < 7 → T (87 + v) ≤ 24) (hm : sp_mc T s = true) : s &&& sp_hvy VW VC B z = sp_mw T J s z := by
  apply Nat.eq_of_testBit_eq
  intro v
  rw [Nat.testBit_and, sp_hvy_tb hz hw hc hB h24]
  unfold sp_mw
  rw [mj_bits_tb]
  unfold sp_mwv
  rw [hm, Bool.true_and]
  cases decide (v < z) <;> cases Nat.testBit s v <;> cases sp_mi T J v <;> rfl
theorem sp_wet_mw (hz : z = T 0) (hz7 : z ≤ 7) (hk : ∀ v, v < z → VK v = T (73 + v)) (hw : ∀ v, v < z → VW v = T (80 + v)) (hc : ∀ v, v < z → VC v = T (87 + v)) (hB : ∀ q, q < 25 → B q = sp_mb T J q) (h198 : ∀ q, q < 25 → sp_mb T J q ≤ 198) (h24 : ∀ v, v < 7 → T (87 + v) ≤ 24) : sp_wet VK VW VC B f z = sp_mw T J (sp_my T J f z) z := by
  unfold sp_wet
  rw [sp_yes_my hz7 hk hw hc hB h198 h24, sp_car_mc hz hw]
  cases hm : sp_mc T (sp_my T J f z) with
  | true => rw [if_pos rfl]; exact sp_mw_and hz7 hw hc hB h24 hm
  | false => rw [if_neg (fun z => nomatch z)]; exact (sp_mw_0 hm).symm
theorem sp_sn_msn (hz : z = T 0) (hz7 : z ≤ 7) (hw : ∀ v, v < z → VW v = T (80 + v)) (hc : ∀ v, v < z → VC v = T (87 + v)) (hB : ∀ q, q < 25 → B q = sp_mb T J q) (h24 : ∀ v, v < 7 → T (87 + v) ≤ 24) : sp_sn VW z (sp_hvy VW VC B z) x s = sp_msn T J x s := by
  unfold sp_sn sp_msn
  rw [sp_car_mc hz hw, ← hz]
  cases hm : sp_mc T s with
  | true => rw [sp_mw_and hz7 hw hc hB h24 hm, Bool.and_true, Bool.true_and]
  | false => rw [Bool.and_false, Bool.false_and]
end VOT
