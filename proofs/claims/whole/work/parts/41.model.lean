/-- open for the reference: it bears w and is not among o -/
def sp_mop (T J : Nat → Nat) (w o k : Nat) : Bool := decide (w ≤ sp_mb T J k) && !Nat.testBit o k
theorem sp_mop_w {T J : Nat → Nat} {w o k : Nat} (h : sp_mb T J k < w) : sp_mop T J w o k = false := by unfold sp_mop; rw [decide_eq_false (Nat.not_le.mpr h)]; rfl
theorem sp_mop_o {T J : Nat → Nat} {w o k : Nat} (h : Nat.testBit o k = true) : sp_mop T J w o k = false := by unfold sp_mop; rw [h, Bool.not_true, Bool.and_false]
theorem sp_mop_t {T J : Nat → Nat} {w o k : Nat} (h : w ≤ sp_mb T J k) (h2 : Nat.testBit o k = false) : sp_mop T J w o k = true := by unfold sp_mop; rw [h2, decide_eq_true h]; rfl
def sp_pass (p : Nat → Bool) (F : Nat → Nat) (n : Nat) : Nat → Nat := mj_fo (fun k (G : Nat → Nat) => if p k = true then mj_un G k (sp_lnv G k 4) else G) F n
theorem sp_pass_t {p : Nat → Bool} {F : Nat → Nat} {n : Nat} (h : p n = true) : sp_pass p F (n + 1) = mj_un (sp_pass p F n) n (sp_lnv (sp_pass p F n) n 4) := if_pos h
theorem sp_pass_f {p : Nat → Bool} {F : Nat → Nat} {n : Nat} (h : p n = false) : sp_pass p F (n + 1) = sp_pass p F n := if_neg (by rw [h]; decide)
def sp_chg (p : Nat → Bool) (F : Nat → Nat) (n : Nat) : Nat := mj_fo (fun k f => if p k = true ∧ sp_lnv (sp_pass p F k) k 4 < sp_pass p F k k then 1 else f) 0 n
theorem sp_chg_s {p : Nat → Bool} {F : Nat → Nat} {n : Nat} : sp_chg p F (n + 1) = if p n = true ∧ sp_lnv (sp_pass p F n) n 4 < sp_pass p F n n then 1 else sp_chg p F n := mj_fo_s
theorem sp_chg_f {p : Nat → Bool} {F : Nat → Nat} {n : Nat} (h : p n = false) : sp_chg p F (n + 1) = sp_chg p F n := by rw [sp_chg_s, if_neg (fun z => by rw [h] at z; exact absurd z.1 (by decide))]
theorem sp_chg_le {p : Nat → Bool} {F : Nat → Nat} {n : Nat} : sp_chg p F n ≤ 1 := by
  induction n with
  | zero => exact Nat.zero_le _
  | succ n ih => rw [sp_chg_s]; split <;> omega
theorem sp_chg_o {p : Nat → Bool} {F : Nat → Nat} {n : Nat} (h : p n = true) : nI (sp_chg p F n) ||| mj_b (decide (sp_lnv (sp_pass p F n) n 4 < sp_pass p F n n)) = nI (sp_chg p F (n + 1)) := by
  have hl := @sp_chg_le p F n
  rcases (by omega : sp_chg p F n = 0 ∨ sp_chg p F n = 1) with z | z <;> by_cases q : sp_lnv (sp_pass p F n) n 4 < sp_pass p F n n
  · rw [sp_chg_s, if_pos ⟨h, q⟩, z, decide_eq_true q]; rfl
  · rw [sp_chg_s, if_neg (fun y => q y.2), z, decide_eq_false q]; rfl
  · rw [sp_chg_s, if_pos ⟨h, q⟩, z, decide_eq_true q]; rfl
  · rw [sp_chg_s, if_neg (fun y => q y.2), z, decide_eq_false q]; rfl
theorem sp_pass_le {p : Nat → Bool} {F : Nat → Nat} {m : Nat} (hF : ∀ q, F q ≤ m) : ∀ n q, sp_pass p F n q ≤ m := by
  intro n
  induction n with
  | zero => exact hF
  | succ n ih =>
    intro q
    cases z : p n with
    | false => rw [sp_pass_f z]; exact ih q
    | true => rw [sp_pass_t z]; exact mj_un_le ih (Nat.le_trans sp_lnv_le (ih n)) q
theorem sp_sum_u {G : Nat → Nat} {k v : Nat} : ∀ n, k < n → sp_sum (mj_un G k v) n + G k = sp_sum G n + v := by
  have h0 : ∀ n, n ≤ k → sp_sum (mj_un G k v) n = sp_sum G n := fun n hn => sp_sum_congr (fun i hi => mj_un_ne (by omega))
  intro n
  induction n with
  | zero => intro h; exact absurd h (Nat.not_lt_zero _)
  | succ n ih =>
    intro h
    rw [sp_sum_s, sp_sum_s]
    by_cases z : k = n
    · subst z; rw [h0 k (Nat.le_refl _), mj_un_eq]; omega
    · rw [mj_un_ne (by omega)]; have := ih (by omega); omega
/-- one pass: with a change the sum falls, with none the row stays -/
theorem sp_pass_d {p : Nat → Bool} {F : Nat → Nat} : ∀ n, n ≤ 25 → (sp_chg p F n = 0 ∧ sp_pass p F n = F) ∨ (sp_chg p F n = 1 ∧ sp_sum (sp_pass p F n) 25 < sp_sum F 25) := by
  intro n
  induction n with
  | zero => intro _; exact Or.inl ⟨rfl, rfl⟩
  | succ n ih =>
    intro hn
    have ih := ih (by omega)
    cases z : p n with
    | false => rw [sp_pass_f z, sp_chg_f z]; exact ih
    | true =>
      rw [sp_pass_t z, sp_chg_s]
      have hu := @sp_sum_u (sp_pass p F n) n (sp_lnv (sp_pass p F n) n 4) 25 (by omega)
      have hl := @sp_lnv_le (sp_pass p F n) n 4
      by_cases q : sp_lnv (sp_pass p F n) n 4 < sp_pass p F n n
      · rw [if_pos ⟨z, q⟩]
        refine Or.inr ⟨rfl, ?_⟩
        rcases ih with ⟨_, e⟩ | ⟨_, e⟩
        · rw [e] at hu q ⊢; omega
        · omega
      · rw [if_neg (fun y => q y.2), show sp_lnv (sp_pass p F n) n 4 = sp_pass p F n n by omega, sp_us]; exact ih
def sp_it (p : Nat → Bool) (F : Nat → Nat) (n : Nat) : Nat → Nat := mj_fo (fun _ (G : Nat → Nat) => sp_pass p G 25) F n
theorem sp_it_s {p : Nat → Bool} {F : Nat → Nat} {n : Nat} : sp_it p F (n + 1) = sp_pass p (sp_it p F n) 25 := mj_fo_s
theorem sp_it_le {p : Nat → Bool} {F : Nat → Nat} {m : Nat} (hF : ∀ q, F q ≤ m) : ∀ n q, sp_it p F n q ≤ m := by
  intro n
  induction n with
  | zero => exact hF
  | succ n ih => rw [sp_it_s]; exact sp_pass_le ih 25
def sp_fl (p : Nat → Bool) (F : Nat → Nat) : Nat → Nat
  | 0 => 1
  | n + 1 => sp_chg p (sp_it p F n) 25
theorem sp_fl_s {p : Nat → Bool} {F : Nat → Nat} {n : Nat} : sp_fl p F (n + 1) = sp_chg p (sp_it p F n) 25 := rfl
theorem sp_fl_le {p : Nat → Bool} {F : Nat → Nat} {n : Nat} : sp_fl p F n ≤ 1 := by
  cases n with
  | zero => exact Nat.le_refl _
  | succ n => exact sp_chg_le
theorem sp_fl_st {p : Nat → Bool} {F : Nat → Nat} {n : Nat} (h : sp_fl p F n = 0) : sp_pass p (sp_it p F n) 25 = sp_it p F n ∧ sp_chg p (sp_it p F n) 25 = 0 := by
  cases n with
  | zero => exact absurd h (by show ¬ (1 = 0); decide)
  | succ n =>
    rw [sp_fl_s] at h
    have e : sp_it p F (n + 1) = sp_it p F n := by
      rw [sp_it_s]
      rcases @sp_pass_d p (sp_it p F n) 25 (Nat.le_refl _) with ⟨_, e⟩ | ⟨e, _⟩
      · exact e
      · omega
    rw [e]
    exact ⟨by rw [← sp_it_s, e], h⟩
theorem sp_fl_n {p : Nat → Bool} {F : Nat → Nat} {n : Nat} (h : sp_fl p F n = 0) : ∀ d, sp_it p F (n + d) = sp_it p F n ∧ sp_fl p F (n + d) = 0 := by
  intro d
  induction d with
  | zero => exact ⟨rfl, h⟩
  | succ d ih =>
    have := sp_fl_st ih.2
    rw [← Nat.add_assoc, sp_fl_s, sp_it_s]
    exact ⟨this.1.trans ih.1, this.2⟩
theorem sp_fl_d {p : Nat → Bool} {F : Nat → Nat} : ∀ n, sp_fl p F n = 0 ∨ sp_sum (sp_it p F n) 25 + n ≤ sp_sum F 25 := by
  intro n
  induction n with
  | zero => exact Or.inr (Nat.le_refl _)
  | succ n ih =>
    rw [sp_fl_s, sp_it_s]
    rcases ih with h | h
    · exact Or.inl (sp_fl_st h).2
    · rcases @sp_pass_d p (sp_it p F n) 25 (Nat.le_refl _) with ⟨e, _⟩ | ⟨_, e⟩
      · exact Or.inl e
      · exact Or.inr (by omega)
def sp_many : Nat := 25000001
theorem sp_many_e : sp_many = 25000001 := rfl
theorem sp_fl_m {p : Nat → Bool} {F : Nat → Nat} (hF : ∀ q, F q ≤ 1000000) : sp_fl p F sp_many = 0 := by
  rcases @sp_fl_d p F sp_many with h | h
  · exact h
  · have := @sp_sum_le F 25 1000000 hF
    have := sp_many_e
    omega
theorem sp_fl_e {p : Nat → Bool} {F : Nat → Nat} {n : Nat} (hn : n ≤ sp_many) (h : sp_fl p F n = 0) : sp_it p F sp_many = sp_it p F n := by
  have := (sp_fl_n h (sp_many - n)).1
  rwa [show n + (sp_many - n) = sp_many by omega] at this
def sp_l0 (p : Nat → Bool) (c : Nat) : Nat → Nat := mj_un (fun _ => 1000000) c (if p c = true then 1 else 1000000)
theorem sp_l0_t {p : Nat → Bool} {c : Nat} (h : p c = true) : mj_un (fun _ => 1000000) c 1 = sp_l0 p c := by unfold sp_l0; rw [if_pos h]
theorem sp_l0_f {p : Nat → Bool} {c : Nat} (h : p c = false) : mj_un (fun _ => 1000000) c 1000000 = sp_l0 p c := by unfold sp_l0; rw [if_neg (by rw [h]; decide)]
theorem sp_l0_le {p : Nat → Bool} {c : Nat} : ∀ q, sp_l0 p c q ≤ 1000000 := mj_un_le (fun _ => Nat.le_refl _) (by split <;> decide)
/-- what the row far holds behind layFar -/
def sp_lay (T J : Nat → Nat) (w o c : Nat) : Nat → Nat := sp_it (sp_mop T J w o) (sp_l0 (sp_mop T J w o) c) sp_many
theorem sp_lay_le {T J : Nat → Nat} {w o c : Nat} : ∀ q, sp_lay T J w o c q ≤ 1000000 := sp_it_le sp_l0_le _
set_option maxHeartbeats 1000000 in
set_option maxRecDepth 10000 in
theorem ev_X11_layFar {E : mj_E} {h : mj_H} {a0 a1 y2 y3 y4 y5 y6 : Nat} (H0 : h 100 = some (mj_mo a0 a1 y2 y3 y4 y5 y6)) {T : Nat → Nat} (HT : h 101 = some (mj_ar 362 T)) {J : Nat → Nat} (HJ : h 105 = some (mj_ar 25 J)) {F : Nat → Nat} (HF : h 106 = some (mj_ar 25 F)) (bT : mj_Tb T) (bJ : ∀ q, q < 25 → J q ≤ 99) {w c o : Nat} (h0 : w ≤ 198) (h1 : c < 25) (h2 : o < 2 ^ 25) : mj_Ev E iX11_layFar [.ref 100, .int (nI w), .int (nI c), .int (nI o)] h (mj_R none (mj_up h 106 (mj_ar 25 (sp_lay T J w o c)))) := by
  refine mj_Ev.of (L0 := [some (.ref 100), some (.int (nI w)), some (.int (nI c)), some (.int (nI o)), none, none]) pnRX11 (Nat.le_of_ble_eq_true rfl) rfl ?_
  refine gj_ic (w := 0) dX11_layFar_0 ?_
  refine gj_istore (L' := [some (.ref 100), some (.int (nI w)), some (.int (nI c)), some (.int (nI o)), some (.int (nI 0)), none]) dX11_layFar_1 (Nat.le_of_ble_eq_true rfl) rfl ?_
  refine gj_cast (L' := [some (.ref 100), some (.int (nI w)), some (.int (nI c)), some (.int (nI o)), some (.int (nI 0)), none]) (st' := []) (h' := mj_up h 106 (mj_ar 25 (mj_mix (fun _ => 1000000) F 0))) rfl rfl (by rw [mj_mix_0, mj_up_self HF]) ?_
  refine gj_loop (fun j => [some (.ref 100), some (.int (nI w)), some (.int (nI c)), some (.int (nI o)), some (.int (nI j)), none]) (fun j => mj_up h 106 (mj_ar 25 (mj_mix (fun _ => 1000000) F j))) 25 ?_ (fun j hj ih => ?_) 0 (Nat.zero_le _)
  · show gj _ _ _ _ _ _ [some (.ref 100), some (.int (nI w)), some (.int (nI c)), some (.int (nI o)), some (.int (nI 25)), none] _ _
    refine gj_iload dX11_layFar_3 rfl ?_
    refine gj_bp 25 dX11_layFar_5 (by decide) ?_
    refine gj_icmp_geN (tgt := 25) (by omega) (by omega) dX11_layFar_7 rfl (fun zq0 => ?_) (fun zq0 => ?_)
    rotate_left
    · exfalso; omega
    refine gj_reN (g := fun _ => 1000000) (fun j hj => mj_mix_lt hj) ?_
    refine gj_aload_n dX11_layFar_25 rfl ?_
    refine gfX11_30 rfl dX11_layFar_26 ((mj_up_ne (by decide)).trans H0) rfl ?_
    refine gj_iload_n dX11_layFar_29 rfl ?_
    refine gj_aload_n dX11_layFar_30 rfl ?_
    refine gj_iload_n dX11_layFar_31 rfl ?_
    refine gj_V1 lkX11_116 ((mj_up_ne (by decide)).trans H0) rfl rfl (ev_X11_bears ((mj_up_ne (by decide)).trans H0) ((mj_up_ne (by decide)).trans HT) ((mj_up_ne (by decide)).trans HJ) bT bJ (by omega)) dX11_layFar_32 rfl rfl rfl rfl rfl ?_
    have hb1 := @sp_bear_le (T (30 + c)) (J c)
    have hb2 := bJ c (by omega)
    refine gj_iload_n dX11_layFar_35 rfl ?_
    refine gj_icmp_ltN (tgt := 51) (by omega) (by omega) dX11_layFar_36 rfl (fun zq3 => ?_) (fun zq3 => ?_)
    · -- 36 taken
      have hq1 : sp_mb T J c < w := zq3
      refine gj_ldc (v := nI 1000000) w_1179 dX11_layFar_51 ?_
      refine gj_iastN dX11_layFar_53 (mj_up_eq _ _ _) (by omega) (by omega) ?_
      refine gj_cast (h' := mj_up h 106 (mj_ar 25 (sp_l0 (sp_mop T J w o) c))) rfl rfl (by first | rw [mj_up_up, sp_l0_t (sp_mop_t hq1 hq2)] | rw [mj_up_up, sp_l0_f (sp_mop_o hq2)] | rw [mj_up_up, sp_l0_f (sp_mop_w hq1)]) ?_
      refine gj_ic (w := 1) dX11_layFar_54 ?_
      refine gj_istore (L' := [some (.ref 100), some (.int (nI w)), some (.int (nI c)), some (.int (nI o)), some (.int (nI 1)), none]) dX11_layFar_55 (Nat.le_of_ble_eq_true rfl) rfl ?_
      refine gj_cast (L' := [some (.ref 100), some (.int (nI w)), some (.int (nI c)), some (.int (nI o)), some (.int (nI (sp_fl (sp_mop T J w o) (sp_l0 (sp_mop T J w o) c) 0))), none]) (st' := []) (h' := mj_up h 106 (mj_ar 25 (sp_it (sp_mop T J w o) (sp_l0 (sp_mop T J w o) c) 0))) rfl rfl rfl ?_
      refine gj_loop (fun j => [some (.ref 100), some (.int (nI w)), some (.int (nI c)), some (.int (nI o)), some (.int (nI (sp_fl (sp_mop T J w o) (sp_l0 (sp_mop T J w o) c) j))), none]) (fun j => mj_up h 106 (mj_ar 25 (sp_it (sp_mop T J w o) (sp_l0 (sp_mop T J w o) c) j))) sp_many ?_ (fun j hj ih => ?_) 0 (Nat.zero_le _)
      · show gj _ _ _ _ _ _ [some (.ref 100), some (.int (nI w)), some (.int (nI c)), some (.int (nI o)), some (.int (nI (sp_fl (sp_mop T J w o) (sp_l0 (sp_mop T J w o) c) sp_many))), none] _ _
        have hfl := sp_fl_m (p := (sp_mop T J w o)) (@sp_l0_le (sp_mop T J w o) c)
        refine gj_iload dX11_layFar_57 rfl ?_
        have hf9 := @sp_fl_le (sp_mop T J w o) (sp_l0 (sp_mop T J w o) c) sp_many
        refine gj_if_eqN (tgt := 114) (by omega) dX11_layFar_59 rfl (fun zq4 => ?_) (fun zq4 => ?_)
        rotate_left
        · exfalso; omega
        have he9 : (sp_it (sp_mop T J w o) (sp_l0 (sp_mop T J w o) c) sp_many) = (sp_it (sp_mop T J w o) (sp_l0 (sp_mop T J w o) c) sp_many) := rfl
        exact gj_vr rfl dX11_layFar_114 (by rw [← he9]; rfl)
      show gj _ _ _ _ _ _ [some (.ref 100), some (.int (nI w)), some (.int (nI c)), some (.int (nI o)), some (.int (nI (sp_fl (sp_mop T J w o) (sp_l0 (sp_mop T J w o) c) j))), none] _ _
      have hfl := sp_fl_m (p := (sp_mop T J w o)) (@sp_l0_le (sp_mop T J w o) c)
      refine gj_iload dX11_layFar_57 rfl ?_
      have hf9 := @sp_fl_le (sp_mop T J w o) (sp_l0 (sp_mop T J w o) c) j
      refine gj_if_eqN (tgt := 114) (by omega) dX11_layFar_59 rfl (fun zq5 => ?_) (fun zq5 => ?_)
      · -- 59 taken
        have hz9 := zq5
        have he9 := sp_fl_e (Nat.le_of_lt hj) hz9
        exact gj_vr rfl dX11_layFar_114 (by rw [← he9]; rfl)
      refine gj_ic (w := 0) dX11_layFar_62 ?_
      refine gj_istore (L' := [some (.ref 100), some (.int (nI w)), some (.int (nI c)), some (.int (nI o)), some (.int (nI 0)), none]) dX11_layFar_63 (Nat.le_of_ble_eq_true rfl) rfl ?_
      refine gj_ic (w := 0) dX11_layFar_65 ?_
      refine gj_istore (L' := [some (.ref 100), some (.int (nI w)), some (.int (nI c)), some (.int (nI o)), some (.int (nI 0)), some (.int (nI 0))]) dX11_layFar_66 (Nat.le_of_ble_eq_true rfl) rfl ?_
      refine gj_cast (L' := [some (.ref 100), some (.int (nI w)), some (.int (nI c)), some (.int (nI o)), some (.int (nI (sp_chg (sp_mop T J w o) (sp_it (sp_mop T J w o) (sp_l0 (sp_mop T J w o) c) j) 0))), some (.int (nI 0))]) (st' := []) (h' := mj_up h 106 (mj_ar 25 (sp_pass (sp_mop T J w o) (sp_it (sp_mop T J w o) (sp_l0 (sp_mop T J w o) c) j) 0))) rfl rfl rfl ?_
      refine gj_loop (fun k => [some (.ref 100), some (.int (nI w)), some (.int (nI c)), some (.int (nI o)), some (.int (nI (sp_chg (sp_mop T J w o) (sp_it (sp_mop T J w o) (sp_l0 (sp_mop T J w o) c) j) k))), some (.int (nI k))]) (fun k => mj_up h 106 (mj_ar 25 (sp_pass (sp_mop T J w o) (sp_it (sp_mop T J w o) (sp_l0 (sp_mop T J w o) c) j) k))) 25 ?_ (fun k hk ihk => ?_) 0 (Nat.zero_le _)
      · show gj _ _ _ _ _ _ [some (.ref 100), some (.int (nI w)), some (.int (nI c)), some (.int (nI o)), some (.int (nI (sp_chg (sp_mop T J w o) (sp_it (sp_mop T J w o) (sp_l0 (sp_mop T J w o) c) j) 25))), some (.int (nI 25))] _ _
        refine gj_iload dX11_layFar_68 rfl ?_
        refine gj_bp 25 dX11_layFar_70 (by decide) ?_
        refine gj_icmp_geN (tgt := 111) (by omega) (by omega) dX11_layFar_72 rfl (fun zq0 => ?_) (fun zq0 => ?_)
        rotate_left
        · exfalso; omega
        refine gj_goto (tgt := 57) dX11_layFar_111 rfl ?_
        refine gj_forget (i := 5) (L' := [some (.ref 100), some (.int (nI w)), some (.int (nI c)), some (.int (nI o)), some (.int (nI (sp_chg (sp_mop T J w o) (sp_it (sp_mop T J w o) (sp_l0 (sp_mop T J w o) c) j) 25))), none]) rfl ?_
        exact ih
      show gj _ _ _ _ _ _ [some (.ref 100), some (.int (nI w)), some (.int (nI c)), some (.int (nI o)), some (.int (nI (sp_chg (sp_mop T J w o) (sp_it (sp_mop T J w o) (sp_l0 (sp_mop T J w o) c) j) k))), some (.int (nI k))] _ _
      refine gj_iload dX11_layFar_68 rfl ?_
      refine gj_bp 25 dX11_layFar_70 (by decide) ?_
      refine gj_icmp_geN (tgt := 111) (by omega) (by omega) dX11_layFar_72 rfl (fun zq6 => ?_) (fun zq6 => ?_)
      · exfalso; omega
      refine gj_aload_n dX11_layFar_75 rfl ?_
      refine gj_iload dX11_layFar_76 rfl ?_
      refine gj_V1 lkX11_116 ((mj_up_ne (by decide)).trans H0) rfl rfl (ev_X11_bears ((mj_up_ne (by decide)).trans H0) ((mj_up_ne (by decide)).trans HT) ((mj_up_ne (by decide)).trans HJ) bT bJ (by omega)) dX11_layFar_78 rfl rfl rfl rfl rfl ?_
      have hb7 := @sp_bear_le (T (30 + k)) (J k)
      have hb8 := bJ k (by omega)
      refine gj_iload_n dX11_layFar_81 rfl ?_
      refine gj_icmp_ltN (tgt := 105) (by omega) (by omega) dX11_layFar_82 rfl (fun zq9 => ?_) (fun zq9 => ?_)
      · -- 82 taken
        have hq3 : sp_mb T J k < w := zq9
        refine gj_iincN (L' := [some (.ref 100), some (.int (nI w)), some (.int (nI c)), some (.int (nI o)), some (.int (nI (sp_chg (sp_mop T J w o) (sp_it (sp_mop T J w o) (sp_l0 (sp_mop T J w o) c) j) k))), some (.int (nI (k + 1)))]) dX11_layFar_105 rfl (Nat.le_of_ble_eq_true rfl) rfl ?_
        refine gj_goto (tgt := 68) dX11_layFar_108 rfl ?_
        first | exact gj_cast rfl rfl (by rw [mj_up_up, sp_pass_t hp9]) ihk | exact gj_cast (by rw [sp_chg_f (sp_mop_w hq3)]) rfl (by rw [sp_pass_f (sp_mop_w hq3)]) ihk | exact gj_cast (by rw [sp_chg_f (sp_mop_o hq4)]) rfl (by rw [sp_pass_f (sp_mop_o hq4)]) ihk
      have hq3 : w ≤ sp_mb T J k := zq9
      refine gj_iload_n dX11_layFar_85 rfl ?_
      refine gj_iload dX11_layFar_86 rfl ?_
      refine gj_S1 lkX11_161 (ev_X11_has (by omega) (by omega)) dX11_layFar_88 rfl rfl rfl rfl rfl ?_
      refine gj_if_neb (tgt := 105) dX11_layFar_91 rfl (fun zq10 => ?_) (fun zq10 => ?_)
      · -- 91 taken
        have hq4 := zq10
        refine gj_iincN (L' := [some (.ref 100), some (.int (nI w)), some (.int (nI c)), some (.int (nI o)), some (.int (nI (sp_chg (sp_mop T J w o) (sp_it (sp_mop T J w o) (sp_l0 (sp_mop T J w o) c) j) k))), some (.int (nI (k + 1)))]) dX11_layFar_105 rfl (Nat.le_of_ble_eq_true rfl) rfl ?_
        refine gj_goto (tgt := 68) dX11_layFar_108 rfl ?_
        first | exact gj_cast rfl rfl (by rw [mj_up_up, sp_pass_t hp9]) ihk | exact gj_cast (by rw [sp_chg_f (sp_mop_w hq3)]) rfl (by rw [sp_pass_f (sp_mop_w hq3)]) ihk | exact gj_cast (by rw [sp_chg_f (sp_mop_o hq4)]) rfl (by rw [sp_pass_f (sp_mop_o hq4)]) ihk
      have hq4 := zq10
      have hp9 := sp_mop_t hq3 hq4
      have hF9 : ∀ q, q < 25 → sp_pass (sp_mop T J w o) (sp_it (sp_mop T J w o) (sp_l0 (sp_mop T J w o) c) j) k q ≤ 1000000 := fun q _ => sp_pass_le (sp_it_le sp_l0_le j) k q
      refine gj_iload dX11_layFar_94 rfl ?_
      refine gj_aload_n dX11_layFar_96 rfl ?_
      refine gj_iload dX11_layFar_97 rfl ?_
      refine gj_V1 lkX11_164 ((mj_up_ne (by decide)).trans H0) rfl rfl (ev_X11_layNearer ((mj_up_ne (by decide)).trans H0) (mj_up_eq _ _ _) (by omega) hF9) dX11_layFar_99 rfl rfl rfl rfl rfl ?_
      refine gj_ior dX11_layFar_102 ?_
      refine gj_top (sp_chg_o hp9) ?_
      refine gj_istore (L' := [some (.ref 100), some (.int (nI w)), some (.int (nI c)), some (.int (nI o)), some (.int (nI (sp_chg (sp_mop T J w o) (sp_it (sp_mop T J w o) (sp_l0 (sp_mop T J w o) c) j) (k + 1)))), some (.int (nI k))]) dX11_layFar_103 (Nat.le_of_ble_eq_true rfl) rfl ?_
      refine gj_iincN (L' := [some (.ref 100), some (.int (nI w)), some (.int (nI c)), some (.int (nI o)), some (.int (nI (sp_chg (sp_mop T J w o) (sp_it (sp_mop T J w o) (sp_l0 (sp_mop T J w o) c) j) (k + 1)))), some (.int (nI (k + 1)))]) dX11_layFar_105 rfl (Nat.le_of_ble_eq_true rfl) rfl ?_
      refine gj_goto (tgt := 68) dX11_layFar_108 rfl ?_
      first | exact gj_cast rfl rfl (by rw [mj_up_up, sp_pass_t hp9]) ihk | exact gj_cast (by rw [sp_chg_f (sp_mop_w hq3)]) rfl (by rw [sp_pass_f (sp_mop_w hq3)]) ihk | exact gj_cast (by rw [sp_chg_f (sp_mop_o hq4)]) rfl (by rw [sp_pass_f (sp_mop_o hq4)]) ihk
    have hq1 : w ≤ sp_mb T J c := zq3
    refine gj_iload_n dX11_layFar_39 rfl ?_
    refine gj_iload_n dX11_layFar_40 rfl ?_
    refine gj_S1 lkX11_161 (ev_X11_has (by omega) (by omega)) dX11_layFar_41 rfl rfl rfl rfl rfl ?_
    refine gj_if_neb (tgt := 51) dX11_layFar_44 rfl (fun zq11 => ?_) (fun zq11 => ?_)
    · -- 44 taken
      have hq2 := zq11
      refine gj_ldc (v := nI 1000000) w_1179 dX11_layFar_51 ?_
      refine gj_iastN dX11_layFar_53 (mj_up_eq _ _ _) (by omega) (by omega) ?_
      refine gj_cast (h' := mj_up h 106 (mj_ar 25 (sp_l0 (sp_mop T J w o) c))) rfl rfl (by first | rw [mj_up_up, sp_l0_t (sp_mop_t hq1 hq2)] | rw [mj_up_up, sp_l0_f (sp_mop_o hq2)] | rw [mj_up_up, sp_l0_f (sp_mop_w hq1)]) ?_
      refine gj_ic (w := 1) dX11_layFar_54 ?_
      refine gj_istore (L' := [some (.ref 100), some (.int (nI w)), some (.int (nI c)), some (.int (nI o)), some (.int (nI 1)), none]) dX11_layFar_55 (Nat.le_of_ble_eq_true rfl) rfl ?_
      refine gj_cast (L' := [some (.ref 100), some (.int (nI w)), some (.int (nI c)), some (.int (nI o)), some (.int (nI (sp_fl (sp_mop T J w o) (sp_l0 (sp_mop T J w o) c) 0))), none]) (st' := []) (h' := mj_up h 106 (mj_ar 25 (sp_it (sp_mop T J w o) (sp_l0 (sp_mop T J w o) c) 0))) rfl rfl rfl ?_
      refine gj_loop (fun j => [some (.ref 100), some (.int (nI w)), some (.int (nI c)), some (.int (nI o)), some (.int (nI (sp_fl (sp_mop T J w o) (sp_l0 (sp_mop T J w o) c) j))), none]) (fun j => mj_up h 106 (mj_ar 25 (sp_it (sp_mop T J w o) (sp_l0 (sp_mop T J w o) c) j))) sp_many ?_ (fun j hj ih => ?_) 0 (Nat.zero_le _)
      · show gj _ _ _ _ _ _ [some (.ref 100), some (.int (nI w)), some (.int (nI c)), some (.int (nI o)), some (.int (nI (sp_fl (sp_mop T J w o) (sp_l0 (sp_mop T J w o) c) sp_many))), none] _ _
        have hfl := sp_fl_m (p := (sp_mop T J w o)) (@sp_l0_le (sp_mop T J w o) c)
        refine gj_iload dX11_layFar_57 rfl ?_
        have hf9 := @sp_fl_le (sp_mop T J w o) (sp_l0 (sp_mop T J w o) c) sp_many
        refine gj_if_eqN (tgt := 114) (by omega) dX11_layFar_59 rfl (fun zq12 => ?_) (fun zq12 => ?_)
        rotate_left
        · exfalso; omega
        have he9 : (sp_it (sp_mop T J w o) (sp_l0 (sp_mop T J w o) c) sp_many) = (sp_it (sp_mop T J w o) (sp_l0 (sp_mop T J w o) c) sp_many) := rfl
        exact gj_vr rfl dX11_layFar_114 (by rw [← he9]; rfl)
      show gj _ _ _ _ _ _ [some (.ref 100), some (.int (nI w)), some (.int (nI c)), some (.int (nI o)), some (.int (nI (sp_fl (sp_mop T J w o) (sp_l0 (sp_mop T J w o) c) j))), none] _ _
      have hfl := sp_fl_m (p := (sp_mop T J w o)) (@sp_l0_le (sp_mop T J w o) c)
      refine gj_iload dX11_layFar_57 rfl ?_
      have hf9 := @sp_fl_le (sp_mop T J w o) (sp_l0 (sp_mop T J w o) c) j
      refine gj_if_eqN (tgt := 114) (by omega) dX11_layFar_59 rfl (fun zq13 => ?_) (fun zq13 => ?_)
      · -- 59 taken
        have hz9 := zq13
        have he9 := sp_fl_e (Nat.le_of_lt hj) hz9
        exact gj_vr rfl dX11_layFar_114 (by rw [← he9]; rfl)
      refine gj_ic (w := 0) dX11_layFar_62 ?_
      refine gj_istore (L' := [some (.ref 100), some (.int (nI w)), some (.int (nI c)), some (.int (nI o)), some (.int (nI 0)), none]) dX11_layFar_63 (Nat.le_of_ble_eq_true rfl) rfl ?_
      refine gj_ic (w := 0) dX11_layFar_65 ?_
      refine gj_istore (L' := [some (.ref 100), some (.int (nI w)), some (.int (nI c)), some (.int (nI o)), some (.int (nI 0)), some (.int (nI 0))]) dX11_layFar_66 (Nat.le_of_ble_eq_true rfl) rfl ?_
      refine gj_cast (L' := [some (.ref 100), some (.int (nI w)), some (.int (nI c)), some (.int (nI o)), some (.int (nI (sp_chg (sp_mop T J w o) (sp_it (sp_mop T J w o) (sp_l0 (sp_mop T J w o) c) j) 0))), some (.int (nI 0))]) (st' := []) (h' := mj_up h 106 (mj_ar 25 (sp_pass (sp_mop T J w o) (sp_it (sp_mop T J w o) (sp_l0 (sp_mop T J w o) c) j) 0))) rfl rfl rfl ?_
      refine gj_loop (fun k => [some (.ref 100), some (.int (nI w)), some (.int (nI c)), some (.int (nI o)), some (.int (nI (sp_chg (sp_mop T J w o) (sp_it (sp_mop T J w o) (sp_l0 (sp_mop T J w o) c) j) k))), some (.int (nI k))]) (fun k => mj_up h 106 (mj_ar 25 (sp_pass (sp_mop T J w o) (sp_it (sp_mop T J w o) (sp_l0 (sp_mop T J w o) c) j) k))) 25 ?_ (fun k hk ihk => ?_) 0 (Nat.zero_le _)
      · show gj _ _ _ _ _ _ [some (.ref 100), some (.int (nI w)), some (.int (nI c)), some (.int (nI o)), some (.int (nI (sp_chg (sp_mop T J w o) (sp_it (sp_mop T J w o) (sp_l0 (sp_mop T J w o) c) j) 25))), some (.int (nI 25))] _ _
        refine gj_iload dX11_layFar_68 rfl ?_
        refine gj_bp 25 dX11_layFar_70 (by decide) ?_
        refine gj_icmp_geN (tgt := 111) (by omega) (by omega) dX11_layFar_72 rfl (fun zq0 => ?_) (fun zq0 => ?_)
        rotate_left
        · exfalso; omega
        refine gj_goto (tgt := 57) dX11_layFar_111 rfl ?_
        refine gj_forget (i := 5) (L' := [some (.ref 100), some (.int (nI w)), some (.int (nI c)), some (.int (nI o)), some (.int (nI (sp_chg (sp_mop T J w o) (sp_it (sp_mop T J w o) (sp_l0 (sp_mop T J w o) c) j) 25))), none]) rfl ?_
        exact ih
      show gj _ _ _ _ _ _ [some (.ref 100), some (.int (nI w)), some (.int (nI c)), some (.int (nI o)), some (.int (nI (sp_chg (sp_mop T J w o) (sp_it (sp_mop T J w o) (sp_l0 (sp_mop T J w o) c) j) k))), some (.int (nI k))] _ _
      refine gj_iload dX11_layFar_68 rfl ?_
      refine gj_bp 25 dX11_layFar_70 (by decide) ?_
      refine gj_icmp_geN (tgt := 111) (by omega) (by omega) dX11_layFar_72 rfl (fun zq14 => ?_) (fun zq14 => ?_)
      · exfalso; omega
      refine gj_aload_n dX11_layFar_75 rfl ?_
      refine gj_iload dX11_layFar_76 rfl ?_
      refine gj_V1 lkX11_116 ((mj_up_ne (by decide)).trans H0) rfl rfl (ev_X11_bears ((mj_up_ne (by decide)).trans H0) ((mj_up_ne (by decide)).trans HT) ((mj_up_ne (by decide)).trans HJ) bT bJ (by omega)) dX11_layFar_78 rfl rfl rfl rfl rfl ?_
      have hb15 := @sp_bear_le (T (30 + k)) (J k)
      have hb16 := bJ k (by omega)
      refine gj_iload_n dX11_layFar_81 rfl ?_
      refine gj_icmp_ltN (tgt := 105) (by omega) (by omega) dX11_layFar_82 rfl (fun zq17 => ?_) (fun zq17 => ?_)
      · -- 82 taken
        have hq3 : sp_mb T J k < w := zq17
        refine gj_iincN (L' := [some (.ref 100), some (.int (nI w)), some (.int (nI c)), some (.int (nI o)), some (.int (nI (sp_chg (sp_mop T J w o) (sp_it (sp_mop T J w o) (sp_l0 (sp_mop T J w o) c) j) k))), some (.int (nI (k + 1)))]) dX11_layFar_105 rfl (Nat.le_of_ble_eq_true rfl) rfl ?_
        refine gj_goto (tgt := 68) dX11_layFar_108 rfl ?_
        first | exact gj_cast rfl rfl (by rw [mj_up_up, sp_pass_t hp9]) ihk | exact gj_cast (by rw [sp_chg_f (sp_mop_w hq3)]) rfl (by rw [sp_pass_f (sp_mop_w hq3)]) ihk | exact gj_cast (by rw [sp_chg_f (sp_mop_o hq4)]) rfl (by rw [sp_pass_f (sp_mop_o hq4)]) ihk
      have hq3 : w ≤ sp_mb T J k := zq17
      refine gj_iload_n dX11_layFar_85 rfl ?_
      refine gj_iload dX11_layFar_86 rfl ?_
      refine gj_S1 lkX11_161 (ev_X11_has (by omega) (by omega)) dX11_layFar_88 rfl rfl rfl rfl rfl ?_
      refine gj_if_neb (tgt := 105) dX11_layFar_91 rfl (fun zq18 => ?_) (fun zq18 => ?_)
      · -- 91 taken
        have hq4 := zq18
        refine gj_iincN (L' := [some (.ref 100), some (.int (nI w)), some (.int (nI c)), some (.int (nI o)), some (.int (nI (sp_chg (sp_mop T J w o) (sp_it (sp_mop T J w o) (sp_l0 (sp_mop T J w o) c) j) k))), some (.int (nI (k + 1)))]) dX11_layFar_105 rfl (Nat.le_of_ble_eq_true rfl) rfl ?_
        refine gj_goto (tgt := 68) dX11_layFar_108 rfl ?_
        first | exact gj_cast rfl rfl (by rw [mj_up_up, sp_pass_t hp9]) ihk | exact gj_cast (by rw [sp_chg_f (sp_mop_w hq3)]) rfl (by rw [sp_pass_f (sp_mop_w hq3)]) ihk | exact gj_cast (by rw [sp_chg_f (sp_mop_o hq4)]) rfl (by rw [sp_pass_f (sp_mop_o hq4)]) ihk
      have hq4 := zq18
      have hp9 := sp_mop_t hq3 hq4
      have hF9 : ∀ q, q < 25 → sp_pass (sp_mop T J w o) (sp_it (sp_mop T J w o) (sp_l0 (sp_mop T J w o) c) j) k q ≤ 1000000 := fun q _ => sp_pass_le (sp_it_le sp_l0_le j) k q
      refine gj_iload dX11_layFar_94 rfl ?_
      refine gj_aload_n dX11_layFar_96 rfl ?_
      refine gj_iload dX11_layFar_97 rfl ?_
      refine gj_V1 lkX11_164 ((mj_up_ne (by decide)).trans H0) rfl rfl (ev_X11_layNearer ((mj_up_ne (by decide)).trans H0) (mj_up_eq _ _ _) (by omega) hF9) dX11_layFar_99 rfl rfl rfl rfl rfl ?_
      refine gj_ior dX11_layFar_102 ?_
      refine gj_top (sp_chg_o hp9) ?_
      refine gj_istore (L' := [some (.ref 100), some (.int (nI w)), some (.int (nI c)), some (.int (nI o)), some (.int (nI (sp_chg (sp_mop T J w o) (sp_it (sp_mop T J w o) (sp_l0 (sp_mop T J w o) c) j) (k + 1)))), some (.int (nI k))]) dX11_layFar_103 (Nat.le_of_ble_eq_true rfl) rfl ?_
      refine gj_iincN (L' := [some (.ref 100), some (.int (nI w)), some (.int (nI c)), some (.int (nI o)), some (.int (nI (sp_chg (sp_mop T J w o) (sp_it (sp_mop T J w o) (sp_l0 (sp_mop T J w o) c) j) (k + 1)))), some (.int (nI (k + 1)))]) dX11_layFar_105 rfl (Nat.le_of_ble_eq_true rfl) rfl ?_
      refine gj_goto (tgt := 68) dX11_layFar_108 rfl ?_
      first | exact gj_cast rfl rfl (by rw [mj_up_up, sp_pass_t hp9]) ihk | exact gj_cast (by rw [sp_chg_f (sp_mop_w hq3)]) rfl (by rw [sp_pass_f (sp_mop_w hq3)]) ihk | exact gj_cast (by rw [sp_chg_f (sp_mop_o hq4)]) rfl (by rw [sp_pass_f (sp_mop_o hq4)]) ihk
    have hq2 := zq11
    refine gj_ic (w := 1) dX11_layFar_47 ?_
    refine gj_goto (tgt := 53) dX11_layFar_48 rfl ?_
    refine gj_iastN dX11_layFar_53 (mj_up_eq _ _ _) (by omega) (by omega) ?_
    refine gj_cast (h' := mj_up h 106 (mj_ar 25 (sp_l0 (sp_mop T J w o) c))) rfl rfl (by first | rw [mj_up_up, sp_l0_t (sp_mop_t hq1 hq2)] | rw [mj_up_up, sp_l0_f (sp_mop_o hq2)] | rw [mj_up_up, sp_l0_f (sp_mop_w hq1)]) ?_
    refine gj_ic (w := 1) dX11_layFar_54 ?_
    refine gj_istore (L' := [some (.ref 100), some (.int (nI w)), some (.int (nI c)), some (.int (nI o)), some (.int (nI 1)), none]) dX11_layFar_55 (Nat.le_of_ble_eq_true rfl) rfl ?_
    refine gj_cast (L' := [some (.ref 100), some (.int (nI w)), some (.int (nI c)), some (.int (nI o)), some (.int (nI (sp_fl (sp_mop T J w o) (sp_l0 (sp_mop T J w o) c) 0))), none]) (st' := []) (h' := mj_up h 106 (mj_ar 25 (sp_it (sp_mop T J w o) (sp_l0 (sp_mop T J w o) c) 0))) rfl rfl rfl ?_
    refine gj_loop (fun j => [some (.ref 100), some (.int (nI w)), some (.int (nI c)), some (.int (nI o)), some (.int (nI (sp_fl (sp_mop T J w o) (sp_l0 (sp_mop T J w o) c) j))), none]) (fun j => mj_up h 106 (mj_ar 25 (sp_it (sp_mop T J w o) (sp_l0 (sp_mop T J w o) c) j))) sp_many ?_ (fun j hj ih => ?_) 0 (Nat.zero_le _)
    · show gj _ _ _ _ _ _ [some (.ref 100), some (.int (nI w)), some (.int (nI c)), some (.int (nI o)), some (.int (nI (sp_fl (sp_mop T J w o) (sp_l0 (sp_mop T J w o) c) sp_many))), none] _ _
      have hfl := sp_fl_m (p := (sp_mop T J w o)) (@sp_l0_le (sp_mop T J w o) c)
      refine gj_iload dX11_layFar_57 rfl ?_
      have hf9 := @sp_fl_le (sp_mop T J w o) (sp_l0 (sp_mop T J w o) c) sp_many
      refine gj_if_eqN (tgt := 114) (by omega) dX11_layFar_59 rfl (fun zq19 => ?_) (fun zq19 => ?_)
      rotate_left
      · exfalso; omega
      have he9 : (sp_it (sp_mop T J w o) (sp_l0 (sp_mop T J w o) c) sp_many) = (sp_it (sp_mop T J w o) (sp_l0 (sp_mop T J w o) c) sp_many) := rfl
      exact gj_vr rfl dX11_layFar_114 (by rw [← he9]; rfl)
    show gj _ _ _ _ _ _ [some (.ref 100), some (.int (nI w)), some (.int (nI c)), some (.int (nI o)), some (.int (nI (sp_fl (sp_mop T J w o) (sp_l0 (sp_mop T J w o) c) j))), none] _ _
    have hfl := sp_fl_m (p := (sp_mop T J w o)) (@sp_l0_le (sp_mop T J w o) c)
    refine gj_iload dX11_layFar_57 rfl ?_
    have hf9 := @sp_fl_le (sp_mop T J w o) (sp_l0 (sp_mop T J w o) c) j
    refine gj_if_eqN (tgt := 114) (by omega) dX11_layFar_59 rfl (fun zq20 => ?_) (fun zq20 => ?_)
    · -- 59 taken
      have hz9 := zq20
      have he9 := sp_fl_e (Nat.le_of_lt hj) hz9
      exact gj_vr rfl dX11_layFar_114 (by rw [← he9]; rfl)
    refine gj_ic (w := 0) dX11_layFar_62 ?_
    refine gj_istore (L' := [some (.ref 100), some (.int (nI w)), some (.int (nI c)), some (.int (nI o)), some (.int (nI 0)), none]) dX11_layFar_63 (Nat.le_of_ble_eq_true rfl) rfl ?_
    refine gj_ic (w := 0) dX11_layFar_65 ?_
    refine gj_istore (L' := [some (.ref 100), some (.int (nI w)), some (.int (nI c)), some (.int (nI o)), some (.int (nI 0)), some (.int (nI 0))]) dX11_layFar_66 (Nat.le_of_ble_eq_true rfl) rfl ?_
    refine gj_cast (L' := [some (.ref 100), some (.int (nI w)), some (.int (nI c)), some (.int (nI o)), some (.int (nI (sp_chg (sp_mop T J w o) (sp_it (sp_mop T J w o) (sp_l0 (sp_mop T J w o) c) j) 0))), some (.int (nI 0))]) (st' := []) (h' := mj_up h 106 (mj_ar 25 (sp_pass (sp_mop T J w o) (sp_it (sp_mop T J w o) (sp_l0 (sp_mop T J w o) c) j) 0))) rfl rfl rfl ?_
    refine gj_loop (fun k => [some (.ref 100), some (.int (nI w)), some (.int (nI c)), some (.int (nI o)), some (.int (nI (sp_chg (sp_mop T J w o) (sp_it (sp_mop T J w o) (sp_l0 (sp_mop T J w o) c) j) k))), some (.int (nI k))]) (fun k => mj_up h 106 (mj_ar 25 (sp_pass (sp_mop T J w o) (sp_it (sp_mop T J w o) (sp_l0 (sp_mop T J w o) c) j) k))) 25 ?_ (fun k hk ihk => ?_) 0 (Nat.zero_le _)
    · show gj _ _ _ _ _ _ [some (.ref 100), some (.int (nI w)), some (.int (nI c)), some (.int (nI o)), some (.int (nI (sp_chg (sp_mop T J w o) (sp_it (sp_mop T J w o) (sp_l0 (sp_mop T J w o) c) j) 25))), some (.int (nI 25))] _ _
      refine gj_iload dX11_layFar_68 rfl ?_
      refine gj_bp 25 dX11_layFar_70 (by decide) ?_
      refine gj_icmp_geN (tgt := 111) (by omega) (by omega) dX11_layFar_72 rfl (fun zq0 => ?_) (fun zq0 => ?_)
      rotate_left
      · exfalso; omega
      refine gj_goto (tgt := 57) dX11_layFar_111 rfl ?_
      refine gj_forget (i := 5) (L' := [some (.ref 100), some (.int (nI w)), some (.int (nI c)), some (.int (nI o)), some (.int (nI (sp_chg (sp_mop T J w o) (sp_it (sp_mop T J w o) (sp_l0 (sp_mop T J w o) c) j) 25))), none]) rfl ?_
      exact ih
    show gj _ _ _ _ _ _ [some (.ref 100), some (.int (nI w)), some (.int (nI c)), some (.int (nI o)), some (.int (nI (sp_chg (sp_mop T J w o) (sp_it (sp_mop T J w o) (sp_l0 (sp_mop T J w o) c) j) k))), some (.int (nI k))] _ _
    refine gj_iload dX11_layFar_68 rfl ?_
    refine gj_bp 25 dX11_layFar_70 (by decide) ?_
    refine gj_icmp_geN (tgt := 111) (by omega) (by omega) dX11_layFar_72 rfl (fun zq21 => ?_) (fun zq21 => ?_)
    · exfalso; omega
    refine gj_aload_n dX11_layFar_75 rfl ?_
    refine gj_iload dX11_layFar_76 rfl ?_
    refine gj_V1 lkX11_116 ((mj_up_ne (by decide)).trans H0) rfl rfl (ev_X11_bears ((mj_up_ne (by decide)).trans H0) ((mj_up_ne (by decide)).trans HT) ((mj_up_ne (by decide)).trans HJ) bT bJ (by omega)) dX11_layFar_78 rfl rfl rfl rfl rfl ?_
    have hb22 := @sp_bear_le (T (30 + k)) (J k)
    have hb23 := bJ k (by omega)
    refine gj_iload_n dX11_layFar_81 rfl ?_
    refine gj_icmp_ltN (tgt := 105) (by omega) (by omega) dX11_layFar_82 rfl (fun zq24 => ?_) (fun zq24 => ?_)
    · -- 82 taken
      have hq3 : sp_mb T J k < w := zq24
      refine gj_iincN (L' := [some (.ref 100), some (.int (nI w)), some (.int (nI c)), some (.int (nI o)), some (.int (nI (sp_chg (sp_mop T J w o) (sp_it (sp_mop T J w o) (sp_l0 (sp_mop T J w o) c) j) k))), some (.int (nI (k + 1)))]) dX11_layFar_105 rfl (Nat.le_of_ble_eq_true rfl) rfl ?_
      refine gj_goto (tgt := 68) dX11_layFar_108 rfl ?_
      first | exact gj_cast rfl rfl (by rw [mj_up_up, sp_pass_t hp9]) ihk | exact gj_cast (by rw [sp_chg_f (sp_mop_w hq3)]) rfl (by rw [sp_pass_f (sp_mop_w hq3)]) ihk | exact gj_cast (by rw [sp_chg_f (sp_mop_o hq4)]) rfl (by rw [sp_pass_f (sp_mop_o hq4)]) ihk
    have hq3 : w ≤ sp_mb T J k := zq24
    refine gj_iload_n dX11_layFar_85 rfl ?_
    refine gj_iload dX11_layFar_86 rfl ?_
    refine gj_S1 lkX11_161 (ev_X11_has (by omega) (by omega)) dX11_layFar_88 rfl rfl rfl rfl rfl ?_
    refine gj_if_neb (tgt := 105) dX11_layFar_91 rfl (fun zq25 => ?_) (fun zq25 => ?_)
    · -- 91 taken
      have hq4 := zq25
      refine gj_iincN (L' := [some (.ref 100), some (.int (nI w)), some (.int (nI c)), some (.int (nI o)), some (.int (nI (sp_chg (sp_mop T J w o) (sp_it (sp_mop T J w o) (sp_l0 (sp_mop T J w o) c) j) k))), some (.int (nI (k + 1)))]) dX11_layFar_105 rfl (Nat.le_of_ble_eq_true rfl) rfl ?_
      refine gj_goto (tgt := 68) dX11_layFar_108 rfl ?_
      first | exact gj_cast rfl rfl (by rw [mj_up_up, sp_pass_t hp9]) ihk | exact gj_cast (by rw [sp_chg_f (sp_mop_w hq3)]) rfl (by rw [sp_pass_f (sp_mop_w hq3)]) ihk | exact gj_cast (by rw [sp_chg_f (sp_mop_o hq4)]) rfl (by rw [sp_pass_f (sp_mop_o hq4)]) ihk
    have hq4 := zq25
    have hp9 := sp_mop_t hq3 hq4
    have hF9 : ∀ q, q < 25 → sp_pass (sp_mop T J w o) (sp_it (sp_mop T J w o) (sp_l0 (sp_mop T J w o) c) j) k q ≤ 1000000 := fun q _ => sp_pass_le (sp_it_le sp_l0_le j) k q
    refine gj_iload dX11_layFar_94 rfl ?_
    refine gj_aload_n dX11_layFar_96 rfl ?_
    refine gj_iload dX11_layFar_97 rfl ?_
    refine gj_V1 lkX11_164 ((mj_up_ne (by decide)).trans H0) rfl rfl (ev_X11_layNearer ((mj_up_ne (by decide)).trans H0) (mj_up_eq _ _ _) (by omega) hF9) dX11_layFar_99 rfl rfl rfl rfl rfl ?_
    refine gj_ior dX11_layFar_102 ?_
    refine gj_top (sp_chg_o hp9) ?_
    refine gj_istore (L' := [some (.ref 100), some (.int (nI w)), some (.int (nI c)), some (.int (nI o)), some (.int (nI (sp_chg (sp_mop T J w o) (sp_it (sp_mop T J w o) (sp_l0 (sp_mop T J w o) c) j) (k + 1)))), some (.int (nI k))]) dX11_layFar_103 (Nat.le_of_ble_eq_true rfl) rfl ?_
    refine gj_iincN (L' := [some (.ref 100), some (.int (nI w)), some (.int (nI c)), some (.int (nI o)), some (.int (nI (sp_chg (sp_mop T J w o) (sp_it (sp_mop T J w o) (sp_l0 (sp_mop T J w o) c) j) (k + 1)))), some (.int (nI (k + 1)))]) dX11_layFar_105 rfl (Nat.le_of_ble_eq_true rfl) rfl ?_
    refine gj_goto (tgt := 68) dX11_layFar_108 rfl ?_
    first | exact gj_cast rfl rfl (by rw [mj_up_up, sp_pass_t hp9]) ihk | exact gj_cast (by rw [sp_chg_f (sp_mop_w hq3)]) rfl (by rw [sp_pass_f (sp_mop_w hq3)]) ihk | exact gj_cast (by rw [sp_chg_f (sp_mop_o hq4)]) rfl (by rw [sp_pass_f (sp_mop_o hq4)]) ihk
  show gj _ _ _ _ _ _ [some (.ref 100), some (.int (nI w)), some (.int (nI c)), some (.int (nI o)), some (.int (nI j)), none] _ _
  refine gj_iload dX11_layFar_3 rfl ?_
  refine gj_bp 25 dX11_layFar_5 (by decide) ?_
  refine gj_icmp_geN (tgt := 25) (by omega) (by omega) dX11_layFar_7 rfl (fun zq26 => ?_) (fun zq26 => ?_)
  · exfalso; omega
  refine gj_aload_n dX11_layFar_10 rfl ?_
  refine gfX11_30 rfl dX11_layFar_11 ((mj_up_ne (by decide)).trans H0) rfl ?_
  refine gj_iload dX11_layFar_14 rfl ?_
  refine gj_ldc (v := nI 1000000) w_1179 dX11_layFar_16 ?_
  refine gj_iastN dX11_layFar_18 (mj_up_eq _ _ _) (by omega) (by omega) ?_
  refine gj_iincN (L' := [some (.ref 100), some (.int (nI w)), some (.int (nI c)), some (.int (nI o)), some (.int (nI (j + 1))), none]) dX11_layFar_19 rfl (Nat.le_of_ble_eq_true rfl) rfl ?_
  refine gj_goto (tgt := 3) dX11_layFar_22 rfl ?_
  exact gj_cast rfl rfl (by rw [mj_up_up, mj_mix_un rfl]) ih
