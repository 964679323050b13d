/-- what a place of the row of all that is told holds at the most -/
def mj_tl (i : Nat) : Nat := if i = 0 then 7 else if i = 1 ∨ i = 2 then 6 else if i = 3 then 8 else if i < 29 then 99 else if i = 29 then 999 else if i < 55 then 5 else if i < 69 then 9 else if i < 73 then 99 else if i < 80 then 5 else if i < 87 then 99 else if i < 94 then 24 else if i < 124 then (if (i - 94) % 5 = 2 ∨ (i - 94) % 5 = 3 then 9 else 99) else 198
theorem tl_ice {i : Nat} (h1 : 4 ≤ i) (h2 : i < 29) : mj_tl i = 99 := by unfold mj_tl; rw [if_neg (show ¬ (i = 0) by omega), if_neg (show ¬ (i = 1 ∨ i = 2) by omega), if_neg (show ¬ (i = 3) by omega), if_pos (show i < 29 by omega)]
theorem tl_kind {i : Nat} (h1 : 30 ≤ i) (h2 : i < 55) : mj_tl i = 5 := by unfold mj_tl; rw [if_neg (show ¬ (i = 0) by omega), if_neg (show ¬ (i = 1 ∨ i = 2) by omega), if_neg (show ¬ (i = 3) by omega), if_neg (show ¬ (i < 29) by omega), if_neg (show ¬ (i = 29) by omega), if_pos (show i < 55 by omega)]
theorem tl_wk {i : Nat} (h1 : 55 ≤ i) (h2 : i < 69) : mj_tl i = 9 := by unfold mj_tl; rw [if_neg (show ¬ (i = 0) by omega), if_neg (show ¬ (i = 1 ∨ i = 2) by omega), if_neg (show ¬ (i = 3) by omega), if_neg (show ¬ (i < 29) by omega), if_neg (show ¬ (i = 29) by omega), if_neg (show ¬ (i < 55) by omega), if_pos (show i < 69 by omega)]
theorem tl_word {i : Nat} (h1 : 69 ≤ i) (h2 : i < 73) : mj_tl i = 99 := by unfold mj_tl; rw [if_neg (show ¬ (i = 0) by omega), if_neg (show ¬ (i = 1 ∨ i = 2) by omega), if_neg (show ¬ (i = 3) by omega), if_neg (show ¬ (i < 29) by omega), if_neg (show ¬ (i = 29) by omega), if_neg (show ¬ (i < 55) by omega), if_neg (show ¬ (i < 69) by omega), if_pos (show i < 73 by omega)]
theorem tl_sort {i : Nat} (h1 : 73 ≤ i) (h2 : i < 80) : mj_tl i = 5 := by unfold mj_tl; rw [if_neg (show ¬ (i = 0) by omega), if_neg (show ¬ (i = 1 ∨ i = 2) by omega), if_neg (show ¬ (i = 3) by omega), if_neg (show ¬ (i < 29) by omega), if_neg (show ¬ (i = 29) by omega), if_neg (show ¬ (i < 55) by omega), if_neg (show ¬ (i < 69) by omega), if_neg (show ¬ (i < 73) by omega), if_pos (show i < 80 by omega)]
theorem tl_wgt {i : Nat} (h1 : 80 ≤ i) (h2 : i < 87) : mj_tl i = 99 := by unfold mj_tl; rw [if_neg (show ¬ (i = 0) by omega), if_neg (show ¬ (i = 1 ∨ i = 2) by omega), if_neg (show ¬ (i = 3) by omega), if_neg (show ¬ (i < 29) by omega), if_neg (show ¬ (i = 29) by omega), if_neg (show ¬ (i < 55) by omega), if_neg (show ¬ (i < 69) by omega), if_neg (show ¬ (i < 73) by omega), if_neg (show ¬ (i < 80) by omega), if_pos (show i < 87 by omega)]
theorem tl_at {i : Nat} (h1 : 87 ≤ i) (h2 : i < 94) : mj_tl i = 24 := by unfold mj_tl; rw [if_neg (show ¬ (i = 0) by omega), if_neg (show ¬ (i = 1 ∨ i = 2) by omega), if_neg (show ¬ (i = 3) by omega), if_neg (show ¬ (i < 29) by omega), if_neg (show ¬ (i = 29) by omega), if_neg (show ¬ (i < 55) by omega), if_neg (show ¬ (i < 69) by omega), if_neg (show ¬ (i < 73) by omega), if_neg (show ¬ (i < 80) by omega), if_neg (show ¬ (i < 87) by omega), if_pos (show i < 94 by omega)]
theorem tl_note {i : Nat} (h1 : 94 ≤ i) (h2 : i < 124) : mj_tl i = if (i - 94) % 5 = 2 ∨ (i - 94) % 5 = 3 then 9 else 99 := by unfold mj_tl; rw [if_neg (show ¬ (i = 0) by omega), if_neg (show ¬ (i = 1 ∨ i = 2) by omega), if_neg (show ¬ (i = 3) by omega), if_neg (show ¬ (i < 29) by omega), if_neg (show ¬ (i = 29) by omega), if_neg (show ¬ (i < 55) by omega), if_neg (show ¬ (i < 69) by omega), if_neg (show ¬ (i < 73) by omega), if_neg (show ¬ (i < 80) by omega), if_neg (show ¬ (i < 87) by omega), if_neg (show ¬ (i < 94) by omega), if_pos (show i < 124 by omega)]
theorem tl_vote {i : Nat} (h1 : 124 ≤ i) (h2 : i < 154) : mj_tl i = 198 := by unfold mj_tl; rw [if_neg (show ¬ (i = 0) by omega), if_neg (show ¬ (i = 1 ∨ i = 2) by omega), if_neg (show ¬ (i = 3) by omega), if_neg (show ¬ (i < 29) by omega), if_neg (show ¬ (i = 29) by omega), if_neg (show ¬ (i < 55) by omega), if_neg (show ¬ (i < 69) by omega), if_neg (show ¬ (i < 73) by omega), if_neg (show ¬ (i < 80) by omega), if_neg (show ¬ (i < 87) by omega), if_neg (show ¬ (i < 94) by omega), if_neg (show ¬ (i < 124) by omega)]
theorem mj_Tb_e {T : Nat → Nat} : mj_Tb T ↔ ∀ i, i < 154 → T i ≤ mj_tl i := by
  constructor
  · rintro ⟨b0, b1, b2, b3, b4, b5, b6, b7, b8, b9, b10, b11, b12, b13, b14, b15⟩ i hi
    by_cases i0 : i = 0
    · rw [i0]; exact b0
    by_cases i1 : i = 1
    · rw [i1]; exact b1
    by_cases i2 : i = 2
    · rw [i2]; exact b2
    by_cases i3 : i = 3
    · rw [i3]; exact b3
    by_cases i4 : i < 29
    · have := b5 (i - 4) (by omega)
      rw [show 4 + (i - 4) = i by omega] at this
      rw [tl_ice (by omega) (by omega)]; exact this
    by_cases i5 : i = 29
    · rw [i5]; exact b4
    by_cases i6 : i < 55
    · have := b6 (i - 30) (by omega)
      rw [show 30 + (i - 30) = i by omega] at this
      rw [tl_kind (by omega) (by omega)]; exact this
    by_cases i7 : i < 62
    · have := b7 (i - 55) (by omega)
      rw [show 55 + (i - 55) = i by omega] at this
      rw [tl_wk (by omega) (by omega)]; exact this
    by_cases i8 : i < 69
    · have := b8 (i - 62) (by omega)
      rw [show 62 + (i - 62) = i by omega] at this
      rw [tl_wk (by omega) (by omega)]; exact this
    by_cases i9 : i < 73
    · have := b9 (i - 69) (by omega)
      rw [show 69 + (i - 69) = i by omega] at this
      rw [tl_word (by omega) (by omega)]; exact this
    by_cases i10 : i < 80
    · have := b10 (i - 73) (by omega)
      rw [show 73 + (i - 73) = i by omega] at this
      rw [tl_sort (by omega) (by omega)]; exact this
    by_cases i11 : i < 87
    · have := b11 (i - 80) (by omega)
      rw [show 80 + (i - 80) = i by omega] at this
      rw [tl_wgt (by omega) (by omega)]; exact this
    by_cases i12 : i < 94
    · have := b12 (i - 87) (by omega)
      rw [show 87 + (i - 87) = i by omega] at this
      rw [tl_at (by omega) (by omega)]; exact this
    by_cases i13 : i < 124
    · have := b13 (i - 94) (by omega)
      rw [show 94 + (i - 94) = i by omega] at this
      have h2 := b15 ((i - 94) / 5) (by omega)
      by_cases j2 : (i - 94) % 5 = 2
      · have h3 := h2.1
        rw [show 94 + 5 * ((i - 94) / 5) + 2 = i by omega] at h3
        rw [tl_note (by omega) (by omega), if_pos (Or.inl j2)]; exact h3
      by_cases j3 : (i - 94) % 5 = 3
      · have h3 := h2.2
        rw [show 94 + 5 * ((i - 94) / 5) + 3 = i by omega] at h3
        rw [tl_note (by omega) (by omega), if_pos (Or.inr j3)]; exact h3
      rw [tl_note (by omega) (by omega), if_neg (by omega)]; exact this
    · have := b14 (i - 124) (by omega)
      rw [show 124 + (i - 124) = i by omega] at this
      rw [tl_vote (by omega) hi]; exact this
  · intro h
    refine ⟨h 0 (by decide), h 1 (by decide), h 2 (by decide), h 3 (by decide), h 29 (by decide), fun q hq => ?_, fun q hq => ?_, fun q hq => ?_, fun q hq => ?_, fun q hq => ?_, fun q hq => ?_, fun q hq => ?_, fun q hq => ?_, fun q hq => ?_, fun q hq => ?_, fun q hq => ⟨?_, ?_⟩⟩
    · exact Nat.le_trans (h (4 + q) (by omega)) (Nat.le_of_eq (tl_ice (by omega) (by omega)))
    · exact Nat.le_trans (h (30 + q) (by omega)) (Nat.le_of_eq (tl_kind (by omega) (by omega)))
    · exact Nat.le_trans (h (55 + q) (by omega)) (Nat.le_of_eq (tl_wk (by omega) (by omega)))
    · exact Nat.le_trans (h (62 + q) (by omega)) (Nat.le_of_eq (tl_wk (by omega) (by omega)))
    · exact Nat.le_trans (h (69 + q) (by omega)) (Nat.le_of_eq (tl_word (by omega) (by omega)))
    · exact Nat.le_trans (h (73 + q) (by omega)) (Nat.le_of_eq (tl_sort (by omega) (by omega)))
    · exact Nat.le_trans (h (80 + q) (by omega)) (Nat.le_of_eq (tl_wgt (by omega) (by omega)))
    · exact Nat.le_trans (h (87 + q) (by omega)) (Nat.le_of_eq (tl_at (by omega) (by omega)))
    · exact Nat.le_trans (h (94 + q) (by omega)) (by rw [tl_note (by omega) (by omega)]; split <;> omega)
    · exact Nat.le_trans (h (124 + q) (by omega)) (Nat.le_of_eq (tl_vote (by omega) (by omega)))
    · exact Nat.le_trans (h (94 + 5 * q + 2) (by omega)) (by rw [tl_note (by omega) (by omega), if_pos (by omega)]; omega)
    · exact Nat.le_trans (h (94 + 5 * q + 3) (by omega)) (by rw [tl_note (by omega) (by omega), if_pos (by omega)]; omega)
theorem mj_Tb_un {T : Nat → Nat} {i x : Nat} (b : mj_Tb T) (h : i < 154 → x ≤ mj_tl i) : mj_Tb (mj_un T i x) := mj_Tb_e.mpr fun j hj => by
  by_cases q : j = i
  · rw [q, mj_un_eq]; exact h (by omega)
  · rw [mj_un_ne q]; exact mj_Tb_e.mp b j hj
theorem mj_Tb_beg {T : Nat → Nat} {v : Nat} (h : v ≤ 99) : mj_Tb (sp_beg T v) := mj_Tb_e.mpr fun j hj => by
  unfold sp_beg
  by_cases q : 4 ≤ j ∧ j < 29
  · rw [if_pos q, tl_ice q.1 q.2]; exact h
  · rw [if_neg q, if_pos hj]; exact Nat.zero_le _
theorem mj_Tb_mix {A T : Nat → Nat} (b : mj_Tb A) : mj_Tb (mj_mix A T 154) := mj_Tb_e.mpr fun j hj => by rw [mj_mix_lt hj]; exact mj_Tb_e.mp b j hj
theorem sp_cka_Tb {k : Nat → Nat} {v : Nat} {A : Nat → Nat} (b : mj_Tb A) (hv : v ≤ 5) : ∀ m, (∀ i, i < m → k i ≤ 24) → mj_Tb (sp_cka k v A m) := by
  intro m
  induction m with
  | zero => exact fun _ => b
  | succ m ih =>
    intro h
    rw [sp_cka_s]
    refine mj_Tb_un (ih fun i hi => h i (by omega)) fun _ => ?_
    have := h m (by omega)
    rw [tl_kind (by omega) (by omega)]; exact hv
theorem sp_wka_Tb {k l : Nat → Nat} {A : Nat → Nat} (b : mj_Tb A) : ∀ m, m ≤ 7 → (∀ i, i < m → k i ≤ 9 ∧ l i ≤ 9) → mj_Tb (sp_wka k l A m) := by
  intro m
  induction m with
  | zero => exact fun _ _ => b
  | succ m ih =>
    intro hm h
    rw [sp_wka_s]
    have := h m (by omega)
    refine mj_Tb_un (mj_Tb_un (ih (by omega) fun i hi => h i (by omega)) fun _ => ?_) fun _ => ?_
    · rw [tl_wk (by omega) (by omega)]; exact this.1
    · rw [tl_wk (by omega) (by omega)]; exact this.2
theorem pi_Tb {B : Nat → Nat} {n t : Nat} {A : Nat → Nat} (b : mj_Tb A) (h : pi_ok B n t (A 0) = true) : mj_Tb (pi_A B n t A) := by
  unfold pi_ok at h
  unfold pi_A
  by_cases q1 : sp_tt B n t = 4294967291
  · rw [if_pos q1] at h ⊢
    exact sp_cka_Tb b (of_decide_eq_true h).1 _ fun i hi => sp_m1_f hi
  rw [if_neg q1] at h ⊢
  by_cases q2 : sp_tt B n t = 4294967290
  · rw [if_pos q2]
    exact sp_wka_Tb b _ sp_m2_le fun i hi => sp_m2_f hi
  rw [if_neg q2] at h ⊢
  by_cases q3 : sp_tt B n t = 4294967289
  · rw [if_pos q3] at h ⊢
    have h2 := of_decide_eq_true h
    refine mj_Tb_un (mj_Tb_un (mj_Tb_un (mj_Tb_un b fun _ => ?_) fun _ => ?_) fun _ => ?_) fun _ => ?_
    · rw [tl_sort (by omega) (by omega)]; exact h2.2.1
    · rw [tl_wgt (by omega) (by omega)]; exact h2.2.2.1.2
    · rw [tl_at (by omega) (by omega)]; exact h2.2.2.2.1
    · show A 0 + 1 ≤ 7; omega
  · rw [if_neg q3]; exact b
/-- where the reference's reading ends -/
def mj_Zr (h : mj_H) (a0 a1 n : Nat) (B T : Nat → Nat) (R : Bool × Nat × (Nat → Nat)) : Option Value → mj_H → Prop := fun r h' => r = some (.int (sp_an B n R)) ∧ ∃ (u : Nat) (A' W' : Nat → Nat), (R.1 = false → h' = mj_up (mj_up (mj_up h 100 (mj_mt a0 a1 n B u)) 108 (mj_ar 154 A')) 109 (mj_ar 3 W')) ∧ (R.1 = true → h' = mj_up (mj_up (mj_up (mj_up h 100 (mj_mt a0 a1 n B u)) 101 (mj_ar 362 (mj_mix R.2.2 T 154))) 108 (mj_ar 154 A')) 109 (mj_ar 3 W') ∧ mj_Tb R.2.2)
theorem rl_copy {E : mj_E} {h : mj_H} {a0 a1 y2 u i : Nat} {B T A W : Nat → Nat} {R : Bool × Nat × (Nat → Nat)} (HT : h 101 = some (mj_ar 362 T)) (hR : R = (true, i, A)) (hb : mj_Tb A) :
    gj E (mj_XM E iX11_read (mj_Zr h a0 a1 y2 B T R)) cX11_read 0 0 66 [some (.ref 100), some (.int (nI i)), none] [] (mj_up (mj_up (mj_up h 100 (mj_mt a0 a1 y2 B u)) 108 (mj_ar 154 A)) 109 (mj_ar 3 W)) := by
  refine gj_ic (w := 0) dX11_read_66 ?_
  refine gj_istore_n (L' := [some (.ref 100), some (.int (nI i)), some (.int (nI 0))]) dX11_read_67 (Nat.le_of_ble_eq_true rfl) rfl ?_
  refine gj_cast (L' := [some (.ref 100), some (.int (nI i)), some (.int (nI 0))]) (st' := []) (h' := mj_up (mj_up (mj_up (mj_up h 100 (.inr (9, [.ref 101, .ref 102, .ref 103, .ref 104, .long (lN a0), .long (lN a1), .ref 105, .ref 106, .ref 107, .int (nI y2), .int (nI (sp_ss B y2 u)), .int (nI (sp_ps B y2 (u + 1) - sp_ss B y2 u)), .int (nI (sp_xkt B y2 u)), .int (nI (sp_xvt B y2 u)), .ref 108, .ref 109]))) 101 (mj_ar 362 (mj_mix A T 0))) 108 (mj_ar 154 A)) 109 (mj_ar 3 W)) rfl rfl (by funext x; unfold mj_up; (repeat' split) <;> first | rfl | omega | (subst_vars; rw [mj_mix_0]; exact HT)) ?_
  refine gj_loop (fun j => [some (.ref 100), some (.int (nI i)), some (.int (nI j))]) (fun j => mj_up (mj_up (mj_up (mj_up h 100 (.inr (9, [.ref 101, .ref 102, .ref 103, .ref 104, .long (lN a0), .long (lN a1), .ref 105, .ref 106, .ref 107, .int (nI y2), .int (nI (sp_ss B y2 u)), .int (nI (sp_ps B y2 (u + 1) - sp_ss B y2 u)), .int (nI (sp_xkt B y2 u)), .int (nI (sp_xvt B y2 u)), .ref 108, .ref 109]))) 101 (mj_ar 362 (mj_mix A T j))) 108 (mj_ar 154 A)) 109 (mj_ar 3 W)) 154 ?_ (fun j hj ih => ?_) 0 (Nat.zero_le _)
  · show gj _ _ _ _ _ _ [some (.ref 100), some (.int (nI i)), some (.int (nI 154))] _ _
    refine gj_iload_n dX11_read_68 rfl ?_
    refine gj_sp 154 dX11_read_69 (by decide) ?_
    refine gj_icmp_geN (tgt := 93) (by omega) (by omega) dX11_read_72 rfl (fun zq0 => ?_) (fun zq0 => ?_)
    rotate_left
    · exfalso; omega
    refine gj_iload_n dX11_read_93 rfl ?_
    exact gj_iret rfl dX11_read_94 ⟨Nat.zero_le _, Nat.zero_le _⟩ ⟨by rw [hR, sp_an_t], u, A, W, fun z => (by rw [hR] at z; exact nomatch z), fun _ => ⟨by rw [hR]; rfl, by rw [hR]; exact hb⟩⟩
  show gj _ _ _ _ _ _ [some (.ref 100), some (.int (nI i)), some (.int (nI j))] _ _
  refine gj_iload_n dX11_read_68 rfl ?_
  refine gj_sp 154 dX11_read_69 (by decide) ?_
  refine gj_icmp_geN (tgt := 93) (by omega) (by omega) dX11_read_72 rfl (fun zq1 => ?_) (fun zq1 => ?_)
  · exfalso; omega
  refine gj_aload_n dX11_read_75 rfl ?_
  refine gfX11_7 rfl dX11_read_76 ((mj_up_ne (by decide)).trans ((mj_up_ne (by decide)).trans ((mj_up_ne (by decide)).trans (mj_up_eq _ _ _)))) rfl ?_
  refine gj_iload_n dX11_read_79 rfl ?_
  refine gj_aload_n dX11_read_80 rfl ?_
  refine gfX11_36 rfl dX11_read_81 ((mj_up_ne (by decide)).trans ((mj_up_ne (by decide)).trans ((mj_up_ne (by decide)).trans (mj_up_eq _ _ _)))) rfl ?_
  refine gj_iload_n dX11_read_84 rfl ?_
  refine gj_ialdN dX11_read_85 ((mj_up_ne (by decide)).trans (mj_up_eq _ _ _)) (by omega) (by omega) ?_
  refine gj_iastN dX11_read_86 ((mj_up_ne (by decide)).trans ((mj_up_ne (by decide)).trans (mj_up_eq _ _ _))) (by omega) (by omega) ?_
  refine gj_cast (h' := mj_up (mj_up (mj_up (mj_up h 100 (.inr (9, [.ref 101, .ref 102, .ref 103, .ref 104, .long (lN a0), .long (lN a1), .ref 105, .ref 106, .ref 107, .int (nI y2), .int (nI (sp_ss B y2 u)), .int (nI (sp_ps B y2 (u + 1) - sp_ss B y2 u)), .int (nI (sp_xkt B y2 u)), .int (nI (sp_xvt B y2 u)), .ref 108, .ref 109]))) 101 (mj_ar 362 (mj_un (mj_mix A T j) j (A j)))) 108 (mj_ar 154 A)) 109 (mj_ar 3 W)) rfl rfl (by funext x; unfold mj_up; (repeat' split) <;> first | rfl | omega) ?_
  refine gj_iincN (L' := [some (.ref 100), some (.int (nI i)), some (.int (nI (j + 1)))]) dX11_read_87 rfl (Nat.le_of_ble_eq_true rfl) rfl ?_
  refine gj_goto (tgt := 68) dX11_read_90 rfl ?_
  exact gj_cast rfl rfl (by rw [mj_mix_un rfl]) ih
theorem rl_loop {E : mj_E} {h : mj_H} {a0 a1 n : Nat} {B T : Nat → Nat} (HT : h 101 = some (mj_ar 362 T)) (HB : h 107 = some (mj_ar 150 B)) (hB : ∀ c, B c ≤ 127) (hn : n ≤ 150) : ∀ (F i t : Nat) (A W : Nat → Nat), i + F = 151 → 1 ≤ i → i + 1 ≤ t → t < sp_tE B n → mj_Tb A →
    gj E (mj_XM E iX11_read (mj_Zr h a0 a1 n B T (sp_run B n F t A i))) cX11_read 0 0 26 [some (.ref 100), some (.int (nI i)), none] [] (mj_up (mj_up (mj_up h 100 (mj_mt a0 a1 n B (t + 1))) 108 (mj_ar 154 A)) 109 (mj_ar 3 W)) := by
  intro F
  induction F with
  | zero =>
    intro i t A W e1 e2 e3 ht
    have := sp_tE_le (B := B) hn
    exfalso; omega
  | succ F ih =>
    intro i t A W e1 e2 e3 ht hb
    have hE := sp_tE_le (B := B) hn
    have hxl := @sp_xkt_le B n (t + 1)
    have L0 : mj_up (mj_up (mj_up h 100 (mj_mt a0 a1 n B (t + 1))) 108 (mj_ar 154 A)) 109 (mj_ar 3 W) 100 = some (mj_mt a0 a1 n B (t + 1)) := (mj_up_ne (by decide)).trans ((mj_up_ne (by decide)).trans (mj_up_eq _ _ _))
    refine gj_aload_n dX11_read_26 rfl ?_
    refine gfX11_248 rfl dX11_read_27 L0 rfl ?_
    show gj _ _ _ _ _ _ _ ((.int (nI (sp_xkt B n (t + 1))) : Value) :: _) _
    refine gj_if_eqN (tgt := 66) (by omega) dX11_read_30 rfl (fun q0 => ?_) (fun q0 => ?_)
    · have q := (sp_tt_zero hB).mp q0
      have hrun : sp_run B n (F + 1) t A i = (true, i, A) := by
        show (if _ then _ else _) = _
        rw [if_pos q]
      exact rl_copy HT hrun hb
    · have q : ¬ sp_tt B n (t + 1) = 4294967295 := fun z => q0 ((sp_tt_zero hB).mpr z)
      have ht1 : t + 1 < sp_tE B n := sp_tE_lt hn (by omega) q
      refine gj_aload_n dX11_read_33 rfl ?_
      refine gj_VP lkX11_287 L0 rfl rfl (ev_X11_item L0 ((mj_up_ne (by decide)).trans ((mj_up_ne (by decide)).trans ((mj_up_ne (by decide)).trans HB))) ((mj_up_ne (by decide)).trans (mj_up_eq _ _ _)) (mj_up_eq _ _ _) hB hn ht1 hb.1) dX11_read_34 rfl rfl rfl rfl rfl ?_
      rintro r h' ⟨ok, A', W', hr, hh', z1, z2⟩
      subst hr
      rw [mj_p6] at hh'
      subst hh'
      have hle := pi_le (z := A 0) hn ht1
      have hxe := @sp_xkt_le B n (pi_en B n (t + 1) (A 0))
      have L1 : mj_up (mj_up (mj_up h 100 (mj_mt a0 a1 n B (pi_en B n (t + 1) (A 0)))) 108 (mj_ar 154 A')) 109 (mj_ar 3 W') 100 = some (mj_mt a0 a1 n B (pi_en B n (t + 1) (A 0))) := (mj_up_ne (by decide)).trans ((mj_up_ne (by decide)).trans (mj_up_eq _ _ _))
      have hfail : pi_ok B n (t + 1) (A 0) = false → gj E (mj_XM E iX11_read (mj_Zr h a0 a1 n B T (sp_run B n (F + 1) t A i))) cX11_read 0 0 48 [some (.ref 100), some (.int (nI i)), none] [] (mj_up (mj_up (mj_up h 100 (mj_mt a0 a1 n B (pi_en B n (t + 1) (A 0)))) 108 (mj_ar 154 A')) 109 (mj_ar 3 W')) := by
        intro z
        have hrun : sp_run B n (F + 1) t A i = (false, pi_en B n (t + 1) (A 0), A) := by
          show (if _ then _ else _) = _
          rw [if_neg q, if_neg (by rw [z]; decide)]
        refine gj_bipush (v := (-10)) dX11_read_48 (by decide) ?_
        refine gj_top (y := nI 4294967286) (by decide) ?_
        refine gj_aload_n dX11_read_50 rfl ?_
        refine gfX11_242 rfl dX11_read_51 L1 rfl ?_
        refine gj_isub dX11_read_54 ?_
        exact gj_iret rfl dX11_read_55 ⟨Nat.zero_le _, Nat.zero_le _⟩ ⟨by rw [hrun, sp_an_f], _, _, _, fun _ => rfl, fun y => by rw [hrun] at y; exact nomatch y⟩
      show gj _ _ _ _ _ _ _ [(.int (mj_b ok) : Value)] _
      refine gj_if_eqb (tgt := 48) dX11_read_37 rfl (fun z => ?_) (fun z => ?_)
      · exact hfail (Bool.eq_false_iff.mpr fun y => by rw [(z1 y).1] at z; exact nomatch z)
      refine gj_aload_n dX11_read_40 rfl ?_
      refine gfX11_248 rfl dX11_read_41 L1 rfl ?_
      show gj _ _ _ _ _ _ _ ((.int (nI (sp_xkt B n (pi_en B n (t + 1) (A 0)))) : Value) :: _) _
      refine gj_ic (w := 3) dX11_read_44 ?_
      refine gj_icmp_eqN (tgt := 56) (by omega) (by omega) dX11_read_45 rfl (fun w => ?_) (fun w => ?_)
      · have hst := (sp_tt_stop hB).mp w
        have hok : pi_ok B n (t + 1) (A 0) = true := by
          by_cases y : pi_ok B n (t + 1) (A 0) = true
          · exact y
          · exact absurd hst (z2 (Bool.eq_false_iff.mpr y) z)
        have hps := pi_stop hok
        have hA := (z1 hok).2
        subst hA
        have hrun : sp_run B n (F + 1) t A i = sp_run B n F (pi_en B n (t + 1) (A 0)) (pi_A B n (t + 1) A) (i + 1) := by
          show (if _ then _ else _) = _
          rw [if_neg q, if_pos hok]
        rw [hrun]
        refine gj_aload_n dX11_read_56 rfl ?_
        refine gj_V0 lkX11_263 L1 rfl rfl (ev_X11_goBehind (t := pi_en B n (t + 1) (A 0)) L1 ((mj_up_ne (by decide)).trans ((mj_up_ne (by decide)).trans ((mj_up_ne (by decide)).trans HB))) hB hn) dX11_read_57 rfl rfl rfl rfl rfl ?_
        refine gj_cast (h' := mj_up (mj_up (mj_up h 100 (mj_mt a0 a1 n B (pi_en B n (t + 1) (A 0) + 1))) 108 (mj_ar 154 (pi_A B n (t + 1) A))) 109 (mj_ar 3 W')) rfl rfl (by funext x; unfold mj_up; (repeat' split) <;> first | rfl | omega) ?_
        refine gj_iincN (L' := [some (.ref 100), some (.int (nI (i + 1))), none]) dX11_read_60 rfl (Nat.le_of_ble_eq_true rfl) rfl ?_
        refine gj_goto (tgt := 26) dX11_read_63 rfl ?_
        exact ih (i + 1) _ _ W' (by omega) (by omega) (by omega) (sp_tE_lt hn hle (by rw [hst]; decide)) (pi_Tb hb hok)
      · exact hfail (Bool.eq_false_iff.mpr fun y => w ((sp_tt_stop hB).mpr (pi_stop y).1))
