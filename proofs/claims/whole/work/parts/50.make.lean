theorem mj_alS {h : mj_H} {a : Nat} {e : va_E} (p : h a = some e) : mj_al h a := Or.inl (by rw [p]; exact fun z => nomatch z)
theorem mj_alN {h : mj_H} : mj_alL h [] := fun i v z => nomatch z
theorem mj_alC {h : mj_H} {v : Value} {L : List (Option Value)} (p : mj_vl h v) (q : mj_alL h L) : mj_alL h (some v :: L) := fun i w z => by
  cases i with
  | zero => cases z; exact p
  | succ i => exact q i w z
theorem mj_alO {h : mj_H} {L : List (Option Value)} (q : mj_alL h L) : mj_alL h (none :: L) := fun i w z => by
  cases i with
  | zero => cases z
  | succ i => exact q i w z
theorem mj_stN {h : mj_H} : ∀ v ∈ ([] : List Value), mj_vl h v := fun v z => absurd z List.not_mem_nil
theorem mj_stC {h : mj_H} {v : Value} {L : List Value} (p : mj_vl h v) (q : ∀ v ∈ L, mj_vl h v) : ∀ w ∈ v :: L, mj_vl h w := List.forall_mem_cons.mpr ⟨p, q⟩
def mj_nr : Value → Bool
  | .ref _ => false
  | _ => true
theorem mj_nr_v {h : mj_H} {fs : List Value} (q : fs.all mj_nr = true) : ∀ v ∈ fs, mj_vl h v := fun v z => by
  have := List.all_eq_true.mp q v z
  cases v <;> first | trivial | cases this
theorem mj_nr_m {fs : List Value} (q : fs.all mj_nr = true) : ∀ φ, fs.map (mj_v φ) = fs := fun φ => by
  induction fs with
  | nil => rfl
  | cons v fs ih =>
    rw [List.all_cons, Bool.and_eq_true] at q
    rw [List.map_cons, ih q.2]
    cases v <;> first | rfl | cases q.1
def mj_dvb (ty : Nat → FieldType) (fs : List Value) : Nat → Bool
  | 0 => true
  | n + 1 => mj_dvb ty fs n && decide (defaultValue (ty n) = vp_V fs n)
theorem mj_dv {ty : Nat → FieldType} {fs : List Value} {N : Nat} (q : mj_dvb ty fs N = true) : ∀ j, j < N → defaultValue (ty j) = vp_V fs j := by
  induction N with
  | zero => exact fun j z => absurd z (Nat.not_lt_zero _)
  | succ N ih =>
    have q2 : mj_dvb ty fs N = true ∧ decide (defaultValue (ty N) = vp_V fs N) = true := by rw [← Bool.and_eq_true]; exact q
    intro j hj
    rcases Nat.lt_succ_iff_lt_or_eq.mp hj with z | z
    · exact ih q2.1 j z
    · subst z; exact of_decide_eq_true q2.2
theorem mj_lay_0 {h : mj_H} {b : Nat} {D : Nat → Nat → Nat} : mj_lay h b D b = some (mj_lc b D 0) := by
  unfold mj_lay
  rw [if_pos ⟨by omega, by omega⟩, Nat.sub_self]
section MJK
variable {E : mj_E} {X : mj_XT} {cc : ByteArray} {k n pc : Nat} {L : List (Option Value)} {st : List Value} {h : mj_H}
theorem gj_newiN {N i w : Nat} (hw : Cond.arrayClass .int ∈ mj_TB) (hn : w < 2 ^ 31) (hN : w = N) (hby : Nat.ble (N * componentBytes .int) 536870912 = true) (hR : (Nat.ble (k + 1) X.2.2.1.cells && Nat.ble (n + N) X.2.2.1.slots) = true) (hd : decode cc pc = .ok (.newarray .int, 2)) (hi : h i = none) (hi2 : i < 1000) (hL : mj_alL h L) (hst : ∀ v ∈ st, mj_vl h v)
    (kk : gj E X cc (k + 1) (n + N) (pc + 2) L (.ref i :: st) (mj_up h i (mj_ar N (fun _ => 0)))) : gj E X cc k n pc L (.int (nI w) :: st) h := by
  rw [Bool.and_eq_true] at hR
  exact gj_newi hw (by rw [Int32.lt_iff_toInt_lt, nI_toInt hn]; show ¬ (_ : Int) < 0; omega) (by rw [nI_clamp hn, hN]) (Nat.le_of_ble_eq_true hby) ⟨Nat.le_of_ble_eq_true hR.1, Nat.le_of_ble_eq_true hR.2⟩ hd hi hi2 hL hst kk
theorem gj_newlN {N i w : Nat} (hw : Cond.arrayClass .long ∈ mj_TB) (hn : w < 2 ^ 31) (hN : w = N) (hby : Nat.ble (N * componentBytes .long) 536870912 = true) (hR : (Nat.ble (k + 1) X.2.2.1.cells && Nat.ble (n + N) X.2.2.1.slots) = true) (hd : decode cc pc = .ok (.newarray .long, 2)) (hi : h i = none) (hi2 : i < 1000) (hL : mj_alL h L) (hst : ∀ v ∈ st, mj_vl h v)
    (kk : gj E X cc (k + 1) (n + N) (pc + 2) L (.ref i :: st) (mj_up h i (mj_al64 N (fun _ => 0)))) : gj E X cc k n pc L (.int (nI w) :: st) h := by
  rw [Bool.and_eq_true] at hR
  exact gj_newl hw (by rw [Int32.lt_iff_toInt_lt, nI_toInt hn]; show ¬ (_ : Int) < 0; omega) (by rw [nI_clamp hn, hN]) (Nat.le_of_ble_eq_true hby) ⟨Nat.le_of_ble_eq_true hR.1, Nat.le_of_ble_eq_true hR.2⟩ hd hi hi2 hL hst kk
theorem gj_newzN {i : Nat} (hw : Cond.arrayClass .boolean ∈ mj_TB) (hR : (Nat.ble (k + 1) X.2.2.1.cells && Nat.ble (n + 2) X.2.2.1.slots) = true) (hd : decode cc pc = .ok (.newarray .boolean, 2)) (hi : h i = none) (hi2 : i < 1000) (hL : mj_alL h L) (hst : ∀ v ∈ st, mj_vl h v)
    (kk : gj E X cc (k + 1) (n + 2) (pc + 2) L (.ref i :: st) (mj_up h i (mj_br (fun _ => 0)))) : gj E X cc k n pc L (.int (nI 2) :: st) h := by
  rw [Bool.and_eq_true] at hR
  exact gj_newz (N := 2) hw (by decide) (by decide) (by decide) ⟨Nat.le_of_ble_eq_true hR.1, Nat.le_of_ble_eq_true hR.2⟩ hd hi hi2 hL hst kk
theorem gj_newqN {i idx : Nat} (hw : Cond.classLink X.1 idx "IceVote$Lake" ∈ mj_TB) (hR : (Nat.ble (k + 1) X.2.2.1.cells && Nat.ble (n + 2) X.2.2.1.slots) = true) (hd : decode cc pc = .ok (.anewarray idx, 3)) (hi : h i = none) (hi2 : i < 1000) (hL : mj_alL h L) (hst : ∀ v ∈ st, mj_vl h v)
    (kk : gj E X cc (k + 1) (n + 2) (pc + 3) L (.ref i :: st) (mj_up h i (.inl (3, 2, .inr (.inr (.inr (.inr (fun _ => none)))))))) : gj E X cc k n pc L (.int (nI 2) :: st) h := by
  rw [Bool.and_eq_true] at hR
  exact gj_newq (N := 2) hw (by decide) (by decide) (by decide) ⟨Nat.le_of_ble_eq_true hR.1, Nat.le_of_ble_eq_true hR.2⟩ hd hi hi2 hL hst kk
theorem gj_newN {ci N i idx : Nat} {C : String} {T : u_T} {ty : Nat → FieldType} {fs : List Value} (hin : ∀ w ∈ u_ws C T N, w ∈ mj_TB) (hty : ∀ k, k < N → parseFieldDescriptor (T k).2.2.1 = some (ty k)) (hw1 : Cond.classLink X.1 idx C ∈ mj_TB) (hw2 : Cond.instantiable C N ∈ mj_TB) (hw3 : Cond.initialized C ∈ mj_TB) (hc : vwCl[ci]? = some (C, T, N)) (hfs : mj_dvb ty fs N = true) (hnr : fs.all mj_nr = true) (hR : (Nat.ble (k + 1) X.2.2.1.cells && Nat.ble (n + N) X.2.2.1.slots) = true) (hd : decode cc pc = .ok (.new idx, 3)) (hi : h i = none) (hi2 : i < 1000) (hL : mj_alL h L) (hst : ∀ v ∈ st, mj_vl h v)
    (kk : gj E X cc (k + 1) (n + N) (pc + 3) L (.ref i :: st) (mj_up h i (.inr (ci, fs)))) : gj E X cc k n pc L st h := by
  rw [Bool.and_eq_true] at hR
  exact gj_new hin hty hw1 hw2 hw3 hc (mj_dv hfs) (mj_nr_m hnr) ⟨Nat.le_of_ble_eq_true hR.1, Nat.le_of_ble_eq_true hR.2⟩ hd hi hi2 hL hst (mj_nr_v hnr) kk
theorem gj_IN0 {i : mj_I} {idx a : Nat} {rest : List Value} {h1 : mj_H} (lk : mj_lkIN X.1 idx i 0) (hEv : mj_Ev E i [.ref a] h (mj_R none h1)) (hd : decode cc pc = .ok (.invokespecial idx, 3)) (hs : .ref a :: rest = st) (hw : Nat.ble ((rest.map fun v => v.category).sum) 8 = true) (hR : mj_rkb X.2.2.1 i k n = true) (hL : mj_alL h L) (hst : ∀ v ∈ rest, mj_vl h v)
    (kk : gj E X cc (k + i.2.2.2.2.2.1) (n + i.2.2.2.2.2.2) (pc + 3) L rest h1) : gj E X cc k n pc L st h :=
  gj_callIN (as := []) lk hEv hd hs rfl (Nat.le_of_ble_eq_true hw) (mj_rk hR) (Or.inr ⟨hL, hst⟩) (fun r h' z => by obtain ⟨rfl, rfl⟩ := z; exact kk)
theorem gj_I0 {i : mj_I} {idx a : Nat} {rest : List Value} {h1 : mj_H} (lk : mj_lkI X.1 idx i 0) (hEv : mj_Ev E i [.ref a] h (mj_R none h1)) (hd : decode cc pc = .ok (.invokespecial idx, 3)) (hs : .ref a :: rest = st) (hw : Nat.ble ((rest.map fun v => v.category).sum) 8 = true) (hR : mj_rkb X.2.2.1 i k n = true) (hL : mj_alL h L) (hst : ∀ v ∈ rest, mj_vl h v)
    (kk : gj E X cc (k + i.2.2.2.2.2.1) (n + i.2.2.2.2.2.2) (pc + 3) L rest h1) : gj E X cc k n pc L st h :=
  gj_callI (as := []) lk hEv hd hs rfl (Nat.le_of_ble_eq_true hw) (mj_rk hR) (Or.inr ⟨hL, hst⟩) (fun r h' z => by obtain ⟨rfl, rfl⟩ := z; exact kk)
theorem gj_objN {idx a : Nat} {rest : List Value} (l1 : Cond.methodLink X.1 idx objectInit ∈ mj_TB) (l2 : Cond.instanceMethod objectInit ∈ mj_TB) (l3 : Cond.code objectInit ⟨#[0xb1]⟩ 1 none ∈ mj_TB) (hd : decode cc pc = .ok (.invokespecial idx, 3)) (hs : .ref a :: rest = st) (hw : Nat.ble ((rest.map fun v => v.category).sum) 8 = true) (hR : (Nat.ble 1 X.2.2.1.frames && Nat.ble 20 X.2.2.1.locals) = true) (kk : gj E X cc k n (pc + 3) L rest h) : gj E X cc k n pc L st h := by
  rw [Bool.and_eq_true] at hR
  exact gj_obj l1 l2 l3 hd hs (Nat.le_of_ble_eq_true hw) ⟨Nat.le_of_ble_eq_true hR.1, Nat.le_of_ble_eq_true hR.2⟩ kk
end MJK
set_option maxHeartbeats 4000000 in
set_option maxRecDepth 10000 in
theorem ev_X2_init {E : mj_E} {h : mj_H} {a x0 x1 : Nat} (H0 : h a = some (.inr (1, [.null, .null, .int (nI 0)]))) (hn0 : h x0 = none) (hi0 : x0 < 1000) (hn1 : h x1 = none) (hi1 : x1 < 1000) (ha0 : x0 ≠ a) (ha1 : x1 ≠ a) (hd10 : x1 ≠ x0) : mj_Ev E iX2_init [.ref a] h (mj_R none (mj_up (mj_up (mj_up (h) x0 (mj_ar 200 (fun _ => 0))) x1 (mj_ar 8 (fun _ => 0))) a (.inr (1, [.ref x0, .ref x1, .int (nI 0)])))) := by
  refine mj_Ev.of (L0 := [some (.ref a)]) pnRX2 (Nat.le_of_ble_eq_true rfl) rfl ?_
  refine gj_aload_n dX2_init_0 rfl ?_
  refine gj_objN w_175 w_98 w_99 dX2_init_1 rfl rfl rfl ?_
  refine gj_aload_n dX2_init_4 rfl ?_
  refine gj_sp 200 dX2_init_5 (by decide) ?_
  refine gj_newiN (N := 200) (i := x0) w_120 (by decide) rfl rfl rfl dX2_init_8 hn0 (by omega) (mj_alC (mj_alS H0) mj_alN) (mj_stC (mj_alS H0) mj_stN) ?_
  refine pfX2_9 rfl (fun t ht => ht.2.2) dX2_init_10 ((mj_up_ne (by omega)).trans H0) (Nat.le_of_ble_eq_true rfl) (mj_alS (mj_up_eq _ _ _)) ?_
  show gj _ _ _ _ _ _ _ _ (mj_up (mj_up h x0 (mj_ar 200 (fun _ => 0))) a (.inr (1, [.ref x0, .null, .int (nI 0)])))
  refine gj_aload_n dX2_init_13 rfl ?_
  refine gj_bp 8 dX2_init_14 (by decide) ?_
  refine gj_newiN (N := 8) (i := x1) w_120 (by decide) rfl rfl rfl dX2_init_16 ((mj_up_ne (by omega)).trans ((mj_up_ne (by omega)).trans hn1)) (by omega) (mj_alC (mj_alS (mj_up_eq _ _ _)) mj_alN) (mj_stC (mj_alS (mj_up_eq _ _ _)) mj_stN) ?_
  refine pfX2_15 rfl (fun t ht => ht.2.2) dX2_init_18 ((mj_up_ne (by omega)).trans (mj_up_eq _ _ _)) (Nat.le_of_ble_eq_true rfl) (mj_alS (mj_up_eq _ _ _)) ?_
  show gj _ _ _ _ _ _ _ _ (mj_up (mj_up (mj_up (mj_up h x0 (mj_ar 200 (fun _ => 0))) a (.inr (1, [.ref x0, .null, .int (nI 0)]))) x1 (mj_ar 8 (fun _ => 0))) a (.inr (1, [.ref x0, .ref x1, .int (nI 0)])))
  refine gj_aload_n dX2_init_21 rfl ?_
  refine gj_ic (w := 0) dX2_init_22 ?_
  refine pfX2_18 rfl dX2_init_23 (mj_up_eq _ _ _) (Nat.le_of_ble_eq_true rfl) ?_
  show gj _ _ _ _ _ _ _ _ (mj_up (mj_up (mj_up (mj_up (mj_up h x0 (mj_ar 200 (fun _ => 0))) a (.inr (1, [.ref x0, .null, .int (nI 0)]))) x1 (mj_ar 8 (fun _ => 0))) a (.inr (1, [.ref x0, .ref x1, .int (nI 0)]))) a (.inr (1, [.ref x0, .ref x1, .int (nI 0)])))
  exact gj_vret rfl dX2_init_26 ⟨Nat.le_of_ble_eq_true rfl, Nat.le_of_ble_eq_true rfl⟩ ⟨rfl, (by
      funext j; unfold mj_up
      by_cases ja : j = a
      · subst ja; simp
      · simp only [ja, if_false])⟩
set_option maxHeartbeats 4000000 in
set_option maxRecDepth 10000 in
theorem ev_X3_init {E : mj_E} {h : mj_H} {a x0 : Nat} (H0 : h a = some (.inr (2, [.null, .int (nI 0)]))) (hn0 : h x0 = none) (hi0 : x0 < 1000) (ha0 : x0 ≠ a)  : mj_Ev E iX3_init [.ref a] h (mj_R none (mj_up (mj_up (h) x0 (mj_ar 30 (fun _ => 0))) a (.inr (2, [.ref x0, .int (nI 0)])))) := by
  refine mj_Ev.of (L0 := [some (.ref a)]) pnRX3 (Nat.le_of_ble_eq_true rfl) rfl ?_
  refine gj_aload_n dX3_init_0 rfl ?_
  refine gj_objN w_161 w_98 w_99 dX3_init_1 rfl rfl rfl ?_
  refine gj_aload_n dX3_init_4 rfl ?_
  refine gj_bp 30 dX3_init_5 (by decide) ?_
  refine gj_newiN (N := 30) (i := x0) w_120 (by decide) rfl rfl rfl dX3_init_7 hn0 (by omega) (mj_alC (mj_alS H0) mj_alN) (mj_stC (mj_alS H0) mj_stN) ?_
  refine pfX3_9 rfl (fun t ht => ht.2.2) dX3_init_9 ((mj_up_ne (by omega)).trans H0) (Nat.le_of_ble_eq_true rfl) (mj_alS (mj_up_eq _ _ _)) ?_
  show gj _ _ _ _ _ _ _ _ (mj_up (mj_up h x0 (mj_ar 30 (fun _ => 0))) a (.inr (2, [.ref x0, .int (nI 0)])))
  refine gj_aload_n dX3_init_12 rfl ?_
  refine gj_ic (w := 0) dX3_init_13 ?_
  refine pfX3_15 rfl dX3_init_14 (mj_up_eq _ _ _) (Nat.le_of_ble_eq_true rfl) ?_
  show gj _ _ _ _ _ _ _ _ (mj_up (mj_up (mj_up h x0 (mj_ar 30 (fun _ => 0))) a (.inr (2, [.ref x0, .int (nI 0)]))) a (.inr (2, [.ref x0, .int (nI 0)])))
  exact gj_vret rfl dX3_init_17 ⟨Nat.le_of_ble_eq_true rfl, Nat.le_of_ble_eq_true rfl⟩ ⟨rfl, (by
      funext j; unfold mj_up
      by_cases ja : j = a
      · subst ja; simp
      · simp only [ja, if_false])⟩
set_option maxHeartbeats 4000000 in
set_option maxRecDepth 10000 in
theorem ev_X4_init {E : mj_E} {h : mj_H} {a x0 x1 : Nat} (H0 : h a = some (.inr (3, [.null, .null]))) (hn0 : h x0 = none) (hi0 : x0 < 1000) (hn1 : h x1 = none) (hi1 : x1 < 1000) (ha0 : x0 ≠ a) (ha1 : x1 ≠ a) (hd10 : x1 ≠ x0) : mj_Ev E iX4_init [.ref a] h (mj_R none (mj_up (mj_up (mj_up (h) x0 (mj_ar 25 (fun _ => 0))) x1 (mj_ar 25 (fun _ => 0))) a (.inr (3, [.ref x0, .ref x1])))) := by
  refine mj_Ev.of (L0 := [some (.ref a)]) pnRX4 (Nat.le_of_ble_eq_true rfl) rfl ?_
  refine gj_aload_n dX4_init_0 rfl ?_
  refine gj_objN w_111 w_98 w_99 dX4_init_1 rfl rfl rfl ?_
  refine gj_aload_n dX4_init_4 rfl ?_
  refine gj_bp 25 dX4_init_5 (by decide) ?_
  refine gj_newiN (N := 25) (i := x0) w_120 (by decide) rfl rfl rfl dX4_init_7 hn0 (by omega) (mj_alC (mj_alS H0) mj_alN) (mj_stC (mj_alS H0) mj_stN) ?_
  refine pfX4_9 rfl (fun t ht => ht.2.2) dX4_init_9 ((mj_up_ne (by omega)).trans H0) (Nat.le_of_ble_eq_true rfl) (mj_alS (mj_up_eq _ _ _)) ?_
  show gj _ _ _ _ _ _ _ _ (mj_up (mj_up h x0 (mj_ar 25 (fun _ => 0))) a (.inr (3, [.ref x0, .null])))
  refine gj_aload_n dX4_init_12 rfl ?_
  refine gj_bp 25 dX4_init_13 (by decide) ?_
  refine gj_newiN (N := 25) (i := x1) w_120 (by decide) rfl rfl rfl dX4_init_15 ((mj_up_ne (by omega)).trans ((mj_up_ne (by omega)).trans hn1)) (by omega) (mj_alC (mj_alS (mj_up_eq _ _ _)) mj_alN) (mj_stC (mj_alS (mj_up_eq _ _ _)) mj_stN) ?_
  refine pfX4_15 rfl (fun t ht => ht.2.2) dX4_init_17 ((mj_up_ne (by omega)).trans (mj_up_eq _ _ _)) (Nat.le_of_ble_eq_true rfl) (mj_alS (mj_up_eq _ _ _)) ?_
  show gj _ _ _ _ _ _ _ _ (mj_up (mj_up (mj_up (mj_up h x0 (mj_ar 25 (fun _ => 0))) a (.inr (3, [.ref x0, .null]))) x1 (mj_ar 25 (fun _ => 0))) a (.inr (3, [.ref x0, .ref x1])))
  exact gj_vret rfl dX4_init_20 ⟨Nat.le_of_ble_eq_true rfl, Nat.le_of_ble_eq_true rfl⟩ ⟨rfl, (by
      funext j; unfold mj_up
      by_cases ja : j = a
      · subst ja; simp
      · simp only [ja, if_false])⟩
set_option maxHeartbeats 4000000 in
set_option maxRecDepth 10000 in
theorem ev_X7_init {E : mj_E} {h : mj_H} {a x0 x1 x2 : Nat} (H0 : h a = some (.inr (5, [.null, .null, .null, .int (nI 0)]))) (hn0 : h x0 = none) (hi0 : x0 < 1000) (hn1 : h x1 = none) (hi1 : x1 < 1000) (hn2 : h x2 = none) (hi2 : x2 < 1000) (ha0 : x0 ≠ a) (ha1 : x1 ≠ a) (ha2 : x2 ≠ a) (hd10 : x1 ≠ x0) (hd20 : x2 ≠ x0) (hd21 : x2 ≠ x1) : mj_Ev E iX7_init [.ref a] h (mj_R none (mj_up (mj_up (mj_up (mj_up (h) x0 (mj_ar 7 (fun _ => 0))) x1 (mj_ar 7 (fun _ => 0))) x2 (mj_ar 7 (fun _ => 0))) a (.inr (5, [.ref x0, .ref x1, .ref x2, .int (nI 0)])))) := by
  refine mj_Ev.of (L0 := [some (.ref a)]) pnRX7 (Nat.le_of_ble_eq_true rfl) rfl ?_
  refine gj_aload_n dX7_init_0 rfl ?_
  refine gj_objN w_139 w_98 w_99 dX7_init_1 rfl rfl rfl ?_
  refine gj_aload_n dX7_init_4 rfl ?_
  refine gj_bp 7 dX7_init_5 (by decide) ?_
  refine gj_newiN (N := 7) (i := x0) w_120 (by decide) rfl rfl rfl dX7_init_7 hn0 (by omega) (mj_alC (mj_alS H0) mj_alN) (mj_stC (mj_alS H0) mj_stN) ?_
  refine pfX7_9 rfl (fun t ht => ht.2.2) dX7_init_9 ((mj_up_ne (by omega)).trans H0) (Nat.le_of_ble_eq_true rfl) (mj_alS (mj_up_eq _ _ _)) ?_
  show gj _ _ _ _ _ _ _ _ (mj_up (mj_up h x0 (mj_ar 7 (fun _ => 0))) a (.inr (5, [.ref x0, .null, .null, .int (nI 0)])))
  refine gj_aload_n dX7_init_12 rfl ?_
  refine gj_bp 7 dX7_init_13 (by decide) ?_
  refine gj_newiN (N := 7) (i := x1) w_120 (by decide) rfl rfl rfl dX7_init_15 ((mj_up_ne (by omega)).trans ((mj_up_ne (by omega)).trans hn1)) (by omega) (mj_alC (mj_alS (mj_up_eq _ _ _)) mj_alN) (mj_stC (mj_alS (mj_up_eq _ _ _)) mj_stN) ?_
  refine pfX7_15 rfl (fun t ht => ht.2.2) dX7_init_17 ((mj_up_ne (by omega)).trans (mj_up_eq _ _ _)) (Nat.le_of_ble_eq_true rfl) (mj_alS (mj_up_eq _ _ _)) ?_
  show gj _ _ _ _ _ _ _ _ (mj_up (mj_up (mj_up (mj_up h x0 (mj_ar 7 (fun _ => 0))) a (.inr (5, [.ref x0, .null, .null, .int (nI 0)]))) x1 (mj_ar 7 (fun _ => 0))) a (.inr (5, [.ref x0, .ref x1, .null, .int (nI 0)])))
  refine gj_aload_n dX7_init_20 rfl ?_
  refine gj_bp 7 dX7_init_21 (by decide) ?_
  refine gj_newiN (N := 7) (i := x2) w_120 (by decide) rfl rfl rfl dX7_init_23 ((mj_up_ne (by omega)).trans ((mj_up_ne (by omega)).trans ((mj_up_ne (by omega)).trans ((mj_up_ne (by omega)).trans hn2)))) (by omega) (mj_alC (mj_alS (mj_up_eq _ _ _)) mj_alN) (mj_stC (mj_alS (mj_up_eq _ _ _)) mj_stN) ?_
  refine pfX7_18 rfl (fun t ht => ht.2.2) dX7_init_25 ((mj_up_ne (by omega)).trans (mj_up_eq _ _ _)) (Nat.le_of_ble_eq_true rfl) (mj_alS (mj_up_eq _ _ _)) ?_
  show gj _ _ _ _ _ _ _ _ (mj_up (mj_up (mj_up (mj_up (mj_up (mj_up h x0 (mj_ar 7 (fun _ => 0))) a (.inr (5, [.ref x0, .null, .null, .int (nI 0)]))) x1 (mj_ar 7 (fun _ => 0))) a (.inr (5, [.ref x0, .ref x1, .null, .int (nI 0)]))) x2 (mj_ar 7 (fun _ => 0))) a (.inr (5, [.ref x0, .ref x1, .ref x2, .int (nI 0)])))
  refine gj_aload_n dX7_init_28 rfl ?_
  refine gj_ic (w := 0) dX7_init_29 ?_
  refine pfX7_21 rfl dX7_init_30 (mj_up_eq _ _ _) (Nat.le_of_ble_eq_true rfl) ?_
  show gj _ _ _ _ _ _ _ _ (mj_up (mj_up (mj_up (mj_up (mj_up (mj_up (mj_up h x0 (mj_ar 7 (fun _ => 0))) a (.inr (5, [.ref x0, .null, .null, .int (nI 0)]))) x1 (mj_ar 7 (fun _ => 0))) a (.inr (5, [.ref x0, .ref x1, .null, .int (nI 0)]))) x2 (mj_ar 7 (fun _ => 0))) a (.inr (5, [.ref x0, .ref x1, .ref x2, .int (nI 0)]))) a (.inr (5, [.ref x0, .ref x1, .ref x2, .int (nI 0)])))
  exact gj_vret rfl dX7_init_33 ⟨Nat.le_of_ble_eq_true rfl, Nat.le_of_ble_eq_true rfl⟩ ⟨rfl, (by
      funext j; unfold mj_up
      by_cases ja : j = a
      · subst ja; simp
      · simp only [ja, if_false])⟩
set_option maxHeartbeats 4000000 in
set_option maxRecDepth 10000 in
theorem ev_X8_init {E : mj_E} {h : mj_H} {a x0 x1 : Nat} (H0 : h a = some (.inr (6, [.null, .null]))) (hn0 : h x0 = none) (hi0 : x0 < 1000) (hn1 : h x1 = none) (hi1 : x1 < 1000) (ha0 : x0 ≠ a) (ha1 : x1 ≠ a) (hd10 : x1 ≠ x0) : mj_Ev E iX8_init [.ref a] h (mj_R none (mj_up (mj_up (mj_up (h) x0 (mj_ar 25 (fun _ => 0))) x1 (mj_ar 25 (fun _ => 0))) a (.inr (6, [.ref x0, .ref x1])))) := by
  refine mj_Ev.of (L0 := [some (.ref a)]) pnRX8 (Nat.le_of_ble_eq_true rfl) rfl ?_
  refine gj_aload_n dX8_init_0 rfl ?_
  refine gj_objN w_231 w_98 w_99 dX8_init_1 rfl rfl rfl ?_
  refine gj_aload_n dX8_init_4 rfl ?_
  refine gj_bp 25 dX8_init_5 (by decide) ?_
  refine gj_newiN (N := 25) (i := x0) w_120 (by decide) rfl rfl rfl dX8_init_7 hn0 (by omega) (mj_alC (mj_alS H0) mj_alN) (mj_stC (mj_alS H0) mj_stN) ?_
  refine pfX8_11 rfl (fun t ht => ht.2.2) dX8_init_9 ((mj_up_ne (by omega)).trans H0) (Nat.le_of_ble_eq_true rfl) (mj_alS (mj_up_eq _ _ _)) ?_
  show gj _ _ _ _ _ _ _ _ (mj_up (mj_up h x0 (mj_ar 25 (fun _ => 0))) a (.inr (6, [.ref x0, .null])))
  refine gj_aload_n dX8_init_12 rfl ?_
  refine gj_bp 25 dX8_init_13 (by decide) ?_
  refine gj_newiN (N := 25) (i := x1) w_120 (by decide) rfl rfl rfl dX8_init_15 ((mj_up_ne (by omega)).trans ((mj_up_ne (by omega)).trans hn1)) (by omega) (mj_alC (mj_alS (mj_up_eq _ _ _)) mj_alN) (mj_stC (mj_alS (mj_up_eq _ _ _)) mj_stN) ?_
  refine pfX8_15 rfl (fun t ht => ht.2.2) dX8_init_17 ((mj_up_ne (by omega)).trans (mj_up_eq _ _ _)) (Nat.le_of_ble_eq_true rfl) (mj_alS (mj_up_eq _ _ _)) ?_
  show gj _ _ _ _ _ _ _ _ (mj_up (mj_up (mj_up (mj_up h x0 (mj_ar 25 (fun _ => 0))) a (.inr (6, [.ref x0, .null]))) x1 (mj_ar 25 (fun _ => 0))) a (.inr (6, [.ref x0, .ref x1])))
  exact gj_vret rfl dX8_init_20 ⟨Nat.le_of_ble_eq_true rfl, Nat.le_of_ble_eq_true rfl⟩ ⟨rfl, (by
      funext j; unfold mj_up
      by_cases ja : j = a
      · subst ja; simp
      · simp only [ja, if_false])⟩
set_option maxHeartbeats 4000000 in
set_option maxRecDepth 10000 in
theorem ev_X9_init {E : mj_E} {h : mj_H} {a x0 x1 : Nat} (H0 : h a = some (.inr (7, [.null, .null]))) (hn0 : h x0 = none) (hi0 : x0 < 1000) (hn1 : h x1 = none) (hi1 : x1 < 1000) (ha0 : x0 ≠ a) (ha1 : x1 ≠ a) (hd10 : x1 ≠ x0) : mj_Ev E iX9_init [.ref a] h (mj_R none (mj_up (mj_up (mj_up (h) x0 (mj_ar 7 (fun _ => 0))) x1 (mj_ar 7 (fun _ => 0))) a (.inr (7, [.ref x0, .ref x1])))) := by
  refine mj_Ev.of (L0 := [some (.ref a)]) pnRX9 (Nat.le_of_ble_eq_true rfl) rfl ?_
  refine gj_aload_n dX9_init_0 rfl ?_
  refine gj_objN w_126 w_98 w_99 dX9_init_1 rfl rfl rfl ?_
  refine gj_aload_n dX9_init_4 rfl ?_
  refine gj_bp 7 dX9_init_5 (by decide) ?_
  refine gj_newiN (N := 7) (i := x0) w_120 (by decide) rfl rfl rfl dX9_init_7 hn0 (by omega) (mj_alC (mj_alS H0) mj_alN) (mj_stC (mj_alS H0) mj_stN) ?_
  refine pfX9_9 rfl (fun t ht => ht.2.2) dX9_init_9 ((mj_up_ne (by omega)).trans H0) (Nat.le_of_ble_eq_true rfl) (mj_alS (mj_up_eq _ _ _)) ?_
  show gj _ _ _ _ _ _ _ _ (mj_up (mj_up h x0 (mj_ar 7 (fun _ => 0))) a (.inr (7, [.ref x0, .null])))
  refine gj_aload_n dX9_init_12 rfl ?_
  refine gj_bp 7 dX9_init_13 (by decide) ?_
  refine gj_newiN (N := 7) (i := x1) w_120 (by decide) rfl rfl rfl dX9_init_15 ((mj_up_ne (by omega)).trans ((mj_up_ne (by omega)).trans hn1)) (by omega) (mj_alC (mj_alS (mj_up_eq _ _ _)) mj_alN) (mj_stC (mj_alS (mj_up_eq _ _ _)) mj_stN) ?_
  refine pfX9_15 rfl (fun t ht => ht.2.2) dX9_init_17 ((mj_up_ne (by omega)).trans (mj_up_eq _ _ _)) (Nat.le_of_ble_eq_true rfl) (mj_alS (mj_up_eq _ _ _)) ?_
  show gj _ _ _ _ _ _ _ _ (mj_up (mj_up (mj_up (mj_up h x0 (mj_ar 7 (fun _ => 0))) a (.inr (7, [.ref x0, .null]))) x1 (mj_ar 7 (fun _ => 0))) a (.inr (7, [.ref x0, .ref x1])))
  exact gj_vret rfl dX9_init_20 ⟨Nat.le_of_ble_eq_true rfl, Nat.le_of_ble_eq_true rfl⟩ ⟨rfl, (by
      funext j; unfold mj_up
      by_cases ja : j = a
      · subst ja; simp
      · simp only [ja, if_false])⟩
set_option maxHeartbeats 4000000 in
set_option maxRecDepth 10000 in
theorem ev_X5_init {E : mj_E} {h : mj_H} {a x0 x1 x2 : Nat} (H0 : h a = some (.inr (4, [.null, .int (nI 0), .null, .null, .int (nI 0), .int (nI 0)]))) (hn0 : h x0 = none) (hi0 : x0 < 1000) (hn1 : h x1 = none) (hi1 : x1 < 1000) (hn2 : h x2 = none) (hi2 : x2 < 1000) (ha0 : x0 ≠ a) (ha1 : x1 ≠ a) (ha2 : x2 ≠ a) (hd10 : x1 ≠ x0) (hd20 : x2 ≠ x0) (hd21 : x2 ≠ x1) : mj_Ev E iX5_init [.ref a] h (mj_R none (mj_up (mj_up (mj_up (mj_up (h) x0 (mj_ar 150 (fun _ => 0))) x1 (mj_ar 151 (fun _ => 0))) x2 (mj_ar 151 (fun _ => 0))) a (.inr (4, [.ref x0, .int (nI 0), .ref x1, .ref x2, .int (nI 0), .int (-1)])))) := by
  refine mj_Ev.of (L0 := [some (.ref a)]) pnRX5 (Nat.le_of_ble_eq_true rfl) rfl ?_
  refine gj_aload_n dX5_init_0 rfl ?_
  refine gj_objN w_244 w_98 w_99 dX5_init_1 rfl rfl rfl ?_
  refine gj_aload_n dX5_init_4 rfl ?_
  refine gj_sp 150 dX5_init_5 (by decide) ?_
  refine gj_newiN (N := 150) (i := x0) w_120 (by decide) rfl rfl rfl dX5_init_8 hn0 (by omega) (mj_alC (mj_alS H0) mj_alN) (mj_stC (mj_alS H0) mj_stN) ?_
  refine pfX5_9 rfl (fun t ht => ht.2.2) dX5_init_10 ((mj_up_ne (by omega)).trans H0) (Nat.le_of_ble_eq_true rfl) (mj_alS (mj_up_eq _ _ _)) ?_
  show gj _ _ _ _ _ _ _ _ (mj_up (mj_up h x0 (mj_ar 150 (fun _ => 0))) a (.inr (4, [.ref x0, .int (nI 0), .null, .null, .int (nI 0), .int (nI 0)])))
  refine gj_aload_n dX5_init_13 rfl ?_
  refine gj_ic (w := 0) dX5_init_14 ?_
  refine pfX5_15 rfl dX5_init_15 (mj_up_eq _ _ _) (Nat.le_of_ble_eq_true rfl) ?_
  show gj _ _ _ _ _ _ _ _ (mj_up (mj_up (mj_up h x0 (mj_ar 150 (fun _ => 0))) a (.inr (4, [.ref x0, .int (nI 0), .null, .null, .int (nI 0), .int (nI 0)]))) a (.inr (4, [.ref x0, .int (nI 0), .null, .null, .int (nI 0), .int (nI 0)])))
  refine gj_aload_n dX5_init_18 rfl ?_
  refine gj_sp 151 dX5_init_19 (by decide) ?_
  refine gj_newiN (N := 151) (i := x1) w_120 (by decide) rfl rfl rfl dX5_init_22 ((mj_up_ne (by omega)).trans ((mj_up_ne (by omega)).trans ((mj_up_ne (by omega)).trans hn1))) (by omega) (mj_alC (mj_alS (mj_up_eq _ _ _)) mj_alN) (mj_stC (mj_alS (mj_up_eq _ _ _)) mj_stN) ?_
  refine pfX5_19 rfl (fun t ht => ht.2.2) dX5_init_24 ((mj_up_ne (by omega)).trans (mj_up_eq _ _ _)) (Nat.le_of_ble_eq_true rfl) (mj_alS (mj_up_eq _ _ _)) ?_
  show gj _ _ _ _ _ _ _ _ (mj_up (mj_up (mj_up (mj_up (mj_up h x0 (mj_ar 150 (fun _ => 0))) a (.inr (4, [.ref x0, .int (nI 0), .null, .null, .int (nI 0), .int (nI 0)]))) a (.inr (4, [.ref x0, .int (nI 0), .null, .null, .int (nI 0), .int (nI 0)]))) x1 (mj_ar 151 (fun _ => 0))) a (.inr (4, [.ref x0, .int (nI 0), .ref x1, .null, .int (nI 0), .int (nI 0)])))
  refine gj_aload_n dX5_init_27 rfl ?_
  refine gj_sp 151 dX5_init_28 (by decide) ?_
  refine gj_newiN (N := 151) (i := x2) w_120 (by decide) rfl rfl rfl dX5_init_31 ((mj_up_ne (by omega)).trans ((mj_up_ne (by omega)).trans ((mj_up_ne (by omega)).trans ((mj_up_ne (by omega)).trans ((mj_up_ne (by omega)).trans hn2))))) (by omega) (mj_alC (mj_alS (mj_up_eq _ _ _)) mj_alN) (mj_stC (mj_alS (mj_up_eq _ _ _)) mj_stN) ?_
  refine pfX5_22 rfl (fun t ht => ht.2.2) dX5_init_33 ((mj_up_ne (by omega)).trans (mj_up_eq _ _ _)) (Nat.le_of_ble_eq_true rfl) (mj_alS (mj_up_eq _ _ _)) ?_
  show gj _ _ _ _ _ _ _ _ (mj_up (mj_up (mj_up (mj_up (mj_up (mj_up (mj_up h x0 (mj_ar 150 (fun _ => 0))) a (.inr (4, [.ref x0, .int (nI 0), .null, .null, .int (nI 0), .int (nI 0)]))) a (.inr (4, [.ref x0, .int (nI 0), .null, .null, .int (nI 0), .int (nI 0)]))) x1 (mj_ar 151 (fun _ => 0))) a (.inr (4, [.ref x0, .int (nI 0), .ref x1, .null, .int (nI 0), .int (nI 0)]))) x2 (mj_ar 151 (fun _ => 0))) a (.inr (4, [.ref x0, .int (nI 0), .ref x1, .ref x2, .int (nI 0), .int (nI 0)])))
  refine gj_aload_n dX5_init_36 rfl ?_
  refine gj_ic (w := 0) dX5_init_37 ?_
  refine pfX5_25 rfl dX5_init_38 (mj_up_eq _ _ _) (Nat.le_of_ble_eq_true rfl) ?_
  show gj _ _ _ _ _ _ _ _ (mj_up (mj_up (mj_up (mj_up (mj_up (mj_up (mj_up (mj_up h x0 (mj_ar 150 (fun _ => 0))) a (.inr (4, [.ref x0, .int (nI 0), .null, .null, .int (nI 0), .int (nI 0)]))) a (.inr (4, [.ref x0, .int (nI 0), .null, .null, .int (nI 0), .int (nI 0)]))) x1 (mj_ar 151 (fun _ => 0))) a (.inr (4, [.ref x0, .int (nI 0), .ref x1, .null, .int (nI 0), .int (nI 0)]))) x2 (mj_ar 151 (fun _ => 0))) a (.inr (4, [.ref x0, .int (nI 0), .ref x1, .ref x2, .int (nI 0), .int (nI 0)]))) a (.inr (4, [.ref x0, .int (nI 0), .ref x1, .ref x2, .int (nI 0), .int (nI 0)])))
  refine gj_aload_n dX5_init_41 rfl ?_
  refine gj_iconst (v := (-1)) dX5_init_42 (by decide) ?_
  refine pfX5_28 rfl dX5_init_43 (mj_up_eq _ _ _) (Nat.le_of_ble_eq_true rfl) ?_
  show gj _ _ _ _ _ _ _ _ (mj_up (mj_up (mj_up (mj_up (mj_up (mj_up (mj_up (mj_up (mj_up h x0 (mj_ar 150 (fun _ => 0))) a (.inr (4, [.ref x0, .int (nI 0), .null, .null, .int (nI 0), .int (nI 0)]))) a (.inr (4, [.ref x0, .int (nI 0), .null, .null, .int (nI 0), .int (nI 0)]))) x1 (mj_ar 151 (fun _ => 0))) a (.inr (4, [.ref x0, .int (nI 0), .ref x1, .null, .int (nI 0), .int (nI 0)]))) x2 (mj_ar 151 (fun _ => 0))) a (.inr (4, [.ref x0, .int (nI 0), .ref x1, .ref x2, .int (nI 0), .int (nI 0)]))) a (.inr (4, [.ref x0, .int (nI 0), .ref x1, .ref x2, .int (nI 0), .int (nI 0)]))) a (.inr (4, [.ref x0, .int (nI 0), .ref x1, .ref x2, .int (nI 0), .int (-1)])))
  exact gj_vret rfl dX5_init_46 ⟨Nat.le_of_ble_eq_true rfl, Nat.le_of_ble_eq_true rfl⟩ ⟨rfl, (by
      funext j; unfold mj_up
      by_cases ja : j = a
      · subst ja; simp
      · simp only [ja, if_false])⟩
set_option maxHeartbeats 8000000 in
set_option maxRecDepth 10000 in
theorem ev_X1_init {E : mj_E} {h : mj_H} {b : Nat} (H0 : h b = some (.inr (0, [.null, .null, .null, .null, .null, .null, .null, .int (nI 0)]))) (hb : b < 900) (hf : ∀ o, 1 ≤ o → o < 19 → h (b + o) = none) : mj_Ev E iX1_init [.ref b] h (mj_R none (mj_lay h b (fun _ _ => 0))) := by
  refine mj_Ev.of (L0 := [some (.ref b)]) pnRX1 (Nat.le_of_ble_eq_true rfl) rfl ?_
  refine gj_aload_n dX1_init_0 rfl ?_
  refine gj_objN w_105 w_98 w_99 dX1_init_1 rfl rfl rfl ?_
  refine gj_aload_n dX1_init_4 rfl ?_
  refine gj_newN (ci := 3) (i := b + 1) (fs := [.null, .null]) inTX4 tyX4_ok w_106 w_107 w_74 rfl (by decide +kernel) rfl rfl dX1_init_5 (hf 1 (by decide) (by decide)) (by omega) (mj_alC (mj_alS H0) mj_alN) (mj_stC (mj_alS H0) mj_stN) ?_
  refine gj_dup dX1_init_8 rfl ?_
  refine gj_IN0 lkX1_11 (ev_X4_init (a := b + 1) (x0 := b + 2) (x1 := b + 3) (mj_up_eq _ _ _) ((mj_up_ne (by omega)).trans (hf 2 (by decide) (by decide))) (by omega) ((mj_up_ne (by omega)).trans (hf 3 (by decide) (by decide))) (by omega) (by omega) (by omega) (by omega)) dX1_init_9 rfl rfl rfl (mj_alC (mj_alS ((mj_up_ne (by omega)).trans H0)) mj_alN) (mj_stC (mj_alS (mj_up_eq _ _ _)) (mj_stC (mj_alS ((mj_up_ne (by omega)).trans H0)) mj_stN)) ?_
  refine pfX1_12 rfl (fun t ht => ht.2.2) dX1_init_12 ((mj_up_ne (by omega)).trans ((mj_up_ne (by omega)).trans ((mj_up_ne (by omega)).trans ((mj_up_ne (by omega)).trans H0)))) (Nat.le_of_ble_eq_true rfl) (mj_alS (mj_up_eq _ _ _)) ?_
  show gj _ _ _ _ _ _ _ _ (mj_up (mj_up (mj_up (mj_up (mj_up h (b + 1) (.inr (3, [.null, .null]))) (b + 2) (mj_ar 25 (fun _ => 0))) (b + 3) (mj_ar 25 (fun _ => 0))) (b + 1) (.inr (3, [.ref (b + 2), .ref (b + 3)]))) b (.inr (0, [.ref (b + 1), .null, .null, .null, .null, .null, .null, .int (nI 0)])))
  refine gj_aload_n dX1_init_15 rfl ?_
  refine gj_newN (ci := 7) (i := b + 4) (fs := [.null, .null]) inTX9 tyX9_ok w_121 w_122 w_75 rfl (by decide +kernel) rfl rfl dX1_init_16 ((mj_up_ne (by omega)).trans ((mj_up_ne (by omega)).trans ((mj_up_ne (by omega)).trans ((mj_up_ne (by omega)).trans ((mj_up_ne (by omega)).trans (hf 4 (by decide) (by decide))))))) (by omega) (mj_alC (mj_alS (mj_up_eq _ _ _)) mj_alN) (mj_stC (mj_alS (mj_up_eq _ _ _)) mj_stN) ?_
  refine gj_dup dX1_init_19 rfl ?_
  refine gj_IN0 lkX1_20 (ev_X9_init (a := b + 4) (x0 := b + 5) (x1 := b + 6) (mj_up_eq _ _ _) ((mj_up_ne (by omega)).trans ((mj_up_ne (by omega)).trans ((mj_up_ne (by omega)).trans ((mj_up_ne (by omega)).trans ((mj_up_ne (by omega)).trans ((mj_up_ne (by omega)).trans (hf 5 (by decide) (by decide)))))))) (by omega) ((mj_up_ne (by omega)).trans ((mj_up_ne (by omega)).trans ((mj_up_ne (by omega)).trans ((mj_up_ne (by omega)).trans ((mj_up_ne (by omega)).trans ((mj_up_ne (by omega)).trans (hf 6 (by decide) (by decide)))))))) (by omega) (by omega) (by omega) (by omega)) dX1_init_20 rfl rfl rfl (mj_alC (mj_alS ((mj_up_ne (by omega)).trans (mj_up_eq _ _ _))) mj_alN) (mj_stC (mj_alS (mj_up_eq _ _ _)) (mj_stC (mj_alS ((mj_up_ne (by omega)).trans (mj_up_eq _ _ _))) mj_stN)) ?_
  refine pfX1_21 rfl (fun t ht => ht.2.2) dX1_init_23 ((mj_up_ne (by omega)).trans ((mj_up_ne (by omega)).trans ((mj_up_ne (by omega)).trans ((mj_up_ne (by omega)).trans (mj_up_eq _ _ _))))) (Nat.le_of_ble_eq_true rfl) (mj_alS (mj_up_eq _ _ _)) ?_
  show gj _ _ _ _ _ _ _ _ (mj_up (mj_up (mj_up (mj_up (mj_up (mj_up (mj_up (mj_up (mj_up (mj_up h (b + 1) (.inr (3, [.null, .null]))) (b + 2) (mj_ar 25 (fun _ => 0))) (b + 3) (mj_ar 25 (fun _ => 0))) (b + 1) (.inr (3, [.ref (b + 2), .ref (b + 3)]))) b (.inr (0, [.ref (b + 1), .null, .null, .null, .null, .null, .null, .int (nI 0)]))) (b + 4) (.inr (7, [.null, .null]))) (b + 5) (mj_ar 7 (fun _ => 0))) (b + 6) (mj_ar 7 (fun _ => 0))) (b + 4) (.inr (7, [.ref (b + 5), .ref (b + 6)]))) b (.inr (0, [.ref (b + 1), .ref (b + 4), .null, .null, .null, .null, .null, .int (nI 0)])))
  refine gj_aload_n dX1_init_26 rfl ?_
  refine gj_newN (ci := 5) (i := b + 7) (fs := [.null, .null, .null, .int (nI 0)]) inTX7 tyX7_ok w_134 w_135 w_76 rfl (by decide +kernel) rfl rfl dX1_init_27 ((mj_up_ne (by omega)).trans ((mj_up_ne (by omega)).trans ((mj_up_ne (by omega)).trans ((mj_up_ne (by omega)).trans ((mj_up_ne (by omega)).trans ((mj_up_ne (by omega)).trans ((mj_up_ne (by omega)).trans ((mj_up_ne (by omega)).trans ((mj_up_ne (by omega)).trans ((mj_up_ne (by omega)).trans (hf 7 (by decide) (by decide)))))))))))) (by omega) (mj_alC (mj_alS (mj_up_eq _ _ _)) mj_alN) (mj_stC (mj_alS (mj_up_eq _ _ _)) mj_stN) ?_
  refine gj_dup dX1_init_30 rfl ?_
  refine gj_IN0 lkX1_27 (ev_X7_init (a := b + 7) (x0 := b + 8) (x1 := b + 9) (x2 := b + 10) (mj_up_eq _ _ _) ((mj_up_ne (by omega)).trans ((mj_up_ne (by omega)).trans ((mj_up_ne (by omega)).trans ((mj_up_ne (by omega)).trans ((mj_up_ne (by omega)).trans ((mj_up_ne (by omega)).trans ((mj_up_ne (by omega)).trans ((mj_up_ne (by omega)).trans ((mj_up_ne (by omega)).trans ((mj_up_ne (by omega)).trans ((mj_up_ne (by omega)).trans (hf 8 (by decide) (by decide))))))))))))) (by omega) ((mj_up_ne (by omega)).trans ((mj_up_ne (by omega)).trans ((mj_up_ne (by omega)).trans ((mj_up_ne (by omega)).trans ((mj_up_ne (by omega)).trans ((mj_up_ne (by omega)).trans ((mj_up_ne (by omega)).trans ((mj_up_ne (by omega)).trans ((mj_up_ne (by omega)).trans ((mj_up_ne (by omega)).trans ((mj_up_ne (by omega)).trans (hf 9 (by decide) (by decide))))))))))))) (by omega) ((mj_up_ne (by omega)).trans ((mj_up_ne (by omega)).trans ((mj_up_ne (by omega)).trans ((mj_up_ne (by omega)).trans ((mj_up_ne (by omega)).trans ((mj_up_ne (by omega)).trans ((mj_up_ne (by omega)).trans ((mj_up_ne (by omega)).trans ((mj_up_ne (by omega)).trans ((mj_up_ne (by omega)).trans ((mj_up_ne (by omega)).trans (hf 10 (by decide) (by decide))))))))))))) (by omega) (by omega) (by omega) (by omega) (by omega) (by omega) (by omega)) dX1_init_31 rfl rfl rfl (mj_alC (mj_alS ((mj_up_ne (by omega)).trans (mj_up_eq _ _ _))) mj_alN) (mj_stC (mj_alS (mj_up_eq _ _ _)) (mj_stC (mj_alS ((mj_up_ne (by omega)).trans (mj_up_eq _ _ _))) mj_stN)) ?_
  refine pfX1_28 rfl (fun t ht => ht.2.2) dX1_init_34 ((mj_up_ne (by omega)).trans ((mj_up_ne (by omega)).trans ((mj_up_ne (by omega)).trans ((mj_up_ne (by omega)).trans ((mj_up_ne (by omega)).trans (mj_up_eq _ _ _)))))) (Nat.le_of_ble_eq_true rfl) (mj_alS (mj_up_eq _ _ _)) ?_
  show gj _ _ _ _ _ _ _ _ (mj_up (mj_up (mj_up (mj_up (mj_up (mj_up (mj_up (mj_up (mj_up (mj_up (mj_up (mj_up (mj_up (mj_up (mj_up (mj_up h (b + 1) (.inr (3, [.null, .null]))) (b + 2) (mj_ar 25 (fun _ => 0))) (b + 3) (mj_ar 25 (fun _ => 0))) (b + 1) (.inr (3, [.ref (b + 2), .ref (b + 3)]))) b (.inr (0, [.ref (b + 1), .null, .null, .null, .null, .null, .null, .int (nI 0)]))) (b + 4) (.inr (7, [.null, .null]))) (b + 5) (mj_ar 7 (fun _ => 0))) (b + 6) (mj_ar 7 (fun _ => 0))) (b + 4) (.inr (7, [.ref (b + 5), .ref (b + 6)]))) b (.inr (0, [.ref (b + 1), .ref (b + 4), .null, .null, .null, .null, .null, .int (nI 0)]))) (b + 7) (.inr (5, [.null, .null, .null, .int (nI 0)]))) (b + 8) (mj_ar 7 (fun _ => 0))) (b + 9) (mj_ar 7 (fun _ => 0))) (b + 10) (mj_ar 7 (fun _ => 0))) (b + 7) (.inr (5, [.ref (b + 8), .ref (b + 9), .ref (b + 10), .int (nI 0)]))) b (.inr (0, [.ref (b + 1), .ref (b + 4), .ref (b + 7), .null, .null, .null, .null, .int (nI 0)])))
  refine gj_aload_n dX1_init_37 rfl ?_
  refine gj_newN (ci := 2) (i := b + 11) (fs := [.null, .int (nI 0)]) inTX3 tyX3_ok w_156 w_157 w_77 rfl (by decide +kernel) rfl rfl dX1_init_38 ((mj_up_ne (by omega)).trans ((mj_up_ne (by omega)).trans ((mj_up_ne (by omega)).trans ((mj_up_ne (by omega)).trans ((mj_up_ne (by omega)).trans ((mj_up_ne (by omega)).trans ((mj_up_ne (by omega)).trans ((mj_up_ne (by omega)).trans ((mj_up_ne (by omega)).trans ((mj_up_ne (by omega)).trans ((mj_up_ne (by omega)).trans ((mj_up_ne (by omega)).trans ((mj_up_ne (by omega)).trans ((mj_up_ne (by omega)).trans ((mj_up_ne (by omega)).trans ((mj_up_ne (by omega)).trans (hf 11 (by decide) (by decide)))))))))))))))))) (by omega) (mj_alC (mj_alS (mj_up_eq _ _ _)) mj_alN) (mj_stC (mj_alS (mj_up_eq _ _ _)) mj_stN) ?_
  refine gj_dup dX1_init_41 rfl ?_
  refine gj_IN0 lkX1_34 (ev_X3_init (a := b + 11) (x0 := b + 12) (mj_up_eq _ _ _) ((mj_up_ne (by omega)).trans ((mj_up_ne (by omega)).trans ((mj_up_ne (by omega)).trans ((mj_up_ne (by omega)).trans ((mj_up_ne (by omega)).trans ((mj_up_ne (by omega)).trans ((mj_up_ne (by omega)).trans ((mj_up_ne (by omega)).trans ((mj_up_ne (by omega)).trans ((mj_up_ne (by omega)).trans ((mj_up_ne (by omega)).trans ((mj_up_ne (by omega)).trans ((mj_up_ne (by omega)).trans ((mj_up_ne (by omega)).trans ((mj_up_ne (by omega)).trans ((mj_up_ne (by omega)).trans ((mj_up_ne (by omega)).trans (hf 12 (by decide) (by decide))))))))))))))))))) (by omega) (by omega) ) dX1_init_42 rfl rfl rfl (mj_alC (mj_alS ((mj_up_ne (by omega)).trans (mj_up_eq _ _ _))) mj_alN) (mj_stC (mj_alS (mj_up_eq _ _ _)) (mj_stC (mj_alS ((mj_up_ne (by omega)).trans (mj_up_eq _ _ _))) mj_stN)) ?_
  refine pfX1_35 rfl (fun t ht => ht.2.2) dX1_init_45 ((mj_up_ne (by omega)).trans ((mj_up_ne (by omega)).trans ((mj_up_ne (by omega)).trans (mj_up_eq _ _ _)))) (Nat.le_of_ble_eq_true rfl) (mj_alS (mj_up_eq _ _ _)) ?_
  show gj _ _ _ _ _ _ _ _ (mj_up (mj_up (mj_up (mj_up (mj_up (mj_up (mj_up (mj_up (mj_up (mj_up (mj_up (mj_up (mj_up (mj_up (mj_up (mj_up (mj_up (mj_up (mj_up (mj_up h (b + 1) (.inr (3, [.null, .null]))) (b + 2) (mj_ar 25 (fun _ => 0))) (b + 3) (mj_ar 25 (fun _ => 0))) (b + 1) (.inr (3, [.ref (b + 2), .ref (b + 3)]))) b (.inr (0, [.ref (b + 1), .null, .null, .null, .null, .null, .null, .int (nI 0)]))) (b + 4) (.inr (7, [.null, .null]))) (b + 5) (mj_ar 7 (fun _ => 0))) (b + 6) (mj_ar 7 (fun _ => 0))) (b + 4) (.inr (7, [.ref (b + 5), .ref (b + 6)]))) b (.inr (0, [.ref (b + 1), .ref (b + 4), .null, .null, .null, .null, .null, .int (nI 0)]))) (b + 7) (.inr (5, [.null, .null, .null, .int (nI 0)]))) (b + 8) (mj_ar 7 (fun _ => 0))) (b + 9) (mj_ar 7 (fun _ => 0))) (b + 10) (mj_ar 7 (fun _ => 0))) (b + 7) (.inr (5, [.ref (b + 8), .ref (b + 9), .ref (b + 10), .int (nI 0)]))) b (.inr (0, [.ref (b + 1), .ref (b + 4), .ref (b + 7), .null, .null, .null, .null, .int (nI 0)]))) (b + 11) (.inr (2, [.null, .int (nI 0)]))) (b + 12) (mj_ar 30 (fun _ => 0))) (b + 11) (.inr (2, [.ref (b + 12), .int (nI 0)]))) b (.inr (0, [.ref (b + 1), .ref (b + 4), .ref (b + 7), .ref (b + 11), .null, .null, .null, .int (nI 0)])))
  refine gj_aload_n dX1_init_48 rfl ?_
  refine gj_newN (ci := 2) (i := b + 13) (fs := [.null, .int (nI 0)]) inTX3 tyX3_ok w_156 w_157 w_77 rfl (by decide +kernel) rfl rfl dX1_init_49 ((mj_up_ne (by omega)).trans ((mj_up_ne (by omega)).trans ((mj_up_ne (by omega)).trans ((mj_up_ne (by omega)).trans ((mj_up_ne (by omega)).trans ((mj_up_ne (by omega)).trans ((mj_up_ne (by omega)).trans ((mj_up_ne (by omega)).trans ((mj_up_ne (by omega)).trans ((mj_up_ne (by omega)).trans ((mj_up_ne (by omega)).trans ((mj_up_ne (by omega)).trans ((mj_up_ne (by omega)).trans ((mj_up_ne (by omega)).trans ((mj_up_ne (by omega)).trans ((mj_up_ne (by omega)).trans ((mj_up_ne (by omega)).trans ((mj_up_ne (by omega)).trans ((mj_up_ne (by omega)).trans ((mj_up_ne (by omega)).trans (hf 13 (by decide) (by decide)))))))))))))))))))))) (by omega) (mj_alC (mj_alS (mj_up_eq _ _ _)) mj_alN) (mj_stC (mj_alS (mj_up_eq _ _ _)) mj_stN) ?_
  refine gj_dup dX1_init_52 rfl ?_
  refine gj_IN0 lkX1_34 (ev_X3_init (a := b + 13) (x0 := b + 14) (mj_up_eq _ _ _) ((mj_up_ne (by omega)).trans ((mj_up_ne (by omega)).trans ((mj_up_ne (by omega)).trans ((mj_up_ne (by omega)).trans ((mj_up_ne (by omega)).trans ((mj_up_ne (by omega)).trans ((mj_up_ne (by omega)).trans ((mj_up_ne (by omega)).trans ((mj_up_ne (by omega)).trans ((mj_up_ne (by omega)).trans ((mj_up_ne (by omega)).trans ((mj_up_ne (by omega)).trans ((mj_up_ne (by omega)).trans ((mj_up_ne (by omega)).trans ((mj_up_ne (by omega)).trans ((mj_up_ne (by omega)).trans ((mj_up_ne (by omega)).trans ((mj_up_ne (by omega)).trans ((mj_up_ne (by omega)).trans ((mj_up_ne (by omega)).trans ((mj_up_ne (by omega)).trans (hf 14 (by decide) (by decide))))))))))))))))))))))) (by omega) (by omega) ) dX1_init_53 rfl rfl rfl (mj_alC (mj_alS ((mj_up_ne (by omega)).trans (mj_up_eq _ _ _))) mj_alN) (mj_stC (mj_alS (mj_up_eq _ _ _)) (mj_stC (mj_alS ((mj_up_ne (by omega)).trans (mj_up_eq _ _ _))) mj_stN)) ?_
  refine pfX1_39 rfl (fun t ht => ht.2.2) dX1_init_56 ((mj_up_ne (by omega)).trans ((mj_up_ne (by omega)).trans ((mj_up_ne (by omega)).trans (mj_up_eq _ _ _)))) (Nat.le_of_ble_eq_true rfl) (mj_alS (mj_up_eq _ _ _)) ?_
  show gj _ _ _ _ _ _ _ _ (mj_up (mj_up (mj_up (mj_up (mj_up (mj_up (mj_up (mj_up (mj_up (mj_up (mj_up (mj_up (mj_up (mj_up (mj_up (mj_up (mj_up (mj_up (mj_up (mj_up (mj_up (mj_up (mj_up (mj_up h (b + 1) (.inr (3, [.null, .null]))) (b + 2) (mj_ar 25 (fun _ => 0))) (b + 3) (mj_ar 25 (fun _ => 0))) (b + 1) (.inr (3, [.ref (b + 2), .ref (b + 3)]))) b (.inr (0, [.ref (b + 1), .null, .null, .null, .null, .null, .null, .int (nI 0)]))) (b + 4) (.inr (7, [.null, .null]))) (b + 5) (mj_ar 7 (fun _ => 0))) (b + 6) (mj_ar 7 (fun _ => 0))) (b + 4) (.inr (7, [.ref (b + 5), .ref (b + 6)]))) b (.inr (0, [.ref (b + 1), .ref (b + 4), .null, .null, .null, .null, .null, .int (nI 0)]))) (b + 7) (.inr (5, [.null, .null, .null, .int (nI 0)]))) (b + 8) (mj_ar 7 (fun _ => 0))) (b + 9) (mj_ar 7 (fun _ => 0))) (b + 10) (mj_ar 7 (fun _ => 0))) (b + 7) (.inr (5, [.ref (b + 8), .ref (b + 9), .ref (b + 10), .int (nI 0)]))) b (.inr (0, [.ref (b + 1), .ref (b + 4), .ref (b + 7), .null, .null, .null, .null, .int (nI 0)]))) (b + 11) (.inr (2, [.null, .int (nI 0)]))) (b + 12) (mj_ar 30 (fun _ => 0))) (b + 11) (.inr (2, [.ref (b + 12), .int (nI 0)]))) b (.inr (0, [.ref (b + 1), .ref (b + 4), .ref (b + 7), .ref (b + 11), .null, .null, .null, .int (nI 0)]))) (b + 13) (.inr (2, [.null, .int (nI 0)]))) (b + 14) (mj_ar 30 (fun _ => 0))) (b + 13) (.inr (2, [.ref (b + 14), .int (nI 0)]))) b (.inr (0, [.ref (b + 1), .ref (b + 4), .ref (b + 7), .ref (b + 11), .ref (b + 13), .null, .null, .int (nI 0)])))
  refine gj_aload_n dX1_init_59 rfl ?_
  refine gj_newN (ci := 1) (i := b + 15) (fs := [.null, .null, .int (nI 0)]) inTX2 tyX2_ok w_170 w_171 w_78 rfl (by decide +kernel) rfl rfl dX1_init_60 ((mj_up_ne (by omega)).trans ((mj_up_ne (by omega)).trans ((mj_up_ne (by omega)).trans ((mj_up_ne (by omega)).trans ((mj_up_ne (by omega)).trans ((mj_up_ne (by omega)).trans ((mj_up_ne (by omega)).trans ((mj_up_ne (by omega)).trans ((mj_up_ne (by omega)).trans ((mj_up_ne (by omega)).trans ((mj_up_ne (by omega)).trans ((mj_up_ne (by omega)).trans ((mj_up_ne (by omega)).trans ((mj_up_ne (by omega)).trans ((mj_up_ne (by omega)).trans ((mj_up_ne (by omega)).trans ((mj_up_ne (by omega)).trans ((mj_up_ne (by omega)).trans ((mj_up_ne (by omega)).trans ((mj_up_ne (by omega)).trans ((mj_up_ne (by omega)).trans ((mj_up_ne (by omega)).trans ((mj_up_ne (by omega)).trans ((mj_up_ne (by omega)).trans (hf 15 (by decide) (by decide)))))))))))))))))))))))))) (by omega) (mj_alC (mj_alS (mj_up_eq _ _ _)) mj_alN) (mj_stC (mj_alS (mj_up_eq _ _ _)) mj_stN) ?_
  refine gj_dup dX1_init_63 rfl ?_
  refine gj_IN0 lkX1_44 (ev_X2_init (a := b + 15) (x0 := b + 16) (x1 := b + 17) (mj_up_eq _ _ _) ((mj_up_ne (by omega)).trans ((mj_up_ne (by omega)).trans ((mj_up_ne (by omega)).trans ((mj_up_ne (by omega)).trans ((mj_up_ne (by omega)).trans ((mj_up_ne (by omega)).trans ((mj_up_ne (by omega)).trans ((mj_up_ne (by omega)).trans ((mj_up_ne (by omega)).trans ((mj_up_ne (by omega)).trans ((mj_up_ne (by omega)).trans ((mj_up_ne (by omega)).trans ((mj_up_ne (by omega)).trans ((mj_up_ne (by omega)).trans ((mj_up_ne (by omega)).trans ((mj_up_ne (by omega)).trans ((mj_up_ne (by omega)).trans ((mj_up_ne (by omega)).trans ((mj_up_ne (by omega)).trans ((mj_up_ne (by omega)).trans ((mj_up_ne (by omega)).trans ((mj_up_ne (by omega)).trans ((mj_up_ne (by omega)).trans ((mj_up_ne (by omega)).trans ((mj_up_ne (by omega)).trans (hf 16 (by decide) (by decide))))))))))))))))))))))))))) (by omega) ((mj_up_ne (by omega)).trans ((mj_up_ne (by omega)).trans ((mj_up_ne (by omega)).trans ((mj_up_ne (by omega)).trans ((mj_up_ne (by omega)).trans ((mj_up_ne (by omega)).trans ((mj_up_ne (by omega)).trans ((mj_up_ne (by omega)).trans ((mj_up_ne (by omega)).trans ((mj_up_ne (by omega)).trans ((mj_up_ne (by omega)).trans ((mj_up_ne (by omega)).trans ((mj_up_ne (by omega)).trans ((mj_up_ne (by omega)).trans ((mj_up_ne (by omega)).trans ((mj_up_ne (by omega)).trans ((mj_up_ne (by omega)).trans ((mj_up_ne (by omega)).trans ((mj_up_ne (by omega)).trans ((mj_up_ne (by omega)).trans ((mj_up_ne (by omega)).trans ((mj_up_ne (by omega)).trans ((mj_up_ne (by omega)).trans ((mj_up_ne (by omega)).trans ((mj_up_ne (by omega)).trans (hf 17 (by decide) (by decide))))))))))))))))))))))))))) (by omega) (by omega) (by omega) (by omega)) dX1_init_64 rfl rfl rfl (mj_alC (mj_alS ((mj_up_ne (by omega)).trans (mj_up_eq _ _ _))) mj_alN) (mj_stC (mj_alS (mj_up_eq _ _ _)) (mj_stC (mj_alS ((mj_up_ne (by omega)).trans (mj_up_eq _ _ _))) mj_stN)) ?_
  refine pfX1_45 rfl (fun t ht => ht.2.2) dX1_init_67 ((mj_up_ne (by omega)).trans ((mj_up_ne (by omega)).trans ((mj_up_ne (by omega)).trans ((mj_up_ne (by omega)).trans (mj_up_eq _ _ _))))) (Nat.le_of_ble_eq_true rfl) (mj_alS (mj_up_eq _ _ _)) ?_
  show gj _ _ _ _ _ _ _ _ (mj_up (mj_up (mj_up (mj_up (mj_up (mj_up (mj_up (mj_up (mj_up (mj_up (mj_up (mj_up (mj_up (mj_up (mj_up (mj_up (mj_up (mj_up (mj_up (mj_up (mj_up (mj_up (mj_up (mj_up (mj_up (mj_up (mj_up (mj_up (mj_up h (b + 1) (.inr (3, [.null, .null]))) (b + 2) (mj_ar 25 (fun _ => 0))) (b + 3) (mj_ar 25 (fun _ => 0))) (b + 1) (.inr (3, [.ref (b + 2), .ref (b + 3)]))) b (.inr (0, [.ref (b + 1), .null, .null, .null, .null, .null, .null, .int (nI 0)]))) (b + 4) (.inr (7, [.null, .null]))) (b + 5) (mj_ar 7 (fun _ => 0))) (b + 6) (mj_ar 7 (fun _ => 0))) (b + 4) (.inr (7, [.ref (b + 5), .ref (b + 6)]))) b (.inr (0, [.ref (b + 1), .ref (b + 4), .null, .null, .null, .null, .null, .int (nI 0)]))) (b + 7) (.inr (5, [.null, .null, .null, .int (nI 0)]))) (b + 8) (mj_ar 7 (fun _ => 0))) (b + 9) (mj_ar 7 (fun _ => 0))) (b + 10) (mj_ar 7 (fun _ => 0))) (b + 7) (.inr (5, [.ref (b + 8), .ref (b + 9), .ref (b + 10), .int (nI 0)]))) b (.inr (0, [.ref (b + 1), .ref (b + 4), .ref (b + 7), .null, .null, .null, .null, .int (nI 0)]))) (b + 11) (.inr (2, [.null, .int (nI 0)]))) (b + 12) (mj_ar 30 (fun _ => 0))) (b + 11) (.inr (2, [.ref (b + 12), .int (nI 0)]))) b (.inr (0, [.ref (b + 1), .ref (b + 4), .ref (b + 7), .ref (b + 11), .null, .null, .null, .int (nI 0)]))) (b + 13) (.inr (2, [.null, .int (nI 0)]))) (b + 14) (mj_ar 30 (fun _ => 0))) (b + 13) (.inr (2, [.ref (b + 14), .int (nI 0)]))) b (.inr (0, [.ref (b + 1), .ref (b + 4), .ref (b + 7), .ref (b + 11), .ref (b + 13), .null, .null, .int (nI 0)]))) (b + 15) (.inr (1, [.null, .null, .int (nI 0)]))) (b + 16) (mj_ar 200 (fun _ => 0))) (b + 17) (mj_ar 8 (fun _ => 0))) (b + 15) (.inr (1, [.ref (b + 16), .ref (b + 17), .int (nI 0)]))) b (.inr (0, [.ref (b + 1), .ref (b + 4), .ref (b + 7), .ref (b + 11), .ref (b + 13), .ref (b + 15), .null, .int (nI 0)])))
  refine gj_aload_n dX1_init_70 rfl ?_
  refine gj_ic (w := 4) dX1_init_71 ?_
  refine gj_newiN (N := 4) (i := b + 18) w_120 (by decide) rfl rfl rfl dX1_init_72 ((mj_up_ne (by omega)).trans ((mj_up_ne (by omega)).trans ((mj_up_ne (by omega)).trans ((mj_up_ne (by omega)).trans ((mj_up_ne (by omega)).trans ((mj_up_ne (by omega)).trans ((mj_up_ne (by omega)).trans ((mj_up_ne (by omega)).trans ((mj_up_ne (by omega)).trans ((mj_up_ne (by omega)).trans ((mj_up_ne (by omega)).trans ((mj_up_ne (by omega)).trans ((mj_up_ne (by omega)).trans ((mj_up_ne (by omega)).trans ((mj_up_ne (by omega)).trans ((mj_up_ne (by omega)).trans ((mj_up_ne (by omega)).trans ((mj_up_ne (by omega)).trans ((mj_up_ne (by omega)).trans ((mj_up_ne (by omega)).trans ((mj_up_ne (by omega)).trans ((mj_up_ne (by omega)).trans ((mj_up_ne (by omega)).trans ((mj_up_ne (by omega)).trans ((mj_up_ne (by omega)).trans ((mj_up_ne (by omega)).trans ((mj_up_ne (by omega)).trans ((mj_up_ne (by omega)).trans ((mj_up_ne (by omega)).trans (hf 18 (by decide) (by decide))))))))))))))))))))))))))))))) (by omega) (mj_alC (mj_alS (mj_up_eq _ _ _)) mj_alN) (mj_stC (mj_alS (mj_up_eq _ _ _)) mj_stN) ?_
  refine pfX1_49 rfl (fun t ht => ht.2.2) dX1_init_74 ((mj_up_ne (by omega)).trans (mj_up_eq _ _ _)) (Nat.le_of_ble_eq_true rfl) (mj_alS (mj_up_eq _ _ _)) ?_
  show gj _ _ _ _ _ _ _ _ (mj_up (mj_up (mj_up (mj_up (mj_up (mj_up (mj_up (mj_up (mj_up (mj_up (mj_up (mj_up (mj_up (mj_up (mj_up (mj_up (mj_up (mj_up (mj_up (mj_up (mj_up (mj_up (mj_up (mj_up (mj_up (mj_up (mj_up (mj_up (mj_up (mj_up (mj_up h (b + 1) (.inr (3, [.null, .null]))) (b + 2) (mj_ar 25 (fun _ => 0))) (b + 3) (mj_ar 25 (fun _ => 0))) (b + 1) (.inr (3, [.ref (b + 2), .ref (b + 3)]))) b (.inr (0, [.ref (b + 1), .null, .null, .null, .null, .null, .null, .int (nI 0)]))) (b + 4) (.inr (7, [.null, .null]))) (b + 5) (mj_ar 7 (fun _ => 0))) (b + 6) (mj_ar 7 (fun _ => 0))) (b + 4) (.inr (7, [.ref (b + 5), .ref (b + 6)]))) b (.inr (0, [.ref (b + 1), .ref (b + 4), .null, .null, .null, .null, .null, .int (nI 0)]))) (b + 7) (.inr (5, [.null, .null, .null, .int (nI 0)]))) (b + 8) (mj_ar 7 (fun _ => 0))) (b + 9) (mj_ar 7 (fun _ => 0))) (b + 10) (mj_ar 7 (fun _ => 0))) (b + 7) (.inr (5, [.ref (b + 8), .ref (b + 9), .ref (b + 10), .int (nI 0)]))) b (.inr (0, [.ref (b + 1), .ref (b + 4), .ref (b + 7), .null, .null, .null, .null, .int (nI 0)]))) (b + 11) (.inr (2, [.null, .int (nI 0)]))) (b + 12) (mj_ar 30 (fun _ => 0))) (b + 11) (.inr (2, [.ref (b + 12), .int (nI 0)]))) b (.inr (0, [.ref (b + 1), .ref (b + 4), .ref (b + 7), .ref (b + 11), .null, .null, .null, .int (nI 0)]))) (b + 13) (.inr (2, [.null, .int (nI 0)]))) (b + 14) (mj_ar 30 (fun _ => 0))) (b + 13) (.inr (2, [.ref (b + 14), .int (nI 0)]))) b (.inr (0, [.ref (b + 1), .ref (b + 4), .ref (b + 7), .ref (b + 11), .ref (b + 13), .null, .null, .int (nI 0)]))) (b + 15) (.inr (1, [.null, .null, .int (nI 0)]))) (b + 16) (mj_ar 200 (fun _ => 0))) (b + 17) (mj_ar 8 (fun _ => 0))) (b + 15) (.inr (1, [.ref (b + 16), .ref (b + 17), .int (nI 0)]))) b (.inr (0, [.ref (b + 1), .ref (b + 4), .ref (b + 7), .ref (b + 11), .ref (b + 13), .ref (b + 15), .null, .int (nI 0)]))) (b + 18) (mj_ar 4 (fun _ => 0))) b (.inr (0, [.ref (b + 1), .ref (b + 4), .ref (b + 7), .ref (b + 11), .ref (b + 13), .ref (b + 15), .ref (b + 18), .int (nI 0)])))
  refine gj_aload_n dX1_init_77 rfl ?_
  refine gj_ic (w := 0) dX1_init_78 ?_
  refine pfX1_53 rfl dX1_init_79 (mj_up_eq _ _ _) (Nat.le_of_ble_eq_true rfl) ?_
  show gj _ _ _ _ _ _ _ _ (mj_up (mj_up (mj_up (mj_up (mj_up (mj_up (mj_up (mj_up (mj_up (mj_up (mj_up (mj_up (mj_up (mj_up (mj_up (mj_up (mj_up (mj_up (mj_up (mj_up (mj_up (mj_up (mj_up (mj_up (mj_up (mj_up (mj_up (mj_up (mj_up (mj_up (mj_up (mj_up h (b + 1) (.inr (3, [.null, .null]))) (b + 2) (mj_ar 25 (fun _ => 0))) (b + 3) (mj_ar 25 (fun _ => 0))) (b + 1) (.inr (3, [.ref (b + 2), .ref (b + 3)]))) b (.inr (0, [.ref (b + 1), .null, .null, .null, .null, .null, .null, .int (nI 0)]))) (b + 4) (.inr (7, [.null, .null]))) (b + 5) (mj_ar 7 (fun _ => 0))) (b + 6) (mj_ar 7 (fun _ => 0))) (b + 4) (.inr (7, [.ref (b + 5), .ref (b + 6)]))) b (.inr (0, [.ref (b + 1), .ref (b + 4), .null, .null, .null, .null, .null, .int (nI 0)]))) (b + 7) (.inr (5, [.null, .null, .null, .int (nI 0)]))) (b + 8) (mj_ar 7 (fun _ => 0))) (b + 9) (mj_ar 7 (fun _ => 0))) (b + 10) (mj_ar 7 (fun _ => 0))) (b + 7) (.inr (5, [.ref (b + 8), .ref (b + 9), .ref (b + 10), .int (nI 0)]))) b (.inr (0, [.ref (b + 1), .ref (b + 4), .ref (b + 7), .null, .null, .null, .null, .int (nI 0)]))) (b + 11) (.inr (2, [.null, .int (nI 0)]))) (b + 12) (mj_ar 30 (fun _ => 0))) (b + 11) (.inr (2, [.ref (b + 12), .int (nI 0)]))) b (.inr (0, [.ref (b + 1), .ref (b + 4), .ref (b + 7), .ref (b + 11), .null, .null, .null, .int (nI 0)]))) (b + 13) (.inr (2, [.null, .int (nI 0)]))) (b + 14) (mj_ar 30 (fun _ => 0))) (b + 13) (.inr (2, [.ref (b + 14), .int (nI 0)]))) b (.inr (0, [.ref (b + 1), .ref (b + 4), .ref (b + 7), .ref (b + 11), .ref (b + 13), .null, .null, .int (nI 0)]))) (b + 15) (.inr (1, [.null, .null, .int (nI 0)]))) (b + 16) (mj_ar 200 (fun _ => 0))) (b + 17) (mj_ar 8 (fun _ => 0))) (b + 15) (.inr (1, [.ref (b + 16), .ref (b + 17), .int (nI 0)]))) b (.inr (0, [.ref (b + 1), .ref (b + 4), .ref (b + 7), .ref (b + 11), .ref (b + 13), .ref (b + 15), .null, .int (nI 0)]))) (b + 18) (mj_ar 4 (fun _ => 0))) b (.inr (0, [.ref (b + 1), .ref (b + 4), .ref (b + 7), .ref (b + 11), .ref (b + 13), .ref (b + 15), .ref (b + 18), .int (nI 0)]))) b (.inr (0, [.ref (b + 1), .ref (b + 4), .ref (b + 7), .ref (b + 11), .ref (b + 13), .ref (b + 15), .ref (b + 18), .int (nI 0)])))
  exact gj_vret rfl dX1_init_82 ⟨Nat.le_of_ble_eq_true rfl, Nat.le_of_ble_eq_true rfl⟩ ⟨rfl, (by
      funext j; unfold mj_lay
      by_cases q : b ≤ j ∧ j < b + 19
      · rw [if_pos q]
        obtain ⟨o, rfl⟩ : ∃ o, j = b + o := ⟨j - b, by omega⟩
        rw [show b + o - b = o by omega]
        rcases mj_19 (show o < 19 by omega) with rfl | rfl | rfl | rfl | rfl | rfl | rfl | rfl | rfl | rfl | rfl | rfl | rfl | rfl | rfl | rfl | rfl | rfl | rfl
        · exact (mj_up_eq _ _ _)
        · exact ((mj_up_ne (by omega)).trans ((mj_up_ne (by omega)).trans ((mj_up_ne (by omega)).trans ((mj_up_ne (by omega)).trans ((mj_up_ne (by omega)).trans ((mj_up_ne (by omega)).trans ((mj_up_ne (by omega)).trans ((mj_up_ne (by omega)).trans ((mj_up_ne (by omega)).trans ((mj_up_ne (by omega)).trans ((mj_up_ne (by omega)).trans ((mj_up_ne (by omega)).trans ((mj_up_ne (by omega)).trans ((mj_up_ne (by omega)).trans ((mj_up_ne (by omega)).trans ((mj_up_ne (by omega)).trans ((mj_up_ne (by omega)).trans ((mj_up_ne (by omega)).trans ((mj_up_ne (by omega)).trans ((mj_up_ne (by omega)).trans ((mj_up_ne (by omega)).trans ((mj_up_ne (by omega)).trans ((mj_up_ne (by omega)).trans ((mj_up_ne (by omega)).trans ((mj_up_ne (by omega)).trans ((mj_up_ne (by omega)).trans ((mj_up_ne (by omega)).trans ((mj_up_ne (by omega)).trans (mj_up_eq _ _ _)))))))))))))))))))))))))))))
        · exact ((mj_up_ne (by omega)).trans ((mj_up_ne (by omega)).trans ((mj_up_ne (by omega)).trans ((mj_up_ne (by omega)).trans ((mj_up_ne (by omega)).trans ((mj_up_ne (by omega)).trans ((mj_up_ne (by omega)).trans ((mj_up_ne (by omega)).trans ((mj_up_ne (by omega)).trans ((mj_up_ne (by omega)).trans ((mj_up_ne (by omega)).trans ((mj_up_ne (by omega)).trans ((mj_up_ne (by omega)).trans ((mj_up_ne (by omega)).trans ((mj_up_ne (by omega)).trans ((mj_up_ne (by omega)).trans ((mj_up_ne (by omega)).trans ((mj_up_ne (by omega)).trans ((mj_up_ne (by omega)).trans ((mj_up_ne (by omega)).trans ((mj_up_ne (by omega)).trans ((mj_up_ne (by omega)).trans ((mj_up_ne (by omega)).trans ((mj_up_ne (by omega)).trans ((mj_up_ne (by omega)).trans ((mj_up_ne (by omega)).trans ((mj_up_ne (by omega)).trans ((mj_up_ne (by omega)).trans ((mj_up_ne (by omega)).trans ((mj_up_ne (by omega)).trans (mj_up_eq _ _ _)))))))))))))))))))))))))))))))
        · exact ((mj_up_ne (by omega)).trans ((mj_up_ne (by omega)).trans ((mj_up_ne (by omega)).trans ((mj_up_ne (by omega)).trans ((mj_up_ne (by omega)).trans ((mj_up_ne (by omega)).trans ((mj_up_ne (by omega)).trans ((mj_up_ne (by omega)).trans ((mj_up_ne (by omega)).trans ((mj_up_ne (by omega)).trans ((mj_up_ne (by omega)).trans ((mj_up_ne (by omega)).trans ((mj_up_ne (by omega)).trans ((mj_up_ne (by omega)).trans ((mj_up_ne (by omega)).trans ((mj_up_ne (by omega)).trans ((mj_up_ne (by omega)).trans ((mj_up_ne (by omega)).trans ((mj_up_ne (by omega)).trans ((mj_up_ne (by omega)).trans ((mj_up_ne (by omega)).trans ((mj_up_ne (by omega)).trans ((mj_up_ne (by omega)).trans ((mj_up_ne (by omega)).trans ((mj_up_ne (by omega)).trans ((mj_up_ne (by omega)).trans ((mj_up_ne (by omega)).trans ((mj_up_ne (by omega)).trans ((mj_up_ne (by omega)).trans (mj_up_eq _ _ _))))))))))))))))))))))))))))))
        · exact ((mj_up_ne (by omega)).trans ((mj_up_ne (by omega)).trans ((mj_up_ne (by omega)).trans ((mj_up_ne (by omega)).trans ((mj_up_ne (by omega)).trans ((mj_up_ne (by omega)).trans ((mj_up_ne (by omega)).trans ((mj_up_ne (by omega)).trans ((mj_up_ne (by omega)).trans ((mj_up_ne (by omega)).trans ((mj_up_ne (by omega)).trans ((mj_up_ne (by omega)).trans ((mj_up_ne (by omega)).trans ((mj_up_ne (by omega)).trans ((mj_up_ne (by omega)).trans ((mj_up_ne (by omega)).trans ((mj_up_ne (by omega)).trans ((mj_up_ne (by omega)).trans ((mj_up_ne (by omega)).trans ((mj_up_ne (by omega)).trans ((mj_up_ne (by omega)).trans ((mj_up_ne (by omega)).trans ((mj_up_ne (by omega)).trans (mj_up_eq _ _ _))))))))))))))))))))))))
        · exact ((mj_up_ne (by omega)).trans ((mj_up_ne (by omega)).trans ((mj_up_ne (by omega)).trans ((mj_up_ne (by omega)).trans ((mj_up_ne (by omega)).trans ((mj_up_ne (by omega)).trans ((mj_up_ne (by omega)).trans ((mj_up_ne (by omega)).trans ((mj_up_ne (by omega)).trans ((mj_up_ne (by omega)).trans ((mj_up_ne (by omega)).trans ((mj_up_ne (by omega)).trans ((mj_up_ne (by omega)).trans ((mj_up_ne (by omega)).trans ((mj_up_ne (by omega)).trans ((mj_up_ne (by omega)).trans ((mj_up_ne (by omega)).trans ((mj_up_ne (by omega)).trans ((mj_up_ne (by omega)).trans ((mj_up_ne (by omega)).trans ((mj_up_ne (by omega)).trans ((mj_up_ne (by omega)).trans ((mj_up_ne (by omega)).trans ((mj_up_ne (by omega)).trans ((mj_up_ne (by omega)).trans (mj_up_eq _ _ _))))))))))))))))))))))))))
        · exact ((mj_up_ne (by omega)).trans ((mj_up_ne (by omega)).trans ((mj_up_ne (by omega)).trans ((mj_up_ne (by omega)).trans ((mj_up_ne (by omega)).trans ((mj_up_ne (by omega)).trans ((mj_up_ne (by omega)).trans ((mj_up_ne (by omega)).trans ((mj_up_ne (by omega)).trans ((mj_up_ne (by omega)).trans ((mj_up_ne (by omega)).trans ((mj_up_ne (by omega)).trans ((mj_up_ne (by omega)).trans ((mj_up_ne (by omega)).trans ((mj_up_ne (by omega)).trans ((mj_up_ne (by omega)).trans ((mj_up_ne (by omega)).trans ((mj_up_ne (by omega)).trans ((mj_up_ne (by omega)).trans ((mj_up_ne (by omega)).trans ((mj_up_ne (by omega)).trans ((mj_up_ne (by omega)).trans ((mj_up_ne (by omega)).trans ((mj_up_ne (by omega)).trans (mj_up_eq _ _ _)))))))))))))))))))))))))
        · exact ((mj_up_ne (by omega)).trans ((mj_up_ne (by omega)).trans ((mj_up_ne (by omega)).trans ((mj_up_ne (by omega)).trans ((mj_up_ne (by omega)).trans ((mj_up_ne (by omega)).trans ((mj_up_ne (by omega)).trans ((mj_up_ne (by omega)).trans ((mj_up_ne (by omega)).trans ((mj_up_ne (by omega)).trans ((mj_up_ne (by omega)).trans ((mj_up_ne (by omega)).trans ((mj_up_ne (by omega)).trans ((mj_up_ne (by omega)).trans ((mj_up_ne (by omega)).trans ((mj_up_ne (by omega)).trans ((mj_up_ne (by omega)).trans (mj_up_eq _ _ _))))))))))))))))))
        · exact ((mj_up_ne (by omega)).trans ((mj_up_ne (by omega)).trans ((mj_up_ne (by omega)).trans ((mj_up_ne (by omega)).trans ((mj_up_ne (by omega)).trans ((mj_up_ne (by omega)).trans ((mj_up_ne (by omega)).trans ((mj_up_ne (by omega)).trans ((mj_up_ne (by omega)).trans ((mj_up_ne (by omega)).trans ((mj_up_ne (by omega)).trans ((mj_up_ne (by omega)).trans ((mj_up_ne (by omega)).trans ((mj_up_ne (by omega)).trans ((mj_up_ne (by omega)).trans ((mj_up_ne (by omega)).trans ((mj_up_ne (by omega)).trans ((mj_up_ne (by omega)).trans ((mj_up_ne (by omega)).trans ((mj_up_ne (by omega)).trans (mj_up_eq _ _ _)))))))))))))))))))))
        · exact ((mj_up_ne (by omega)).trans ((mj_up_ne (by omega)).trans ((mj_up_ne (by omega)).trans ((mj_up_ne (by omega)).trans ((mj_up_ne (by omega)).trans ((mj_up_ne (by omega)).trans ((mj_up_ne (by omega)).trans ((mj_up_ne (by omega)).trans ((mj_up_ne (by omega)).trans ((mj_up_ne (by omega)).trans ((mj_up_ne (by omega)).trans ((mj_up_ne (by omega)).trans ((mj_up_ne (by omega)).trans ((mj_up_ne (by omega)).trans ((mj_up_ne (by omega)).trans ((mj_up_ne (by omega)).trans ((mj_up_ne (by omega)).trans ((mj_up_ne (by omega)).trans ((mj_up_ne (by omega)).trans (mj_up_eq _ _ _))))))))))))))))))))
        · exact ((mj_up_ne (by omega)).trans ((mj_up_ne (by omega)).trans ((mj_up_ne (by omega)).trans ((mj_up_ne (by omega)).trans ((mj_up_ne (by omega)).trans ((mj_up_ne (by omega)).trans ((mj_up_ne (by omega)).trans ((mj_up_ne (by omega)).trans ((mj_up_ne (by omega)).trans ((mj_up_ne (by omega)).trans ((mj_up_ne (by omega)).trans ((mj_up_ne (by omega)).trans ((mj_up_ne (by omega)).trans ((mj_up_ne (by omega)).trans ((mj_up_ne (by omega)).trans ((mj_up_ne (by omega)).trans ((mj_up_ne (by omega)).trans ((mj_up_ne (by omega)).trans (mj_up_eq _ _ _)))))))))))))))))))
        · exact ((mj_up_ne (by omega)).trans ((mj_up_ne (by omega)).trans ((mj_up_ne (by omega)).trans ((mj_up_ne (by omega)).trans ((mj_up_ne (by omega)).trans ((mj_up_ne (by omega)).trans ((mj_up_ne (by omega)).trans ((mj_up_ne (by omega)).trans ((mj_up_ne (by omega)).trans ((mj_up_ne (by omega)).trans ((mj_up_ne (by omega)).trans ((mj_up_ne (by omega)).trans ((mj_up_ne (by omega)).trans (mj_up_eq _ _ _))))))))))))))
        · exact ((mj_up_ne (by omega)).trans ((mj_up_ne (by omega)).trans ((mj_up_ne (by omega)).trans ((mj_up_ne (by omega)).trans ((mj_up_ne (by omega)).trans ((mj_up_ne (by omega)).trans ((mj_up_ne (by omega)).trans ((mj_up_ne (by omega)).trans ((mj_up_ne (by omega)).trans ((mj_up_ne (by omega)).trans ((mj_up_ne (by omega)).trans ((mj_up_ne (by omega)).trans ((mj_up_ne (by omega)).trans ((mj_up_ne (by omega)).trans (mj_up_eq _ _ _)))))))))))))))
        · exact ((mj_up_ne (by omega)).trans ((mj_up_ne (by omega)).trans ((mj_up_ne (by omega)).trans ((mj_up_ne (by omega)).trans ((mj_up_ne (by omega)).trans ((mj_up_ne (by omega)).trans ((mj_up_ne (by omega)).trans ((mj_up_ne (by omega)).trans ((mj_up_ne (by omega)).trans (mj_up_eq _ _ _))))))))))
        · exact ((mj_up_ne (by omega)).trans ((mj_up_ne (by omega)).trans ((mj_up_ne (by omega)).trans ((mj_up_ne (by omega)).trans ((mj_up_ne (by omega)).trans ((mj_up_ne (by omega)).trans ((mj_up_ne (by omega)).trans ((mj_up_ne (by omega)).trans ((mj_up_ne (by omega)).trans ((mj_up_ne (by omega)).trans (mj_up_eq _ _ _)))))))))))
        · exact ((mj_up_ne (by omega)).trans ((mj_up_ne (by omega)).trans ((mj_up_ne (by omega)).trans ((mj_up_ne (by omega)).trans (mj_up_eq _ _ _)))))
        · exact ((mj_up_ne (by omega)).trans ((mj_up_ne (by omega)).trans ((mj_up_ne (by omega)).trans ((mj_up_ne (by omega)).trans ((mj_up_ne (by omega)).trans ((mj_up_ne (by omega)).trans (mj_up_eq _ _ _)))))))
        · exact ((mj_up_ne (by omega)).trans ((mj_up_ne (by omega)).trans ((mj_up_ne (by omega)).trans ((mj_up_ne (by omega)).trans ((mj_up_ne (by omega)).trans (mj_up_eq _ _ _))))))
        · exact ((mj_up_ne (by omega)).trans ((mj_up_ne (by omega)).trans (mj_up_eq _ _ _)))
      · rw [if_neg q]
        rw [mj_up_ne (by omega)]
        rw [mj_up_ne (by omega)]
        rw [mj_up_ne (by omega)]
        rw [mj_up_ne (by omega)]
        rw [mj_up_ne (by omega)]
        rw [mj_up_ne (by omega)]
        rw [mj_up_ne (by omega)]
        rw [mj_up_ne (by omega)]
        rw [mj_up_ne (by omega)]
        rw [mj_up_ne (by omega)]
        rw [mj_up_ne (by omega)]
        rw [mj_up_ne (by omega)]
        rw [mj_up_ne (by omega)]
        rw [mj_up_ne (by omega)]
        rw [mj_up_ne (by omega)]
        rw [mj_up_ne (by omega)]
        rw [mj_up_ne (by omega)]
        rw [mj_up_ne (by omega)]
        rw [mj_up_ne (by omega)]
        rw [mj_up_ne (by omega)]
        rw [mj_up_ne (by omega)]
        rw [mj_up_ne (by omega)]
        rw [mj_up_ne (by omega)]
        rw [mj_up_ne (by omega)]
        rw [mj_up_ne (by omega)]
        rw [mj_up_ne (by omega)]
        rw [mj_up_ne (by omega)]
        rw [mj_up_ne (by omega)]
        rw [mj_up_ne (by omega)]
        rw [mj_up_ne (by omega)]
        rw [mj_up_ne (by omega)]
        rw [mj_up_ne (by omega)]
        )⟩
/-- the rows as they are at first -/
def mj_C0 : Nat → Nat → Nat
  | 0 => mj_row [0, 1]
  | 7 => mj_row [0, 0, 4294967295]
  | 100 => mj_row [0, 1]
  | 101 => sp_beg (fun _ => 0) 0
  | _ => fun _ => 0
def mj_k0 : Nat → Bool := fun _ => false
theorem mj_im_k0 : mj_im mj_k0 = fun _ => none := by
  funext j
  unfold mj_im mj_k0
  (repeat' split) <;> first | rfl | (rename_i q; exact absurd q (by decide))
set_option maxHeartbeats 16000000 in
set_option maxRecDepth 10000 in
theorem ev_X10_init {E : mj_E}  : mj_Ev E iX10_init [.ref 0] (mj_up (fun _ => none) 0 (.inr (8, [.null, .null, .null, .null, .null, .null, .null, .null, .null, .null, .long (lN 0), .long (lN 0)]))) (mj_R none (fun j => if j < 100 then hh mj_k0 mj_C0 j else none)) := by
  refine mj_Ev.of (L0 := [some (.ref 0)]) pnRX10 (Nat.le_of_ble_eq_true rfl) rfl ?_
  refine gj_aload_n dX10_init_0 rfl ?_
  refine gj_objN w_97 w_98 w_99 dX10_init_1 rfl rfl rfl ?_
  refine gj_aload_n dX10_init_4 rfl ?_
  refine gj_newN (ci := 0) (i := 20) (fs := [.null, .null, .null, .null, .null, .null, .null, .int (nI 0)]) inTX1 tyX1_ok w_100 w_101 w_73 rfl (by decide +kernel) rfl rfl dX10_init_5 (mj_up_ne (by omega)) (by omega) (mj_alC (mj_alS (mj_up_eq _ _ _)) mj_alN) (mj_stC (mj_alS (mj_up_eq _ _ _)) mj_stN) ?_
  refine gj_dup dX10_init_8 rfl ?_
  refine gj_IN0 lkX10_9 (ev_X1_init (b := 20) (mj_up_eq _ _ _) (by omega) (fun o h1 h2 => ((mj_up_ne (by omega)).trans (mj_up_ne (by omega))))) dX10_init_9 rfl rfl rfl (mj_alC (mj_alS ((mj_up_ne (by decide)).trans (mj_up_eq _ _ _))) mj_alN) (mj_stC (mj_alS (mj_up_eq _ _ _)) (mj_stC (mj_alS ((mj_up_ne (by decide)).trans (mj_up_eq _ _ _))) mj_stN)) ?_
  refine pfX10_10 rfl (fun t ht => ht.2.2) dX10_init_12 ((mj_lay_out (by omega)).trans ((mj_up_ne (by decide)).trans (mj_up_eq _ _ _))) (Nat.le_of_ble_eq_true rfl) (mj_alS mj_lay_0) ?_
  show gj _ _ _ _ _ _ _ _ (mj_up (mj_lay (mj_up (mj_up (fun _ => none) 0 (.inr (8, [.null, .null, .null, .null, .null, .null, .null, .null, .null, .null, .long (lN 0), .long (lN 0)]))) 20 (.inr (0, [.null, .null, .null, .null, .null, .null, .null, .int (nI 0)]))) 20 (fun _ _ => 0)) 0 (.inr (8, [.ref 20, .null, .null, .null, .null, .null, .null, .null, .null, .null, .long (lN 0), .long (lN 0)])))
  refine gj_aload_n dX10_init_15 rfl ?_
  refine gj_newN (ci := 0) (i := 40) (fs := [.null, .null, .null, .null, .null, .null, .null, .int (nI 0)]) inTX1 tyX1_ok w_100 w_101 w_73 rfl (by decide +kernel) rfl rfl dX10_init_16 ((mj_up_ne (by omega)).trans ((mj_lay_out (by omega)).trans ((mj_up_ne (by omega)).trans (mj_up_ne (by omega))))) (by omega) (mj_alC (mj_alS (mj_up_eq _ _ _)) mj_alN) (mj_stC (mj_alS (mj_up_eq _ _ _)) mj_stN) ?_
  refine gj_dup dX10_init_19 rfl ?_
  refine gj_IN0 lkX10_9 (ev_X1_init (b := 40) (mj_up_eq _ _ _) (by omega) (fun o h1 h2 => ((mj_up_ne (by omega)).trans ((mj_up_ne (by omega)).trans ((mj_lay_out (by omega)).trans ((mj_up_ne (by omega)).trans (mj_up_ne (by omega)))))))) dX10_init_20 rfl rfl rfl (mj_alC (mj_alS ((mj_up_ne (by decide)).trans (mj_up_eq _ _ _))) mj_alN) (mj_stC (mj_alS (mj_up_eq _ _ _)) (mj_stC (mj_alS ((mj_up_ne (by decide)).trans (mj_up_eq _ _ _))) mj_stN)) ?_
  refine pfX10_16 rfl (fun t ht => ht.2.2) dX10_init_23 ((mj_lay_out (by omega)).trans ((mj_up_ne (by decide)).trans (mj_up_eq _ _ _))) (Nat.le_of_ble_eq_true rfl) (mj_alS mj_lay_0) ?_
  show gj _ _ _ _ _ _ _ _ (mj_up (mj_lay (mj_up (mj_up (mj_lay (mj_up (mj_up (fun _ => none) 0 (.inr (8, [.null, .null, .null, .null, .null, .null, .null, .null, .null, .null, .long (lN 0), .long (lN 0)]))) 20 (.inr (0, [.null, .null, .null, .null, .null, .null, .null, .int (nI 0)]))) 20 (fun _ _ => 0)) 0 (.inr (8, [.ref 20, .null, .null, .null, .null, .null, .null, .null, .null, .null, .long (lN 0), .long (lN 0)]))) 40 (.inr (0, [.null, .null, .null, .null, .null, .null, .null, .int (nI 0)]))) 40 (fun _ _ => 0)) 0 (.inr (8, [.ref 20, .ref 40, .null, .null, .null, .null, .null, .null, .null, .null, .long (lN 0), .long (lN 0)])))
  refine gj_aload_n dX10_init_26 rfl ?_
  refine gj_ic (w := 2) dX10_init_27 ?_
  refine gj_newqN (i := 15) w_100 rfl dX10_init_28 ((mj_up_ne (by omega)).trans ((mj_lay_out (by omega)).trans ((mj_up_ne (by omega)).trans ((mj_up_ne (by omega)).trans ((mj_lay_out (by omega)).trans ((mj_up_ne (by omega)).trans (mj_up_ne (by omega)))))))) (by omega) (mj_alC (mj_alS (mj_up_eq _ _ _)) mj_alN) (mj_stC (mj_alS (mj_up_eq _ _ _)) mj_stN) ?_
  refine pfX10_19 rfl (fun t ht => ht.2.2) dX10_init_31 ((mj_up_ne (by decide)).trans (mj_up_eq _ _ _)) (Nat.le_of_ble_eq_true rfl) (mj_alS (mj_up_eq _ _ _)) ?_
  show gj _ _ _ _ _ _ _ _ (mj_up (mj_up (mj_up (mj_lay (mj_up (mj_up (mj_lay (mj_up (mj_up (fun _ => none) 0 (.inr (8, [.null, .null, .null, .null, .null, .null, .null, .null, .null, .null, .long (lN 0), .long (lN 0)]))) 20 (.inr (0, [.null, .null, .null, .null, .null, .null, .null, .int (nI 0)]))) 20 (fun _ _ => 0)) 0 (.inr (8, [.ref 20, .null, .null, .null, .null, .null, .null, .null, .null, .null, .long (lN 0), .long (lN 0)]))) 40 (.inr (0, [.null, .null, .null, .null, .null, .null, .null, .int (nI 0)]))) 40 (fun _ _ => 0)) 0 (.inr (8, [.ref 20, .ref 40, .null, .null, .null, .null, .null, .null, .null, .null, .long (lN 0), .long (lN 0)]))) 15 (.inl (3, 2, .inr (.inr (.inr (.inr (fun _ => none))))))) 0 (.inr (8, [.ref 20, .ref 40, .ref 15, .null, .null, .null, .null, .null, .null, .null, .long (lN 0), .long (lN 0)])))
  refine gj_aload_n dX10_init_34 rfl ?_
  refine gj_newN (ci := 3) (i := 1) (fs := [.null, .null]) inTX4 tyX4_ok w_224 w_107 w_74 rfl (by decide +kernel) rfl rfl dX10_init_35 ((mj_up_ne (by omega)).trans ((mj_up_ne (by omega)).trans ((mj_up_ne (by omega)).trans ((mj_lay_out (by omega)).trans ((mj_up_ne (by omega)).trans ((mj_up_ne (by omega)).trans ((mj_lay_out (by omega)).trans ((mj_up_ne (by omega)).trans (mj_up_ne (by omega)))))))))) (by omega) (mj_alC (mj_alS (mj_up_eq _ _ _)) mj_alN) (mj_stC (mj_alS (mj_up_eq _ _ _)) mj_stN) ?_
  refine gj_dup dX10_init_38 rfl ?_
  refine gj_IN0 lkX10_25 (ev_X4_init (a := 1) (x0 := 2) (x1 := 3) (mj_up_eq _ _ _) ((mj_up_ne (by omega)).trans ((mj_up_ne (by omega)).trans ((mj_up_ne (by omega)).trans ((mj_up_ne (by omega)).trans ((mj_lay_out (by omega)).trans ((mj_up_ne (by omega)).trans ((mj_up_ne (by omega)).trans ((mj_lay_out (by omega)).trans ((mj_up_ne (by omega)).trans (mj_up_ne (by omega))))))))))) (by omega) ((mj_up_ne (by omega)).trans ((mj_up_ne (by omega)).trans ((mj_up_ne (by omega)).trans ((mj_up_ne (by omega)).trans ((mj_lay_out (by omega)).trans ((mj_up_ne (by omega)).trans ((mj_up_ne (by omega)).trans ((mj_lay_out (by omega)).trans ((mj_up_ne (by omega)).trans (mj_up_ne (by omega))))))))))) (by omega) (by omega) (by omega) (by omega)) dX10_init_39 rfl rfl rfl (mj_alC (mj_alS ((mj_up_ne (by decide)).trans (mj_up_eq _ _ _))) mj_alN) (mj_stC (mj_alS (mj_up_eq _ _ _)) (mj_stC (mj_alS ((mj_up_ne (by decide)).trans (mj_up_eq _ _ _))) mj_stN)) ?_
  refine pfX10_26 rfl (fun t ht => ht.2.2) dX10_init_42 ((mj_up_ne (by decide)).trans ((mj_up_ne (by decide)).trans ((mj_up_ne (by decide)).trans ((mj_up_ne (by decide)).trans (mj_up_eq _ _ _))))) (Nat.le_of_ble_eq_true rfl) (mj_alS (mj_up_eq _ _ _)) ?_
  show gj _ _ _ _ _ _ _ _ (mj_up (mj_up (mj_up (mj_up (mj_up (mj_up (mj_up (mj_up (mj_lay (mj_up (mj_up (mj_lay (mj_up (mj_up (fun _ => none) 0 (.inr (8, [.null, .null, .null, .null, .null, .null, .null, .null, .null, .null, .long (lN 0), .long (lN 0)]))) 20 (.inr (0, [.null, .null, .null, .null, .null, .null, .null, .int (nI 0)]))) 20 (fun _ _ => 0)) 0 (.inr (8, [.ref 20, .null, .null, .null, .null, .null, .null, .null, .null, .null, .long (lN 0), .long (lN 0)]))) 40 (.inr (0, [.null, .null, .null, .null, .null, .null, .null, .int (nI 0)]))) 40 (fun _ _ => 0)) 0 (.inr (8, [.ref 20, .ref 40, .null, .null, .null, .null, .null, .null, .null, .null, .long (lN 0), .long (lN 0)]))) 15 (.inl (3, 2, .inr (.inr (.inr (.inr (fun _ => none))))))) 0 (.inr (8, [.ref 20, .ref 40, .ref 15, .null, .null, .null, .null, .null, .null, .null, .long (lN 0), .long (lN 0)]))) 1 (.inr (3, [.null, .null]))) 2 (mj_ar 25 (fun _ => 0))) 3 (mj_ar 25 (fun _ => 0))) 1 (.inr (3, [.ref 2, .ref 3]))) 0 (.inr (8, [.ref 20, .ref 40, .ref 15, .ref 1, .null, .null, .null, .null, .null, .null, .long (lN 0), .long (lN 0)])))
  refine gj_aload_n dX10_init_45 rfl ?_
  refine gj_newN (ci := 6) (i := 4) (fs := [.null, .null]) inTX8 tyX8_ok w_226 w_227 w_79 rfl (by decide +kernel) rfl rfl dX10_init_46 ((mj_up_ne (by omega)).trans ((mj_up_ne (by omega)).trans ((mj_up_ne (by omega)).trans ((mj_up_ne (by omega)).trans ((mj_up_ne (by omega)).trans ((mj_up_ne (by omega)).trans ((mj_up_ne (by omega)).trans ((mj_up_ne (by omega)).trans ((mj_lay_out (by omega)).trans ((mj_up_ne (by omega)).trans ((mj_up_ne (by omega)).trans ((mj_lay_out (by omega)).trans ((mj_up_ne (by omega)).trans (mj_up_ne (by omega))))))))))))))) (by omega) (mj_alC (mj_alS (mj_up_eq _ _ _)) mj_alN) (mj_stC (mj_alS (mj_up_eq _ _ _)) mj_stN) ?_
  refine gj_dup dX10_init_49 rfl ?_
  refine gj_IN0 lkX10_32 (ev_X8_init (a := 4) (x0 := 5) (x1 := 6) (mj_up_eq _ _ _) ((mj_up_ne (by omega)).trans ((mj_up_ne (by omega)).trans ((mj_up_ne (by omega)).trans ((mj_up_ne (by omega)).trans ((mj_up_ne (by omega)).trans ((mj_up_ne (by omega)).trans ((mj_up_ne (by omega)).trans ((mj_up_ne (by omega)).trans ((mj_up_ne (by omega)).trans ((mj_lay_out (by omega)).trans ((mj_up_ne (by omega)).trans ((mj_up_ne (by omega)).trans ((mj_lay_out (by omega)).trans ((mj_up_ne (by omega)).trans (mj_up_ne (by omega)))))))))))))))) (by omega) ((mj_up_ne (by omega)).trans ((mj_up_ne (by omega)).trans ((mj_up_ne (by omega)).trans ((mj_up_ne (by omega)).trans ((mj_up_ne (by omega)).trans ((mj_up_ne (by omega)).trans ((mj_up_ne (by omega)).trans ((mj_up_ne (by omega)).trans ((mj_up_ne (by omega)).trans ((mj_lay_out (by omega)).trans ((mj_up_ne (by omega)).trans ((mj_up_ne (by omega)).trans ((mj_lay_out (by omega)).trans ((mj_up_ne (by omega)).trans (mj_up_ne (by omega)))))))))))))))) (by omega) (by omega) (by omega) (by omega)) dX10_init_50 rfl rfl rfl (mj_alC (mj_alS ((mj_up_ne (by decide)).trans (mj_up_eq _ _ _))) mj_alN) (mj_stC (mj_alS (mj_up_eq _ _ _)) (mj_stC (mj_alS ((mj_up_ne (by decide)).trans (mj_up_eq _ _ _))) mj_stN)) ?_
  refine pfX10_33 rfl (fun t ht => ht.2.2) dX10_init_53 ((mj_up_ne (by decide)).trans ((mj_up_ne (by decide)).trans ((mj_up_ne (by decide)).trans ((mj_up_ne (by decide)).trans (mj_up_eq _ _ _))))) (Nat.le_of_ble_eq_true rfl) (mj_alS (mj_up_eq _ _ _)) ?_
  show gj _ _ _ _ _ _ _ _ (mj_up (mj_up (mj_up (mj_up (mj_up (mj_up (mj_up (mj_up (mj_up (mj_up (mj_up (mj_up (mj_up (mj_lay (mj_up (mj_up (mj_lay (mj_up (mj_up (fun _ => none) 0 (.inr (8, [.null, .null, .null, .null, .null, .null, .null, .null, .null, .null, .long (lN 0), .long (lN 0)]))) 20 (.inr (0, [.null, .null, .null, .null, .null, .null, .null, .int (nI 0)]))) 20 (fun _ _ => 0)) 0 (.inr (8, [.ref 20, .null, .null, .null, .null, .null, .null, .null, .null, .null, .long (lN 0), .long (lN 0)]))) 40 (.inr (0, [.null, .null, .null, .null, .null, .null, .null, .int (nI 0)]))) 40 (fun _ _ => 0)) 0 (.inr (8, [.ref 20, .ref 40, .null, .null, .null, .null, .null, .null, .null, .null, .long (lN 0), .long (lN 0)]))) 15 (.inl (3, 2, .inr (.inr (.inr (.inr (fun _ => none))))))) 0 (.inr (8, [.ref 20, .ref 40, .ref 15, .null, .null, .null, .null, .null, .null, .null, .long (lN 0), .long (lN 0)]))) 1 (.inr (3, [.null, .null]))) 2 (mj_ar 25 (fun _ => 0))) 3 (mj_ar 25 (fun _ => 0))) 1 (.inr (3, [.ref 2, .ref 3]))) 0 (.inr (8, [.ref 20, .ref 40, .ref 15, .ref 1, .null, .null, .null, .null, .null, .null, .long (lN 0), .long (lN 0)]))) 4 (.inr (6, [.null, .null]))) 5 (mj_ar 25 (fun _ => 0))) 6 (mj_ar 25 (fun _ => 0))) 4 (.inr (6, [.ref 5, .ref 6]))) 0 (.inr (8, [.ref 20, .ref 40, .ref 15, .ref 1, .ref 4, .null, .null, .null, .null, .null, .long (lN 0), .long (lN 0)])))
  refine gj_aload_n dX10_init_56 rfl ?_
  refine gj_newN (ci := 4) (i := 7) (fs := [.null, .int (nI 0), .null, .null, .int (nI 0), .int (nI 0)]) inTX5 tyX5_ok w_239 w_240 w_80 rfl (by decide +kernel) rfl rfl dX10_init_57 ((mj_up_ne (by omega)).trans ((mj_up_ne (by omega)).trans ((mj_up_ne (by omega)).trans ((mj_up_ne (by omega)).trans ((mj_up_ne (by omega)).trans ((mj_up_ne (by omega)).trans ((mj_up_ne (by omega)).trans ((mj_up_ne (by omega)).trans ((mj_up_ne (by omega)).trans ((mj_up_ne (by omega)).trans ((mj_up_ne (by omega)).trans ((mj_up_ne (by omega)).trans ((mj_up_ne (by omega)).trans ((mj_lay_out (by omega)).trans ((mj_up_ne (by omega)).trans ((mj_up_ne (by omega)).trans ((mj_lay_out (by omega)).trans ((mj_up_ne (by omega)).trans (mj_up_ne (by omega)))))))))))))))))))) (by omega) (mj_alC (mj_alS (mj_up_eq _ _ _)) mj_alN) (mj_stC (mj_alS (mj_up_eq _ _ _)) mj_stN) ?_
  refine gj_dup dX10_init_60 rfl ?_
  refine gj_IN0 lkX10_39 (ev_X5_init (a := 7) (x0 := 8) (x1 := 9) (x2 := 10) (mj_up_eq _ _ _) ((mj_up_ne (by omega)).trans ((mj_up_ne (by omega)).trans ((mj_up_ne (by omega)).trans ((mj_up_ne (by omega)).trans ((mj_up_ne (by omega)).trans ((mj_up_ne (by omega)).trans ((mj_up_ne (by omega)).trans ((mj_up_ne (by omega)).trans ((mj_up_ne (by omega)).trans ((mj_up_ne (by omega)).trans ((mj_up_ne (by omega)).trans ((mj_up_ne (by omega)).trans ((mj_up_ne (by omega)).trans ((mj_up_ne (by omega)).trans ((mj_lay_out (by omega)).trans ((mj_up_ne (by omega)).trans ((mj_up_ne (by omega)).trans ((mj_lay_out (by omega)).trans ((mj_up_ne (by omega)).trans (mj_up_ne (by omega))))))))))))))))))))) (by omega) ((mj_up_ne (by omega)).trans ((mj_up_ne (by omega)).trans ((mj_up_ne (by omega)).trans ((mj_up_ne (by omega)).trans ((mj_up_ne (by omega)).trans ((mj_up_ne (by omega)).trans ((mj_up_ne (by omega)).trans ((mj_up_ne (by omega)).trans ((mj_up_ne (by omega)).trans ((mj_up_ne (by omega)).trans ((mj_up_ne (by omega)).trans ((mj_up_ne (by omega)).trans ((mj_up_ne (by omega)).trans ((mj_up_ne (by omega)).trans ((mj_lay_out (by omega)).trans ((mj_up_ne (by omega)).trans ((mj_up_ne (by omega)).trans ((mj_lay_out (by omega)).trans ((mj_up_ne (by omega)).trans (mj_up_ne (by omega))))))))))))))))))))) (by omega) ((mj_up_ne (by omega)).trans ((mj_up_ne (by omega)).trans ((mj_up_ne (by omega)).trans ((mj_up_ne (by omega)).trans ((mj_up_ne (by omega)).trans ((mj_up_ne (by omega)).trans ((mj_up_ne (by omega)).trans ((mj_up_ne (by omega)).trans ((mj_up_ne (by omega)).trans ((mj_up_ne (by omega)).trans ((mj_up_ne (by omega)).trans ((mj_up_ne (by omega)).trans ((mj_up_ne (by omega)).trans ((mj_up_ne (by omega)).trans ((mj_lay_out (by omega)).trans ((mj_up_ne (by omega)).trans ((mj_up_ne (by omega)).trans ((mj_lay_out (by omega)).trans ((mj_up_ne (by omega)).trans (mj_up_ne (by omega))))))))))))))))))))) (by omega) (by omega) (by omega) (by omega) (by omega) (by omega) (by omega)) dX10_init_61 rfl rfl rfl (mj_alC (mj_alS ((mj_up_ne (by decide)).trans (mj_up_eq _ _ _))) mj_alN) (mj_stC (mj_alS (mj_up_eq _ _ _)) (mj_stC (mj_alS ((mj_up_ne (by decide)).trans (mj_up_eq _ _ _))) mj_stN)) ?_
  refine pfX10_40 rfl (fun t ht => ht.2.2) dX10_init_64 ((mj_up_ne (by decide)).trans ((mj_up_ne (by decide)).trans ((mj_up_ne (by decide)).trans ((mj_up_ne (by decide)).trans ((mj_up_ne (by decide)).trans (mj_up_eq _ _ _)))))) (Nat.le_of_ble_eq_true rfl) (mj_alS (mj_up_eq _ _ _)) ?_
  show gj _ _ _ _ _ _ _ _ (mj_up (mj_up (mj_up (mj_up (mj_up (mj_up (mj_up (mj_up (mj_up (mj_up (mj_up (mj_up (mj_up (mj_up (mj_up (mj_up (mj_up (mj_up (mj_up (mj_lay (mj_up (mj_up (mj_lay (mj_up (mj_up (fun _ => none) 0 (.inr (8, [.null, .null, .null, .null, .null, .null, .null, .null, .null, .null, .long (lN 0), .long (lN 0)]))) 20 (.inr (0, [.null, .null, .null, .null, .null, .null, .null, .int (nI 0)]))) 20 (fun _ _ => 0)) 0 (.inr (8, [.ref 20, .null, .null, .null, .null, .null, .null, .null, .null, .null, .long (lN 0), .long (lN 0)]))) 40 (.inr (0, [.null, .null, .null, .null, .null, .null, .null, .int (nI 0)]))) 40 (fun _ _ => 0)) 0 (.inr (8, [.ref 20, .ref 40, .null, .null, .null, .null, .null, .null, .null, .null, .long (lN 0), .long (lN 0)]))) 15 (.inl (3, 2, .inr (.inr (.inr (.inr (fun _ => none))))))) 0 (.inr (8, [.ref 20, .ref 40, .ref 15, .null, .null, .null, .null, .null, .null, .null, .long (lN 0), .long (lN 0)]))) 1 (.inr (3, [.null, .null]))) 2 (mj_ar 25 (fun _ => 0))) 3 (mj_ar 25 (fun _ => 0))) 1 (.inr (3, [.ref 2, .ref 3]))) 0 (.inr (8, [.ref 20, .ref 40, .ref 15, .ref 1, .null, .null, .null, .null, .null, .null, .long (lN 0), .long (lN 0)]))) 4 (.inr (6, [.null, .null]))) 5 (mj_ar 25 (fun _ => 0))) 6 (mj_ar 25 (fun _ => 0))) 4 (.inr (6, [.ref 5, .ref 6]))) 0 (.inr (8, [.ref 20, .ref 40, .ref 15, .ref 1, .ref 4, .null, .null, .null, .null, .null, .long (lN 0), .long (lN 0)]))) 7 (.inr (4, [.null, .int (nI 0), .null, .null, .int (nI 0), .int (nI 0)]))) 8 (mj_ar 150 (fun _ => 0))) 9 (mj_ar 151 (fun _ => 0))) 10 (mj_ar 151 (fun _ => 0))) 7 (.inr (4, [.ref 8, .int (nI 0), .ref 9, .ref 10, .int (nI 0), .int (-1)]))) 0 (.inr (8, [.ref 20, .ref 40, .ref 15, .ref 1, .ref 4, .ref 7, .null, .null, .null, .null, .long (lN 0), .long (lN 0)])))
  refine gj_aload_n dX10_init_67 rfl ?_
  refine gj_ic (w := 3) dX10_init_68 ?_
  refine gj_newiN (N := 3) (i := 11) w_120 (by decide) rfl rfl rfl dX10_init_69 ((mj_up_ne (by omega)).trans ((mj_up_ne (by omega)).trans ((mj_up_ne (by omega)).trans ((mj_up_ne (by omega)).trans ((mj_up_ne (by omega)).trans ((mj_up_ne (by omega)).trans ((mj_up_ne (by omega)).trans ((mj_up_ne (by omega)).trans ((mj_up_ne (by omega)).trans ((mj_up_ne (by omega)).trans ((mj_up_ne (by omega)).trans ((mj_up_ne (by omega)).trans ((mj_up_ne (by omega)).trans ((mj_up_ne (by omega)).trans ((mj_up_ne (by omega)).trans ((mj_up_ne (by omega)).trans ((mj_up_ne (by omega)).trans ((mj_up_ne (by omega)).trans ((mj_up_ne (by omega)).trans ((mj_lay_out (by omega)).trans ((mj_up_ne (by omega)).trans ((mj_up_ne (by omega)).trans ((mj_lay_out (by omega)).trans ((mj_up_ne (by omega)).trans (mj_up_ne (by omega)))))))))))))))))))))))))) (by omega) (mj_alC (mj_alS (mj_up_eq _ _ _)) mj_alN) (mj_stC (mj_alS (mj_up_eq _ _ _)) mj_stN) ?_
  refine pfX10_44 rfl (fun t ht => ht.2.2) dX10_init_71 ((mj_up_ne (by decide)).trans (mj_up_eq _ _ _)) (Nat.le_of_ble_eq_true rfl) (mj_alS (mj_up_eq _ _ _)) ?_
  show gj _ _ _ _ _ _ _ _ (mj_up (mj_up (mj_up (mj_up (mj_up (mj_up (mj_up (mj_up (mj_up (mj_up (mj_up (mj_up (mj_up (mj_up (mj_up (mj_up (mj_up (mj_up (mj_up (mj_up (mj_up (mj_lay (mj_up (mj_up (mj_lay (mj_up (mj_up (fun _ => none) 0 (.inr (8, [.null, .null, .null, .null, .null, .null, .null, .null, .null, .null, .long (lN 0), .long (lN 0)]))) 20 (.inr (0, [.null, .null, .null, .null, .null, .null, .null, .int (nI 0)]))) 20 (fun _ _ => 0)) 0 (.inr (8, [.ref 20, .null, .null, .null, .null, .null, .null, .null, .null, .null, .long (lN 0), .long (lN 0)]))) 40 (.inr (0, [.null, .null, .null, .null, .null, .null, .null, .int (nI 0)]))) 40 (fun _ _ => 0)) 0 (.inr (8, [.ref 20, .ref 40, .null, .null, .null, .null, .null, .null, .null, .null, .long (lN 0), .long (lN 0)]))) 15 (.inl (3, 2, .inr (.inr (.inr (.inr (fun _ => none))))))) 0 (.inr (8, [.ref 20, .ref 40, .ref 15, .null, .null, .null, .null, .null, .null, .null, .long (lN 0), .long (lN 0)]))) 1 (.inr (3, [.null, .null]))) 2 (mj_ar 25 (fun _ => 0))) 3 (mj_ar 25 (fun _ => 0))) 1 (.inr (3, [.ref 2, .ref 3]))) 0 (.inr (8, [.ref 20, .ref 40, .ref 15, .ref 1, .null, .null, .null, .null, .null, .null, .long (lN 0), .long (lN 0)]))) 4 (.inr (6, [.null, .null]))) 5 (mj_ar 25 (fun _ => 0))) 6 (mj_ar 25 (fun _ => 0))) 4 (.inr (6, [.ref 5, .ref 6]))) 0 (.inr (8, [.ref 20, .ref 40, .ref 15, .ref 1, .ref 4, .null, .null, .null, .null, .null, .long (lN 0), .long (lN 0)]))) 7 (.inr (4, [.null, .int (nI 0), .null, .null, .int (nI 0), .int (nI 0)]))) 8 (mj_ar 150 (fun _ => 0))) 9 (mj_ar 151 (fun _ => 0))) 10 (mj_ar 151 (fun _ => 0))) 7 (.inr (4, [.ref 8, .int (nI 0), .ref 9, .ref 10, .int (nI 0), .int (-1)]))) 0 (.inr (8, [.ref 20, .ref 40, .ref 15, .ref 1, .ref 4, .ref 7, .null, .null, .null, .null, .long (lN 0), .long (lN 0)]))) 11 (mj_ar 3 (fun _ => 0))) 0 (.inr (8, [.ref 20, .ref 40, .ref 15, .ref 1, .ref 4, .ref 7, .ref 11, .null, .null, .null, .long (lN 0), .long (lN 0)])))
  refine gj_aload_n dX10_init_74 rfl ?_
  refine gj_bp 6 dX10_init_75 (by decide) ?_
  refine gj_newiN (N := 6) (i := 12) w_120 (by decide) rfl rfl rfl dX10_init_77 ((mj_up_ne (by omega)).trans ((mj_up_ne (by omega)).trans ((mj_up_ne (by omega)).trans ((mj_up_ne (by omega)).trans ((mj_up_ne (by omega)).trans ((mj_up_ne (by omega)).trans ((mj_up_ne (by omega)).trans ((mj_up_ne (by omega)).trans ((mj_up_ne (by omega)).trans ((mj_up_ne (by omega)).trans ((mj_up_ne (by omega)).trans ((mj_up_ne (by omega)).trans ((mj_up_ne (by omega)).trans ((mj_up_ne (by omega)).trans ((mj_up_ne (by omega)).trans ((mj_up_ne (by omega)).trans ((mj_up_ne (by omega)).trans ((mj_up_ne (by omega)).trans ((mj_up_ne (by omega)).trans ((mj_up_ne (by omega)).trans ((mj_up_ne (by omega)).trans ((mj_lay_out (by omega)).trans ((mj_up_ne (by omega)).trans ((mj_up_ne (by omega)).trans ((mj_lay_out (by omega)).trans ((mj_up_ne (by omega)).trans (mj_up_ne (by omega)))))))))))))))))))))))))))) (by omega) (mj_alC (mj_alS (mj_up_eq _ _ _)) mj_alN) (mj_stC (mj_alS (mj_up_eq _ _ _)) mj_stN) ?_
  refine pfX10_48 rfl (fun t ht => ht.2.2) dX10_init_79 ((mj_up_ne (by decide)).trans (mj_up_eq _ _ _)) (Nat.le_of_ble_eq_true rfl) (mj_alS (mj_up_eq _ _ _)) ?_
  show gj _ _ _ _ _ _ _ _ (mj_up (mj_up (mj_up (mj_up (mj_up (mj_up (mj_up (mj_up (mj_up (mj_up (mj_up (mj_up (mj_up (mj_up (mj_up (mj_up (mj_up (mj_up (mj_up (mj_up (mj_up (mj_up (mj_up (mj_lay (mj_up (mj_up (mj_lay (mj_up (mj_up (fun _ => none) 0 (.inr (8, [.null, .null, .null, .null, .null, .null, .null, .null, .null, .null, .long (lN 0), .long (lN 0)]))) 20 (.inr (0, [.null, .null, .null, .null, .null, .null, .null, .int (nI 0)]))) 20 (fun _ _ => 0)) 0 (.inr (8, [.ref 20, .null, .null, .null, .null, .null, .null, .null, .null, .null, .long (lN 0), .long (lN 0)]))) 40 (.inr (0, [.null, .null, .null, .null, .null, .null, .null, .int (nI 0)]))) 40 (fun _ _ => 0)) 0 (.inr (8, [.ref 20, .ref 40, .null, .null, .null, .null, .null, .null, .null, .null, .long (lN 0), .long (lN 0)]))) 15 (.inl (3, 2, .inr (.inr (.inr (.inr (fun _ => none))))))) 0 (.inr (8, [.ref 20, .ref 40, .ref 15, .null, .null, .null, .null, .null, .null, .null, .long (lN 0), .long (lN 0)]))) 1 (.inr (3, [.null, .null]))) 2 (mj_ar 25 (fun _ => 0))) 3 (mj_ar 25 (fun _ => 0))) 1 (.inr (3, [.ref 2, .ref 3]))) 0 (.inr (8, [.ref 20, .ref 40, .ref 15, .ref 1, .null, .null, .null, .null, .null, .null, .long (lN 0), .long (lN 0)]))) 4 (.inr (6, [.null, .null]))) 5 (mj_ar 25 (fun _ => 0))) 6 (mj_ar 25 (fun _ => 0))) 4 (.inr (6, [.ref 5, .ref 6]))) 0 (.inr (8, [.ref 20, .ref 40, .ref 15, .ref 1, .ref 4, .null, .null, .null, .null, .null, .long (lN 0), .long (lN 0)]))) 7 (.inr (4, [.null, .int (nI 0), .null, .null, .int (nI 0), .int (nI 0)]))) 8 (mj_ar 150 (fun _ => 0))) 9 (mj_ar 151 (fun _ => 0))) 10 (mj_ar 151 (fun _ => 0))) 7 (.inr (4, [.ref 8, .int (nI 0), .ref 9, .ref 10, .int (nI 0), .int (-1)]))) 0 (.inr (8, [.ref 20, .ref 40, .ref 15, .ref 1, .ref 4, .ref 7, .null, .null, .null, .null, .long (lN 0), .long (lN 0)]))) 11 (mj_ar 3 (fun _ => 0))) 0 (.inr (8, [.ref 20, .ref 40, .ref 15, .ref 1, .ref 4, .ref 7, .ref 11, .null, .null, .null, .long (lN 0), .long (lN 0)]))) 12 (mj_ar 6 (fun _ => 0))) 0 (.inr (8, [.ref 20, .ref 40, .ref 15, .ref 1, .ref 4, .ref 7, .ref 11, .ref 12, .null, .null, .long (lN 0), .long (lN 0)])))
  refine gj_aload_n dX10_init_82 rfl ?_
  refine gj_bp 100 dX10_init_83 (by decide) ?_
  refine gj_newlN (N := 100) (i := 13) w_302 (by decide) rfl rfl rfl dX10_init_85 ((mj_up_ne (by omega)).trans ((mj_up_ne (by omega)).trans ((mj_up_ne (by omega)).trans ((mj_up_ne (by omega)).trans ((mj_up_ne (by omega)).trans ((mj_up_ne (by omega)).trans ((mj_up_ne (by omega)).trans ((mj_up_ne (by omega)).trans ((mj_up_ne (by omega)).trans ((mj_up_ne (by omega)).trans ((mj_up_ne (by omega)).trans ((mj_up_ne (by omega)).trans ((mj_up_ne (by omega)).trans ((mj_up_ne (by omega)).trans ((mj_up_ne (by omega)).trans ((mj_up_ne (by omega)).trans ((mj_up_ne (by omega)).trans ((mj_up_ne (by omega)).trans ((mj_up_ne (by omega)).trans ((mj_up_ne (by omega)).trans ((mj_up_ne (by omega)).trans ((mj_up_ne (by omega)).trans ((mj_up_ne (by omega)).trans ((mj_lay_out (by omega)).trans ((mj_up_ne (by omega)).trans ((mj_up_ne (by omega)).trans ((mj_lay_out (by omega)).trans ((mj_up_ne (by omega)).trans (mj_up_ne (by omega)))))))))))))))))))))))))))))) (by omega) (mj_alC (mj_alS (mj_up_eq _ _ _)) mj_alN) (mj_stC (mj_alS (mj_up_eq _ _ _)) mj_stN) ?_
  refine pfX10_51 rfl (fun t ht => ht.2.2) dX10_init_87 ((mj_up_ne (by decide)).trans (mj_up_eq _ _ _)) (Nat.le_of_ble_eq_true rfl) (mj_alS (mj_up_eq _ _ _)) ?_
  show gj _ _ _ _ _ _ _ _ (mj_up (mj_up (mj_up (mj_up (mj_up (mj_up (mj_up (mj_up (mj_up (mj_up (mj_up (mj_up (mj_up (mj_up (mj_up (mj_up (mj_up (mj_up (mj_up (mj_up (mj_up (mj_up (mj_up (mj_up (mj_up (mj_lay (mj_up (mj_up (mj_lay (mj_up (mj_up (fun _ => none) 0 (.inr (8, [.null, .null, .null, .null, .null, .null, .null, .null, .null, .null, .long (lN 0), .long (lN 0)]))) 20 (.inr (0, [.null, .null, .null, .null, .null, .null, .null, .int (nI 0)]))) 20 (fun _ _ => 0)) 0 (.inr (8, [.ref 20, .null, .null, .null, .null, .null, .null, .null, .null, .null, .long (lN 0), .long (lN 0)]))) 40 (.inr (0, [.null, .null, .null, .null, .null, .null, .null, .int (nI 0)]))) 40 (fun _ _ => 0)) 0 (.inr (8, [.ref 20, .ref 40, .null, .null, .null, .null, .null, .null, .null, .null, .long (lN 0), .long (lN 0)]))) 15 (.inl (3, 2, .inr (.inr (.inr (.inr (fun _ => none))))))) 0 (.inr (8, [.ref 20, .ref 40, .ref 15, .null, .null, .null, .null, .null, .null, .null, .long (lN 0), .long (lN 0)]))) 1 (.inr (3, [.null, .null]))) 2 (mj_ar 25 (fun _ => 0))) 3 (mj_ar 25 (fun _ => 0))) 1 (.inr (3, [.ref 2, .ref 3]))) 0 (.inr (8, [.ref 20, .ref 40, .ref 15, .ref 1, .null, .null, .null, .null, .null, .null, .long (lN 0), .long (lN 0)]))) 4 (.inr (6, [.null, .null]))) 5 (mj_ar 25 (fun _ => 0))) 6 (mj_ar 25 (fun _ => 0))) 4 (.inr (6, [.ref 5, .ref 6]))) 0 (.inr (8, [.ref 20, .ref 40, .ref 15, .ref 1, .ref 4, .null, .null, .null, .null, .null, .long (lN 0), .long (lN 0)]))) 7 (.inr (4, [.null, .int (nI 0), .null, .null, .int (nI 0), .int (nI 0)]))) 8 (mj_ar 150 (fun _ => 0))) 9 (mj_ar 151 (fun _ => 0))) 10 (mj_ar 151 (fun _ => 0))) 7 (.inr (4, [.ref 8, .int (nI 0), .ref 9, .ref 10, .int (nI 0), .int (-1)]))) 0 (.inr (8, [.ref 20, .ref 40, .ref 15, .ref 1, .ref 4, .ref 7, .null, .null, .null, .null, .long (lN 0), .long (lN 0)]))) 11 (mj_ar 3 (fun _ => 0))) 0 (.inr (8, [.ref 20, .ref 40, .ref 15, .ref 1, .ref 4, .ref 7, .ref 11, .null, .null, .null, .long (lN 0), .long (lN 0)]))) 12 (mj_ar 6 (fun _ => 0))) 0 (.inr (8, [.ref 20, .ref 40, .ref 15, .ref 1, .ref 4, .ref 7, .ref 11, .ref 12, .null, .null, .long (lN 0), .long (lN 0)]))) 13 (mj_al64 100 (fun _ => 0))) 0 (.inr (8, [.ref 20, .ref 40, .ref 15, .ref 1, .ref 4, .ref 7, .ref 11, .ref 12, .ref 13, .null, .long (lN 0), .long (lN 0)])))
  refine gj_aload_n dX10_init_90 rfl ?_
  refine gj_bp 100 dX10_init_91 (by decide) ?_
  refine gj_newlN (N := 100) (i := 14) w_302 (by decide) rfl rfl rfl dX10_init_93 ((mj_up_ne (by omega)).trans ((mj_up_ne (by omega)).trans ((mj_up_ne (by omega)).trans ((mj_up_ne (by omega)).trans ((mj_up_ne (by omega)).trans ((mj_up_ne (by omega)).trans ((mj_up_ne (by omega)).trans ((mj_up_ne (by omega)).trans ((mj_up_ne (by omega)).trans ((mj_up_ne (by omega)).trans ((mj_up_ne (by omega)).trans ((mj_up_ne (by omega)).trans ((mj_up_ne (by omega)).trans ((mj_up_ne (by omega)).trans ((mj_up_ne (by omega)).trans ((mj_up_ne (by omega)).trans ((mj_up_ne (by omega)).trans ((mj_up_ne (by omega)).trans ((mj_up_ne (by omega)).trans ((mj_up_ne (by omega)).trans ((mj_up_ne (by omega)).trans ((mj_up_ne (by omega)).trans ((mj_up_ne (by omega)).trans ((mj_up_ne (by omega)).trans ((mj_up_ne (by omega)).trans ((mj_lay_out (by omega)).trans ((mj_up_ne (by omega)).trans ((mj_up_ne (by omega)).trans ((mj_lay_out (by omega)).trans ((mj_up_ne (by omega)).trans (mj_up_ne (by omega)))))))))))))))))))))))))))))))) (by omega) (mj_alC (mj_alS (mj_up_eq _ _ _)) mj_alN) (mj_stC (mj_alS (mj_up_eq _ _ _)) mj_stN) ?_
  refine pfX10_55 rfl (fun t ht => ht.2.2) dX10_init_95 ((mj_up_ne (by decide)).trans (mj_up_eq _ _ _)) (Nat.le_of_ble_eq_true rfl) (mj_alS (mj_up_eq _ _ _)) ?_
  show gj _ _ _ _ _ _ _ _ (mj_up (mj_up (mj_up (mj_up (mj_up (mj_up (mj_up (mj_up (mj_up (mj_up (mj_up (mj_up (mj_up (mj_up (mj_up (mj_up (mj_up (mj_up (mj_up (mj_up (mj_up (mj_up (mj_up (mj_up (mj_up (mj_up (mj_up (mj_lay (mj_up (mj_up (mj_lay (mj_up (mj_up (fun _ => none) 0 (.inr (8, [.null, .null, .null, .null, .null, .null, .null, .null, .null, .null, .long (lN 0), .long (lN 0)]))) 20 (.inr (0, [.null, .null, .null, .null, .null, .null, .null, .int (nI 0)]))) 20 (fun _ _ => 0)) 0 (.inr (8, [.ref 20, .null, .null, .null, .null, .null, .null, .null, .null, .null, .long (lN 0), .long (lN 0)]))) 40 (.inr (0, [.null, .null, .null, .null, .null, .null, .null, .int (nI 0)]))) 40 (fun _ _ => 0)) 0 (.inr (8, [.ref 20, .ref 40, .null, .null, .null, .null, .null, .null, .null, .null, .long (lN 0), .long (lN 0)]))) 15 (.inl (3, 2, .inr (.inr (.inr (.inr (fun _ => none))))))) 0 (.inr (8, [.ref 20, .ref 40, .ref 15, .null, .null, .null, .null, .null, .null, .null, .long (lN 0), .long (lN 0)]))) 1 (.inr (3, [.null, .null]))) 2 (mj_ar 25 (fun _ => 0))) 3 (mj_ar 25 (fun _ => 0))) 1 (.inr (3, [.ref 2, .ref 3]))) 0 (.inr (8, [.ref 20, .ref 40, .ref 15, .ref 1, .null, .null, .null, .null, .null, .null, .long (lN 0), .long (lN 0)]))) 4 (.inr (6, [.null, .null]))) 5 (mj_ar 25 (fun _ => 0))) 6 (mj_ar 25 (fun _ => 0))) 4 (.inr (6, [.ref 5, .ref 6]))) 0 (.inr (8, [.ref 20, .ref 40, .ref 15, .ref 1, .ref 4, .null, .null, .null, .null, .null, .long (lN 0), .long (lN 0)]))) 7 (.inr (4, [.null, .int (nI 0), .null, .null, .int (nI 0), .int (nI 0)]))) 8 (mj_ar 150 (fun _ => 0))) 9 (mj_ar 151 (fun _ => 0))) 10 (mj_ar 151 (fun _ => 0))) 7 (.inr (4, [.ref 8, .int (nI 0), .ref 9, .ref 10, .int (nI 0), .int (-1)]))) 0 (.inr (8, [.ref 20, .ref 40, .ref 15, .ref 1, .ref 4, .ref 7, .null, .null, .null, .null, .long (lN 0), .long (lN 0)]))) 11 (mj_ar 3 (fun _ => 0))) 0 (.inr (8, [.ref 20, .ref 40, .ref 15, .ref 1, .ref 4, .ref 7, .ref 11, .null, .null, .null, .long (lN 0), .long (lN 0)]))) 12 (mj_ar 6 (fun _ => 0))) 0 (.inr (8, [.ref 20, .ref 40, .ref 15, .ref 1, .ref 4, .ref 7, .ref 11, .ref 12, .null, .null, .long (lN 0), .long (lN 0)]))) 13 (mj_al64 100 (fun _ => 0))) 0 (.inr (8, [.ref 20, .ref 40, .ref 15, .ref 1, .ref 4, .ref 7, .ref 11, .ref 12, .ref 13, .null, .long (lN 0), .long (lN 0)]))) 14 (mj_al64 100 (fun _ => 0))) 0 (.inr (8, [.ref 20, .ref 40, .ref 15, .ref 1, .ref 4, .ref 7, .ref 11, .ref 12, .ref 13, .ref 14, .long (lN 0), .long (lN 0)])))
  refine gj_aload_n dX10_init_98 rfl ?_
  refine gj_lconst (v := lN 0) dX10_init_99 rfl ?_
  refine pfX10_58 rfl dX10_init_100 (mj_up_eq _ _ _) (Nat.le_of_ble_eq_true rfl) ?_
  show gj _ _ _ _ _ _ _ _ (mj_up (mj_up (mj_up (mj_up (mj_up (mj_up (mj_up (mj_up (mj_up (mj_up (mj_up (mj_up (mj_up (mj_up (mj_up (mj_up (mj_up (mj_up (mj_up (mj_up (mj_up (mj_up (mj_up (mj_up (mj_up (mj_up (mj_up (mj_up (mj_lay (mj_up (mj_up (mj_lay (mj_up (mj_up (fun _ => none) 0 (.inr (8, [.null, .null, .null, .null, .null, .null, .null, .null, .null, .null, .long (lN 0), .long (lN 0)]))) 20 (.inr (0, [.null, .null, .null, .null, .null, .null, .null, .int (nI 0)]))) 20 (fun _ _ => 0)) 0 (.inr (8, [.ref 20, .null, .null, .null, .null, .null, .null, .null, .null, .null, .long (lN 0), .long (lN 0)]))) 40 (.inr (0, [.null, .null, .null, .null, .null, .null, .null, .int (nI 0)]))) 40 (fun _ _ => 0)) 0 (.inr (8, [.ref 20, .ref 40, .null, .null, .null, .null, .null, .null, .null, .null, .long (lN 0), .long (lN 0)]))) 15 (.inl (3, 2, .inr (.inr (.inr (.inr (fun _ => none))))))) 0 (.inr (8, [.ref 20, .ref 40, .ref 15, .null, .null, .null, .null, .null, .null, .null, .long (lN 0), .long (lN 0)]))) 1 (.inr (3, [.null, .null]))) 2 (mj_ar 25 (fun _ => 0))) 3 (mj_ar 25 (fun _ => 0))) 1 (.inr (3, [.ref 2, .ref 3]))) 0 (.inr (8, [.ref 20, .ref 40, .ref 15, .ref 1, .null, .null, .null, .null, .null, .null, .long (lN 0), .long (lN 0)]))) 4 (.inr (6, [.null, .null]))) 5 (mj_ar 25 (fun _ => 0))) 6 (mj_ar 25 (fun _ => 0))) 4 (.inr (6, [.ref 5, .ref 6]))) 0 (.inr (8, [.ref 20, .ref 40, .ref 15, .ref 1, .ref 4, .null, .null, .null, .null, .null, .long (lN 0), .long (lN 0)]))) 7 (.inr (4, [.null, .int (nI 0), .null, .null, .int (nI 0), .int (nI 0)]))) 8 (mj_ar 150 (fun _ => 0))) 9 (mj_ar 151 (fun _ => 0))) 10 (mj_ar 151 (fun _ => 0))) 7 (.inr (4, [.ref 8, .int (nI 0), .ref 9, .ref 10, .int (nI 0), .int (-1)]))) 0 (.inr (8, [.ref 20, .ref 40, .ref 15, .ref 1, .ref 4, .ref 7, .null, .null, .null, .null, .long (lN 0), .long (lN 0)]))) 11 (mj_ar 3 (fun _ => 0))) 0 (.inr (8, [.ref 20, .ref 40, .ref 15, .ref 1, .ref 4, .ref 7, .ref 11, .null, .null, .null, .long (lN 0), .long (lN 0)]))) 12 (mj_ar 6 (fun _ => 0))) 0 (.inr (8, [.ref 20, .ref 40, .ref 15, .ref 1, .ref 4, .ref 7, .ref 11, .ref 12, .null, .null, .long (lN 0), .long (lN 0)]))) 13 (mj_al64 100 (fun _ => 0))) 0 (.inr (8, [.ref 20, .ref 40, .ref 15, .ref 1, .ref 4, .ref 7, .ref 11, .ref 12, .ref 13, .null, .long (lN 0), .long (lN 0)]))) 14 (mj_al64 100 (fun _ => 0))) 0 (.inr (8, [.ref 20, .ref 40, .ref 15, .ref 1, .ref 4, .ref 7, .ref 11, .ref 12, .ref 13, .ref 14, .long (lN 0), .long (lN 0)]))) 0 (.inr (8, [.ref 20, .ref 40, .ref 15, .ref 1, .ref 4, .ref 7, .ref 11, .ref 12, .ref 13, .ref 14, .long (lN 0), .long (lN 0)])))
  refine gj_aload_n dX10_init_103 rfl ?_
  refine gj_lconst (v := lN 1) dX10_init_104 rfl ?_
  refine pfX10_62 rfl dX10_init_105 (mj_up_eq _ _ _) (Nat.le_of_ble_eq_true rfl) ?_
  show gj _ _ _ _ _ _ _ _ (mj_up (mj_up (mj_up (mj_up (mj_up (mj_up (mj_up (mj_up (mj_up (mj_up (mj_up (mj_up (mj_up (mj_up (mj_up (mj_up (mj_up (mj_up (mj_up (mj_up (mj_up (mj_up (mj_up (mj_up (mj_up (mj_up (mj_up (mj_up (mj_up (mj_lay (mj_up (mj_up (mj_lay (mj_up (mj_up (fun _ => none) 0 (.inr (8, [.null, .null, .null, .null, .null, .null, .null, .null, .null, .null, .long (lN 0), .long (lN 0)]))) 20 (.inr (0, [.null, .null, .null, .null, .null, .null, .null, .int (nI 0)]))) 20 (fun _ _ => 0)) 0 (.inr (8, [.ref 20, .null, .null, .null, .null, .null, .null, .null, .null, .null, .long (lN 0), .long (lN 0)]))) 40 (.inr (0, [.null, .null, .null, .null, .null, .null, .null, .int (nI 0)]))) 40 (fun _ _ => 0)) 0 (.inr (8, [.ref 20, .ref 40, .null, .null, .null, .null, .null, .null, .null, .null, .long (lN 0), .long (lN 0)]))) 15 (.inl (3, 2, .inr (.inr (.inr (.inr (fun _ => none))))))) 0 (.inr (8, [.ref 20, .ref 40, .ref 15, .null, .null, .null, .null, .null, .null, .null, .long (lN 0), .long (lN 0)]))) 1 (.inr (3, [.null, .null]))) 2 (mj_ar 25 (fun _ => 0))) 3 (mj_ar 25 (fun _ => 0))) 1 (.inr (3, [.ref 2, .ref 3]))) 0 (.inr (8, [.ref 20, .ref 40, .ref 15, .ref 1, .null, .null, .null, .null, .null, .null, .long (lN 0), .long (lN 0)]))) 4 (.inr (6, [.null, .null]))) 5 (mj_ar 25 (fun _ => 0))) 6 (mj_ar 25 (fun _ => 0))) 4 (.inr (6, [.ref 5, .ref 6]))) 0 (.inr (8, [.ref 20, .ref 40, .ref 15, .ref 1, .ref 4, .null, .null, .null, .null, .null, .long (lN 0), .long (lN 0)]))) 7 (.inr (4, [.null, .int (nI 0), .null, .null, .int (nI 0), .int (nI 0)]))) 8 (mj_ar 150 (fun _ => 0))) 9 (mj_ar 151 (fun _ => 0))) 10 (mj_ar 151 (fun _ => 0))) 7 (.inr (4, [.ref 8, .int (nI 0), .ref 9, .ref 10, .int (nI 0), .int (-1)]))) 0 (.inr (8, [.ref 20, .ref 40, .ref 15, .ref 1, .ref 4, .ref 7, .null, .null, .null, .null, .long (lN 0), .long (lN 0)]))) 11 (mj_ar 3 (fun _ => 0))) 0 (.inr (8, [.ref 20, .ref 40, .ref 15, .ref 1, .ref 4, .ref 7, .ref 11, .null, .null, .null, .long (lN 0), .long (lN 0)]))) 12 (mj_ar 6 (fun _ => 0))) 0 (.inr (8, [.ref 20, .ref 40, .ref 15, .ref 1, .ref 4, .ref 7, .ref 11, .ref 12, .null, .null, .long (lN 0), .long (lN 0)]))) 13 (mj_al64 100 (fun _ => 0))) 0 (.inr (8, [.ref 20, .ref 40, .ref 15, .ref 1, .ref 4, .ref 7, .ref 11, .ref 12, .ref 13, .null, .long (lN 0), .long (lN 0)]))) 14 (mj_al64 100 (fun _ => 0))) 0 (.inr (8, [.ref 20, .ref 40, .ref 15, .ref 1, .ref 4, .ref 7, .ref 11, .ref 12, .ref 13, .ref 14, .long (lN 0), .long (lN 0)]))) 0 (.inr (8, [.ref 20, .ref 40, .ref 15, .ref 1, .ref 4, .ref 7, .ref 11, .ref 12, .ref 13, .ref 14, .long (lN 0), .long (lN 0)]))) 0 (.inr (8, [.ref 20, .ref 40, .ref 15, .ref 1, .ref 4, .ref 7, .ref 11, .ref 12, .ref 13, .ref 14, .long (lN 0), .long (lN 1)])))
  exact gj_vret rfl dX10_init_108 ⟨Nat.le_of_ble_eq_true rfl, Nat.le_of_ble_eq_true rfl⟩ ⟨rfl, (by
      funext j
      by_cases q : j < 100
      · rw [if_pos q]
        exact match j, q with
        | 0, _ => rfl
        | 1, _ => rfl
        | 2, _ => rfl
        | 3, _ => rfl
        | 4, _ => rfl
        | 5, _ => rfl
        | 6, _ => rfl
        | 7, _ => rfl
        | 8, _ => rfl
        | 9, _ => rfl
        | 10, _ => rfl
        | 11, _ => rfl
        | 12, _ => rfl
        | 13, _ => rfl
        | 14, _ => rfl
        | 15, _ => by rw [hc15, mj_im_k0]; rfl
        | 16, _ => rfl
        | 17, _ => rfl
        | 18, _ => rfl
        | 19, _ => rfl
        | 20, _ => rfl
        | 21, _ => rfl
        | 22, _ => rfl
        | 23, _ => rfl
        | 24, _ => rfl
        | 25, _ => rfl
        | 26, _ => rfl
        | 27, _ => rfl
        | 28, _ => rfl
        | 29, _ => rfl
        | 30, _ => rfl
        | 31, _ => rfl
        | 32, _ => rfl
        | 33, _ => rfl
        | 34, _ => rfl
        | 35, _ => rfl
        | 36, _ => rfl
        | 37, _ => rfl
        | 38, _ => rfl
        | 39, _ => rfl
        | 40, _ => rfl
        | 41, _ => rfl
        | 42, _ => rfl
        | 43, _ => rfl
        | 44, _ => rfl
        | 45, _ => rfl
        | 46, _ => rfl
        | 47, _ => rfl
        | 48, _ => rfl
        | 49, _ => rfl
        | 50, _ => rfl
        | 51, _ => rfl
        | 52, _ => rfl
        | 53, _ => rfl
        | 54, _ => rfl
        | 55, _ => rfl
        | 56, _ => rfl
        | 57, _ => rfl
        | 58, _ => rfl
        | 59, _ => rfl
        | 60, _ => rfl
        | 61, _ => rfl
        | 62, _ => rfl
        | 63, _ => rfl
        | 64, _ => rfl
        | 65, _ => rfl
        | 66, _ => rfl
        | 67, _ => rfl
        | 68, _ => rfl
        | 69, _ => rfl
        | 70, _ => rfl
        | 71, _ => rfl
        | 72, _ => rfl
        | 73, _ => rfl
        | 74, _ => rfl
        | 75, _ => rfl
        | 76, _ => rfl
        | 77, _ => rfl
        | 78, _ => rfl
        | 79, _ => rfl
        | 80, _ => rfl
        | 81, _ => rfl
        | 82, _ => rfl
        | 83, _ => rfl
        | 84, _ => rfl
        | 85, _ => rfl
        | 86, _ => rfl
        | 87, _ => rfl
        | 88, _ => rfl
        | 89, _ => rfl
        | 90, _ => rfl
        | 91, _ => rfl
        | 92, _ => rfl
        | 93, _ => rfl
        | 94, _ => rfl
        | 95, _ => rfl
        | 96, _ => rfl
        | 97, _ => rfl
        | 98, _ => rfl
        | 99, _ => rfl
        | k + 100, q => absurd q (by omega)
      · rw [if_neg q]
        rw [mj_up_ne (by omega)]
        rw [mj_up_ne (by omega)]
        rw [mj_up_ne (by omega)]
        rw [mj_up_ne (by omega)]
        rw [mj_up_ne (by omega)]
        rw [mj_up_ne (by omega)]
        rw [mj_up_ne (by omega)]
        rw [mj_up_ne (by omega)]
        rw [mj_up_ne (by omega)]
        rw [mj_up_ne (by omega)]
        rw [mj_up_ne (by omega)]
        rw [mj_up_ne (by omega)]
        rw [mj_up_ne (by omega)]
        rw [mj_up_ne (by omega)]
        rw [mj_up_ne (by omega)]
        rw [mj_up_ne (by omega)]
        rw [mj_up_ne (by omega)]
        rw [mj_up_ne (by omega)]
        rw [mj_up_ne (by omega)]
        rw [mj_up_ne (by omega)]
        rw [mj_up_ne (by omega)]
        rw [mj_up_ne (by omega)]
        rw [mj_up_ne (by omega)]
        rw [mj_up_ne (by omega)]
        rw [mj_up_ne (by omega)]
        rw [mj_up_ne (by omega)]
        rw [mj_up_ne (by omega)]
        rw [mj_up_ne (by omega)]
        rw [mj_up_ne (by omega)]
        rw [mj_lay_out (by omega)]
        rw [mj_up_ne (by omega)]
        rw [mj_up_ne (by omega)]
        rw [mj_lay_out (by omega)]
        rw [mj_up_ne (by omega)]
        exact mj_up_ne (by omega))⟩
set_option maxHeartbeats 16000000 in
set_option maxRecDepth 10000 in
theorem ev_X11_init {E : mj_E}  : mj_Ev E iX11_init [.ref 100] (mj_up (fun j => if j < 100 then hh mj_k0 mj_C0 j else none) 100 (.inr (9, [.null, .null, .null, .null, .long (lN 0), .long (lN 0), .null, .null, .null, .int (nI 0), .int (nI 0), .int (nI 0), .int (nI 0), .int (nI 0), .null, .null]))) (mj_R none (hh mj_k0 mj_C0)) := by
  refine mj_Ev.of (L0 := [some (.ref 100)]) pnRX11 (Nat.le_of_ble_eq_true rfl) rfl ?_
  refine gj_aload_n dX11_init_0 rfl ?_
  refine gj_objN w_986 w_98 w_99 dX11_init_1 rfl rfl rfl ?_
  refine gj_aload_n dX11_init_4 rfl ?_
  refine gj_sp 362 dX11_init_5 (by decide) ?_
  refine gj_newiN (N := 362) (i := 101) w_120 (by decide) rfl rfl rfl dX11_init_8 ((mj_up_ne (by omega)).trans (if_neg (by omega))) (by omega) (mj_alC (mj_alS (mj_up_eq _ _ _)) mj_alN) (mj_stC (mj_alS (mj_up_eq _ _ _)) mj_stN) ?_
  refine pfX11_7 rfl (fun t ht => ht.2.2) dX11_init_10 ((mj_up_ne (by decide)).trans (mj_up_eq _ _ _)) (Nat.le_of_ble_eq_true rfl) (mj_alS (mj_up_eq _ _ _)) ?_
  show gj _ _ _ _ _ _ _ _ (mj_up (mj_up (mj_up (fun j => if j < 100 then hh mj_k0 mj_C0 j else none) 100 (.inr (9, [.null, .null, .null, .null, .long (lN 0), .long (lN 0), .null, .null, .null, .int (nI 0), .int (nI 0), .int (nI 0), .int (nI 0), .int (nI 0), .null, .null]))) 101 (mj_ar 362 (fun _ => 0))) 100 (.inr (9, [.ref 101, .null, .null, .null, .long (lN 0), .long (lN 0), .null, .null, .null, .int (nI 0), .int (nI 0), .int (nI 0), .int (nI 0), .int (nI 0), .null, .null])))
  refine gj_aload_n dX11_init_13 rfl ?_
  refine gj_sp 724 dX11_init_14 (by decide) ?_
  refine gj_newiN (N := 724) (i := 102) w_120 (by decide) rfl rfl rfl dX11_init_17 ((mj_up_ne (by omega)).trans ((mj_up_ne (by omega)).trans ((mj_up_ne (by omega)).trans (if_neg (by omega))))) (by omega) (mj_alC (mj_alS (mj_up_eq _ _ _)) mj_alN) (mj_stC (mj_alS (mj_up_eq _ _ _)) mj_stN) ?_
  refine pfX11_13 rfl (fun t ht => ht.2.2) dX11_init_19 ((mj_up_ne (by decide)).trans (mj_up_eq _ _ _)) (Nat.le_of_ble_eq_true rfl) (mj_alS (mj_up_eq _ _ _)) ?_
  show gj _ _ _ _ _ _ _ _ (mj_up (mj_up (mj_up (mj_up (mj_up (fun j => if j < 100 then hh mj_k0 mj_C0 j else none) 100 (.inr (9, [.null, .null, .null, .null, .long (lN 0), .long (lN 0), .null, .null, .null, .int (nI 0), .int (nI 0), .int (nI 0), .int (nI 0), .int (nI 0), .null, .null]))) 101 (mj_ar 362 (fun _ => 0))) 100 (.inr (9, [.ref 101, .null, .null, .null, .long (lN 0), .long (lN 0), .null, .null, .null, .int (nI 0), .int (nI 0), .int (nI 0), .int (nI 0), .int (nI 0), .null, .null]))) 102 (mj_ar 724 (fun _ => 0))) 100 (.inr (9, [.ref 101, .ref 102, .null, .null, .long (lN 0), .long (lN 0), .null, .null, .null, .int (nI 0), .int (nI 0), .int (nI 0), .int (nI 0), .int (nI 0), .null, .null])))
  refine gj_aload_n dX11_init_22 rfl ?_
  refine gj_ic (w := 2) dX11_init_23 ?_
  refine gj_newzN (i := 103) w_1039 rfl dX11_init_24 ((mj_up_ne (by omega)).trans ((mj_up_ne (by omega)).trans ((mj_up_ne (by omega)).trans ((mj_up_ne (by omega)).trans ((mj_up_ne (by omega)).trans (if_neg (by omega))))))) (by omega) (mj_alC (mj_alS (mj_up_eq _ _ _)) mj_alN) (mj_stC (mj_alS (mj_up_eq _ _ _)) mj_stN) ?_
  refine pfX11_16 rfl (fun t ht => ht.2.2) dX11_init_26 ((mj_up_ne (by decide)).trans (mj_up_eq _ _ _)) (Nat.le_of_ble_eq_true rfl) (mj_alS (mj_up_eq _ _ _)) ?_
  show gj _ _ _ _ _ _ _ _ (mj_up (mj_up (mj_up (mj_up (mj_up (mj_up (mj_up (fun j => if j < 100 then hh mj_k0 mj_C0 j else none) 100 (.inr (9, [.null, .null, .null, .null, .long (lN 0), .long (lN 0), .null, .null, .null, .int (nI 0), .int (nI 0), .int (nI 0), .int (nI 0), .int (nI 0), .null, .null]))) 101 (mj_ar 362 (fun _ => 0))) 100 (.inr (9, [.ref 101, .null, .null, .null, .long (lN 0), .long (lN 0), .null, .null, .null, .int (nI 0), .int (nI 0), .int (nI 0), .int (nI 0), .int (nI 0), .null, .null]))) 102 (mj_ar 724 (fun _ => 0))) 100 (.inr (9, [.ref 101, .ref 102, .null, .null, .long (lN 0), .long (lN 0), .null, .null, .null, .int (nI 0), .int (nI 0), .int (nI 0), .int (nI 0), .int (nI 0), .null, .null]))) 103 (mj_br (fun _ => 0))) 100 (.inr (9, [.ref 101, .ref 102, .ref 103, .null, .long (lN 0), .long (lN 0), .null, .null, .null, .int (nI 0), .int (nI 0), .int (nI 0), .int (nI 0), .int (nI 0), .null, .null])))
  refine gj_aload_n dX11_init_29 rfl ?_
  refine gj_ic (w := 3) dX11_init_30 ?_
  refine gj_newiN (N := 3) (i := 104) w_120 (by decide) rfl rfl rfl dX11_init_31 ((mj_up_ne (by omega)).trans ((mj_up_ne (by omega)).trans ((mj_up_ne (by omega)).trans ((mj_up_ne (by omega)).trans ((mj_up_ne (by omega)).trans ((mj_up_ne (by omega)).trans ((mj_up_ne (by omega)).trans (if_neg (by omega))))))))) (by omega) (mj_alC (mj_alS (mj_up_eq _ _ _)) mj_alN) (mj_stC (mj_alS (mj_up_eq _ _ _)) mj_stN) ?_
  refine pfX11_20 rfl (fun t ht => ht.2.2) dX11_init_33 ((mj_up_ne (by decide)).trans (mj_up_eq _ _ _)) (Nat.le_of_ble_eq_true rfl) (mj_alS (mj_up_eq _ _ _)) ?_
  show gj _ _ _ _ _ _ _ _ (mj_up (mj_up (mj_up (mj_up (mj_up (mj_up (mj_up (mj_up (mj_up (fun j => if j < 100 then hh mj_k0 mj_C0 j else none) 100 (.inr (9, [.null, .null, .null, .null, .long (lN 0), .long (lN 0), .null, .null, .null, .int (nI 0), .int (nI 0), .int (nI 0), .int (nI 0), .int (nI 0), .null, .null]))) 101 (mj_ar 362 (fun _ => 0))) 100 (.inr (9, [.ref 101, .null, .null, .null, .long (lN 0), .long (lN 0), .null, .null, .null, .int (nI 0), .int (nI 0), .int (nI 0), .int (nI 0), .int (nI 0), .null, .null]))) 102 (mj_ar 724 (fun _ => 0))) 100 (.inr (9, [.ref 101, .ref 102, .null, .null, .long (lN 0), .long (lN 0), .null, .null, .null, .int (nI 0), .int (nI 0), .int (nI 0), .int (nI 0), .int (nI 0), .null, .null]))) 103 (mj_br (fun _ => 0))) 100 (.inr (9, [.ref 101, .ref 102, .ref 103, .null, .long (lN 0), .long (lN 0), .null, .null, .null, .int (nI 0), .int (nI 0), .int (nI 0), .int (nI 0), .int (nI 0), .null, .null]))) 104 (mj_ar 3 (fun _ => 0))) 100 (.inr (9, [.ref 101, .ref 102, .ref 103, .ref 104, .long (lN 0), .long (lN 0), .null, .null, .null, .int (nI 0), .int (nI 0), .int (nI 0), .int (nI 0), .int (nI 0), .null, .null])))
  refine gj_aload_n dX11_init_36 rfl ?_
  refine gj_lconst (v := lN 1) dX11_init_37 rfl ?_
  refine pfX11_23 rfl dX11_init_38 (mj_up_eq _ _ _) (Nat.le_of_ble_eq_true rfl) ?_
  show gj _ _ _ _ _ _ _ _ (mj_up (mj_up (mj_up (mj_up (mj_up (mj_up (mj_up (mj_up (mj_up (mj_up (fun j => if j < 100 then hh mj_k0 mj_C0 j else none) 100 (.inr (9, [.null, .null, .null, .null, .long (lN 0), .long (lN 0), .null, .null, .null, .int (nI 0), .int (nI 0), .int (nI 0), .int (nI 0), .int (nI 0), .null, .null]))) 101 (mj_ar 362 (fun _ => 0))) 100 (.inr (9, [.ref 101, .null, .null, .null, .long (lN 0), .long (lN 0), .null, .null, .null, .int (nI 0), .int (nI 0), .int (nI 0), .int (nI 0), .int (nI 0), .null, .null]))) 102 (mj_ar 724 (fun _ => 0))) 100 (.inr (9, [.ref 101, .ref 102, .null, .null, .long (lN 0), .long (lN 0), .null, .null, .null, .int (nI 0), .int (nI 0), .int (nI 0), .int (nI 0), .int (nI 0), .null, .null]))) 103 (mj_br (fun _ => 0))) 100 (.inr (9, [.ref 101, .ref 102, .ref 103, .null, .long (lN 0), .long (lN 0), .null, .null, .null, .int (nI 0), .int (nI 0), .int (nI 0), .int (nI 0), .int (nI 0), .null, .null]))) 104 (mj_ar 3 (fun _ => 0))) 100 (.inr (9, [.ref 101, .ref 102, .ref 103, .ref 104, .long (lN 0), .long (lN 0), .null, .null, .null, .int (nI 0), .int (nI 0), .int (nI 0), .int (nI 0), .int (nI 0), .null, .null]))) 100 (.inr (9, [.ref 101, .ref 102, .ref 103, .ref 104, .long (lN 0), .long (lN 1), .null, .null, .null, .int (nI 0), .int (nI 0), .int (nI 0), .int (nI 0), .int (nI 0), .null, .null])))
  refine gj_aload_n dX11_init_41 rfl ?_
  refine gj_bp 25 dX11_init_42 (by decide) ?_
  refine gj_newiN (N := 25) (i := 105) w_120 (by decide) rfl rfl rfl dX11_init_44 ((mj_up_ne (by omega)).trans ((mj_up_ne (by omega)).trans ((mj_up_ne (by omega)).trans ((mj_up_ne (by omega)).trans ((mj_up_ne (by omega)).trans ((mj_up_ne (by omega)).trans ((mj_up_ne (by omega)).trans ((mj_up_ne (by omega)).trans ((mj_up_ne (by omega)).trans ((mj_up_ne (by omega)).trans (if_neg (by omega)))))))))))) (by omega) (mj_alC (mj_alS (mj_up_eq _ _ _)) mj_alN) (mj_stC (mj_alS (mj_up_eq _ _ _)) mj_stN) ?_
  refine pfX11_27 rfl (fun t ht => ht.2.2) dX11_init_46 ((mj_up_ne (by decide)).trans (mj_up_eq _ _ _)) (Nat.le_of_ble_eq_true rfl) (mj_alS (mj_up_eq _ _ _)) ?_
  show gj _ _ _ _ _ _ _ _ (mj_up (mj_up (mj_up (mj_up (mj_up (mj_up (mj_up (mj_up (mj_up (mj_up (mj_up (mj_up (fun j => if j < 100 then hh mj_k0 mj_C0 j else none) 100 (.inr (9, [.null, .null, .null, .null, .long (lN 0), .long (lN 0), .null, .null, .null, .int (nI 0), .int (nI 0), .int (nI 0), .int (nI 0), .int (nI 0), .null, .null]))) 101 (mj_ar 362 (fun _ => 0))) 100 (.inr (9, [.ref 101, .null, .null, .null, .long (lN 0), .long (lN 0), .null, .null, .null, .int (nI 0), .int (nI 0), .int (nI 0), .int (nI 0), .int (nI 0), .null, .null]))) 102 (mj_ar 724 (fun _ => 0))) 100 (.inr (9, [.ref 101, .ref 102, .null, .null, .long (lN 0), .long (lN 0), .null, .null, .null, .int (nI 0), .int (nI 0), .int (nI 0), .int (nI 0), .int (nI 0), .null, .null]))) 103 (mj_br (fun _ => 0))) 100 (.inr (9, [.ref 101, .ref 102, .ref 103, .null, .long (lN 0), .long (lN 0), .null, .null, .null, .int (nI 0), .int (nI 0), .int (nI 0), .int (nI 0), .int (nI 0), .null, .null]))) 104 (mj_ar 3 (fun _ => 0))) 100 (.inr (9, [.ref 101, .ref 102, .ref 103, .ref 104, .long (lN 0), .long (lN 0), .null, .null, .null, .int (nI 0), .int (nI 0), .int (nI 0), .int (nI 0), .int (nI 0), .null, .null]))) 100 (.inr (9, [.ref 101, .ref 102, .ref 103, .ref 104, .long (lN 0), .long (lN 1), .null, .null, .null, .int (nI 0), .int (nI 0), .int (nI 0), .int (nI 0), .int (nI 0), .null, .null]))) 105 (mj_ar 25 (fun _ => 0))) 100 (.inr (9, [.ref 101, .ref 102, .ref 103, .ref 104, .long (lN 0), .long (lN 1), .ref 105, .null, .null, .int (nI 0), .int (nI 0), .int (nI 0), .int (nI 0), .int (nI 0), .null, .null])))
  refine gj_aload_n dX11_init_49 rfl ?_
  refine gj_bp 25 dX11_init_50 (by decide) ?_
  refine gj_newiN (N := 25) (i := 106) w_120 (by decide) rfl rfl rfl dX11_init_52 ((mj_up_ne (by omega)).trans ((mj_up_ne (by omega)).trans ((mj_up_ne (by omega)).trans ((mj_up_ne (by omega)).trans ((mj_up_ne (by omega)).trans ((mj_up_ne (by omega)).trans ((mj_up_ne (by omega)).trans ((mj_up_ne (by omega)).trans ((mj_up_ne (by omega)).trans ((mj_up_ne (by omega)).trans ((mj_up_ne (by omega)).trans ((mj_up_ne (by omega)).trans (if_neg (by omega)))))))))))))) (by omega) (mj_alC (mj_alS (mj_up_eq _ _ _)) mj_alN) (mj_stC (mj_alS (mj_up_eq _ _ _)) mj_stN) ?_
  refine pfX11_30 rfl (fun t ht => ht.2.2) dX11_init_54 ((mj_up_ne (by decide)).trans (mj_up_eq _ _ _)) (Nat.le_of_ble_eq_true rfl) (mj_alS (mj_up_eq _ _ _)) ?_
  show gj _ _ _ _ _ _ _ _ (mj_up (mj_up (mj_up (mj_up (mj_up (mj_up (mj_up (mj_up (mj_up (mj_up (mj_up (mj_up (mj_up (mj_up (fun j => if j < 100 then hh mj_k0 mj_C0 j else none) 100 (.inr (9, [.null, .null, .null, .null, .long (lN 0), .long (lN 0), .null, .null, .null, .int (nI 0), .int (nI 0), .int (nI 0), .int (nI 0), .int (nI 0), .null, .null]))) 101 (mj_ar 362 (fun _ => 0))) 100 (.inr (9, [.ref 101, .null, .null, .null, .long (lN 0), .long (lN 0), .null, .null, .null, .int (nI 0), .int (nI 0), .int (nI 0), .int (nI 0), .int (nI 0), .null, .null]))) 102 (mj_ar 724 (fun _ => 0))) 100 (.inr (9, [.ref 101, .ref 102, .null, .null, .long (lN 0), .long (lN 0), .null, .null, .null, .int (nI 0), .int (nI 0), .int (nI 0), .int (nI 0), .int (nI 0), .null, .null]))) 103 (mj_br (fun _ => 0))) 100 (.inr (9, [.ref 101, .ref 102, .ref 103, .null, .long (lN 0), .long (lN 0), .null, .null, .null, .int (nI 0), .int (nI 0), .int (nI 0), .int (nI 0), .int (nI 0), .null, .null]))) 104 (mj_ar 3 (fun _ => 0))) 100 (.inr (9, [.ref 101, .ref 102, .ref 103, .ref 104, .long (lN 0), .long (lN 0), .null, .null, .null, .int (nI 0), .int (nI 0), .int (nI 0), .int (nI 0), .int (nI 0), .null, .null]))) 100 (.inr (9, [.ref 101, .ref 102, .ref 103, .ref 104, .long (lN 0), .long (lN 1), .null, .null, .null, .int (nI 0), .int (nI 0), .int (nI 0), .int (nI 0), .int (nI 0), .null, .null]))) 105 (mj_ar 25 (fun _ => 0))) 100 (.inr (9, [.ref 101, .ref 102, .ref 103, .ref 104, .long (lN 0), .long (lN 1), .ref 105, .null, .null, .int (nI 0), .int (nI 0), .int (nI 0), .int (nI 0), .int (nI 0), .null, .null]))) 106 (mj_ar 25 (fun _ => 0))) 100 (.inr (9, [.ref 101, .ref 102, .ref 103, .ref 104, .long (lN 0), .long (lN 1), .ref 105, .ref 106, .null, .int (nI 0), .int (nI 0), .int (nI 0), .int (nI 0), .int (nI 0), .null, .null])))
  refine gj_aload_n dX11_init_57 rfl ?_
  refine gj_sp 150 dX11_init_58 (by decide) ?_
  refine gj_newiN (N := 150) (i := 107) w_120 (by decide) rfl rfl rfl dX11_init_61 ((mj_up_ne (by omega)).trans ((mj_up_ne (by omega)).trans ((mj_up_ne (by omega)).trans ((mj_up_ne (by omega)).trans ((mj_up_ne (by omega)).trans ((mj_up_ne (by omega)).trans ((mj_up_ne (by omega)).trans ((mj_up_ne (by omega)).trans ((mj_up_ne (by omega)).trans ((mj_up_ne (by omega)).trans ((mj_up_ne (by omega)).trans ((mj_up_ne (by omega)).trans ((mj_up_ne (by omega)).trans ((mj_up_ne (by omega)).trans (if_neg (by omega)))))))))))))))) (by omega) (mj_alC (mj_alS (mj_up_eq _ _ _)) mj_alN) (mj_stC (mj_alS (mj_up_eq _ _ _)) mj_stN) ?_
  refine pfX11_33 rfl (fun t ht => ht.2.2) dX11_init_63 ((mj_up_ne (by decide)).trans (mj_up_eq _ _ _)) (Nat.le_of_ble_eq_true rfl) (mj_alS (mj_up_eq _ _ _)) ?_
  show gj _ _ _ _ _ _ _ _ (mj_up (mj_up (mj_up (mj_up (mj_up (mj_up (mj_up (mj_up (mj_up (mj_up (mj_up (mj_up (mj_up (mj_up (mj_up (mj_up (fun j => if j < 100 then hh mj_k0 mj_C0 j else none) 100 (.inr (9, [.null, .null, .null, .null, .long (lN 0), .long (lN 0), .null, .null, .null, .int (nI 0), .int (nI 0), .int (nI 0), .int (nI 0), .int (nI 0), .null, .null]))) 101 (mj_ar 362 (fun _ => 0))) 100 (.inr (9, [.ref 101, .null, .null, .null, .long (lN 0), .long (lN 0), .null, .null, .null, .int (nI 0), .int (nI 0), .int (nI 0), .int (nI 0), .int (nI 0), .null, .null]))) 102 (mj_ar 724 (fun _ => 0))) 100 (.inr (9, [.ref 101, .ref 102, .null, .null, .long (lN 0), .long (lN 0), .null, .null, .null, .int (nI 0), .int (nI 0), .int (nI 0), .int (nI 0), .int (nI 0), .null, .null]))) 103 (mj_br (fun _ => 0))) 100 (.inr (9, [.ref 101, .ref 102, .ref 103, .null, .long (lN 0), .long (lN 0), .null, .null, .null, .int (nI 0), .int (nI 0), .int (nI 0), .int (nI 0), .int (nI 0), .null, .null]))) 104 (mj_ar 3 (fun _ => 0))) 100 (.inr (9, [.ref 101, .ref 102, .ref 103, .ref 104, .long (lN 0), .long (lN 0), .null, .null, .null, .int (nI 0), .int (nI 0), .int (nI 0), .int (nI 0), .int (nI 0), .null, .null]))) 100 (.inr (9, [.ref 101, .ref 102, .ref 103, .ref 104, .long (lN 0), .long (lN 1), .null, .null, .null, .int (nI 0), .int (nI 0), .int (nI 0), .int (nI 0), .int (nI 0), .null, .null]))) 105 (mj_ar 25 (fun _ => 0))) 100 (.inr (9, [.ref 101, .ref 102, .ref 103, .ref 104, .long (lN 0), .long (lN 1), .ref 105, .null, .null, .int (nI 0), .int (nI 0), .int (nI 0), .int (nI 0), .int (nI 0), .null, .null]))) 106 (mj_ar 25 (fun _ => 0))) 100 (.inr (9, [.ref 101, .ref 102, .ref 103, .ref 104, .long (lN 0), .long (lN 1), .ref 105, .ref 106, .null, .int (nI 0), .int (nI 0), .int (nI 0), .int (nI 0), .int (nI 0), .null, .null]))) 107 (mj_ar 150 (fun _ => 0))) 100 (.inr (9, [.ref 101, .ref 102, .ref 103, .ref 104, .long (lN 0), .long (lN 1), .ref 105, .ref 106, .ref 107, .int (nI 0), .int (nI 0), .int (nI 0), .int (nI 0), .int (nI 0), .null, .null])))
  refine gj_aload_n dX11_init_66 rfl ?_
  refine gj_sp 154 dX11_init_67 (by decide) ?_
  refine gj_newiN (N := 154) (i := 108) w_120 (by decide) rfl rfl rfl dX11_init_70 ((mj_up_ne (by omega)).trans ((mj_up_ne (by omega)).trans ((mj_up_ne (by omega)).trans ((mj_up_ne (by omega)).trans ((mj_up_ne (by omega)).trans ((mj_up_ne (by omega)).trans ((mj_up_ne (by omega)).trans ((mj_up_ne (by omega)).trans ((mj_up_ne (by omega)).trans ((mj_up_ne (by omega)).trans ((mj_up_ne (by omega)).trans ((mj_up_ne (by omega)).trans ((mj_up_ne (by omega)).trans ((mj_up_ne (by omega)).trans ((mj_up_ne (by omega)).trans ((mj_up_ne (by omega)).trans (if_neg (by omega)))))))))))))))))) (by omega) (mj_alC (mj_alS (mj_up_eq _ _ _)) mj_alN) (mj_stC (mj_alS (mj_up_eq _ _ _)) mj_stN) ?_
  refine pfX11_36 rfl (fun t ht => ht.2.2) dX11_init_72 ((mj_up_ne (by decide)).trans (mj_up_eq _ _ _)) (Nat.le_of_ble_eq_true rfl) (mj_alS (mj_up_eq _ _ _)) ?_
  show gj _ _ _ _ _ _ _ _ (mj_up (mj_up (mj_up (mj_up (mj_up (mj_up (mj_up (mj_up (mj_up (mj_up (mj_up (mj_up (mj_up (mj_up (mj_up (mj_up (mj_up (mj_up (fun j => if j < 100 then hh mj_k0 mj_C0 j else none) 100 (.inr (9, [.null, .null, .null, .null, .long (lN 0), .long (lN 0), .null, .null, .null, .int (nI 0), .int (nI 0), .int (nI 0), .int (nI 0), .int (nI 0), .null, .null]))) 101 (mj_ar 362 (fun _ => 0))) 100 (.inr (9, [.ref 101, .null, .null, .null, .long (lN 0), .long (lN 0), .null, .null, .null, .int (nI 0), .int (nI 0), .int (nI 0), .int (nI 0), .int (nI 0), .null, .null]))) 102 (mj_ar 724 (fun _ => 0))) 100 (.inr (9, [.ref 101, .ref 102, .null, .null, .long (lN 0), .long (lN 0), .null, .null, .null, .int (nI 0), .int (nI 0), .int (nI 0), .int (nI 0), .int (nI 0), .null, .null]))) 103 (mj_br (fun _ => 0))) 100 (.inr (9, [.ref 101, .ref 102, .ref 103, .null, .long (lN 0), .long (lN 0), .null, .null, .null, .int (nI 0), .int (nI 0), .int (nI 0), .int (nI 0), .int (nI 0), .null, .null]))) 104 (mj_ar 3 (fun _ => 0))) 100 (.inr (9, [.ref 101, .ref 102, .ref 103, .ref 104, .long (lN 0), .long (lN 0), .null, .null, .null, .int (nI 0), .int (nI 0), .int (nI 0), .int (nI 0), .int (nI 0), .null, .null]))) 100 (.inr (9, [.ref 101, .ref 102, .ref 103, .ref 104, .long (lN 0), .long (lN 1), .null, .null, .null, .int (nI 0), .int (nI 0), .int (nI 0), .int (nI 0), .int (nI 0), .null, .null]))) 105 (mj_ar 25 (fun _ => 0))) 100 (.inr (9, [.ref 101, .ref 102, .ref 103, .ref 104, .long (lN 0), .long (lN 1), .ref 105, .null, .null, .int (nI 0), .int (nI 0), .int (nI 0), .int (nI 0), .int (nI 0), .null, .null]))) 106 (mj_ar 25 (fun _ => 0))) 100 (.inr (9, [.ref 101, .ref 102, .ref 103, .ref 104, .long (lN 0), .long (lN 1), .ref 105, .ref 106, .null, .int (nI 0), .int (nI 0), .int (nI 0), .int (nI 0), .int (nI 0), .null, .null]))) 107 (mj_ar 150 (fun _ => 0))) 100 (.inr (9, [.ref 101, .ref 102, .ref 103, .ref 104, .long (lN 0), .long (lN 1), .ref 105, .ref 106, .ref 107, .int (nI 0), .int (nI 0), .int (nI 0), .int (nI 0), .int (nI 0), .null, .null]))) 108 (mj_ar 154 (fun _ => 0))) 100 (.inr (9, [.ref 101, .ref 102, .ref 103, .ref 104, .long (lN 0), .long (lN 1), .ref 105, .ref 106, .ref 107, .int (nI 0), .int (nI 0), .int (nI 0), .int (nI 0), .int (nI 0), .ref 108, .null])))
  refine gj_aload_n dX11_init_75 rfl ?_
  refine gj_ic (w := 3) dX11_init_76 ?_
  refine gj_newiN (N := 3) (i := 109) w_120 (by decide) rfl rfl rfl dX11_init_77 ((mj_up_ne (by omega)).trans ((mj_up_ne (by omega)).trans ((mj_up_ne (by omega)).trans ((mj_up_ne (by omega)).trans ((mj_up_ne (by omega)).trans ((mj_up_ne (by omega)).trans ((mj_up_ne (by omega)).trans ((mj_up_ne (by omega)).trans ((mj_up_ne (by omega)).trans ((mj_up_ne (by omega)).trans ((mj_up_ne (by omega)).trans ((mj_up_ne (by omega)).trans ((mj_up_ne (by omega)).trans ((mj_up_ne (by omega)).trans ((mj_up_ne (by omega)).trans ((mj_up_ne (by omega)).trans ((mj_up_ne (by omega)).trans ((mj_up_ne (by omega)).trans (if_neg (by omega)))))))))))))))))))) (by omega) (mj_alC (mj_alS (mj_up_eq _ _ _)) mj_alN) (mj_stC (mj_alS (mj_up_eq _ _ _)) mj_stN) ?_
  refine pfX11_39 rfl (fun t ht => ht.2.2) dX11_init_79 ((mj_up_ne (by decide)).trans (mj_up_eq _ _ _)) (Nat.le_of_ble_eq_true rfl) (mj_alS (mj_up_eq _ _ _)) ?_
  show gj _ _ _ _ _ _ _ _ (mj_up (mj_up (mj_up (mj_up (mj_up (mj_up (mj_up (mj_up (mj_up (mj_up (mj_up (mj_up (mj_up (mj_up (mj_up (mj_up (mj_up (mj_up (mj_up (mj_up (fun j => if j < 100 then hh mj_k0 mj_C0 j else none) 100 (.inr (9, [.null, .null, .null, .null, .long (lN 0), .long (lN 0), .null, .null, .null, .int (nI 0), .int (nI 0), .int (nI 0), .int (nI 0), .int (nI 0), .null, .null]))) 101 (mj_ar 362 (fun _ => 0))) 100 (.inr (9, [.ref 101, .null, .null, .null, .long (lN 0), .long (lN 0), .null, .null, .null, .int (nI 0), .int (nI 0), .int (nI 0), .int (nI 0), .int (nI 0), .null, .null]))) 102 (mj_ar 724 (fun _ => 0))) 100 (.inr (9, [.ref 101, .ref 102, .null, .null, .long (lN 0), .long (lN 0), .null, .null, .null, .int (nI 0), .int (nI 0), .int (nI 0), .int (nI 0), .int (nI 0), .null, .null]))) 103 (mj_br (fun _ => 0))) 100 (.inr (9, [.ref 101, .ref 102, .ref 103, .null, .long (lN 0), .long (lN 0), .null, .null, .null, .int (nI 0), .int (nI 0), .int (nI 0), .int (nI 0), .int (nI 0), .null, .null]))) 104 (mj_ar 3 (fun _ => 0))) 100 (.inr (9, [.ref 101, .ref 102, .ref 103, .ref 104, .long (lN 0), .long (lN 0), .null, .null, .null, .int (nI 0), .int (nI 0), .int (nI 0), .int (nI 0), .int (nI 0), .null, .null]))) 100 (.inr (9, [.ref 101, .ref 102, .ref 103, .ref 104, .long (lN 0), .long (lN 1), .null, .null, .null, .int (nI 0), .int (nI 0), .int (nI 0), .int (nI 0), .int (nI 0), .null, .null]))) 105 (mj_ar 25 (fun _ => 0))) 100 (.inr (9, [.ref 101, .ref 102, .ref 103, .ref 104, .long (lN 0), .long (lN 1), .ref 105, .null, .null, .int (nI 0), .int (nI 0), .int (nI 0), .int (nI 0), .int (nI 0), .null, .null]))) 106 (mj_ar 25 (fun _ => 0))) 100 (.inr (9, [.ref 101, .ref 102, .ref 103, .ref 104, .long (lN 0), .long (lN 1), .ref 105, .ref 106, .null, .int (nI 0), .int (nI 0), .int (nI 0), .int (nI 0), .int (nI 0), .null, .null]))) 107 (mj_ar 150 (fun _ => 0))) 100 (.inr (9, [.ref 101, .ref 102, .ref 103, .ref 104, .long (lN 0), .long (lN 1), .ref 105, .ref 106, .ref 107, .int (nI 0), .int (nI 0), .int (nI 0), .int (nI 0), .int (nI 0), .null, .null]))) 108 (mj_ar 154 (fun _ => 0))) 100 (.inr (9, [.ref 101, .ref 102, .ref 103, .ref 104, .long (lN 0), .long (lN 1), .ref 105, .ref 106, .ref 107, .int (nI 0), .int (nI 0), .int (nI 0), .int (nI 0), .int (nI 0), .ref 108, .null]))) 109 (mj_ar 3 (fun _ => 0))) 100 (.inr (9, [.ref 101, .ref 102, .ref 103, .ref 104, .long (lN 0), .long (lN 1), .ref 105, .ref 106, .ref 107, .int (nI 0), .int (nI 0), .int (nI 0), .int (nI 0), .int (nI 0), .ref 108, .ref 109])))
  refine gj_aload_n dX11_init_82 rfl ?_
  refine gfX11_7 rfl dX11_init_83 (mj_up_eq _ _ _) rfl ?_
  refine gj_ic (w := 0) dX11_init_86 ?_
  refine gj_S0 lkX11_42 (ev_X11_begin ((mj_up_ne (by decide)).trans ((mj_up_ne (by decide)).trans ((mj_up_ne (by decide)).trans ((mj_up_ne (by decide)).trans ((mj_up_ne (by decide)).trans ((mj_up_ne (by decide)).trans ((mj_up_ne (by decide)).trans ((mj_up_ne (by decide)).trans ((mj_up_ne (by decide)).trans ((mj_up_ne (by decide)).trans ((mj_up_ne (by decide)).trans ((mj_up_ne (by decide)).trans ((mj_up_ne (by decide)).trans ((mj_up_ne (by decide)).trans ((mj_up_ne (by decide)).trans ((mj_up_ne (by decide)).trans ((mj_up_ne (by decide)).trans ((mj_up_ne (by decide)).trans (mj_up_eq _ _ _))))))))))))))))))) (by omega) (by omega)) dX11_init_87 rfl rfl rfl rfl rfl ?_
  exact gj_vret rfl dX11_init_90 ⟨Nat.le_of_ble_eq_true rfl, Nat.le_of_ble_eq_true rfl⟩ ⟨rfl, (by
      funext j
      by_cases q : j < 100
      · rw [mj_up_ne (by omega)]
        rw [mj_up_ne (by omega)]
        rw [mj_up_ne (by omega)]
        rw [mj_up_ne (by omega)]
        rw [mj_up_ne (by omega)]
        rw [mj_up_ne (by omega)]
        rw [mj_up_ne (by omega)]
        rw [mj_up_ne (by omega)]
        rw [mj_up_ne (by omega)]
        rw [mj_up_ne (by omega)]
        rw [mj_up_ne (by omega)]
        rw [mj_up_ne (by omega)]
        rw [mj_up_ne (by omega)]
        rw [mj_up_ne (by omega)]
        rw [mj_up_ne (by omega)]
        rw [mj_up_ne (by omega)]
        rw [mj_up_ne (by omega)]
        rw [mj_up_ne (by omega)]
        rw [mj_up_ne (by omega)]
        rw [mj_up_ne (by omega)]
        rw [mj_up_ne (by omega), if_pos q]
      · obtain ⟨k, rfl⟩ : ∃ k, j = k + 100 := ⟨j - 100, by omega⟩
        exact match k with
        | 0 => rfl
        | 1 => rfl
        | 2 => rfl
        | 3 => rfl
        | 4 => rfl
        | 5 => rfl
        | 6 => rfl
        | 7 => rfl
        | 8 => rfl
        | 9 => rfl
        | k + 10 => by
          rw [mj_up_ne (by omega)]
          rw [mj_up_ne (by omega)]
          rw [mj_up_ne (by omega)]
          rw [mj_up_ne (by omega)]
          rw [mj_up_ne (by omega)]
          rw [mj_up_ne (by omega)]
          rw [mj_up_ne (by omega)]
          rw [mj_up_ne (by omega)]
          rw [mj_up_ne (by omega)]
          rw [mj_up_ne (by omega)]
          rw [mj_up_ne (by omega)]
          rw [mj_up_ne (by omega)]
          rw [mj_up_ne (by omega)]
          rw [mj_up_ne (by omega)]
          rw [mj_up_ne (by omega)]
          rw [mj_up_ne (by omega)]
          rw [mj_up_ne (by omega)]
          rw [mj_up_ne (by omega)]
          rw [mj_up_ne (by omega)]
          rw [mj_up_ne (by omega)]
          rw [mj_up_ne (by omega), if_neg (by omega)]
          unfold hh
          rw [if_neg (by omega), if_neg (by omega), if_neg (by omega), if_neg (by omega), if_neg (by omega), if_neg (by omega), if_neg (by omega), if_neg (by omega), if_neg (by omega), show k + 10 + 100 - 100 = k + 10 by omega]
          rfl)⟩
