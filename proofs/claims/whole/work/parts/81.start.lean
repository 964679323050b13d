def lw_tm (i : Nat) : Term := if i = 0 then Term.string "IceVote$Text" 133 else if i = 1 then Term.string "IceVote$Text" 139 else if i = 2 then Term.string "IceVote$Text" 141 else Term.string "IceVote$Text" 142
theorem lw_four {P : Nat → Prop} (p0 : P 0) (p1 : P 1) (p2 : P 2) (p3 : P 3) : ∀ i, i < 4 → P i := by
  intro i hi
  rcases (by omega : i = 0 ∨ i = 1 ∨ i = 2 ∨ i = 3) with rfl | rfl | rfl | rfl
  · exact p0
  · exact p1
  · exact p2
  · exact p3
set_option maxHeartbeats 4000000 in
theorem lw_str {b : Addr} {s : State} {A : Nat → Prop} (hgv : (Jvm.Cond.and given_1 narrow_1).before #[Value.ref b] s = true) (hts : ∀ w ∈ lw_tbl, w.before #[Value.ref b] s = true) (hA : ∀ a : Nat, a < s.heap.size → ¬ A a) :
    ∃ dK dV : Nat → Nat, vk_S 4 mj_slen mj_sbyt dK dV A s s.heap ∧ (vk_R "IceVote$Text" 133 "lake" (dK 0) s ∧ vk_R "IceVote$Text" 139 "cell" (dK 1) s ∧ vk_R "IceVote$Text" 141 "week" (dK 2) s ∧ vk_R "IceVote$Text" 142 "voter" (dK 3) s) := by
  have hs := flat_of_before _ hgv
  obtain ⟨dK, dV, h1, h2⟩ := vk_Sof (args := #[Value.ref b]) (s := s) (N := 4) (tm := lw_tm) (len := mj_slen) (byt := mj_sbyt) (A := A) (lw_four (by decide) (by decide) (by decide) (by decide))
    (lw_four (hs (Cond.exactly (Term.string "IceVote$Text" 133) "java/lang/String") (by decide +kernel)) (hs (Cond.exactly (Term.string "IceVote$Text" 139) "java/lang/String") (by decide +kernel)) (hs (Cond.exactly (Term.string "IceVote$Text" 141) "java/lang/String") (by decide +kernel)) (hs (Cond.exactly (Term.string "IceVote$Text" 142) "java/lang/String") (by decide +kernel)))
    (lw_four (hs (Cond.eq (Term.field (Term.string "IceVote$Text" 133) "java/lang/String" "coder" "B") (.int 0)) (by decide +kernel)) (hs (Cond.eq (Term.field (Term.string "IceVote$Text" 139) "java/lang/String" "coder" "B") (.int 0)) (by decide +kernel)) (hs (Cond.eq (Term.field (Term.string "IceVote$Text" 141) "java/lang/String" "coder" "B") (.int 0)) (by decide +kernel)) (hs (Cond.eq (Term.field (Term.string "IceVote$Text" 142) "java/lang/String" "coder" "B") (.int 0)) (by decide +kernel)))
    (lw_four (hs (Cond.arrayOf (Term.field (Term.string "IceVote$Text" 133) "java/lang/String" "value" "[B") .byte) (by decide +kernel)) (hs (Cond.arrayOf (Term.field (Term.string "IceVote$Text" 139) "java/lang/String" "value" "[B") .byte) (by decide +kernel)) (hs (Cond.arrayOf (Term.field (Term.string "IceVote$Text" 141) "java/lang/String" "value" "[B") .byte) (by decide +kernel)) (hs (Cond.arrayOf (Term.field (Term.string "IceVote$Text" 142) "java/lang/String" "value" "[B") .byte) (by decide +kernel)))
    (lw_four (hs (Cond.eq (.length (Term.field (Term.string "IceVote$Text" 133) "java/lang/String" "value" "[B")) (.int 4)) (by decide +kernel)) (hs (Cond.eq (.length (Term.field (Term.string "IceVote$Text" 139) "java/lang/String" "value" "[B")) (.int 4)) (by decide +kernel)) (hs (Cond.eq (.length (Term.field (Term.string "IceVote$Text" 141) "java/lang/String" "value" "[B")) (.int 4)) (by decide +kernel)) (hs (Cond.eq (.length (Term.field (Term.string "IceVote$Text" 142) "java/lang/String" "value" "[B")) (.int 5)) (by decide +kernel)))
    (lw_four
      (fun j hj => by
      rcases (by have : j < 4 := hj; omega : j = 0 ∨ j = 1 ∨ j = 2 ∨ j = 3) with rfl | rfl | rfl | rfl
      · exact hs (Cond.eq (.elem (Term.field (Term.string "IceVote$Text" 133) "java/lang/String" "value" "[B") (.int 0)) (.int 108)) (by decide +kernel)
      · exact hs (Cond.eq (.elem (Term.field (Term.string "IceVote$Text" 133) "java/lang/String" "value" "[B") (.int 1)) (.int 97)) (by decide +kernel)
      · exact hs (Cond.eq (.elem (Term.field (Term.string "IceVote$Text" 133) "java/lang/String" "value" "[B") (.int 2)) (.int 107)) (by decide +kernel)
      · exact hs (Cond.eq (.elem (Term.field (Term.string "IceVote$Text" 133) "java/lang/String" "value" "[B") (.int 3)) (.int 101)) (by decide +kernel))
      (fun j hj => by
      rcases (by have : j < 4 := hj; omega : j = 0 ∨ j = 1 ∨ j = 2 ∨ j = 3) with rfl | rfl | rfl | rfl
      · exact hs (Cond.eq (.elem (Term.field (Term.string "IceVote$Text" 139) "java/lang/String" "value" "[B") (.int 0)) (.int 99)) (by decide +kernel)
      · exact hs (Cond.eq (.elem (Term.field (Term.string "IceVote$Text" 139) "java/lang/String" "value" "[B") (.int 1)) (.int 101)) (by decide +kernel)
      · exact hs (Cond.eq (.elem (Term.field (Term.string "IceVote$Text" 139) "java/lang/String" "value" "[B") (.int 2)) (.int 108)) (by decide +kernel)
      · exact hs (Cond.eq (.elem (Term.field (Term.string "IceVote$Text" 139) "java/lang/String" "value" "[B") (.int 3)) (.int 108)) (by decide +kernel))
      (fun j hj => by
      rcases (by have : j < 4 := hj; omega : j = 0 ∨ j = 1 ∨ j = 2 ∨ j = 3) with rfl | rfl | rfl | rfl
      · exact hs (Cond.eq (.elem (Term.field (Term.string "IceVote$Text" 141) "java/lang/String" "value" "[B") (.int 0)) (.int 119)) (by decide +kernel)
      · exact hs (Cond.eq (.elem (Term.field (Term.string "IceVote$Text" 141) "java/lang/String" "value" "[B") (.int 1)) (.int 101)) (by decide +kernel)
      · exact hs (Cond.eq (.elem (Term.field (Term.string "IceVote$Text" 141) "java/lang/String" "value" "[B") (.int 2)) (.int 101)) (by decide +kernel)
      · exact hs (Cond.eq (.elem (Term.field (Term.string "IceVote$Text" 141) "java/lang/String" "value" "[B") (.int 3)) (.int 107)) (by decide +kernel))
      (fun j hj => by
      rcases (by have : j < 5 := hj; omega : j = 0 ∨ j = 1 ∨ j = 2 ∨ j = 3 ∨ j = 4) with rfl | rfl | rfl | rfl | rfl
      · exact hs (Cond.eq (.elem (Term.field (Term.string "IceVote$Text" 142) "java/lang/String" "value" "[B") (.int 0)) (.int 118)) (by decide +kernel)
      · exact hs (Cond.eq (.elem (Term.field (Term.string "IceVote$Text" 142) "java/lang/String" "value" "[B") (.int 1)) (.int 111)) (by decide +kernel)
      · exact hs (Cond.eq (.elem (Term.field (Term.string "IceVote$Text" 142) "java/lang/String" "value" "[B") (.int 2)) (.int 116)) (by decide +kernel)
      · exact hs (Cond.eq (.elem (Term.field (Term.string "IceVote$Text" 142) "java/lang/String" "value" "[B") (.int 3)) (.int 101)) (by decide +kernel)
      · exact hs (Cond.eq (.elem (Term.field (Term.string "IceVote$Text" 142) "java/lang/String" "value" "[B") (.int 4)) (.int 114)) (by decide +kernel)))
    (fun i j hi hj hij => by
      rcases (by omega : i = 0 ∨ i = 1 ∨ i = 2 ∨ i = 3) with rfl | rfl | rfl | rfl <;> rcases (by omega : j = 0 ∨ j = 1 ∨ j = 2 ∨ j = 3) with rfl | rfl | rfl | rfl
      · exact absurd rfl hij
      · exact Or.inl (hs (Cond.not (Cond.eq (Term.string "IceVote$Text" 133) (Term.string "IceVote$Text" 139))) (by decide +kernel))
      · exact Or.inl (hs (Cond.not (Cond.eq (Term.string "IceVote$Text" 133) (Term.string "IceVote$Text" 141))) (by decide +kernel))
      · exact Or.inl (hs (Cond.not (Cond.eq (Term.string "IceVote$Text" 133) (Term.string "IceVote$Text" 142))) (by decide +kernel))
      · exact Or.inr (hs (Cond.not (Cond.eq (Term.string "IceVote$Text" 133) (Term.string "IceVote$Text" 139))) (by decide +kernel))
      · exact absurd rfl hij
      · exact Or.inl (hs (Cond.not (Cond.eq (Term.string "IceVote$Text" 139) (Term.string "IceVote$Text" 141))) (by decide +kernel))
      · exact Or.inl (hs (Cond.not (Cond.eq (Term.string "IceVote$Text" 139) (Term.string "IceVote$Text" 142))) (by decide +kernel))
      · exact Or.inr (hs (Cond.not (Cond.eq (Term.string "IceVote$Text" 133) (Term.string "IceVote$Text" 141))) (by decide +kernel))
      · exact Or.inr (hs (Cond.not (Cond.eq (Term.string "IceVote$Text" 139) (Term.string "IceVote$Text" 141))) (by decide +kernel))
      · exact absurd rfl hij
      · exact Or.inl (hs (Cond.not (Cond.eq (Term.string "IceVote$Text" 141) (Term.string "IceVote$Text" 142))) (by decide +kernel))
      · exact Or.inr (hs (Cond.not (Cond.eq (Term.string "IceVote$Text" 133) (Term.string "IceVote$Text" 142))) (by decide +kernel))
      · exact Or.inr (hs (Cond.not (Cond.eq (Term.string "IceVote$Text" 139) (Term.string "IceVote$Text" 142))) (by decide +kernel))
      · exact Or.inr (hs (Cond.not (Cond.eq (Term.string "IceVote$Text" 141) (Term.string "IceVote$Text" 142))) (by decide +kernel))
      · exact absurd rfl hij
    ) hA
  refine ⟨dK, dV, h1, vk_R.of (hts (Cond.stringRef "IceVote$Text" 133 "lake") (List.mem_of_getElem? (i := 443) (by decide +kernel))) (h2 0 (by decide)), vk_R.of (hts (Cond.stringRef "IceVote$Text" 139 "cell") (List.mem_of_getElem? (i := 496) (by decide +kernel))) (h2 1 (by decide)), vk_R.of (hts (Cond.stringRef "IceVote$Text" 141 "week") (List.mem_of_getElem? (i := 497) (by decide +kernel))) (h2 2 (by decide)), vk_R.of (hts (Cond.stringRef "IceVote$Text" 142 "voter") (List.mem_of_getElem? (i := 498) (by decide +kernel))) (h2 3 (by decide))⟩
theorem lw_fmt {b : Addr} {s : State} {A : Nat → Prop} (hgv : (Jvm.Cond.and given_1 narrow_1).before #[Value.ref b] s = true) (hts : ∀ w ∈ lw_tbl, w.before #[Value.ref b] s = true) (hA : ∀ a : Nat, a < s.heap.size → ¬ A a) :
    va_Zq "jdk/internal/util/Preconditions" "SIOOBE_FORMATTER" "Ljava/util/function/BiFunction;" A s s.heap ∧ va_Z "java/lang/String" "COMPACT_STRINGS" "Z" (.int 1) A s s.heap := by
  have hs := flat_of_before _ hgv
  refine ⟨va_Zqof (hts (Cond.laysStatic "jdk/internal/util/Preconditions" "SIOOBE_FORMATTER" "Ljava/util/function/BiFunction;") (List.mem_of_getElem? (i := 473) (by decide +kernel))) (hts (Cond.initialized "jdk/internal/util/Preconditions") (List.mem_of_getElem? (i := 86) (by decide +kernel))) (hs (Cond.isRef (.static "jdk/internal/util/Preconditions" "SIOOBE_FORMATTER" "Ljava/util/function/BiFunction;")) (by decide +kernel)) hA, ?_⟩
  exact va_Zof (hts (Cond.laysStatic "java/lang/String" "COMPACT_STRINGS" "Z") (List.mem_of_getElem? (i := 457) (by decide +kernel))) (hts (Cond.initialized "java/lang/String") (List.mem_of_getElem? (i := 84) (by decide +kernel))) (va_eqt (hs (Cond.eq (.static "java/lang/String" "COMPACT_STRINGS" "Z") (.int 1)) (by decide +kernel))) hA
theorem lw_arr {args : Array Value} {s : State} {ty : FieldType} (hp : ∀ C, ty = .object C → False) (h : (Cond.arrayClass ty).before args s = true) : ∃ cA : ClassId, ArrOfT s cA ty ∧ va_RA s cA ty := by
  obtain ⟨cA, kA, comp, h1, h2, h3⟩ := Cond.arrayClass_spec (args := args) (first := s) (o := none) (idx := []) h
  refine ⟨cA, fun n z => ⟨fun k q => (nomatch q), kA, h2, comp, h3⟩, ?_⟩
  cases ty with
  | object C => exact (hp C rfl).elim
  | _ => exact h1
theorem lw_arq {args : Array Value} {s : State} {C : String} (h : (Cond.arrayOver (.object C)).before args s = true) : ∃ cA : ClassId, ArrOfT s cA (.object C) ∧ va_RA s cA (.object C) := by
  obtain ⟨comp, cA, kA, h1, -, h3, h4, h5⟩ := Cond.arrayOver_spec (args := args) (first := s) (o := none) (idx := []) h
  exact ⟨cA, fun n z => ⟨fun k q => (nomatch q), kA, h3, comp, h4⟩, kA, comp, h3, h4, h1, h5⟩
theorem lw_cls {args : Array Value} {s : State} (hts : ∀ w ∈ mj_TB, w.before args s = true) : ∃ D : va_G, ∀ (c : Nat) (q : vw_C), vwCl[c]? = some q → u_Kn s q.1 q.2.1 q.2.2 (D.1 c) (D.2 c) := by
  obtain ⟨c0, i0, k0⟩ := u_known (C := RX1) (n := 8) hts inTX1 (hts _ w_101)
  obtain ⟨c1, i1, k1⟩ := u_known (C := RX2) (n := 3) hts inTX2 (hts _ w_171)
  obtain ⟨c2, i2, k2⟩ := u_known (C := RX3) (n := 2) hts inTX3 (hts _ w_157)
  obtain ⟨c3, i3, k3⟩ := u_known (C := RX4) (n := 2) hts inTX4 (hts _ w_107)
  obtain ⟨c4, i4, k4⟩ := u_known (C := RX5) (n := 6) hts inTX5 (hts _ w_240)
  obtain ⟨c5, i5, k5⟩ := u_known (C := RX7) (n := 4) hts inTX7 (hts _ w_135)
  obtain ⟨c6, i6, k6⟩ := u_known (C := RX8) (n := 2) hts inTX8 (hts _ w_227)
  obtain ⟨c7, i7, k7⟩ := u_known (C := RX9) (n := 2) hts inTX9 (hts _ w_122)
  obtain ⟨c8, i8, k8⟩ := u_known (C := RX10) (n := 12) hts inTX10 (hts _ w_93)
  obtain ⟨c9, i9, k9⟩ := u_known (C := RX11) (n := 16) hts inTX11 (hts _ w_982)
  refine ⟨(fun c => if c = 0 then c0 else if c = 1 then c1 else if c = 2 then c2 else if c = 3 then c3 else if c = 4 then c4 else if c = 5 then c5 else if c = 6 then c6 else if c = 7 then c7 else if c = 8 then c8 else  c9, fun c => if c = 0 then i0 else if c = 1 then i1 else if c = 2 then i2 else if c = 3 then i3 else if c = 4 then i4 else if c = 5 then i5 else if c = 6 then i6 else if c = 7 then i7 else if c = 8 then i8 else  i9), fun c q hq => ?_⟩
  rcases (by have := (List.getElem?_eq_some_iff.mp hq).1; have : c < 10 := this; omega : c = 0 ∨ c = 1 ∨ c = 2 ∨ c = 3 ∨ c = 4 ∨ c = 5 ∨ c = 6 ∨ c = 7 ∨ c = 8 ∨ c = 9) with rfl | rfl | rfl | rfl | rfl | rfl | rfl | rfl | rfl | rfl
  · cases hq; exact k0
  · cases hq; exact k1
  · cases hq; exact k2
  · cases hq; exact k3
  · cases hq; exact k4
  · cases hq; exact k5
  · cases hq; exact k6
  · cases hq; exact k7
  · cases hq; exact k8
  · cases hq; exact k9
theorem lw_at1 (g : Int32) : g = g := rfl
theorem mj_stA {E : mj_E} {b L : Nat} {xs : Nat → Int32} {G : mj_H → Prop} (HG : ∀ h, G h → ∃ (κ : Nat → Bool) (C : Nat → Nat → Nat), h = hh κ C) (hL : L ≤ 384) (HS0 : mj_Steps E G) (g0 : G (hh mj_k0 mj_C0)) : gj E (mj_XW b L xs) cL_law 0 0 0 [some (.ref 1500), none, none, none] [] (fun _ => none) := by
  refine gj_newN (ci := 8) (i := 0) (fs := [.null, .null, .null, .null, .null, .null, .null, .null, .null, .null, .long (lN 0), .long (lN 0)]) inTX10 tyX10_ok w_92 w_93 w_72 rfl (by decide +kernel) rfl rfl dL_law_0 rfl (by omega) (mj_alC (Or.inr (by decide)) (mj_alO (mj_alO (mj_alO mj_alN)))) mj_stN ?_
  refine gj_dup dL_law_3 rfl ?_
  refine gj_I0 (a := 0) (rest := [.ref 0]) lkL_9 ev_X10_init dL_law_4 rfl rfl rfl (mj_alC (Or.inr (by decide)) (mj_alO (mj_alO (mj_alO mj_alN)))) (mj_stC (mj_alS (mj_up_eq _ _ _)) mj_stN) ?_
  refine gj_astore_n dL_law_7 (Nat.le_of_ble_eq_true rfl) rfl ?_
  refine gj_newN (ci := 9) (i := 100) (fs := [.null, .null, .null, .null, .long (lN 0), .long (lN 0), .null, .null, .null, .int (nI 0), .int (nI 0), .int (nI 0), .int (nI 0), .int (nI 0), .null, .null]) inTX11 tyX11_ok w_981 w_982 w_81 rfl (by decide +kernel) rfl rfl dL_law_8 rfl (by omega) (mj_alC (Or.inr (by decide)) (mj_alC (Or.inl (fun z => by cases z)) (mj_alO (mj_alO mj_alN)))) mj_stN ?_
  refine gj_dup dL_law_11 rfl ?_
  refine gj_I0 (a := 100) (rest := [.ref 100]) lkL_12 ev_X11_init dL_law_12 rfl rfl rfl (mj_alC (Or.inr (by decide)) (mj_alC (Or.inl (mj_up_al (fun z => by cases z))) (mj_alO (mj_alO mj_alN)))) (mj_stC (mj_alS (mj_up_eq _ _ _)) mj_stN) ?_
  refine gj_astore_n dL_law_15 (Nat.le_of_ble_eq_true rfl) rfl ?_
  refine gj_ic (w := 0) dL_law_16 ?_
  refine gj_istore_n dL_law_17 (Nat.le_of_ble_eq_true rfl) rfl ?_
  exact gj_wid (Nat.le_of_ble_eq_true rfl) (Nat.le_of_ble_eq_true rfl) (law_loop HG hL HS0 65 0 _ rfl g0)
set_option maxHeartbeats 4000000 in
/-- the whole walk, over the steps -/
theorem lw_go {G : mj_H → Prop} (HG : ∀ h, G h → ∃ (κ : Nat → Bool) (C : Nat → Nat → Nat), h = hh κ C) (HS0 : ∀ E : mj_E, mj_Steps E G) (g0 : G (hh mj_k0 mj_C0)) {p : Program} {e : Env} {s : State} {m : MethodId} {below : List Frame} {meth : Method} {c : Code} (l : Launch) {b L : Nat} {xs : Nat → Int32} (hL : L ≤ 384) (C0 : lw_At p s m meth c b L xs) : W p l e room_1 s m #[Value.ref b] below meth c s.heap [] 0 0 (lw_Z below #[Value.ref b] s) (entryFrame m ([Value.ref b] : List Value).toArray 4) := by
  obtain ⟨hx, hb, hr, hml, hown, hts, hX, hbl, hlk, hgv⟩ := C0
  have htm : ∀ w ∈ mj_TB, w.before #[Value.ref b] s = true := fun w hw => hts w (List.mem_filter.mp hw).1
  have hA : ∀ a : Nat, a < s.heap.size → ¬ (fun q : Nat => s.heap.size ≤ q) a := fun a ha z => absurd ha (Nat.not_lt.mpr z)
  obtain ⟨dK, dV, hS, hR⟩ := lw_str (A := fun q : Nat => s.heap.size ≤ q) hgv hts hA
  obtain ⟨hZq, hZ⟩ := lw_fmt (A := fun q : Nat => s.heap.size ≤ q) hgv hts hA
  obtain ⟨a0, k0⟩ := lw_arr (ty := .int) (fun _ z => nomatch z) (htm _ w_120)
  obtain ⟨a1, k1⟩ := lw_arr (ty := .long) (fun _ z => nomatch z) (htm _ w_302)
  obtain ⟨a2, k2⟩ := lw_arr (ty := .boolean) (fun _ z => nomatch z) (htm _ w_1039)
  obtain ⟨a3, k3⟩ := lw_arq (C := "IceVote$Lake") (hts (Cond.arrayOver (.object "IceVote$Lake")) (List.mem_of_getElem? (i := 223) (by decide +kernel)))
  obtain ⟨D, hD⟩ := lw_cls htm
  obtain ⟨f, hf⟩ : ∃ f : Nat, va_Z "jdk/internal/util/Preconditions" "SIOOBE_FORMATTER" "Ljava/util/function/BiFunction;" .null (fun q : Nat => s.heap.size ≤ q) s s.heap ∨ va_Z "jdk/internal/util/Preconditions" "SIOOBE_FORMATTER" "Ljava/util/function/BiFunction;" (.ref f) (fun q : Nat => s.heap.size ≤ q) s s.heap := hZq.elim (fun z => ⟨0, Or.inl z⟩) (fun ⟨t, z⟩ => ⟨t, Or.inr z⟩)
  let dV' : Nat → Nat := fun i => if i = 10 then f else dV i
  let cT : Nat → ClassId := fun i => if i = 0 then a0 else if i = 1 then a1 else if i = 2 then a2 else a3
  let E : mj_E := (l, D, cT, dK, dV')
  have hE : mj_X E (fun q : Nat => s.heap.size ≤ q) s s.heap := by
    refine ⟨⟨hD, fun k q hk => ?_⟩, va_AO.of (hts (Cond.arrayOver (.object "IceVote$Lake")) (List.mem_of_getElem? (i := 223) (by decide +kernel))), fun own idx y host hw => va_Nw.of rfl (hts _ hw), hR, ⟨fun i hi => ?_, hS.2⟩, hZ, hf⟩
    · rcases (by have := (List.getElem?_eq_some_iff.mp hk).1; have : k < 4 := this; omega : k = 0 ∨ k = 1 ∨ k = 2 ∨ k = 3) with rfl | rfl | rfl | rfl
      · cases hk; exact k0
      · cases hk; exact k1
      · cases hk; exact k2
      · cases hk; exact k3
    · have e1 : E.2.2.2.2 i = dV i := if_neg (by omega)
      rw [e1]
      exact hS.1 i hi
  let φ : Nat → Nat := fun a => if a = 1500 then b else if 1000 ≤ a then mj_ad E (a - 1000) else 0
  have hl := lv_entry ([Value.ref b] : List Value) (n := 4) (Nat.le_of_ble_eq_true rfl)
  rw [lg_entry_eq]
  generalize (lg_sl ([Value.ref b] : List Value) ++ List.replicate (4 - (lg_sl ([Value.ref b] : List Value)).length) Slot.unset).toArray = ls at hl ⊢
  refine mj_stA (E := E) (xs := xs) (b := b) HG hL (HS0 E) g0 p e c _ s m meth below (fun q : Nat => s.heap.size ≤ q) (fun _ => none) φ φ s.heap [] ls ?_ ?_
  · exact ⟨hx, hb, hml, hown, htm, hE, fun q hq => hq, hr, hlk, rfl, hX, hbl, hA b hbl, (show φ 1500 = b from if_pos rfl), fun q hq => hq⟩
  · refine ⟨fun _ => rfl, fun _ _ => rfl, fun _ q => q, ⟨fun j e z => (nomatch z), [], fun i => ⟨fun z => absurd rfl z, fun z => (List.not_mem_nil z).elim⟩, fun k q z => (nomatch z), fun i j p q z => (nomatch z), fun k q z => (nomatch z)⟩, va_S.rf, fun i hi => ?_, hl.1, hl.2.1, fun j v hj => ?_⟩
    · show (if 1000 + i = 1500 then b else if 1000 ≤ 1000 + i then mj_ad E (1000 + i - 1000) else 0) = _
      rw [if_neg (by omega), if_pos (by omega), Nat.add_sub_cancel_left]
    · rcases j with _ | _ | _ | _ | j
      · cases hj
        exact hl.2.2 (0, .ref b) (List.mem_cons_self)
      · cases hj
      · cases hj
      · cases hj
      · cases hj
