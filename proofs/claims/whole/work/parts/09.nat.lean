/-! numbers: rules over nI -/
def mj_b (b : Bool) : Int32 := if b then 1 else 0
def mj_ar (N : Nat) (K : Nat → Nat) : va_E := .inl (0, N, .inl (fun j => nI (K j)))
def mj_un (K : Nat → Nat) (i x : Nat) : Nat → Nat := fun j => if j = i then x else K j
theorem mj_un_eq (K : Nat → Nat) (i x : Nat) : mj_un K i x i = x := if_pos rfl
theorem mj_un_ne {K : Nat → Nat} {i j x : Nat} (h : j ≠ i) : mj_un K i x j = K j := if_neg h
theorem mj_upd (K : Nat → Nat) (i x : Nat) : upd (fun j => nI (K j)) i (nI x) = fun j => nI (mj_un K i x j) := by
  funext j
  by_cases h : j = i
  · simp [upd, mj_un, h]
  · simp [upd, mj_un, h]
theorem mj_ofInt (n : Nat) : Int32.ofInt (n : Int) = nI n := rfl
theorem mj_smod (n : Nat) (hn : n < 32) : ((nI n &&& 31).toBitVec.smod 32).toNat = n := by
  have : ∀ n, n < 32 → ((nI n &&& 31).toBitVec.smod 32).toNat = n := by decide +kernel
  exact this n hn
theorem mj_shl (a : Nat) {n : Nat} (hn : n < 32) : nI a <<< (nI n &&& 31) = nI (a <<< n) := by
  apply Int32.toBitVec_inj.mp
  apply BitVec.eq_of_toNat_eq
  rw [pk_shl _ _ n (mj_smod n hn)]
  show (BitVec.ofNat 32 a).toNat * 2 ^ n % 2 ^ 32 = (BitVec.ofNat 32 (a <<< n)).toNat
  simp [BitVec.toNat_ofNat, Nat.shiftLeft_eq, Nat.mod_mul_mod]
theorem mj_shr {a n : Nat} (ha : a < 2 ^ 31) (hn : n < 32) : nI a >>> (nI n &&& 31) = nI (a >>> n) := by
  rw [Nat.shiftRight_eq_div_pow]
  exact pk_shrN ha _ n (mj_smod n hn)
theorem mj_nb (a b : Nat) (op : Nat → Nat → Nat) (bop : BitVec 32 → BitVec 32 → BitVec 32) (h : ∀ x y : Nat, bop (BitVec.ofNat 32 x) (BitVec.ofNat 32 y) = BitVec.ofNat 32 (op x y)) : (⟨⟨bop (nI a).toBitVec (nI b).toBitVec⟩⟩ : Int32) = nI (op a b) := by
  apply Int32.toBitVec_inj.mp
  exact h a b
theorem mj_and (a b : Nat) : nI a &&& nI b = nI (a &&& b) := by
  apply Int32.toBitVec_inj.mp
  show BitVec.ofNat 32 a &&& BitVec.ofNat 32 b = BitVec.ofNat 32 (a &&& b)
  apply BitVec.eq_of_toNat_eq
  simp [Nat.and_mod_two_pow]
theorem mj_or (a b : Nat) : nI a ||| nI b = nI (a ||| b) := by
  apply Int32.toBitVec_inj.mp
  show BitVec.ofNat 32 a ||| BitVec.ofNat 32 b = BitVec.ofNat 32 (a ||| b)
  apply BitVec.eq_of_toNat_eq
  simp [Nat.or_mod_two_pow]
theorem mj_xor (a b : Nat) : nI a ^^^ nI b = nI (a ^^^ b) := by
  apply Int32.toBitVec_inj.mp
  show BitVec.ofNat 32 a ^^^ BitVec.ofNat 32 b = BitVec.ofNat 32 (a ^^^ b)
  apply BitVec.eq_of_toNat_eq
  simp [Nat.xor_mod_two_pow]
theorem mj_toInt (n : Nat) (h : n < 2 ^ 31) : (nI n).toInt = (n : Int) := nI_toInt h
section MJN2
variable {E : mj_E} {X : mj_XT} {cc : ByteArray} {k n pc : Nat} {L : List (Option Value)} {st : List Value} {h : mj_H}
theorem gj_cast {L' : List (Option Value)} {st' : List Value} {h' : mj_H} (hL : L = L') (hs : st = st') (hh : h = h') (kk : gj E X cc k n pc L' st' h') : gj E X cc k n pc L st h := by
  subst hL; subst hs; subst hh; exact kk
/-- a loop by counting: at its head, for each j, the frame is as told -/
theorem gj_loop (Lf : Nat → List (Option Value)) (hf : Nat → mj_H) (N : Nat) (hx : gj E X cc k n pc (Lf N) st (hf N)) (hs : ∀ j, j < N → gj E X cc k n pc (Lf (j + 1)) st (hf (j + 1)) → gj E X cc k n pc (Lf j) st (hf j)) : ∀ j, j ≤ N → gj E X cc k n pc (Lf j) st (hf j) := by
  have : ∀ d j, j + d = N → gj E X cc k n pc (Lf j) st (hf j) := by
    intro d
    induction d with
    | zero => intro j hj; rw [show j = N by omega]; exact hx
    | succ d ih => intro j hj; exact hs j (by omega) (ih (j + 1) (by omega))
  intro j hj
  exact this (N - j) j (by omega)
theorem mj_ce_mono {h h' : mj_H} {e : va_E} (hal : ∀ b, mj_al h b → mj_al h' b) (hc : mj_ce h e) : mj_ce h' e := by
  have hvl : ∀ v, mj_vl h v → mj_vl h' v := fun v q => by cases v <;> first | exact hal _ q | trivial
  match e, hc with
  | .inl (_, (_, .inr (.inr (.inr (.inr f))))), hc => exact fun j a q => hal a (hc j a q)
  | .inl (_, (_, .inl _)), _ => trivial
  | .inl (_, (_, .inr (.inl _))), _ => trivial
  | .inl (_, (_, .inr (.inr (.inl _)))), _ => trivial
  | .inl (_, (_, .inr (.inr (.inr (.inl _))))), _ => trivial
  | .inr (_, fs), hc => exact fun v q => hvl v (hc v q)
/-- contents of a row count below its length alone -/
theorem gj_reX {a t : Nat} {x y : vp_A} (hxy : ∀ φ cA, vp_cell cA (mj_a φ x) = vp_cell cA (mj_a φ y)) (hce : ∀ h, mj_ce h (.inl (t, y))) (kk : gj E X cc k n pc L st (mj_up h a (.inl (t, y)))) : gj E X cc k n pc L st (mj_up h a (.inl (t, x))) := by
  intro p e c args s m meth below A h0 φ0 φ H locs ls S Y
  refine kk p e c args s m meth below A h0 φ0 φ H locs ls S ?_
  obtain ⟨y1, y2, y3, ⟨w1, I, w2, w3, w4⟩, y5, y6, y7⟩ := Y
  have hal : ∀ j, mj_up h a (.inl (t, x)) j ≠ none → mj_up h a (.inl (t, y)) j ≠ none := by
    intro j hj
    by_cases q : j = a
    · rw [q, mj_up_eq]; exact fun z => nomatch z
    · rw [mj_up_ne q] at hj ⊢; exact hj
  have hal2 : ∀ j, mj_up h a (.inl (t, y)) j ≠ none → mj_up h a (.inl (t, x)) j ≠ none := by
    intro j hj
    by_cases q : j = a
    · rw [q, mj_up_eq]; exact fun z => nomatch z
    · rw [mj_up_ne q] at hj ⊢; exact hj
  refine ⟨y1, y2, fun i q => hal i (y3 i q), ⟨fun j e he => ?_, I, fun i => ⟨fun q => (w2 i).mp (hal2 i q), fun q => hal i ((w2 i).mpr q)⟩, ?_, ?_⟩, y5, y6, y7⟩
  · by_cases q : j = a
    · rw [q, mj_up_eq] at he
      cases he
      exact hce _
    · rw [mj_up_ne q] at he
      have h1 := w1 j e (by rw [mj_up_ne q]; exact he)
      have hl : ∀ b, mj_al (mj_up h a (.inl (t, x))) b → mj_al (mj_up h a (.inl (t, y))) b := fun b z => z.elim (fun z => Or.inl (hal b z)) Or.inr
      exact mj_ce_mono hl h1
  · intro kk q hq
    rw [List.getElem?_map] at hq
    cases hi : I[kk]? with
    | none => rw [hi] at hq; cases hq
    | some i =>
      rw [hi] at hq
      cases hq
      have h1 := w3 kk (mj_c E φ (mj_up h a (.inl (t, x))) i) (by rw [List.getElem?_map, hi]; rfl)
      by_cases q : i = a
      · subst q
        unfold mj_c at h1 ⊢
        rw [mj_up_eq] at h1 ⊢
        show H[φ i]? = some (vp_cell _ (mj_a φ y))
        rw [← hxy]
        exact h1
      · unfold mj_c at h1 ⊢
        rw [mj_up_ne q] at h1 ⊢
        exact h1
  · refine ⟨fun i j p q hp hq he => ?_, fun kk q hq => ?_⟩
    · rw [List.getElem?_map] at hp hq
      cases hi : I[i]? with
      | none => rw [hi] at hp; cases hp
      | some i' =>
        cases hj : I[j]? with
        | none => rw [hj] at hq; cases hq
        | some j' =>
          rw [hi] at hp; rw [hj] at hq
          cases hp; cases hq
          exact w4.1 i j (mj_c E φ (mj_up h a (.inl (t, x))) i') (mj_c E φ (mj_up h a (.inl (t, x))) j') (by rw [List.getElem?_map, hi]; rfl) (by rw [List.getElem?_map, hj]; rfl) he
    · rw [List.getElem?_map] at hq
      cases hi : I[kk]? with
      | none => rw [hi] at hq; cases hq
      | some i' =>
        rw [hi] at hq
        cases hq
        exact w4.2 kk (mj_c E φ (mj_up h a (.inl (t, x))) i') (by rw [List.getElem?_map, hi]; rfl)
theorem mj_cellV {cA : ClassId} {N : Nat} {f g : Nat → Value} (h : ∀ j, j < N → f j = g j) : arrV cA N f = arrV cA N g := by
  unfold arrV
  congr 1
  congr 1
  funext j
  exact h j j.isLt
theorem gj_re {a N : Nat} {f g : Nat → Int32} (hfg : ∀ j, j < N → f j = g j) (kk : gj E X cc k n pc L st (mj_up h a (.inl (0, N, .inl g)))) : gj E X cc k n pc L st (mj_up h a (.inl (0, N, .inl f))) :=
  gj_reX (x := (N, .inl f)) (y := (N, .inl g)) (fun φ cA => by show arrV cA N (fun j => .int (f j)) = arrV cA N (fun j => .int (g j)); exact mj_cellV (fun j hj => congrArg Value.int (hfg j hj))) (fun _ => trivial) kk
theorem gj_reL {a N : Nat} {f g : Nat → Int64} (hfg : ∀ j, j < N → f j = g j) (kk : gj E X cc k n pc L st (mj_up h a (.inl (1, N, .inr (.inl g))))) : gj E X cc k n pc L st (mj_up h a (.inl (1, N, .inr (.inl f)))) :=
  gj_reX (x := (N, .inr (.inl f))) (y := (N, .inr (.inl g))) (fun φ cA => by show arrV cA N (fun j => .long (f j)) = arrV cA N (fun j => .long (g j)); exact mj_cellV (fun j hj => congrArg Value.long (hfg j hj))) (fun _ => trivial) kk
theorem gj_ic {w : Nat} (hd : decode cc pc = .ok (.iconst (w : Int), 1)) (kk : gj E X cc k n (pc + 1) L (.int (nI w) :: st) h) : gj E X cc k n pc L st h := gj_iconst hd (mj_ofInt w) kk
theorem gj_bp (w : Nat) {d : Int} (hd : decode cc pc = .ok (.bipush d, 2)) (hw : (Int8.ofInt d).toInt32 = nI w) (kk : gj E X cc k n (pc + 2) L (.int (nI w) :: st) h) : gj E X cc k n pc L st h := gj_bipush hd hw kk
theorem gj_sp (w : Nat) {d : Int} (hd : decode cc pc = .ok (.sipush d, 3)) (hw : (Int16.ofInt d).toInt32 = nI w) (kk : gj E X cc k n (pc + 3) L (.int (nI w) :: st) h) : gj E X cc k n pc L st h := gj_sipush hd hw kk
theorem gj_iaddN {a b : Nat} (hd : decode cc pc = .ok (.iadd, 1)) (kk : gj E X cc k n (pc + 1) L (.int (nI (a + b)) :: st) h) : gj E X cc k n pc L (.int (nI b) :: .int (nI a) :: st) h := gj_iadd hd (gj_top (nI_add a b) kk)
theorem gj_imulN {a b : Nat} (hd : decode cc pc = .ok (.imul, 1)) (kk : gj E X cc k n (pc + 1) L (.int (nI (a * b)) :: st) h) : gj E X cc k n pc L (.int (nI b) :: .int (nI a) :: st) h := gj_imul hd (gj_top (pk_mul a b) kk)
theorem gj_iandN {a b : Nat} (hd : decode cc pc = .ok (.iand, 1)) (kk : gj E X cc k n (pc + 1) L (.int (nI (a &&& b)) :: st) h) : gj E X cc k n pc L (.int (nI b) :: .int (nI a) :: st) h := gj_iand hd (gj_top (mj_and a b) kk)
theorem gj_iorN {a b : Nat} (hd : decode cc pc = .ok (.ior, 1)) (kk : gj E X cc k n (pc + 1) L (.int (nI (a ||| b)) :: st) h) : gj E X cc k n pc L (.int (nI b) :: .int (nI a) :: st) h := gj_ior hd (gj_top (mj_or a b) kk)
theorem gj_ixorN {a b : Nat} (hd : decode cc pc = .ok (.ixor, 1)) (kk : gj E X cc k n (pc + 1) L (.int (nI (a ^^^ b)) :: st) h) : gj E X cc k n pc L (.int (nI b) :: .int (nI a) :: st) h := gj_ixor hd (gj_top (mj_xor a b) kk)
theorem gj_isubN {a b : Nat} (hb : b ≤ a) (hd : decode cc pc = .ok (.isub, 1)) (kk : gj E X cc k n (pc + 1) L (.int (nI (a - b)) :: st) h) : gj E X cc k n pc L (.int (nI b) :: .int (nI a) :: st) h := gj_isub hd (gj_top (pk_sub hb) kk)
theorem gj_ishlN {a b : Nat} (hb : b < 32) (hd : decode cc pc = .ok (.ishl, 1)) (kk : gj E X cc k n (pc + 1) L (.int (nI (a <<< b)) :: st) h) : gj E X cc k n pc L (.int (nI b) :: .int (nI a) :: st) h := gj_ishl hd (gj_top (mj_shl a hb) kk)
theorem gj_ishrN {a b : Nat} (ha : a < 2 ^ 31) (hb : b < 32) (hd : decode cc pc = .ok (.ishr, 1)) (kk : gj E X cc k n (pc + 1) L (.int (nI (a >>> b)) :: st) h) : gj E X cc k n pc L (.int (nI b) :: .int (nI a) :: st) h := gj_ishr hd (gj_top (mj_shr ha hb) kk)
theorem gj_idivN {a b : Nat} (ha : a < 2 ^ 31) (h0 : 0 < b) (hb : b < 2 ^ 31) (hd : decode cc pc = .ok (.idiv, 1)) (kk : gj E X cc k n (pc + 1) L (.int (nI (a / b)) :: st) h) : gj E X cc k n pc L (.int (nI b) :: .int (nI a) :: st) h := gj_idiv hd (nI_ne0 h0 hb) (gj_top (pk_div ha h0 hb) kk)
theorem gj_iremN {a b : Nat} (ha : a < 2 ^ 31) (h0 : 0 < b) (hb : b < 2 ^ 31) (hd : decode cc pc = .ok (.irem, 1)) (kk : gj E X cc k n (pc + 1) L (.int (nI (a % b)) :: st) h) : gj E X cc k n pc L (.int (nI b) :: .int (nI a) :: st) h := gj_irem hd (nI_ne0 h0 hb) (gj_top (pk_rem ha h0 hb) kk)
theorem gj_iincN {i a : Nat} {L' : List (Option Value)} (hd : decode cc pc = .ok (.iinc i 1, 3)) (hl : L[i]? = some (some (.int (nI a)))) (hn : i < X.2.1) (hL : mj_s1 L i (.int (nI (a + 1))) = L') (kk : gj E X cc k n (pc + 3) L' st h) : gj E X cc k n pc L st h := gj_iinc hd hl (nI_add a 1) hn hL kk
theorem gj_ialdN {a N j : Nat} {K : Nat → Nat} (hd : decode cc pc = .ok (.iaload, 1)) (he : h a = some (mj_ar N K)) (hj : j < N) (hN : N < 2 ^ 31) (kk : gj E X cc k n (pc + 1) L (.int (nI (K j)) :: st) h) : gj E X cc k n pc L (.int (nI j) :: .ref a :: st) h := gj_iald hd he (vp_in_nI hj hN) (by rw [nI_clamp (by omega)]; exact kk)
theorem gj_ialdF {a N j : Nat} {f : Nat → Int32} (hd : decode cc pc = .ok (.iaload, 1)) (he : h a = some (.inl (0, N, .inl f))) (hj : j < N) (hN : N < 2 ^ 31) (kk : gj E X cc k n (pc + 1) L (.int (f j) :: st) h) : gj E X cc k n pc L (.int (nI j) :: .ref a :: st) h := gj_iald hd he (vp_in_nI hj hN) (by rw [nI_clamp (by omega)]; exact kk)
theorem gj_laldF {a N j : Nat} {f : Nat → Int64} (hd : decode cc pc = .ok (.laload, 1)) (he : h a = some (.inl (1, N, .inr (.inl f)))) (hj : j < N) (hN : N < 2 ^ 31) (kk : gj E X cc k n (pc + 1) L (.long (f j) :: st) h) : gj E X cc k n pc L (.int (nI j) :: .ref a :: st) h := gj_lald hd he (vp_in_nI hj hN) (by rw [nI_clamp (by omega)]; exact kk)
theorem gj_iastN {a N j x : Nat} {K : Nat → Nat} (hd : decode cc pc = .ok (.iastore, 1)) (he : h a = some (mj_ar N K)) (hj : j < N) (hN : N < 2 ^ 31) (kk : gj E X cc k n (pc + 1) L st (mj_up h a (mj_ar N (mj_un K j x)))) : gj E X cc k n pc L (.int (nI x) :: .int (nI j) :: .ref a :: st) h := gj_iast hd he (vp_in_nI hj hN) (by rw [nI_clamp (by omega), mj_upd]; exact kk)
theorem gj_iastF {a N j : Nat} {x : Int32} {f : Nat → Int32} (hd : decode cc pc = .ok (.iastore, 1)) (he : h a = some (.inl (0, N, .inl f))) (hj : j < N) (hN : N < 2 ^ 31) (kk : gj E X cc k n (pc + 1) L st (mj_up h a (.inl (0, N, .inl (upd f j x))))) : gj E X cc k n pc L (.int x :: .int (nI j) :: .ref a :: st) h := gj_iast hd he (vp_in_nI hj hN) (by rw [nI_clamp (by omega)]; exact kk)
theorem gj_lastF {a N j : Nat} {x : Int64} {f : Nat → Int64} (hd : decode cc pc = .ok (.lastore, 1)) (he : h a = some (.inl (1, N, .inr (.inl f)))) (hj : j < N) (hN : N < 2 ^ 31) (kk : gj E X cc k n (pc + 1) L st (mj_up h a (.inl (1, N, .inr (.inl (vp_updL f j x)))))) : gj E X cc k n pc L (.long x :: .int (nI j) :: .ref a :: st) h := gj_last hd he (vp_in_nI hj hN) (by rw [nI_clamp (by omega)]; exact kk)
theorem gj_icmp_eqN {a b : Nat} {off : Int} {tgt : Nat} (ha : a < 2 ^ 31) (hb : b < 2 ^ 31) (hd : decode cc pc = .ok (.if_icmp .eq off, 3)) (ht : (pc : Int) + off = (tgt : Int)) (kt : a = b → gj E X cc k n tgt L st h) (kf : ¬ a = b → gj E X cc k n (pc + 3) L st h) : gj E X cc k n pc L (.int (nI b) :: .int (nI a) :: st) h :=
  gj_icmp_eq hd ht (fun z => kt ((nI_eq ha hb).mp z)) (fun z => kf (fun q => z ((nI_eq ha hb).mpr q)))
theorem gj_if_eqN {a : Nat} {off : Int} {tgt : Nat} (ha : a < 2 ^ 31) (hd : decode cc pc = .ok (.ifCond .eq off, 3)) (ht : (pc : Int) + off = (tgt : Int)) (kt : a = 0 → gj E X cc k n tgt L st h) (kf : ¬ a = 0 → gj E X cc k n (pc + 3) L st h) : gj E X cc k n pc L (.int (nI a) :: st) h :=
  gj_if_eq hd ht (fun z => kt ((nI_eq ha (by decide)).mp z)) (fun z => kf (fun q => z (by rw [q]; rfl)))
theorem gj_icmp_neN {a b : Nat} {off : Int} {tgt : Nat} (ha : a < 2 ^ 31) (hb : b < 2 ^ 31) (hd : decode cc pc = .ok (.if_icmp .ne off, 3)) (ht : (pc : Int) + off = (tgt : Int)) (kt : ¬ a = b → gj E X cc k n tgt L st h) (kf : a = b → gj E X cc k n (pc + 3) L st h) : gj E X cc k n pc L (.int (nI b) :: .int (nI a) :: st) h :=
  gj_icmp_ne hd ht (fun z => kt (fun q => z ((nI_eq ha hb).mpr q))) (fun z => kf ((nI_eq ha hb).mp z))
theorem gj_if_neN {a : Nat} {off : Int} {tgt : Nat} (ha : a < 2 ^ 31) (hd : decode cc pc = .ok (.ifCond .ne off, 3)) (ht : (pc : Int) + off = (tgt : Int)) (kt : ¬ a = 0 → gj E X cc k n tgt L st h) (kf : a = 0 → gj E X cc k n (pc + 3) L st h) : gj E X cc k n pc L (.int (nI a) :: st) h :=
  gj_if_ne hd ht (fun z => kt (fun q => z (by rw [q]; rfl))) (fun z => kf ((nI_eq ha (by decide)).mp z))
theorem gj_icmp_ltN {a b : Nat} {off : Int} {tgt : Nat} (ha : a < 2 ^ 31) (hb : b < 2 ^ 31) (hd : decode cc pc = .ok (.if_icmp .lt off, 3)) (ht : (pc : Int) + off = (tgt : Int)) (kt : a < b → gj E X cc k n tgt L st h) (kf : b ≤ a → gj E X cc k n (pc + 3) L st h) : gj E X cc k n pc L (.int (nI b) :: .int (nI a) :: st) h :=
  gj_icmp_lt hd ht (fun z => kt ((nI_ltI ha hb).mp z)) (fun z => kf (Nat.not_lt.mp (fun q => z ((nI_ltI ha hb).mpr q))))
theorem gj_if_ltN {a : Nat} {off : Int} {tgt : Nat} (ha : a < 2 ^ 31) (hd : decode cc pc = .ok (.ifCond .lt off, 3)) (ht : (pc : Int) + off = (tgt : Int)) (kt : False → gj E X cc k n tgt L st h) (kf : True → gj E X cc k n (pc + 3) L st h) : gj E X cc k n pc L (.int (nI a) :: st) h :=
  gj_if_lt hd ht (fun z => kt (nI_pos ha z)) (fun z => kf (trivial))
theorem gj_icmp_geN {a b : Nat} {off : Int} {tgt : Nat} (ha : a < 2 ^ 31) (hb : b < 2 ^ 31) (hd : decode cc pc = .ok (.if_icmp .ge off, 3)) (ht : (pc : Int) + off = (tgt : Int)) (kt : b ≤ a → gj E X cc k n tgt L st h) (kf : a < b → gj E X cc k n (pc + 3) L st h) : gj E X cc k n pc L (.int (nI b) :: .int (nI a) :: st) h :=
  gj_icmp_ge hd ht (fun z => kt ((nI_leI hb ha).mp z)) (fun z => kf (Nat.not_le.mp (fun q => z ((nI_leI hb ha).mpr q))))
theorem gj_if_geN {a : Nat} {off : Int} {tgt : Nat} (ha : a < 2 ^ 31) (hd : decode cc pc = .ok (.ifCond .ge off, 3)) (ht : (pc : Int) + off = (tgt : Int)) (kt : True → gj E X cc k n tgt L st h) (kf : False → gj E X cc k n (pc + 3) L st h) : gj E X cc k n pc L (.int (nI a) :: st) h :=
  gj_if_ge hd ht (fun z => kt (trivial)) (fun z => kf (z (nI_pos' ha)))
theorem gj_icmp_gtN {a b : Nat} {off : Int} {tgt : Nat} (ha : a < 2 ^ 31) (hb : b < 2 ^ 31) (hd : decode cc pc = .ok (.if_icmp .gt off, 3)) (ht : (pc : Int) + off = (tgt : Int)) (kt : b < a → gj E X cc k n tgt L st h) (kf : a ≤ b → gj E X cc k n (pc + 3) L st h) : gj E X cc k n pc L (.int (nI b) :: .int (nI a) :: st) h :=
  gj_icmp_gt hd ht (fun z => kt ((nI_ltI hb ha).mp z)) (fun z => kf (Nat.not_lt.mp (fun q => z ((nI_ltI hb ha).mpr q))))
theorem gj_if_gtN {a : Nat} {off : Int} {tgt : Nat} (ha : a < 2 ^ 31) (hd : decode cc pc = .ok (.ifCond .gt off, 3)) (ht : (pc : Int) + off = (tgt : Int)) (kt : 0 < a → gj E X cc k n tgt L st h) (kf : a = 0 → gj E X cc k n (pc + 3) L st h) : gj E X cc k n pc L (.int (nI a) :: st) h :=
  gj_if_gt hd ht (fun z => kt ((nI_ltI (a := 0) (by decide) ha).mp z)) (fun z => kf (Nat.le_zero.mp (Nat.not_lt.mp (fun q => z ((nI_ltI (a := 0) (by decide) ha).mpr q)))))
theorem gj_icmp_leN {a b : Nat} {off : Int} {tgt : Nat} (ha : a < 2 ^ 31) (hb : b < 2 ^ 31) (hd : decode cc pc = .ok (.if_icmp .le off, 3)) (ht : (pc : Int) + off = (tgt : Int)) (kt : a ≤ b → gj E X cc k n tgt L st h) (kf : b < a → gj E X cc k n (pc + 3) L st h) : gj E X cc k n pc L (.int (nI b) :: .int (nI a) :: st) h :=
  gj_icmp_le hd ht (fun z => kt ((nI_leI ha hb).mp z)) (fun z => kf (Nat.not_le.mp (fun q => z ((nI_leI ha hb).mpr q))))
theorem gj_if_leN {a : Nat} {off : Int} {tgt : Nat} (ha : a < 2 ^ 31) (hd : decode cc pc = .ok (.ifCond .le off, 3)) (ht : (pc : Int) + off = (tgt : Int)) (kt : a = 0 → gj E X cc k n tgt L st h) (kf : 0 < a → gj E X cc k n (pc + 3) L st h) : gj E X cc k n pc L (.int (nI a) :: st) h :=
  gj_if_le hd ht (fun z => kt (Nat.le_zero.mp ((nI_leI ha (b := 0) (by decide)).mp z))) (fun z => kf (Nat.pos_of_ne_zero (fun q => z (by rw [q]; exact Int32.le_refl _))))
theorem gj_if_eqB {q : Prop} [Decidable q] {off : Int} {tgt : Nat} (hd : decode cc pc = .ok (.ifCond .eq off, 3)) (ht : (pc : Int) + off = (tgt : Int)) (kt : ¬ q → gj E X cc k n tgt L st h) (kf : q → gj E X cc k n (pc + 3) L st h) : gj E X cc k n pc L (.int (mj_b (decide q)) :: st) h := by
  by_cases z : q
  · have e : mj_b (decide q) = 1 := by simp [mj_b, z]
    rw [e]
    exact gj_if_eq hd ht (fun w => absurd w (by decide)) (fun w => kf z)
  · have e : mj_b (decide q) = 0 := by simp [mj_b, z]
    rw [e]
    exact gj_if_eq hd ht (fun w => kt z) (fun w => absurd rfl w)
theorem gj_if_neB {q : Prop} [Decidable q] {off : Int} {tgt : Nat} (hd : decode cc pc = .ok (.ifCond .ne off, 3)) (ht : (pc : Int) + off = (tgt : Int)) (kt : q → gj E X cc k n tgt L st h) (kf : ¬ q → gj E X cc k n (pc + 3) L st h) : gj E X cc k n pc L (.int (mj_b (decide q)) :: st) h := by
  by_cases z : q
  · have e : mj_b (decide q) = 1 := by simp [mj_b, z]
    rw [e]
    exact gj_if_ne hd ht (fun w => kt z) (fun w => absurd w (by decide))
  · have e : mj_b (decide q) = 0 := by simp [mj_b, z]
    rw [e]
    exact gj_if_ne hd ht (fun w => absurd rfl w) (fun w => kf z)
theorem gj_tabIn {dflt lo hi : Int} {offs : Array Int} {len a : Nat} {off : Int} {tgt : Nat} (ha : a < 2 ^ 31) (hd : decode cc pc = .ok (.tableswitch dflt lo hi offs, len)) (h1 : ¬ (a : Int) < lo) (h2 : ¬ hi < (a : Int)) (ho : offs[((a : Int) - lo).toNat]? = some off) (ht : (pc : Int) + off = (tgt : Int)) (kk : gj E X cc k n tgt L st h) : gj E X cc k n pc L (.int (nI a) :: st) h := gj_tableIn hd (by rw [nI_toInt ha]; exact h1) (by rw [nI_toInt ha]; exact h2) (by rw [nI_toInt ha]; exact ho) ht kk
theorem gj_tabOut {dflt lo hi : Int} {offs : Array Int} {len a : Nat} {tgt : Nat} (ha : a < 2 ^ 31) (hd : decode cc pc = .ok (.tableswitch dflt lo hi offs, len)) (ho : (a : Int) < lo ∨ hi < (a : Int)) (ht : (pc : Int) + dflt = (tgt : Int)) (kk : gj E X cc k n tgt L st h) : gj E X cc k n pc L (.int (nI a) :: st) h := gj_tableOut hd (by rw [nI_toInt ha]; exact ho) ht kk
theorem gj_lkp {dflt : Int} {ps : Array (Int × Int)} {len a : Nat} {off : Int} {tgt : Nat} (ha : a < 2 ^ 31) (hd : decode cc pc = .ok (.lookupswitch dflt ps, len)) (hp : (ps.toList.zip (ps.toList.drop 1)).all (fun (a, next) => a.1 < next.1) = true) (ho : Op.lookupswitch.offset ps.toList dflt (a : Int) = off) (ht : (pc : Int) + off = (tgt : Int)) (kk : gj E X cc k n tgt L st h) : gj E X cc k n pc L (.int (nI a) :: st) h := gj_lookup hd hp (by rw [nI_toInt ha]; exact ho) ht kk
end MJN2
