/-! more rules, and the words of the answers -/
def mj_fo {α : Type} (f : Nat → α → α) (a : α) : Nat → α
  | 0 => a
  | n + 1 => f n (mj_fo f a n)
def mj_bits (p : Nat → Bool) : Nat → Nat
  | 0 => 0
  | n + 1 => if p n then mj_bits p n ||| 1 <<< n else mj_bits p n
def sp_sum (f : Nat → Nat) : Nat → Nat
  | 0 => 0
  | n + 1 => sp_sum f n + f n
/-- the row f as far as j, then the row g -/
def mj_mix (f g : Nat → Nat) (j : Nat) : Nat → Nat := fun c => if c < j then f c else g c
def mj_cp (f g : Nat → Nat) (sp dp w : Nat) : Nat → Nat := fun j => if dp ≤ j ∧ j < dp + w then f (sp + (j - dp)) else g j
theorem mj_bits_t {p : Nat → Bool} {n : Nat} (h : p n = true) : mj_bits p (n + 1) = mj_bits p n ||| 1 <<< n := by show (if p n then _ else _) = _; rw [if_pos h]
theorem mj_bits_f {p : Nat → Bool} {n : Nat} (h : p n = false) : mj_bits p (n + 1) = mj_bits p n := by show (if p n then _ else _) = _; rw [h]; rfl
theorem mj_un_le {K : Nat → Nat} {m i x : Nat} (h : ∀ c, K c ≤ m) (hx : x ≤ m) : ∀ c, mj_un K i x c ≤ m := fun c => by
  unfold mj_un; split
  · exact hx
  · exact h c
theorem mj_cp_le {f g : Nat → Nat} {a b c m : Nat} (h : ∀ c, f c ≤ m) (hx : ∀ c, g c ≤ m) : ∀ j, mj_cp f g a b c j ≤ m := fun j => by
  unfold mj_cp; split
  · exact h _
  · exact hx j
theorem mj_mix_le {f g : Nat → Nat} {n m : Nat} (h : ∀ c, c < n → f c ≤ m) (hx : ∀ c, g c ≤ m) : ∀ j, mj_mix f g n j ≤ m := fun j => by
  unfold mj_mix; split
  · exact h _ (by assumption)
  · exact hx j
theorem mj_bits_lt {p : Nat → Bool} {n : Nat} : mj_bits p n < 2 ^ n := by
  induction n with
  | zero => exact Nat.one_pos
  | succ n ih =>
    show (if p n then _ else _) < _
    split
    · refine Nat.or_lt_two_pow (Nat.lt_trans ih (Nat.pow_lt_pow_right (by decide) (by omega))) ?_
      rw [Nat.shiftLeft_eq, Nat.one_mul]
      exact Nat.pow_lt_pow_right (by decide) (by omega)
    · exact Nat.lt_trans ih (Nat.pow_lt_pow_right (by decide) (by omega))
theorem mj_mix_ge {f g : Nat → Nat} {j c : Nat} (h : j ≤ c) : mj_mix f g j c = g c := if_neg (by omega)
theorem mj_mix_lt {f g : Nat → Nat} {j c : Nat} (h : c < j) : mj_mix f g j c = f c := if_pos h
theorem mj_mix_0 {f g : Nat → Nat} : mj_mix f g 0 = g := by funext c; simp [mj_mix]
theorem mj_mix_un {f g : Nat → Nat} {j x : Nat} (h : x = f j) : mj_un (mj_mix f g j) j x = mj_mix f g (j + 1) := by
  funext c
  unfold mj_un mj_mix
  by_cases q : c = j
  · subst q; rw [if_pos rfl, if_pos (by omega), h]
  · rw [if_neg q]
    by_cases z : c < j
    · rw [if_pos z, if_pos (by omega)]
    · rw [if_neg z, if_neg (by omega)]
theorem mj_up_up (h : mj_H) (i : Nat) (a e : va_E) : mj_up (mj_up h i a) i e = mj_up h i e := by
  funext j
  unfold mj_up
  by_cases q : j = i
  · rw [if_pos q, if_pos q]
  · rw [if_neg q, if_neg q, if_neg q]
theorem mj_up_self {h : mj_H} {i : Nat} {e : va_E} (he : h i = some e) : mj_up h i e = h := by
  funext j
  unfold mj_up
  by_cases q : j = i
  · rw [if_pos q, q, he]
  · rw [if_neg q]
theorem mj_up_comm {h : mj_H} {i j : Nat} {a e : va_E} (hij : i ≠ j) : mj_up (mj_up h i a) j e = mj_up (mj_up h j e) i a := by
  funext x
  unfold mj_up
  by_cases q : x = i
  · by_cases z : x = j
    · exact absurd (q.symm.trans z) hij
    · rw [if_neg z, if_pos q, if_pos q]
  · by_cases z : x = j
    · rw [if_pos z, if_neg q, if_pos z]
    · rw [if_neg z, if_neg q, if_neg q, if_neg z]
theorem mj_neOA {h : mj_H} {a c ci N : Nat} {fs : List Value} {t : Nat} {y : (Nat → Int32) ⊕ (Nat → Int64) ⊕ (Nat → UInt32) ⊕ (Nat → UInt64) ⊕ (Nat → Option Nat)} (h1 : h a = some (.inr (ci, fs))) (h2 : h c = some (.inl (t, N, y))) : a ≠ c := by
  intro z
  rw [z, h2] at h1
  cases h1
theorem mj_neOO {h : mj_H} {a c ci cj : Nat} {fs gs : List Value} (h1 : h a = some (.inr (ci, fs))) (h2 : h c = some (.inr (cj, gs))) (q : ci ≠ cj) : a ≠ c := by
  intro z
  rw [z, h2] at h1
  cases h1
  exact q rfl
theorem mj_neNN {h : mj_H} {a c M N : Nat} {f g : Nat → Nat} (h1 : h a = some (mj_ar M f)) (h2 : h c = some (mj_ar N g)) (q : M ≠ N) : a ≠ c := by
  intro z
  rw [z, h2] at h1
  have h3 : (Sum.inl (0, N, .inl (fun j => nI (g j))) : va_E) = Sum.inl (0, M, .inl (fun j => nI (f j))) := Option.some.inj h1
  injection h3 with h4
  injection h4 with h5 h6
  injection h6 with h7 h8
  exact q h7.symm
theorem mj_max0 {a b : Nat} (ha : a < 2 ^ 31) (hb : b < 2 ^ 31) : (if (nI 0 : Int32) < nI a - nI b then nI a - nI b else nI 0) = nI (a - b) := by
  have e : (nI a - nI b).toInt = (a : Int) - b := by
    rw [Int32.toInt_sub, nI_toInt ha, nI_toInt hb]
    exact Int.bmod_eq_of_le (by omega) (by omega)
  by_cases z : b < a
  · have h1 : (nI 0 : Int32) < nI a - nI b := by
      rw [Int32.lt_iff_toInt_lt, e]
      show (0 : Int) < _
      omega
    rw [if_pos h1]
    exact pk_sub (by omega)
  · have h1 : ¬ (nI 0 : Int32) < nI a - nI b := by
      rw [Int32.lt_iff_toInt_lt, e]
      show ¬ (0 : Int) < _
      omega
    rw [if_neg h1, show a - b = 0 by omega]
theorem mj_ushr {a b : Nat} (ha : a < 2 ^ 31) (hb : b < 32) : ((nI a).toUInt32 >>> ((nI b).toUInt32 &&& Int32.toUInt32 31)).toInt32 = nI (a >>> b) := by
  apply Int32.toBitVec_inj.mp
  apply BitVec.eq_of_toNat_eq
  have e : ∀ b, b < 32 → ((nI b).toUInt32 &&& Int32.toUInt32 31).toNat = b := by decide +kernel
  show ((nI a).toUInt32 >>> ((nI b).toUInt32 &&& Int32.toUInt32 31)).toNat = (BitVec.ofNat 32 (a >>> b)).toNat
  rw [UInt32.toNat_shiftRight, e b hb, BitVec.toNat_ofNat]
  have h1 : (nI a).toUInt32.toNat = a := by
    show (BitVec.ofNat 32 a).toNat = a
    rw [BitVec.toNat_ofNat]; omega
  rw [h1, Nat.mod_eq_of_lt hb]
  have h2 : a >>> b ≤ a := by rw [Nat.shiftRight_eq_div_pow]; exact Nat.div_le_self _ _
  exact (Nat.mod_eq_of_lt (Nat.lt_of_le_of_lt h2 (Nat.lt_trans ha (by decide)))).symm
section MJR
variable {E : mj_E} {X : mj_XT} {cc : ByteArray} {k n pc : Nat} {L : List (Option Value)} {st : List Value} {h : mj_H}
theorem gj_topN {x y : Nat} (hx : x = y) (kk : gj E X cc k n pc L (.int (nI y) :: st) h) : gj E X cc k n pc L (.int (nI x) :: st) h := hx ▸ kk
theorem gj_topB {x y : Bool} (hx : x = y) (kk : gj E X cc k n pc L (.int (mj_b y) :: st) h) : gj E X cc k n pc L (.int (mj_b x) :: st) h := hx ▸ kk
theorem gj_iushrN {a b : Nat} (ha : a < 2 ^ 31) (hb : b < 32) (hd : decode cc pc = .ok (.iushr, 1)) (kk : gj E X cc k n (pc + 1) L (.int (nI (a >>> b)) :: st) h) : gj E X cc k n pc L (.int (nI b) :: .int (nI a) :: st) h := gj_iushr hd (mj_ushr ha hb) kk
theorem gj_if_eqb {q : Bool} {off : Int} {tgt : Nat} (hd : decode cc pc = .ok (.ifCond .eq off, 3)) (ht : (pc : Int) + off = (tgt : Int)) (kt : q = false → gj E X cc k n tgt L st h) (kf : q = true → gj E X cc k n (pc + 3) L st h) : gj E X cc k n pc L (.int (mj_b q) :: st) h := by
  cases q with
  | true => exact gj_if_eq hd ht (fun w => absurd w (by decide)) (fun _ => kf rfl)
  | false => exact gj_if_eq hd ht (fun _ => kt rfl) (fun w => absurd rfl w)
theorem gj_if_neb {q : Bool} {off : Int} {tgt : Nat} (hd : decode cc pc = .ok (.ifCond .ne off, 3)) (ht : (pc : Int) + off = (tgt : Int)) (kt : q = true → gj E X cc k n tgt L st h) (kf : q = false → gj E X cc k n (pc + 3) L st h) : gj E X cc k n pc L (.int (mj_b q) :: st) h := by
  cases q with
  | true => exact gj_if_ne hd ht (fun _ => kt rfl) (fun w => absurd w (by decide))
  | false => exact gj_if_ne hd ht (fun w => absurd rfl w) (fun _ => kf rfl)
theorem gj_loopI (I : Nat → Prop) (Lf : Nat → List (Option Value)) (hf : Nat → mj_H) (N : Nat) (hx : I N → gj E X cc k n pc (Lf N) st (hf N)) (hs : ∀ j, j < N → I j → (I (j + 1) → gj E X cc k n pc (Lf (j + 1)) st (hf (j + 1))) → gj E X cc k n pc (Lf j) st (hf j)) : ∀ j, j ≤ N → I j → gj E X cc k n pc (Lf j) st (hf j) := by
  have : ∀ d j, j + d = N → I j → gj E X cc k n pc (Lf j) st (hf j) := by
    intro d
    induction d with
    | zero => intro j hj q; rw [show j = N by omega] at q ⊢; exact hx q
    | succ d ih => intro j hj q; exact hs j (by omega) q (ih (j + 1) (by omega))
  intro j hj
  exact this (N - j) j (by omega)
theorem gj_forget {i : Nat} {L' : List (Option Value)} (hL : L.set i none = L') (kk : gj E X cc k n pc L' st h) : gj E X cc k n pc L st h := by
  subst hL
  refine fun p e c args s m meth below A h0 φ0 φ H locs ls S Y => kk p e c args s m meth below A h0 φ0 φ H locs ls S (Y.loc ⟨Y.2.2.2.2.2.2.1, Y.2.2.2.2.2.2.2.1, fun j v hj => Y.2.2.2.2.2.2.2.2 j v ?_⟩)
  rw [List.getElem?_set] at hj
  split at hj
  · split at hj <;> cases hj
  · exact hj
theorem gj_cut (pc' : Nat) (L' : List (Option Value)) (st' : List Value) (h' : mj_H) (a : gj E X cc k n pc' L' st' h') (b : gj E X cc k n pc' L' st' h' → gj E X cc k n pc L st h) : gj E X cc k n pc L st h := b a
theorem gj_reN {a N : Nat} {f g : Nat → Nat} (hfg : ∀ j, j < N → f j = g j) (kk : gj E X cc k n pc L st (mj_up h a (mj_ar N g))) : gj E X cc k n pc L st (mj_up h a (mj_ar N f)) :=
  gj_re (fun j hj => by rw [hfg j hj]) kk
theorem gj_max0 {idx a b : Nat} {rest : List Value} (l1 : Cond.methodLink X.1 idx Lib.Math.max.name ∈ mj_TB) (l2 : Cond.static Lib.Math.max.name ∈ mj_TB) (l3 : Cond.initialized "java/lang/Math" ∈ mj_TB) (l4 : Cond.code Lib.Math.max.name Lib.Math.max.code 2 (some .int) ∈ mj_TB) (ha : a < 2 ^ 31) (hb : b < 2 ^ 31) (hd : decode cc pc = .ok (.invokestatic idx, 3)) (hw : Nat.ble ((rest.map fun v => v.category).sum) 8 = true) (hR : ((Nat.ble 1 X.2.2.1.frames && Nat.ble 21 X.2.2.1.locals) && (Nat.ble k X.2.2.1.cells && Nat.ble n X.2.2.1.slots)) = true) (kk : gj E X cc k n (pc + 3) L (.int (nI (a - b)) :: rest) h) : gj E X cc k n pc L (.int (nI a - nI b) :: .int (nI 0) :: rest) h := by
  simp only [Bool.and_eq_true] at hR
  exact gj_max l1 l2 l3 l4 hd (Nat.le_of_ble_eq_true hw) ⟨⟨Nat.le_of_ble_eq_true hR.1.1, Nat.le_of_ble_eq_true hR.1.2⟩, Nat.le_of_ble_eq_true hR.2.1, Nat.le_of_ble_eq_true hR.2.2⟩ (gj_top (mj_max0 ha hb) kk)
theorem mj_cpN (f g : Nat → Nat) (sp dp w : Nat) : va_cpy (fun j => nI (f j)) (fun j => nI (g j)) sp dp w = fun j => nI (mj_cp f g sp dp w j) := by
  funext j
  unfold va_cpy mj_cp
  split
  · simp_all
  · simp_all
theorem gj_copyN {idx a b N0 N1 sp dp w : Nat} {f g : Nat → Nat} {rest : List Value} (l1 : Cond.methodLink X.1 idx arraycopyName ∈ mj_TB) (l2 : Cond.native arraycopyName ∈ mj_TB) (l3 : Cond.static arraycopyName ∈ mj_TB) (l4 : Cond.initialized "java/lang/System" ∈ mj_TB) (hd : decode cc pc = .ok (.invokestatic idx, 3)) (ha : h a = some (mj_ar N0 f)) (hb : h b = some (mj_ar N1 g)) (hN0 : N0 < 2 ^ 31) (hN1 : N1 < 2 ^ 31) (h4 : sp + w ≤ N0) (h5 : dp + w ≤ N1) (hw : Nat.ble ((rest.map fun v => v.category).sum) 8 = true) (hR : (Nat.ble 1 X.2.2.1.frames && Nat.ble (8 + (nativeFrameWords "java/lang/System" "arraycopy" 5 + 11)) X.2.2.1.locals) = true)
    (kk : gj E X cc k n (pc + 3) L rest (mj_up h b (mj_ar N1 (mj_cp f g sp dp w)))) : gj E X cc k n pc L (.int (nI w) :: .int (nI dp) :: .ref b :: .int (nI sp) :: .ref a :: rest) h := by
  have c1 : (nI sp).toNatClampNeg = sp := nI_clamp (by omega)
  have c2 : (nI dp).toNatClampNeg = dp := nI_clamp (by omega)
  have c3 : (nI w).toNatClampNeg = w := nI_clamp (by omega)
  simp only [Bool.and_eq_true] at hR
  refine gj_copy l1 l2 l3 l4 hd ha hb (fun z => nI_pos (by omega) z) (fun z => nI_pos (by omega) z) (fun z => nI_pos (by omega) z) (by rw [c1, c3]; exact h4) (by rw [c2, c3]; exact h5) (Nat.le_of_ble_eq_true hw) ⟨Nat.le_of_ble_eq_true hR.1, Nat.le_of_ble_eq_true hR.2⟩ ?_
  rw [c1, c2, c3, mj_cpN]
  exact kk
theorem gj_copyN0 {idx a b N : Nat} {f g : Nat → Nat} {rest : List Value} (l1 : Cond.methodLink X.1 idx arraycopyName ∈ mj_TB) (l2 : Cond.native arraycopyName ∈ mj_TB) (l3 : Cond.static arraycopyName ∈ mj_TB) (l4 : Cond.initialized "java/lang/System" ∈ mj_TB) (hd : decode cc pc = .ok (.invokestatic idx, 3)) (ha : h a = some (mj_ar N f)) (hb : h b = some (mj_ar N g)) (hN0 : N < 2 ^ 31) (hw : Nat.ble ((rest.map fun v => v.category).sum) 8 = true) (hR : (Nat.ble 1 X.2.2.1.frames && Nat.ble (8 + (nativeFrameWords "java/lang/System" "arraycopy" 5 + 11)) X.2.2.1.locals) = true)
    (kk : gj E X cc k n (pc + 3) L rest (mj_up h b (mj_ar N f))) : gj E X cc k n pc L (.int (nI N) :: .int (nI 0) :: .ref b :: .int (nI 0) :: .ref a :: rest) h :=
  gj_copyN l1 l2 l3 l4 hd ha hb hN0 hN0 (by omega) (by omega) hw hR (gj_reN (fun j hj => by simp [mj_cp, hj]) kk)
end MJR
theorem pnRX0 : plainName RX0 = true := by decide +kernel
theorem pnRX1 : plainName RX1 = true := by decide +kernel
theorem pnRX2 : plainName RX2 = true := by decide +kernel
theorem pnRX3 : plainName RX3 = true := by decide +kernel
theorem pnRX4 : plainName RX4 = true := by decide +kernel
theorem pnRX5 : plainName RX5 = true := by decide +kernel
theorem pnRX6 : plainName RX6 = true := by decide +kernel
theorem pnRX7 : plainName RX7 = true := by decide +kernel
theorem pnRX8 : plainName RX8 = true := by decide +kernel
theorem pnRX9 : plainName RX9 = true := by decide +kernel
theorem pnRX10 : plainName RX10 = true := by decide +kernel
theorem pnRX11 : plainName RX11 = true := by decide +kernel
theorem pnRJ0 : plainName RJ0 = true := by decide +kernel
theorem pnRJ1 : plainName RJ1 = true := by decide +kernel
theorem pnRJ2 : plainName RJ2 = true := by decide +kernel
theorem pnRJ3 : plainName RJ3 = true := by decide +kernel
theorem pnRJ6 : plainName RJ6 = true := by decide +kernel
theorem pnRJ7 : plainName RJ7 = true := by decide +kernel
theorem mj_Ev.ofF {E : mj_E} {i : mj_I} {as : List Value} {h : mj_H} {Z : Option Value → mj_H → Prop} {L0 : List (Option Value)} (hy : plainFor i.1 = true) (hlen : (mj_in as).length ≤ i.2.2.1) (hL : mj_in as ++ List.replicate (i.2.2.1 - (mj_in as).length) none = L0)
    (g : gj E (mj_XM E i Z) i.2.1 0 0 0 L0 [] h) : mj_Ev E i as h Z := by
  intro φ sz
  refine va_MetF (cc := i.2.1) (maxL := i.2.2.1) (ret := i.2.2.2.1) hy rfl ?_
  intro p e s m args below meth c s₁ B hml hv
  obtain ⟨rfl, hsz, hW, hF, hX⟩ := hv
  subst hsz
  have hts := atoms_spec (ws := mj_ws i) B.pre
  have hl := lv_entry (as.map (mj_v φ)) (n := i.2.2.1) (by rw [mj_in_len]; exact hlen)
  rw [lg_entry_eq]
  generalize (lg_sl (as.map (mj_v φ)) ++ List.replicate (i.2.2.1 - (lg_sl (as.map (mj_v φ))).length) Slot.unset).toArray = ls at hl ⊢
  refine g p e c _ s m meth below (mj_A h φ s.heap.size) h φ φ s.heap [] ls ?_ ?_
  · exact ⟨B.exec, B.bytes, hml, findClass_of_methodNamed B.named, fun w hw => hts w (List.mem_cons_of_mem _ hw), hX, fun q hq => Or.inr hq, B.returns, B.notSynchronized, (name_of_methodNamed B.named B.method).1⟩
  · refine ⟨fun _ => rfl, fun _ _ => rfl, fun _ q => q, hW.self, va_S.rf, hF, hl.1, hl.2.1, fun j v hj => ?_⟩
    subst hL
    refine hl.2.2 (j, mj_v φ v) ?_
    rw [List.getElem?_append] at hj
    split at hj
    · have := mj_in_args φ as 0 j v hj
      rwa [Nat.zero_add] at this
    · rw [List.getElem?_replicate] at hj
      split at hj <;> cases hj
theorem pfJ9_floorMod : plainFor yJ9_floorMod_7cf53 = true := by decide +kernel
/-! what cells and voters do -/
def sp_grow (k i f : Nat) : Nat := if k = 1 then f / 2 else if k = 2 ∨ k = 5 then f - 2 else if k = 3 then (if 1 ≤ f then f + 1 else f) else if k = 4 then (if i < 10 then 0 else f / 2) else f
def sp_melt (k s : Nat) : Nat := if k = 1 ∨ k = 4 then s + 1 else if k = 2 ∨ k = 5 then s / 2 else s
def sp_bear (k i : Nat) : Nat := if k = 4 then 2 * i - 5 else if k = 5 then (2 * i + 1) / 2 else 2 * i
def sp_after (k i f s : Nat) : Nat := min 99 (i + sp_grow k i f) - sp_melt k s
def sp_yes (k w c m f : Nat) : Bool := if k = 1 then decide (w ≤ c ∧ 40 ≤ c) else if k = 2 then false else if k = 3 then decide (w ≤ c ∨ 6 ≤ f) else if k = 4 then decide (1 ≤ f ∨ w ≤ c) else if k = 5 then decide (w ≤ c ∧ 40 ≤ c ∧ w ≤ m) else decide (w ≤ c)
theorem sp_grow_le {k i f : Nat} : sp_grow k i f ≤ f + 1 := by unfold sp_grow; (repeat' split) <;> omega
theorem sp_melt_le {k s : Nat} : sp_melt k s ≤ s + 1 := by unfold sp_melt; (repeat' split) <;> omega
theorem sp_bear_le {k i : Nat} : sp_bear k i ≤ 2 * i := by unfold sp_bear; (repeat' split) <;> omega
theorem sp_after_le {k i f s : Nat} : sp_after k i f s ≤ 99 := by unfold sp_after; omega
