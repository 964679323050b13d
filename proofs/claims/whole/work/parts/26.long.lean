theorem lN_big {n : Nat} (h : n < 2 ^ 63) : (lN n).toInt = (n : Int) := lg_ofNat_toInt h
theorem lN_div {a b : Nat} (ha : a < 2 ^ 62) (hb : b < 2 ^ 62) : lN a / lN b = lN (a / b) := by
  have h3 : a / b ≤ a := Nat.div_le_self _ _
  apply Int64.toInt_inj.mp
  rw [Int64.toInt_div, lN_big (by omega), lN_big (by omega), lN_big (by omega), Int.tdiv_eq_ediv_of_nonneg (by omega), ← Int.natCast_ediv]
  generalize a / b = q at h3 ⊢
  exact Int.bmod_eq_of_le (by omega) (by omega)
theorem lN_rem {a b : Nat} (ha : a < 2 ^ 62) (hb : b < 2 ^ 62) : lN a - lN a / lN b * lN b = lN (a % b) := by
  rw [lN_div ha hb, lN_mul, lN_sub (Nat.div_mul_le_self a b)]
  congr 1
  have := Nat.div_add_mod a b
  rw [Nat.mul_comm] at this
  omega
theorem lN_eqB {a b : Nat} (ha : a < 2 ^ 62) (hb : b < 2 ^ 62) : lN a = lN b ↔ a = b := by
  rw [← Int64.toInt_inj, lN_big (by omega), lN_big (by omega)]; omega
theorem lN_leB {a b : Nat} (ha : a < 2 ^ 62) (hb : b < 2 ^ 62) : lN a ≤ lN b ↔ a ≤ b := by
  rw [Int64.le_iff_toInt_le, lN_big (by omega), lN_big (by omega)]; omega
section MJLR
variable {E : mj_E} {X : mj_XT} {cc : ByteArray} {k n pc : Nat} {L : List (Option Value)} {st : List Value} {h : mj_H}
theorem gj_laddN {a b : Nat} (hd : decode cc pc = .ok (.ladd, 1)) (kk : gj E X cc k n (pc + 1) L (.long (lN (a + b)) :: st) h) : gj E X cc k n pc L (.long (lN b) :: .long (lN a) :: st) h := gj_ladd hd (gj_topl (lN_add a b) kk)
theorem gj_lmulN {a b : Nat} (hd : decode cc pc = .ok (.lmul, 1)) (kk : gj E X cc k n (pc + 1) L (.long (lN (a * b)) :: st) h) : gj E X cc k n pc L (.long (lN b) :: .long (lN a) :: st) h := gj_lmul hd (gj_topl (lN_mul a b) kk)
theorem gj_ldivN {a b : Nat} (ha : a < 2 ^ 62) (h0 : 0 < b) (hb : b < 2 ^ 62) (hd : decode cc pc = .ok (.ldiv, 1)) (kk : gj E X cc k n (pc + 1) L (.long (lN (a / b)) :: st) h) : gj E X cc k n pc L (.long (lN b) :: .long (lN a) :: st) h := gj_ldiv hd (fun q => by have := (lN_eqB hb (show 0 < 2 ^ 62 by decide)).mp q; omega) (gj_topl (lN_div ha hb) kk)
theorem gj_lremN {a b : Nat} (ha : a < 2 ^ 62) (h0 : 0 < b) (hb : b < 2 ^ 62) (hd : decode cc pc = .ok (.lrem, 1)) (kk : gj E X cc k n (pc + 1) L (.long (lN (a % b)) :: st) h) : gj E X cc k n pc L (.long (lN b) :: .long (lN a) :: st) h := gj_lrem hd (fun q => by have := (lN_eqB hb (show 0 < 2 ^ 62 by decide)).mp q; omega) (gj_topl (lN_rem ha hb) kk)
theorem gj_l2iN {a : Nat} (hd : decode cc pc = .ok (.l2i, 1)) (kk : gj E X cc k n (pc + 1) L (.int (nI a) :: st) h) : gj E X cc k n pc L (.long (lN a) :: st) h := gj_l2i hd (lN_i a) kk
theorem gj_i2lN {a : Nat} (ha : a < 2 ^ 31) (hd : decode cc pc = .ok (.i2l, 1)) (kk : gj E X cc k n (pc + 1) L (.long (lN a) :: st) h) : gj E X cc k n pc L (.int (nI a) :: st) h := gj_i2l hd (nI_l ha) kk
theorem gj_lif_eqN {a b : Nat} {off : Int} {tgt : Nat} (ha : a < 2 ^ 62) (hb : b < 2 ^ 62) (hd : decode cc pc = .ok (.ifCond .eq off, 3)) (ht : (pc : Int) + off = (tgt : Int)) (kt : a = b → gj E X cc k n tgt L st h) (kf : ¬ a = b → gj E X cc k n (pc + 3) L st h) : gj E X cc k n pc L (.int (lg_cmp (lN a) (lN b)) :: st) h :=
  gj_if_eq hd ht (fun z => kt ((lN_eqB ha hb).mp ((lg_cmp_eq _ _).mp z))) (fun z => kf (fun q => z ((lg_cmp_eq _ _).mpr ((lN_eqB ha hb).mpr q))))
theorem gj_lif_leN {a b : Nat} {off : Int} {tgt : Nat} (ha : a < 2 ^ 62) (hb : b < 2 ^ 62) (hd : decode cc pc = .ok (.ifCond .le off, 3)) (ht : (pc : Int) + off = (tgt : Int)) (kt : a ≤ b → gj E X cc k n tgt L st h) (kf : b < a → gj E X cc k n (pc + 3) L st h) : gj E X cc k n pc L (.int (lg_cmp (lN a) (lN b)) :: st) h :=
  gj_if_le hd ht (fun z => kt ((lN_leB ha hb).mp ((lg_cmp_le _ _).mp z))) (fun z => kf (Nat.not_le.mp (fun q => z ((lg_cmp_le _ _).mpr ((lN_leB ha hb).mpr q)))))
theorem gj_if_neN' {a : Nat} {off : Int} {tgt : Nat} (hd : decode cc pc = .ok (.ifCond .ne off, 3)) (ht : (pc : Int) + off = (tgt : Int)) (ha : a < 2 ^ 31) (kt : ¬ a = 0 → gj E X cc k n tgt L st h) (kf : a = 0 → gj E X cc k n (pc + 3) L st h) : gj E X cc k n pc L (.int (nI a) :: st) h := gj_if_neN ha hd ht kt kf
theorem mj_updL (K : Nat → Nat) (i x : Nat) : vp_updL (fun j => lN (K j)) i (lN x) = fun j => lN (mj_un K i x j) := by
  funext j
  by_cases q : j = i
  · simp [vp_updL, mj_un, q]
  · simp [vp_updL, mj_un, q]
theorem gj_lastN {a N j x : Nat} {K : Nat → Nat} (hd : decode cc pc = .ok (.lastore, 1)) (he : h a = some (mj_al64 N K)) (hj : j < N) (hN : N < 2 ^ 31) (kk : gj E X cc k n (pc + 1) L st (mj_up h a (mj_al64 N (mj_un K j x)))) : gj E X cc k n pc L (.long (lN x) :: .int (nI j) :: .ref a :: st) h := gj_lastF hd he hj hN (by rw [mj_updL]; exact kk)
theorem gj_laldN {a N j : Nat} {K : Nat → Nat} (hd : decode cc pc = .ok (.laload, 1)) (he : h a = some (mj_al64 N K)) (hj : j < N) (hN : N < 2 ^ 31) (kk : gj E X cc k n (pc + 1) L (.long (lN (K j)) :: st) h) : gj E X cc k n pc L (.int (nI j) :: .ref a :: st) h := gj_laldF hd he hj hN kk
theorem gj_reLN {a N : Nat} {f g : Nat → Nat} (hfg : ∀ j, j < N → f j = g j) (kk : gj E X cc k n pc L st (mj_up h a (mj_al64 N g))) : gj E X cc k n pc L st (mj_up h a (mj_al64 N f)) :=
  gj_reL (fun j hj => by rw [hfg j hj]) kk
theorem gj_copyLN0 {idx a b N : Nat} {f g : Nat → Nat} {rest : List Value} (l1 : Cond.methodLink X.1 idx arraycopyName ∈ mj_TB) (l2 : Cond.native arraycopyName ∈ mj_TB) (l3 : Cond.static arraycopyName ∈ mj_TB) (l4 : Cond.initialized "java/lang/System" ∈ mj_TB) (hd : decode cc pc = .ok (.invokestatic idx, 3)) (ha : h a = some (mj_al64 N f)) (hb : h b = some (mj_al64 N g)) (hN0 : N < 2 ^ 31) (hw : Nat.ble ((rest.map fun v => v.category).sum) 8 = true) (hR : (Nat.ble 1 X.2.2.1.frames && Nat.ble (8 + (nativeFrameWords "java/lang/System" "arraycopy" 5 + 11)) X.2.2.1.locals) = true)
    (kk : gj E X cc k n (pc + 3) L rest (mj_up h b (mj_al64 N f))) : gj E X cc k n pc L (.int (nI N) :: .int (nI 0) :: .ref b :: .int (nI 0) :: .ref a :: rest) h := by
  have c1 : (nI 0).toNatClampNeg = 0 := nI_clamp (by decide)
  have c3 : (nI N).toNatClampNeg = N := nI_clamp (by omega)
  simp only [Bool.and_eq_true] at hR
  refine gj_copyl l1 l2 l3 l4 hd ha hb (fun z => nI_pos (by decide) z) (fun z => nI_pos (by decide) z) (fun z => nI_pos (by omega) z) (by rw [c1, c3]; omega) (by rw [c1, c3]; omega) (Nat.le_of_ble_eq_true hw) ⟨Nat.le_of_ble_eq_true hR.1, Nat.le_of_ble_eq_true hR.2⟩ ?_
  rw [c1, c3]
  refine gj_reL (g := fun j => lN (f j)) (fun j hj => ?_) kk
  unfold va_cpy
  rw [if_pos (by omega)]
  simp
end MJLR
def sp_lcg (s : Nat) (n : Nat) : Nat := mj_fo (fun _ x => (x * 1103515245 + 12345) % 2147483648) s n
theorem sp_lcg_s {s n : Nat} : sp_lcg s (n + 1) = (sp_lcg s n * 1103515245 + 12345) % 2147483648 := mj_fo_s
theorem sp_lcg_lt {s n : Nat} (h : s < 2147483648) : sp_lcg s n < 2147483648 := by
  cases n with
  | zero => exact h
  | succ n => rw [sp_lcg_s]; exact Nat.mod_lt _ (by decide)
/-- the ice behind n days of a winter -/
def sp_wi (K I : Nat → Nat) (s : Nat) (n : Nat) : Nat → Nat := mj_fo (fun d J => fun c => sp_after (K c) (J c) (sp_lcg s (d + 1) / 65536 % 10) (sp_lcg s (d + 1) / 1048576 % 10)) I n
theorem sp_wi_s {K I : Nat → Nat} {s n : Nat} : sp_wi K I s (n + 1) = fun c => sp_after (K c) (sp_wi K I s n c) (sp_lcg s (n + 1) / 65536 % 10) (sp_lcg s (n + 1) / 1048576 % 10) := mj_fo_s
theorem sp_wi_le {K I : Nat → Nat} {s n : Nat} (h : ∀ c, I c ≤ 99) : ∀ c, sp_wi K I s n c ≤ 99 := by
  cases n with
  | zero => exact h
  | succ n => intro c; rw [sp_wi_s]; exact sp_after_le
def sp_wd (VK VW VC K I : Nat → Nat) (z s d : Nat) : Nat := sp_pop (sp_wet VK VW VC (fun c => sp_bear (K c) (sp_wi K I s (d + 1) c)) (sp_lcg s (d + 1) / 65536 % 10) z)
