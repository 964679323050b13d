def R_law : String := "IceVoteLaw"
def lw_P (b : Addr) (xs : List Int32) (args : Array Value) (s : State) : Prop := args = #[.ref b] ∧ s.IntsAt b xs ∧ xs.length ≤ 384 ∧ (Jvm.Cond.and given_1 narrow_1).before args s = true
def lw_Q (_ : Array Value) (s : State) (o : Outcome) (t : State) : Prop := o = .returned (some (.int 1)) ∧ Framed s o t [] 600000 7302250
def lw_Z (below : List Frame) (a : Array Value) (s : State) : State → Prop := fun t => ∃ o, t.status = .running ∧ Ended t below o ∧ lw_Q a s o t
/-- the law's own end, with 1 on the stack, nothing written that was there before, its room as the claim has it -/
theorem lw_ret {p : Program} {l : Launch} {e : Env} {s : State} {m : MethodId} {below : List Frame} {meth : Method} {c : Code} {b : Nat} (hx : p.tables.exec = Jvm.exec) (hb : c.code = code) (hr : meth.sig.returnType = ret) (hlocks : meth.locks = false) {pc : Nat} {H : Heap} {ls : Array Slot} (hdg : decode code pc = .ok (.ireturn, 1)) : W p l e room_1 s m #[Value.ref b] below meth c H [] 600000 7302250 (lw_Z below #[Value.ref b] s) (F0 m pc ls [.int 1]) := by
  intro T hT X
  obtain ⟨fs, hret, hrun, hended, hW, hframe⟩ := X.leave (v := some (.int 1)) (hlocks := hlocks) (fun h => by rw [hr] at h; cases h)
  have hmeth' : T.vm.method? m = some meth := X.method'
  refine ⟨T.setFrames fs, ?_, .returned (some (.int 1)), hrun, hended, rfl, ⟨_, rfl⟩, hW, hframe⟩
  jvm_step X.here [X.here.top, hx, hb, hdg, hmeth', hr, ret, narrow_b1]
  (try refine ⟨rfl, ?_⟩); (try refine ⟨rfl, ?_⟩)
  first | (intro acts; rw [hret _ acts rfl rfl rfl]) | rw [hret _ _ rfl rfl rfl]
  exact Steps.refl _
/-- what holds at the law's entry: the machine, the code, the tables' words (any of lw_tbl by 'hts w (by decide +kernel)'), the script of L ints xs at the cell b, what the Statement gives of the start (any of its parts by flat_of_before) -/
def lw_At (p : Program) (s : State) (m : MethodId) (meth : Method) (c : Code) (b L : Nat) (xs : Nat → Int32) : Prop :=
  p.tables.exec = Jvm.exec ∧ c.code = code ∧ meth.sig.returnType = ret ∧ c.maxLocals = 4 ∧ s.vm.findClass R_law = some m.cls ∧ (∀ w ∈ lw_tbl, w.before #[Value.ref b] s = true) ∧ va_X b L xs s s.heap ∧ b < s.heap.size ∧ meth.locks = false ∧ (Jvm.Cond.and given_1 narrow_1).before #[Value.ref b] s = true
/-- the law's own frame: its script at 1500 -/
def mj_XW (b L : Nat) (xs : Nat → Int32) : mj_XT := (RL, 4, room_1, fun t => t.2.2.2.1.sig.returnType = ret ∧ t.2.2.2.1.locks = false ∧ t.1 = #[Value.ref b] ∧ va_X b L xs t.2.1 t.2.1.heap ∧ b < t.2.1.heap.size ∧ ¬ t.2.2.2.2.2.1 b ∧ t.2.2.2.2.2.2.2 1500 = b ∧ (∀ q, t.2.2.2.2.2.1 q → t.2.1.heap.size ≤ q), fun t => lw_Z t.2.2.2.2.1 #[Value.ref b] t.2.1)
def mj_isI (r : Option Value) : Prop := ∃ v : Int32, r = some (.int v)
def mj_isL (r : Option Value) : Prop := ∃ v : Int64, r = some (.long v)
/-- a call of the class and then of the reference: alike, and all is well behind them -/
def mj_St (E : mj_E) (G : mj_H → Prop) (P : Option Value → Prop) (iX iM : mj_I) (as : List Value) (h : mj_H) : Prop :=
  ∃ Z1 : Option Value → mj_H → Prop, mj_Ev E iX (.ref 0 :: as) h Z1 ∧ ∀ r1 h1, Z1 r1 h1 → P r1 ∧ (∃ (κ : Nat → Bool) (C : Nat → Nat → Nat), h1 = hh κ C) ∧ ∃ Z2 : Option Value → mj_H → Prop, mj_Ev E iM (.ref 100 :: as) h1 Z2 ∧ ∀ r2 h2, Z2 r2 h2 → r2 = r1 ∧ G h2
section MJW
variable {E : mj_E} {k n pc : Nat} {Lc : List (Option Value)} {st : List Value} {h : mj_H} {b L : Nat} {xs : Nat → Int32} {cc : ByteArray} {X : mj_XT}
theorem gj_wid {k' n' : Nat} (hk : k ≤ k') (hn : n ≤ n') (kk : gj E X cc k' n' pc Lc st h) : gj E X cc k n pc Lc st h :=
  fun p e c args s m meth below A h0 φ0 φ H locs ls S Y => W.widen hk hn (kk p e c args s m meth below A h0 φ0 φ H locs ls S ⟨fun z => Y.1 (by omega), Y.2⟩)
theorem gj_sld {i : Nat} (hi : i < L) (hL : L < 2 ^ 31) (hd : decode cc pc = .ok (.iaload, 1)) (kk : gj E (mj_XW b L xs) cc k n (pc + 1) Lc (.int (xs i) :: st) h) : gj E (mj_XW b L xs) cc k n pc Lc (.int (nI i) :: .ref 1500 :: st) h := by
  intro p e c args s m meth below A h0 φ0 φ H locs ls S Y
  have K := kk p e c args s m meth below A h0 φ0 φ H locs ls S Y
  obtain ⟨-, -, -, hX, hbl, hbA, hφ, -⟩ := S.2.2.2.2.2.2.2
  have hφ : φ0 1500 = b := hφ
  have e1 : (Value.int (nI i) :: Value.ref 1500 :: st).map (mj_v φ) = .int (nI i) :: .ref b :: st.map (mj_v φ) := by
    have := Y.2.1 1500 (Or.inr (by decide))
    rw [List.map_cons, List.map_cons]
    show _ :: Value.ref (φ 1500) :: _ = _
    rw [this, hφ]; rfl
  rw [e1]
  refine va_sld S.1 S.2.1 hX hbl hbA Y.2.2.2.2.1 (vp_in_nI hi hL) hd ?_
  rw [nI_clamp (Nat.lt_trans hi hL)]
  exact K
theorem gj_slen (hd : decode cc pc = .ok (.arraylength, 1)) (kk : gj E (mj_XW b L xs) cc k n (pc + 1) Lc (.int (nI L) :: st) h) : gj E (mj_XW b L xs) cc k n pc Lc (.ref 1500 :: st) h := by
  intro p e c args s m meth below A h0 φ0 φ H locs ls S Y
  have K := kk p e c args s m meth below A h0 φ0 φ H locs ls S Y
  obtain ⟨-, -, -, hX, hbl, hbA, hφ, -⟩ := S.2.2.2.2.2.2.2
  have hφ : φ0 1500 = b := hφ
  have e1 : (Value.ref 1500 :: st).map (mj_v φ) = .ref b :: st.map (mj_v φ) := by
    have := Y.2.1 1500 (Or.inr (by decide))
    rw [List.map_cons]
    show Value.ref (φ 1500) :: _ = _
    rw [this, hφ]
  rw [e1]
  exact va_slen S.1 S.2.1 hX hbl hbA Y.2.2.2.2.1 hd K
theorem gj_wret (hk : k ≤ 600000) (hn : n ≤ 7302250) (hd : decode code pc = .ok (.ireturn, 1)) : gj E (mj_XW b L xs) code k n pc Lc [.int (nI 1)] h := by
  intro p e c args s m meth below A h0 φ0 φ H locs ls S Y
  obtain ⟨hr, hlk, ha, -, -, -, -, hA⟩ := S.2.2.2.2.2.2.2
  have ha : args = #[Value.ref b] := ha
  subst ha
  refine W.widen hk hn ?_
  refine va_forget (fun q hq => hA _ (Y.2.2.2.2.1.2.2 q hq)) ?_
  exact lw_ret S.1 S.2.1 hr hlk hd
theorem gj_and63 (x : Int32) : ∃ k, k < 64 ∧ x &&& nI 63 = nI k := pk_andE x 6 (by decide)
theorem lw_gt {j : Nat} (hL : L ≤ 384) (hj : j ≤ 65) : (nI L - nI 6 < nI (6 * j)) ↔ L < 6 * j + 6 := by
  have e : (nI L - nI 6).toInt = (L : Int) - 6 := by
    rw [Int32.toInt_sub, nI_toInt (by omega), nI_toInt (by decide)]
    exact Int.bmod_eq_of_le (by omega) (by omega)
  rw [Int32.lt_iff_toInt_lt, e, nI_toInt (by omega)]
  omega
theorem lw_inc {j : Nat} : nI (6 * j) + Int32.ofInt 6 = nI (6 * (j + 1)) := by
  show nI (6 * j) + nI 6 = _
  rw [Nat.mul_add]
  exact nI_add _ _
end MJW
theorem lw_c0 {E : mj_E} {G : mj_H → Prop} {b L k n j : Nat} {xs : Nat → Int32} {h : mj_H} (HG : ∀ h, G h → ∃ (κ : Nat → Bool) (C : Nat → Nat → Nat), h = hh κ C) (g : G h) (hL : L ≤ 384) (hj : 6 * j + 6 ≤ L) (hk : k ≤ 500000) (hn : n ≤ 7000000) (hst : mj_St E G mj_isI iX10_lake iX11_lake [.int (xs (6 * j + 1))] h) (kk : ∀ h', G h' → gj E (mj_XW b L xs) cL_law (k + 100) (n + 1000) 1504 [some (.ref 1500), some (.ref 0), some (.ref 100), some (.int (nI (6 * j)))] [] h') : gj E (mj_XW b L xs) cL_law k n 216 [some (.ref 1500), some (.ref 0), some (.ref 100), some (.int (nI (6 * j)))] [] h := by
  obtain ⟨κ, C, rfl⟩ := HG h g
  obtain ⟨Z1, hE1, hz1⟩ := hst
  refine gj_aload_n dL_law_216 rfl ?_
  refine gj_aload_n dL_law_217 rfl ?_
  refine gj_iload_n dL_law_218 rfl ?_
  refine gj_ic (w := 1) dL_law_219 ?_
  refine gj_iaddN dL_law_220 ?_
  refine gj_sld (i := 6 * j + 1) (by omega) (by omega) dL_law_221 ?_
  refine gj_callV (as := [.int (xs (6 * j + 1))]) lkL_13 (hc0 κ C) rfl rfl hE1 dL_law_222 rfl rfl (Nat.le_of_ble_eq_true rfl) ⟨⟨Nat.le_of_ble_eq_true rfl, Nat.le_of_ble_eq_true rfl⟩, ⟨show k + 0 ≤ 600000 by omega, show n + 0 ≤ 7302250 by omega⟩⟩ (Or.inl rfl) (fun r1 h1 z1 => ?_)
  obtain ⟨⟨v, rfl⟩, ⟨κ1, C1, rfl⟩, Z2, hE2, hz2⟩ := hz1 r1 h1 z1
  refine gj_aload_n dL_law_225 rfl ?_
  refine gj_aload_n dL_law_226 rfl ?_
  refine gj_iload_n dL_law_227 rfl ?_
  refine gj_ic (w := 1) dL_law_228 ?_
  refine gj_iaddN dL_law_229 ?_
  refine gj_sld (i := 6 * j + 1) (by omega) (by omega) dL_law_230 ?_
  refine gj_callV (as := [.int (xs (6 * j + 1))]) (rest := [.int v]) lkL_17 (hc100 κ1 C1) rfl rfl hE2 dL_law_231 rfl rfl (Nat.le_of_ble_eq_true rfl) ⟨⟨Nat.le_of_ble_eq_true rfl, Nat.le_of_ble_eq_true rfl⟩, ⟨show k + 0 + 0 ≤ 600000 by omega, show n + 0 + 0 ≤ 7302250 by omega⟩⟩ (Or.inl rfl) (fun r2 h2 z2 => ?_)
  obtain ⟨rfl, g2⟩ := hz2 r2 h2 z2
  show gj _ _ _ _ _ _ _ [(.int v : Value), .int v] _
  refine gj_icmp_eq (tgt := 1504) dL_law_234 rfl (fun _ => ?_) (fun z => absurd rfl z)
  exact gj_wid (show k + 0 + 0 ≤ k + 100 by omega) (show n + 0 + 0 ≤ n + 1000 by omega) (kk h2 g2)
theorem lw_c1 {E : mj_E} {G : mj_H → Prop} {b L k n j : Nat} {xs : Nat → Int32} {h : mj_H} (HG : ∀ h, G h → ∃ (κ : Nat → Bool) (C : Nat → Nat → Nat), h = hh κ C) (g : G h) (hL : L ≤ 384) (hj : 6 * j + 6 ≤ L) (hk : k ≤ 500000) (hn : n ≤ 7000000) (hst : mj_St E G mj_isI iX10_cell iX11_cell [.int (xs (6 * j + 1)), .int (xs (6 * j + 2))] h) (kk : ∀ h', G h' → gj E (mj_XW b L xs) cL_law (k + 100) (n + 1000) 1504 [some (.ref 1500), some (.ref 0), some (.ref 100), some (.int (nI (6 * j)))] [] h') : gj E (mj_XW b L xs) cL_law k n 239 [some (.ref 1500), some (.ref 0), some (.ref 100), some (.int (nI (6 * j)))] [] h := by
  obtain ⟨κ, C, rfl⟩ := HG h g
  obtain ⟨Z1, hE1, hz1⟩ := hst
  refine gj_aload_n dL_law_239 rfl ?_
  refine gj_aload_n dL_law_240 rfl ?_
  refine gj_iload_n dL_law_241 rfl ?_
  refine gj_ic (w := 1) dL_law_242 ?_
  refine gj_iaddN dL_law_243 ?_
  refine gj_sld (i := 6 * j + 1) (by omega) (by omega) dL_law_244 ?_
  refine gj_aload_n dL_law_245 rfl ?_
  refine gj_iload_n dL_law_246 rfl ?_
  refine gj_ic (w := 2) dL_law_247 ?_
  refine gj_iaddN dL_law_248 ?_
  refine gj_sld (i := 6 * j + 2) (by omega) (by omega) dL_law_249 ?_
  refine gj_callV (as := [.int (xs (6 * j + 1)), .int (xs (6 * j + 2))]) lkL_18 (hc0 κ C) rfl rfl hE1 dL_law_250 rfl rfl (Nat.le_of_ble_eq_true rfl) ⟨⟨Nat.le_of_ble_eq_true rfl, Nat.le_of_ble_eq_true rfl⟩, ⟨show k + 0 ≤ 600000 by omega, show n + 0 ≤ 7302250 by omega⟩⟩ (Or.inl rfl) (fun r1 h1 z1 => ?_)
  obtain ⟨⟨v, rfl⟩, ⟨κ1, C1, rfl⟩, Z2, hE2, hz2⟩ := hz1 r1 h1 z1
  refine gj_aload_n dL_law_253 rfl ?_
  refine gj_aload_n dL_law_254 rfl ?_
  refine gj_iload_n dL_law_255 rfl ?_
  refine gj_ic (w := 1) dL_law_256 ?_
  refine gj_iaddN dL_law_257 ?_
  refine gj_sld (i := 6 * j + 1) (by omega) (by omega) dL_law_258 ?_
  refine gj_aload_n dL_law_259 rfl ?_
  refine gj_iload_n dL_law_260 rfl ?_
  refine gj_ic (w := 2) dL_law_261 ?_
  refine gj_iaddN dL_law_262 ?_
  refine gj_sld (i := 6 * j + 2) (by omega) (by omega) dL_law_263 ?_
  refine gj_callV (as := [.int (xs (6 * j + 1)), .int (xs (6 * j + 2))]) (rest := [.int v]) lkL_22 (hc100 κ1 C1) rfl rfl hE2 dL_law_264 rfl rfl (Nat.le_of_ble_eq_true rfl) ⟨⟨Nat.le_of_ble_eq_true rfl, Nat.le_of_ble_eq_true rfl⟩, ⟨show k + 0 + 0 ≤ 600000 by omega, show n + 0 + 0 ≤ 7302250 by omega⟩⟩ (Or.inl rfl) (fun r2 h2 z2 => ?_)
  obtain ⟨rfl, g2⟩ := hz2 r2 h2 z2
  show gj _ _ _ _ _ _ _ [(.int v : Value), .int v] _
  refine gj_icmp_eq (tgt := 1504) dL_law_267 rfl (fun _ => ?_) (fun z => absurd rfl z)
  exact gj_wid (show k + 0 + 0 ≤ k + 100 by omega) (show n + 0 + 0 ≤ n + 1000 by omega) (kk h2 g2)
theorem lw_c2 {E : mj_E} {G : mj_H → Prop} {b L k n j : Nat} {xs : Nat → Int32} {h : mj_H} (HG : ∀ h, G h → ∃ (κ : Nat → Bool) (C : Nat → Nat → Nat), h = hh κ C) (g : G h) (hL : L ≤ 384) (hj : 6 * j + 6 ≤ L) (hk : k ≤ 500000) (hn : n ≤ 7000000) (hst : mj_St E G mj_isI iX10_weather iX11_weather [.int (xs (6 * j + 1)), .int (xs (6 * j + 2)), .int (xs (6 * j + 3))] h) (kk : ∀ h', G h' → gj E (mj_XW b L xs) cL_law (k + 100) (n + 1000) 1504 [some (.ref 1500), some (.ref 0), some (.ref 100), some (.int (nI (6 * j)))] [] h') : gj E (mj_XW b L xs) cL_law k n 272 [some (.ref 1500), some (.ref 0), some (.ref 100), some (.int (nI (6 * j)))] [] h := by
  obtain ⟨κ, C, rfl⟩ := HG h g
  obtain ⟨Z1, hE1, hz1⟩ := hst
  refine gj_aload_n dL_law_272 rfl ?_
  refine gj_aload_n dL_law_273 rfl ?_
  refine gj_iload_n dL_law_274 rfl ?_
  refine gj_ic (w := 1) dL_law_275 ?_
  refine gj_iaddN dL_law_276 ?_
  refine gj_sld (i := 6 * j + 1) (by omega) (by omega) dL_law_277 ?_
  refine gj_aload_n dL_law_278 rfl ?_
  refine gj_iload_n dL_law_279 rfl ?_
  refine gj_ic (w := 2) dL_law_280 ?_
  refine gj_iaddN dL_law_281 ?_
  refine gj_sld (i := 6 * j + 2) (by omega) (by omega) dL_law_282 ?_
  refine gj_aload_n dL_law_283 rfl ?_
  refine gj_iload_n dL_law_284 rfl ?_
  refine gj_ic (w := 3) dL_law_285 ?_
  refine gj_iaddN dL_law_286 ?_
  refine gj_sld (i := 6 * j + 3) (by omega) (by omega) dL_law_287 ?_
  refine gj_callV (as := [.int (xs (6 * j + 1)), .int (xs (6 * j + 2)), .int (xs (6 * j + 3))]) lkL_23 (hc0 κ C) rfl rfl hE1 dL_law_288 rfl rfl (Nat.le_of_ble_eq_true rfl) ⟨⟨Nat.le_of_ble_eq_true rfl, Nat.le_of_ble_eq_true rfl⟩, ⟨show k + 0 ≤ 600000 by omega, show n + 0 ≤ 7302250 by omega⟩⟩ (Or.inl rfl) (fun r1 h1 z1 => ?_)
  obtain ⟨⟨v, rfl⟩, ⟨κ1, C1, rfl⟩, Z2, hE2, hz2⟩ := hz1 r1 h1 z1
  refine gj_aload_n dL_law_291 rfl ?_
  refine gj_aload_n dL_law_292 rfl ?_
  refine gj_iload_n dL_law_293 rfl ?_
  refine gj_ic (w := 1) dL_law_294 ?_
  refine gj_iaddN dL_law_295 ?_
  refine gj_sld (i := 6 * j + 1) (by omega) (by omega) dL_law_296 ?_
  refine gj_aload_n dL_law_297 rfl ?_
  refine gj_iload_n dL_law_298 rfl ?_
  refine gj_ic (w := 2) dL_law_299 ?_
  refine gj_iaddN dL_law_300 ?_
  refine gj_sld (i := 6 * j + 2) (by omega) (by omega) dL_law_301 ?_
  refine gj_aload_n dL_law_302 rfl ?_
  refine gj_iload_n dL_law_303 rfl ?_
  refine gj_ic (w := 3) dL_law_304 ?_
  refine gj_iaddN dL_law_305 ?_
  refine gj_sld (i := 6 * j + 3) (by omega) (by omega) dL_law_306 ?_
  refine gj_callV (as := [.int (xs (6 * j + 1)), .int (xs (6 * j + 2)), .int (xs (6 * j + 3))]) (rest := [.int v]) lkL_27 (hc100 κ1 C1) rfl rfl hE2 dL_law_307 rfl rfl (Nat.le_of_ble_eq_true rfl) ⟨⟨Nat.le_of_ble_eq_true rfl, Nat.le_of_ble_eq_true rfl⟩, ⟨show k + 0 + 0 ≤ 600000 by omega, show n + 0 + 0 ≤ 7302250 by omega⟩⟩ (Or.inl rfl) (fun r2 h2 z2 => ?_)
  obtain ⟨rfl, g2⟩ := hz2 r2 h2 z2
  show gj _ _ _ _ _ _ _ [(.int v : Value), .int v] _
  refine gj_icmp_eq (tgt := 1504) dL_law_310 rfl (fun _ => ?_) (fun z => absurd rfl z)
  exact gj_wid (show k + 0 + 0 ≤ k + 100 by omega) (show n + 0 + 0 ≤ n + 1000 by omega) (kk h2 g2)
theorem lw_c3 {E : mj_E} {G : mj_H → Prop} {b L k n j : Nat} {xs : Nat → Int32} {h : mj_H} (HG : ∀ h, G h → ∃ (κ : Nat → Bool) (C : Nat → Nat → Nat), h = hh κ C) (g : G h) (hL : L ≤ 384) (hj : 6 * j + 6 ≤ L) (hk : k ≤ 500000) (hn : n ≤ 7000000) (hst : mj_St E G mj_isI iX10_ward iX11_ward [.int (xs (6 * j + 1)), .int (xs (6 * j + 2))] h) (kk : ∀ h', G h' → gj E (mj_XW b L xs) cL_law (k + 100) (n + 1000) 1504 [some (.ref 1500), some (.ref 0), some (.ref 100), some (.int (nI (6 * j)))] [] h') : gj E (mj_XW b L xs) cL_law k n 315 [some (.ref 1500), some (.ref 0), some (.ref 100), some (.int (nI (6 * j)))] [] h := by
  obtain ⟨κ, C, rfl⟩ := HG h g
  obtain ⟨Z1, hE1, hz1⟩ := hst
  refine gj_aload_n dL_law_315 rfl ?_
  refine gj_aload_n dL_law_316 rfl ?_
  refine gj_iload_n dL_law_317 rfl ?_
  refine gj_ic (w := 1) dL_law_318 ?_
  refine gj_iaddN dL_law_319 ?_
  refine gj_sld (i := 6 * j + 1) (by omega) (by omega) dL_law_320 ?_
  refine gj_aload_n dL_law_321 rfl ?_
  refine gj_iload_n dL_law_322 rfl ?_
  refine gj_ic (w := 2) dL_law_323 ?_
  refine gj_iaddN dL_law_324 ?_
  refine gj_sld (i := 6 * j + 2) (by omega) (by omega) dL_law_325 ?_
  refine gj_callV (as := [.int (xs (6 * j + 1)), .int (xs (6 * j + 2))]) lkL_28 (hc0 κ C) rfl rfl hE1 dL_law_326 rfl rfl (Nat.le_of_ble_eq_true rfl) ⟨⟨Nat.le_of_ble_eq_true rfl, Nat.le_of_ble_eq_true rfl⟩, ⟨show k + 0 ≤ 600000 by omega, show n + 0 ≤ 7302250 by omega⟩⟩ (Or.inl rfl) (fun r1 h1 z1 => ?_)
  obtain ⟨⟨v, rfl⟩, ⟨κ1, C1, rfl⟩, Z2, hE2, hz2⟩ := hz1 r1 h1 z1
  refine gj_aload_n dL_law_329 rfl ?_
  refine gj_aload_n dL_law_330 rfl ?_
  refine gj_iload_n dL_law_331 rfl ?_
  refine gj_ic (w := 1) dL_law_332 ?_
  refine gj_iaddN dL_law_333 ?_
  refine gj_sld (i := 6 * j + 1) (by omega) (by omega) dL_law_334 ?_
  refine gj_aload_n dL_law_335 rfl ?_
  refine gj_iload_n dL_law_336 rfl ?_
  refine gj_ic (w := 2) dL_law_337 ?_
  refine gj_iaddN dL_law_338 ?_
  refine gj_sld (i := 6 * j + 2) (by omega) (by omega) dL_law_339 ?_
  refine gj_callV (as := [.int (xs (6 * j + 1)), .int (xs (6 * j + 2))]) (rest := [.int v]) lkL_31 (hc100 κ1 C1) rfl rfl hE2 dL_law_340 rfl rfl (Nat.le_of_ble_eq_true rfl) ⟨⟨Nat.le_of_ble_eq_true rfl, Nat.le_of_ble_eq_true rfl⟩, ⟨show k + 0 + 0 ≤ 600000 by omega, show n + 0 + 0 ≤ 7302250 by omega⟩⟩ (Or.inl rfl) (fun r2 h2 z2 => ?_)
  obtain ⟨rfl, g2⟩ := hz2 r2 h2 z2
  show gj _ _ _ _ _ _ _ [(.int v : Value), .int v] _
  refine gj_icmp_eq (tgt := 1504) dL_law_343 rfl (fun _ => ?_) (fun z => absurd rfl z)
  exact gj_wid (show k + 0 + 0 ≤ k + 100 by omega) (show n + 0 + 0 ≤ n + 1000 by omega) (kk h2 g2)
theorem lw_c4 {E : mj_E} {G : mj_H → Prop} {b L k n j : Nat} {xs : Nat → Int32} {h : mj_H} (HG : ∀ h, G h → ∃ (κ : Nat → Bool) (C : Nat → Nat → Nat), h = hh κ C) (g : G h) (hL : L ≤ 384) (hj : 6 * j + 6 ≤ L) (hk : k ≤ 500000) (hn : n ≤ 7000000) (hst : mj_St E G mj_isI iX10_voter iX11_voter [.int (xs (6 * j + 1)), .int (xs (6 * j + 2)), .int (xs (6 * j + 3))] h) (kk : ∀ h', G h' → gj E (mj_XW b L xs) cL_law (k + 100) (n + 1000) 1504 [some (.ref 1500), some (.ref 0), some (.ref 100), some (.int (nI (6 * j)))] [] h') : gj E (mj_XW b L xs) cL_law k n 348 [some (.ref 1500), some (.ref 0), some (.ref 100), some (.int (nI (6 * j)))] [] h := by
  obtain ⟨κ, C, rfl⟩ := HG h g
  obtain ⟨Z1, hE1, hz1⟩ := hst
  refine gj_aload_n dL_law_348 rfl ?_
  refine gj_aload_n dL_law_349 rfl ?_
  refine gj_iload_n dL_law_350 rfl ?_
  refine gj_ic (w := 1) dL_law_351 ?_
  refine gj_iaddN dL_law_352 ?_
  refine gj_sld (i := 6 * j + 1) (by omega) (by omega) dL_law_353 ?_
  refine gj_aload_n dL_law_354 rfl ?_
  refine gj_iload_n dL_law_355 rfl ?_
  refine gj_ic (w := 2) dL_law_356 ?_
  refine gj_iaddN dL_law_357 ?_
  refine gj_sld (i := 6 * j + 2) (by omega) (by omega) dL_law_358 ?_
  refine gj_aload_n dL_law_359 rfl ?_
  refine gj_iload_n dL_law_360 rfl ?_
  refine gj_ic (w := 3) dL_law_361 ?_
  refine gj_iaddN dL_law_362 ?_
  refine gj_sld (i := 6 * j + 3) (by omega) (by omega) dL_law_363 ?_
  refine gj_callV (as := [.int (xs (6 * j + 1)), .int (xs (6 * j + 2)), .int (xs (6 * j + 3))]) lkL_32 (hc0 κ C) rfl rfl hE1 dL_law_364 rfl rfl (Nat.le_of_ble_eq_true rfl) ⟨⟨Nat.le_of_ble_eq_true rfl, Nat.le_of_ble_eq_true rfl⟩, ⟨show k + 0 ≤ 600000 by omega, show n + 0 ≤ 7302250 by omega⟩⟩ (Or.inl rfl) (fun r1 h1 z1 => ?_)
  obtain ⟨⟨v, rfl⟩, ⟨κ1, C1, rfl⟩, Z2, hE2, hz2⟩ := hz1 r1 h1 z1
  refine gj_aload_n dL_law_367 rfl ?_
  refine gj_aload_n dL_law_368 rfl ?_
  refine gj_iload_n dL_law_369 rfl ?_
  refine gj_ic (w := 1) dL_law_370 ?_
  refine gj_iaddN dL_law_371 ?_
  refine gj_sld (i := 6 * j + 1) (by omega) (by omega) dL_law_372 ?_
  refine gj_aload_n dL_law_373 rfl ?_
  refine gj_iload_n dL_law_374 rfl ?_
  refine gj_ic (w := 2) dL_law_375 ?_
  refine gj_iaddN dL_law_376 ?_
  refine gj_sld (i := 6 * j + 2) (by omega) (by omega) dL_law_377 ?_
  refine gj_aload_n dL_law_378 rfl ?_
  refine gj_iload_n dL_law_379 rfl ?_
  refine gj_ic (w := 3) dL_law_380 ?_
  refine gj_iaddN dL_law_381 ?_
  refine gj_sld (i := 6 * j + 3) (by omega) (by omega) dL_law_382 ?_
  refine gj_callV (as := [.int (xs (6 * j + 1)), .int (xs (6 * j + 2)), .int (xs (6 * j + 3))]) (rest := [.int v]) lkL_35 (hc100 κ1 C1) rfl rfl hE2 dL_law_383 rfl rfl (Nat.le_of_ble_eq_true rfl) ⟨⟨Nat.le_of_ble_eq_true rfl, Nat.le_of_ble_eq_true rfl⟩, ⟨show k + 0 + 0 ≤ 600000 by omega, show n + 0 + 0 ≤ 7302250 by omega⟩⟩ (Or.inl rfl) (fun r2 h2 z2 => ?_)
  obtain ⟨rfl, g2⟩ := hz2 r2 h2 z2
  show gj _ _ _ _ _ _ _ [(.int v : Value), .int v] _
  refine gj_icmp_eq (tgt := 1504) dL_law_386 rfl (fun _ => ?_) (fun z => absurd rfl z)
  exact gj_wid (show k + 0 + 0 ≤ k + 100 by omega) (show n + 0 + 0 ≤ n + 1000 by omega) (kk h2 g2)
theorem lw_c5 {E : mj_E} {G : mj_H → Prop} {b L k n j : Nat} {xs : Nat → Int32} {h : mj_H} (HG : ∀ h, G h → ∃ (κ : Nat → Bool) (C : Nat → Nat → Nat), h = hh κ C) (g : G h) (hL : L ≤ 384) (hj : 6 * j + 6 ≤ L) (hk : k ≤ 500000) (hn : n ≤ 7000000) (hst : mj_St E G mj_isI iX10_type iX11_type [.int (xs (6 * j + 1))] h) (kk : ∀ h', G h' → gj E (mj_XW b L xs) cL_law (k + 100) (n + 1000) 1504 [some (.ref 1500), some (.ref 0), some (.ref 100), some (.int (nI (6 * j)))] [] h') : gj E (mj_XW b L xs) cL_law k n 391 [some (.ref 1500), some (.ref 0), some (.ref 100), some (.int (nI (6 * j)))] [] h := by
  obtain ⟨κ, C, rfl⟩ := HG h g
  obtain ⟨Z1, hE1, hz1⟩ := hst
  refine gj_aload_n dL_law_391 rfl ?_
  refine gj_aload_n dL_law_392 rfl ?_
  refine gj_iload_n dL_law_393 rfl ?_
  refine gj_ic (w := 1) dL_law_394 ?_
  refine gj_iaddN dL_law_395 ?_
  refine gj_sld (i := 6 * j + 1) (by omega) (by omega) dL_law_396 ?_
  refine gj_callV (as := [.int (xs (6 * j + 1))]) lkL_36 (hc0 κ C) rfl rfl hE1 dL_law_397 rfl rfl (Nat.le_of_ble_eq_true rfl) ⟨⟨Nat.le_of_ble_eq_true rfl, Nat.le_of_ble_eq_true rfl⟩, ⟨show k + 0 ≤ 600000 by omega, show n + 0 ≤ 7302250 by omega⟩⟩ (Or.inl rfl) (fun r1 h1 z1 => ?_)
  obtain ⟨⟨v, rfl⟩, ⟨κ1, C1, rfl⟩, Z2, hE2, hz2⟩ := hz1 r1 h1 z1
  refine gj_aload_n dL_law_400 rfl ?_
  refine gj_aload_n dL_law_401 rfl ?_
  refine gj_iload_n dL_law_402 rfl ?_
  refine gj_ic (w := 1) dL_law_403 ?_
  refine gj_iaddN dL_law_404 ?_
  refine gj_sld (i := 6 * j + 1) (by omega) (by omega) dL_law_405 ?_
  refine gj_callV (as := [.int (xs (6 * j + 1))]) (rest := [.int v]) lkL_39 (hc100 κ1 C1) rfl rfl hE2 dL_law_406 rfl rfl (Nat.le_of_ble_eq_true rfl) ⟨⟨Nat.le_of_ble_eq_true rfl, Nat.le_of_ble_eq_true rfl⟩, ⟨show k + 0 + 0 ≤ 600000 by omega, show n + 0 + 0 ≤ 7302250 by omega⟩⟩ (Or.inl rfl) (fun r2 h2 z2 => ?_)
  obtain ⟨rfl, g2⟩ := hz2 r2 h2 z2
  show gj _ _ _ _ _ _ _ [(.int v : Value), .int v] _
  refine gj_icmp_eq (tgt := 1504) dL_law_409 rfl (fun _ => ?_) (fun z => absurd rfl z)
  exact gj_wid (show k + 0 + 0 ≤ k + 100 by omega) (show n + 0 + 0 ≤ n + 1000 by omega) (kk h2 g2)
theorem lw_c6 {E : mj_E} {G : mj_H → Prop} {b L k n j : Nat} {xs : Nat → Int32} {h : mj_H} (HG : ∀ h, G h → ∃ (κ : Nat → Bool) (C : Nat → Nat → Nat), h = hh κ C) (g : G h) (hL : L ≤ 384) (hj : 6 * j + 6 ≤ L) (hk : k ≤ 500000) (hn : n ≤ 7000000) (hst : mj_St E G mj_isI iX10_clear iX11_clear [] h) (kk : ∀ h', G h' → gj E (mj_XW b L xs) cL_law (k + 100) (n + 1000) 1504 [some (.ref 1500), some (.ref 0), some (.ref 100), some (.int (nI (6 * j)))] [] h') : gj E (mj_XW b L xs) cL_law k n 414 [some (.ref 1500), some (.ref 0), some (.ref 100), some (.int (nI (6 * j)))] [] h := by
  obtain ⟨κ, C, rfl⟩ := HG h g
  obtain ⟨Z1, hE1, hz1⟩ := hst
  refine gj_aload_n dL_law_414 rfl ?_
  refine gj_callV (as := []) lkL_40 (hc0 κ C) rfl rfl hE1 dL_law_415 rfl rfl (Nat.le_of_ble_eq_true rfl) ⟨⟨Nat.le_of_ble_eq_true rfl, Nat.le_of_ble_eq_true rfl⟩, ⟨show k + 0 ≤ 600000 by omega, show n + 0 ≤ 7302250 by omega⟩⟩ (Or.inl rfl) (fun r1 h1 z1 => ?_)
  obtain ⟨⟨v, rfl⟩, ⟨κ1, C1, rfl⟩, Z2, hE2, hz2⟩ := hz1 r1 h1 z1
  refine gj_aload_n dL_law_418 rfl ?_
  refine gj_callV (as := []) (rest := [.int v]) lkL_44 (hc100 κ1 C1) rfl rfl hE2 dL_law_419 rfl rfl (Nat.le_of_ble_eq_true rfl) ⟨⟨Nat.le_of_ble_eq_true rfl, Nat.le_of_ble_eq_true rfl⟩, ⟨show k + 0 + 0 ≤ 600000 by omega, show n + 0 + 0 ≤ 7302250 by omega⟩⟩ (Or.inl rfl) (fun r2 h2 z2 => ?_)
  obtain ⟨rfl, g2⟩ := hz2 r2 h2 z2
  show gj _ _ _ _ _ _ _ [(.int v : Value), .int v] _
  refine gj_icmp_eq (tgt := 1504) dL_law_422 rfl (fun _ => ?_) (fun z => absurd rfl z)
  exact gj_wid (show k + 0 + 0 ≤ k + 100 by omega) (show n + 0 + 0 ≤ n + 1000 by omega) (kk h2 g2)
theorem lw_c7 {E : mj_E} {G : mj_H → Prop} {b L k n j : Nat} {xs : Nat → Int32} {h : mj_H} (HG : ∀ h, G h → ∃ (κ : Nat → Bool) (C : Nat → Nat → Nat), h = hh κ C) (g : G h) (hL : L ≤ 384) (hj : 6 * j + 6 ≤ L) (hk : k ≤ 500000) (hn : n ≤ 7000000) (hst : mj_St E G mj_isI iX10_read iX11_read [] h) (kk : ∀ h', G h' → gj E (mj_XW b L xs) cL_law (k + 100) (n + 1000) 1504 [some (.ref 1500), some (.ref 0), some (.ref 100), some (.int (nI (6 * j)))] [] h') : gj E (mj_XW b L xs) cL_law k n 427 [some (.ref 1500), some (.ref 0), some (.ref 100), some (.int (nI (6 * j)))] [] h := by
  obtain ⟨κ, C, rfl⟩ := HG h g
  obtain ⟨Z1, hE1, hz1⟩ := hst
  refine gj_aload_n dL_law_427 rfl ?_
  refine gj_callV (as := []) lkL_45 (hc0 κ C) rfl rfl hE1 dL_law_428 rfl rfl (Nat.le_of_ble_eq_true rfl) ⟨⟨Nat.le_of_ble_eq_true rfl, Nat.le_of_ble_eq_true rfl⟩, ⟨show k + 0 ≤ 600000 by omega, show n + 0 ≤ 7302250 by omega⟩⟩ (Or.inl rfl) (fun r1 h1 z1 => ?_)
  obtain ⟨⟨v, rfl⟩, ⟨κ1, C1, rfl⟩, Z2, hE2, hz2⟩ := hz1 r1 h1 z1
  refine gj_aload_n dL_law_431 rfl ?_
  refine gj_callV (as := []) (rest := [.int v]) lkL_48 (hc100 κ1 C1) rfl rfl hE2 dL_law_432 rfl rfl (Nat.le_of_ble_eq_true rfl) ⟨⟨Nat.le_of_ble_eq_true rfl, Nat.le_of_ble_eq_true rfl⟩, ⟨show k + 0 + 0 ≤ 600000 by omega, show n + 0 + 0 ≤ 7302250 by omega⟩⟩ (Or.inl rfl) (fun r2 h2 z2 => ?_)
  obtain ⟨rfl, g2⟩ := hz2 r2 h2 z2
  show gj _ _ _ _ _ _ _ [(.int v : Value), .int v] _
  refine gj_icmp_eq (tgt := 1504) dL_law_435 rfl (fun _ => ?_) (fun z => absurd rfl z)
  exact gj_wid (show k + 0 + 0 ≤ k + 100 by omega) (show n + 0 + 0 ≤ n + 1000 by omega) (kk h2 g2)
theorem lw_c8 {E : mj_E} {G : mj_H → Prop} {b L k n j : Nat} {xs : Nat → Int32} {h : mj_H} (HG : ∀ h, G h → ∃ (κ : Nat → Bool) (C : Nat → Nat → Nat), h = hh κ C) (g : G h) (hL : L ≤ 384) (hj : 6 * j + 6 ≤ L) (hk : k ≤ 500000) (hn : n ≤ 7000000) (hst : mj_St E G mj_isI iX10_day iX11_day [.int (xs (6 * j + 1))] h) (kk : ∀ h', G h' → gj E (mj_XW b L xs) cL_law (k + 100) (n + 1000) 1504 [some (.ref 1500), some (.ref 0), some (.ref 100), some (.int (nI (6 * j)))] [] h') : gj E (mj_XW b L xs) cL_law k n 440 [some (.ref 1500), some (.ref 0), some (.ref 100), some (.int (nI (6 * j)))] [] h := by
  obtain ⟨κ, C, rfl⟩ := HG h g
  obtain ⟨Z1, hE1, hz1⟩ := hst
  refine gj_aload_n dL_law_440 rfl ?_
  refine gj_aload_n dL_law_441 rfl ?_
  refine gj_iload_n dL_law_442 rfl ?_
  refine gj_ic (w := 1) dL_law_443 ?_
  refine gj_iaddN dL_law_444 ?_
  refine gj_sld (i := 6 * j + 1) (by omega) (by omega) dL_law_445 ?_
  refine gj_callV (as := [.int (xs (6 * j + 1))]) lkL_49 (hc0 κ C) rfl rfl hE1 dL_law_446 rfl rfl (Nat.le_of_ble_eq_true rfl) ⟨⟨Nat.le_of_ble_eq_true rfl, Nat.le_of_ble_eq_true rfl⟩, ⟨show k + 0 ≤ 600000 by omega, show n + 0 ≤ 7302250 by omega⟩⟩ (Or.inl rfl) (fun r1 h1 z1 => ?_)
  obtain ⟨⟨v, rfl⟩, ⟨κ1, C1, rfl⟩, Z2, hE2, hz2⟩ := hz1 r1 h1 z1
  refine gj_aload_n dL_law_449 rfl ?_
  refine gj_aload_n dL_law_450 rfl ?_
  refine gj_iload_n dL_law_451 rfl ?_
  refine gj_ic (w := 1) dL_law_452 ?_
  refine gj_iaddN dL_law_453 ?_
  refine gj_sld (i := 6 * j + 1) (by omega) (by omega) dL_law_454 ?_
  refine gj_callV (as := [.int (xs (6 * j + 1))]) (rest := [.int v]) lkL_52 (hc100 κ1 C1) rfl rfl hE2 dL_law_455 rfl rfl (Nat.le_of_ble_eq_true rfl) ⟨⟨Nat.le_of_ble_eq_true rfl, Nat.le_of_ble_eq_true rfl⟩, ⟨show k + 0 + 0 ≤ 600000 by omega, show n + 0 + 0 ≤ 7302250 by omega⟩⟩ (Or.inl rfl) (fun r2 h2 z2 => ?_)
  obtain ⟨rfl, g2⟩ := hz2 r2 h2 z2
  show gj _ _ _ _ _ _ _ [(.int v : Value), .int v] _
  refine gj_icmp_eq (tgt := 1504) dL_law_458 rfl (fun _ => ?_) (fun z => absurd rfl z)
  exact gj_wid (show k + 0 + 0 ≤ k + 100 by omega) (show n + 0 + 0 ≤ n + 1000 by omega) (kk h2 g2)
theorem lw_c9 {E : mj_E} {G : mj_H → Prop} {b L k n j : Nat} {xs : Nat → Int32} {h : mj_H} (HG : ∀ h, G h → ∃ (κ : Nat → Bool) (C : Nat → Nat → Nat), h = hh κ C) (g : G h) (hL : L ≤ 384) (hj : 6 * j + 6 ≤ L) (hk : k ≤ 500000) (hn : n ≤ 7000000) (hst : mj_St E G mj_isI iX10_tread iX11_tread [.int (xs (6 * j + 1)), .int (xs (6 * j + 2))] h) (kk : ∀ h', G h' → gj E (mj_XW b L xs) cL_law (k + 100) (n + 1000) 1504 [some (.ref 1500), some (.ref 0), some (.ref 100), some (.int (nI (6 * j)))] [] h') : gj E (mj_XW b L xs) cL_law k n 463 [some (.ref 1500), some (.ref 0), some (.ref 100), some (.int (nI (6 * j)))] [] h := by
  obtain ⟨κ, C, rfl⟩ := HG h g
  obtain ⟨Z1, hE1, hz1⟩ := hst
  refine gj_aload_n dL_law_463 rfl ?_
  refine gj_aload_n dL_law_464 rfl ?_
  refine gj_iload_n dL_law_465 rfl ?_
  refine gj_ic (w := 1) dL_law_466 ?_
  refine gj_iaddN dL_law_467 ?_
  refine gj_sld (i := 6 * j + 1) (by omega) (by omega) dL_law_468 ?_
  refine gj_aload_n dL_law_469 rfl ?_
  refine gj_iload_n dL_law_470 rfl ?_
  refine gj_ic (w := 2) dL_law_471 ?_
  refine gj_iaddN dL_law_472 ?_
  refine gj_sld (i := 6 * j + 2) (by omega) (by omega) dL_law_473 ?_
  refine gj_callV (as := [.int (xs (6 * j + 1)), .int (xs (6 * j + 2))]) lkL_53 (hc0 κ C) rfl rfl hE1 dL_law_474 rfl rfl (Nat.le_of_ble_eq_true rfl) ⟨⟨Nat.le_of_ble_eq_true rfl, Nat.le_of_ble_eq_true rfl⟩, ⟨show k + 0 ≤ 600000 by omega, show n + 0 ≤ 7302250 by omega⟩⟩ (Or.inl rfl) (fun r1 h1 z1 => ?_)
  obtain ⟨⟨v, rfl⟩, ⟨κ1, C1, rfl⟩, Z2, hE2, hz2⟩ := hz1 r1 h1 z1
  refine gj_aload_n dL_law_477 rfl ?_
  refine gj_aload_n dL_law_478 rfl ?_
  refine gj_iload_n dL_law_479 rfl ?_
  refine gj_ic (w := 1) dL_law_480 ?_
  refine gj_iaddN dL_law_481 ?_
  refine gj_sld (i := 6 * j + 1) (by omega) (by omega) dL_law_482 ?_
  refine gj_aload_n dL_law_483 rfl ?_
  refine gj_iload_n dL_law_484 rfl ?_
  refine gj_ic (w := 2) dL_law_485 ?_
  refine gj_iaddN dL_law_486 ?_
  refine gj_sld (i := 6 * j + 2) (by omega) (by omega) dL_law_487 ?_
  refine gj_callV (as := [.int (xs (6 * j + 1)), .int (xs (6 * j + 2))]) (rest := [.int v]) lkL_56 (hc100 κ1 C1) rfl rfl hE2 dL_law_488 rfl rfl (Nat.le_of_ble_eq_true rfl) ⟨⟨Nat.le_of_ble_eq_true rfl, Nat.le_of_ble_eq_true rfl⟩, ⟨show k + 0 + 0 ≤ 600000 by omega, show n + 0 + 0 ≤ 7302250 by omega⟩⟩ (Or.inl rfl) (fun r2 h2 z2 => ?_)
  obtain ⟨rfl, g2⟩ := hz2 r2 h2 z2
  show gj _ _ _ _ _ _ _ [(.int v : Value), .int v] _
  refine gj_icmp_eq (tgt := 1504) dL_law_491 rfl (fun _ => ?_) (fun z => absurd rfl z)
  exact gj_wid (show k + 0 + 0 ≤ k + 100 by omega) (show n + 0 + 0 ≤ n + 1000 by omega) (kk h2 g2)
theorem lw_c10 {E : mj_E} {G : mj_H → Prop} {b L k n j : Nat} {xs : Nat → Int32} {h : mj_H} (HG : ∀ h, G h → ∃ (κ : Nat → Bool) (C : Nat → Nat → Nat), h = hh κ C) (g : G h) (hL : L ≤ 384) (hj : 6 * j + 6 ≤ L) (hk : k ≤ 500000) (hn : n ≤ 7000000) (hst : mj_St E G mj_isI iX10_stone iX11_stone [.int (xs (6 * j + 1))] h) (kk : ∀ h', G h' → gj E (mj_XW b L xs) cL_law (k + 100) (n + 1000) 1504 [some (.ref 1500), some (.ref 0), some (.ref 100), some (.int (nI (6 * j)))] [] h') : gj E (mj_XW b L xs) cL_law k n 496 [some (.ref 1500), some (.ref 0), some (.ref 100), some (.int (nI (6 * j)))] [] h := by
  obtain ⟨κ, C, rfl⟩ := HG h g
  obtain ⟨Z1, hE1, hz1⟩ := hst
  refine gj_aload_n dL_law_496 rfl ?_
  refine gj_aload_n dL_law_497 rfl ?_
  refine gj_iload_n dL_law_498 rfl ?_
  refine gj_ic (w := 1) dL_law_499 ?_
  refine gj_iaddN dL_law_500 ?_
  refine gj_sld (i := 6 * j + 1) (by omega) (by omega) dL_law_501 ?_
  refine gj_callV (as := [.int (xs (6 * j + 1))]) lkL_57 (hc0 κ C) rfl rfl hE1 dL_law_502 rfl rfl (Nat.le_of_ble_eq_true rfl) ⟨⟨Nat.le_of_ble_eq_true rfl, Nat.le_of_ble_eq_true rfl⟩, ⟨show k + 0 ≤ 600000 by omega, show n + 0 ≤ 7302250 by omega⟩⟩ (Or.inl rfl) (fun r1 h1 z1 => ?_)
  obtain ⟨⟨v, rfl⟩, ⟨κ1, C1, rfl⟩, Z2, hE2, hz2⟩ := hz1 r1 h1 z1
  refine gj_aload_n dL_law_505 rfl ?_
  refine gj_aload_n dL_law_506 rfl ?_
  refine gj_iload_n dL_law_507 rfl ?_
  refine gj_ic (w := 1) dL_law_508 ?_
  refine gj_iaddN dL_law_509 ?_
  refine gj_sld (i := 6 * j + 1) (by omega) (by omega) dL_law_510 ?_
  refine gj_callV (as := [.int (xs (6 * j + 1))]) (rest := [.int v]) lkL_60 (hc100 κ1 C1) rfl rfl hE2 dL_law_511 rfl rfl (Nat.le_of_ble_eq_true rfl) ⟨⟨Nat.le_of_ble_eq_true rfl, Nat.le_of_ble_eq_true rfl⟩, ⟨show k + 0 + 0 ≤ 600000 by omega, show n + 0 + 0 ≤ 7302250 by omega⟩⟩ (Or.inl rfl) (fun r2 h2 z2 => ?_)
  obtain ⟨rfl, g2⟩ := hz2 r2 h2 z2
  show gj _ _ _ _ _ _ _ [(.int v : Value), .int v] _
  refine gj_icmp_eq (tgt := 1504) dL_law_514 rfl (fun _ => ?_) (fun z => absurd rfl z)
  exact gj_wid (show k + 0 + 0 ≤ k + 100 by omega) (show n + 0 + 0 ≤ n + 1000 by omega) (kk h2 g2)
theorem lw_c11 {E : mj_E} {G : mj_H → Prop} {b L k n j : Nat} {xs : Nat → Int32} {h : mj_H} (HG : ∀ h, G h → ∃ (κ : Nat → Bool) (C : Nat → Nat → Nat), h = hh κ C) (g : G h) (hL : L ≤ 384) (hj : 6 * j + 6 ≤ L) (hk : k ≤ 500000) (hn : n ≤ 7000000) (hst : mj_St E G mj_isI iX10_undo iX11_undo [] h) (kk : ∀ h', G h' → gj E (mj_XW b L xs) cL_law (k + 100) (n + 1000) 1504 [some (.ref 1500), some (.ref 0), some (.ref 100), some (.int (nI (6 * j)))] [] h') : gj E (mj_XW b L xs) cL_law k n 519 [some (.ref 1500), some (.ref 0), some (.ref 100), some (.int (nI (6 * j)))] [] h := by
  obtain ⟨κ, C, rfl⟩ := HG h g
  obtain ⟨Z1, hE1, hz1⟩ := hst
  refine gj_aload_n dL_law_519 rfl ?_
  refine gj_callV (as := []) lkL_61 (hc0 κ C) rfl rfl hE1 dL_law_520 rfl rfl (Nat.le_of_ble_eq_true rfl) ⟨⟨Nat.le_of_ble_eq_true rfl, Nat.le_of_ble_eq_true rfl⟩, ⟨show k + 0 ≤ 600000 by omega, show n + 0 ≤ 7302250 by omega⟩⟩ (Or.inl rfl) (fun r1 h1 z1 => ?_)
  obtain ⟨⟨v, rfl⟩, ⟨κ1, C1, rfl⟩, Z2, hE2, hz2⟩ := hz1 r1 h1 z1
  refine gj_aload_n dL_law_523 rfl ?_
  refine gj_callV (as := []) (rest := [.int v]) lkL_64 (hc100 κ1 C1) rfl rfl hE2 dL_law_524 rfl rfl (Nat.le_of_ble_eq_true rfl) ⟨⟨Nat.le_of_ble_eq_true rfl, Nat.le_of_ble_eq_true rfl⟩, ⟨show k + 0 + 0 ≤ 600000 by omega, show n + 0 + 0 ≤ 7302250 by omega⟩⟩ (Or.inl rfl) (fun r2 h2 z2 => ?_)
  obtain ⟨rfl, g2⟩ := hz2 r2 h2 z2
  show gj _ _ _ _ _ _ _ [(.int v : Value), .int v] _
  refine gj_icmp_eq (tgt := 1504) dL_law_527 rfl (fun _ => ?_) (fun z => absurd rfl z)
  exact gj_wid (show k + 0 + 0 ≤ k + 100 by omega) (show n + 0 + 0 ≤ n + 1000 by omega) (kk h2 g2)
theorem lw_c12 {E : mj_E} {G : mj_H → Prop} {b L k n j : Nat} {xs : Nat → Int32} {h : mj_H} (HG : ∀ h, G h → ∃ (κ : Nat → Bool) (C : Nat → Nat → Nat), h = hh κ C) (g : G h) (hL : L ≤ 384) (hj : 6 * j + 6 ≤ L) (hk : k ≤ 500000) (hn : n ≤ 7000000) (hst : mj_St E G mj_isI iX10_of iX11_of [.int (xs (6 * j + 1)), .int (xs (6 * j + 2))] h) (kk : ∀ h', G h' → gj E (mj_XW b L xs) cL_law (k + 100) (n + 1000) 1504 [some (.ref 1500), some (.ref 0), some (.ref 100), some (.int (nI (6 * j)))] [] h') : gj E (mj_XW b L xs) cL_law k n 532 [some (.ref 1500), some (.ref 0), some (.ref 100), some (.int (nI (6 * j)))] [] h := by
  obtain ⟨κ, C, rfl⟩ := HG h g
  obtain ⟨Z1, hE1, hz1⟩ := hst
  refine gj_aload_n dL_law_532 rfl ?_
  refine gj_aload_n dL_law_533 rfl ?_
  refine gj_iload_n dL_law_534 rfl ?_
  refine gj_ic (w := 1) dL_law_535 ?_
  refine gj_iaddN dL_law_536 ?_
  refine gj_sld (i := 6 * j + 1) (by omega) (by omega) dL_law_537 ?_
  refine gj_aload_n dL_law_538 rfl ?_
  refine gj_iload_n dL_law_539 rfl ?_
  refine gj_ic (w := 2) dL_law_540 ?_
  refine gj_iaddN dL_law_541 ?_
  refine gj_sld (i := 6 * j + 2) (by omega) (by omega) dL_law_542 ?_
  refine gj_callV (as := [.int (xs (6 * j + 1)), .int (xs (6 * j + 2))]) lkL_65 (hc0 κ C) rfl rfl hE1 dL_law_543 rfl rfl (Nat.le_of_ble_eq_true rfl) ⟨⟨Nat.le_of_ble_eq_true rfl, Nat.le_of_ble_eq_true rfl⟩, ⟨show k + 0 ≤ 600000 by omega, show n + 0 ≤ 7302250 by omega⟩⟩ (Or.inl rfl) (fun r1 h1 z1 => ?_)
  obtain ⟨⟨v, rfl⟩, ⟨κ1, C1, rfl⟩, Z2, hE2, hz2⟩ := hz1 r1 h1 z1
  refine gj_aload_n dL_law_546 rfl ?_
  refine gj_aload_n dL_law_547 rfl ?_
  refine gj_iload_n dL_law_548 rfl ?_
  refine gj_ic (w := 1) dL_law_549 ?_
  refine gj_iaddN dL_law_550 ?_
  refine gj_sld (i := 6 * j + 1) (by omega) (by omega) dL_law_551 ?_
  refine gj_aload_n dL_law_552 rfl ?_
  refine gj_iload_n dL_law_553 rfl ?_
  refine gj_ic (w := 2) dL_law_554 ?_
  refine gj_iaddN dL_law_555 ?_
  refine gj_sld (i := 6 * j + 2) (by omega) (by omega) dL_law_556 ?_
  refine gj_callV (as := [.int (xs (6 * j + 1)), .int (xs (6 * j + 2))]) (rest := [.int v]) lkL_68 (hc100 κ1 C1) rfl rfl hE2 dL_law_557 rfl rfl (Nat.le_of_ble_eq_true rfl) ⟨⟨Nat.le_of_ble_eq_true rfl, Nat.le_of_ble_eq_true rfl⟩, ⟨show k + 0 + 0 ≤ 600000 by omega, show n + 0 + 0 ≤ 7302250 by omega⟩⟩ (Or.inl rfl) (fun r2 h2 z2 => ?_)
  obtain ⟨rfl, g2⟩ := hz2 r2 h2 z2
  show gj _ _ _ _ _ _ _ [(.int v : Value), .int v] _
  refine gj_icmp_eq (tgt := 1504) dL_law_560 rfl (fun _ => ?_) (fun z => absurd rfl z)
  exact gj_wid (show k + 0 + 0 ≤ k + 100 by omega) (show n + 0 + 0 ≤ n + 1000 by omega) (kk h2 g2)
theorem lw_c13 {E : mj_E} {G : mj_H → Prop} {b L k n j : Nat} {xs : Nat → Int32} {h : mj_H} (HG : ∀ h, G h → ∃ (κ : Nat → Bool) (C : Nat → Nat → Nat), h = hh κ C) (g : G h) (hL : L ≤ 384) (hj : 6 * j + 6 ≤ L) (hk : k ≤ 500000) (hn : n ≤ 7000000) (hst : mj_St E G mj_isI iX10_about iX11_about [.int (xs (6 * j + 1)), .int (xs (6 * j + 2))] h) (kk : ∀ h', G h' → gj E (mj_XW b L xs) cL_law (k + 100) (n + 1000) 1504 [some (.ref 1500), some (.ref 0), some (.ref 100), some (.int (nI (6 * j)))] [] h') : gj E (mj_XW b L xs) cL_law k n 565 [some (.ref 1500), some (.ref 0), some (.ref 100), some (.int (nI (6 * j)))] [] h := by
  obtain ⟨κ, C, rfl⟩ := HG h g
  obtain ⟨Z1, hE1, hz1⟩ := hst
  refine gj_aload_n dL_law_565 rfl ?_
  refine gj_aload_n dL_law_566 rfl ?_
  refine gj_iload_n dL_law_567 rfl ?_
  refine gj_ic (w := 1) dL_law_568 ?_
  refine gj_iaddN dL_law_569 ?_
  refine gj_sld (i := 6 * j + 1) (by omega) (by omega) dL_law_570 ?_
  refine gj_aload_n dL_law_571 rfl ?_
  refine gj_iload_n dL_law_572 rfl ?_
  refine gj_ic (w := 2) dL_law_573 ?_
  refine gj_iaddN dL_law_574 ?_
  refine gj_sld (i := 6 * j + 2) (by omega) (by omega) dL_law_575 ?_
  refine gj_callV (as := [.int (xs (6 * j + 1)), .int (xs (6 * j + 2))]) lkL_69 (hc0 κ C) rfl rfl hE1 dL_law_576 rfl rfl (Nat.le_of_ble_eq_true rfl) ⟨⟨Nat.le_of_ble_eq_true rfl, Nat.le_of_ble_eq_true rfl⟩, ⟨show k + 0 ≤ 600000 by omega, show n + 0 ≤ 7302250 by omega⟩⟩ (Or.inl rfl) (fun r1 h1 z1 => ?_)
  obtain ⟨⟨v, rfl⟩, ⟨κ1, C1, rfl⟩, Z2, hE2, hz2⟩ := hz1 r1 h1 z1
  refine gj_aload_n dL_law_579 rfl ?_
  refine gj_aload_n dL_law_580 rfl ?_
  refine gj_iload_n dL_law_581 rfl ?_
  refine gj_ic (w := 1) dL_law_582 ?_
  refine gj_iaddN dL_law_583 ?_
  refine gj_sld (i := 6 * j + 1) (by omega) (by omega) dL_law_584 ?_
  refine gj_aload_n dL_law_585 rfl ?_
  refine gj_iload_n dL_law_586 rfl ?_
  refine gj_ic (w := 2) dL_law_587 ?_
  refine gj_iaddN dL_law_588 ?_
  refine gj_sld (i := 6 * j + 2) (by omega) (by omega) dL_law_589 ?_
  refine gj_callV (as := [.int (xs (6 * j + 1)), .int (xs (6 * j + 2))]) (rest := [.int v]) lkL_72 (hc100 κ1 C1) rfl rfl hE2 dL_law_590 rfl rfl (Nat.le_of_ble_eq_true rfl) ⟨⟨Nat.le_of_ble_eq_true rfl, Nat.le_of_ble_eq_true rfl⟩, ⟨show k + 0 + 0 ≤ 600000 by omega, show n + 0 + 0 ≤ 7302250 by omega⟩⟩ (Or.inl rfl) (fun r2 h2 z2 => ?_)
  obtain ⟨rfl, g2⟩ := hz2 r2 h2 z2
  show gj _ _ _ _ _ _ _ [(.int v : Value), .int v] _
  refine gj_icmp_eq (tgt := 1504) dL_law_593 rfl (fun _ => ?_) (fun z => absurd rfl z)
  exact gj_wid (show k + 0 + 0 ≤ k + 100 by omega) (show n + 0 + 0 ≤ n + 1000 by omega) (kk h2 g2)
theorem lw_c14 {E : mj_E} {G : mj_H → Prop} {b L k n j : Nat} {xs : Nat → Int32} {h : mj_H} (HG : ∀ h, G h → ∃ (κ : Nat → Bool) (C : Nat → Nat → Nat), h = hh κ C) (g : G h) (hL : L ≤ 384) (hj : 6 * j + 6 ≤ L) (hk : k ≤ 500000) (hn : n ≤ 7000000) (hst : mj_St E G mj_isI iX10_then iX11_then [.int (xs (6 * j + 1)), .int (xs (6 * j + 2)), .int (xs (6 * j + 3))] h) (kk : ∀ h', G h' → gj E (mj_XW b L xs) cL_law (k + 100) (n + 1000) 1504 [some (.ref 1500), some (.ref 0), some (.ref 100), some (.int (nI (6 * j)))] [] h') : gj E (mj_XW b L xs) cL_law k n 598 [some (.ref 1500), some (.ref 0), some (.ref 100), some (.int (nI (6 * j)))] [] h := by
  obtain ⟨κ, C, rfl⟩ := HG h g
  obtain ⟨Z1, hE1, hz1⟩ := hst
  refine gj_aload_n dL_law_598 rfl ?_
  refine gj_aload_n dL_law_599 rfl ?_
  refine gj_iload_n dL_law_600 rfl ?_
  refine gj_ic (w := 1) dL_law_601 ?_
  refine gj_iaddN dL_law_602 ?_
  refine gj_sld (i := 6 * j + 1) (by omega) (by omega) dL_law_603 ?_
  refine gj_aload_n dL_law_604 rfl ?_
  refine gj_iload_n dL_law_605 rfl ?_
  refine gj_ic (w := 2) dL_law_606 ?_
  refine gj_iaddN dL_law_607 ?_
  refine gj_sld (i := 6 * j + 2) (by omega) (by omega) dL_law_608 ?_
  refine gj_aload_n dL_law_609 rfl ?_
  refine gj_iload_n dL_law_610 rfl ?_
  refine gj_ic (w := 3) dL_law_611 ?_
  refine gj_iaddN dL_law_612 ?_
  refine gj_sld (i := 6 * j + 3) (by omega) (by omega) dL_law_613 ?_
  refine gj_callV (as := [.int (xs (6 * j + 1)), .int (xs (6 * j + 2)), .int (xs (6 * j + 3))]) lkL_73 (hc0 κ C) rfl rfl hE1 dL_law_614 rfl rfl (Nat.le_of_ble_eq_true rfl) ⟨⟨Nat.le_of_ble_eq_true rfl, Nat.le_of_ble_eq_true rfl⟩, ⟨show k + 0 ≤ 600000 by omega, show n + 0 ≤ 7302250 by omega⟩⟩ (Or.inl rfl) (fun r1 h1 z1 => ?_)
  obtain ⟨⟨v, rfl⟩, ⟨κ1, C1, rfl⟩, Z2, hE2, hz2⟩ := hz1 r1 h1 z1
  refine gj_aload_n dL_law_617 rfl ?_
  refine gj_aload_n dL_law_618 rfl ?_
  refine gj_iload_n dL_law_619 rfl ?_
  refine gj_ic (w := 1) dL_law_620 ?_
  refine gj_iaddN dL_law_621 ?_
  refine gj_sld (i := 6 * j + 1) (by omega) (by omega) dL_law_622 ?_
  refine gj_aload_n dL_law_623 rfl ?_
  refine gj_iload_n dL_law_624 rfl ?_
  refine gj_ic (w := 2) dL_law_625 ?_
  refine gj_iaddN dL_law_626 ?_
  refine gj_sld (i := 6 * j + 2) (by omega) (by omega) dL_law_627 ?_
  refine gj_aload_n dL_law_628 rfl ?_
  refine gj_iload_n dL_law_629 rfl ?_
  refine gj_ic (w := 3) dL_law_630 ?_
  refine gj_iaddN dL_law_631 ?_
  refine gj_sld (i := 6 * j + 3) (by omega) (by omega) dL_law_632 ?_
  refine gj_callV (as := [.int (xs (6 * j + 1)), .int (xs (6 * j + 2)), .int (xs (6 * j + 3))]) (rest := [.int v]) lkL_76 (hc100 κ1 C1) rfl rfl hE2 dL_law_633 rfl rfl (Nat.le_of_ble_eq_true rfl) ⟨⟨Nat.le_of_ble_eq_true rfl, Nat.le_of_ble_eq_true rfl⟩, ⟨show k + 0 + 0 ≤ 600000 by omega, show n + 0 + 0 ≤ 7302250 by omega⟩⟩ (Or.inl rfl) (fun r2 h2 z2 => ?_)
  obtain ⟨rfl, g2⟩ := hz2 r2 h2 z2
  show gj _ _ _ _ _ _ _ [(.int v : Value), .int v] _
  refine gj_icmp_eq (tgt := 1504) dL_law_636 rfl (fun _ => ?_) (fun z => absurd rfl z)
  exact gj_wid (show k + 0 + 0 ≤ k + 100 by omega) (show n + 0 + 0 ≤ n + 1000 by omega) (kk h2 g2)
theorem lw_c15 {E : mj_E} {G : mj_H → Prop} {b L k n j : Nat} {xs : Nat → Int32} {h : mj_H} (HG : ∀ h, G h → ∃ (κ : Nat → Bool) (C : Nat → Nat → Nat), h = hh κ C) (g : G h) (hL : L ≤ 384) (hj : 6 * j + 6 ≤ L) (hk : k ≤ 500000) (hn : n ≤ 7000000) (hst : mj_St E G mj_isI iX10_when iX11_when [.int (xs (6 * j + 1)), .int (xs (6 * j + 2))] h) (kk : ∀ h', G h' → gj E (mj_XW b L xs) cL_law (k + 100) (n + 1000) 1504 [some (.ref 1500), some (.ref 0), some (.ref 100), some (.int (nI (6 * j)))] [] h') : gj E (mj_XW b L xs) cL_law k n 641 [some (.ref 1500), some (.ref 0), some (.ref 100), some (.int (nI (6 * j)))] [] h := by
  obtain ⟨κ, C, rfl⟩ := HG h g
  obtain ⟨Z1, hE1, hz1⟩ := hst
  refine gj_aload_n dL_law_641 rfl ?_
  refine gj_aload_n dL_law_642 rfl ?_
  refine gj_iload_n dL_law_643 rfl ?_
  refine gj_ic (w := 1) dL_law_644 ?_
  refine gj_iaddN dL_law_645 ?_
  refine gj_sld (i := 6 * j + 1) (by omega) (by omega) dL_law_646 ?_
  refine gj_aload_n dL_law_647 rfl ?_
  refine gj_iload_n dL_law_648 rfl ?_
  refine gj_ic (w := 2) dL_law_649 ?_
  refine gj_iaddN dL_law_650 ?_
  refine gj_sld (i := 6 * j + 2) (by omega) (by omega) dL_law_651 ?_
  refine gj_callV (as := [.int (xs (6 * j + 1)), .int (xs (6 * j + 2))]) lkL_77 (hc0 κ C) rfl rfl hE1 dL_law_652 rfl rfl (Nat.le_of_ble_eq_true rfl) ⟨⟨Nat.le_of_ble_eq_true rfl, Nat.le_of_ble_eq_true rfl⟩, ⟨show k + 0 ≤ 600000 by omega, show n + 0 ≤ 7302250 by omega⟩⟩ (Or.inl rfl) (fun r1 h1 z1 => ?_)
  obtain ⟨⟨v, rfl⟩, ⟨κ1, C1, rfl⟩, Z2, hE2, hz2⟩ := hz1 r1 h1 z1
  refine gj_aload_n dL_law_655 rfl ?_
  refine gj_aload_n dL_law_656 rfl ?_
  refine gj_iload_n dL_law_657 rfl ?_
  refine gj_ic (w := 1) dL_law_658 ?_
  refine gj_iaddN dL_law_659 ?_
  refine gj_sld (i := 6 * j + 1) (by omega) (by omega) dL_law_660 ?_
  refine gj_aload_n dL_law_661 rfl ?_
  refine gj_iload_n dL_law_662 rfl ?_
  refine gj_ic (w := 2) dL_law_663 ?_
  refine gj_iaddN dL_law_664 ?_
  refine gj_sld (i := 6 * j + 2) (by omega) (by omega) dL_law_665 ?_
  refine gj_callV (as := [.int (xs (6 * j + 1)), .int (xs (6 * j + 2))]) (rest := [.int v]) lkL_80 (hc100 κ1 C1) rfl rfl hE2 dL_law_666 rfl rfl (Nat.le_of_ble_eq_true rfl) ⟨⟨Nat.le_of_ble_eq_true rfl, Nat.le_of_ble_eq_true rfl⟩, ⟨show k + 0 + 0 ≤ 600000 by omega, show n + 0 + 0 ≤ 7302250 by omega⟩⟩ (Or.inl rfl) (fun r2 h2 z2 => ?_)
  obtain ⟨rfl, g2⟩ := hz2 r2 h2 z2
  show gj _ _ _ _ _ _ _ [(.int v : Value), .int v] _
  refine gj_icmp_eq (tgt := 1504) dL_law_669 rfl (fun _ => ?_) (fun z => absurd rfl z)
  exact gj_wid (show k + 0 + 0 ≤ k + 100 by omega) (show n + 0 + 0 ≤ n + 1000 by omega) (kk h2 g2)
theorem lw_c16 {E : mj_E} {G : mj_H → Prop} {b L k n j : Nat} {xs : Nat → Int32} {h : mj_H} (HG : ∀ h, G h → ∃ (κ : Nat → Bool) (C : Nat → Nat → Nat), h = hh κ C) (g : G h) (hL : L ≤ 384) (hj : 6 * j + 6 ≤ L) (hk : k ≤ 500000) (hn : n ≤ 7000000) (hst : mj_St E G mj_isI iX10_where iX11_where [.int (xs (6 * j + 1)), .int (xs (6 * j + 2))] h) (kk : ∀ h', G h' → gj E (mj_XW b L xs) cL_law (k + 100) (n + 1000) 1504 [some (.ref 1500), some (.ref 0), some (.ref 100), some (.int (nI (6 * j)))] [] h') : gj E (mj_XW b L xs) cL_law k n 674 [some (.ref 1500), some (.ref 0), some (.ref 100), some (.int (nI (6 * j)))] [] h := by
  obtain ⟨κ, C, rfl⟩ := HG h g
  obtain ⟨Z1, hE1, hz1⟩ := hst
  refine gj_aload_n dL_law_674 rfl ?_
  refine gj_aload_n dL_law_675 rfl ?_
  refine gj_iload_n dL_law_676 rfl ?_
  refine gj_ic (w := 1) dL_law_677 ?_
  refine gj_iaddN dL_law_678 ?_
  refine gj_sld (i := 6 * j + 1) (by omega) (by omega) dL_law_679 ?_
  refine gj_aload_n dL_law_680 rfl ?_
  refine gj_iload_n dL_law_681 rfl ?_
  refine gj_ic (w := 2) dL_law_682 ?_
  refine gj_iaddN dL_law_683 ?_
  refine gj_sld (i := 6 * j + 2) (by omega) (by omega) dL_law_684 ?_
  refine gj_callV (as := [.int (xs (6 * j + 1)), .int (xs (6 * j + 2))]) lkL_81 (hc0 κ C) rfl rfl hE1 dL_law_685 rfl rfl (Nat.le_of_ble_eq_true rfl) ⟨⟨Nat.le_of_ble_eq_true rfl, Nat.le_of_ble_eq_true rfl⟩, ⟨show k + 0 ≤ 600000 by omega, show n + 0 ≤ 7302250 by omega⟩⟩ (Or.inl rfl) (fun r1 h1 z1 => ?_)
  obtain ⟨⟨v, rfl⟩, ⟨κ1, C1, rfl⟩, Z2, hE2, hz2⟩ := hz1 r1 h1 z1
  refine gj_aload_n dL_law_688 rfl ?_
  refine gj_aload_n dL_law_689 rfl ?_
  refine gj_iload_n dL_law_690 rfl ?_
  refine gj_ic (w := 1) dL_law_691 ?_
  refine gj_iaddN dL_law_692 ?_
  refine gj_sld (i := 6 * j + 1) (by omega) (by omega) dL_law_693 ?_
  refine gj_aload_n dL_law_694 rfl ?_
  refine gj_iload_n dL_law_695 rfl ?_
  refine gj_ic (w := 2) dL_law_696 ?_
  refine gj_iaddN dL_law_697 ?_
  refine gj_sld (i := 6 * j + 2) (by omega) (by omega) dL_law_698 ?_
  refine gj_callV (as := [.int (xs (6 * j + 1)), .int (xs (6 * j + 2))]) (rest := [.int v]) lkL_84 (hc100 κ1 C1) rfl rfl hE2 dL_law_699 rfl rfl (Nat.le_of_ble_eq_true rfl) ⟨⟨Nat.le_of_ble_eq_true rfl, Nat.le_of_ble_eq_true rfl⟩, ⟨show k + 0 + 0 ≤ 600000 by omega, show n + 0 + 0 ≤ 7302250 by omega⟩⟩ (Or.inl rfl) (fun r2 h2 z2 => ?_)
  obtain ⟨rfl, g2⟩ := hz2 r2 h2 z2
  show gj _ _ _ _ _ _ _ [(.int v : Value), .int v] _
  refine gj_icmp_eq (tgt := 1504) dL_law_702 rfl (fun _ => ?_) (fun z => absurd rfl z)
  exact gj_wid (show k + 0 + 0 ≤ k + 100 by omega) (show n + 0 + 0 ≤ n + 1000 by omega) (kk h2 g2)
theorem lw_c17 {E : mj_E} {G : mj_H → Prop} {b L k n j : Nat} {xs : Nat → Int32} {h : mj_H} (HG : ∀ h, G h → ∃ (κ : Nat → Bool) (C : Nat → Nat → Nat), h = hh κ C) (g : G h) (hL : L ≤ 384) (hj : 6 * j + 6 ≤ L) (hk : k ≤ 500000) (hn : n ≤ 7000000) (hst : mj_St E G mj_isI iX10_horses iX11_horses [.int (xs (6 * j + 1))] h) (kk : ∀ h', G h' → gj E (mj_XW b L xs) cL_law (k + 100) (n + 1000) 1504 [some (.ref 1500), some (.ref 0), some (.ref 100), some (.int (nI (6 * j)))] [] h') : gj E (mj_XW b L xs) cL_law k n 707 [some (.ref 1500), some (.ref 0), some (.ref 100), some (.int (nI (6 * j)))] [] h := by
  obtain ⟨κ, C, rfl⟩ := HG h g
  obtain ⟨Z1, hE1, hz1⟩ := hst
  refine gj_aload_n dL_law_707 rfl ?_
  refine gj_aload_n dL_law_708 rfl ?_
  refine gj_iload_n dL_law_709 rfl ?_
  refine gj_ic (w := 1) dL_law_710 ?_
  refine gj_iaddN dL_law_711 ?_
  refine gj_sld (i := 6 * j + 1) (by omega) (by omega) dL_law_712 ?_
  refine gj_callV (as := [.int (xs (6 * j + 1))]) lkL_85 (hc0 κ C) rfl rfl hE1 dL_law_713 rfl rfl (Nat.le_of_ble_eq_true rfl) ⟨⟨Nat.le_of_ble_eq_true rfl, Nat.le_of_ble_eq_true rfl⟩, ⟨show k + 0 ≤ 600000 by omega, show n + 0 ≤ 7302250 by omega⟩⟩ (Or.inl rfl) (fun r1 h1 z1 => ?_)
  obtain ⟨⟨v, rfl⟩, ⟨κ1, C1, rfl⟩, Z2, hE2, hz2⟩ := hz1 r1 h1 z1
  refine gj_aload_n dL_law_716 rfl ?_
  refine gj_aload_n dL_law_717 rfl ?_
  refine gj_iload_n dL_law_718 rfl ?_
  refine gj_ic (w := 1) dL_law_719 ?_
  refine gj_iaddN dL_law_720 ?_
  refine gj_sld (i := 6 * j + 1) (by omega) (by omega) dL_law_721 ?_
  refine gj_callV (as := [.int (xs (6 * j + 1))]) (rest := [.int v]) lkL_88 (hc100 κ1 C1) rfl rfl hE2 dL_law_722 rfl rfl (Nat.le_of_ble_eq_true rfl) ⟨⟨Nat.le_of_ble_eq_true rfl, Nat.le_of_ble_eq_true rfl⟩, ⟨show k + 0 + 0 ≤ 600000 by omega, show n + 0 + 0 ≤ 7302250 by omega⟩⟩ (Or.inl rfl) (fun r2 h2 z2 => ?_)
  obtain ⟨rfl, g2⟩ := hz2 r2 h2 z2
  show gj _ _ _ _ _ _ _ [(.int v : Value), .int v] _
  refine gj_icmp_eq (tgt := 1504) dL_law_725 rfl (fun _ => ?_) (fun z => absurd rfl z)
  exact gj_wid (show k + 0 + 0 ≤ k + 100 by omega) (show n + 0 + 0 ≤ n + 1000 by omega) (kk h2 g2)
theorem lw_c18 {E : mj_E} {G : mj_H → Prop} {b L k n j : Nat} {xs : Nat → Int32} {h : mj_H} (HG : ∀ h, G h → ∃ (κ : Nat → Bool) (C : Nat → Nat → Nat), h = hh κ C) (g : G h) (hL : L ≤ 384) (hj : 6 * j + 6 ≤ L) (hk : k ≤ 500000) (hn : n ≤ 7000000) (hst : mj_St E G mj_isI iX10_path iX11_path [.int (xs (6 * j + 1)), .int (xs (6 * j + 2)), .int (xs (6 * j + 3)), .int (xs (6 * j + 4))] h) (kk : ∀ h', G h' → gj E (mj_XW b L xs) cL_law (k + 100) (n + 1000) 1504 [some (.ref 1500), some (.ref 0), some (.ref 100), some (.int (nI (6 * j)))] [] h') : gj E (mj_XW b L xs) cL_law k n 730 [some (.ref 1500), some (.ref 0), some (.ref 100), some (.int (nI (6 * j)))] [] h := by
  obtain ⟨κ, C, rfl⟩ := HG h g
  obtain ⟨Z1, hE1, hz1⟩ := hst
  refine gj_aload_n dL_law_730 rfl ?_
  refine gj_aload_n dL_law_731 rfl ?_
  refine gj_iload_n dL_law_732 rfl ?_
  refine gj_ic (w := 1) dL_law_733 ?_
  refine gj_iaddN dL_law_734 ?_
  refine gj_sld (i := 6 * j + 1) (by omega) (by omega) dL_law_735 ?_
  refine gj_aload_n dL_law_736 rfl ?_
  refine gj_iload_n dL_law_737 rfl ?_
  refine gj_ic (w := 2) dL_law_738 ?_
  refine gj_iaddN dL_law_739 ?_
  refine gj_sld (i := 6 * j + 2) (by omega) (by omega) dL_law_740 ?_
  refine gj_aload_n dL_law_741 rfl ?_
  refine gj_iload_n dL_law_742 rfl ?_
  refine gj_ic (w := 3) dL_law_743 ?_
  refine gj_iaddN dL_law_744 ?_
  refine gj_sld (i := 6 * j + 3) (by omega) (by omega) dL_law_745 ?_
  refine gj_aload_n dL_law_746 rfl ?_
  refine gj_iload_n dL_law_747 rfl ?_
  refine gj_ic (w := 4) dL_law_748 ?_
  refine gj_iaddN dL_law_749 ?_
  refine gj_sld (i := 6 * j + 4) (by omega) (by omega) dL_law_750 ?_
  refine gj_callV (as := [.int (xs (6 * j + 1)), .int (xs (6 * j + 2)), .int (xs (6 * j + 3)), .int (xs (6 * j + 4))]) lkL_89 (hc0 κ C) rfl rfl hE1 dL_law_751 rfl rfl (Nat.le_of_ble_eq_true rfl) ⟨⟨Nat.le_of_ble_eq_true rfl, Nat.le_of_ble_eq_true rfl⟩, ⟨show k + 0 ≤ 600000 by omega, show n + 0 ≤ 7302250 by omega⟩⟩ (Or.inl rfl) (fun r1 h1 z1 => ?_)
  obtain ⟨⟨v, rfl⟩, ⟨κ1, C1, rfl⟩, Z2, hE2, hz2⟩ := hz1 r1 h1 z1
  refine gj_aload_n dL_law_754 rfl ?_
  refine gj_aload_n dL_law_755 rfl ?_
  refine gj_iload_n dL_law_756 rfl ?_
  refine gj_ic (w := 1) dL_law_757 ?_
  refine gj_iaddN dL_law_758 ?_
  refine gj_sld (i := 6 * j + 1) (by omega) (by omega) dL_law_759 ?_
  refine gj_aload_n dL_law_760 rfl ?_
  refine gj_iload_n dL_law_761 rfl ?_
  refine gj_ic (w := 2) dL_law_762 ?_
  refine gj_iaddN dL_law_763 ?_
  refine gj_sld (i := 6 * j + 2) (by omega) (by omega) dL_law_764 ?_
  refine gj_aload_n dL_law_765 rfl ?_
  refine gj_iload_n dL_law_766 rfl ?_
  refine gj_ic (w := 3) dL_law_767 ?_
  refine gj_iaddN dL_law_768 ?_
  refine gj_sld (i := 6 * j + 3) (by omega) (by omega) dL_law_769 ?_
  refine gj_aload_n dL_law_770 rfl ?_
  refine gj_iload_n dL_law_771 rfl ?_
  refine gj_ic (w := 4) dL_law_772 ?_
  refine gj_iaddN dL_law_773 ?_
  refine gj_sld (i := 6 * j + 4) (by omega) (by omega) dL_law_774 ?_
  refine gj_callV (as := [.int (xs (6 * j + 1)), .int (xs (6 * j + 2)), .int (xs (6 * j + 3)), .int (xs (6 * j + 4))]) (rest := [.int v]) lkL_93 (hc100 κ1 C1) rfl rfl hE2 dL_law_775 rfl rfl (Nat.le_of_ble_eq_true rfl) ⟨⟨Nat.le_of_ble_eq_true rfl, Nat.le_of_ble_eq_true rfl⟩, ⟨show k + 0 + 0 ≤ 600000 by omega, show n + 0 + 0 ≤ 7302250 by omega⟩⟩ (Or.inl rfl) (fun r2 h2 z2 => ?_)
  obtain ⟨rfl, g2⟩ := hz2 r2 h2 z2
  show gj _ _ _ _ _ _ _ [(.int v : Value), .int v] _
  refine gj_icmp_eq (tgt := 1504) dL_law_778 rfl (fun _ => ?_) (fun z => absurd rfl z)
  exact gj_wid (show k + 0 + 0 ≤ k + 100 by omega) (show n + 0 + 0 ≤ n + 1000 by omega) (kk h2 g2)
theorem lw_c19 {E : mj_E} {G : mj_H → Prop} {b L k n j : Nat} {xs : Nat → Int32} {h : mj_H} (HG : ∀ h, G h → ∃ (κ : Nat → Bool) (C : Nat → Nat → Nat), h = hh κ C) (g : G h) (hL : L ≤ 384) (hj : 6 * j + 6 ≤ L) (hk : k ≤ 500000) (hn : n ≤ 7000000) (hst : mj_St E G mj_isI iX10_safe iX11_safe [.int (xs (6 * j + 1)), .int (xs (6 * j + 2))] h) (kk : ∀ h', G h' → gj E (mj_XW b L xs) cL_law (k + 100) (n + 1000) 1504 [some (.ref 1500), some (.ref 0), some (.ref 100), some (.int (nI (6 * j)))] [] h') : gj E (mj_XW b L xs) cL_law k n 783 [some (.ref 1500), some (.ref 0), some (.ref 100), some (.int (nI (6 * j)))] [] h := by
  obtain ⟨κ, C, rfl⟩ := HG h g
  obtain ⟨Z1, hE1, hz1⟩ := hst
  refine gj_aload_n dL_law_783 rfl ?_
  refine gj_aload_n dL_law_784 rfl ?_
  refine gj_iload_n dL_law_785 rfl ?_
  refine gj_ic (w := 1) dL_law_786 ?_
  refine gj_iaddN dL_law_787 ?_
  refine gj_sld (i := 6 * j + 1) (by omega) (by omega) dL_law_788 ?_
  refine gj_aload_n dL_law_789 rfl ?_
  refine gj_iload_n dL_law_790 rfl ?_
  refine gj_ic (w := 2) dL_law_791 ?_
  refine gj_iaddN dL_law_792 ?_
  refine gj_sld (i := 6 * j + 2) (by omega) (by omega) dL_law_793 ?_
  refine gj_callV (as := [.int (xs (6 * j + 1)), .int (xs (6 * j + 2))]) lkL_94 (hc0 κ C) rfl rfl hE1 dL_law_794 rfl rfl (Nat.le_of_ble_eq_true rfl) ⟨⟨Nat.le_of_ble_eq_true rfl, Nat.le_of_ble_eq_true rfl⟩, ⟨show k + 0 ≤ 600000 by omega, show n + 0 ≤ 7302250 by omega⟩⟩ (Or.inl rfl) (fun r1 h1 z1 => ?_)
  obtain ⟨⟨v, rfl⟩, ⟨κ1, C1, rfl⟩, Z2, hE2, hz2⟩ := hz1 r1 h1 z1
  refine gj_aload_n dL_law_797 rfl ?_
  refine gj_aload_n dL_law_798 rfl ?_
  refine gj_iload_n dL_law_799 rfl ?_
  refine gj_ic (w := 1) dL_law_800 ?_
  refine gj_iaddN dL_law_801 ?_
  refine gj_sld (i := 6 * j + 1) (by omega) (by omega) dL_law_802 ?_
  refine gj_aload_n dL_law_803 rfl ?_
  refine gj_iload_n dL_law_804 rfl ?_
  refine gj_ic (w := 2) dL_law_805 ?_
  refine gj_iaddN dL_law_806 ?_
  refine gj_sld (i := 6 * j + 2) (by omega) (by omega) dL_law_807 ?_
  refine gj_callV (as := [.int (xs (6 * j + 1)), .int (xs (6 * j + 2))]) (rest := [.int v]) lkL_97 (hc100 κ1 C1) rfl rfl hE2 dL_law_808 rfl rfl (Nat.le_of_ble_eq_true rfl) ⟨⟨Nat.le_of_ble_eq_true rfl, Nat.le_of_ble_eq_true rfl⟩, ⟨show k + 0 + 0 ≤ 600000 by omega, show n + 0 + 0 ≤ 7302250 by omega⟩⟩ (Or.inl rfl) (fun r2 h2 z2 => ?_)
  obtain ⟨rfl, g2⟩ := hz2 r2 h2 z2
  show gj _ _ _ _ _ _ _ [(.int v : Value), .int v] _
  refine gj_icmp_eq (tgt := 1504) dL_law_811 rfl (fun _ => ?_) (fun z => absurd rfl z)
  exact gj_wid (show k + 0 + 0 ≤ k + 100 by omega) (show n + 0 + 0 ≤ n + 1000 by omega) (kk h2 g2)
theorem lw_c20 {E : mj_E} {G : mj_H → Prop} {b L k n j : Nat} {xs : Nat → Int32} {h : mj_H} (HG : ∀ h, G h → ∃ (κ : Nat → Bool) (C : Nat → Nat → Nat), h = hh κ C) (g : G h) (hL : L ≤ 384) (hj : 6 * j + 6 ≤ L) (hk : k ≤ 500000) (hn : n ≤ 7000000) (hst : mj_St E G mj_isI iX10_cross iX11_cross [.int (xs (6 * j + 1)), .int (xs (6 * j + 2)), .int (xs (6 * j + 3))] h) (kk : ∀ h', G h' → gj E (mj_XW b L xs) cL_law (k + 100) (n + 1000) 1504 [some (.ref 1500), some (.ref 0), some (.ref 100), some (.int (nI (6 * j)))] [] h') : gj E (mj_XW b L xs) cL_law k n 816 [some (.ref 1500), some (.ref 0), some (.ref 100), some (.int (nI (6 * j)))] [] h := by
  obtain ⟨κ, C, rfl⟩ := HG h g
  obtain ⟨Z1, hE1, hz1⟩ := hst
  refine gj_aload_n dL_law_816 rfl ?_
  refine gj_aload_n dL_law_817 rfl ?_
  refine gj_iload_n dL_law_818 rfl ?_
  refine gj_ic (w := 1) dL_law_819 ?_
  refine gj_iaddN dL_law_820 ?_
  refine gj_sld (i := 6 * j + 1) (by omega) (by omega) dL_law_821 ?_
  refine gj_aload_n dL_law_822 rfl ?_
  refine gj_iload_n dL_law_823 rfl ?_
  refine gj_ic (w := 2) dL_law_824 ?_
  refine gj_iaddN dL_law_825 ?_
  refine gj_sld (i := 6 * j + 2) (by omega) (by omega) dL_law_826 ?_
  refine gj_aload_n dL_law_827 rfl ?_
  refine gj_iload_n dL_law_828 rfl ?_
  refine gj_ic (w := 3) dL_law_829 ?_
  refine gj_iaddN dL_law_830 ?_
  refine gj_sld (i := 6 * j + 3) (by omega) (by omega) dL_law_831 ?_
  refine gj_callV (as := [.int (xs (6 * j + 1)), .int (xs (6 * j + 2)), .int (xs (6 * j + 3))]) lkL_98 (hc0 κ C) rfl rfl hE1 dL_law_832 rfl rfl (Nat.le_of_ble_eq_true rfl) ⟨⟨Nat.le_of_ble_eq_true rfl, Nat.le_of_ble_eq_true rfl⟩, ⟨show k + 0 ≤ 600000 by omega, show n + 0 ≤ 7302250 by omega⟩⟩ (Or.inl rfl) (fun r1 h1 z1 => ?_)
  obtain ⟨⟨v, rfl⟩, ⟨κ1, C1, rfl⟩, Z2, hE2, hz2⟩ := hz1 r1 h1 z1
  refine gj_aload_n dL_law_835 rfl ?_
  refine gj_aload_n dL_law_836 rfl ?_
  refine gj_iload_n dL_law_837 rfl ?_
  refine gj_ic (w := 1) dL_law_838 ?_
  refine gj_iaddN dL_law_839 ?_
  refine gj_sld (i := 6 * j + 1) (by omega) (by omega) dL_law_840 ?_
  refine gj_aload_n dL_law_841 rfl ?_
  refine gj_iload_n dL_law_842 rfl ?_
  refine gj_ic (w := 2) dL_law_843 ?_
  refine gj_iaddN dL_law_844 ?_
  refine gj_sld (i := 6 * j + 2) (by omega) (by omega) dL_law_845 ?_
  refine gj_aload_n dL_law_846 rfl ?_
  refine gj_iload_n dL_law_847 rfl ?_
  refine gj_ic (w := 3) dL_law_848 ?_
  refine gj_iaddN dL_law_849 ?_
  refine gj_sld (i := 6 * j + 3) (by omega) (by omega) dL_law_850 ?_
  refine gj_callV (as := [.int (xs (6 * j + 1)), .int (xs (6 * j + 2)), .int (xs (6 * j + 3))]) (rest := [.int v]) lkL_101 (hc100 κ1 C1) rfl rfl hE2 dL_law_851 rfl rfl (Nat.le_of_ble_eq_true rfl) ⟨⟨Nat.le_of_ble_eq_true rfl, Nat.le_of_ble_eq_true rfl⟩, ⟨show k + 0 + 0 ≤ 600000 by omega, show n + 0 + 0 ≤ 7302250 by omega⟩⟩ (Or.inl rfl) (fun r2 h2 z2 => ?_)
  obtain ⟨rfl, g2⟩ := hz2 r2 h2 z2
  show gj _ _ _ _ _ _ _ [(.int v : Value), .int v] _
  refine gj_icmp_eq (tgt := 1504) dL_law_854 rfl (fun _ => ?_) (fun z => absurd rfl z)
  exact gj_wid (show k + 0 + 0 ≤ k + 100 by omega) (show n + 0 + 0 ≤ n + 1000 by omega) (kk h2 g2)
theorem lw_c21 {E : mj_E} {G : mj_H → Prop} {b L k n j : Nat} {xs : Nat → Int32} {h : mj_H} (HG : ∀ h, G h → ∃ (κ : Nat → Bool) (C : Nat → Nat → Nat), h = hh κ C) (g : G h) (hL : L ≤ 384) (hj : 6 * j + 6 ≤ L) (hk : k ≤ 500000) (hn : n ≤ 7000000) (hst : mj_St E G mj_isI iX10_apart iX11_apart [.int (xs (6 * j + 1)), .int (xs (6 * j + 2)), .int (xs (6 * j + 3)), .int (xs (6 * j + 4))] h) (kk : ∀ h', G h' → gj E (mj_XW b L xs) cL_law (k + 100) (n + 1000) 1504 [some (.ref 1500), some (.ref 0), some (.ref 100), some (.int (nI (6 * j)))] [] h') : gj E (mj_XW b L xs) cL_law k n 859 [some (.ref 1500), some (.ref 0), some (.ref 100), some (.int (nI (6 * j)))] [] h := by
  obtain ⟨κ, C, rfl⟩ := HG h g
  obtain ⟨Z1, hE1, hz1⟩ := hst
  refine gj_aload_n dL_law_859 rfl ?_
  refine gj_aload_n dL_law_860 rfl ?_
  refine gj_iload_n dL_law_861 rfl ?_
  refine gj_ic (w := 1) dL_law_862 ?_
  refine gj_iaddN dL_law_863 ?_
  refine gj_sld (i := 6 * j + 1) (by omega) (by omega) dL_law_864 ?_
  refine gj_aload_n dL_law_865 rfl ?_
  refine gj_iload_n dL_law_866 rfl ?_
  refine gj_ic (w := 2) dL_law_867 ?_
  refine gj_iaddN dL_law_868 ?_
  refine gj_sld (i := 6 * j + 2) (by omega) (by omega) dL_law_869 ?_
  refine gj_aload_n dL_law_870 rfl ?_
  refine gj_iload_n dL_law_871 rfl ?_
  refine gj_ic (w := 3) dL_law_872 ?_
  refine gj_iaddN dL_law_873 ?_
  refine gj_sld (i := 6 * j + 3) (by omega) (by omega) dL_law_874 ?_
  refine gj_aload_n dL_law_875 rfl ?_
  refine gj_iload_n dL_law_876 rfl ?_
  refine gj_ic (w := 4) dL_law_877 ?_
  refine gj_iaddN dL_law_878 ?_
  refine gj_sld (i := 6 * j + 4) (by omega) (by omega) dL_law_879 ?_
  refine gj_callV (as := [.int (xs (6 * j + 1)), .int (xs (6 * j + 2)), .int (xs (6 * j + 3)), .int (xs (6 * j + 4))]) lkL_102 (hc0 κ C) rfl rfl hE1 dL_law_880 rfl rfl (Nat.le_of_ble_eq_true rfl) ⟨⟨Nat.le_of_ble_eq_true rfl, Nat.le_of_ble_eq_true rfl⟩, ⟨show k + 0 ≤ 600000 by omega, show n + 0 ≤ 7302250 by omega⟩⟩ (Or.inl rfl) (fun r1 h1 z1 => ?_)
  obtain ⟨⟨v, rfl⟩, ⟨κ1, C1, rfl⟩, Z2, hE2, hz2⟩ := hz1 r1 h1 z1
  refine gj_aload_n dL_law_883 rfl ?_
  refine gj_aload_n dL_law_884 rfl ?_
  refine gj_iload_n dL_law_885 rfl ?_
  refine gj_ic (w := 1) dL_law_886 ?_
  refine gj_iaddN dL_law_887 ?_
  refine gj_sld (i := 6 * j + 1) (by omega) (by omega) dL_law_888 ?_
  refine gj_aload_n dL_law_889 rfl ?_
  refine gj_iload_n dL_law_890 rfl ?_
  refine gj_ic (w := 2) dL_law_891 ?_
  refine gj_iaddN dL_law_892 ?_
  refine gj_sld (i := 6 * j + 2) (by omega) (by omega) dL_law_893 ?_
  refine gj_aload_n dL_law_894 rfl ?_
  refine gj_iload_n dL_law_895 rfl ?_
  refine gj_ic (w := 3) dL_law_896 ?_
  refine gj_iaddN dL_law_897 ?_
  refine gj_sld (i := 6 * j + 3) (by omega) (by omega) dL_law_898 ?_
  refine gj_aload_n dL_law_899 rfl ?_
  refine gj_iload_n dL_law_900 rfl ?_
  refine gj_ic (w := 4) dL_law_901 ?_
  refine gj_iaddN dL_law_902 ?_
  refine gj_sld (i := 6 * j + 4) (by omega) (by omega) dL_law_903 ?_
  refine gj_callV (as := [.int (xs (6 * j + 1)), .int (xs (6 * j + 2)), .int (xs (6 * j + 3)), .int (xs (6 * j + 4))]) (rest := [.int v]) lkL_105 (hc100 κ1 C1) rfl rfl hE2 dL_law_904 rfl rfl (Nat.le_of_ble_eq_true rfl) ⟨⟨Nat.le_of_ble_eq_true rfl, Nat.le_of_ble_eq_true rfl⟩, ⟨show k + 0 + 0 ≤ 600000 by omega, show n + 0 + 0 ≤ 7302250 by omega⟩⟩ (Or.inl rfl) (fun r2 h2 z2 => ?_)
  obtain ⟨rfl, g2⟩ := hz2 r2 h2 z2
  show gj _ _ _ _ _ _ _ [(.int v : Value), .int v] _
  refine gj_icmp_eq (tgt := 1504) dL_law_907 rfl (fun _ => ?_) (fun z => absurd rfl z)
  exact gj_wid (show k + 0 + 0 ≤ k + 100 by omega) (show n + 0 + 0 ≤ n + 1000 by omega) (kk h2 g2)
theorem lw_c22 {E : mj_E} {G : mj_H → Prop} {b L k n j : Nat} {xs : Nat → Int32} {h : mj_H} (HG : ∀ h, G h → ∃ (κ : Nat → Bool) (C : Nat → Nat → Nat), h = hh κ C) (g : G h) (hL : L ≤ 384) (hj : 6 * j + 6 ≤ L) (hk : k ≤ 500000) (hn : n ≤ 7000000) (hst : mj_St E G mj_isI iX10_votes iX11_votes [.int (xs (6 * j + 1))] h) (kk : ∀ h', G h' → gj E (mj_XW b L xs) cL_law (k + 100) (n + 1000) 1504 [some (.ref 1500), some (.ref 0), some (.ref 100), some (.int (nI (6 * j)))] [] h') : gj E (mj_XW b L xs) cL_law k n 912 [some (.ref 1500), some (.ref 0), some (.ref 100), some (.int (nI (6 * j)))] [] h := by
  obtain ⟨κ, C, rfl⟩ := HG h g
  obtain ⟨Z1, hE1, hz1⟩ := hst
  refine gj_aload_n dL_law_912 rfl ?_
  refine gj_aload_n dL_law_913 rfl ?_
  refine gj_iload_n dL_law_914 rfl ?_
  refine gj_ic (w := 1) dL_law_915 ?_
  refine gj_iaddN dL_law_916 ?_
  refine gj_sld (i := 6 * j + 1) (by omega) (by omega) dL_law_917 ?_
  refine gj_callV (as := [.int (xs (6 * j + 1))]) lkL_106 (hc0 κ C) rfl rfl hE1 dL_law_918 rfl rfl (Nat.le_of_ble_eq_true rfl) ⟨⟨Nat.le_of_ble_eq_true rfl, Nat.le_of_ble_eq_true rfl⟩, ⟨show k + 0 ≤ 600000 by omega, show n + 0 ≤ 7302250 by omega⟩⟩ (Or.inl rfl) (fun r1 h1 z1 => ?_)
  obtain ⟨⟨v, rfl⟩, ⟨κ1, C1, rfl⟩, Z2, hE2, hz2⟩ := hz1 r1 h1 z1
  refine gj_aload_n dL_law_921 rfl ?_
  refine gj_aload_n dL_law_922 rfl ?_
  refine gj_iload_n dL_law_923 rfl ?_
  refine gj_ic (w := 1) dL_law_924 ?_
  refine gj_iaddN dL_law_925 ?_
  refine gj_sld (i := 6 * j + 1) (by omega) (by omega) dL_law_926 ?_
  refine gj_callV (as := [.int (xs (6 * j + 1))]) (rest := [.int v]) lkL_109 (hc100 κ1 C1) rfl rfl hE2 dL_law_927 rfl rfl (Nat.le_of_ble_eq_true rfl) ⟨⟨Nat.le_of_ble_eq_true rfl, Nat.le_of_ble_eq_true rfl⟩, ⟨show k + 0 + 0 ≤ 600000 by omega, show n + 0 + 0 ≤ 7302250 by omega⟩⟩ (Or.inl rfl) (fun r2 h2 z2 => ?_)
  obtain ⟨rfl, g2⟩ := hz2 r2 h2 z2
  show gj _ _ _ _ _ _ _ [(.int v : Value), .int v] _
  refine gj_icmp_eq (tgt := 1504) dL_law_930 rfl (fun _ => ?_) (fun z => absurd rfl z)
  exact gj_wid (show k + 0 + 0 ≤ k + 100 by omega) (show n + 0 + 0 ≤ n + 1000 by omega) (kk h2 g2)
theorem lw_c23 {E : mj_E} {G : mj_H → Prop} {b L k n j : Nat} {xs : Nat → Int32} {h : mj_H} (HG : ∀ h, G h → ∃ (κ : Nat → Bool) (C : Nat → Nat → Nat), h = hh κ C) (g : G h) (hL : L ≤ 384) (hj : 6 * j + 6 ≤ L) (hk : k ≤ 500000) (hn : n ≤ 7000000) (hst : mj_St E G mj_isI iX10_turn iX11_turn [] h) (kk : ∀ h', G h' → gj E (mj_XW b L xs) cL_law (k + 100) (n + 1000) 1504 [some (.ref 1500), some (.ref 0), some (.ref 100), some (.int (nI (6 * j)))] [] h') : gj E (mj_XW b L xs) cL_law k n 935 [some (.ref 1500), some (.ref 0), some (.ref 100), some (.int (nI (6 * j)))] [] h := by
  obtain ⟨κ, C, rfl⟩ := HG h g
  obtain ⟨Z1, hE1, hz1⟩ := hst
  refine gj_aload_n dL_law_935 rfl ?_
  refine gj_callV (as := []) lkL_110 (hc0 κ C) rfl rfl hE1 dL_law_936 rfl rfl (Nat.le_of_ble_eq_true rfl) ⟨⟨Nat.le_of_ble_eq_true rfl, Nat.le_of_ble_eq_true rfl⟩, ⟨show k + 0 ≤ 600000 by omega, show n + 0 ≤ 7302250 by omega⟩⟩ (Or.inl rfl) (fun r1 h1 z1 => ?_)
  obtain ⟨⟨v, rfl⟩, ⟨κ1, C1, rfl⟩, Z2, hE2, hz2⟩ := hz1 r1 h1 z1
  refine gj_aload_n dL_law_939 rfl ?_
  refine gj_callV (as := []) (rest := [.int v]) lkL_113 (hc100 κ1 C1) rfl rfl hE2 dL_law_940 rfl rfl (Nat.le_of_ble_eq_true rfl) ⟨⟨Nat.le_of_ble_eq_true rfl, Nat.le_of_ble_eq_true rfl⟩, ⟨show k + 0 + 0 ≤ 600000 by omega, show n + 0 + 0 ≤ 7302250 by omega⟩⟩ (Or.inl rfl) (fun r2 h2 z2 => ?_)
  obtain ⟨rfl, g2⟩ := hz2 r2 h2 z2
  show gj _ _ _ _ _ _ _ [(.int v : Value), .int v] _
  refine gj_icmp_eq (tgt := 1504) dL_law_943 rfl (fun _ => ?_) (fun z => absurd rfl z)
  exact gj_wid (show k + 0 + 0 ≤ k + 100 by omega) (show n + 0 + 0 ≤ n + 1000 by omega) (kk h2 g2)
theorem lw_c24 {E : mj_E} {G : mj_H → Prop} {b L k n j : Nat} {xs : Nat → Int32} {h : mj_H} (HG : ∀ h, G h → ∃ (κ : Nat → Bool) (C : Nat → Nat → Nat), h = hh κ C) (g : G h) (hL : L ≤ 384) (hj : 6 * j + 6 ≤ L) (hk : k ≤ 500000) (hn : n ≤ 7000000) (hst : mj_St E G mj_isI iX10_seen iX11_seen [.int (xs (6 * j + 1)), .int (xs (6 * j + 2))] h) (kk : ∀ h', G h' → gj E (mj_XW b L xs) cL_law (k + 100) (n + 1000) 1504 [some (.ref 1500), some (.ref 0), some (.ref 100), some (.int (nI (6 * j)))] [] h') : gj E (mj_XW b L xs) cL_law k n 948 [some (.ref 1500), some (.ref 0), some (.ref 100), some (.int (nI (6 * j)))] [] h := by
  obtain ⟨κ, C, rfl⟩ := HG h g
  obtain ⟨Z1, hE1, hz1⟩ := hst
  refine gj_aload_n dL_law_948 rfl ?_
  refine gj_aload_n dL_law_949 rfl ?_
  refine gj_iload_n dL_law_950 rfl ?_
  refine gj_ic (w := 1) dL_law_951 ?_
  refine gj_iaddN dL_law_952 ?_
  refine gj_sld (i := 6 * j + 1) (by omega) (by omega) dL_law_953 ?_
  refine gj_aload_n dL_law_954 rfl ?_
  refine gj_iload_n dL_law_955 rfl ?_
  refine gj_ic (w := 2) dL_law_956 ?_
  refine gj_iaddN dL_law_957 ?_
  refine gj_sld (i := 6 * j + 2) (by omega) (by omega) dL_law_958 ?_
  refine gj_callV (as := [.int (xs (6 * j + 1)), .int (xs (6 * j + 2))]) lkL_114 (hc0 κ C) rfl rfl hE1 dL_law_959 rfl rfl (Nat.le_of_ble_eq_true rfl) ⟨⟨Nat.le_of_ble_eq_true rfl, Nat.le_of_ble_eq_true rfl⟩, ⟨show k + 0 ≤ 600000 by omega, show n + 0 ≤ 7302250 by omega⟩⟩ (Or.inl rfl) (fun r1 h1 z1 => ?_)
  obtain ⟨⟨v, rfl⟩, ⟨κ1, C1, rfl⟩, Z2, hE2, hz2⟩ := hz1 r1 h1 z1
  refine gj_aload_n dL_law_962 rfl ?_
  refine gj_aload_n dL_law_963 rfl ?_
  refine gj_iload_n dL_law_964 rfl ?_
  refine gj_ic (w := 1) dL_law_965 ?_
  refine gj_iaddN dL_law_966 ?_
  refine gj_sld (i := 6 * j + 1) (by omega) (by omega) dL_law_967 ?_
  refine gj_aload_n dL_law_968 rfl ?_
  refine gj_iload_n dL_law_969 rfl ?_
  refine gj_ic (w := 2) dL_law_970 ?_
  refine gj_iaddN dL_law_971 ?_
  refine gj_sld (i := 6 * j + 2) (by omega) (by omega) dL_law_972 ?_
  refine gj_callV (as := [.int (xs (6 * j + 1)), .int (xs (6 * j + 2))]) (rest := [.int v]) lkL_117 (hc100 κ1 C1) rfl rfl hE2 dL_law_973 rfl rfl (Nat.le_of_ble_eq_true rfl) ⟨⟨Nat.le_of_ble_eq_true rfl, Nat.le_of_ble_eq_true rfl⟩, ⟨show k + 0 + 0 ≤ 600000 by omega, show n + 0 + 0 ≤ 7302250 by omega⟩⟩ (Or.inl rfl) (fun r2 h2 z2 => ?_)
  obtain ⟨rfl, g2⟩ := hz2 r2 h2 z2
  show gj _ _ _ _ _ _ _ [(.int v : Value), .int v] _
  refine gj_icmp_eq (tgt := 1504) dL_law_976 rfl (fun _ => ?_) (fun z => absurd rfl z)
  exact gj_wid (show k + 0 + 0 ≤ k + 100 by omega) (show n + 0 + 0 ≤ n + 1000 by omega) (kk h2 g2)
theorem lw_c25 {E : mj_E} {G : mj_H → Prop} {b L k n j : Nat} {xs : Nat → Int32} {h : mj_H} (HG : ∀ h, G h → ∃ (κ : Nat → Bool) (C : Nat → Nat → Nat), h = hh κ C) (g : G h) (hL : L ≤ 384) (hj : 6 * j + 6 ≤ L) (hk : k ≤ 500000) (hn : n ≤ 7000000) (hst : mj_St E G mj_isI iX10_lies iX11_lies [] h) (kk : ∀ h', G h' → gj E (mj_XW b L xs) cL_law (k + 100) (n + 1000) 1504 [some (.ref 1500), some (.ref 0), some (.ref 100), some (.int (nI (6 * j)))] [] h') : gj E (mj_XW b L xs) cL_law k n 981 [some (.ref 1500), some (.ref 0), some (.ref 100), some (.int (nI (6 * j)))] [] h := by
  obtain ⟨κ, C, rfl⟩ := HG h g
  obtain ⟨Z1, hE1, hz1⟩ := hst
  refine gj_aload_n dL_law_981 rfl ?_
  refine gj_callV (as := []) lkL_118 (hc0 κ C) rfl rfl hE1 dL_law_982 rfl rfl (Nat.le_of_ble_eq_true rfl) ⟨⟨Nat.le_of_ble_eq_true rfl, Nat.le_of_ble_eq_true rfl⟩, ⟨show k + 0 ≤ 600000 by omega, show n + 0 ≤ 7302250 by omega⟩⟩ (Or.inl rfl) (fun r1 h1 z1 => ?_)
  obtain ⟨⟨v, rfl⟩, ⟨κ1, C1, rfl⟩, Z2, hE2, hz2⟩ := hz1 r1 h1 z1
  refine gj_aload_n dL_law_985 rfl ?_
  refine gj_callV (as := []) (rest := [.int v]) lkL_121 (hc100 κ1 C1) rfl rfl hE2 dL_law_986 rfl rfl (Nat.le_of_ble_eq_true rfl) ⟨⟨Nat.le_of_ble_eq_true rfl, Nat.le_of_ble_eq_true rfl⟩, ⟨show k + 0 + 0 ≤ 600000 by omega, show n + 0 + 0 ≤ 7302250 by omega⟩⟩ (Or.inl rfl) (fun r2 h2 z2 => ?_)
  obtain ⟨rfl, g2⟩ := hz2 r2 h2 z2
  show gj _ _ _ _ _ _ _ [(.int v : Value), .int v] _
  refine gj_icmp_eq (tgt := 1504) dL_law_989 rfl (fun _ => ?_) (fun z => absurd rfl z)
  exact gj_wid (show k + 0 + 0 ≤ k + 100 by omega) (show n + 0 + 0 ≤ n + 1000 by omega) (kk h2 g2)
theorem lw_c26 {E : mj_E} {G : mj_H → Prop} {b L k n j : Nat} {xs : Nat → Int32} {h : mj_H} (HG : ∀ h, G h → ∃ (κ : Nat → Bool) (C : Nat → Nat → Nat), h = hh κ C) (g : G h) (hL : L ≤ 384) (hj : 6 * j + 6 ≤ L) (hk : k ≤ 500000) (hn : n ≤ 7000000) (hst : mj_St E G mj_isI iX10_stones iX11_stones [.int (xs (6 * j + 1)), .int (xs (6 * j + 2)), .int (xs (6 * j + 3))] h) (kk : ∀ h', G h' → gj E (mj_XW b L xs) cL_law (k + 100) (n + 1000) 1504 [some (.ref 1500), some (.ref 0), some (.ref 100), some (.int (nI (6 * j)))] [] h') : gj E (mj_XW b L xs) cL_law k n 994 [some (.ref 1500), some (.ref 0), some (.ref 100), some (.int (nI (6 * j)))] [] h := by
  obtain ⟨κ, C, rfl⟩ := HG h g
  obtain ⟨Z1, hE1, hz1⟩ := hst
  refine gj_aload_n dL_law_994 rfl ?_
  refine gj_aload_n dL_law_995 rfl ?_
  refine gj_iload_n dL_law_996 rfl ?_
  refine gj_ic (w := 1) dL_law_997 ?_
  refine gj_iaddN dL_law_998 ?_
  refine gj_sld (i := 6 * j + 1) (by omega) (by omega) dL_law_999 ?_
  refine gj_aload_n dL_law_1000 rfl ?_
  refine gj_iload_n dL_law_1001 rfl ?_
  refine gj_ic (w := 2) dL_law_1002 ?_
  refine gj_iaddN dL_law_1003 ?_
  refine gj_sld (i := 6 * j + 2) (by omega) (by omega) dL_law_1004 ?_
  refine gj_aload_n dL_law_1005 rfl ?_
  refine gj_iload_n dL_law_1006 rfl ?_
  refine gj_ic (w := 3) dL_law_1007 ?_
  refine gj_iaddN dL_law_1008 ?_
  refine gj_sld (i := 6 * j + 3) (by omega) (by omega) dL_law_1009 ?_
  refine gj_callV (as := [.int (xs (6 * j + 1)), .int (xs (6 * j + 2)), .int (xs (6 * j + 3))]) lkL_122 (hc0 κ C) rfl rfl hE1 dL_law_1010 rfl rfl (Nat.le_of_ble_eq_true rfl) ⟨⟨Nat.le_of_ble_eq_true rfl, Nat.le_of_ble_eq_true rfl⟩, ⟨show k + 0 ≤ 600000 by omega, show n + 0 ≤ 7302250 by omega⟩⟩ (Or.inl rfl) (fun r1 h1 z1 => ?_)
  obtain ⟨⟨v, rfl⟩, ⟨κ1, C1, rfl⟩, Z2, hE2, hz2⟩ := hz1 r1 h1 z1
  refine gj_aload_n dL_law_1013 rfl ?_
  refine gj_aload_n dL_law_1014 rfl ?_
  refine gj_iload_n dL_law_1015 rfl ?_
  refine gj_ic (w := 1) dL_law_1016 ?_
  refine gj_iaddN dL_law_1017 ?_
  refine gj_sld (i := 6 * j + 1) (by omega) (by omega) dL_law_1018 ?_
  refine gj_aload_n dL_law_1019 rfl ?_
  refine gj_iload_n dL_law_1020 rfl ?_
  refine gj_ic (w := 2) dL_law_1021 ?_
  refine gj_iaddN dL_law_1022 ?_
  refine gj_sld (i := 6 * j + 2) (by omega) (by omega) dL_law_1023 ?_
  refine gj_aload_n dL_law_1024 rfl ?_
  refine gj_iload_n dL_law_1025 rfl ?_
  refine gj_ic (w := 3) dL_law_1026 ?_
  refine gj_iaddN dL_law_1027 ?_
  refine gj_sld (i := 6 * j + 3) (by omega) (by omega) dL_law_1028 ?_
  refine gj_callV (as := [.int (xs (6 * j + 1)), .int (xs (6 * j + 2)), .int (xs (6 * j + 3))]) (rest := [.int v]) lkL_125 (hc100 κ1 C1) rfl rfl hE2 dL_law_1029 rfl rfl (Nat.le_of_ble_eq_true rfl) ⟨⟨Nat.le_of_ble_eq_true rfl, Nat.le_of_ble_eq_true rfl⟩, ⟨show k + 0 + 0 ≤ 600000 by omega, show n + 0 + 0 ≤ 7302250 by omega⟩⟩ (Or.inl rfl) (fun r2 h2 z2 => ?_)
  obtain ⟨rfl, g2⟩ := hz2 r2 h2 z2
  show gj _ _ _ _ _ _ _ [(.int v : Value), .int v] _
  refine gj_icmp_eq (tgt := 1504) dL_law_1032 rfl (fun _ => ?_) (fun z => absurd rfl z)
  exact gj_wid (show k + 0 + 0 ≤ k + 100 by omega) (show n + 0 + 0 ≤ n + 1000 by omega) (kk h2 g2)
theorem lw_c27 {E : mj_E} {G : mj_H → Prop} {b L k n j : Nat} {xs : Nat → Int32} {h : mj_H} (HG : ∀ h, G h → ∃ (κ : Nat → Bool) (C : Nat → Nat → Nat), h = hh κ C) (g : G h) (hL : L ≤ 384) (hj : 6 * j + 6 ≤ L) (hk : k ≤ 500000) (hn : n ≤ 7000000) (hst : mj_St E G mj_isI iX10_note iX11_note [.int (xs (6 * j + 1)), .int (xs (6 * j + 2)), .int (xs (6 * j + 3)), .int (xs (6 * j + 4)), .int (xs (6 * j + 5))] h) (kk : ∀ h', G h' → gj E (mj_XW b L xs) cL_law (k + 100) (n + 1000) 1504 [some (.ref 1500), some (.ref 0), some (.ref 100), some (.int (nI (6 * j)))] [] h') : gj E (mj_XW b L xs) cL_law k n 1037 [some (.ref 1500), some (.ref 0), some (.ref 100), some (.int (nI (6 * j)))] [] h := by
  obtain ⟨κ, C, rfl⟩ := HG h g
  obtain ⟨Z1, hE1, hz1⟩ := hst
  refine gj_aload_n dL_law_1037 rfl ?_
  refine gj_aload_n dL_law_1038 rfl ?_
  refine gj_iload_n dL_law_1039 rfl ?_
  refine gj_ic (w := 1) dL_law_1040 ?_
  refine gj_iaddN dL_law_1041 ?_
  refine gj_sld (i := 6 * j + 1) (by omega) (by omega) dL_law_1042 ?_
  refine gj_aload_n dL_law_1043 rfl ?_
  refine gj_iload_n dL_law_1044 rfl ?_
  refine gj_ic (w := 2) dL_law_1045 ?_
  refine gj_iaddN dL_law_1046 ?_
  refine gj_sld (i := 6 * j + 2) (by omega) (by omega) dL_law_1047 ?_
  refine gj_aload_n dL_law_1048 rfl ?_
  refine gj_iload_n dL_law_1049 rfl ?_
  refine gj_ic (w := 3) dL_law_1050 ?_
  refine gj_iaddN dL_law_1051 ?_
  refine gj_sld (i := 6 * j + 3) (by omega) (by omega) dL_law_1052 ?_
  refine gj_aload_n dL_law_1053 rfl ?_
  refine gj_iload_n dL_law_1054 rfl ?_
  refine gj_ic (w := 4) dL_law_1055 ?_
  refine gj_iaddN dL_law_1056 ?_
  refine gj_sld (i := 6 * j + 4) (by omega) (by omega) dL_law_1057 ?_
  refine gj_aload_n dL_law_1058 rfl ?_
  refine gj_iload_n dL_law_1059 rfl ?_
  refine gj_ic (w := 5) dL_law_1060 ?_
  refine gj_iaddN dL_law_1061 ?_
  refine gj_sld (i := 6 * j + 5) (by omega) (by omega) dL_law_1062 ?_
  refine gj_callV (as := [.int (xs (6 * j + 1)), .int (xs (6 * j + 2)), .int (xs (6 * j + 3)), .int (xs (6 * j + 4)), .int (xs (6 * j + 5))]) lkL_126 (hc0 κ C) rfl rfl hE1 dL_law_1063 rfl rfl (Nat.le_of_ble_eq_true rfl) ⟨⟨Nat.le_of_ble_eq_true rfl, Nat.le_of_ble_eq_true rfl⟩, ⟨show k + 0 ≤ 600000 by omega, show n + 0 ≤ 7302250 by omega⟩⟩ (Or.inl rfl) (fun r1 h1 z1 => ?_)
  obtain ⟨⟨v, rfl⟩, ⟨κ1, C1, rfl⟩, Z2, hE2, hz2⟩ := hz1 r1 h1 z1
  refine gj_aload_n dL_law_1066 rfl ?_
  refine gj_aload_n dL_law_1067 rfl ?_
  refine gj_iload_n dL_law_1068 rfl ?_
  refine gj_ic (w := 1) dL_law_1069 ?_
  refine gj_iaddN dL_law_1070 ?_
  refine gj_sld (i := 6 * j + 1) (by omega) (by omega) dL_law_1071 ?_
  refine gj_aload_n dL_law_1072 rfl ?_
  refine gj_iload_n dL_law_1073 rfl ?_
  refine gj_ic (w := 2) dL_law_1074 ?_
  refine gj_iaddN dL_law_1075 ?_
  refine gj_sld (i := 6 * j + 2) (by omega) (by omega) dL_law_1076 ?_
  refine gj_aload_n dL_law_1077 rfl ?_
  refine gj_iload_n dL_law_1078 rfl ?_
  refine gj_ic (w := 3) dL_law_1079 ?_
  refine gj_iaddN dL_law_1080 ?_
  refine gj_sld (i := 6 * j + 3) (by omega) (by omega) dL_law_1081 ?_
  refine gj_aload_n dL_law_1082 rfl ?_
  refine gj_iload_n dL_law_1083 rfl ?_
  refine gj_ic (w := 4) dL_law_1084 ?_
  refine gj_iaddN dL_law_1085 ?_
  refine gj_sld (i := 6 * j + 4) (by omega) (by omega) dL_law_1086 ?_
  refine gj_aload_n dL_law_1087 rfl ?_
  refine gj_iload_n dL_law_1088 rfl ?_
  refine gj_ic (w := 5) dL_law_1089 ?_
  refine gj_iaddN dL_law_1090 ?_
  refine gj_sld (i := 6 * j + 5) (by omega) (by omega) dL_law_1091 ?_
  refine gj_callV (as := [.int (xs (6 * j + 1)), .int (xs (6 * j + 2)), .int (xs (6 * j + 3)), .int (xs (6 * j + 4)), .int (xs (6 * j + 5))]) (rest := [.int v]) lkL_130 (hc100 κ1 C1) rfl rfl hE2 dL_law_1092 rfl rfl (Nat.le_of_ble_eq_true rfl) ⟨⟨Nat.le_of_ble_eq_true rfl, Nat.le_of_ble_eq_true rfl⟩, ⟨show k + 0 + 0 ≤ 600000 by omega, show n + 0 + 0 ≤ 7302250 by omega⟩⟩ (Or.inl rfl) (fun r2 h2 z2 => ?_)
  obtain ⟨rfl, g2⟩ := hz2 r2 h2 z2
  show gj _ _ _ _ _ _ _ [(.int v : Value), .int v] _
  refine gj_icmp_eq (tgt := 1504) dL_law_1095 rfl (fun _ => ?_) (fun z => absurd rfl z)
  exact gj_wid (show k + 0 + 0 ≤ k + 100 by omega) (show n + 0 + 0 ≤ n + 1000 by omega) (kk h2 g2)
theorem lw_c28 {E : mj_E} {G : mj_H → Prop} {b L k n j : Nat} {xs : Nat → Int32} {h : mj_H} (HG : ∀ h, G h → ∃ (κ : Nat → Bool) (C : Nat → Nat → Nat), h = hh κ C) (g : G h) (hL : L ≤ 384) (hj : 6 * j + 6 ≤ L) (hk : k ≤ 500000) (hn : n ≤ 7000000) (hst : mj_St E G mj_isI iX10_voted iX11_voted [.int (xs (6 * j + 1)), .int (xs (6 * j + 2)), .int (xs (6 * j + 3)), .int (xs (6 * j + 4)), .int (xs (6 * j + 5))] h) (kk : ∀ h', G h' → gj E (mj_XW b L xs) cL_law (k + 100) (n + 1000) 1504 [some (.ref 1500), some (.ref 0), some (.ref 100), some (.int (nI (6 * j)))] [] h') : gj E (mj_XW b L xs) cL_law k n 1100 [some (.ref 1500), some (.ref 0), some (.ref 100), some (.int (nI (6 * j)))] [] h := by
  obtain ⟨κ, C, rfl⟩ := HG h g
  obtain ⟨Z1, hE1, hz1⟩ := hst
  refine gj_aload_n dL_law_1100 rfl ?_
  refine gj_aload_n dL_law_1101 rfl ?_
  refine gj_iload_n dL_law_1102 rfl ?_
  refine gj_ic (w := 1) dL_law_1103 ?_
  refine gj_iaddN dL_law_1104 ?_
  refine gj_sld (i := 6 * j + 1) (by omega) (by omega) dL_law_1105 ?_
  refine gj_aload_n dL_law_1106 rfl ?_
  refine gj_iload_n dL_law_1107 rfl ?_
  refine gj_ic (w := 2) dL_law_1108 ?_
  refine gj_iaddN dL_law_1109 ?_
  refine gj_sld (i := 6 * j + 2) (by omega) (by omega) dL_law_1110 ?_
  refine gj_aload_n dL_law_1111 rfl ?_
  refine gj_iload_n dL_law_1112 rfl ?_
  refine gj_ic (w := 3) dL_law_1113 ?_
  refine gj_iaddN dL_law_1114 ?_
  refine gj_sld (i := 6 * j + 3) (by omega) (by omega) dL_law_1115 ?_
  refine gj_aload_n dL_law_1116 rfl ?_
  refine gj_iload_n dL_law_1117 rfl ?_
  refine gj_ic (w := 4) dL_law_1118 ?_
  refine gj_iaddN dL_law_1119 ?_
  refine gj_sld (i := 6 * j + 4) (by omega) (by omega) dL_law_1120 ?_
  refine gj_aload_n dL_law_1121 rfl ?_
  refine gj_iload_n dL_law_1122 rfl ?_
  refine gj_ic (w := 5) dL_law_1123 ?_
  refine gj_iaddN dL_law_1124 ?_
  refine gj_sld (i := 6 * j + 5) (by omega) (by omega) dL_law_1125 ?_
  refine gj_callV (as := [.int (xs (6 * j + 1)), .int (xs (6 * j + 2)), .int (xs (6 * j + 3)), .int (xs (6 * j + 4)), .int (xs (6 * j + 5))]) lkL_131 (hc0 κ C) rfl rfl hE1 dL_law_1126 rfl rfl (Nat.le_of_ble_eq_true rfl) ⟨⟨Nat.le_of_ble_eq_true rfl, Nat.le_of_ble_eq_true rfl⟩, ⟨show k + 0 ≤ 600000 by omega, show n + 0 ≤ 7302250 by omega⟩⟩ (Or.inl rfl) (fun r1 h1 z1 => ?_)
  obtain ⟨⟨v, rfl⟩, ⟨κ1, C1, rfl⟩, Z2, hE2, hz2⟩ := hz1 r1 h1 z1
  refine gj_aload_n dL_law_1129 rfl ?_
  refine gj_aload_n dL_law_1130 rfl ?_
  refine gj_iload_n dL_law_1131 rfl ?_
  refine gj_ic (w := 1) dL_law_1132 ?_
  refine gj_iaddN dL_law_1133 ?_
  refine gj_sld (i := 6 * j + 1) (by omega) (by omega) dL_law_1134 ?_
  refine gj_aload_n dL_law_1135 rfl ?_
  refine gj_iload_n dL_law_1136 rfl ?_
  refine gj_ic (w := 2) dL_law_1137 ?_
  refine gj_iaddN dL_law_1138 ?_
  refine gj_sld (i := 6 * j + 2) (by omega) (by omega) dL_law_1139 ?_
  refine gj_aload_n dL_law_1140 rfl ?_
  refine gj_iload_n dL_law_1141 rfl ?_
  refine gj_ic (w := 3) dL_law_1142 ?_
  refine gj_iaddN dL_law_1143 ?_
  refine gj_sld (i := 6 * j + 3) (by omega) (by omega) dL_law_1144 ?_
  refine gj_aload_n dL_law_1145 rfl ?_
  refine gj_iload_n dL_law_1146 rfl ?_
  refine gj_ic (w := 4) dL_law_1147 ?_
  refine gj_iaddN dL_law_1148 ?_
  refine gj_sld (i := 6 * j + 4) (by omega) (by omega) dL_law_1149 ?_
  refine gj_aload_n dL_law_1150 rfl ?_
  refine gj_iload_n dL_law_1151 rfl ?_
  refine gj_ic (w := 5) dL_law_1152 ?_
  refine gj_iaddN dL_law_1153 ?_
  refine gj_sld (i := 6 * j + 5) (by omega) (by omega) dL_law_1154 ?_
  refine gj_callV (as := [.int (xs (6 * j + 1)), .int (xs (6 * j + 2)), .int (xs (6 * j + 3)), .int (xs (6 * j + 4)), .int (xs (6 * j + 5))]) (rest := [.int v]) lkL_134 (hc100 κ1 C1) rfl rfl hE2 dL_law_1155 rfl rfl (Nat.le_of_ble_eq_true rfl) ⟨⟨Nat.le_of_ble_eq_true rfl, Nat.le_of_ble_eq_true rfl⟩, ⟨show k + 0 + 0 ≤ 600000 by omega, show n + 0 + 0 ≤ 7302250 by omega⟩⟩ (Or.inl rfl) (fun r2 h2 z2 => ?_)
  obtain ⟨rfl, g2⟩ := hz2 r2 h2 z2
  show gj _ _ _ _ _ _ _ [(.int v : Value), .int v] _
  refine gj_icmp_eq (tgt := 1504) dL_law_1158 rfl (fun _ => ?_) (fun z => absurd rfl z)
  exact gj_wid (show k + 0 + 0 ≤ k + 100 by omega) (show n + 0 + 0 ≤ n + 1000 by omega) (kk h2 g2)
theorem lw_c29 {E : mj_E} {G : mj_H → Prop} {b L k n j : Nat} {xs : Nat → Int32} {h : mj_H} (HG : ∀ h, G h → ∃ (κ : Nat → Bool) (C : Nat → Nat → Nat), h = hh κ C) (g : G h) (hL : L ≤ 384) (hj : 6 * j + 6 ≤ L) (hk : k ≤ 500000) (hn : n ≤ 7000000) (hst : mj_St E G mj_isI iX10_forget iX11_forget [.int (xs (6 * j + 1))] h) (kk : ∀ h', G h' → gj E (mj_XW b L xs) cL_law (k + 100) (n + 1000) 1504 [some (.ref 1500), some (.ref 0), some (.ref 100), some (.int (nI (6 * j)))] [] h') : gj E (mj_XW b L xs) cL_law k n 1163 [some (.ref 1500), some (.ref 0), some (.ref 100), some (.int (nI (6 * j)))] [] h := by
  obtain ⟨κ, C, rfl⟩ := HG h g
  obtain ⟨Z1, hE1, hz1⟩ := hst
  refine gj_aload_n dL_law_1163 rfl ?_
  refine gj_aload_n dL_law_1164 rfl ?_
  refine gj_iload_n dL_law_1165 rfl ?_
  refine gj_ic (w := 1) dL_law_1166 ?_
  refine gj_iaddN dL_law_1167 ?_
  refine gj_sld (i := 6 * j + 1) (by omega) (by omega) dL_law_1168 ?_
  refine gj_callV (as := [.int (xs (6 * j + 1))]) lkL_135 (hc0 κ C) rfl rfl hE1 dL_law_1169 rfl rfl (Nat.le_of_ble_eq_true rfl) ⟨⟨Nat.le_of_ble_eq_true rfl, Nat.le_of_ble_eq_true rfl⟩, ⟨show k + 0 ≤ 600000 by omega, show n + 0 ≤ 7302250 by omega⟩⟩ (Or.inl rfl) (fun r1 h1 z1 => ?_)
  obtain ⟨⟨v, rfl⟩, ⟨κ1, C1, rfl⟩, Z2, hE2, hz2⟩ := hz1 r1 h1 z1
  refine gj_aload_n dL_law_1172 rfl ?_
  refine gj_aload_n dL_law_1173 rfl ?_
  refine gj_iload_n dL_law_1174 rfl ?_
  refine gj_ic (w := 1) dL_law_1175 ?_
  refine gj_iaddN dL_law_1176 ?_
  refine gj_sld (i := 6 * j + 1) (by omega) (by omega) dL_law_1177 ?_
  refine gj_callV (as := [.int (xs (6 * j + 1))]) (rest := [.int v]) lkL_138 (hc100 κ1 C1) rfl rfl hE2 dL_law_1178 rfl rfl (Nat.le_of_ble_eq_true rfl) ⟨⟨Nat.le_of_ble_eq_true rfl, Nat.le_of_ble_eq_true rfl⟩, ⟨show k + 0 + 0 ≤ 600000 by omega, show n + 0 + 0 ≤ 7302250 by omega⟩⟩ (Or.inl rfl) (fun r2 h2 z2 => ?_)
  obtain ⟨rfl, g2⟩ := hz2 r2 h2 z2
  show gj _ _ _ _ _ _ _ [(.int v : Value), .int v] _
  refine gj_icmp_eq (tgt := 1504) dL_law_1181 rfl (fun _ => ?_) (fun z => absurd rfl z)
  exact gj_wid (show k + 0 + 0 ≤ k + 100 by omega) (show n + 0 + 0 ≤ n + 1000 by omega) (kk h2 g2)
theorem lw_c30 {E : mj_E} {G : mj_H → Prop} {b L k n j : Nat} {xs : Nat → Int32} {h : mj_H} (HG : ∀ h, G h → ∃ (κ : Nat → Bool) (C : Nat → Nat → Nat), h = hh κ C) (g : G h) (hL : L ≤ 384) (hj : 6 * j + 6 ≤ L) (hk : k ≤ 500000) (hn : n ≤ 7000000) (hst : mj_St E G mj_isI iX10_is iX11_is [.int (xs (6 * j + 1))] h) (kk : ∀ h', G h' → gj E (mj_XW b L xs) cL_law (k + 100) (n + 1000) 1504 [some (.ref 1500), some (.ref 0), some (.ref 100), some (.int (nI (6 * j)))] [] h') : gj E (mj_XW b L xs) cL_law k n 1186 [some (.ref 1500), some (.ref 0), some (.ref 100), some (.int (nI (6 * j)))] [] h := by
  obtain ⟨κ, C, rfl⟩ := HG h g
  obtain ⟨Z1, hE1, hz1⟩ := hst
  refine gj_aload_n dL_law_1186 rfl ?_
  refine gj_aload_n dL_law_1187 rfl ?_
  refine gj_iload_n dL_law_1188 rfl ?_
  refine gj_ic (w := 1) dL_law_1189 ?_
  refine gj_iaddN dL_law_1190 ?_
  refine gj_sld (i := 6 * j + 1) (by omega) (by omega) dL_law_1191 ?_
  refine gj_callV (as := [.int (xs (6 * j + 1))]) lkL_139 (hc0 κ C) rfl rfl hE1 dL_law_1192 rfl rfl (Nat.le_of_ble_eq_true rfl) ⟨⟨Nat.le_of_ble_eq_true rfl, Nat.le_of_ble_eq_true rfl⟩, ⟨show k + 0 ≤ 600000 by omega, show n + 0 ≤ 7302250 by omega⟩⟩ (Or.inl rfl) (fun r1 h1 z1 => ?_)
  obtain ⟨⟨v, rfl⟩, ⟨κ1, C1, rfl⟩, Z2, hE2, hz2⟩ := hz1 r1 h1 z1
  refine gj_aload_n dL_law_1195 rfl ?_
  refine gj_aload_n dL_law_1196 rfl ?_
  refine gj_iload_n dL_law_1197 rfl ?_
  refine gj_ic (w := 1) dL_law_1198 ?_
  refine gj_iaddN dL_law_1199 ?_
  refine gj_sld (i := 6 * j + 1) (by omega) (by omega) dL_law_1200 ?_
  refine gj_callV (as := [.int (xs (6 * j + 1))]) (rest := [.int v]) lkL_142 (hc100 κ1 C1) rfl rfl hE2 dL_law_1201 rfl rfl (Nat.le_of_ble_eq_true rfl) ⟨⟨Nat.le_of_ble_eq_true rfl, Nat.le_of_ble_eq_true rfl⟩, ⟨show k + 0 + 0 ≤ 600000 by omega, show n + 0 + 0 ≤ 7302250 by omega⟩⟩ (Or.inl rfl) (fun r2 h2 z2 => ?_)
  obtain ⟨rfl, g2⟩ := hz2 r2 h2 z2
  show gj _ _ _ _ _ _ _ [(.int v : Value), .int v] _
  refine gj_icmp_eq (tgt := 1504) dL_law_1204 rfl (fun _ => ?_) (fun z => absurd rfl z)
  exact gj_wid (show k + 0 + 0 ≤ k + 100 by omega) (show n + 0 + 0 ≤ n + 1000 by omega) (kk h2 g2)
theorem lw_c31 {E : mj_E} {G : mj_H → Prop} {b L k n j : Nat} {xs : Nat → Int32} {h : mj_H} (HG : ∀ h, G h → ∃ (κ : Nat → Bool) (C : Nat → Nat → Nat), h = hh κ C) (g : G h) (hL : L ≤ 384) (hj : 6 * j + 6 ≤ L) (hk : k ≤ 500000) (hn : n ≤ 7000000) (hst : mj_St E G mj_isI iX10_next iX11_next [.int (xs (6 * j + 1))] h) (kk : ∀ h', G h' → gj E (mj_XW b L xs) cL_law (k + 100) (n + 1000) 1504 [some (.ref 1500), some (.ref 0), some (.ref 100), some (.int (nI (6 * j)))] [] h') : gj E (mj_XW b L xs) cL_law k n 1209 [some (.ref 1500), some (.ref 0), some (.ref 100), some (.int (nI (6 * j)))] [] h := by
  obtain ⟨κ, C, rfl⟩ := HG h g
  obtain ⟨Z1, hE1, hz1⟩ := hst
  refine gj_aload_n dL_law_1209 rfl ?_
  refine gj_aload_n dL_law_1210 rfl ?_
  refine gj_iload_n dL_law_1211 rfl ?_
  refine gj_ic (w := 1) dL_law_1212 ?_
  refine gj_iaddN dL_law_1213 ?_
  refine gj_sld (i := 6 * j + 1) (by omega) (by omega) dL_law_1214 ?_
  refine gj_callV (as := [.int (xs (6 * j + 1))]) lkL_143 (hc0 κ C) rfl rfl hE1 dL_law_1215 rfl rfl (Nat.le_of_ble_eq_true rfl) ⟨⟨Nat.le_of_ble_eq_true rfl, Nat.le_of_ble_eq_true rfl⟩, ⟨show k + 0 ≤ 600000 by omega, show n + 0 ≤ 7302250 by omega⟩⟩ (Or.inl rfl) (fun r1 h1 z1 => ?_)
  obtain ⟨⟨v, rfl⟩, ⟨κ1, C1, rfl⟩, Z2, hE2, hz2⟩ := hz1 r1 h1 z1
  refine gj_aload_n dL_law_1218 rfl ?_
  refine gj_aload_n dL_law_1219 rfl ?_
  refine gj_iload_n dL_law_1220 rfl ?_
  refine gj_ic (w := 1) dL_law_1221 ?_
  refine gj_iaddN dL_law_1222 ?_
  refine gj_sld (i := 6 * j + 1) (by omega) (by omega) dL_law_1223 ?_
  refine gj_callV (as := [.int (xs (6 * j + 1))]) (rest := [.int v]) lkL_146 (hc100 κ1 C1) rfl rfl hE2 dL_law_1224 rfl rfl (Nat.le_of_ble_eq_true rfl) ⟨⟨Nat.le_of_ble_eq_true rfl, Nat.le_of_ble_eq_true rfl⟩, ⟨show k + 0 + 0 ≤ 600000 by omega, show n + 0 + 0 ≤ 7302250 by omega⟩⟩ (Or.inl rfl) (fun r2 h2 z2 => ?_)
  obtain ⟨rfl, g2⟩ := hz2 r2 h2 z2
  show gj _ _ _ _ _ _ _ [(.int v : Value), .int v] _
  refine gj_icmp_eq (tgt := 1504) dL_law_1227 rfl (fun _ => ?_) (fun z => absurd rfl z)
  exact gj_wid (show k + 0 + 0 ≤ k + 100 by omega) (show n + 0 + 0 ≤ n + 1000 by omega) (kk h2 g2)
theorem lw_c32 {E : mj_E} {G : mj_H → Prop} {b L k n j : Nat} {xs : Nat → Int32} {h : mj_H} (HG : ∀ h, G h → ∃ (κ : Nat → Bool) (C : Nat → Nat → Nat), h = hh κ C) (g : G h) (hL : L ≤ 384) (hj : 6 * j + 6 ≤ L) (hk : k ≤ 500000) (hn : n ≤ 7000000) (hst : mj_St E G mj_isI iX10_who iX11_who [.int (xs (6 * j + 1))] h) (kk : ∀ h', G h' → gj E (mj_XW b L xs) cL_law (k + 100) (n + 1000) 1504 [some (.ref 1500), some (.ref 0), some (.ref 100), some (.int (nI (6 * j)))] [] h') : gj E (mj_XW b L xs) cL_law k n 1232 [some (.ref 1500), some (.ref 0), some (.ref 100), some (.int (nI (6 * j)))] [] h := by
  obtain ⟨κ, C, rfl⟩ := HG h g
  obtain ⟨Z1, hE1, hz1⟩ := hst
  refine gj_aload_n dL_law_1232 rfl ?_
  refine gj_aload_n dL_law_1233 rfl ?_
  refine gj_iload_n dL_law_1234 rfl ?_
  refine gj_ic (w := 1) dL_law_1235 ?_
  refine gj_iaddN dL_law_1236 ?_
  refine gj_sld (i := 6 * j + 1) (by omega) (by omega) dL_law_1237 ?_
  refine gj_callV (as := [.int (xs (6 * j + 1))]) lkL_147 (hc0 κ C) rfl rfl hE1 dL_law_1238 rfl rfl (Nat.le_of_ble_eq_true rfl) ⟨⟨Nat.le_of_ble_eq_true rfl, Nat.le_of_ble_eq_true rfl⟩, ⟨show k + 0 ≤ 600000 by omega, show n + 0 ≤ 7302250 by omega⟩⟩ (Or.inl rfl) (fun r1 h1 z1 => ?_)
  obtain ⟨⟨v, rfl⟩, ⟨κ1, C1, rfl⟩, Z2, hE2, hz2⟩ := hz1 r1 h1 z1
  refine gj_aload_n dL_law_1241 rfl ?_
  refine gj_aload_n dL_law_1242 rfl ?_
  refine gj_iload_n dL_law_1243 rfl ?_
  refine gj_ic (w := 1) dL_law_1244 ?_
  refine gj_iaddN dL_law_1245 ?_
  refine gj_sld (i := 6 * j + 1) (by omega) (by omega) dL_law_1246 ?_
  refine gj_callV (as := [.int (xs (6 * j + 1))]) (rest := [.int v]) lkL_150 (hc100 κ1 C1) rfl rfl hE2 dL_law_1247 rfl rfl (Nat.le_of_ble_eq_true rfl) ⟨⟨Nat.le_of_ble_eq_true rfl, Nat.le_of_ble_eq_true rfl⟩, ⟨show k + 0 + 0 ≤ 600000 by omega, show n + 0 + 0 ≤ 7302250 by omega⟩⟩ (Or.inl rfl) (fun r2 h2 z2 => ?_)
  obtain ⟨rfl, g2⟩ := hz2 r2 h2 z2
  show gj _ _ _ _ _ _ _ [(.int v : Value), .int v] _
  refine gj_icmp_eq (tgt := 1504) dL_law_1250 rfl (fun _ => ?_) (fun z => absurd rfl z)
  exact gj_wid (show k + 0 + 0 ≤ k + 100 by omega) (show n + 0 + 0 ≤ n + 1000 by omega) (kk h2 g2)
theorem lw_c33 {E : mj_E} {G : mj_H → Prop} {b L k n j : Nat} {xs : Nat → Int32} {h : mj_H} (HG : ∀ h, G h → ∃ (κ : Nat → Bool) (C : Nat → Nat → Nat), h = hh κ C) (g : G h) (hL : L ≤ 384) (hj : 6 * j + 6 ≤ L) (hk : k ≤ 500000) (hn : n ≤ 7000000) (hst : mj_St E G mj_isI iX10_two iX11_two [.int (xs (6 * j + 1)), .int (xs (6 * j + 2))] h) (kk : ∀ h', G h' → gj E (mj_XW b L xs) cL_law (k + 100) (n + 1000) 1504 [some (.ref 1500), some (.ref 0), some (.ref 100), some (.int (nI (6 * j)))] [] h') : gj E (mj_XW b L xs) cL_law k n 1255 [some (.ref 1500), some (.ref 0), some (.ref 100), some (.int (nI (6 * j)))] [] h := by
  obtain ⟨κ, C, rfl⟩ := HG h g
  obtain ⟨Z1, hE1, hz1⟩ := hst
  refine gj_aload_n dL_law_1255 rfl ?_
  refine gj_aload_n dL_law_1256 rfl ?_
  refine gj_iload_n dL_law_1257 rfl ?_
  refine gj_ic (w := 1) dL_law_1258 ?_
  refine gj_iaddN dL_law_1259 ?_
  refine gj_sld (i := 6 * j + 1) (by omega) (by omega) dL_law_1260 ?_
  refine gj_aload_n dL_law_1261 rfl ?_
  refine gj_iload_n dL_law_1262 rfl ?_
  refine gj_ic (w := 2) dL_law_1263 ?_
  refine gj_iaddN dL_law_1264 ?_
  refine gj_sld (i := 6 * j + 2) (by omega) (by omega) dL_law_1265 ?_
  refine gj_callV (as := [.int (xs (6 * j + 1)), .int (xs (6 * j + 2))]) lkL_151 (hc0 κ C) rfl rfl hE1 dL_law_1266 rfl rfl (Nat.le_of_ble_eq_true rfl) ⟨⟨Nat.le_of_ble_eq_true rfl, Nat.le_of_ble_eq_true rfl⟩, ⟨show k + 0 ≤ 600000 by omega, show n + 0 ≤ 7302250 by omega⟩⟩ (Or.inl rfl) (fun r1 h1 z1 => ?_)
  obtain ⟨⟨v, rfl⟩, ⟨κ1, C1, rfl⟩, Z2, hE2, hz2⟩ := hz1 r1 h1 z1
  refine gj_aload_n dL_law_1269 rfl ?_
  refine gj_aload_n dL_law_1270 rfl ?_
  refine gj_iload_n dL_law_1271 rfl ?_
  refine gj_ic (w := 1) dL_law_1272 ?_
  refine gj_iaddN dL_law_1273 ?_
  refine gj_sld (i := 6 * j + 1) (by omega) (by omega) dL_law_1274 ?_
  refine gj_aload_n dL_law_1275 rfl ?_
  refine gj_iload_n dL_law_1276 rfl ?_
  refine gj_ic (w := 2) dL_law_1277 ?_
  refine gj_iaddN dL_law_1278 ?_
  refine gj_sld (i := 6 * j + 2) (by omega) (by omega) dL_law_1279 ?_
  refine gj_callV (as := [.int (xs (6 * j + 1)), .int (xs (6 * j + 2))]) (rest := [.int v]) lkL_154 (hc100 κ1 C1) rfl rfl hE2 dL_law_1280 rfl rfl (Nat.le_of_ble_eq_true rfl) ⟨⟨Nat.le_of_ble_eq_true rfl, Nat.le_of_ble_eq_true rfl⟩, ⟨show k + 0 + 0 ≤ 600000 by omega, show n + 0 + 0 ≤ 7302250 by omega⟩⟩ (Or.inl rfl) (fun r2 h2 z2 => ?_)
  obtain ⟨rfl, g2⟩ := hz2 r2 h2 z2
  show gj _ _ _ _ _ _ _ [(.int v : Value), .int v] _
  refine gj_icmp_eq (tgt := 1504) dL_law_1283 rfl (fun _ => ?_) (fun z => absurd rfl z)
  exact gj_wid (show k + 0 + 0 ≤ k + 100 by omega) (show n + 0 + 0 ≤ n + 1000 by omega) (kk h2 g2)
theorem lw_c34 {E : mj_E} {G : mj_H → Prop} {b L k n j : Nat} {xs : Nat → Int32} {h : mj_H} (HG : ∀ h, G h → ∃ (κ : Nat → Bool) (C : Nat → Nat → Nat), h = hh κ C) (g : G h) (hL : L ≤ 384) (hj : 6 * j + 6 ≤ L) (hk : k ≤ 500000) (hn : n ≤ 7000000) (hst : mj_St E G mj_isI iX10_thaw iX11_thaw [.int (xs (6 * j + 1)), .int (xs (6 * j + 2)), .int (xs (6 * j + 3)), .int (xs (6 * j + 4))] h) (kk : ∀ h', G h' → gj E (mj_XW b L xs) cL_law (k + 100) (n + 1000) 1504 [some (.ref 1500), some (.ref 0), some (.ref 100), some (.int (nI (6 * j)))] [] h') : gj E (mj_XW b L xs) cL_law k n 1288 [some (.ref 1500), some (.ref 0), some (.ref 100), some (.int (nI (6 * j)))] [] h := by
  obtain ⟨κ, C, rfl⟩ := HG h g
  obtain ⟨Z1, hE1, hz1⟩ := hst
  refine gj_aload_n dL_law_1288 rfl ?_
  refine gj_aload_n dL_law_1289 rfl ?_
  refine gj_iload_n dL_law_1290 rfl ?_
  refine gj_ic (w := 1) dL_law_1291 ?_
  refine gj_iaddN dL_law_1292 ?_
  refine gj_sld (i := 6 * j + 1) (by omega) (by omega) dL_law_1293 ?_
  refine gj_aload_n dL_law_1294 rfl ?_
  refine gj_iload_n dL_law_1295 rfl ?_
  refine gj_ic (w := 2) dL_law_1296 ?_
  refine gj_iaddN dL_law_1297 ?_
  refine gj_sld (i := 6 * j + 2) (by omega) (by omega) dL_law_1298 ?_
  refine gj_aload_n dL_law_1299 rfl ?_
  refine gj_iload_n dL_law_1300 rfl ?_
  refine gj_ic (w := 3) dL_law_1301 ?_
  refine gj_iaddN dL_law_1302 ?_
  refine gj_sld (i := 6 * j + 3) (by omega) (by omega) dL_law_1303 ?_
  refine gj_aload_n dL_law_1304 rfl ?_
  refine gj_iload_n dL_law_1305 rfl ?_
  refine gj_ic (w := 4) dL_law_1306 ?_
  refine gj_iaddN dL_law_1307 ?_
  refine gj_sld (i := 6 * j + 4) (by omega) (by omega) dL_law_1308 ?_
  refine gj_callV (as := [.int (xs (6 * j + 1)), .int (xs (6 * j + 2)), .int (xs (6 * j + 3)), .int (xs (6 * j + 4))]) lkL_155 (hc0 κ C) rfl rfl hE1 dL_law_1309 rfl rfl (Nat.le_of_ble_eq_true rfl) ⟨⟨Nat.le_of_ble_eq_true rfl, Nat.le_of_ble_eq_true rfl⟩, ⟨show k + 0 ≤ 600000 by omega, show n + 0 ≤ 7302250 by omega⟩⟩ (Or.inl rfl) (fun r1 h1 z1 => ?_)
  obtain ⟨⟨v, rfl⟩, ⟨κ1, C1, rfl⟩, Z2, hE2, hz2⟩ := hz1 r1 h1 z1
  refine gj_aload_n dL_law_1312 rfl ?_
  refine gj_aload_n dL_law_1313 rfl ?_
  refine gj_iload_n dL_law_1314 rfl ?_
  refine gj_ic (w := 1) dL_law_1315 ?_
  refine gj_iaddN dL_law_1316 ?_
  refine gj_sld (i := 6 * j + 1) (by omega) (by omega) dL_law_1317 ?_
  refine gj_aload_n dL_law_1318 rfl ?_
  refine gj_iload_n dL_law_1319 rfl ?_
  refine gj_ic (w := 2) dL_law_1320 ?_
  refine gj_iaddN dL_law_1321 ?_
  refine gj_sld (i := 6 * j + 2) (by omega) (by omega) dL_law_1322 ?_
  refine gj_aload_n dL_law_1323 rfl ?_
  refine gj_iload_n dL_law_1324 rfl ?_
  refine gj_ic (w := 3) dL_law_1325 ?_
  refine gj_iaddN dL_law_1326 ?_
  refine gj_sld (i := 6 * j + 3) (by omega) (by omega) dL_law_1327 ?_
  refine gj_aload_n dL_law_1328 rfl ?_
  refine gj_iload_n dL_law_1329 rfl ?_
  refine gj_ic (w := 4) dL_law_1330 ?_
  refine gj_iaddN dL_law_1331 ?_
  refine gj_sld (i := 6 * j + 4) (by omega) (by omega) dL_law_1332 ?_
  refine gj_callV (as := [.int (xs (6 * j + 1)), .int (xs (6 * j + 2)), .int (xs (6 * j + 3)), .int (xs (6 * j + 4))]) (rest := [.int v]) lkL_158 (hc100 κ1 C1) rfl rfl hE2 dL_law_1333 rfl rfl (Nat.le_of_ble_eq_true rfl) ⟨⟨Nat.le_of_ble_eq_true rfl, Nat.le_of_ble_eq_true rfl⟩, ⟨show k + 0 + 0 ≤ 600000 by omega, show n + 0 + 0 ≤ 7302250 by omega⟩⟩ (Or.inl rfl) (fun r2 h2 z2 => ?_)
  obtain ⟨rfl, g2⟩ := hz2 r2 h2 z2
  show gj _ _ _ _ _ _ _ [(.int v : Value), .int v] _
  refine gj_icmp_eq (tgt := 1504) dL_law_1336 rfl (fun _ => ?_) (fun z => absurd rfl z)
  exact gj_wid (show k + 0 + 0 ≤ k + 100 by omega) (show n + 0 + 0 ≤ n + 1000 by omega) (kk h2 g2)
theorem lw_c35 {E : mj_E} {G : mj_H → Prop} {b L k n j : Nat} {xs : Nat → Int32} {h : mj_H} (HG : ∀ h, G h → ∃ (κ : Nat → Bool) (C : Nat → Nat → Nat), h = hh κ C) (g : G h) (hL : L ≤ 384) (hj : 6 * j + 6 ≤ L) (hk : k ≤ 500000) (hn : n ≤ 7000000) (hst : mj_St E G mj_isI iX10_winters iX11_winters [.int (xs (6 * j + 1)), .int (xs (6 * j + 2))] h) (kk : ∀ h', G h' → gj E (mj_XW b L xs) cL_law (k + 100) (n + 1000) 1504 [some (.ref 1500), some (.ref 0), some (.ref 100), some (.int (nI (6 * j)))] [] h') : gj E (mj_XW b L xs) cL_law k n 1341 [some (.ref 1500), some (.ref 0), some (.ref 100), some (.int (nI (6 * j)))] [] h := by
  obtain ⟨κ, C, rfl⟩ := HG h g
  obtain ⟨Z1, hE1, hz1⟩ := hst
  refine gj_aload_n dL_law_1341 rfl ?_
  refine gj_aload_n dL_law_1342 rfl ?_
  refine gj_iload_n dL_law_1343 rfl ?_
  refine gj_ic (w := 1) dL_law_1344 ?_
  refine gj_iaddN dL_law_1345 ?_
  refine gj_sld (i := 6 * j + 1) (by omega) (by omega) dL_law_1346 ?_
  refine gj_aload_n dL_law_1347 rfl ?_
  refine gj_iload_n dL_law_1348 rfl ?_
  refine gj_ic (w := 2) dL_law_1349 ?_
  refine gj_iaddN dL_law_1350 ?_
  refine gj_sld (i := 6 * j + 2) (by omega) (by omega) dL_law_1351 ?_
  refine gj_callV (as := [.int (xs (6 * j + 1)), .int (xs (6 * j + 2))]) lkL_159 (hc0 κ C) rfl rfl hE1 dL_law_1352 rfl rfl (Nat.le_of_ble_eq_true rfl) ⟨⟨Nat.le_of_ble_eq_true rfl, Nat.le_of_ble_eq_true rfl⟩, ⟨show k + 0 ≤ 600000 by omega, show n + 0 ≤ 7302250 by omega⟩⟩ (Or.inl rfl) (fun r1 h1 z1 => ?_)
  obtain ⟨⟨v, rfl⟩, ⟨κ1, C1, rfl⟩, Z2, hE2, hz2⟩ := hz1 r1 h1 z1
  refine gj_aload_n dL_law_1355 rfl ?_
  refine gj_aload_n dL_law_1356 rfl ?_
  refine gj_iload_n dL_law_1357 rfl ?_
  refine gj_ic (w := 1) dL_law_1358 ?_
  refine gj_iaddN dL_law_1359 ?_
  refine gj_sld (i := 6 * j + 1) (by omega) (by omega) dL_law_1360 ?_
  refine gj_aload_n dL_law_1361 rfl ?_
  refine gj_iload_n dL_law_1362 rfl ?_
  refine gj_ic (w := 2) dL_law_1363 ?_
  refine gj_iaddN dL_law_1364 ?_
  refine gj_sld (i := 6 * j + 2) (by omega) (by omega) dL_law_1365 ?_
  refine gj_callV (as := [.int (xs (6 * j + 1)), .int (xs (6 * j + 2))]) (rest := [.int v]) lkL_162 (hc100 κ1 C1) rfl rfl hE2 dL_law_1366 rfl rfl (Nat.le_of_ble_eq_true rfl) ⟨⟨Nat.le_of_ble_eq_true rfl, Nat.le_of_ble_eq_true rfl⟩, ⟨show k + 0 + 0 ≤ 600000 by omega, show n + 0 + 0 ≤ 7302250 by omega⟩⟩ (Or.inl rfl) (fun r2 h2 z2 => ?_)
  obtain ⟨rfl, g2⟩ := hz2 r2 h2 z2
  show gj _ _ _ _ _ _ _ [(.int v : Value), .int v] _
  refine gj_icmp_eq (tgt := 1504) dL_law_1369 rfl (fun _ => ?_) (fun z => absurd rfl z)
  exact gj_wid (show k + 0 + 0 ≤ k + 100 by omega) (show n + 0 + 0 ≤ n + 1000 by omega) (kk h2 g2)
theorem lw_c36 {E : mj_E} {G : mj_H → Prop} {b L k n j : Nat} {xs : Nat → Int32} {h : mj_H} (HG : ∀ h, G h → ∃ (κ : Nat → Bool) (C : Nat → Nat → Nat), h = hh κ C) (g : G h) (hL : L ≤ 384) (hj : 6 * j + 6 ≤ L) (hk : k ≤ 500000) (hn : n ≤ 7000000) (hst : mj_St E G mj_isL iX10_part iX11_part [.int (xs (6 * j + 1))] h) (kk : ∀ h', G h' → gj E (mj_XW b L xs) cL_law (k + 100) (n + 1000) 1504 [some (.ref 1500), some (.ref 0), some (.ref 100), some (.int (nI (6 * j)))] [] h') : gj E (mj_XW b L xs) cL_law k n 1374 [some (.ref 1500), some (.ref 0), some (.ref 100), some (.int (nI (6 * j)))] [] h := by
  obtain ⟨κ, C, rfl⟩ := HG h g
  obtain ⟨Z1, hE1, hz1⟩ := hst
  refine gj_aload_n dL_law_1374 rfl ?_
  refine gj_aload_n dL_law_1375 rfl ?_
  refine gj_iload_n dL_law_1376 rfl ?_
  refine gj_ic (w := 1) dL_law_1377 ?_
  refine gj_iaddN dL_law_1378 ?_
  refine gj_sld (i := 6 * j + 1) (by omega) (by omega) dL_law_1379 ?_
  refine gj_callV (as := [.int (xs (6 * j + 1))]) lkL_163 (hc0 κ C) rfl rfl hE1 dL_law_1380 rfl rfl (Nat.le_of_ble_eq_true rfl) ⟨⟨Nat.le_of_ble_eq_true rfl, Nat.le_of_ble_eq_true rfl⟩, ⟨show k + 0 ≤ 600000 by omega, show n + 0 ≤ 7302250 by omega⟩⟩ (Or.inl rfl) (fun r1 h1 z1 => ?_)
  obtain ⟨⟨v, rfl⟩, ⟨κ1, C1, rfl⟩, Z2, hE2, hz2⟩ := hz1 r1 h1 z1
  refine gj_aload_n dL_law_1383 rfl ?_
  refine gj_aload_n dL_law_1384 rfl ?_
  refine gj_iload_n dL_law_1385 rfl ?_
  refine gj_ic (w := 1) dL_law_1386 ?_
  refine gj_iaddN dL_law_1387 ?_
  refine gj_sld (i := 6 * j + 1) (by omega) (by omega) dL_law_1388 ?_
  refine gj_callV (as := [.int (xs (6 * j + 1))]) (rest := [.long v]) lkL_167 (hc100 κ1 C1) rfl rfl hE2 dL_law_1389 rfl rfl (Nat.le_of_ble_eq_true rfl) ⟨⟨Nat.le_of_ble_eq_true rfl, Nat.le_of_ble_eq_true rfl⟩, ⟨show k + 0 + 0 ≤ 600000 by omega, show n + 0 + 0 ≤ 7302250 by omega⟩⟩ (Or.inl rfl) (fun r2 h2 z2 => ?_)
  obtain ⟨rfl, g2⟩ := hz2 r2 h2 z2
  show gj _ _ _ _ _ _ _ [(.long v : Value), .long v] _
  refine gj_lcmp dL_law_1392 ?_
  refine gj_if_eq (tgt := 1504) dL_law_1393 rfl (fun _ => ?_) (fun z => absurd ((lg_cmp_eq v v).mpr rfl) z)
  exact gj_wid (show k + 0 + 0 ≤ k + 100 by omega) (show n + 0 + 0 ≤ n + 1000 by omega) (kk h2 g2)
theorem lw_c37 {E : mj_E} {G : mj_H → Prop} {b L k n j : Nat} {xs : Nat → Int32} {h : mj_H} (HG : ∀ h, G h → ∃ (κ : Nat → Bool) (C : Nat → Nat → Nat), h = hh κ C) (g : G h) (hL : L ≤ 384) (hj : 6 * j + 6 ≤ L) (hk : k ≤ 500000) (hn : n ≤ 7000000) (hst : mj_St E G mj_isI iX10_image iX11_image [.int (xs (6 * j + 1))] h) (kk : ∀ h', G h' → gj E (mj_XW b L xs) cL_law (k + 100) (n + 1000) 1504 [some (.ref 1500), some (.ref 0), some (.ref 100), some (.int (nI (6 * j)))] [] h') : gj E (mj_XW b L xs) cL_law k n 1398 [some (.ref 1500), some (.ref 0), some (.ref 100), some (.int (nI (6 * j)))] [] h := by
  obtain ⟨κ, C, rfl⟩ := HG h g
  obtain ⟨Z1, hE1, hz1⟩ := hst
  refine gj_aload_n dL_law_1398 rfl ?_
  refine gj_aload_n dL_law_1399 rfl ?_
  refine gj_iload_n dL_law_1400 rfl ?_
  refine gj_ic (w := 1) dL_law_1401 ?_
  refine gj_iaddN dL_law_1402 ?_
  refine gj_sld (i := 6 * j + 1) (by omega) (by omega) dL_law_1403 ?_
  refine gj_callV (as := [.int (xs (6 * j + 1))]) lkL_168 (hc0 κ C) rfl rfl hE1 dL_law_1404 rfl rfl (Nat.le_of_ble_eq_true rfl) ⟨⟨Nat.le_of_ble_eq_true rfl, Nat.le_of_ble_eq_true rfl⟩, ⟨show k + 19 ≤ 600000 by omega, show n + 380 ≤ 7302250 by omega⟩⟩ (Or.inr ⟨(mj_alC (Or.inr (by decide)) (mj_alC (mj_alS (hc0 κ C)) (mj_alC (mj_alS (hc100 κ C)) (mj_alC trivial mj_alN)))), mj_stN⟩) (fun r1 h1 z1 => ?_)
  obtain ⟨⟨v, rfl⟩, ⟨κ1, C1, rfl⟩, Z2, hE2, hz2⟩ := hz1 r1 h1 z1
  refine gj_aload_n dL_law_1407 rfl ?_
  refine gj_aload_n dL_law_1408 rfl ?_
  refine gj_iload_n dL_law_1409 rfl ?_
  refine gj_ic (w := 1) dL_law_1410 ?_
  refine gj_iaddN dL_law_1411 ?_
  refine gj_sld (i := 6 * j + 1) (by omega) (by omega) dL_law_1412 ?_
  refine gj_callV (as := [.int (xs (6 * j + 1))]) (rest := [.int v]) lkL_171 (hc100 κ1 C1) rfl rfl hE2 dL_law_1413 rfl rfl (Nat.le_of_ble_eq_true rfl) ⟨⟨Nat.le_of_ble_eq_true rfl, Nat.le_of_ble_eq_true rfl⟩, ⟨show k + 19 + 0 ≤ 600000 by omega, show n + 380 + 0 ≤ 7302250 by omega⟩⟩ (Or.inl rfl) (fun r2 h2 z2 => ?_)
  obtain ⟨rfl, g2⟩ := hz2 r2 h2 z2
  show gj _ _ _ _ _ _ _ [(.int v : Value), .int v] _
  refine gj_icmp_eq (tgt := 1504) dL_law_1416 rfl (fun _ => ?_) (fun z => absurd rfl z)
  exact gj_wid (show k + 19 + 0 ≤ k + 100 by omega) (show n + 380 + 0 ≤ n + 1000 by omega) (kk h2 g2)
theorem lw_c38 {E : mj_E} {G : mj_H → Prop} {b L k n j : Nat} {xs : Nat → Int32} {h : mj_H} (HG : ∀ h, G h → ∃ (κ : Nat → Bool) (C : Nat → Nat → Nat), h = hh κ C) (g : G h) (hL : L ≤ 384) (hj : 6 * j + 6 ≤ L) (hk : k ≤ 500000) (hn : n ≤ 7000000) (hst : mj_St E G mj_isI iX10_from iX11_from [.int (xs (6 * j + 1))] h) (kk : ∀ h', G h' → gj E (mj_XW b L xs) cL_law (k + 100) (n + 1000) 1504 [some (.ref 1500), some (.ref 0), some (.ref 100), some (.int (nI (6 * j)))] [] h') : gj E (mj_XW b L xs) cL_law k n 1421 [some (.ref 1500), some (.ref 0), some (.ref 100), some (.int (nI (6 * j)))] [] h := by
  obtain ⟨κ, C, rfl⟩ := HG h g
  obtain ⟨Z1, hE1, hz1⟩ := hst
  refine gj_aload_n dL_law_1421 rfl ?_
  refine gj_aload_n dL_law_1422 rfl ?_
  refine gj_iload_n dL_law_1423 rfl ?_
  refine gj_ic (w := 1) dL_law_1424 ?_
  refine gj_iaddN dL_law_1425 ?_
  refine gj_sld (i := 6 * j + 1) (by omega) (by omega) dL_law_1426 ?_
  refine gj_callV (as := [.int (xs (6 * j + 1))]) lkL_172 (hc0 κ C) rfl rfl hE1 dL_law_1427 rfl rfl (Nat.le_of_ble_eq_true rfl) ⟨⟨Nat.le_of_ble_eq_true rfl, Nat.le_of_ble_eq_true rfl⟩, ⟨show k + 0 ≤ 600000 by omega, show n + 0 ≤ 7302250 by omega⟩⟩ (Or.inl rfl) (fun r1 h1 z1 => ?_)
  obtain ⟨⟨v, rfl⟩, ⟨κ1, C1, rfl⟩, Z2, hE2, hz2⟩ := hz1 r1 h1 z1
  refine gj_aload_n dL_law_1430 rfl ?_
  refine gj_aload_n dL_law_1431 rfl ?_
  refine gj_iload_n dL_law_1432 rfl ?_
  refine gj_ic (w := 1) dL_law_1433 ?_
  refine gj_iaddN dL_law_1434 ?_
  refine gj_sld (i := 6 * j + 1) (by omega) (by omega) dL_law_1435 ?_
  refine gj_callV (as := [.int (xs (6 * j + 1))]) (rest := [.int v]) lkL_175 (hc100 κ1 C1) rfl rfl hE2 dL_law_1436 rfl rfl (Nat.le_of_ble_eq_true rfl) ⟨⟨Nat.le_of_ble_eq_true rfl, Nat.le_of_ble_eq_true rfl⟩, ⟨show k + 0 + 0 ≤ 600000 by omega, show n + 0 + 0 ≤ 7302250 by omega⟩⟩ (Or.inl rfl) (fun r2 h2 z2 => ?_)
  obtain ⟨rfl, g2⟩ := hz2 r2 h2 z2
  show gj _ _ _ _ _ _ _ [(.int v : Value), .int v] _
  refine gj_icmp_eq (tgt := 1504) dL_law_1439 rfl (fun _ => ?_) (fun z => absurd rfl z)
  exact gj_wid (show k + 0 + 0 ≤ k + 100 by omega) (show n + 0 + 0 ≤ n + 1000 by omega) (kk h2 g2)
theorem lw_c39 {E : mj_E} {G : mj_H → Prop} {b L k n j : Nat} {xs : Nat → Int32} {h : mj_H} (HG : ∀ h, G h → ∃ (κ : Nat → Bool) (C : Nat → Nat → Nat), h = hh κ C) (g : G h) (hL : L ≤ 384) (hj : 6 * j + 6 ≤ L) (hk : k ≤ 500000) (hn : n ≤ 7000000) (hst : mj_St E G mj_isI iX10_status iX11_status [.int (xs (6 * j + 1))] h) (kk : ∀ h', G h' → gj E (mj_XW b L xs) cL_law (k + 100) (n + 1000) 1504 [some (.ref 1500), some (.ref 0), some (.ref 100), some (.int (nI (6 * j)))] [] h') : gj E (mj_XW b L xs) cL_law k n 1444 [some (.ref 1500), some (.ref 0), some (.ref 100), some (.int (nI (6 * j)))] [] h := by
  obtain ⟨κ, C, rfl⟩ := HG h g
  obtain ⟨Z1, hE1, hz1⟩ := hst
  refine gj_aload_n dL_law_1444 rfl ?_
  refine gj_aload_n dL_law_1445 rfl ?_
  refine gj_iload_n dL_law_1446 rfl ?_
  refine gj_ic (w := 1) dL_law_1447 ?_
  refine gj_iaddN dL_law_1448 ?_
  refine gj_sld (i := 6 * j + 1) (by omega) (by omega) dL_law_1449 ?_
  refine gj_callV (as := [.int (xs (6 * j + 1))]) lkL_176 (hc0 κ C) rfl rfl hE1 dL_law_1450 rfl rfl (Nat.le_of_ble_eq_true rfl) ⟨⟨Nat.le_of_ble_eq_true rfl, Nat.le_of_ble_eq_true rfl⟩, ⟨show k + 0 ≤ 600000 by omega, show n + 0 ≤ 7302250 by omega⟩⟩ (Or.inl rfl) (fun r1 h1 z1 => ?_)
  obtain ⟨⟨v, rfl⟩, ⟨κ1, C1, rfl⟩, Z2, hE2, hz2⟩ := hz1 r1 h1 z1
  refine gj_aload_n dL_law_1453 rfl ?_
  refine gj_aload_n dL_law_1454 rfl ?_
  refine gj_iload_n dL_law_1455 rfl ?_
  refine gj_ic (w := 1) dL_law_1456 ?_
  refine gj_iaddN dL_law_1457 ?_
  refine gj_sld (i := 6 * j + 1) (by omega) (by omega) dL_law_1458 ?_
  refine gj_callV (as := [.int (xs (6 * j + 1))]) (rest := [.int v]) lkL_179 (hc100 κ1 C1) rfl rfl hE2 dL_law_1459 rfl rfl (Nat.le_of_ble_eq_true rfl) ⟨⟨Nat.le_of_ble_eq_true rfl, Nat.le_of_ble_eq_true rfl⟩, ⟨show k + 0 + 0 ≤ 600000 by omega, show n + 0 + 0 ≤ 7302250 by omega⟩⟩ (Or.inl rfl) (fun r2 h2 z2 => ?_)
  obtain ⟨rfl, g2⟩ := hz2 r2 h2 z2
  show gj _ _ _ _ _ _ _ [(.int v : Value), .int v] _
  refine gj_icmp_eq (tgt := 1504) dL_law_1462 rfl (fun _ => ?_) (fun z => absurd rfl z)
  exact gj_wid (show k + 0 + 0 ≤ k + 100 by omega) (show n + 0 + 0 ≤ n + 1000 by omega) (kk h2 g2)
theorem lw_c40 {E : mj_E} {G : mj_H → Prop} {b L k n j : Nat} {xs : Nat → Int32} {h : mj_H} (HG : ∀ h, G h → ∃ (κ : Nat → Bool) (C : Nat → Nat → Nat), h = hh κ C) (g : G h) (hL : L ≤ 384) (hj : 6 * j + 6 ≤ L) (hk : k ≤ 500000) (hn : n ≤ 7000000) (hst : mj_St E G mj_isI iX10_count iX11_count [.int (xs (6 * j + 1))] h) (kk : ∀ h', G h' → gj E (mj_XW b L xs) cL_law (k + 100) (n + 1000) 1504 [some (.ref 1500), some (.ref 0), some (.ref 100), some (.int (nI (6 * j)))] [] h') : gj E (mj_XW b L xs) cL_law k n 1467 [some (.ref 1500), some (.ref 0), some (.ref 100), some (.int (nI (6 * j)))] [] h := by
  obtain ⟨κ, C, rfl⟩ := HG h g
  obtain ⟨Z1, hE1, hz1⟩ := hst
  refine gj_aload_n dL_law_1467 rfl ?_
  refine gj_aload_n dL_law_1468 rfl ?_
  refine gj_iload_n dL_law_1469 rfl ?_
  refine gj_ic (w := 1) dL_law_1470 ?_
  refine gj_iaddN dL_law_1471 ?_
  refine gj_sld (i := 6 * j + 1) (by omega) (by omega) dL_law_1472 ?_
  refine gj_callV (as := [.int (xs (6 * j + 1))]) lkL_180 (hc0 κ C) rfl rfl hE1 dL_law_1473 rfl rfl (Nat.le_of_ble_eq_true rfl) ⟨⟨Nat.le_of_ble_eq_true rfl, Nat.le_of_ble_eq_true rfl⟩, ⟨show k + 0 ≤ 600000 by omega, show n + 0 ≤ 7302250 by omega⟩⟩ (Or.inl rfl) (fun r1 h1 z1 => ?_)
  obtain ⟨⟨v, rfl⟩, ⟨κ1, C1, rfl⟩, Z2, hE2, hz2⟩ := hz1 r1 h1 z1
  refine gj_aload_n dL_law_1476 rfl ?_
  refine gj_aload_n dL_law_1477 rfl ?_
  refine gj_iload_n dL_law_1478 rfl ?_
  refine gj_ic (w := 1) dL_law_1479 ?_
  refine gj_iaddN dL_law_1480 ?_
  refine gj_sld (i := 6 * j + 1) (by omega) (by omega) dL_law_1481 ?_
  refine gj_callV (as := [.int (xs (6 * j + 1))]) (rest := [.int v]) lkL_183 (hc100 κ1 C1) rfl rfl hE2 dL_law_1482 rfl rfl (Nat.le_of_ble_eq_true rfl) ⟨⟨Nat.le_of_ble_eq_true rfl, Nat.le_of_ble_eq_true rfl⟩, ⟨show k + 0 + 0 ≤ 600000 by omega, show n + 0 + 0 ≤ 7302250 by omega⟩⟩ (Or.inl rfl) (fun r2 h2 z2 => ?_)
  obtain ⟨rfl, g2⟩ := hz2 r2 h2 z2
  show gj _ _ _ _ _ _ _ [(.int v : Value), .int v] _
  refine gj_icmp_eq (tgt := 1504) dL_law_1485 rfl (fun _ => ?_) (fun z => absurd rfl z)
  exact gj_wid (show k + 0 + 0 ≤ k + 100 by omega) (show n + 0 + 0 ≤ n + 1000 by omega) (kk h2 g2)
theorem lw_c41 {E : mj_E} {G : mj_H → Prop} {b L k n j : Nat} {xs : Nat → Int32} {h : mj_H} (HG : ∀ h, G h → ∃ (κ : Nat → Bool) (C : Nat → Nat → Nat), h = hh κ C) (g : G h) (hL : L ≤ 384) (hj : 6 * j + 6 ≤ L) (hk : k ≤ 500000) (hn : n ≤ 7000000) (hst : mj_St E G mj_isL iX10_digest iX11_digest [] h) (kk : ∀ h', G h' → gj E (mj_XW b L xs) cL_law (k + 100) (n + 1000) 1504 [some (.ref 1500), some (.ref 0), some (.ref 100), some (.int (nI (6 * j)))] [] h') : gj E (mj_XW b L xs) cL_law k n 1490 [some (.ref 1500), some (.ref 0), some (.ref 100), some (.int (nI (6 * j)))] [] h := by
  obtain ⟨κ, C, rfl⟩ := HG h g
  obtain ⟨Z1, hE1, hz1⟩ := hst
  refine gj_aload_n dL_law_1490 rfl ?_
  refine gj_callV (as := []) lkL_184 (hc0 κ C) rfl rfl hE1 dL_law_1491 rfl rfl (Nat.le_of_ble_eq_true rfl) ⟨⟨Nat.le_of_ble_eq_true rfl, Nat.le_of_ble_eq_true rfl⟩, ⟨show k + 0 ≤ 600000 by omega, show n + 0 ≤ 7302250 by omega⟩⟩ (Or.inl rfl) (fun r1 h1 z1 => ?_)
  obtain ⟨⟨v, rfl⟩, ⟨κ1, C1, rfl⟩, Z2, hE2, hz2⟩ := hz1 r1 h1 z1
  refine gj_aload_n dL_law_1494 rfl ?_
  refine gj_callV (as := []) (rest := [.long v]) lkL_188 (hc100 κ1 C1) rfl rfl hE2 dL_law_1495 rfl rfl (Nat.le_of_ble_eq_true rfl) ⟨⟨Nat.le_of_ble_eq_true rfl, Nat.le_of_ble_eq_true rfl⟩, ⟨show k + 0 + 0 ≤ 600000 by omega, show n + 0 + 0 ≤ 7302250 by omega⟩⟩ (Or.inl rfl) (fun r2 h2 z2 => ?_)
  obtain ⟨rfl, g2⟩ := hz2 r2 h2 z2
  show gj _ _ _ _ _ _ _ [(.long v : Value), .long v] _
  refine gj_lcmp dL_law_1498 ?_
  refine gj_if_eq (tgt := 1504) dL_law_1499 rfl (fun _ => ?_) (fun z => absurd ((lg_cmp_eq v v).mpr rfl) z)
  exact gj_wid (show k + 0 + 0 ≤ k + 100 by omega) (show n + 0 + 0 ≤ n + 1000 by omega) (kk h2 g2)
/-- every call goes well -/
def mj_Steps (E : mj_E) (G : mj_H → Prop) : Prop := ∀ h, G h → (∀ x1 : Int32, mj_St E G mj_isI iX10_lake iX11_lake [.int x1] h) ∧ (∀ x1 x2 : Int32, mj_St E G mj_isI iX10_cell iX11_cell [.int x1, .int x2] h) ∧ (∀ x1 x2 x3 : Int32, mj_St E G mj_isI iX10_weather iX11_weather [.int x1, .int x2, .int x3] h) ∧ (∀ x1 x2 : Int32, mj_St E G mj_isI iX10_ward iX11_ward [.int x1, .int x2] h) ∧ (∀ x1 x2 x3 : Int32, mj_St E G mj_isI iX10_voter iX11_voter [.int x1, .int x2, .int x3] h) ∧ (∀ x1 : Int32, mj_St E G mj_isI iX10_type iX11_type [.int x1] h) ∧ (∀ z : Unit, mj_St E G mj_isI iX10_clear iX11_clear [] h) ∧ (∀ z : Unit, mj_St E G mj_isI iX10_read iX11_read [] h) ∧ (∀ x1 : Int32, mj_St E G mj_isI iX10_day iX11_day [.int x1] h) ∧ (∀ x1 x2 : Int32, mj_St E G mj_isI iX10_tread iX11_tread [.int x1, .int x2] h) ∧ (∀ x1 : Int32, mj_St E G mj_isI iX10_stone iX11_stone [.int x1] h) ∧ (∀ z : Unit, mj_St E G mj_isI iX10_undo iX11_undo [] h) ∧ (∀ x1 x2 : Int32, mj_St E G mj_isI iX10_of iX11_of [.int x1, .int x2] h) ∧ (∀ x1 x2 : Int32, mj_St E G mj_isI iX10_about iX11_about [.int x1, .int x2] h) ∧ (∀ x1 x2 x3 : Int32, mj_St E G mj_isI iX10_then iX11_then [.int x1, .int x2, .int x3] h) ∧ (∀ x1 x2 : Int32, mj_St E G mj_isI iX10_when iX11_when [.int x1, .int x2] h) ∧ (∀ x1 x2 : Int32, mj_St E G mj_isI iX10_where iX11_where [.int x1, .int x2] h) ∧ (∀ x1 : Int32, mj_St E G mj_isI iX10_horses iX11_horses [.int x1] h) ∧ (∀ x1 x2 x3 x4 : Int32, mj_St E G mj_isI iX10_path iX11_path [.int x1, .int x2, .int x3, .int x4] h) ∧ (∀ x1 x2 : Int32, mj_St E G mj_isI iX10_safe iX11_safe [.int x1, .int x2] h) ∧ (∀ x1 x2 x3 : Int32, mj_St E G mj_isI iX10_cross iX11_cross [.int x1, .int x2, .int x3] h) ∧ (∀ x1 x2 x3 x4 : Int32, mj_St E G mj_isI iX10_apart iX11_apart [.int x1, .int x2, .int x3, .int x4] h) ∧ (∀ x1 : Int32, mj_St E G mj_isI iX10_votes iX11_votes [.int x1] h) ∧ (∀ z : Unit, mj_St E G mj_isI iX10_turn iX11_turn [] h) ∧ (∀ x1 x2 : Int32, mj_St E G mj_isI iX10_seen iX11_seen [.int x1, .int x2] h) ∧ (∀ z : Unit, mj_St E G mj_isI iX10_lies iX11_lies [] h) ∧ (∀ x1 x2 x3 : Int32, mj_St E G mj_isI iX10_stones iX11_stones [.int x1, .int x2, .int x3] h) ∧ (∀ x1 x2 x3 x4 x5 : Int32, mj_St E G mj_isI iX10_note iX11_note [.int x1, .int x2, .int x3, .int x4, .int x5] h) ∧ (∀ x1 x2 x3 x4 x5 : Int32, mj_St E G mj_isI iX10_voted iX11_voted [.int x1, .int x2, .int x3, .int x4, .int x5] h) ∧ (∀ x1 : Int32, mj_St E G mj_isI iX10_forget iX11_forget [.int x1] h) ∧ (∀ x1 : Int32, mj_St E G mj_isI iX10_is iX11_is [.int x1] h) ∧ (∀ x1 : Int32, mj_St E G mj_isI iX10_next iX11_next [.int x1] h) ∧ (∀ x1 : Int32, mj_St E G mj_isI iX10_who iX11_who [.int x1] h) ∧ (∀ x1 x2 : Int32, mj_St E G mj_isI iX10_two iX11_two [.int x1, .int x2] h) ∧ (∀ x1 x2 x3 x4 : Int32, mj_St E G mj_isI iX10_thaw iX11_thaw [.int x1, .int x2, .int x3, .int x4] h) ∧ (∀ x1 x2 : Int32, mj_St E G mj_isI iX10_winters iX11_winters [.int x1, .int x2] h) ∧ (∀ x1 : Int32, mj_St E G mj_isL iX10_part iX11_part [.int x1] h) ∧ (∀ x1 : Int32, mj_St E G mj_isI iX10_image iX11_image [.int x1] h) ∧ (∀ x1 : Int32, mj_St E G mj_isI iX10_from iX11_from [.int x1] h) ∧ (∀ x1 : Int32, mj_St E G mj_isI iX10_status iX11_status [.int x1] h) ∧ (∀ x1 : Int32, mj_St E G mj_isI iX10_count iX11_count [.int x1] h) ∧ (∀ z : Unit, mj_St E G mj_isL iX10_digest iX11_digest [] h)
theorem law_loop {E : mj_E} {G : mj_H → Prop} {b L : Nat} {xs : Nat → Int32} (HG : ∀ h, G h → ∃ (κ : Nat → Bool) (C : Nat → Nat → Nat), h = hh κ C) (hL : L ≤ 384) (HS0 : mj_Steps E G) : ∀ (F j : Nat) (h : mj_H), j + F = 65 → G h → gj E (mj_XW b L xs) cL_law (200 + 100 * j) (4000 + 1000 * j) 18 [some (.ref 1500), some (.ref 0), some (.ref 100), some (.int (nI (6 * j)))] [] h := by
  intro F
  induction F with
  | zero =>
    intro j h e g
    refine gj_iload_n dL_law_18 rfl ?_
    refine gj_aload_n dL_law_19 rfl ?_
    refine gj_slen dL_law_20 ?_
    refine gj_bp 6 dL_law_21 (by decide) ?_
    refine gj_isub dL_law_23 ?_
    refine gj_icmp_gt (tgt := 1510) dL_law_24 rfl (fun z => ?_) (fun z => ?_)
    · refine gj_ic (w := 1) dL_law_1510 ?_
      exact gj_wret (by omega) (by omega) dL_law_1511
    · exact absurd ((lw_gt hL (by omega)).mpr (by omega)) z
  | succ F ih =>
    intro j h e g
    have HS := HS0 h g
    refine gj_iload_n dL_law_18 rfl ?_
    refine gj_aload_n dL_law_19 rfl ?_
    refine gj_slen dL_law_20 ?_
    refine gj_bp 6 dL_law_21 (by decide) ?_
    refine gj_isub dL_law_23 ?_
    refine gj_icmp_gt (tgt := 1510) dL_law_24 rfl (fun z => ?_) (fun z => ?_)
    · refine gj_ic (w := 1) dL_law_1510 ?_
      exact gj_wret (by omega) (by omega) dL_law_1511
    have hj : 6 * j + 6 ≤ L := Nat.le_of_not_lt fun y => z ((lw_gt hL (by omega)).mpr y)
    have cont : ∀ h', G h' → gj E (mj_XW b L xs) cL_law (200 + 100 * j + 100) (4000 + 1000 * j + 1000) 1504 [some (.ref 1500), some (.ref 0), some (.ref 100), some (.int (nI (6 * j)))] [] h' := by
      intro h' g'
      refine gj_iinc (L' := [some (.ref 1500), some (.ref 0), some (.ref 100), some (.int (nI (6 * (j + 1))))]) dL_law_1504 rfl lw_inc (Nat.le_of_ble_eq_true rfl) rfl ?_
      refine gj_goto (tgt := 18) dL_law_1507 rfl ?_
      exact gj_wid (by omega) (by omega) (ih (j + 1) h' (by omega) g')
    refine gj_aload_n dL_law_27 rfl ?_
    refine gj_iload_n dL_law_28 rfl ?_
    refine gj_sld (i := 6 * j) (by omega) (by omega) dL_law_29 ?_
    refine gj_bp 63 dL_law_30 (by decide) ?_
    refine gj_iand dL_law_32 ?_
    obtain ⟨c, hc, ec⟩ := gj_and63 (xs (6 * j))
    refine gj_top (y := nI c) ec ?_
    rcases (by omega : c = 0 ∨ c = 1 ∨ c = 2 ∨ c = 3 ∨ c = 4 ∨ c = 5 ∨ c = 6 ∨ c = 7 ∨ c = 8 ∨ c = 9 ∨ c = 10 ∨ c = 11 ∨ c = 12 ∨ c = 13 ∨ c = 14 ∨ c = 15 ∨ c = 16 ∨ c = 17 ∨ c = 18 ∨ c = 19 ∨ c = 20 ∨ c = 21 ∨ c = 22 ∨ c = 23 ∨ c = 24 ∨ c = 25 ∨ c = 26 ∨ c = 27 ∨ c = 28 ∨ c = 29 ∨ c = 30 ∨ c = 31 ∨ c = 32 ∨ c = 33 ∨ c = 34 ∨ c = 35 ∨ c = 36 ∨ c = 37 ∨ c = 38 ∨ c = 39 ∨ c = 40 ∨ c = 41 ∨ 42 ≤ c) with rfl | rfl | rfl | rfl | rfl | rfl | rfl | rfl | rfl | rfl | rfl | rfl | rfl | rfl | rfl | rfl | rfl | rfl | rfl | rfl | rfl | rfl | rfl | rfl | rfl | rfl | rfl | rfl | rfl | rfl | rfl | rfl | rfl | rfl | rfl | rfl | rfl | rfl | rfl | rfl | rfl | rfl | q
    · refine gj_tabIn (a := 0) (tgt := 216) (by decide) dL_law_33 (by decide) (by decide) rfl rfl ?_
      exact lw_c0 HG g hL hj (by omega) (by omega) (HS.1 (xs (6 * j + 1))) cont
    · refine gj_tabIn (a := 1) (tgt := 239) (by decide) dL_law_33 (by decide) (by decide) rfl rfl ?_
      exact lw_c1 HG g hL hj (by omega) (by omega) (HS.2.1 (xs (6 * j + 1)) (xs (6 * j + 2))) cont
    · refine gj_tabIn (a := 2) (tgt := 272) (by decide) dL_law_33 (by decide) (by decide) rfl rfl ?_
      exact lw_c2 HG g hL hj (by omega) (by omega) (HS.2.2.1 (xs (6 * j + 1)) (xs (6 * j + 2)) (xs (6 * j + 3))) cont
    · refine gj_tabIn (a := 3) (tgt := 315) (by decide) dL_law_33 (by decide) (by decide) rfl rfl ?_
      exact lw_c3 HG g hL hj (by omega) (by omega) (HS.2.2.2.1 (xs (6 * j + 1)) (xs (6 * j + 2))) cont
    · refine gj_tabIn (a := 4) (tgt := 348) (by decide) dL_law_33 (by decide) (by decide) rfl rfl ?_
      exact lw_c4 HG g hL hj (by omega) (by omega) (HS.2.2.2.2.1 (xs (6 * j + 1)) (xs (6 * j + 2)) (xs (6 * j + 3))) cont
    · refine gj_tabIn (a := 5) (tgt := 391) (by decide) dL_law_33 (by decide) (by decide) rfl rfl ?_
      exact lw_c5 HG g hL hj (by omega) (by omega) (HS.2.2.2.2.2.1 (xs (6 * j + 1))) cont
    · refine gj_tabIn (a := 6) (tgt := 414) (by decide) dL_law_33 (by decide) (by decide) rfl rfl ?_
      exact lw_c6 HG g hL hj (by omega) (by omega) (HS.2.2.2.2.2.2.1 ()) cont
    · refine gj_tabIn (a := 7) (tgt := 427) (by decide) dL_law_33 (by decide) (by decide) rfl rfl ?_
      exact lw_c7 HG g hL hj (by omega) (by omega) (HS.2.2.2.2.2.2.2.1 ()) cont
    · refine gj_tabIn (a := 8) (tgt := 440) (by decide) dL_law_33 (by decide) (by decide) rfl rfl ?_
      exact lw_c8 HG g hL hj (by omega) (by omega) (HS.2.2.2.2.2.2.2.2.1 (xs (6 * j + 1))) cont
    · refine gj_tabIn (a := 9) (tgt := 463) (by decide) dL_law_33 (by decide) (by decide) rfl rfl ?_
      exact lw_c9 HG g hL hj (by omega) (by omega) (HS.2.2.2.2.2.2.2.2.2.1 (xs (6 * j + 1)) (xs (6 * j + 2))) cont
    · refine gj_tabIn (a := 10) (tgt := 496) (by decide) dL_law_33 (by decide) (by decide) rfl rfl ?_
      exact lw_c10 HG g hL hj (by omega) (by omega) (HS.2.2.2.2.2.2.2.2.2.2.1 (xs (6 * j + 1))) cont
    · refine gj_tabIn (a := 11) (tgt := 519) (by decide) dL_law_33 (by decide) (by decide) rfl rfl ?_
      exact lw_c11 HG g hL hj (by omega) (by omega) (HS.2.2.2.2.2.2.2.2.2.2.2.1 ()) cont
    · refine gj_tabIn (a := 12) (tgt := 532) (by decide) dL_law_33 (by decide) (by decide) rfl rfl ?_
      exact lw_c12 HG g hL hj (by omega) (by omega) (HS.2.2.2.2.2.2.2.2.2.2.2.2.1 (xs (6 * j + 1)) (xs (6 * j + 2))) cont
    · refine gj_tabIn (a := 13) (tgt := 565) (by decide) dL_law_33 (by decide) (by decide) rfl rfl ?_
      exact lw_c13 HG g hL hj (by omega) (by omega) (HS.2.2.2.2.2.2.2.2.2.2.2.2.2.1 (xs (6 * j + 1)) (xs (6 * j + 2))) cont
    · refine gj_tabIn (a := 14) (tgt := 598) (by decide) dL_law_33 (by decide) (by decide) rfl rfl ?_
      exact lw_c14 HG g hL hj (by omega) (by omega) (HS.2.2.2.2.2.2.2.2.2.2.2.2.2.2.1 (xs (6 * j + 1)) (xs (6 * j + 2)) (xs (6 * j + 3))) cont
    · refine gj_tabIn (a := 15) (tgt := 641) (by decide) dL_law_33 (by decide) (by decide) rfl rfl ?_
      exact lw_c15 HG g hL hj (by omega) (by omega) (HS.2.2.2.2.2.2.2.2.2.2.2.2.2.2.2.1 (xs (6 * j + 1)) (xs (6 * j + 2))) cont
    · refine gj_tabIn (a := 16) (tgt := 674) (by decide) dL_law_33 (by decide) (by decide) rfl rfl ?_
      exact lw_c16 HG g hL hj (by omega) (by omega) (HS.2.2.2.2.2.2.2.2.2.2.2.2.2.2.2.2.1 (xs (6 * j + 1)) (xs (6 * j + 2))) cont
    · refine gj_tabIn (a := 17) (tgt := 707) (by decide) dL_law_33 (by decide) (by decide) rfl rfl ?_
      exact lw_c17 HG g hL hj (by omega) (by omega) (HS.2.2.2.2.2.2.2.2.2.2.2.2.2.2.2.2.2.1 (xs (6 * j + 1))) cont
    · refine gj_tabIn (a := 18) (tgt := 730) (by decide) dL_law_33 (by decide) (by decide) rfl rfl ?_
      exact lw_c18 HG g hL hj (by omega) (by omega) (HS.2.2.2.2.2.2.2.2.2.2.2.2.2.2.2.2.2.2.1 (xs (6 * j + 1)) (xs (6 * j + 2)) (xs (6 * j + 3)) (xs (6 * j + 4))) cont
    · refine gj_tabIn (a := 19) (tgt := 783) (by decide) dL_law_33 (by decide) (by decide) rfl rfl ?_
      exact lw_c19 HG g hL hj (by omega) (by omega) (HS.2.2.2.2.2.2.2.2.2.2.2.2.2.2.2.2.2.2.2.1 (xs (6 * j + 1)) (xs (6 * j + 2))) cont
    · refine gj_tabIn (a := 20) (tgt := 816) (by decide) dL_law_33 (by decide) (by decide) rfl rfl ?_
      exact lw_c20 HG g hL hj (by omega) (by omega) (HS.2.2.2.2.2.2.2.2.2.2.2.2.2.2.2.2.2.2.2.2.1 (xs (6 * j + 1)) (xs (6 * j + 2)) (xs (6 * j + 3))) cont
    · refine gj_tabIn (a := 21) (tgt := 859) (by decide) dL_law_33 (by decide) (by decide) rfl rfl ?_
      exact lw_c21 HG g hL hj (by omega) (by omega) (HS.2.2.2.2.2.2.2.2.2.2.2.2.2.2.2.2.2.2.2.2.2.1 (xs (6 * j + 1)) (xs (6 * j + 2)) (xs (6 * j + 3)) (xs (6 * j + 4))) cont
    · refine gj_tabIn (a := 22) (tgt := 912) (by decide) dL_law_33 (by decide) (by decide) rfl rfl ?_
      exact lw_c22 HG g hL hj (by omega) (by omega) (HS.2.2.2.2.2.2.2.2.2.2.2.2.2.2.2.2.2.2.2.2.2.2.1 (xs (6 * j + 1))) cont
    · refine gj_tabIn (a := 23) (tgt := 935) (by decide) dL_law_33 (by decide) (by decide) rfl rfl ?_
      exact lw_c23 HG g hL hj (by omega) (by omega) (HS.2.2.2.2.2.2.2.2.2.2.2.2.2.2.2.2.2.2.2.2.2.2.2.1 ()) cont
    · refine gj_tabIn (a := 24) (tgt := 948) (by decide) dL_law_33 (by decide) (by decide) rfl rfl ?_
      exact lw_c24 HG g hL hj (by omega) (by omega) (HS.2.2.2.2.2.2.2.2.2.2.2.2.2.2.2.2.2.2.2.2.2.2.2.2.1 (xs (6 * j + 1)) (xs (6 * j + 2))) cont
    · refine gj_tabIn (a := 25) (tgt := 981) (by decide) dL_law_33 (by decide) (by decide) rfl rfl ?_
      exact lw_c25 HG g hL hj (by omega) (by omega) (HS.2.2.2.2.2.2.2.2.2.2.2.2.2.2.2.2.2.2.2.2.2.2.2.2.2.1 ()) cont
    · refine gj_tabIn (a := 26) (tgt := 994) (by decide) dL_law_33 (by decide) (by decide) rfl rfl ?_
      exact lw_c26 HG g hL hj (by omega) (by omega) (HS.2.2.2.2.2.2.2.2.2.2.2.2.2.2.2.2.2.2.2.2.2.2.2.2.2.2.1 (xs (6 * j + 1)) (xs (6 * j + 2)) (xs (6 * j + 3))) cont
    · refine gj_tabIn (a := 27) (tgt := 1037) (by decide) dL_law_33 (by decide) (by decide) rfl rfl ?_
      exact lw_c27 HG g hL hj (by omega) (by omega) (HS.2.2.2.2.2.2.2.2.2.2.2.2.2.2.2.2.2.2.2.2.2.2.2.2.2.2.2.1 (xs (6 * j + 1)) (xs (6 * j + 2)) (xs (6 * j + 3)) (xs (6 * j + 4)) (xs (6 * j + 5))) cont
    · refine gj_tabIn (a := 28) (tgt := 1100) (by decide) dL_law_33 (by decide) (by decide) rfl rfl ?_
      exact lw_c28 HG g hL hj (by omega) (by omega) (HS.2.2.2.2.2.2.2.2.2.2.2.2.2.2.2.2.2.2.2.2.2.2.2.2.2.2.2.2.1 (xs (6 * j + 1)) (xs (6 * j + 2)) (xs (6 * j + 3)) (xs (6 * j + 4)) (xs (6 * j + 5))) cont
    · refine gj_tabIn (a := 29) (tgt := 1163) (by decide) dL_law_33 (by decide) (by decide) rfl rfl ?_
      exact lw_c29 HG g hL hj (by omega) (by omega) (HS.2.2.2.2.2.2.2.2.2.2.2.2.2.2.2.2.2.2.2.2.2.2.2.2.2.2.2.2.2.1 (xs (6 * j + 1))) cont
    · refine gj_tabIn (a := 30) (tgt := 1186) (by decide) dL_law_33 (by decide) (by decide) rfl rfl ?_
      exact lw_c30 HG g hL hj (by omega) (by omega) (HS.2.2.2.2.2.2.2.2.2.2.2.2.2.2.2.2.2.2.2.2.2.2.2.2.2.2.2.2.2.2.1 (xs (6 * j + 1))) cont
    · refine gj_tabIn (a := 31) (tgt := 1209) (by decide) dL_law_33 (by decide) (by decide) rfl rfl ?_
      exact lw_c31 HG g hL hj (by omega) (by omega) (HS.2.2.2.2.2.2.2.2.2.2.2.2.2.2.2.2.2.2.2.2.2.2.2.2.2.2.2.2.2.2.2.1 (xs (6 * j + 1))) cont
    · refine gj_tabIn (a := 32) (tgt := 1232) (by decide) dL_law_33 (by decide) (by decide) rfl rfl ?_
      exact lw_c32 HG g hL hj (by omega) (by omega) (HS.2.2.2.2.2.2.2.2.2.2.2.2.2.2.2.2.2.2.2.2.2.2.2.2.2.2.2.2.2.2.2.2.1 (xs (6 * j + 1))) cont
    · refine gj_tabIn (a := 33) (tgt := 1255) (by decide) dL_law_33 (by decide) (by decide) rfl rfl ?_
      exact lw_c33 HG g hL hj (by omega) (by omega) (HS.2.2.2.2.2.2.2.2.2.2.2.2.2.2.2.2.2.2.2.2.2.2.2.2.2.2.2.2.2.2.2.2.2.1 (xs (6 * j + 1)) (xs (6 * j + 2))) cont
    · refine gj_tabIn (a := 34) (tgt := 1288) (by decide) dL_law_33 (by decide) (by decide) rfl rfl ?_
      exact lw_c34 HG g hL hj (by omega) (by omega) (HS.2.2.2.2.2.2.2.2.2.2.2.2.2.2.2.2.2.2.2.2.2.2.2.2.2.2.2.2.2.2.2.2.2.2.1 (xs (6 * j + 1)) (xs (6 * j + 2)) (xs (6 * j + 3)) (xs (6 * j + 4))) cont
    · refine gj_tabIn (a := 35) (tgt := 1341) (by decide) dL_law_33 (by decide) (by decide) rfl rfl ?_
      exact lw_c35 HG g hL hj (by omega) (by omega) (HS.2.2.2.2.2.2.2.2.2.2.2.2.2.2.2.2.2.2.2.2.2.2.2.2.2.2.2.2.2.2.2.2.2.2.2.1 (xs (6 * j + 1)) (xs (6 * j + 2))) cont
    · refine gj_tabIn (a := 36) (tgt := 1374) (by decide) dL_law_33 (by decide) (by decide) rfl rfl ?_
      exact lw_c36 HG g hL hj (by omega) (by omega) (HS.2.2.2.2.2.2.2.2.2.2.2.2.2.2.2.2.2.2.2.2.2.2.2.2.2.2.2.2.2.2.2.2.2.2.2.2.1 (xs (6 * j + 1))) cont
    · refine gj_tabIn (a := 37) (tgt := 1398) (by decide) dL_law_33 (by decide) (by decide) rfl rfl ?_
      exact lw_c37 HG g hL hj (by omega) (by omega) (HS.2.2.2.2.2.2.2.2.2.2.2.2.2.2.2.2.2.2.2.2.2.2.2.2.2.2.2.2.2.2.2.2.2.2.2.2.2.1 (xs (6 * j + 1))) cont
    · refine gj_tabIn (a := 38) (tgt := 1421) (by decide) dL_law_33 (by decide) (by decide) rfl rfl ?_
      exact lw_c38 HG g hL hj (by omega) (by omega) (HS.2.2.2.2.2.2.2.2.2.2.2.2.2.2.2.2.2.2.2.2.2.2.2.2.2.2.2.2.2.2.2.2.2.2.2.2.2.2.1 (xs (6 * j + 1))) cont
    · refine gj_tabIn (a := 39) (tgt := 1444) (by decide) dL_law_33 (by decide) (by decide) rfl rfl ?_
      exact lw_c39 HG g hL hj (by omega) (by omega) (HS.2.2.2.2.2.2.2.2.2.2.2.2.2.2.2.2.2.2.2.2.2.2.2.2.2.2.2.2.2.2.2.2.2.2.2.2.2.2.2.1 (xs (6 * j + 1))) cont
    · refine gj_tabIn (a := 40) (tgt := 1467) (by decide) dL_law_33 (by decide) (by decide) rfl rfl ?_
      exact lw_c40 HG g hL hj (by omega) (by omega) (HS.2.2.2.2.2.2.2.2.2.2.2.2.2.2.2.2.2.2.2.2.2.2.2.2.2.2.2.2.2.2.2.2.2.2.2.2.2.2.2.2.1 (xs (6 * j + 1))) cont
    · refine gj_tabIn (a := 41) (tgt := 1490) (by decide) dL_law_33 (by decide) (by decide) rfl rfl ?_
      exact lw_c41 HG g hL hj (by omega) (by omega) (HS.2.2.2.2.2.2.2.2.2.2.2.2.2.2.2.2.2.2.2.2.2.2.2.2.2.2.2.2.2.2.2.2.2.2.2.2.2.2.2.2.2 ()) cont
    · refine gj_tabOut (a := c) (tgt := 1504) (by omega) dL_law_33 (by omega) rfl ?_
      exact gj_wid (by omega) (by omega) (cont h g)
