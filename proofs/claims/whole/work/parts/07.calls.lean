/-! methods: contracts in our words -/
def mj_ws (i : mj_I) : List Cond := .code i.1 i.2.1 i.2.2.1 i.2.2.2.1 :: mj_TB
def mj_rm (i : mj_I) : Room := { frames := i.2.2.2.2.1, cells := i.2.2.2.2.2.1, slots := i.2.2.2.2.2.2, locals := 36 * i.2.2.2.2.1 }
def mj_A (h : mj_H) (φ : Nat → Nat) (sz : Nat) : Nat → Prop := fun q => (∃ j, h j ≠ none ∧ q = φ j) ∨ sz ≤ q
def mj_Q (mc : Nat) (E : mj_E) (Z : Option Value → mj_H → Prop) (h0 : mj_H) (φ0 : Nat → Nat) (A : Nat → Prop) : Array Value → State → Outcome → State → Prop := fun _ st oc u =>
  (∃ (r : Option Value) (h' : mj_H) (φ' : Nat → Nat), oc = .returned (r.map (mj_v φ')) ∧ Z r h' ∧ (mc = 0 → φ' = φ0) ∧ mj_ext h0 φ0 φ' ∧ (∀ j, h0 j ≠ none → h' j ≠ none) ∧ mj_W E φ' h' A u.heap) ∧ va_F A st u
def mj_P (E : mj_E) (φ : Nat → Nat) (h : mj_H) (sz : Nat) (as : List Value) : Array Value → State → Prop :=
  va_Pc (as.map (mj_v φ)) (fun U => U.heap.size = sz ∧ mj_W E φ h (fun _ => True) U.heap ∧ mj_F E φ ∧ mj_X E (mj_A h φ sz) U U.heap)
def mj_Ev (E : mj_E) (i : mj_I) (as : List Value) (h : mj_H) (Z : Option Value → mj_H → Prop) : Prop :=
  ∀ (φ : Nat → Nat) (sz : Nat), Met E.1 i.1 (mj_ws i) (mj_rm i) (mj_P E φ h sz as) (mj_Q i.2.2.2.2.2.1 E Z h φ (mj_A h φ sz)) i.2.2.2.2.2.1 i.2.2.2.2.2.2 (mj_A h φ sz)
def mj_XM (E : mj_E) (i : mj_I) (Z : Option Value → mj_H → Prop) : mj_XT :=
  (i.1.cls, i.2.2.1, mj_rm i, fun t => t.2.2.2.1.sig.returnType = i.2.2.2.1 ∧ t.2.2.2.1.locks = false ∧ t.2.2.2.1.name = i.1.name,
    fun t => MQ t.2.2.2.2.1 (mj_Q i.2.2.2.2.2.1 E Z t.2.2.2.2.2.2.1 t.2.2.2.2.2.2.2 t.2.2.2.2.2.1) t.1 t.2.1 i.2.2.2.2.2.1 i.2.2.2.2.2.2 t.2.2.2.2.2.1)
def mj_in : List Value → List (Option Value)
  | [] => []
  | v :: r => match v.category with
    | 2 => some v :: none :: mj_in r
    | _ => some v :: mj_in r
theorem mj_in_one {v : Value} {r : List Value} (h : ¬ v.category = 2) : mj_in (v :: r) = some v :: mj_in r := by
  rcases lv_cat v with q | q
  · simp [mj_in, q]
  · exact absurd q h
theorem mj_in_two {v : Value} {r : List Value} (h : v.category = 2) : mj_in (v :: r) = some v :: none :: mj_in r := by simp [mj_in, h]
theorem mj_in_len (φ : Nat → Nat) (as : List Value) : (lg_sl (as.map (mj_v φ))).length = (mj_in as).length := by
  induction as with
  | nil => rfl
  | cons v r ih =>
    have e : lg_sl ((v :: r).map (mj_v φ)) = (if (mj_v φ v).category = 2 then [Slot.val (mj_v φ v), .second] else [.val (mj_v φ v)]) ++ lg_sl (r.map (mj_v φ)) := by simp [lg_sl]
    rw [e, mj_v_cat]
    by_cases h : v.category = 2
    · rw [if_pos h, mj_in_two h]
      simp [ih]
    · rw [if_neg h, mj_in_one h]
      simp [ih]
theorem mj_in_args (φ : Nat → Nat) : ∀ (as : List Value) (b j : Nat) (v : Value), (mj_in as)[j]? = some (some v) → (b + j, mj_v φ v) ∈ lv_args b (as.map (mj_v φ)) := by
  intro as
  induction as with
  | nil => intro b j v h; simp [mj_in] at h
  | cons w r ih =>
    intro b j v h
    show _ ∈ (b, mj_v φ w) :: lv_args (if (mj_v φ w).category = 2 then b + 2 else b + 1) (r.map (mj_v φ))
    rw [mj_v_cat]
    by_cases hc : w.category = 2
    · rw [mj_in_two hc] at h
      rw [if_pos hc]
      match j, h with
      | 0, h => simp at h; subst h; exact List.mem_cons_self
      | 1, h => simp at h
      | j + 2, h =>
        have := ih (b + 2) j v (by simpa using h)
        rw [show b + (j + 2) = b + 2 + j by omega]
        exact List.mem_cons_of_mem _ this
    · rw [mj_in_one hc] at h
      rw [if_neg hc]
      match j, h with
      | 0, h => simp at h; subst h; exact List.mem_cons_self
      | j + 1, h =>
        have := ih (b + 1) j v (by simpa using h)
        rw [show b + (j + 1) = b + 1 + j by omega]
        exact List.mem_cons_of_mem _ this
theorem mj_W.self {E : mj_E} {φ : Nat → Nat} {h : mj_H} {A : Nat → Prop} {H : Heap} {sz : Nat} (w : mj_W E φ h A H) : mj_W E φ h (mj_A h φ sz) H := by
  obtain ⟨hc, I, hI, hP, hD⟩ := w
  refine ⟨hc, I, hI, hP, hD.1, fun k q hk => Or.inl ?_⟩
  rw [List.getElem?_map] at hk
  cases hi : I[k]? with
  | none => rw [hi] at hk; cases hk
  | some i =>
    rw [hi] at hk
    cases hk
    exact ⟨i, (hI i).mpr (List.mem_of_getElem? hi), rfl⟩
theorem mj_W.free {E : mj_E} {φ : Nat → Nat} {h : mj_H} {A : Nat → Prop} {H : Heap} {sz : Nat} (w : mj_W E φ h A H) (hA : ∀ q, sz ≤ q → A q) : ∀ q, mj_A h φ sz q → A q := by
  obtain ⟨hc, I, hI, hP, hD⟩ := w
  rintro q (⟨j, hj, rfl⟩ | hq)
  · obtain ⟨k, hk⟩ := List.getElem?_of_mem ((hI j).mp hj)
    exact hD.2 k (mj_c E φ h j) (by rw [List.getElem?_map, hk]; rfl)
  · exact hA q hq
theorem mj_Ev.of {E : mj_E} {i : mj_I} {as : List Value} {h : mj_H} {Z : Option Value → mj_H → Prop} {L0 : List (Option Value)} (hy : plainName i.1.cls = true) (hlen : (mj_in as).length ≤ i.2.2.1) (hL : mj_in as ++ List.replicate (i.2.2.1 - (mj_in as).length) none = L0)
    (g : gj E (mj_XM E i Z) i.2.1 0 0 0 L0 [] h) : mj_Ev E i as h Z := by
  intro φ sz
  refine Met.ofW (cc := i.2.1) (maxL := i.2.2.1) (ret := i.2.2.2.1) hy rfl ?_
  intro p e s m args below meth c s₁ B hml hv
  obtain ⟨rfl, hsz, hW, hF, hX⟩ := hv
  subst hsz
  have hts := atoms_spec (ws := mj_ws i) B.pre
  have hl := lv_entry (as.map (mj_v φ)) (n := i.2.2.1) (by rw [mj_in_len]; exact hlen)
  rw [lg_entry_eq]
  generalize (lg_sl (as.map (mj_v φ)) ++ List.replicate (i.2.2.1 - (lg_sl (as.map (mj_v φ))).length) Slot.unset).toArray = ls at hl ⊢
  refine g p e c _ s m meth below (mj_A h φ s.heap.size) h φ φ s.heap [] ls ?_ ?_
  · exact ⟨B.exec, B.bytes, hml, findClass_of_methodNamed B.named, fun w hw => hts w (List.mem_cons_of_mem _ hw), hX, fun q hq => Or.inr hq, B.returns, B.notSynchronized, (name_of_methodNamed B.named B.method).1⟩
  · refine ⟨fun _ => rfl, fun _ _ => rfl, fun _ q => q, hW.self, va_S.rf, hF, hl.1, hl.2.1, fun j v hj => ?_⟩
    subst hL
    refine hl.2.2 (j, mj_v φ v) ?_
    rw [List.getElem?_append] at hj
    split at hj
    · have := mj_in_args φ as 0 j v hj
      rwa [Nat.zero_add] at this
    · rw [List.getElem?_replicate] at hj
      split at hj <;> cases hj
section MJC
variable {E : mj_E} {X : mj_XT} {cc : ByteArray} {k n pc : Nat} {L : List (Option Value)} {st : List Value} {h : mj_H}
def mj_alL (h : mj_H) (L : List (Option Value)) : Prop := ∀ (i : Nat) (v : Value), L[i]? = some (some v) → mj_vl h v
theorem mj_after {p : Program} {e : Env} {s : State} {m : MethodId} {args : Array Value} {below : List Frame} {meth : Method} {c : Code} {A : Nat → Prop} {h0 : mj_H} {φ0 φ : Nat → Nat} {H : Heap} {locs : List Loc} {ls : Array Slot} {mc ms : Nat} {st0 rest : List Value} {Z : Option Value → mj_H → Prop} {aa : Array Value}
    (S : mj_S E X cc p c args s m meth below A h0 φ0) (Y : mj_Y E X k s A h0 φ0 φ h H locs ls L)
    (hr : va_Run p E.1 e X.2.2.1 s m args below meth c H locs k n mc ms (F0 m pc ls st0) (rest.map (mj_v φ)) (mj_Q mc E Z h φ (mj_A h φ H.size) aa) (mj_A h φ H.size))
    (hal : mc = 0 ∨ (mj_alL h L ∧ ∀ v ∈ rest, mj_vl h v))
    (kk : ∀ r h', Z r h' → gj E X cc (k + mc) (n + ms) (pc + 3) L (r.toList ++ rest) h') :
    W p E.1 e X.2.2.1 s m args below meth c H locs k n (X.2.2.2.2 (args, s, m, meth, below, A, h0, φ0)) (F0 m pc ls st0) := by
  intro T hT XX
  obtain ⟨v, st₀, t, T', L2, h0', X', hL2, e1, e2, ⟨⟨r, h', φ', hv, hz, hmc, hx, hm, hW'⟩, hz2, hk2⟩, stp⟩ := hr T hT XX
  cases hv
  have hfree : ∀ q, mj_A h φ H.size q → A q := Y.2.2.2.1.free (fun q hq => S.2.2.2.2.2.2.1 q (Nat.le_trans Y.2.2.2.2.1.1 hq))
  rw [h0'] at hz2 hk2
  have hlL : mj_L φ' ls X.2.1 L := by
    rcases hal with q | q
    · rw [hmc q]; exact Y.2.2.2.2.2.2
    · exact Y.2.2.2.2.2.2.ext hx q.1
  have hrest : rest.map (mj_v φ') = rest.map (mj_v φ) := by
    rcases hal with q | q
    · rw [hmc q]
    · exact List.map_congr_left fun v hv => mj_v_ext hx (q.2 v hv)
  have Y' : mj_Y E X (k + mc) s A h0 φ0 φ' h' T'.heap (locs ++ L2) ls L := by
    refine ⟨fun q => ?_, fun a ha => ?_, fun j hj => hm j (Y.2.2.1 j hj), ?_, ⟨?_, ?_, ?_⟩, fun j hj => ?_, hlL⟩
    · rw [hmc (by omega)]; exact Y.1 (by omega)
    · rw [hx a (ha.elim (fun z => Or.inl (Y.2.2.1 a z)) Or.inr)]; exact Y.2.1 a ha
    · rw [e1]; exact hW'.weaken hfree
    · rw [e1]; exact Nat.le_trans Y.2.2.2.2.1.1 hz2
    · intro q h1 h2
      rw [e1, hk2 q (Nat.lt_of_lt_of_le h1 Y.2.2.2.2.1.1) (fun z => h2 (hfree q z))]
      exact Y.2.2.2.2.1.2.1 q h1 h2
    · intro q hq
      rcases List.mem_append.mp hq with z | z
      · exact Y.2.2.2.2.1.2.2 q z
      · exact hfree _ (hL2 q z)
    · rw [hx _ (Or.inr (by omega))]; exact Y.2.2.2.2.2.1 j hj
  obtain ⟨t2, a1, b1⟩ := kk r h' hz p e c args s m meth below A h0 φ0 φ' T'.heap (locs ++ L2) ls S Y' T' rfl X'
  refine ⟨t2, stp t2 ?_, b1⟩
  have hst : (r.toList ++ rest).map (mj_v φ') = (r.map (mj_v φ')).toList ++ rest.map (mj_v φ) := by
    rw [List.map_append, hrest]
    cases r <;> rfl
  rw [hst] at a1
  exact a1
theorem mj_blind {φ : Nat → Nat} {sz : Nat} {as : List Value} : FrameBlind (mj_P E φ h sz as) := by
  rintro a U g mk ⟨q1, q2, q3, q4, q5⟩
  exact ⟨q1, q2, q3, q4, mj_X.same (u := U) (U := U.calling g mk a) rfl q5⟩
theorem mj_pre {p : Program} {s : State} {m : MethodId} {args : Array Value} {below : List Frame} {meth : Method} {c : Code} {A : Nat → Prop} {h0 : mj_H} {φ0 φ : Nat → Nat} {H : Heap} {locs : List Loc} {ls : Array Slot} {as : List Value}
    (S : mj_S E X cc p c args s m meth below A h0 φ0) (Y : mj_Y E X k s A h0 φ0 φ h H locs ls L) : ∀ U : State, U.heap = H → s.WarmedH U.vm → mj_P E φ h H.size as (as.map (mj_v φ)).toArray U := by
  intro U hU hW
  have hfree : ∀ q, mj_A h φ H.size q → A q := Y.2.2.2.1.free (fun q hq => S.2.2.2.2.2.2.1 q (Nat.le_trans Y.2.2.2.2.1.1 hq))
  refine ⟨rfl, by rw [hU], by rw [hU]; exact Y.2.2.2.1.weaken fun _ _ => trivial, Y.2.2.2.2.2.1, ?_⟩
  rw [hU]
  exact mj_X.warm hW ((S.2.2.2.2.2.1.kept Y.2.2.2.2.1.2.1).narrow hfree)
def mj_rok (R : Room) (i : mj_I) (k n : Nat) : Prop := (i.2.2.2.2.1 + 1 ≤ R.frames ∧ 8 + (i.2.2.1 + 11) + 36 * i.2.2.2.2.1 ≤ R.locals) ∧ (k + i.2.2.2.2.2.1 ≤ R.cells ∧ n + i.2.2.2.2.2.2 ≤ R.slots)
def mj_nm (y : MethodName) (nn : Nat) : Prop := y.cls ≠ "java/lang/invoke/MethodHandle" ∧ y.cls ≠ "java/lang/invoke/VarHandle" ∧ (parseMethodDescriptor y.desc).map (fun d => d.parameters.length) = some nn
theorem mj_gws {i : mj_I} (hc : Cond.code i.1 i.2.1 i.2.2.1 i.2.2.2.1 ∈ mj_TB) : GoodIn mj_TB (mj_ws i) := fun w hw => by
  rcases List.mem_cons.mp hw with rfl | hw
  · exact ⟨hc, mj_good hc⟩
  · exact ⟨hw, mj_good hw⟩
def mj_lkS (own : String) (idx : Nat) (i : mj_I) (nn : Nat) : Prop := Cond.methodLink own idx i.1 ∈ mj_TB ∧ Cond.static i.1 ∈ mj_TB ∧ Cond.initialized i.1.cls ∈ mj_TB ∧ Cond.code i.1 i.2.1 i.2.2.1 i.2.2.2.1 ∈ mj_TB ∧ mj_nm i.1 nn
def mj_lkV (own : String) (idx : Nat) (i : mj_I) (nn : Nat) : Prop := Cond.methodLink own idx i.1 ∈ mj_TB ∧ Cond.instanceMethod i.1 ∈ mj_TB ∧ Cond.selects i.1.cls i.1 i.1 ∈ mj_TB ∧ Cond.initialized i.1.cls ∈ mj_TB ∧ Cond.code i.1 i.2.1 i.2.2.1 i.2.2.2.1 ∈ mj_TB ∧ mj_nm i.1 nn
def mj_lkSN (own : String) (idx : Nat) (i : mj_I) (nn : Nat) : Prop := (∃ host, Cond.methodLinkNest own idx i.1 host ∈ lw_tbl) ∧ Cond.static i.1 ∈ mj_TB ∧ Cond.initialized i.1.cls ∈ mj_TB ∧ Cond.code i.1 i.2.1 i.2.2.1 i.2.2.2.1 ∈ mj_TB ∧ mj_nm i.1 nn
def mj_lkIN (own : String) (idx : Nat) (i : mj_I) (nn : Nat) : Prop := (∃ host, Cond.methodLinkNest own idx i.1 host ∈ lw_tbl) ∧ Cond.instanceMethod i.1 ∈ mj_TB ∧ Cond.initialized i.1.cls ∈ mj_TB ∧ Cond.code i.1 i.2.1 i.2.2.1 i.2.2.2.1 ∈ mj_TB ∧ i.1.name = "<init>" ∧ i.2.2.2.1 = none ∧ mj_nm i.1 nn
def mj_lkI (own : String) (idx : Nat) (i : mj_I) (nn : Nat) : Prop := Cond.methodLink own idx i.1 ∈ mj_TB ∧ Cond.instanceMethod i.1 ∈ mj_TB ∧ Cond.initialized i.1.cls ∈ mj_TB ∧ Cond.code i.1 i.2.1 i.2.2.1 i.2.2.2.1 ∈ mj_TB ∧ i.1.name = "<init>" ∧ i.2.2.2.1 = none ∧ mj_nm i.1 nn
theorem mj_rev {φ : Nat → Nat} {as rest : List Value} : (as.reverse ++ rest).map (mj_v φ) = (as.map (mj_v φ)).reverse ++ rest.map (mj_v φ) := by rw [List.map_append, List.map_reverse]
theorem mj_sum {φ : Nat → Nat} {rest : List Value} : ((rest.map (mj_v φ)).map fun v => v.category).sum = (rest.map fun v => v.category).sum := by
  rw [List.map_map]
  congr 1
  exact List.map_congr_left fun v _ => mj_v_cat φ v
theorem gj_callS {i : mj_I} {idx nn : Nat} {as rest : List Value} {Z : Option Value → mj_H → Prop} (lk : mj_lkS X.1 idx i nn) (hEv : mj_Ev E i as h Z) (hd : decode cc pc = .ok (.invokestatic idx, 3)) (hs : as.reverse ++ rest = st) (hn : as.length = nn) (hw : (rest.map fun v => v.category).sum ≤ 8) (hR : mj_rok X.2.2.1 i k n) (hal : i.2.2.2.2.2.1 = 0 ∨ (mj_alL h L ∧ ∀ v ∈ rest, mj_vl h v))
    (kk : ∀ r h', Z r h' → gj E X cc (k + i.2.2.2.2.2.1) (n + i.2.2.2.2.2.2) (pc + 3) L (r.toList ++ rest) h') : gj E X cc k n pc L st h := by
  subst hs
  intro p e c args s m meth below A h0 φ0 φ H locs ls S Y
  obtain ⟨l1, l2, l3, l4, l5⟩ := lk
  refine mj_after S Y (va_runS (As := as.map (mj_v φ)) ⟨S.1, S.2.1, S.2.2.1, S.2.2.2.1, S.2.2.2.2.1⟩ (hEv φ H.size) (va_cwS nn S.2.2.2.2.1 ?_ rfl rfl rfl l5 hR.1) ⟨mj_blind, mj_pre S Y⟩ rfl (by rw [List.length_map]; exact hn) Y.2.2.2.2.2.2.1 mj_rev (lv_room (by rw [mj_sum]; exact hw)) hd hR.2) hal kk
  intro w hw
  rcases List.mem_append.mp hw with hw | hw
  · simp only [List.mem_cons, List.not_mem_nil, or_false] at hw
    rcases hw with rfl | rfl | rfl
    · exact ⟨l1, mj_good l1⟩
    · exact ⟨l2, mj_good l2⟩
    · exact ⟨l3, mj_good l3⟩
  · exact mj_gws l4 w hw
theorem gj_callV {i : mj_I} {idx nn a ci : Nat} {as rest : List Value} {fs : List Value} {q : vw_C} {Z : Option Value → mj_H → Prop} (lk : mj_lkV X.1 idx i nn) (he : h a = some (.inr (ci, fs))) (hc : vwCl[ci]? = some q) (hq : q.1 = i.1.cls) (hEv : mj_Ev E i (.ref a :: as) h Z) (hd : decode cc pc = .ok (.invokevirtual idx, 3)) (hs : as.reverse ++ .ref a :: rest = st) (hn : as.length = nn) (hw : (rest.map fun v => v.category).sum ≤ 8) (hR : mj_rok X.2.2.1 i k n) (hal : i.2.2.2.2.2.1 = 0 ∨ (mj_alL h L ∧ ∀ v ∈ rest, mj_vl h v))
    (kk : ∀ r h', Z r h' → gj E X cc (k + i.2.2.2.2.2.1) (n + i.2.2.2.2.2.2) (pc + 3) L (r.toList ++ rest) h') : gj E X cc k n pc L st h := by
  subst hs
  intro p e c args s m meth below A h0 φ0 φ H locs ls S Y
  obtain ⟨l1, l2, l3, l4, l5, l6⟩ := lk
  obtain ⟨hcl, I, hI, hP, hD⟩ := Y.2.2.2.1
  obtain ⟨q0, hq1, hq2⟩ := mj_W.get (E := E) (φ := φ) hI he
  have hrec := va_recv S.2.2.2.2.2.1.1 hP hc hq2
  rw [hq] at hrec
  refine mj_after S Y (va_runV (As := as.map (mj_v φ)) (C := i.1.cls) (b := φ a) ⟨S.1, S.2.1, S.2.2.1, S.2.2.2.1, S.2.2.2.2.1⟩ (hEv φ H.size) (cwV nn S.2.2.2.2.1 ?_ rfl rfl rfl ⟨rfl, l6⟩ hR.1) ⟨mj_blind, hrec, mj_pre (as := .ref a :: as) S Y⟩ rfl (by rw [List.length_map]; exact hn) Y.2.2.2.2.2.2.1 mj_rev (lv_room (by rw [mj_sum]; exact hw)) hd hR.2) hal kk
  intro w hw
  rcases List.mem_append.mp hw with hw | hw
  · simp only [List.mem_cons, List.not_mem_nil, or_false] at hw
    rcases hw with rfl | rfl | rfl | rfl
    · exact ⟨l1, mj_good l1⟩
    · exact ⟨l2, mj_good l2⟩
    · exact ⟨l3, mj_good l3⟩
    · exact ⟨l4, mj_good l4⟩
  · exact mj_gws l5 w hw
theorem gj_callSN {i : mj_I} {idx nn : Nat} {as rest : List Value} {Z : Option Value → mj_H → Prop} (lk : mj_lkSN X.1 idx i nn) (hEv : mj_Ev E i as h Z) (hd : decode cc pc = .ok (.invokestatic idx, 3)) (hs : as.reverse ++ rest = st) (hn : as.length = nn) (hw : (rest.map fun v => v.category).sum ≤ 8) (hR : mj_rok X.2.2.1 i k n) (hal : i.2.2.2.2.2.1 = 0 ∨ (mj_alL h L ∧ ∀ v ∈ rest, mj_vl h v))
    (kk : ∀ r h', Z r h' → gj E X cc (k + i.2.2.2.2.2.1) (n + i.2.2.2.2.2.2) (pc + 3) L (r.toList ++ rest) h') : gj E X cc k n pc L st h := by
  subst hs
  intro p e c args s m meth below A h0 φ0 φ H locs ls S Y
  obtain ⟨⟨host, l1⟩, l2, l3, l4, l5⟩ := lk
  exact mj_after S Y (va_runSN (As := as.map (mj_v φ)) (host := host) ⟨S.1, S.2.1, S.2.2.1, S.2.2.2.1, S.2.2.2.2.1⟩ (hEv φ H.size) ⟨va_cnB nn S.2.2.2.2.1 (mj_gws l4) rfl rfl rfl (S.2.2.2.2.2.1.2.2.1 _ _ _ _ l1) (S.2.2.2.2.1 _ l3) l5 hR.1, S.2.2.2.2.1 _ l2, trivial⟩ ⟨mj_blind, mj_pre S Y⟩ rfl (by rw [List.length_map]; exact hn) Y.2.2.2.2.2.2.1 mj_rev (lv_room (by rw [mj_sum]; exact hw)) hd hR.2) hal kk
theorem gj_callI {i : mj_I} {idx nn a : Nat} {as rest : List Value} {Z : Option Value → mj_H → Prop} (lk : mj_lkI X.1 idx i nn) (hEv : mj_Ev E i (.ref a :: as) h Z) (hd : decode cc pc = .ok (.invokespecial idx, 3)) (hs : as.reverse ++ .ref a :: rest = st) (hn : as.length = nn) (hw : (rest.map fun v => v.category).sum ≤ 8) (hR : mj_rok X.2.2.1 i k n) (hal : i.2.2.2.2.2.1 = 0 ∨ (mj_alL h L ∧ ∀ v ∈ rest, mj_vl h v))
    (kk : ∀ r h', Z r h' → gj E X cc (k + i.2.2.2.2.2.1) (n + i.2.2.2.2.2.2) (pc + 3) L (r.toList ++ rest) h') : gj E X cc k n pc L st h := by
  subst hs
  obtain ⟨y, bc, nL, ret, d, mc, ms⟩ := i
  obtain ⟨l1, l2, l3, l4, l5, l6, l7⟩ := lk
  dsimp only at l6
  subst l6
  intro p e c args s m meth below A h0 φ0 φ H locs ls S Y
  exact mj_after S Y (va_runI (As := as.map (mj_v φ)) (b := φ a) ⟨S.1, S.2.1, S.2.2.1, S.2.2.2.1, S.2.2.2.2.1⟩ (hEv φ H.size) (cwI nn S.2.2.2.2.1 (mj_gws l4) rfl rfl rfl (S.2.2.2.2.1 _ l3) (S.2.2.2.2.1 _ l1) (S.2.2.2.2.1 _ l2) l5 l7 hR.1) ⟨mj_blind, mj_pre (as := .ref a :: as) S Y⟩ rfl (by rw [List.length_map]; exact hn) Y.2.2.2.2.2.2.1 mj_rev (lv_room (by rw [mj_sum]; exact hw)) hd hR.2) hal kk
theorem gj_callIN {i : mj_I} {idx nn a : Nat} {as rest : List Value} {Z : Option Value → mj_H → Prop} (lk : mj_lkIN X.1 idx i nn) (hEv : mj_Ev E i (.ref a :: as) h Z) (hd : decode cc pc = .ok (.invokespecial idx, 3)) (hs : as.reverse ++ .ref a :: rest = st) (hn : as.length = nn) (hw : (rest.map fun v => v.category).sum ≤ 8) (hR : mj_rok X.2.2.1 i k n) (hal : i.2.2.2.2.2.1 = 0 ∨ (mj_alL h L ∧ ∀ v ∈ rest, mj_vl h v))
    (kk : ∀ r h', Z r h' → gj E X cc (k + i.2.2.2.2.2.1) (n + i.2.2.2.2.2.2) (pc + 3) L (r.toList ++ rest) h') : gj E X cc k n pc L st h := by
  subst hs
  obtain ⟨y, bc, nL, ret, d, mc, ms⟩ := i
  obtain ⟨⟨host, l1⟩, l2, l3, l4, l5, l6, l7⟩ := lk
  dsimp only at l6
  subst l6
  intro p e c args s m meth below A h0 φ0 φ H locs ls S Y
  exact mj_after S Y (va_runIN (As := as.map (mj_v φ)) (b := φ a) (host := host) ⟨S.1, S.2.1, S.2.2.1, S.2.2.2.1, S.2.2.2.2.1⟩ (hEv φ H.size) ⟨va_cnB nn S.2.2.2.2.1 (mj_gws l4) rfl rfl rfl (S.2.2.2.2.2.1.2.2.1 _ _ _ _ l1) (S.2.2.2.2.1 _ l3) l7 hR.1, l5, S.2.2.2.2.1 _ l2⟩ ⟨mj_blind, mj_pre (as := .ref a :: as) S Y⟩ rfl (by rw [List.length_map]; exact hn) Y.2.2.2.2.2.2.1 mj_rev (lv_room (by rw [mj_sum]; exact hw)) hd hR.2) hal kk
theorem gj_obj {idx a : Nat} {rest : List Value} (l1 : Cond.methodLink X.1 idx objectInit ∈ mj_TB) (l2 : Cond.instanceMethod objectInit ∈ mj_TB) (l3 : Cond.code objectInit ⟨#[0xb1]⟩ 1 none ∈ mj_TB) (hd : decode cc pc = .ok (.invokespecial idx, 3)) (hs : .ref a :: rest = st) (hw : (rest.map fun v => v.category).sum ≤ 8) (hR : 1 ≤ X.2.2.1.frames ∧ 20 ≤ X.2.2.1.locals) (kk : gj E X cc k n (pc + 3) L rest h) : gj E X cc k n pc L st h := by
  subst hs
  intro p e c args s m meth below A h0 φ0 φ H locs ls S Y
  exact W.objInit (a := φ a) (rest := rest.map (mj_v φ)) S.1 S.2.1 S.2.2.2.1 (S.2.2.2.2.1 _ l1) (S.2.2.2.2.1 _ l2) (S.2.2.2.2.1 _ l3) rfl (by rw [S.2.2.1]; exact Y.2.2.2.2.2.2.1) rfl hd hR.1 (by show 2 * 0 + _ + 12 ≤ _; rw [mj_sum]; have := hR.2; omega) (kk p e c args s m meth below A h0 φ0 φ H locs ls S Y)
theorem gj_max {idx : Nat} {x y : Int32} {rest : List Value} (l1 : Cond.methodLink X.1 idx Lib.Math.max.name ∈ mj_TB) (l2 : Cond.static Lib.Math.max.name ∈ mj_TB) (l3 : Cond.initialized "java/lang/Math" ∈ mj_TB) (l4 : Cond.code Lib.Math.max.name Lib.Math.max.code 2 (some .int) ∈ mj_TB) (hd : decode cc pc = .ok (.invokestatic idx, 3)) (hw : (rest.map fun v => v.category).sum ≤ 8) (hR : (1 ≤ X.2.2.1.frames ∧ 21 ≤ X.2.2.1.locals) ∧ k ≤ X.2.2.1.cells ∧ n ≤ X.2.2.1.slots) (kk : gj E X cc k n (pc + 3) L (.int (if x < y then y else x) :: rest) h) : gj E X cc k n pc L (.int y :: .int x :: rest) h := by
  intro p e c args s m meth below A h0 φ0 φ H locs ls S Y
  exact va_mmax S.1 S.2.1 (by rw [S.2.2.1]; exact Y.2.2.2.2.2.2.1.symm) S.2.2.2.1 (S.2.2.2.2.1 _ l1) (S.2.2.2.2.1 _ l2) (S.2.2.2.2.1 _ l3) (S.2.2.2.2.1 _ l4) hR.1.1 (by rw [mj_sum]; have := hR.1.2; omega) hR.2.1 hR.2.2 hd (kk p e c args s m meth below A h0 φ0 φ H locs ls S Y)
theorem gj_min {idx : Nat} {x y : Int32} {rest : List Value} (l1 : Cond.methodLink X.1 idx Lib.Math.min.name ∈ mj_TB) (l2 : Cond.static Lib.Math.min.name ∈ mj_TB) (l3 : Cond.initialized "java/lang/Math" ∈ mj_TB) (l4 : Cond.code Lib.Math.min.name Lib.Math.min.code 2 (some .int) ∈ mj_TB) (hd : decode cc pc = .ok (.invokestatic idx, 3)) (hw : (rest.map fun v => v.category).sum ≤ 8) (hR : (1 ≤ X.2.2.1.frames ∧ 21 ≤ X.2.2.1.locals) ∧ k ≤ X.2.2.1.cells ∧ n ≤ X.2.2.1.slots) (kk : gj E X cc k n (pc + 3) L (.int (if y < x then y else x) :: rest) h) : gj E X cc k n pc L (.int y :: .int x :: rest) h := by
  intro p e c args s m meth below A h0 φ0 φ H locs ls S Y
  exact va_mmin S.1 S.2.1 (by rw [S.2.2.1]; exact Y.2.2.2.2.2.2.1.symm) S.2.2.2.1 (S.2.2.2.2.1 _ l1) (S.2.2.2.2.1 _ l2) (S.2.2.2.2.1 _ l3) (S.2.2.2.2.1 _ l4) hR.1.1 (by rw [mj_sum]; have := hR.1.2; omega) hR.2.1 hR.2.2 hd (kk p e c args s m meth below A h0 φ0 φ H locs ls S Y)
theorem gj_copy {idx a b N0 N1 : Nat} {f g : Nat → Int32} {sp dp w : Int32} {rest : List Value} (l1 : Cond.methodLink X.1 idx arraycopyName ∈ mj_TB) (l2 : Cond.native arraycopyName ∈ mj_TB) (l3 : Cond.static arraycopyName ∈ mj_TB) (l4 : Cond.initialized "java/lang/System" ∈ mj_TB) (hd : decode cc pc = .ok (.invokestatic idx, 3)) (ha : h a = some (.inl (0, N0, .inl f))) (hb : h b = some (.inl (0, N1, .inl g))) (h1 : ¬ sp < 0) (h2 : ¬ dp < 0) (h3 : ¬ w < 0) (h4 : sp.toNatClampNeg + w.toNatClampNeg ≤ N0) (h5 : dp.toNatClampNeg + w.toNatClampNeg ≤ N1) (hw : (rest.map fun v => v.category).sum ≤ 8) (hR : 1 ≤ X.2.2.1.frames ∧ 8 + (nativeFrameWords "java/lang/System" "arraycopy" 5 + 11) ≤ X.2.2.1.locals)
    (kk : gj E X cc k n (pc + 3) L rest (mj_up h b (.inl (0, N1, .inl (va_cpy f g sp.toNatClampNeg dp.toNatClampNeg w.toNatClampNeg))))) : gj E X cc k n pc L (.int w :: .int dp :: .ref b :: .int sp :: .ref a :: rest) h := by
  intro p e c args s m meth below A h0 φ0 φ H locs ls S Y
  obtain ⟨hcl, I, hI, hP, hD⟩ := Y.2.2.2.1
  obtain ⟨q0, hq, hq2⟩ := mj_W.get (E := E) (φ := φ) hI ha
  obtain ⟨q1, hr, hr2⟩ := mj_W.get (E := E) (φ := φ) hI hb
  refine va_copyi (D := E.2.1) S.1 S.2.1 (by rw [S.2.2.1]; exact Y.2.2.2.2.2.2.1.symm) S.2.2.2.1 (S.2.2.2.2.1 _ l1) (S.2.2.2.2.1 _ l2) (S.2.2.2.2.1 _ l3) (S.2.2.2.2.1 _ l4) S.2.2.2.2.2.1.1 hP hD Y.2.2.2.2.1 q0 q1 0 0 hq2 hr2 rfl rfl rfl h1 h2 h3 h4 h5 (fun _ _ => rfl) hR.1 (by rw [mj_sum]; have := hR.2; omega) hd (fun H1 locs1 hP1 hD1 hS1 => ?_)
  exact kk p e c args s m meth below A h0 φ0 φ H1 locs1 ls S (Y.new (fun i z => mj_up_al z) (mj_W.put (e' := .inl (0, N1, .inl (va_cpy f g sp.toNatClampNeg dp.toNatClampNeg w.toNatClampNeg))) hcl hI hD hr trivial hP1 hD1) hS1)
theorem gj_copyl {idx a b N0 N1 : Nat} {f g : Nat → Int64} {sp dp w : Int32} {rest : List Value} (l1 : Cond.methodLink X.1 idx arraycopyName ∈ mj_TB) (l2 : Cond.native arraycopyName ∈ mj_TB) (l3 : Cond.static arraycopyName ∈ mj_TB) (l4 : Cond.initialized "java/lang/System" ∈ mj_TB) (hd : decode cc pc = .ok (.invokestatic idx, 3)) (ha : h a = some (.inl (1, N0, .inr (.inl f)))) (hb : h b = some (.inl (1, N1, .inr (.inl g)))) (h1 : ¬ sp < 0) (h2 : ¬ dp < 0) (h3 : ¬ w < 0) (h4 : sp.toNatClampNeg + w.toNatClampNeg ≤ N0) (h5 : dp.toNatClampNeg + w.toNatClampNeg ≤ N1) (hw : (rest.map fun v => v.category).sum ≤ 8) (hR : 1 ≤ X.2.2.1.frames ∧ 8 + (nativeFrameWords "java/lang/System" "arraycopy" 5 + 11) ≤ X.2.2.1.locals)
    (kk : gj E X cc k n (pc + 3) L rest (mj_up h b (.inl (1, N1, .inr (.inl (va_cpy f g sp.toNatClampNeg dp.toNatClampNeg w.toNatClampNeg)))))) : gj E X cc k n pc L (.int w :: .int dp :: .ref b :: .int sp :: .ref a :: rest) h := by
  intro p e c args s m meth below A h0 φ0 φ H locs ls S Y
  obtain ⟨hcl, I, hI, hP, hD⟩ := Y.2.2.2.1
  obtain ⟨q0, hq, hq2⟩ := mj_W.get (E := E) (φ := φ) hI ha
  obtain ⟨q1, hr, hr2⟩ := mj_W.get (E := E) (φ := φ) hI hb
  refine va_copyl (D := E.2.1) S.1 S.2.1 (by rw [S.2.2.1]; exact Y.2.2.2.2.2.2.1.symm) S.2.2.2.1 (S.2.2.2.2.1 _ l1) (S.2.2.2.2.1 _ l2) (S.2.2.2.2.1 _ l3) (S.2.2.2.2.1 _ l4) S.2.2.2.2.2.1.1 hP hD Y.2.2.2.2.1 q0 q1 1 1 hq2 hr2 rfl rfl rfl h1 h2 h3 h4 h5 (fun _ _ => rfl) hR.1 (by rw [mj_sum]; have := hR.2; omega) hd (fun H1 locs1 hP1 hD1 hS1 => ?_)
  exact kk p e c args s m meth below A h0 φ0 φ H1 locs1 ls S (Y.new (fun i z => mj_up_al z) (mj_W.put (e' := .inl (1, N1, .inr (.inl (va_cpy f g sp.toNatClampNeg dp.toNatClampNeg w.toNatClampNeg)))) hcl hI hD hr trivial hP1 hD1) hS1)
/-! ends -/
theorem mj_endQ {i : mj_I} {Z : Option Value → mj_H → Prop} {r : Option Value} {s : State} {A : Nat → Prop} {h0 : mj_H} {φ0 φ : Nat → Nat} {H : Heap} {locs : List Loc} {ls : Array Slot} (Y : mj_Y E X k s A h0 φ0 φ h H locs ls L) (hk : i.2.2.2.2.2.1 = 0 → k = 0) (hZ : Z r h) (args : Array Value) : ∀ t : State, t.heap = H → s.WarmedH t.vm → mj_Q i.2.2.2.2.2.1 E Z h0 φ0 A args s (.returned (r.map (mj_v φ))) t :=
  fun t ht _ => ⟨⟨r, h, φ, rfl, hZ, fun q => Y.1 (hk q), Y.2.1, Y.2.2.1, by rw [ht]; exact Y.2.2.2.1⟩, Y.2.2.2.2.1.F ht⟩
theorem gj_iret {i : mj_I} {Z : Option Value → mj_H → Prop} {v : Int32} (hr : i.2.2.2.1 = some .int) (hd : decode cc pc = .ok (.ireturn, 1)) (hk : k ≤ i.2.2.2.2.2.1 ∧ n ≤ i.2.2.2.2.2.2) (hZ : Z (some (.int v)) h) : gj E (mj_XM E i Z) cc k n pc L [.int v] h := by
  intro p e c args s m meth below A h0 φ0 φ H locs ls S Y
  refine W.widen (k := i.2.2.2.2.2.1) (n := i.2.2.2.2.2.2) hk.1 hk.2 ?_
  exact W.iret (v := v) S.1 S.2.1 (S.2.2.2.2.2.2.2.1.trans hr) (mj_endQ (i := i) (r := some (.int v)) Y (fun q => by have := hk.1; omega) hZ args) Y.2.2.2.2.1.2.2 hd S.2.2.2.2.2.2.2.2.1
theorem gj_zret {i : mj_I} {Z : Option Value → mj_H → Prop} {v : Int32} (hr : i.2.2.2.1 = some .boolean) (hv : v = 0 ∨ v = 1) (hd : decode cc pc = .ok (.ireturn, 1)) (hk : k ≤ i.2.2.2.2.2.1 ∧ n ≤ i.2.2.2.2.2.2) (hZ : Z (some (.int v)) h) : gj E (mj_XM E i Z) cc k n pc L [.int v] h := by
  intro p e c args s m meth below A h0 φ0 φ H locs ls S Y
  refine W.widen (k := i.2.2.2.2.2.1) (n := i.2.2.2.2.2.2) hk.1 hk.2 ?_
  exact W.zret (v := v) (ty := .boolean) S.1 S.2.1 (S.2.2.2.2.2.2.2.1.trans hr) (by rcases hv with rfl | rfl <;> rfl) (mj_endQ (i := i) (r := some (.int v)) Y (fun q => by have := hk.1; omega) hZ args) Y.2.2.2.2.1.2.2 hd S.2.2.2.2.2.2.2.2.1
theorem gj_lret {i : mj_I} {Z : Option Value → mj_H → Prop} {v : Int64} (hr : i.2.2.2.1 = some .long) (hd : decode cc pc = .ok (.lreturn, 1)) (hk : k ≤ i.2.2.2.2.2.1 ∧ n ≤ i.2.2.2.2.2.2) (hZ : Z (some (.long v)) h) : gj E (mj_XM E i Z) cc k n pc L [.long v] h := by
  intro p e c args s m meth below A h0 φ0 φ H locs ls S Y
  refine W.widen (k := i.2.2.2.2.2.1) (n := i.2.2.2.2.2.2) hk.1 hk.2 ?_
  exact W.lret (v := v) S.1 S.2.1 (S.2.2.2.2.2.2.2.1.trans hr) (mj_endQ (i := i) (r := some (.long v)) Y (fun q => by have := hk.1; omega) hZ args) Y.2.2.2.2.1.2.2 hd S.2.2.2.2.2.2.2.2.1
theorem gj_vret {i : mj_I} {Z : Option Value → mj_H → Prop} (hr : i.2.2.2.1 = none) (hd : decode cc pc = .ok (.return_, 1)) (hk : k ≤ i.2.2.2.2.2.1 ∧ n ≤ i.2.2.2.2.2.2) (hZ : Z none h) : gj E (mj_XM E i Z) cc k n pc L [] h := by
  intro p e c args s m meth below A h0 φ0 φ H locs ls S Y
  refine W.widen (k := i.2.2.2.2.2.1) (n := i.2.2.2.2.2.2) hk.1 hk.2 ?_
  exact W.vret S.1 S.2.1 (S.2.2.2.2.2.2.2.1.trans hr) (mj_endQ (i := i) (r := none) Y (fun q => by have := hk.1; omega) hZ args) Y.2.2.2.2.1.2.2 hd S.2.2.2.2.2.2.2.2.1
end MJC
