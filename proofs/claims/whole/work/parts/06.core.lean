/-! mj: a small machine of cells told by numbers of ours over the kit's rows -/
abbrev mj_H : Type := Nat → Option va_E
def mj_up (h : mj_H) (i : Nat) (e : va_E) : mj_H := fun j => if j = i then some e else h j
theorem mj_up_eq (h : mj_H) (i : Nat) (e : va_E) : mj_up h i e i = some e := if_pos rfl
theorem mj_up_ne {h : mj_H} {i j : Nat} {e : va_E} (q : j ≠ i) : mj_up h i e j = h j := if_neg q
theorem mj_up_al {h : mj_H} {i : Nat} {e : va_E} {j : Nat} (q : h j ≠ none) : mj_up h i e j ≠ none := by
  by_cases hj : j = i
  · subst hj; rw [mj_up_eq]; exact fun z => nomatch z
  · rw [mj_up_ne hj]; exact q
def mj_v (φ : Nat → Nat) : Value → Value
  | .ref a => .ref (φ a)
  | v => v
theorem mj_v_cat (φ : Nat → Nat) (v : Value) : (mj_v φ v).category = v.category := by cases v <;> rfl
def mj_a (φ : Nat → Nat) (x : vp_A) : vp_A := (x.1, match x.2 with
  | .inr (.inr (.inr (.inr f))) => .inr (.inr (.inr (.inr (fun j => (f j).map φ))))
  | y => y)
/-- launch, classes' numbers, array classes by kind, the strings' cells -/
abbrev mj_E : Type := Launch × va_G × (Nat → ClassId) × (Nat → Nat) × (Nat → Nat)
def mj_e (E : mj_E) (φ : Nat → Nat) : va_E → va_E
  | .inl (t, x) => .inl (E.2.2.1 t, mj_a φ x)
  | .inr (ci, fs) => .inr (ci, fs.map (mj_v φ))
def mj_c (E : mj_E) (φ : Nat → Nat) (h : mj_H) (i : Nat) : Nat × va_E := (φ i, mj_e E φ ((h i).getD (.inr (0, []))))
def mj_al (h : mj_H) (a : Nat) : Prop := h a ≠ none ∨ 1000 ≤ a
def mj_vl (h : mj_H) : Value → Prop
  | .ref a => mj_al h a
  | _ => True
def mj_ce (h : mj_H) : va_E → Prop
  | .inl (_, (_, .inr (.inr (.inr (.inr f))))) => ∀ j a, f j = some a → mj_al h a
  | .inl _ => True
  | .inr (_, fs) => ∀ v ∈ fs, mj_vl h v
def mj_ext (h : mj_H) (φ φ' : Nat → Nat) : Prop := ∀ a, mj_al h a → φ' a = φ a
def mj_W (E : mj_E) (φ : Nat → Nat) (h : mj_H) (A : Nat → Prop) (H : Heap) : Prop :=
  (∀ j e, h j = some e → mj_ce h e) ∧ ∃ I : List Nat, (∀ i, h i ≠ none ↔ i ∈ I) ∧ va_P E.2.1 vwCl (I.map (mj_c E φ h)) H ∧ va_D A (I.map (mj_c E φ h))
def mj_L (φ : Nat → Nat) (ls : Array Slot) (nL : Nat) (L : List (Option Value)) : Prop :=
  ls.size = nL ∧ lv_wf ls ∧ ∀ (i : Nat) (v : Value), L[i]? = some (some v) → ls[i]? = some (.val (mj_v φ v))
def mj_tys (E : mj_E) : List (ClassId × FieldType) := [(E.2.2.1 0, .int), (E.2.2.1 1, .long), (E.2.2.1 2, .boolean), (E.2.2.1 3, .object "IceVote$Lake")]
def mj_slen : List Nat := [4, 4, 4, 5]
def mj_sbyt : List (List Int32) := [[108, 97, 107, 101], [99, 101, 108, 108], [119, 101, 101, 107], [118, 111, 116, 101, 114]]
def mj_sref (E : mj_E) (U : State) : Prop := vk_R "IceVote$Text" 133 "lake" (E.2.2.2.1 0) U ∧ vk_R "IceVote$Text" 139 "cell" (E.2.2.2.1 1) U ∧ vk_R "IceVote$Text" 141 "week" (E.2.2.2.1 2) U ∧ vk_R "IceVote$Text" 142 "voter" (E.2.2.2.1 3) U
def mj_nest (U : State) : Prop := ∀ (own : String) (idx : Nat) (y : MethodName) (host : String), Cond.methodLinkNest own idx y host ∈ lw_tbl → va_Nw (.methodLinkNest own idx y host) U
/-- the static that holds a formatter, or null -/
def mj_Zq (E : mj_E) (A : Nat → Prop) (U : State) (H : Heap) : Prop := va_Z "jdk/internal/util/Preconditions" "SIOOBE_FORMATTER" "Ljava/util/function/BiFunction;" .null A U H ∨ va_Z "jdk/internal/util/Preconditions" "SIOOBE_FORMATTER" "Ljava/util/function/BiFunction;" (.ref (E.2.2.2.2 10)) A U H
theorem mj_Zq.moved {E : mj_E} {A : Nat → Prop} {u U : State} {H : Heap} (hvm : u.vm.Alike U.vm) (h : mj_Zq E A u H) : mj_Zq E A U H := h.elim (fun z => Or.inl (va_Z.moved hvm z)) (fun z => Or.inr (va_Z.moved hvm z))
theorem mj_Zq.kept {E : mj_E} {A : Nat → Prop} {U : State} {H H1 : Heap} (h : mj_Zq E A U H) (hq : ∀ a : Nat, a < H.size → ¬ A a → H1[a]? = H[a]?) : mj_Zq E A U H1 := Or.elim h (fun z => Or.inl (z.kept hq)) (fun z => Or.inr (z.kept hq))
theorem mj_Zq.narrow {E : mj_E} {A B : Nat → Prop} {U : State} {H : Heap} (h : mj_Zq E A U H) (hAB : ∀ q, B q → A q) : mj_Zq E B U H := Or.elim h (fun z => Or.inl (z.narrow hAB)) (fun z => Or.inr (z.narrow hAB))
/-- what stands still: the tables' classes, the strings, two statics -/
def mj_X (E : mj_E) (A : Nat → Prop) (U : State) (H : Heap) : Prop :=
  va_K E.2.1 vwCl (mj_tys E) U ∧ va_AO "IceVote$Lake" U ∧ mj_nest U ∧ mj_sref E U ∧ vk_S 4 mj_slen mj_sbyt E.2.2.2.1 E.2.2.2.2 A U H ∧ va_Z "java/lang/String" "COMPACT_STRINGS" "Z" (.int 1) A U H ∧ mj_Zq E A U H
/-- where the strings lie (0 .. 3), their bytes (10 .. 13), the formatter (20) -/
def mj_ad (E : mj_E) (i : Nat) : Nat := if i < 10 then E.2.2.2.1 i else E.2.2.2.2 (i - 10)
def mj_F (E : mj_E) (φ : Nat → Nat) : Prop := ∀ i, i < 100 → φ (1000 + i) = mj_ad E i
theorem mj_X.warm {E : mj_E} {A : Nat → Prop} {s U : State} {H : Heap} (hW : s.WarmedH U.vm) (h : mj_X E A s H) : mj_X E A U H := by
  obtain ⟨h1, h2, h3, ⟨r0, r1, r2, r3⟩, h5, h6, h7⟩ := h
  exact ⟨va_K.moved hW.alike h1, va_AO.moved hW.alike h2, fun a b c d q => va_Nw.warmM hW (h3 a b c d q), ⟨vk_R.warm hW r0, vk_R.warm hW r1, vk_R.warm hW r2, vk_R.warm hW r3⟩, vk_S.moved hW.alike h5, va_Z.moved hW.alike h6, mj_Zq.moved hW.alike h7⟩
theorem mj_X.same {E : mj_E} {A : Nat → Prop} {u U : State} {H : Heap} (hv : U.vm = u.vm) (h : mj_X E A u H) : mj_X E A U H := by
  obtain ⟨h1, h2, h3, ⟨r0, r1, r2, r3⟩, h5, h6, h7⟩ := h
  have ha : u.vm.Alike U.vm := by rw [hv]; exact Vm.Alike.refl _
  exact ⟨va_K.moved ha h1, va_AO.moved ha h2, fun a b c d q => va_Nw.same rfl hv.symm (h3 a b c d q), ⟨vk_R.same hv r0, vk_R.same hv r1, vk_R.same hv r2, vk_R.same hv r3⟩, vk_S.moved ha h5, va_Z.moved ha h6, mj_Zq.moved ha h7⟩
theorem mj_X.kept {E : mj_E} {A : Nat → Prop} {U : State} {H H1 : Heap} (h : mj_X E A U H) (hq : ∀ a : Nat, a < H.size → ¬ A a → H1[a]? = H[a]?) : mj_X E A U H1 := by
  obtain ⟨h1, h2, h3, h4, h5, h6, h7⟩ := h
  exact ⟨h1, h2, h3, h4, h5.kept hq, h6.kept hq, h7.kept hq⟩
theorem mj_X.narrow {E : mj_E} {A B : Nat → Prop} {U : State} {H : Heap} (h : mj_X E A U H) (hAB : ∀ q, B q → A q) : mj_X E B U H := by
  obtain ⟨h1, h2, h3, h4, h5, h6, h7⟩ := h
  exact ⟨h1, h2, h3, h4, h5.narrow hAB, h6.narrow hAB, h7.narrow hAB⟩
theorem mj_W.weaken {E : mj_E} {φ : Nat → Nat} {h : mj_H} {A B : Nat → Prop} {H : Heap} (w : mj_W E φ h A H) (hAB : ∀ q, A q → B q) : mj_W E φ h B H := by
  obtain ⟨hc, I, hI, hP, hD⟩ := w
  exact ⟨hc, I, hI, hP, hD.1, fun k q hk => hAB _ (hD.2 k q hk)⟩
theorem mj_W.get {E : mj_E} {φ : Nat → Nat} {h : mj_H} {i : Nat} {e : va_E} {I : List Nat} (hI : ∀ i, h i ≠ none ↔ i ∈ I) (he : h i = some e) : ∃ q0 : Nat, I[q0]? = some i ∧ (I.map (mj_c E φ h))[q0]? = some (φ i, mj_e E φ e) := by
  obtain ⟨q0, hq⟩ := List.getElem?_of_mem ((hI i).mp (by rw [he]; exact fun z => nomatch z))
  refine ⟨q0, hq, ?_⟩
  rw [List.getElem?_map, hq]
  simp [mj_c, he]
theorem mj_ce_up {h : mj_H} {i : Nat} {e' e : va_E} (hc : mj_ce h e) : mj_ce (mj_up h i e') e := by
  have hal : ∀ a, mj_al h a → mj_al (mj_up h i e') a := fun a q => q.elim (fun z => Or.inl (mj_up_al z)) Or.inr
  have hvl : ∀ v, mj_vl h v → mj_vl (mj_up h i e') v := fun v q => by cases v <;> first | exact hal _ q | trivial
  match e, hc with
  | .inl (_, (_, .inr (.inr (.inr (.inr f))))), hc => exact fun j a q => hal a (hc j a q)
  | .inl (_, (_, .inl _)), _ => trivial
  | .inl (_, (_, .inr (.inl _))), _ => trivial
  | .inl (_, (_, .inr (.inr (.inl _)))), _ => trivial
  | .inl (_, (_, .inr (.inr (.inr (.inl _))))), _ => trivial
  | .inr (_, fs), hc => exact fun v q => hvl v (hc v q)
theorem mj_W.put {E : mj_E} {φ : Nat → Nat} {h : mj_H} {A : Nat → Prop} {H1 : Heap} {i q0 : Nat} {e' : va_E} {I : List Nat} (hcl : ∀ j e, h j = some e → mj_ce h e) (hI : ∀ i, h i ≠ none ↔ i ∈ I) (hD : va_D A (I.map (mj_c E φ h))) (hq : I[q0]? = some i) (hce : mj_ce h e')
    (hP1 : va_P E.2.1 vwCl ((I.map (mj_c E φ h)).set q0 (φ i, mj_e E φ e')) H1) (hD1 : va_D A ((I.map (mj_c E φ h)).set q0 (φ i, mj_e E φ e'))) : mj_W E φ (mj_up h i e') A H1 := by
  have hal : h i ≠ none := (hI i).mpr (List.mem_of_getElem? hq)
  have hs : (I.map (mj_c E φ h)).set q0 (φ i, mj_e E φ e') = I.map (mj_c E φ (mj_up h i e')) := by
    refine List.ext_getElem? fun k => ?_
    rw [List.getElem?_set, List.getElem?_map, List.getElem?_map]
    by_cases hk : q0 = k
    · subst hk
      have hl : q0 < (I.map (mj_c E φ h)).length := by rw [List.length_map]; exact (List.getElem?_eq_some_iff.mp hq).1
      rw [if_pos rfl, if_pos hl, hq]
      simp [mj_c, mj_up_eq]
    · rw [if_neg hk]
      cases hj : I[k]? with
      | none => rfl
      | some j =>
        have hji : j ≠ i := by
          intro z
          subst z
          exact hk (hD.1 q0 k (mj_c E φ h j) (mj_c E φ h j) (by rw [List.getElem?_map, hq]; rfl) (by rw [List.getElem?_map, hj]; rfl) rfl)
        show some (mj_c E φ h j) = some (mj_c E φ (mj_up h i e') j)
        simp [mj_c, mj_up_ne hji]
  rw [hs] at hP1 hD1
  refine ⟨fun j e he => ?_, I, fun j => ?_, hP1, hD1⟩
  · by_cases hj : j = i
    · subst hj
      rw [mj_up_eq] at he
      cases he
      exact mj_ce_up hce
    · rw [mj_up_ne hj] at he
      exact mj_ce_up (hcl j e he)
  · by_cases hj : j = i
    · subst hj
      rw [mj_up_eq]
      exact ⟨fun _ => (hI j).mp hal, fun _ => fun z => nomatch z⟩
    · rw [mj_up_ne hj]
      exact hI j
theorem mj_v_ext {h : mj_H} {φ φ' : Nat → Nat} (hx : mj_ext h φ φ') {v : Value} (hv : mj_vl h v) : mj_v φ' v = mj_v φ v := by
  cases v <;> first | rfl | exact congrArg Value.ref (hx _ hv)
theorem mj_e_ext {E : mj_E} {h : mj_H} {φ φ' : Nat → Nat} (hx : mj_ext h φ φ') {e : va_E} (hc : mj_ce h e) : mj_e E φ' e = mj_e E φ e := by
  match e, hc with
  | .inl (_, (_, .inr (.inr (.inr (.inr f))))), hc =>
    have : (fun j => (f j).map φ') = (fun j => (f j).map φ) := by
      funext j
      cases hf : f j with
      | none => rfl
      | some a => exact congrArg some (hx a (hc j a hf))
    simp [mj_e, mj_a, this]
  | .inl (_, (_, .inl _)), _ => rfl
  | .inl (_, (_, .inr (.inl _))), _ => rfl
  | .inl (_, (_, .inr (.inr (.inl _)))), _ => rfl
  | .inl (_, (_, .inr (.inr (.inr (.inl _))))), _ => rfl
  | .inr (ci, fs), hc =>
    have : fs.map (mj_v φ') = fs.map (mj_v φ) := List.map_congr_left fun v hv => mj_v_ext hx (hc v hv)
    simp [mj_e, this]
/-- a new cell, at a number that is free -/
theorem mj_W.push {E : mj_E} {φ : Nat → Nat} {h : mj_H} {A : Nat → Prop} {H1 : Heap} {i q : Nat} {e' : va_E} {I : List Nat} (hcl : ∀ j e, h j = some e → mj_ce h e) (hI : ∀ i, h i ≠ none ↔ i ∈ I) (hn : h i = none) (hi : i < 1000) (hce : mj_ce h e')
    (hP1 : va_P E.2.1 vwCl (I.map (mj_c E φ h) ++ [(q, mj_e E (va_up φ i q) e')]) H1) (hD1 : va_D A (I.map (mj_c E φ h) ++ [(q, mj_e E (va_up φ i q) e')])) : mj_W E (va_up φ i q) (mj_up h i e') A H1 ∧ mj_ext h φ (va_up φ i q) := by
  have hx : mj_ext h φ (va_up φ i q) := by
    intro a ha
    have : a ≠ i := by
      intro z; subst z
      rcases ha with z | z
      · exact z hn
      · omega
    simp [va_up, this]
  have hs : I.map (mj_c E φ h) ++ [(q, mj_e E (va_up φ i q) e')] = (I ++ [i]).map (mj_c E (va_up φ i q) (mj_up h i e')) := by
    rw [List.map_append]
    congr 1
    · refine List.map_congr_left fun j hj => ?_
      have hjn := (hI j).mpr hj
      have hji : j ≠ i := fun z => hjn (by rw [z]; exact hn)
      unfold mj_c
      rw [mj_up_ne hji, hx j (Or.inl hjn)]
      cases he : h j with
      | none => exact absurd he hjn
      | some e => exact congrArg (Prod.mk _) (mj_e_ext hx (hcl j e he)).symm
    · simp [mj_c, mj_up_eq, va_up]
  rw [hs] at hP1 hD1
  refine ⟨⟨fun j e he => ?_, I ++ [i], fun j => ?_, hP1, hD1⟩, hx⟩
  · by_cases hj : j = i
    · subst hj
      rw [mj_up_eq] at he
      cases he
      exact mj_ce_up hce
    · rw [mj_up_ne hj] at he
      exact mj_ce_up (hcl j e he)
  · by_cases hj : j = i
    · subst hj
      rw [mj_up_eq]
      exact ⟨fun _ => List.mem_append_right _ List.mem_cons_self, fun _ => fun z => nomatch z⟩
    · rw [mj_up_ne hj, hI j, List.mem_append]
      exact ⟨Or.inl, fun z => z.elim id (fun z => absurd (List.mem_singleton.mp z) hj)⟩
theorem mj_L.ext {h : mj_H} {φ φ' : Nat → Nat} {ls : Array Slot} {nL : Nat} {L : List (Option Value)} (hx : mj_ext h φ φ') (hv : ∀ (i : Nat) (v : Value), L[i]? = some (some v) → mj_vl h v) (hl : mj_L φ ls nL L) : mj_L φ' ls nL L :=
  ⟨hl.1, hl.2.1, fun i v q => by rw [mj_v_ext hx (hv i v q)]; exact hl.2.2 i v q⟩
/-! locals: stores -/
def mj_k2 : Option Value → Option Value
  | some (.long _) => none
  | some (.double _) => none
  | x => x
def mj_s1 (L : List (Option Value)) (i : Nat) (v : Value) : List (Option Value) := match i with
  | 0 => L.set 0 (some v)
  | j + 1 => (L.modify j mj_k2).set (j + 1) (some v)
def mj_s2 (L : List (Option Value)) (i : Nat) (v : Value) : List (Option Value) := (mj_s1 L i v).set (i + 1) none
def mj_as (φ : Nat → Nat) (L : List (Option Value)) : List (Nat × Value) := (List.range L.length).filterMap (fun i => (L[i]?.join).map (fun v => (i, mj_v φ v)))
theorem mj_as_mem {φ : Nat → Nat} {L : List (Option Value)} {q : Nat × Value} : q ∈ mj_as φ L ↔ ∃ v, L[q.1]? = some (some v) ∧ q.2 = mj_v φ v := by
  unfold mj_as
  rw [List.mem_filterMap]
  constructor
  · rintro ⟨i, -, h⟩
    cases hL : L[i]? with
    | none => rw [hL] at h; cases h
    | some o =>
      cases o with
      | none => rw [hL] at h; cases h
      | some v => rw [hL] at h; cases h; exact ⟨v, hL, rfl⟩
  · rintro ⟨v, hL, he⟩
    refine ⟨q.1, List.mem_range.mpr (List.getElem?_eq_some_iff.mp hL).1, ?_⟩
    rw [hL]
    show some (q.1, mj_v φ v) = some q
    rw [← he]
theorem mj_L.has {φ : Nat → Nat} {ls : Array Slot} {nL : Nat} {L : List (Option Value)} (hl : mj_L φ ls nL L) : lv_has ls nL (mj_as φ L) :=
  ⟨hl.1, hl.2.1, fun q hq => by obtain ⟨v, h1, h2⟩ := mj_as_mem.mp hq; rw [h2]; exact hl.2.2 _ v h1⟩
theorem mj_s1_get {L : List (Option Value)} {i j : Nat} {v w : Value} (h : (mj_s1 L i v)[j]? = some (some w)) : (j = i ∧ w = v) ∨ (j ≠ i ∧ L[j]? = some (some w) ∧ ¬ (j + 1 = i ∧ w.category = 2)) := by
  cases i with
  | zero =>
    unfold mj_s1 at h
    dsimp only at h
    rw [List.getElem?_set] at h
    by_cases hj : 0 = j
    · subst hj
      rw [if_pos rfl] at h
      split at h
      · cases h; exact Or.inl ⟨rfl, rfl⟩
      · cases h
    · rw [if_neg hj] at h
      exact Or.inr ⟨fun z => hj z.symm, h, fun z => by omega⟩
  | succ i =>
    unfold mj_s1 at h
    dsimp only at h
    rw [List.getElem?_set] at h
    by_cases hj : i + 1 = j
    · subst hj
      rw [if_pos rfl] at h
      split at h
      · cases h; exact Or.inl ⟨rfl, rfl⟩
      · cases h
    · rw [if_neg hj] at h
      rw [List.getElem?_modify] at h
      by_cases hij : i = j
      · subst hij
        cases hL : L[i]? with
        | none => rw [hL] at h; simp at h
        | some o =>
          rw [hL] at h
          simp only [Option.map_eq_map, Option.map_some, if_true] at h
          have h2 : mj_k2 o = some w := Option.some.inj h
          refine Or.inr ⟨fun z => by omega, ?_, ?_⟩
          · unfold mj_k2 at h2
            split at h2
            · cases h2
            · cases h2
            · rw [h2]
          · rintro ⟨-, hc⟩
            unfold mj_k2 at h2
            split at h2
            · cases h2
            · cases h2
            · rename_i z1 z2
              subst h2
              cases w with
              | long x => exact z1 x rfl
              | double x => exact z2 x rfl
              | _ => cases hc
      · have hid : (fun a : Option Value => if i = j then mj_k2 a else a) = id := by funext a; rw [if_neg hij]; rfl
        rw [hid] at h
        refine Or.inr ⟨fun z => hj z.symm, by simpa using h, fun z => hij (by omega)⟩
theorem mj_L.put1 {φ : Nat → Nat} {ls' : Array Slot} {nL i : Nat} {L : List (Option Value)} {v : Value} (h : lv_has ls' nL ((i, mj_v φ v) :: (mj_as φ L).filter (fun q => !(q.1 == i) && !(q.1 + 1 == i && q.2.category == 2)))) : mj_L φ ls' nL (mj_s1 L i v) := by
  refine ⟨h.1, h.2.1, fun j w hj => ?_⟩
  rcases mj_s1_get hj with ⟨rfl, rfl⟩ | ⟨h1, h2, h3⟩
  · exact h.2.2 _ List.mem_cons_self
  · refine h.2.2 (j, mj_v φ w) (List.mem_cons_of_mem _ (List.mem_filter.mpr ⟨mj_as_mem.mpr ⟨w, h2, rfl⟩, ?_⟩))
    simp only [mj_v_cat, Bool.and_eq_true, Bool.not_eq_true', beq_eq_false_iff_ne, ne_eq, Bool.and_eq_false_iff]
    refine ⟨h1, ?_⟩
    by_cases h4 : j + 1 = i
    · exact Or.inr fun z => h3 ⟨h4, z⟩
    · exact Or.inl h4
theorem mj_L.put2 {φ : Nat → Nat} {ls' : Array Slot} {nL i : Nat} {L : List (Option Value)} {v : Value} (h : lv_has ls' nL ((i, mj_v φ v) :: (mj_as φ L).filter (fun q => !(q.1 == i) && (!(q.1 == i + 1) && !(q.1 + 1 == i && q.2.category == 2))))) : mj_L φ ls' nL (mj_s2 L i v) := by
  refine ⟨h.1, h.2.1, fun j w hj => ?_⟩
  unfold mj_s2 at hj
  rw [List.getElem?_set] at hj
  by_cases h0 : i + 1 = j
  · rw [if_pos h0] at hj
    split at hj <;> cases hj
  rw [if_neg h0] at hj
  rcases mj_s1_get hj with ⟨rfl, rfl⟩ | ⟨h1, h2, h3⟩
  · exact h.2.2 _ List.mem_cons_self
  · refine h.2.2 (j, mj_v φ w) (List.mem_cons_of_mem _ (List.mem_filter.mpr ⟨mj_as_mem.mpr ⟨w, h2, rfl⟩, ?_⟩))
    simp only [mj_v_cat, Bool.and_eq_true, Bool.not_eq_true', beq_eq_false_iff_ne, ne_eq, Bool.and_eq_false_iff]
    refine ⟨h1, fun z => h0 z.symm, ?_⟩
    by_cases h4 : j + 1 = i
    · exact Or.inr fun z => h3 ⟨h4, z⟩
    · exact Or.inl h4
/-! frames: gj .. pc L st h: from here the frame comes to its end as X says -/
/-- arguments, start, method's number and record, frames below, what may be written, the cells and the numbers at the start -/
abbrev mj_T : Type := Array Value × State × MethodId × Method × List Frame × (Nat → Prop) × mj_H × (Nat → Nat)
/-- class, locals, room, what is known of the frame, where it must come -/
abbrev mj_XT : Type := String × Nat × Room × (mj_T → Prop) × (mj_T → State → Prop)
def mj_S (E : mj_E) (X : mj_XT) (cc : ByteArray) (p : Program) (c : Code) (args : Array Value) (s : State) (m : MethodId) (meth : Method) (below : List Frame) (A : Nat → Prop) (h0 : mj_H) (φ0 : Nat → Nat) : Prop :=
  p.tables.exec = Jvm.exec ∧ c.code = cc ∧ c.maxLocals = X.2.1 ∧ s.vm.findClass X.1 = some m.cls ∧ (∀ w ∈ mj_TB, w.before args s = true) ∧ mj_X E A s s.heap ∧ (∀ q, s.heap.size ≤ q → A q) ∧ X.2.2.2.1 (args, s, m, meth, below, A, h0, φ0)
def mj_Y (E : mj_E) (X : mj_XT) (k : Nat) (s : State) (A : Nat → Prop) (h0 : mj_H) (φ0 φ : Nat → Nat) (h : mj_H) (H : Heap) (locs : List Loc) (ls : Array Slot) (L : List (Option Value)) : Prop :=
  (k = 0 → φ = φ0) ∧ mj_ext h0 φ0 φ ∧ (∀ i, h0 i ≠ none → h i ≠ none) ∧ mj_W E φ h A H ∧ va_S A s.heap H locs ∧ mj_F E φ ∧ mj_L φ ls X.2.1 L
def gj (E : mj_E) (X : mj_XT) (cc : ByteArray) (k n pc : Nat) (L : List (Option Value)) (st : List Value) (h : mj_H) : Prop :=
  ∀ (p : Program) (e : Env) (c : Code) (args : Array Value) (s : State) (m : MethodId) (meth : Method) (below : List Frame) (A : Nat → Prop) (h0 : mj_H) (φ0 φ : Nat → Nat) (H : Heap) (locs : List Loc) (ls : Array Slot),
    mj_S E X cc p c args s m meth below A h0 φ0 → mj_Y E X k s A h0 φ0 φ h H locs ls L →
      W p E.1 e X.2.2.1 s m args below meth c H locs k n (X.2.2.2.2 (args, s, m, meth, below, A, h0, φ0)) (F0 m pc ls (st.map (mj_v φ)))
theorem mj_Y.loc {E : mj_E} {X : mj_XT} {k : Nat} {s : State} {A : Nat → Prop} {h0 : mj_H} {φ0 φ : Nat → Nat} {h : mj_H} {H : Heap} {locs : List Loc} {ls : Array Slot} {L : List (Option Value)} (Y : mj_Y E X k s A h0 φ0 φ h H locs ls L) {ls' : Array Slot} {L' : List (Option Value)} (hl : mj_L φ ls' X.2.1 L') : mj_Y E X k s A h0 φ0 φ h H locs ls' L' :=
  ⟨Y.1, Y.2.1, Y.2.2.1, Y.2.2.2.1, Y.2.2.2.2.1, Y.2.2.2.2.2.1, hl⟩
section MJ
variable {E : mj_E} {X : mj_XT} {cc : ByteArray} {k n pc : Nat} {L : List (Option Value)} {st : List Value} {h : mj_H}
theorem gj_iconst {d : Int} {v : Int32} (hd : decode cc pc = .ok (.iconst d, 1)) (hv : Int32.ofInt d = v) (kk : gj E X cc k n (pc + 1) L (.int v :: st) h) : gj E X cc k n pc L (st) h :=
  fun p e c args s m meth below A h0 φ0 φ H locs ls S Y => lv_iconst S.1 S.2.1 hd hv (kk p e c args s m meth below A h0 φ0 φ H locs ls S Y)
theorem gj_bipush {d : Int} {v : Int32} (hd : decode cc pc = .ok (.bipush d, 2)) (hv : (Int8.ofInt d).toInt32 = v) (kk : gj E X cc k n (pc + 2) L (.int v :: st) h) : gj E X cc k n pc L (st) h :=
  fun p e c args s m meth below A h0 φ0 φ H locs ls S Y => lv_bipush S.1 S.2.1 hd hv (kk p e c args s m meth below A h0 φ0 φ H locs ls S Y)
theorem gj_sipush {d : Int} {v : Int32} (hd : decode cc pc = .ok (.sipush d, 3)) (hv : (Int16.ofInt d).toInt32 = v) (kk : gj E X cc k n (pc + 3) L (.int v :: st) h) : gj E X cc k n pc L (st) h :=
  fun p e c args s m meth below A h0 φ0 φ H locs ls S Y => lv_sipush S.1 S.2.1 hd hv (kk p e c args s m meth below A h0 φ0 φ H locs ls S Y)
theorem gj_lconst {d : Fin 2} {v : Int64} (hd : decode cc pc = .ok (.lconst d, 1)) (hv : Int64.ofNat (d : Nat) = v) (kk : gj E X cc k n (pc + 1) L (.long v :: st) h) : gj E X cc k n pc L (st) h :=
  fun p e c args s m meth below A h0 φ0 φ H locs ls S Y => lv_lconst S.1 S.2.1 hd hv (kk p e c args s m meth below A h0 φ0 φ H locs ls S Y)
theorem gj_iadd {x y : Int32} (hd : decode cc pc = .ok (.iadd, 1)) (kk : gj E X cc k n (pc + 1) L (.int (x + y) :: st) h) : gj E X cc k n pc L (.int y :: .int x :: st) h :=
  fun p e c args s m meth below A h0 φ0 φ H locs ls S Y => lv_iadd S.1 S.2.1 hd (kk p e c args s m meth below A h0 φ0 φ H locs ls S Y)
theorem gj_isub {x y : Int32} (hd : decode cc pc = .ok (.isub, 1)) (kk : gj E X cc k n (pc + 1) L (.int (x - y) :: st) h) : gj E X cc k n pc L (.int y :: .int x :: st) h :=
  fun p e c args s m meth below A h0 φ0 φ H locs ls S Y => lv_isub S.1 S.2.1 hd (kk p e c args s m meth below A h0 φ0 φ H locs ls S Y)
theorem gj_imul {x y : Int32} (hd : decode cc pc = .ok (.imul, 1)) (kk : gj E X cc k n (pc + 1) L (.int (x * y) :: st) h) : gj E X cc k n pc L (.int y :: .int x :: st) h :=
  fun p e c args s m meth below A h0 φ0 φ H locs ls S Y => lv_imul S.1 S.2.1 hd (kk p e c args s m meth below A h0 φ0 φ H locs ls S Y)
theorem gj_iand {x y : Int32} (hd : decode cc pc = .ok (.iand, 1)) (kk : gj E X cc k n (pc + 1) L (.int (x &&& y) :: st) h) : gj E X cc k n pc L (.int y :: .int x :: st) h :=
  fun p e c args s m meth below A h0 φ0 φ H locs ls S Y => lv_iand S.1 S.2.1 hd (kk p e c args s m meth below A h0 φ0 φ H locs ls S Y)
theorem gj_ior {x y : Int32} (hd : decode cc pc = .ok (.ior, 1)) (kk : gj E X cc k n (pc + 1) L (.int (x ||| y) :: st) h) : gj E X cc k n pc L (.int y :: .int x :: st) h :=
  fun p e c args s m meth below A h0 φ0 φ H locs ls S Y => lv_ior S.1 S.2.1 hd (kk p e c args s m meth below A h0 φ0 φ H locs ls S Y)
theorem gj_ixor {x y : Int32} (hd : decode cc pc = .ok (.ixor, 1)) (kk : gj E X cc k n (pc + 1) L (.int (x ^^^ y) :: st) h) : gj E X cc k n pc L (.int y :: .int x :: st) h :=
  fun p e c args s m meth below A h0 φ0 φ H locs ls S Y => lv_ixor S.1 S.2.1 hd (kk p e c args s m meth below A h0 φ0 φ H locs ls S Y)
theorem gj_ishl {x y : Int32} (hd : decode cc pc = .ok (.ishl, 1)) (kk : gj E X cc k n (pc + 1) L (.int (x <<< (y &&& 31)) :: st) h) : gj E X cc k n pc L (.int y :: .int x :: st) h :=
  fun p e c args s m meth below A h0 φ0 φ H locs ls S Y => lv_ishl S.1 S.2.1 hd (kk p e c args s m meth below A h0 φ0 φ H locs ls S Y)
theorem gj_ishr {x y : Int32} (hd : decode cc pc = .ok (.ishr, 1)) (kk : gj E X cc k n (pc + 1) L (.int (x >>> (y &&& 31)) :: st) h) : gj E X cc k n pc L (.int y :: .int x :: st) h :=
  fun p e c args s m meth below A h0 φ0 φ H locs ls S Y => lv_ishr S.1 S.2.1 hd (kk p e c args s m meth below A h0 φ0 φ H locs ls S Y)
theorem gj_ladd {x y : Int64} (hd : decode cc pc = .ok (.ladd, 1)) (kk : gj E X cc k n (pc + 1) L (.long (x + y) :: st) h) : gj E X cc k n pc L (.long y :: .long x :: st) h :=
  fun p e c args s m meth below A h0 φ0 φ H locs ls S Y => lv_ladd S.1 S.2.1 hd (kk p e c args s m meth below A h0 φ0 φ H locs ls S Y)
theorem gj_lmul {x y : Int64} (hd : decode cc pc = .ok (.lmul, 1)) (kk : gj E X cc k n (pc + 1) L (.long (x * y) :: st) h) : gj E X cc k n pc L (.long y :: .long x :: st) h :=
  fun p e c args s m meth below A h0 φ0 φ H locs ls S Y => lv_lmul S.1 S.2.1 hd (kk p e c args s m meth below A h0 φ0 φ H locs ls S Y)
theorem gj_idiv {x y : Int32} (hd : decode cc pc = .ok (.idiv, 1)) (hne : ¬ y = 0) (kk : gj E X cc k n (pc + 1) L (.int (x / y) :: st) h) : gj E X cc k n pc L (.int y :: .int x :: st) h :=
  fun p e c args s m meth below A h0 φ0 φ H locs ls S Y => lv_idiv S.1 S.2.1 hd hne (kk p e c args s m meth below A h0 φ0 φ H locs ls S Y)
theorem gj_irem {x y : Int32} (hd : decode cc pc = .ok (.irem, 1)) (hne : ¬ y = 0) (kk : gj E X cc k n (pc + 1) L (.int (x - x / y * y) :: st) h) : gj E X cc k n pc L (.int y :: .int x :: st) h :=
  fun p e c args s m meth below A h0 φ0 φ H locs ls S Y => lv_irem S.1 S.2.1 hd hne (kk p e c args s m meth below A h0 φ0 φ H locs ls S Y)
theorem gj_ldiv {x y : Int64} (hd : decode cc pc = .ok (.ldiv, 1)) (hne : ¬ y = 0) (kk : gj E X cc k n (pc + 1) L (.long (x / y) :: st) h) : gj E X cc k n pc L (.long y :: .long x :: st) h :=
  fun p e c args s m meth below A h0 φ0 φ H locs ls S Y => lv_ldiv S.1 S.2.1 hd hne (kk p e c args s m meth below A h0 φ0 φ H locs ls S Y)
theorem gj_lrem {x y : Int64} (hd : decode cc pc = .ok (.lrem, 1)) (hne : ¬ y = 0) (kk : gj E X cc k n (pc + 1) L (.long (x - x / y * y) :: st) h) : gj E X cc k n pc L (.long y :: .long x :: st) h :=
  fun p e c args s m meth below A h0 φ0 φ H locs ls S Y => lv_lrem S.1 S.2.1 hd hne (kk p e c args s m meth below A h0 φ0 φ H locs ls S Y)
theorem gj_i2l {x : Int32} {v : Int64} (hd : decode cc pc = .ok (.i2l, 1)) (hv : x.toInt64 = v) (kk : gj E X cc k n (pc + 1) L (.long v :: st) h) : gj E X cc k n pc L (.int x :: st) h :=
  fun p e c args s m meth below A h0 φ0 φ H locs ls S Y => lv_i2l S.1 S.2.1 hd hv (kk p e c args s m meth below A h0 φ0 φ H locs ls S Y)
theorem gj_l2i {x : Int64} {v : Int32} (hd : decode cc pc = .ok (.l2i, 1)) (hv : x.toInt32 = v) (kk : gj E X cc k n (pc + 1) L (.int v :: st) h) : gj E X cc k n pc L (.long x :: st) h :=
  fun p e c args s m meth below A h0 φ0 φ H locs ls S Y => lv_l2i S.1 S.2.1 hd hv (kk p e c args s m meth below A h0 φ0 φ H locs ls S Y)
theorem gj_i2c {x : Int32} {v : Int32} (hd : decode cc pc = .ok (.i2c, 1)) (hv : (x.toUInt32 % 65536).toInt32 = v) (kk : gj E X cc k n (pc + 1) L (.int v :: st) h) : gj E X cc k n pc L (.int x :: st) h :=
  fun p e c args s m meth below A h0 φ0 φ H locs ls S Y => lv_i2c S.1 S.2.1 hd hv (kk p e c args s m meth below A h0 φ0 φ H locs ls S Y)
theorem gj_iushr {x y v : Int32} (hd : decode cc pc = .ok (.iushr, 1)) (hv : (x.toUInt32 >>> (y.toUInt32 &&& Int32.toUInt32 31)).toInt32 = v) (kk : gj E X cc k n (pc + 1) L (.int v :: st) h) : gj E X cc k n pc L (.int y :: .int x :: st) h :=
  fun p e c args s m meth below A h0 φ0 φ H locs ls S Y => lv_iushr S.1 S.2.1 hd hv (kk p e c args s m meth below A h0 φ0 φ H locs ls S Y)
theorem gj_lcmp {x y : Int64} (hd : decode cc pc = .ok (.lcmp, 1)) (kk : gj E X cc k n (pc + 1) L (.int (lg_cmp x y) :: st) h) : gj E X cc k n pc L (.long y :: .long x :: st) h :=
  fun p e c args s m meth below A h0 φ0 φ H locs ls S Y => W.lcmp S.1 S.2.1 hd (kk p e c args s m meth below A h0 φ0 φ H locs ls S Y)
theorem gj_dup {v : Value} (hd : decode cc pc = .ok (.dup, 1)) (hv : v.category = 1) (kk : gj E X cc k n (pc + 1) L (v :: v :: st) h) : gj E X cc k n pc L (v :: st) h :=
  fun p e c args s m meth below A h0 φ0 φ H locs ls S Y => lv_dup S.1 S.2.1 hd ((mj_v_cat _ _).trans hv) (kk p e c args s m meth below A h0 φ0 φ H locs ls S Y)
theorem gj_pop {v : Value} (hd : decode cc pc = .ok (.pop, 1)) (hv : v.category = 1) (kk : gj E X cc k n (pc + 1) L (st) h) : gj E X cc k n pc L (v :: st) h :=
  fun p e c args s m meth below A h0 φ0 φ H locs ls S Y => lv_pop S.1 S.2.1 hd ((mj_v_cat _ _).trans hv) (kk p e c args s m meth below A h0 φ0 φ H locs ls S Y)
theorem gj_dup2 {v w : Value} (hd : decode cc pc = .ok (.dup2, 1)) (hv : v.category = 1) (hw : w.category = 1) (kk : gj E X cc k n (pc + 1) L (v :: w :: v :: w :: st) h) : gj E X cc k n pc L (v :: w :: st) h :=
  fun p e c args s m meth below A h0 φ0 φ H locs ls S Y => lv_dup2_11 S.1 S.2.1 hd ((mj_v_cat _ _).trans hv) ((mj_v_cat _ _).trans hw) (kk p e c args s m meth below A h0 φ0 φ H locs ls S Y)
theorem gj_if_eq {x : Int32} {off : Int} {tgt : Nat} (hd : decode cc pc = .ok (.ifCond .eq off, 3)) (ht : (pc : Int) + off = (tgt : Int)) (kt : x = 0 → gj E X cc k n tgt L st h) (kf : ¬ x = 0 → gj E X cc k n (pc + 3) L st h) : gj E X cc k n pc L (.int x :: st) h :=
  fun p e c args s m meth below A h0 φ0 φ H locs ls S Y => lv_if_eq S.1 S.2.1 hd ht (fun z => kt z p e c args s m meth below A h0 φ0 φ H locs ls S Y) (fun z => kf z p e c args s m meth below A h0 φ0 φ H locs ls S Y)
theorem gj_icmp_eq {x y : Int32} {off : Int} {tgt : Nat} (hd : decode cc pc = .ok (.if_icmp .eq off, 3)) (ht : (pc : Int) + off = (tgt : Int)) (kt : x = y → gj E X cc k n tgt L st h) (kf : ¬ x = y → gj E X cc k n (pc + 3) L st h) : gj E X cc k n pc L (.int y :: .int x :: st) h :=
  fun p e c args s m meth below A h0 φ0 φ H locs ls S Y => lv_icmp_eq S.1 S.2.1 hd ht (fun z => kt z p e c args s m meth below A h0 φ0 φ H locs ls S Y) (fun z => kf z p e c args s m meth below A h0 φ0 φ H locs ls S Y)
theorem gj_if_ne {x : Int32} {off : Int} {tgt : Nat} (hd : decode cc pc = .ok (.ifCond .ne off, 3)) (ht : (pc : Int) + off = (tgt : Int)) (kt : ¬ x = 0 → gj E X cc k n tgt L st h) (kf : x = 0 → gj E X cc k n (pc + 3) L st h) : gj E X cc k n pc L (.int x :: st) h :=
  fun p e c args s m meth below A h0 φ0 φ H locs ls S Y => lv_if_ne S.1 S.2.1 hd ht (fun z => kt z p e c args s m meth below A h0 φ0 φ H locs ls S Y) (fun z => kf z p e c args s m meth below A h0 φ0 φ H locs ls S Y)
theorem gj_icmp_ne {x y : Int32} {off : Int} {tgt : Nat} (hd : decode cc pc = .ok (.if_icmp .ne off, 3)) (ht : (pc : Int) + off = (tgt : Int)) (kt : ¬ x = y → gj E X cc k n tgt L st h) (kf : x = y → gj E X cc k n (pc + 3) L st h) : gj E X cc k n pc L (.int y :: .int x :: st) h :=
  fun p e c args s m meth below A h0 φ0 φ H locs ls S Y => lv_icmp_ne S.1 S.2.1 hd ht (fun z => kt z p e c args s m meth below A h0 φ0 φ H locs ls S Y) (fun z => kf z p e c args s m meth below A h0 φ0 φ H locs ls S Y)
theorem gj_if_lt {x : Int32} {off : Int} {tgt : Nat} (hd : decode cc pc = .ok (.ifCond .lt off, 3)) (ht : (pc : Int) + off = (tgt : Int)) (kt : x < 0 → gj E X cc k n tgt L st h) (kf : ¬ x < 0 → gj E X cc k n (pc + 3) L st h) : gj E X cc k n pc L (.int x :: st) h :=
  fun p e c args s m meth below A h0 φ0 φ H locs ls S Y => lv_if_lt S.1 S.2.1 hd ht (fun z => kt z p e c args s m meth below A h0 φ0 φ H locs ls S Y) (fun z => kf z p e c args s m meth below A h0 φ0 φ H locs ls S Y)
theorem gj_icmp_lt {x y : Int32} {off : Int} {tgt : Nat} (hd : decode cc pc = .ok (.if_icmp .lt off, 3)) (ht : (pc : Int) + off = (tgt : Int)) (kt : x < y → gj E X cc k n tgt L st h) (kf : ¬ x < y → gj E X cc k n (pc + 3) L st h) : gj E X cc k n pc L (.int y :: .int x :: st) h :=
  fun p e c args s m meth below A h0 φ0 φ H locs ls S Y => lv_icmp_lt S.1 S.2.1 hd ht (fun z => kt z p e c args s m meth below A h0 φ0 φ H locs ls S Y) (fun z => kf z p e c args s m meth below A h0 φ0 φ H locs ls S Y)
theorem gj_if_ge {x : Int32} {off : Int} {tgt : Nat} (hd : decode cc pc = .ok (.ifCond .ge off, 3)) (ht : (pc : Int) + off = (tgt : Int)) (kt : 0 ≤ x → gj E X cc k n tgt L st h) (kf : ¬ 0 ≤ x → gj E X cc k n (pc + 3) L st h) : gj E X cc k n pc L (.int x :: st) h :=
  fun p e c args s m meth below A h0 φ0 φ H locs ls S Y => lv_if_ge S.1 S.2.1 hd ht (fun z => kt z p e c args s m meth below A h0 φ0 φ H locs ls S Y) (fun z => kf z p e c args s m meth below A h0 φ0 φ H locs ls S Y)
theorem gj_icmp_ge {x y : Int32} {off : Int} {tgt : Nat} (hd : decode cc pc = .ok (.if_icmp .ge off, 3)) (ht : (pc : Int) + off = (tgt : Int)) (kt : y ≤ x → gj E X cc k n tgt L st h) (kf : ¬ y ≤ x → gj E X cc k n (pc + 3) L st h) : gj E X cc k n pc L (.int y :: .int x :: st) h :=
  fun p e c args s m meth below A h0 φ0 φ H locs ls S Y => lv_icmp_ge S.1 S.2.1 hd ht (fun z => kt z p e c args s m meth below A h0 φ0 φ H locs ls S Y) (fun z => kf z p e c args s m meth below A h0 φ0 φ H locs ls S Y)
theorem gj_if_gt {x : Int32} {off : Int} {tgt : Nat} (hd : decode cc pc = .ok (.ifCond .gt off, 3)) (ht : (pc : Int) + off = (tgt : Int)) (kt : 0 < x → gj E X cc k n tgt L st h) (kf : ¬ 0 < x → gj E X cc k n (pc + 3) L st h) : gj E X cc k n pc L (.int x :: st) h :=
  fun p e c args s m meth below A h0 φ0 φ H locs ls S Y => lv_if_gt S.1 S.2.1 hd ht (fun z => kt z p e c args s m meth below A h0 φ0 φ H locs ls S Y) (fun z => kf z p e c args s m meth below A h0 φ0 φ H locs ls S Y)
theorem gj_icmp_gt {x y : Int32} {off : Int} {tgt : Nat} (hd : decode cc pc = .ok (.if_icmp .gt off, 3)) (ht : (pc : Int) + off = (tgt : Int)) (kt : y < x → gj E X cc k n tgt L st h) (kf : ¬ y < x → gj E X cc k n (pc + 3) L st h) : gj E X cc k n pc L (.int y :: .int x :: st) h :=
  fun p e c args s m meth below A h0 φ0 φ H locs ls S Y => lv_icmp_gt S.1 S.2.1 hd ht (fun z => kt z p e c args s m meth below A h0 φ0 φ H locs ls S Y) (fun z => kf z p e c args s m meth below A h0 φ0 φ H locs ls S Y)
theorem gj_if_le {x : Int32} {off : Int} {tgt : Nat} (hd : decode cc pc = .ok (.ifCond .le off, 3)) (ht : (pc : Int) + off = (tgt : Int)) (kt : x ≤ 0 → gj E X cc k n tgt L st h) (kf : ¬ x ≤ 0 → gj E X cc k n (pc + 3) L st h) : gj E X cc k n pc L (.int x :: st) h :=
  fun p e c args s m meth below A h0 φ0 φ H locs ls S Y => lv_if_le S.1 S.2.1 hd ht (fun z => kt z p e c args s m meth below A h0 φ0 φ H locs ls S Y) (fun z => kf z p e c args s m meth below A h0 φ0 φ H locs ls S Y)
theorem gj_icmp_le {x y : Int32} {off : Int} {tgt : Nat} (hd : decode cc pc = .ok (.if_icmp .le off, 3)) (ht : (pc : Int) + off = (tgt : Int)) (kt : x ≤ y → gj E X cc k n tgt L st h) (kf : ¬ x ≤ y → gj E X cc k n (pc + 3) L st h) : gj E X cc k n pc L (.int y :: .int x :: st) h :=
  fun p e c args s m meth below A h0 φ0 φ H locs ls S Y => lv_icmp_le S.1 S.2.1 hd ht (fun z => kt z p e c args s m meth below A h0 φ0 φ H locs ls S Y) (fun z => kf z p e c args s m meth below A h0 φ0 φ H locs ls S Y)
theorem gj_iload_n {q : Fin 4} {x : Int32} (hd : decode cc pc = .ok (.iload_n q, 1)) (hl : L[(q : Nat)]? = some (some (.int x))) (kk : gj E X cc k n (pc + 1) L (.int x :: st) h) : gj E X cc k n pc L st h :=
  fun p e c args s m meth below A h0 φ0 φ H locs ls S Y => lv_iload_n S.1 S.2.1 hd rfl (Y.2.2.2.2.2.2.2.2 _ _ hl) (kk p e c args s m meth below A h0 φ0 φ H locs ls S Y)
theorem gj_iload {i : Nat} {x : Int32} (hd : decode cc pc = .ok (.iload i, 2)) (hl : L[i]? = some (some (.int x))) (kk : gj E X cc k n (pc + 2) L (.int x :: st) h) : gj E X cc k n pc L st h :=
  fun p e c args s m meth below A h0 φ0 φ H locs ls S Y => lv_iload S.1 S.2.1 hd (Y.2.2.2.2.2.2.2.2 _ _ hl) (kk p e c args s m meth below A h0 φ0 φ H locs ls S Y)
theorem gj_lload_n {q : Fin 4} {x : Int64} (hd : decode cc pc = .ok (.lload_n q, 1)) (hl : L[(q : Nat)]? = some (some (.long x))) (kk : gj E X cc k n (pc + 1) L (.long x :: st) h) : gj E X cc k n pc L st h :=
  fun p e c args s m meth below A h0 φ0 φ H locs ls S Y => lv_lload_n S.1 S.2.1 hd rfl (Y.2.2.2.2.2.2.2.2 _ _ hl) (kk p e c args s m meth below A h0 φ0 φ H locs ls S Y)
theorem gj_lload {i : Nat} {x : Int64} (hd : decode cc pc = .ok (.lload i, 2)) (hl : L[i]? = some (some (.long x))) (kk : gj E X cc k n (pc + 2) L (.long x :: st) h) : gj E X cc k n pc L st h :=
  fun p e c args s m meth below A h0 φ0 φ H locs ls S Y => lv_lload S.1 S.2.1 hd (Y.2.2.2.2.2.2.2.2 _ _ hl) (kk p e c args s m meth below A h0 φ0 φ H locs ls S Y)
theorem gj_aload_n {q : Fin 4} {x : Nat} (hd : decode cc pc = .ok (.aload_n q, 1)) (hl : L[(q : Nat)]? = some (some (.ref x))) (kk : gj E X cc k n (pc + 1) L (.ref x :: st) h) : gj E X cc k n pc L st h :=
  fun p e c args s m meth below A h0 φ0 φ H locs ls S Y => lv_aload_n S.1 S.2.1 hd rfl (Y.2.2.2.2.2.2.2.2 _ _ hl) (kk p e c args s m meth below A h0 φ0 φ H locs ls S Y)
theorem gj_aload {i : Nat} {x : Nat} (hd : decode cc pc = .ok (.aload i, 2)) (hl : L[i]? = some (some (.ref x))) (kk : gj E X cc k n (pc + 2) L (.ref x :: st) h) : gj E X cc k n pc L st h :=
  fun p e c args s m meth below A h0 φ0 φ H locs ls S Y => lv_aload S.1 S.2.1 hd (Y.2.2.2.2.2.2.2.2 _ _ hl) (kk p e c args s m meth below A h0 φ0 φ H locs ls S Y)
theorem gj_aload_nN {q : Fin 4} (hd : decode cc pc = .ok (.aload_n q, 1)) (hl : L[(q : Nat)]? = some (some .null)) (kk : gj E X cc k n (pc + 1) L (.null :: st) h) : gj E X cc k n pc L st h :=
  fun p e c args s m meth below A h0 φ0 φ H locs ls S Y => lv_aload_nN S.1 S.2.1 hd rfl (Y.2.2.2.2.2.2.2.2 _ _ hl) (kk p e c args s m meth below A h0 φ0 φ H locs ls S Y)
theorem gj_istore_n {q : Fin 4} {x : Int32} {L' : List (Option Value)} (hd : decode cc pc = .ok (.istore_n q, 1)) (hn : (q : Nat) < X.2.1) (hL : mj_s1 L (q : Nat) (.int x) = L') (kk : gj E X cc k n (pc + 1) L' st h) : gj E X cc k n pc L (.int x :: st) h :=
  fun p e c args s m meth below A h0 φ0 φ H locs ls S Y => lv_istore_n S.1 S.2.1 hd rfl Y.2.2.2.2.2.2.has hn rfl (fun ls' hl => kk p e c args s m meth below A h0 φ0 φ H locs ls' S (Y.loc (hL ▸ mj_L.put1 (v := .int x) hl)))
theorem gj_istore {i : Nat} {x : Int32} {L' : List (Option Value)} (hd : decode cc pc = .ok (.istore i, 2)) (hn : i < X.2.1) (hL : mj_s1 L i (.int x) = L') (kk : gj E X cc k n (pc + 2) L' st h) : gj E X cc k n pc L (.int x :: st) h :=
  fun p e c args s m meth below A h0 φ0 φ H locs ls S Y => lv_istore S.1 S.2.1 hd Y.2.2.2.2.2.2.has hn rfl (fun ls' hl => kk p e c args s m meth below A h0 φ0 φ H locs ls' S (Y.loc (hL ▸ mj_L.put1 (v := .int x) hl)))
theorem gj_astore_n {q : Fin 4} {x : Nat} {L' : List (Option Value)} (hd : decode cc pc = .ok (.astore_n q, 1)) (hn : (q : Nat) < X.2.1) (hL : mj_s1 L (q : Nat) (.ref x) = L') (kk : gj E X cc k n (pc + 1) L' st h) : gj E X cc k n pc L (.ref x :: st) h :=
  fun p e c args s m meth below A h0 φ0 φ H locs ls S Y => lv_astore_n S.1 S.2.1 hd rfl Y.2.2.2.2.2.2.has hn rfl (fun ls' hl => kk p e c args s m meth below A h0 φ0 φ H locs ls' S (Y.loc (hL ▸ mj_L.put1 (v := .ref x) hl)))
theorem gj_astore_nN {q : Fin 4} {L' : List (Option Value)} (hd : decode cc pc = .ok (.astore_n q, 1)) (hn : (q : Nat) < X.2.1) (hL : mj_s1 L (q : Nat) .null = L') (kk : gj E X cc k n (pc + 1) L' st h) : gj E X cc k n pc L (.null :: st) h :=
  fun p e c args s m meth below A h0 φ0 φ H locs ls S Y => lv_astore_nN S.1 S.2.1 hd rfl Y.2.2.2.2.2.2.has hn rfl (fun ls' hl => kk p e c args s m meth below A h0 φ0 φ H locs ls' S (Y.loc (hL ▸ mj_L.put1 (v := .null) hl)))
theorem gj_lstore_n {q : Fin 4} {x : Int64} {L' : List (Option Value)} (hd : decode cc pc = .ok (.lstore_n q, 1)) (hn : (q : Nat) + 1 < X.2.1) (hL : mj_s2 L (q : Nat) (.long x) = L') (kk : gj E X cc k n (pc + 1) L' st h) : gj E X cc k n pc L (.long x :: st) h :=
  fun p e c args s m meth below A h0 φ0 φ H locs ls S Y => lv_lstore_n S.1 S.2.1 hd rfl Y.2.2.2.2.2.2.has hn rfl (fun ls' hl => kk p e c args s m meth below A h0 φ0 φ H locs ls' S (Y.loc (hL ▸ mj_L.put2 (v := .long x) hl)))
theorem gj_lstore {i : Nat} {x : Int64} {L' : List (Option Value)} (hd : decode cc pc = .ok (.lstore i, 2)) (hn : i + 1 < X.2.1) (hL : mj_s2 L i (.long x) = L') (kk : gj E X cc k n (pc + 2) L' st h) : gj E X cc k n pc L (.long x :: st) h :=
  fun p e c args s m meth below A h0 φ0 φ H locs ls S Y => lv_lstore S.1 S.2.1 hd Y.2.2.2.2.2.2.has hn rfl (fun ls' hl => kk p e c args s m meth below A h0 φ0 φ H locs ls' S (Y.loc (hL ▸ mj_L.put2 (v := .long x) hl)))
theorem gj_iinc {i : Nat} {d : Int} {x v : Int32} {L' : List (Option Value)} (hd : decode cc pc = .ok (.iinc i d, 3)) (hl : L[i]? = some (some (.int x))) (hv : x + Int32.ofInt d = v) (hn : i < X.2.1) (hL : mj_s1 L i (.int v) = L') (kk : gj E X cc k n (pc + 3) L' st h) : gj E X cc k n pc L st h := by
  intro p e c args s m meth below A h0 φ0 φ H locs ls S Y
  obtain ⟨q, hq⟩ := List.getElem?_of_mem (mj_as_mem.mpr ⟨_, hl, rfl⟩ : (i, mj_v φ (.int x)) ∈ mj_as φ L)
  exact lv_iinc S.1 S.2.1 hd Y.2.2.2.2.2.2.has hq hv hn rfl (fun ls' hl => kk p e c args s m meth below A h0 φ0 φ H locs ls' S (Y.loc (hL ▸ mj_L.put1 (v := .int v) hl)))
theorem gj_top {x y : Int32} (hx : x = y) (kk : gj E X cc k n pc L (.int y :: st) h) : gj E X cc k n pc L (.int x :: st) h := hx ▸ kk
theorem gj_topl {x y : Int64} (hx : x = y) (kk : gj E X cc k n pc L (.long y :: st) h) : gj E X cc k n pc L (.long x :: st) h := hx ▸ kk
theorem gj_tableOut {dflt lo hi : Int} {offs : Array Int} {len : Nat} {x : Int32} {tgt : Nat} (hd : decode cc pc = .ok (.tableswitch dflt lo hi offs, len)) (ho : x.toInt < lo ∨ hi < x.toInt) (ht : (pc : Int) + dflt = (tgt : Int)) (kk : gj E X cc k n tgt L st h) : gj E X cc k n pc L (.int x :: st) h :=
  fun p e c args s m meth below A h0 φ0 φ H locs ls S Y => lv_tableOut S.1 S.2.1 hd ho ht (kk p e c args s m meth below A h0 φ0 φ H locs ls S Y)
theorem gj_tableIn {dflt lo hi : Int} {offs : Array Int} {len : Nat} {x : Int32} {off : Int} {tgt : Nat} (hd : decode cc pc = .ok (.tableswitch dflt lo hi offs, len)) (h1 : ¬ x.toInt < lo) (h2 : ¬ hi < x.toInt) (ho : offs[(x.toInt - lo).toNat]? = some off) (ht : (pc : Int) + off = (tgt : Int)) (kk : gj E X cc k n tgt L st h) : gj E X cc k n pc L (.int x :: st) h :=
  fun p e c args s m meth below A h0 φ0 φ H locs ls S Y => lv_tableIn S.1 S.2.1 hd h1 h2 ho ht (kk p e c args s m meth below A h0 φ0 φ H locs ls S Y)
theorem gj_lookup {dflt : Int} {ps : Array (Int × Int)} {len : Nat} {x : Int32} {off : Int} {tgt : Nat} (hd : decode cc pc = .ok (.lookupswitch dflt ps, len)) (hp : (ps.toList.zip (ps.toList.drop 1)).all (fun (a, next) => a.1 < next.1) = true) (ho : Op.lookupswitch.offset ps.toList dflt x.toInt = off) (ht : (pc : Int) + off = (tgt : Int)) (kk : gj E X cc k n tgt L st h) : gj E X cc k n pc L (.int x :: st) h :=
  fun p e c args s m meth below A h0 φ0 φ H locs ls S Y => lv_lookup S.1 S.2.1 hd hp ho ht (kk p e c args s m meth below A h0 φ0 φ H locs ls S Y)
theorem gj_goto {off : Int} {tgt : Nat} (hd : decode cc pc = .ok (.goto off, 3)) (ht : (pc : Int) + off = (tgt : Int)) (kk : gj E X cc k n tgt L st h) : gj E X cc k n pc L st h :=
  fun p e c args s m meth below A h0 φ0 φ H locs ls S Y => lv_goto S.1 S.2.1 hd ht (kk p e c args s m meth below A h0 φ0 φ H locs ls S Y)
theorem gj_ifnonnull {x : Nat} {off : Int} {tgt : Nat} (hd : decode cc pc = .ok (.ifnonnull off, 3)) (ht : (pc : Int) + off = (tgt : Int)) (kk : gj E X cc k n tgt L st h) : gj E X cc k n pc L (.ref x :: st) h :=
  fun p e c args s m meth below A h0 φ0 φ H locs ls S Y => lv_ifnonnull S.1 S.2.1 hd ht (kk p e c args s m meth below A h0 φ0 φ H locs ls S Y)
theorem gj_ifnonnullN {off : Int} (hd : decode cc pc = .ok (.ifnonnull off, 3)) (kk : gj E X cc k n (pc + 3) L st h) : gj E X cc k n pc L (.null :: st) h :=
  fun p e c args s m meth below A h0 φ0 φ H locs ls S Y => lv_ifnonnullN S.1 S.2.1 hd (kk p e c args s m meth below A h0 φ0 φ H locs ls S Y)
theorem gj_ldc {index : Nat} {v : Int32} (hw : Cond.constant X.1 index v ∈ mj_TB) (hd : decode cc pc = .ok (.ldc index, 2)) (kk : gj E X cc k n (pc + 2) L (.int v :: st) h) : gj E X cc k n pc L st h :=
  fun p e c args s m meth below A h0 φ0 φ H locs ls S Y => lv_ldc S.1 S.2.1 S.2.2.2.1 (S.2.2.2.2.1 _ hw) hd (kk p e c args s m meth below A h0 φ0 φ H locs ls S Y)
theorem gj_ldcw {index : Nat} {v : Int32} (hw : Cond.constant X.1 index v ∈ mj_TB) (hd : decode cc pc = .ok (.ldc_w index, 3)) (kk : gj E X cc k n (pc + 3) L (.int v :: st) h) : gj E X cc k n pc L st h :=
  fun p e c args s m meth below A h0 φ0 φ H locs ls S Y => lv_ldcw S.1 S.2.1 S.2.2.2.1 (S.2.2.2.2.1 _ hw) hd (kk p e c args s m meth below A h0 φ0 φ H locs ls S Y)
theorem gj_ldc2 {index : Nat} {v : Int64} (hw : Cond.constantLong X.1 index v ∈ mj_TB) (hd : decode cc pc = .ok (.ldc2_w index, 3)) (kk : gj E X cc k n (pc + 3) L (.long v :: st) h) : gj E X cc k n pc L st h :=
  fun p e c args s m meth below A h0 φ0 φ H locs ls S Y => lv_ldc2 S.1 S.2.1 S.2.2.2.1 (S.2.2.2.2.1 _ hw) hd (kk p e c args s m meth below A h0 φ0 φ H locs ls S Y)
/-! cells -/
theorem mj_Y.new {s : State} {A : Nat → Prop} {h0 h' : mj_H} {φ0 φ : Nat → Nat} {H H1 : Heap} {locs locs1 : List Loc} {ls : Array Slot} (Y : mj_Y E X k s A h0 φ0 φ h H locs ls L) (hm : ∀ i, h i ≠ none → h' i ≠ none) (hW : mj_W E φ h' A H1) (hS : va_S A s.heap H1 locs1) : mj_Y E X k s A h0 φ0 φ h' H1 locs1 ls L :=
  ⟨Y.1, Y.2.1, fun i q => hm i (Y.2.2.1 i q), hW, hS, Y.2.2.2.2.2⟩
theorem gj_get {a index ci j N : Nat} {C : String} {T : u_T} {fs : List Value} {v : Value} (hin : ∀ w ∈ u_ws C T N, w ∈ mj_TB) (hlink : Cond.fieldLink X.1 index (T j).1 (T j).2.1 (T j).2.2.1 ∈ mj_TB) (hc : vwCl[ci]? = some (C, T, N)) (hj : j < N) (hd : decode cc pc = .ok (.getfield index, 3)) (he : h a = some (.inr (ci, fs))) (hv : fs[j]? = some v) (kk : gj E X cc k n (pc + 3) L (v :: st) h) : gj E X cc k n pc L (.ref a :: st) h := by
  intro p e c args s m meth below A h0 φ0 φ H locs ls S Y
  obtain ⟨hcl, I, hI, hP, hD⟩ := Y.2.2.2.1
  obtain ⟨q0, hq, hq2⟩ := mj_W.get (E := E) (φ := φ) hI he
  exact va_get (D := E.2.1) (T := T) S.1 S.2.1 S.2.2.2.2.1 hin S.2.2.2.1 S.2.2.2.2.2.1.1 hP q0 hq2 hc j hj (S.2.2.2.2.1 _ hlink) (fun _ z => z) (v := mj_v φ v) (by rw [List.getElem?_map, hv]; rfl) hd (kk p e c args s m meth below A h0 φ0 φ H locs ls S Y)
theorem gj_put {a index ci j N : Nat} {C : String} {T : u_T} {ty0 : Nat → FieldType} {fs : List Value} {ty : FieldType} {v : Value} (hin : ∀ w ∈ u_ws C T N, w ∈ mj_TB) (hty : ∀ k, k < N → parseFieldDescriptor (T k).2.2.1 = some (ty0 k)) (hnm : ∀ a, a < N → ∀ b, b < N → a ≠ b → (T a).2.1 ≠ (T b).2.1) (hlink : Cond.fieldLink X.1 index (T j).1 (T j).2.1 (T j).2.2.1 ∈ mj_TB) (hc : vwCl[ci]? = some (C, T, N)) (hj : j < N) (hfin : (T j).2.2.2 = false) (hdty : parseFieldDescriptor (T j).2.2.1 = some ty) (hnar : ∀ φ, narrow ty (mj_v φ v) = mj_v φ v) (hfit : ∀ φ, fits ty (mj_v φ v) = true)
    (hd : decode cc pc = .ok (.putfield index, 3)) (he : h a = some (.inr (ci, fs))) (hl : j < fs.length) (hvl : mj_vl h v) (kk : gj E X cc k n (pc + 3) L st (mj_up h a (.inr (ci, fs.set j v)))) : gj E X cc k n pc L (v :: .ref a :: st) h := by
  intro p e c args s m meth below A h0 φ0 φ H locs ls S Y
  obtain ⟨hcl, I, hI, hP, hD⟩ := Y.2.2.2.1
  obtain ⟨q0, hq, hq2⟩ := mj_W.get (E := E) (φ := φ) hI he
  refine va_put (D := E.2.1) (T := T) (v := mj_v φ v) (ty := ty) S.1 S.2.1 S.2.2.2.2.1 hin ty0 hty hnm S.2.2.2.1 S.2.2.2.2.2.1.1 hP hD Y.2.2.2.2.1 q0 hq2 hc j hj (S.2.2.2.2.1 _ hlink) (fun _ z => z) hfin hdty (hnar φ) (hfit φ) (by rw [List.length_map]; exact hl) hd (fun H1 locs1 hP1 hD1 hS1 => ?_)
  have hset : (fs.map (mj_v φ)).set j (mj_v φ v) = (fs.set j v).map (mj_v φ) := by rw [List.map_set]
  rw [hset] at hP1 hD1
  refine kk p e c args s m meth below A h0 φ0 φ H1 locs1 ls S (Y.new (fun i z => mj_up_al z) (mj_W.put hcl hI hD hq ?_ hP1 hD1) hS1)
  intro w hw
  rcases List.mem_or_eq_of_mem_set hw with hw | rfl
  · exact hcl a _ he w hw
  · exact hvl
theorem gj_putF {a index ci j N : Nat} {C : String} {T : u_T} {ty0 : Nat → FieldType} {fs : List Value} {ty : FieldType} {v : Value} (hin : ∀ w ∈ u_ws C T N, w ∈ mj_TB) (hty : ∀ k, k < N → parseFieldDescriptor (T k).2.2.1 = some (ty0 k)) (hnm : ∀ a, a < N → ∀ b, b < N → a ≠ b → (T a).2.1 ≠ (T b).2.1) (hlink : Cond.fieldLink X.1 index (T j).1 (T j).2.1 (T j).2.2.1 ∈ mj_TB) (hc : vwCl[ci]? = some (C, T, N)) (hj : j < N) (hfin : (T j).2.2.2 = true) (hini : ∀ t : mj_T, X.2.2.2.1 t → t.2.2.2.1.name = "<init>") (hdecl : (T j).1 = X.1) (hdty : parseFieldDescriptor (T j).2.2.1 = some ty) (hnar : ∀ φ, narrow ty (mj_v φ v) = mj_v φ v) (hfit : ∀ φ, fits ty (mj_v φ v) = true)
    (hd : decode cc pc = .ok (.putfield index, 3)) (he : h a = some (.inr (ci, fs))) (hl : j < fs.length) (hvl : mj_vl h v) (kk : gj E X cc k n (pc + 3) L st (mj_up h a (.inr (ci, fs.set j v)))) : gj E X cc k n pc L (v :: .ref a :: st) h := by
  intro p e c args s m meth below A h0 φ0 φ H locs ls S Y
  obtain ⟨hcl, I, hI, hP, hD⟩ := Y.2.2.2.1
  obtain ⟨q0, hq, hq2⟩ := mj_W.get (E := E) (φ := φ) hI he
  refine va_putF (D := E.2.1) (T := T) (v := mj_v φ v) (ty := ty) S.1 S.2.1 S.2.2.2.2.1 hin ty0 hty hnm S.2.2.2.1 S.2.2.2.2.2.1.1 hP hD Y.2.2.2.2.1 q0 hq2 hc j hj (S.2.2.2.2.1 _ hlink) (fun _ z => z) hfin (hini _ S.2.2.2.2.2.2.2) hdecl hdty (hnar φ) (hfit φ) (by rw [List.length_map]; exact hl) hd (fun H1 locs1 hP1 hD1 hS1 => ?_)
  have hset : (fs.map (mj_v φ)).set j (mj_v φ v) = (fs.set j v).map (mj_v φ) := by rw [List.map_set]
  rw [hset] at hP1 hD1
  refine kk p e c args s m meth below A h0 φ0 φ H1 locs1 ls S (Y.new (fun i z => mj_up_al z) (mj_W.put hcl hI hD hq ?_ hP1 hD1) hS1)
  intro w hw
  rcases List.mem_or_eq_of_mem_set hw with hw | rfl
  · exact hcl a _ he w hw
  · exact hvl
theorem gj_alen {a t N : Nat} {y : (Nat → Int32) ⊕ (Nat → Int64) ⊕ (Nat → UInt32) ⊕ (Nat → UInt64) ⊕ (Nat → Option Nat)} {ty : FieldType} (ht : (mj_tys E)[t]? = some (E.2.2.1 t, ty)) (hd : decode cc pc = .ok (.arraylength, 1)) (he : h a = some (.inl (t, N, y))) (kk : gj E X cc k n (pc + 1) L (.int (nI N) :: st) h) : gj E X cc k n pc L (.ref a :: st) h := by
  intro p e c args s m meth below A h0 φ0 φ H locs ls S Y
  obtain ⟨hcl, I, hI, hP, hD⟩ := Y.2.2.2.1
  obtain ⟨q0, hq, hq2⟩ := mj_W.get (E := E) (φ := φ) hI he
  exact va_alen (D := E.2.1) S.1 S.2.1 S.2.2.2.2.2.1.1 hP q0 t hq2 ht rfl hd (kk p e c args s m meth below A h0 φ0 φ H locs ls S Y)
theorem gj_iald {a N : Nat} {f : Nat → Int32} {i : Int32} (hd : decode cc pc = .ok (.iaload, 1)) (he : h a = some (.inl (0, N, .inl f))) (hi : vp_in i N) (kk : gj E X cc k n (pc + 1) L (.int (f i.toNatClampNeg) :: st) h) : gj E X cc k n pc L (.int i :: .ref a :: st) h := by
  intro p e c args s m meth below A h0 φ0 φ H locs ls S Y
  obtain ⟨hcl, I, hI, hP, hD⟩ := Y.2.2.2.1
  obtain ⟨q0, hq, hq2⟩ := mj_W.get (E := E) (φ := φ) hI he
  exact va_iald (D := E.2.1) S.1 S.2.1 S.2.2.2.2.2.1.1 hP q0 0 hq2 rfl hi hd (kk p e c args s m meth below A h0 φ0 φ H locs ls S Y)
theorem gj_lald {a N : Nat} {f : Nat → Int64} {i : Int32} (hd : decode cc pc = .ok (.laload, 1)) (he : h a = some (.inl (1, N, .inr (.inl f)))) (hi : vp_in i N) (kk : gj E X cc k n (pc + 1) L (.long (f i.toNatClampNeg) :: st) h) : gj E X cc k n pc L (.int i :: .ref a :: st) h := by
  intro p e c args s m meth below A h0 φ0 φ H locs ls S Y
  obtain ⟨hcl, I, hI, hP, hD⟩ := Y.2.2.2.1
  obtain ⟨q0, hq, hq2⟩ := mj_W.get (E := E) (φ := φ) hI he
  exact va_lald (D := E.2.1) S.1 S.2.1 S.2.2.2.2.2.1.1 hP q0 1 hq2 rfl hi hd (kk p e c args s m meth below A h0 φ0 φ H locs ls S Y)
theorem gj_zald {a N : Nat} {f : Nat → Int32} {i : Int32} (hd : decode cc pc = .ok (.baload, 1)) (he : h a = some (.inl (2, N, .inl f))) (hi : vp_in i N) (kk : gj E X cc k n (pc + 1) L (.int (f i.toNatClampNeg) :: st) h) : gj E X cc k n pc L (.int i :: .ref a :: st) h := by
  intro p e c args s m meth below A h0 φ0 φ H locs ls S Y
  obtain ⟨hcl, I, hI, hP, hD⟩ := Y.2.2.2.1
  obtain ⟨q0, hq, hq2⟩ := mj_W.get (E := E) (φ := φ) hI he
  exact va_zald (D := E.2.1) S.1 S.2.1 S.2.2.2.2.2.1.1 hP q0 2 hq2 rfl hi hd (kk p e c args s m meth below A h0 φ0 φ H locs ls S Y)
theorem gj_aaldS {a N b : Nat} {f : Nat → Option Nat} {i : Int32} (hd : decode cc pc = .ok (.aaload, 1)) (he : h a = some (.inl (3, N, .inr (.inr (.inr (.inr f)))))) (hi : vp_in i N) (hb : f i.toNatClampNeg = some b) (kk : gj E X cc k n (pc + 1) L (.ref b :: st) h) : gj E X cc k n pc L (.int i :: .ref a :: st) h := by
  intro p e c args s m meth below A h0 φ0 φ H locs ls S Y
  obtain ⟨hcl, I, hI, hP, hD⟩ := Y.2.2.2.1
  obtain ⟨q0, hq, hq2⟩ := mj_W.get (E := E) (φ := φ) hI he
  refine va_aldq (D := E.2.1) S.1 S.2.1 S.2.2.2.2.2.1.1 hP q0 3 hq2 rfl hi hd ?_
  show W _ _ _ _ _ _ _ _ _ _ _ _ _ _ _ (F0 m (pc + 1) ls (va_rf ((f i.toNatClampNeg).map φ) :: st.map (mj_v φ)))
  rw [hb]
  exact kk p e c args s m meth below A h0 φ0 φ H locs ls S Y
theorem gj_aaldN {a N : Nat} {f : Nat → Option Nat} {i : Int32} (hd : decode cc pc = .ok (.aaload, 1)) (he : h a = some (.inl (3, N, .inr (.inr (.inr (.inr f)))))) (hi : vp_in i N) (hb : f i.toNatClampNeg = none) (kk : gj E X cc k n (pc + 1) L (.null :: st) h) : gj E X cc k n pc L (.int i :: .ref a :: st) h := by
  intro p e c args s m meth below A h0 φ0 φ H locs ls S Y
  obtain ⟨hcl, I, hI, hP, hD⟩ := Y.2.2.2.1
  obtain ⟨q0, hq, hq2⟩ := mj_W.get (E := E) (φ := φ) hI he
  refine va_aldq (D := E.2.1) S.1 S.2.1 S.2.2.2.2.2.1.1 hP q0 3 hq2 rfl hi hd ?_
  show W _ _ _ _ _ _ _ _ _ _ _ _ _ _ _ (F0 m (pc + 1) ls (va_rf ((f i.toNatClampNeg).map φ) :: st.map (mj_v φ)))
  rw [hb]
  exact kk p e c args s m meth below A h0 φ0 φ H locs ls S Y
theorem gj_iast {a N : Nat} {f : Nat → Int32} {i x : Int32} (hd : decode cc pc = .ok (.iastore, 1)) (he : h a = some (.inl (0, N, .inl f))) (hi : vp_in i N) (kk : gj E X cc k n (pc + 1) L st (mj_up h a (.inl (0, N, .inl (upd f i.toNatClampNeg x))))) : gj E X cc k n pc L (.int x :: .int i :: .ref a :: st) h := by
  intro p e c args s m meth below A h0 φ0 φ H locs ls S Y
  obtain ⟨hcl, I, hI, hP, hD⟩ := Y.2.2.2.1
  obtain ⟨q0, hq, hq2⟩ := mj_W.get (E := E) (φ := φ) hI he
  refine va_iast (D := E.2.1) S.1 S.2.1 S.2.2.2.2.2.1.1 hP hD Y.2.2.2.2.1 q0 0 hq2 rfl hi hd (fun H1 locs1 hP1 hD1 hS1 => ?_)
  exact kk p e c args s m meth below A h0 φ0 φ H1 locs1 ls S (Y.new (fun i z => mj_up_al z) (mj_W.put (e' := .inl (0, N, .inl (upd f i.toNatClampNeg x))) hcl hI hD hq trivial hP1 hD1) hS1)
theorem gj_zast {a N : Nat} {f : Nat → Int32} {i x : Int32} (hd : decode cc pc = .ok (.bastore, 1)) (he : h a = some (.inl (2, N, .inl f))) (hi : vp_in i N) (kk : gj E X cc k n (pc + 1) L st (mj_up h a (.inl (2, N, .inl (upd f i.toNatClampNeg (vp_nar .boolean x)))))) : gj E X cc k n pc L (.int x :: .int i :: .ref a :: st) h := by
  intro p e c args s m meth below A h0 φ0 φ H locs ls S Y
  obtain ⟨hcl, I, hI, hP, hD⟩ := Y.2.2.2.1
  obtain ⟨q0, hq, hq2⟩ := mj_W.get (E := E) (φ := φ) hI he
  refine va_zast (D := E.2.1) S.1 S.2.1 S.2.2.2.2.2.1.1 hP hD Y.2.2.2.2.1 q0 2 hq2 rfl hi hd (fun H1 locs1 hP1 hD1 hS1 => ?_)
  exact kk p e c args s m meth below A h0 φ0 φ H1 locs1 ls S (Y.new (fun i z => mj_up_al z) (mj_W.put (e' := .inl (2, N, .inl (upd f i.toNatClampNeg (vp_nar .boolean x)))) hcl hI hD hq trivial hP1 hD1) hS1)
theorem gj_last {a N : Nat} {f : Nat → Int64} {i : Int32} {x : Int64} (hd : decode cc pc = .ok (.lastore, 1)) (he : h a = some (.inl (1, N, .inr (.inl f)))) (hi : vp_in i N) (kk : gj E X cc k n (pc + 1) L st (mj_up h a (.inl (1, N, .inr (.inl (vp_updL f i.toNatClampNeg x)))))) : gj E X cc k n pc L (.long x :: .int i :: .ref a :: st) h := by
  intro p e c args s m meth below A h0 φ0 φ H locs ls S Y
  obtain ⟨hcl, I, hI, hP, hD⟩ := Y.2.2.2.1
  obtain ⟨q0, hq, hq2⟩ := mj_W.get (E := E) (φ := φ) hI he
  refine va_last (D := E.2.1) S.1 S.2.1 S.2.2.2.2.2.1.1 hP hD Y.2.2.2.2.1 q0 1 hq2 rfl hi hd (fun H1 locs1 hP1 hD1 hS1 => ?_)
  exact kk p e c args s m meth below A h0 φ0 φ H1 locs1 ls S (Y.new (fun i z => mj_up_al z) (mj_W.put (e' := .inl (1, N, .inr (.inl (vp_updL f i.toNatClampNeg x)))) hcl hI hD hq trivial hP1 hD1) hS1)
theorem gj_aast {a N b : Nat} {f : Nat → Option Nat} {i : Int32} {ci : Nat} {vs : List Value} (hd : decode cc pc = .ok (.aastore, 1)) (he : h a = some (.inl (3, N, .inr (.inr (.inr (.inr f)))))) (hb : h b = some (.inr (ci, vs))) (hc : vwCl[ci]? = some ("IceVote$Lake", TX1, 8)) (hi : vp_in i N) (kk : gj E X cc k n (pc + 1) L st (mj_up h a (.inl (3, N, .inr (.inr (.inr (.inr (va_up f i.toNatClampNeg (some b))))))))) : gj E X cc k n pc L (.ref b :: .int i :: .ref a :: st) h := by
  intro p e c args s m meth below A h0 φ0 φ H locs ls S Y
  obtain ⟨hcl, I, hI, hP, hD⟩ := Y.2.2.2.1
  obtain ⟨q0, hq, hq2⟩ := mj_W.get (E := E) (φ := φ) hI he
  obtain ⟨q1, hr, hr2⟩ := mj_W.get (E := E) (φ := φ) hI hb
  refine va_astq (D := E.2.1) (r := ("IceVote$Lake", TX1, 8)) S.1 S.2.1 S.2.2.2.2.2.1.1 hP hD Y.2.2.2.2.1 q0 3 q1 ci hq2 rfl hr2 hc hi hd (fun H1 locs1 hP1 hD1 hS1 => ?_)
  have hm : va_up (fun j => (f j).map φ) i.toNatClampNeg (some (φ b)) = fun j => (va_up f i.toNatClampNeg (some b) j).map φ := by
    funext j
    by_cases hj : j = i.toNatClampNeg
    · simp [va_up, hj]
    · simp [va_up, hj]
  rw [hm] at hP1 hD1
  refine kk p e c args s m meth below A h0 φ0 φ H1 locs1 ls S (Y.new (fun i z => mj_up_al z) (mj_W.put (e' := .inl (3, N, .inr (.inr (.inr (.inr (va_up f i.toNatClampNeg (some b))))))) hcl hI hD hq ?_ hP1 hD1) hS1)
  intro j x hx
  by_cases hj : j = i.toNatClampNeg
  · rw [hj] at hx
    simp [va_up] at hx
    rw [← hx]
    exact Or.inl (by rw [hb]; exact fun z => nomatch z)
  · simp [va_up, hj] at hx
    exact (hcl a _ he) j x hx
end MJ
