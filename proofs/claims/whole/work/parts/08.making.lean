section MJN
variable {E : mj_E} {X : mj_XT} {cc : ByteArray} {k n pc : Nat} {L : List (Option Value)} {st : List Value} {h : mj_H}
theorem mj_tysK {s : State} {cA : ClassId} {ty : FieldType} {t : Nat} (hK : va_K E.2.1 vwCl (mj_tys E) s) (ht : (mj_tys E)[t]? = some (E.2.2.1 t, ty)) (hK' : va_K E.2.1 vwCl (mj_tys E ++ [(cA, ty)]) s) (hp : ∀ C, ty = .object C → False) : cA = E.2.2.1 t := by
  have h1 := (hK.2 t _ ht).2
  have h2 := (hK'.2 (mj_tys E).length (cA, ty) (by simp)).2
  cases ty <;> first | exact Option.some.inj (h2.symm.trans h1) | exact (hp _ rfl).elim
theorem mj_Y.born {s : State} {A : Nat → Prop} {h0 : mj_H} {φ0 φ : Nat → Nat} {H H1 : Heap} {locs : List Loc} {ls : Array Slot} {i q : Nat} {e' : va_E} (Y : mj_Y E X k s A h0 φ0 φ h H locs ls L) (hn : h i = none) (hi : i < 1000) (hL : mj_alL h L) (hW : mj_W E (va_up φ i q) (mj_up h i e') A H1) (hx : mj_ext h φ (va_up φ i q)) (hS : va_S A s.heap H1 locs) : mj_Y E X (k + 1) s A h0 φ0 (va_up φ i q) (mj_up h i e') H1 locs ls L := by
  refine ⟨fun z => by omega, fun a ha => ?_, fun j z => mj_up_al (Y.2.2.1 j z), hW, hS, fun j hj => ?_, Y.2.2.2.2.2.2.ext hx hL⟩
  · rw [hx a (ha.elim (fun z => Or.inl (Y.2.2.1 a z)) Or.inr)]; exact Y.2.1 a ha
  · rw [hx _ (Or.inr (by omega))]; exact Y.2.2.2.2.2.1 j hj
theorem gj_newa {atype : ArrayType} {ty : FieldType} {t N i : Nat} {w : Int32} {a0 : vp_A} (hty : newarray.typeOf atype = ty) (hp : ∀ C, ty = .object C → False) (ht : (mj_tys E)[t]? = some (E.2.2.1 t, ty)) (hw : Cond.arrayClass (newarray.typeOf atype) ∈ mj_TB) (ha : ∀ cA : ClassId, vp_cell cA a0 = arrV cA N (fun _ => defaultValue ty)) (hma : ∀ φ, mj_a φ a0 = a0) (hce : ∀ h, mj_ce h (.inl (t, a0))) (hn0 : ¬ w < 0) (hN : w.toNatClampNeg = N) (hby : N * componentBytes ty ≤ 536870912) (hR : k + 1 ≤ X.2.2.1.cells ∧ n + N ≤ X.2.2.1.slots) (hd : decode cc pc = .ok (.newarray atype, 2)) (hi : h i = none) (hi2 : i < 1000) (hL : mj_alL h L) (hst : ∀ v ∈ st, mj_vl h v)
    (kk : gj E X cc (k + 1) (n + N) (pc + 2) L (.ref i :: st) (mj_up h i (.inl (t, a0)))) : gj E X cc k n pc L (.int w :: st) h := by
  intro p e c args s m meth below A h0 φ0 φ H locs ls S Y
  obtain ⟨hcl, I, hI, hP, hD⟩ := Y.2.2.2.1
  refine va_newa (D := E.2.1) S.1 S.2.1 (S.2.2.2.2.1 _ hw) hty S.2.2.2.2.2.1.1 hP hD Y.2.2.2.2.1 S.2.2.2.2.2.2.1 ha hn0 hN hby hR.1 hR.2 hd (fun q cA H1 hK1 hP1 hD1 hS1 => ?_)
  have hc : cA = E.2.2.1 t := mj_tysK S.2.2.2.2.2.1.1 ht hK1 hp
  subst hc
  have he : (Sum.inl (E.2.2.1 t, a0) : va_E) = mj_e E (va_up φ i q) (.inl (t, a0)) := by show _ = Sum.inl (_, mj_a _ a0); rw [hma]
  rw [he] at hP1 hD1
  obtain ⟨hW', hx⟩ := mj_W.push hcl hI hi hi2 (hce h) hP1 hD1
  have := kk p e c args s m meth below A h0 φ0 _ H1 locs ls S (Y.born hi hi2 hL hW' hx hS1)
  have e2 : (Value.ref i :: st).map (mj_v (va_up φ i q)) = .ref q :: st.map (mj_v φ) := by
    rw [List.map_cons, List.map_congr_left fun v hv => mj_v_ext hx (hst v hv)]
    simp [mj_v, va_up]
  rw [e2] at this
  exact this
theorem gj_newi {N i : Nat} {w : Int32} (hw : Cond.arrayClass .int ∈ mj_TB) (hn0 : ¬ w < 0) (hN : w.toNatClampNeg = N) (hby : N * componentBytes .int ≤ 536870912) (hR : k + 1 ≤ X.2.2.1.cells ∧ n + N ≤ X.2.2.1.slots) (hd : decode cc pc = .ok (.newarray .int, 2)) (hi : h i = none) (hi2 : i < 1000) (hL : mj_alL h L) (hst : ∀ v ∈ st, mj_vl h v)
    (kk : gj E X cc (k + 1) (n + N) (pc + 2) L (.ref i :: st) (mj_up h i (.inl (0, N, .inl (fun _ => 0))))) : gj E X cc k n pc L (.int w :: st) h :=
  gj_newa (atype := .int) (t := 0) (ty := .int) (a0 := (N, .inl (fun _ => 0))) rfl (fun _ z => nomatch z) rfl hw (fun _ => rfl) (fun _ => rfl) (fun _ => trivial) hn0 hN hby hR hd hi hi2 hL hst kk
theorem gj_newl {N i : Nat} {w : Int32} (hw : Cond.arrayClass .long ∈ mj_TB) (hn0 : ¬ w < 0) (hN : w.toNatClampNeg = N) (hby : N * componentBytes .long ≤ 536870912) (hR : k + 1 ≤ X.2.2.1.cells ∧ n + N ≤ X.2.2.1.slots) (hd : decode cc pc = .ok (.newarray .long, 2)) (hi : h i = none) (hi2 : i < 1000) (hL : mj_alL h L) (hst : ∀ v ∈ st, mj_vl h v)
    (kk : gj E X cc (k + 1) (n + N) (pc + 2) L (.ref i :: st) (mj_up h i (.inl (1, N, .inr (.inl (fun _ => 0)))))) : gj E X cc k n pc L (.int w :: st) h :=
  gj_newa (atype := .long) (t := 1) (ty := .long) (a0 := (N, .inr (.inl (fun _ => 0)))) rfl (fun _ z => nomatch z) rfl hw (fun _ => rfl) (fun _ => rfl) (fun _ => trivial) hn0 hN hby hR hd hi hi2 hL hst kk
theorem gj_newz {N i : Nat} {w : Int32} (hw : Cond.arrayClass .boolean ∈ mj_TB) (hn0 : ¬ w < 0) (hN : w.toNatClampNeg = N) (hby : N * componentBytes .boolean ≤ 536870912) (hR : k + 1 ≤ X.2.2.1.cells ∧ n + N ≤ X.2.2.1.slots) (hd : decode cc pc = .ok (.newarray .boolean, 2)) (hi : h i = none) (hi2 : i < 1000) (hL : mj_alL h L) (hst : ∀ v ∈ st, mj_vl h v)
    (kk : gj E X cc (k + 1) (n + N) (pc + 2) L (.ref i :: st) (mj_up h i (.inl (2, N, .inl (fun _ => 0))))) : gj E X cc k n pc L (.int w :: st) h :=
  gj_newa (atype := .boolean) (t := 2) (ty := .boolean) (a0 := (N, .inl (fun _ => 0))) rfl (fun _ z => nomatch z) rfl hw (fun _ => rfl) (fun _ => rfl) (fun _ => trivial) hn0 hN hby hR hd hi hi2 hL hst kk
theorem gj_newq {N i idx : Nat} {w : Int32} (hw : Cond.classLink X.1 idx "IceVote$Lake" ∈ mj_TB) (hn0 : ¬ w < 0) (hN : w.toNatClampNeg = N) (hby : N * 4 ≤ 536870912) (hR : k + 1 ≤ X.2.2.1.cells ∧ n + N ≤ X.2.2.1.slots) (hd : decode cc pc = .ok (.anewarray idx, 3)) (hi : h i = none) (hi2 : i < 1000) (hL : mj_alL h L) (hst : ∀ v ∈ st, mj_vl h v)
    (kk : gj E X cc (k + 1) (n + N) (pc + 3) L (.ref i :: st) (mj_up h i (.inl (3, N, .inr (.inr (.inr (.inr (fun _ => none)))))))) : gj E X cc k n pc L (.int w :: st) h := by
  intro p e c args s m meth below A h0 φ0 φ H locs ls S Y
  obtain ⟨hcl, I, hI, hP, hD⟩ := Y.2.2.2.1
  refine va_newq (D := E.2.1) S.1 S.2.1 S.2.2.2.1 (S.2.2.2.2.1 _ hw) S.2.2.2.2.2.1.2.1 S.2.2.2.2.2.1.1 hP hD Y.2.2.2.2.1 S.2.2.2.2.2.2.1 hn0 hN hby hR.1 hR.2 hd (fun q cA H1 hK1 hP1 hD1 hS1 => ?_)
  have hc : cA = E.2.2.1 3 := by
    have h1 := (S.2.2.2.2.2.1.1.2 3 _ rfl).2
    have h2 := (hK1.2 (mj_tys E).length (cA, .object "IceVote$Lake") (by simp)).2
    obtain ⟨_, _, _, _, _, q1⟩ := h1
    obtain ⟨_, _, _, _, _, q2⟩ := h2
    exact Option.some.inj (q2.symm.trans q1)
  subst hc
  obtain ⟨hW', hx⟩ := mj_W.push (e' := .inl (3, N, .inr (.inr (.inr (.inr (fun _ => none)))))) hcl hI hi hi2 (fun _ _ z => nomatch z) hP1 hD1
  have := kk p e c args s m meth below A h0 φ0 _ H1 locs ls S (Y.born hi hi2 hL hW' hx hS1)
  have e2 : (Value.ref i :: st).map (mj_v (va_up φ i q)) = .ref q :: st.map (mj_v φ) := by
    rw [List.map_cons, List.map_congr_left fun v hv => mj_v_ext hx (hst v hv)]
    simp [mj_v, va_up]
  rw [e2] at this
  exact this
theorem gj_new {ci N i idx : Nat} {C : String} {T : u_T} {ty : Nat → FieldType} {fs : List Value} (hin : ∀ w ∈ u_ws C T N, w ∈ mj_TB) (hty : ∀ k, k < N → parseFieldDescriptor (T k).2.2.1 = some (ty k)) (hw1 : Cond.classLink X.1 idx C ∈ mj_TB) (hw2 : Cond.instantiable C N ∈ mj_TB) (hw3 : Cond.initialized C ∈ mj_TB) (hc : vwCl[ci]? = some (C, T, N)) (hfs : ∀ j, j < N → defaultValue (ty j) = vp_V fs j) (hmf : ∀ φ, fs.map (mj_v φ) = fs) (hR : k + 1 ≤ X.2.2.1.cells ∧ n + N ≤ X.2.2.1.slots) (hd : decode cc pc = .ok (.new idx, 3)) (hi : h i = none) (hi2 : i < 1000) (hL : mj_alL h L) (hst : ∀ v ∈ st, mj_vl h v) (hvl : ∀ v ∈ fs, mj_vl h v)
    (kk : gj E X cc (k + 1) (n + N) (pc + 3) L (.ref i :: st) (mj_up h i (.inr (ci, fs)))) : gj E X cc k n pc L st h := by
  intro p e c args s m meth below A h0 φ0 φ H locs ls S Y
  obtain ⟨hcl, I, hI, hP, hD⟩ := Y.2.2.2.1
  refine va_new (D := E.2.1) (T := T) S.1 S.2.1 S.2.2.2.2.1 hin ty hty S.2.2.2.1 (S.2.2.2.2.1 _ hw1) (S.2.2.2.2.1 _ hw2) (S.2.2.2.2.1 _ hw3) S.2.2.2.2.2.1.1 hP hD Y.2.2.2.2.1 S.2.2.2.2.2.2.1 hc hfs hR.1 hR.2 hd (fun q H1 hP1 hD1 hS1 => ?_)
  have he : (Sum.inr (ci, fs) : va_E) = mj_e E (va_up φ i q) (.inr (ci, fs)) := by show _ = Sum.inr (_, fs.map _); rw [hmf]
  rw [he] at hP1 hD1
  obtain ⟨hW', hx⟩ := mj_W.push (e' := .inr (ci, fs)) hcl hI hi hi2 hvl hP1 hD1
  have := kk p e c args s m meth below A h0 φ0 _ H1 locs ls S (Y.born hi hi2 hL hW' hx hS1)
  have e2 : (Value.ref i :: st).map (mj_v (va_up φ i q)) = .ref q :: st.map (mj_v φ) := by
    rw [List.map_cons, List.map_congr_left fun v hv => mj_v_ext hx (hst v hv)]
    simp [mj_v, va_up]
  rw [e2] at this
  exact this
end MJN
