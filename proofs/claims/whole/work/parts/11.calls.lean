def mj_R (r : Option Value) (h' : mj_H) : Option Value → mj_H → Prop := fun x y => x = r ∧ y = h'
def mj_rkb (R : Room) (i : mj_I) (k n : Nat) : Bool := (Nat.ble (i.2.2.2.2.1 + 1) R.frames && Nat.ble (8 + (i.2.2.1 + 11) + 36 * i.2.2.2.2.1) R.locals) && (Nat.ble (k + i.2.2.2.2.2.1) R.cells && Nat.ble (n + i.2.2.2.2.2.2) R.slots)
theorem mj_rk {R : Room} {i : mj_I} {k n : Nat} (h : mj_rkb R i k n = true) : mj_rok R i k n := by
  unfold mj_rkb at h
  simp only [Bool.and_eq_true] at h
  exact ⟨⟨Nat.le_of_ble_eq_true h.1.1, Nat.le_of_ble_eq_true h.1.2⟩, ⟨Nat.le_of_ble_eq_true h.2.1, Nat.le_of_ble_eq_true h.2.2⟩⟩
section MJF
variable {E : mj_E} {X : mj_XT} {cc : ByteArray} {k n pc : Nat} {L : List (Option Value)} {st : List Value} {h : mj_H}
theorem gj_S1 {i : mj_I} {idx nn : Nat} {as rest : List Value} {v : Value} {h1 : mj_H} (lk : mj_lkS X.1 idx i nn) (hEv : mj_Ev E i as h (mj_R (some v) h1)) (hd : decode cc pc = .ok (.invokestatic idx, 3)) (hs : as.reverse ++ rest = st) (hn : as.length = nn) (hw : Nat.ble ((rest.map fun v => v.category).sum) 8 = true) (hR : mj_rkb X.2.2.1 i k n = true) (h0 : i.2.2.2.2.2 = (0, 0)) (kk : gj E X cc k n (pc + 3) L (v :: rest) h1) : gj E X cc k n pc L st h := by
  refine gj_callS lk hEv hd hs hn (Nat.le_of_ble_eq_true hw) (mj_rk hR) (Or.inl (by rw [h0])) (fun r h' z => ?_)
  obtain ⟨rfl, rfl⟩ := z
  rw [h0]
  exact kk
theorem gj_S0 {i : mj_I} {idx nn : Nat} {as rest : List Value} {h1 : mj_H} (lk : mj_lkS X.1 idx i nn) (hEv : mj_Ev E i as h (mj_R none h1)) (hd : decode cc pc = .ok (.invokestatic idx, 3)) (hs : as.reverse ++ rest = st) (hn : as.length = nn) (hw : Nat.ble ((rest.map fun v => v.category).sum) 8 = true) (hR : mj_rkb X.2.2.1 i k n = true) (h0 : i.2.2.2.2.2 = (0, 0)) (kk : gj E X cc k n (pc + 3) L rest h1) : gj E X cc k n pc L st h := by
  refine gj_callS lk hEv hd hs hn (Nat.le_of_ble_eq_true hw) (mj_rk hR) (Or.inl (by rw [h0])) (fun r h' z => ?_)
  obtain ⟨rfl, rfl⟩ := z
  rw [h0]
  exact kk
theorem gj_N1 {i : mj_I} {idx nn : Nat} {as rest : List Value} {v : Value} {h1 : mj_H} (lk : mj_lkSN X.1 idx i nn) (hEv : mj_Ev E i as h (mj_R (some v) h1)) (hd : decode cc pc = .ok (.invokestatic idx, 3)) (hs : as.reverse ++ rest = st) (hn : as.length = nn) (hw : Nat.ble ((rest.map fun v => v.category).sum) 8 = true) (hR : mj_rkb X.2.2.1 i k n = true) (h0 : i.2.2.2.2.2 = (0, 0)) (kk : gj E X cc k n (pc + 3) L (v :: rest) h1) : gj E X cc k n pc L st h := by
  refine gj_callSN lk hEv hd hs hn (Nat.le_of_ble_eq_true hw) (mj_rk hR) (Or.inl (by rw [h0])) (fun r h' z => ?_)
  obtain ⟨rfl, rfl⟩ := z
  rw [h0]
  exact kk
theorem gj_V1 {i : mj_I} {idx nn a ci : Nat} {as rest : List Value} {fs : List Value} {q : vw_C} {v : Value} {h1 : mj_H} (lk : mj_lkV X.1 idx i nn) (he : h a = some (.inr (ci, fs))) (hc : vwCl[ci]? = some q) (hq : q.1 = i.1.cls) (hEv : mj_Ev E i (.ref a :: as) h (mj_R (some v) h1)) (hd : decode cc pc = .ok (.invokevirtual idx, 3)) (hs : as.reverse ++ .ref a :: rest = st) (hn : as.length = nn) (hw : Nat.ble ((rest.map fun v => v.category).sum) 8 = true) (hR : mj_rkb X.2.2.1 i k n = true) (h0 : i.2.2.2.2.2 = (0, 0)) (kk : gj E X cc k n (pc + 3) L (v :: rest) h1) : gj E X cc k n pc L st h := by
  refine gj_callV lk he hc hq hEv hd hs hn (Nat.le_of_ble_eq_true hw) (mj_rk hR) (Or.inl (by rw [h0])) (fun r h' z => ?_)
  obtain ⟨rfl, rfl⟩ := z
  rw [h0]
  exact kk
theorem gj_V0 {i : mj_I} {idx nn a ci : Nat} {as rest : List Value} {fs : List Value} {q : vw_C} {h1 : mj_H} (lk : mj_lkV X.1 idx i nn) (he : h a = some (.inr (ci, fs))) (hc : vwCl[ci]? = some q) (hq : q.1 = i.1.cls) (hEv : mj_Ev E i (.ref a :: as) h (mj_R none h1)) (hd : decode cc pc = .ok (.invokevirtual idx, 3)) (hs : as.reverse ++ .ref a :: rest = st) (hn : as.length = nn) (hw : Nat.ble ((rest.map fun v => v.category).sum) 8 = true) (hR : mj_rkb X.2.2.1 i k n = true) (h0 : i.2.2.2.2.2 = (0, 0)) (kk : gj E X cc k n (pc + 3) L rest h1) : gj E X cc k n pc L st h := by
  refine gj_callV lk he hc hq hEv hd hs hn (Nat.le_of_ble_eq_true hw) (mj_rk hR) (Or.inl (by rw [h0])) (fun r h' z => ?_)
  obtain ⟨rfl, rfl⟩ := z
  rw [h0]
  exact kk
/-- a call whose answer and cells are told by a property -/
theorem gj_VP {i : mj_I} {idx nn a ci : Nat} {as rest : List Value} {fs : List Value} {q : vw_C} {Z : Option Value → mj_H → Prop} (lk : mj_lkV X.1 idx i nn) (he : h a = some (.inr (ci, fs))) (hc : vwCl[ci]? = some q) (hq : q.1 = i.1.cls) (hEv : mj_Ev E i (.ref a :: as) h Z) (hd : decode cc pc = .ok (.invokevirtual idx, 3)) (hs : as.reverse ++ .ref a :: rest = st) (hn : as.length = nn) (hw : Nat.ble ((rest.map fun v => v.category).sum) 8 = true) (hR : mj_rkb X.2.2.1 i k n = true) (h0 : i.2.2.2.2.2 = (0, 0)) (kk : ∀ r h', Z r h' → gj E X cc k n (pc + 3) L (r.toList ++ rest) h') : gj E X cc k n pc L st h := by
  refine gj_callV lk he hc hq hEv hd hs hn (Nat.le_of_ble_eq_true hw) (mj_rk hR) (Or.inl (by rw [h0])) (fun r h' z => ?_)
  rw [h0]
  exact kk r h' z
theorem gj_ir {i : mj_I} {v w : Int32} {h1 : mj_H} (hr : i.2.2.2.1 = some .int) (hd : decode cc pc = .ok (.ireturn, 1)) (h0 : i.2.2.2.2.2 = (0, 0)) (hv : v = w) (hh : h = h1) : gj E (mj_XM E i (mj_R (some (.int w)) h1)) cc 0 0 pc L [.int v] h :=
  gj_iret hr hd ⟨Nat.zero_le _, Nat.zero_le _⟩ ⟨by rw [hv], hh⟩
theorem gj_zr {i : mj_I} {v : Int32} {b : Bool} {h1 : mj_H} (hr : i.2.2.2.1 = some .boolean) (hd : decode cc pc = .ok (.ireturn, 1)) (h0 : i.2.2.2.2.2 = (0, 0)) (hv : v = mj_b b) (hh : h = h1) : gj E (mj_XM E i (mj_R (some (.int (mj_b b))) h1)) cc 0 0 pc L [.int v] h :=
  gj_zret hr (by subst hv; cases b <;> simp [mj_b]) hd ⟨Nat.zero_le _, Nat.zero_le _⟩ ⟨by rw [hv], hh⟩
theorem gj_lr {i : mj_I} {v w : Int64} {h1 : mj_H} (hr : i.2.2.2.1 = some .long) (hd : decode cc pc = .ok (.lreturn, 1)) (h0 : i.2.2.2.2.2 = (0, 0)) (hv : v = w) (hh : h = h1) : gj E (mj_XM E i (mj_R (some (.long w)) h1)) cc 0 0 pc L [.long v] h :=
  gj_lret hr hd ⟨Nat.zero_le _, Nat.zero_le _⟩ ⟨by rw [hv], hh⟩
theorem gj_vr {i : mj_I} {h1 : mj_H} (hr : i.2.2.2.1 = none) (hd : decode cc pc = .ok (.return_, 1)) (hh : h = h1) : gj E (mj_XM E i (mj_R none h1)) cc 0 0 pc L [] h :=
  gj_vret hr hd ⟨Nat.zero_le _, Nat.zero_le _⟩ ⟨rfl, hh⟩
theorem gj_maxN {idx a b : Nat} {rest : List Value} (l1 : Cond.methodLink X.1 idx Lib.Math.max.name ∈ mj_TB) (l2 : Cond.static Lib.Math.max.name ∈ mj_TB) (l3 : Cond.initialized "java/lang/Math" ∈ mj_TB) (l4 : Cond.code Lib.Math.max.name Lib.Math.max.code 2 (some .int) ∈ mj_TB) (ha : a < 2 ^ 31) (hb : b < 2 ^ 31) (hd : decode cc pc = .ok (.invokestatic idx, 3)) (hw : Nat.ble ((rest.map fun v => v.category).sum) 8 = true) (hR : ((Nat.ble 1 X.2.2.1.frames && Nat.ble 21 X.2.2.1.locals) && (Nat.ble k X.2.2.1.cells && Nat.ble n X.2.2.1.slots)) = true) (kk : gj E X cc k n (pc + 3) L (.int (nI (max a b)) :: rest) h) : gj E X cc k n pc L (.int (nI b) :: .int (nI a) :: rest) h := by
  simp only [Bool.and_eq_true] at hR
  refine gj_max l1 l2 l3 l4 hd (Nat.le_of_ble_eq_true hw) ⟨⟨Nat.le_of_ble_eq_true hR.1.1, Nat.le_of_ble_eq_true hR.1.2⟩, Nat.le_of_ble_eq_true hR.2.1, Nat.le_of_ble_eq_true hR.2.2⟩ (gj_top ?_ kk)
  by_cases z : a < b
  · rw [if_pos ((nI_ltI ha hb).mpr z), Nat.max_eq_right (Nat.le_of_lt z)]
  · rw [if_neg (fun w => z ((nI_ltI ha hb).mp w)), Nat.max_eq_left (Nat.not_lt.mp z)]
theorem gj_minN {idx a b : Nat} {rest : List Value} (l1 : Cond.methodLink X.1 idx Lib.Math.min.name ∈ mj_TB) (l2 : Cond.static Lib.Math.min.name ∈ mj_TB) (l3 : Cond.initialized "java/lang/Math" ∈ mj_TB) (l4 : Cond.code Lib.Math.min.name Lib.Math.min.code 2 (some .int) ∈ mj_TB) (ha : a < 2 ^ 31) (hb : b < 2 ^ 31) (hd : decode cc pc = .ok (.invokestatic idx, 3)) (hw : Nat.ble ((rest.map fun v => v.category).sum) 8 = true) (hR : ((Nat.ble 1 X.2.2.1.frames && Nat.ble 21 X.2.2.1.locals) && (Nat.ble k X.2.2.1.cells && Nat.ble n X.2.2.1.slots)) = true) (kk : gj E X cc k n (pc + 3) L (.int (nI (min a b)) :: rest) h) : gj E X cc k n pc L (.int (nI b) :: .int (nI a) :: rest) h := by
  simp only [Bool.and_eq_true] at hR
  refine gj_min l1 l2 l3 l4 hd (Nat.le_of_ble_eq_true hw) ⟨⟨Nat.le_of_ble_eq_true hR.1.1, Nat.le_of_ble_eq_true hR.1.2⟩, Nat.le_of_ble_eq_true hR.2.1, Nat.le_of_ble_eq_true hR.2.2⟩ (gj_top ?_ kk)
  by_cases z : b < a
  · rw [if_pos ((nI_ltI hb ha).mpr z), Nat.min_eq_right (Nat.le_of_lt z)]
  · rw [if_neg (fun w => z ((nI_ltI hb ha).mp w)), Nat.min_eq_left (Nat.not_lt.mp z)]
end MJF
