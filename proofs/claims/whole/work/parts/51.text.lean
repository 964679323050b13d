def wl_s : List (Nat × Cond) := [(456, Cond.fieldLink RJ0 38 "java/lang/String" "COMPACT_STRINGS" "Z"), (472, Cond.fieldLink RJ0 1053 "jdk/internal/util/Preconditions" "SIOOBE_FORMATTER" "Ljava/util/function/BiFunction;"), (1441, Cond.fieldLink RJ0 9 "java/lang/String" "value" "[B"), (1442, Cond.fieldLink RJ0 15 "java/lang/String" "coder" "B")]
theorem wt_s : wl_s.all (fun q => goodWord q.2 && lw_tbl[q.1]? == some q.2) = true := by decide +kernel
theorem w_456 : Cond.fieldLink RJ0 38 "java/lang/String" "COMPACT_STRINGS" "Z" ∈ mj_TB := mj_wl (n := 456) wt_s (k := 0) rfl
theorem w_472 : Cond.fieldLink RJ0 1053 "jdk/internal/util/Preconditions" "SIOOBE_FORMATTER" "Ljava/util/function/BiFunction;" ∈ mj_TB := mj_wl (n := 472) wt_s (k := 1) rfl
theorem w_1441 : Cond.fieldLink RJ0 9 "java/lang/String" "value" "[B" ∈ mj_TB := mj_wl (n := 1441) wt_s (k := 2) rfl
theorem w_1442 : Cond.fieldLink RJ0 15 "java/lang/String" "coder" "B" ∈ mj_TB := mj_wl (n := 1442) wt_s (k := 3) rfl
theorem mj_F.str {E : mj_E} {φ : Nat → Nat} (F : mj_F E φ) {i : Nat} (hi : i < 4) : φ (1000 + i) = E.2.2.2.1 i := by
  have := F i (by omega)
  unfold mj_ad at this
  rwa [if_pos (by omega)] at this
theorem mj_F.val {E : mj_E} {φ : Nat → Nat} (F : mj_F E φ) {i : Nat} (hi : i < 4) : φ (1010 + i) = E.2.2.2.2 i := by
  have := F (10 + i) (by omega)
  unfold mj_ad at this
  rwa [if_neg (by omega), show 10 + i - 10 = i by omega, show 1000 + (10 + i) = 1010 + i by omega] at this
theorem mj_F.frm {E : mj_E} {φ : Nat → Nat} (F : mj_F E φ) : φ 1020 = E.2.2.2.2 10 := F 20 (by decide)
theorem mj_sl : ∀ j, j < 4 → 4 ≤ mj_slen.getD j 0 ∧ mj_slen.getD j 0 ≤ 5 := by decide +kernel
section MJG
variable {E : mj_E} {X : mj_XT} {cc : ByteArray} {k n pc : Nat} {L : List (Option Value)} {st : List Value} {h : mj_H}
theorem gj_ldcS {i idx : Nat} {tx : String} (hi : i < 4) (hX : X.1 = RX5) (hr : ∀ U, mj_sref E U → vk_R RX5 idx tx (E.2.2.2.1 i) U) (hd : decode cc pc = .ok (.ldc idx, 2)) (kk : gj E X cc k n (pc + 2) L (.ref (1000 + i) :: st) h) : gj E X cc k n pc L st h := by
  intro p e c args s m meth below A h0 φ0 φ H locs ls S Y
  have K := kk p e c args s m meth below A h0 φ0 φ H locs ls S Y
  have e1 : (Value.ref (1000 + i) :: st).map (mj_v φ) = .ref (E.2.2.2.1 i) :: st.map (mj_v φ) := by rw [← Y.2.2.2.2.2.1.str hi]; rfl
  rw [e1] at K
  exact va_ldcS (own := X.1) (tx := tx) S.1 S.2.1 S.2.2.2.1 (by rw [hX]; exact hr _ S.2.2.2.2.2.1.2.2.2.1) hd K
theorem gj_callVS {i : mj_I} {idx nn j : Nat} {as rest : List Value} {Z : Option Value → mj_H → Prop} (lk : mj_lkV X.1 idx i nn) (hj : j < 4) (hq : "java/lang/String" = i.1.cls) (hEv : mj_Ev E i (.ref (1000 + j) :: as) h Z) (hd : decode cc pc = .ok (.invokevirtual idx, 3)) (hs : as.reverse ++ .ref (1000 + j) :: rest = st) (hn : as.length = nn) (hw : (rest.map fun v => v.category).sum ≤ 8) (hR : mj_rok X.2.2.1 i k n) (hal : i.2.2.2.2.2.1 = 0 ∨ (mj_alL h L ∧ ∀ v ∈ rest, mj_vl h v))
    (kk : ∀ r h', Z r h' → gj E X cc (k + i.2.2.2.2.2.1) (n + i.2.2.2.2.2.2) (pc + 3) L (r.toList ++ rest) h') : gj E X cc k n pc L st h := by
  subst hs
  intro p e c args s m meth below A h0 φ0 φ H locs ls S Y
  obtain ⟨l1, l2, l3, l4, l5, l6⟩ := lk
  have hrec := vk_recv S.2.2.2.2.2.1.2.2.2.2.1 hj Y.2.2.2.2.1
  rw [hq, ← Y.2.2.2.2.2.1.str hj] at hrec
  refine mj_after S Y (va_runV (As := as.map (mj_v φ)) (C := i.1.cls) (b := φ (1000 + j)) ⟨S.1, S.2.1, S.2.2.1, S.2.2.2.1, S.2.2.2.2.1⟩ (hEv φ H.size) (cwV nn S.2.2.2.2.1 ?_ rfl rfl rfl ⟨rfl, l6⟩ hR.1) ⟨mj_blind, hrec, mj_pre (as := .ref (1000 + j) :: as) S Y⟩ rfl (by rw [List.length_map]; exact hn) Y.2.2.2.2.2.2.1 mj_rev (lv_room (by rw [mj_sum]; exact hw)) hd hR.2) hal kk
  intro w hw
  rcases List.mem_append.mp hw with hw | hw
  · simp only [List.mem_cons, List.not_mem_nil, or_false] at hw
    rcases hw with rfl | rfl | rfl | rfl
    · exact ⟨l1, mj_good l1⟩
    · exact ⟨l2, mj_good l2⟩
    · exact ⟨l3, mj_good l3⟩
    · exact ⟨l4, mj_good l4⟩
  · exact mj_gws l5 w hw
theorem gj_VS1 {i : mj_I} {idx nn j : Nat} {as rest : List Value} {v : Value} {h1 : mj_H} (lk : mj_lkV X.1 idx i nn) (hj : j < 4) (hq : "java/lang/String" = i.1.cls) (hEv : mj_Ev E i (.ref (1000 + j) :: as) h (mj_R (some v) h1)) (hd : decode cc pc = .ok (.invokevirtual idx, 3)) (hs : as.reverse ++ .ref (1000 + j) :: rest = st) (hn : as.length = nn) (hw : Nat.ble ((rest.map fun v => v.category).sum) 8 = true) (hR : mj_rkb X.2.2.1 i k n = true) (h0 : i.2.2.2.2.2 = (0, 0)) (kk : gj E X cc k n (pc + 3) L (v :: rest) h1) : gj E X cc k n pc L st h := by
  have e1 : i.2.2.2.2.2.1 = 0 := by rw [h0]
  have e2 : i.2.2.2.2.2.2 = 0 := by rw [h0]
  refine gj_callVS lk hj hq hEv hd hs hn (Nat.le_of_ble_eq_true hw) (mj_rk hR) (Or.inl e1) (fun r h' hz => ?_)
  obtain ⟨rfl, rfl⟩ := hz
  rw [e1, e2]
  exact kk
theorem gj_getv {j idx : Nat} (hj : j < 4) (hX : X.1 = RJ0) (hl : Cond.fieldLink RJ0 idx "java/lang/String" "value" "[B" ∈ mj_TB) (hd : decode cc pc = .ok (.getfield idx, 3)) (kk : gj E X cc k n (pc + 3) L (.ref (1010 + j) :: st) h) : gj E X cc k n pc L (.ref (1000 + j) :: st) h := by
  intro p e c args s m meth below A h0 φ0 φ H locs ls S Y
  have K := kk p e c args s m meth below A h0 φ0 φ H locs ls S Y
  have hs := S.2.2.2.2.2.1.2.2.2.2.1.1 j hj
  have e1 : (Value.ref (1000 + j) :: st).map (mj_v φ) = .ref (E.2.2.2.1 j) :: st.map (mj_v φ) := by rw [← Y.2.2.2.2.2.1.str hj]; rfl
  have e2 : (Value.ref (1010 + j) :: st).map (mj_v φ) = .ref (E.2.2.2.2 j) :: st.map (mj_v φ) := by rw [← Y.2.2.2.2.2.1.val hj]; rfl
  rw [e2] at K
  rw [e1]
  exact vk_getf (own := X.1) (ref := "java/lang/String") S.1 S.2.1 hs.2.2.1 Y.2.2.2.2.1 S.2.2.2.1 (by rw [hX]; exact S.2.2.2.2.1 _ hl) (fun _ z => z) hd K
theorem gj_getc {j idx : Nat} (hj : j < 4) (hX : X.1 = RJ0) (hl : Cond.fieldLink RJ0 idx "java/lang/String" "coder" "B" ∈ mj_TB) (hd : decode cc pc = .ok (.getfield idx, 3)) (kk : gj E X cc k n (pc + 3) L (.int (nI 0) :: st) h) : gj E X cc k n pc L (.ref (1000 + j) :: st) h := by
  intro p e c args s m meth below A h0 φ0 φ H locs ls S Y
  have K := kk p e c args s m meth below A h0 φ0 φ H locs ls S Y
  have hs := S.2.2.2.2.2.1.2.2.2.2.1.1 j hj
  have e1 : (Value.ref (1000 + j) :: st).map (mj_v φ) = .ref (E.2.2.2.1 j) :: st.map (mj_v φ) := by rw [← Y.2.2.2.2.2.1.str hj]; rfl
  rw [e1]
  exact vk_getf (own := X.1) (ref := "java/lang/String") S.1 S.2.1 hs.2.1 Y.2.2.2.2.1 S.2.2.2.1 (by rw [hX]; exact S.2.2.2.2.1 _ hl) (fun _ z => z) hd K
theorem gj_bald {j a : Nat} {v : Int32} (hj : j < 4) (ha : a < mj_slen.getD j 0) (ha2 : a < 2 ^ 31) (hv : (mj_sbyt.getD j []).getD a 0 = v) (hd : decode cc pc = .ok (.baload, 1)) (kk : gj E X cc k n (pc + 1) L (.int v :: st) h) : gj E X cc k n pc L (.int (nI a) :: .ref (1010 + j) :: st) h := by
  intro p e c args s m meth below A h0 φ0 φ H locs ls S Y
  have K := kk p e c args s m meth below A h0 φ0 φ H locs ls S Y
  have hs := S.2.2.2.2.2.1.2.2.2.2.1.1 j hj
  have e1 : (Value.int (nI a) :: Value.ref (1010 + j) :: st).map (mj_v φ) = .int (nI a) :: .ref (E.2.2.2.2 j) :: st.map (mj_v φ) := by rw [← Y.2.2.2.2.2.1.val hj]; rfl
  rw [e1]
  exact va_tb S.1 S.2.1 hs.2.2.2 Y.2.2.2.2.1 (vp_in_nI ha (Nat.lt_of_le_of_lt (mj_sl j hj).2 (by decide))) (v := .int v) (by rw [nI_clamp ha2, hv]) hd K
theorem gj_alenS {j : Nat} (hj : j < 4) (hd : decode cc pc = .ok (.arraylength, 1)) (kk : gj E X cc k n (pc + 1) L (.int (nI (mj_slen.getD j 0)) :: st) h) : gj E X cc k n pc L (.ref (1010 + j) :: st) h := by
  intro p e c args s m meth below A h0 φ0 φ H locs ls S Y
  have K := kk p e c args s m meth below A h0 φ0 φ H locs ls S Y
  have hs := S.2.2.2.2.2.1.2.2.2.2.1.1 j hj
  have e1 : (Value.ref (1010 + j) :: st).map (mj_v φ) = .ref (E.2.2.2.2 j) :: st.map (mj_v φ) := by rw [← Y.2.2.2.2.2.1.val hj]; rfl
  rw [e1]
  exact va_tlen S.1 S.2.1 hs.2.2.2 Y.2.2.2.2.1 rfl hd K
theorem gj_cs (hX : X.1 = RJ0) (hd : decode cc pc = .ok (.getstatic 38, 3)) (kk : gj E X cc k n (pc + 3) L (.int (nI 1) :: st) h) : gj E X cc k n pc L st h := by
  intro p e c args s m meth below A h0 φ0 φ H locs ls S Y
  exact va_gets (own := X.1) (ref := "java/lang/String") S.1 S.2.1 S.2.2.2.2.2.1.2.2.2.2.2.1 Y.2.2.2.2.1 S.2.2.2.1 (by rw [hX]; exact S.2.2.2.2.1 _ w_456) (fun _ z => z) hd (kk p e c args s m meth below A h0 φ0 φ H locs ls S Y)
theorem gj_fm (hX : X.1 = RJ0) (hd : decode cc pc = .ok (.getstatic 1053, 3)) (k1 : gj E X cc k n (pc + 3) L (.null :: st) h) (k2 : gj E X cc k n (pc + 3) L (.ref 1020 :: st) h) : gj E X cc k n pc L st h := by
  intro p e c args s m meth below A h0 φ0 φ H locs ls S Y
  rcases S.2.2.2.2.2.1.2.2.2.2.2.2 with z | z
  · exact va_gets (own := X.1) (ref := "jdk/internal/util/Preconditions") S.1 S.2.1 z Y.2.2.2.2.1 S.2.2.2.1 (by rw [hX]; exact S.2.2.2.2.1 _ w_472) (fun _ z => z) hd (k1 p e c args s m meth below A h0 φ0 φ H locs ls S Y)
  · have K := k2 p e c args s m meth below A h0 φ0 φ H locs ls S Y
    have e1 : (Value.ref 1020 :: st).map (mj_v φ) = .ref (E.2.2.2.2 10) :: st.map (mj_v φ) := by rw [← Y.2.2.2.2.2.1.frm]; rfl
    rw [e1] at K
    exact va_gets (own := X.1) (ref := "jdk/internal/util/Preconditions") S.1 S.2.1 z Y.2.2.2.2.1 S.2.2.2.1 (by rw [hX]; exact S.2.2.2.2.1 _ w_472) (fun _ z => z) hd K
theorem gj_nret {i : mj_I} {ty : FieldType} {v w : Int32} {h1 : mj_H} (hr : i.2.2.2.1 = some ty) (hn : narrow ty (.int w) = .int w) (hd : decode cc pc = .ok (.ireturn, 1)) (h0 : i.2.2.2.2.2 = (0, 0)) (hv : v = w) (hh : h = h1) : gj E (mj_XM E i (mj_R (some (.int w)) h1)) cc 0 0 pc L [.int v] h := by
  subst hv
  intro p e c args s m meth below A h0 φ0 φ H locs ls S Y
  refine W.widen (k := i.2.2.2.2.2.1) (n := i.2.2.2.2.2.2) (Nat.zero_le _) (Nat.zero_le _) ?_
  exact W.zret (v := v) (ty := ty) S.1 S.2.1 (S.2.2.2.2.2.2.2.1.trans hr) hn (mj_endQ (i := i) (r := some (.int v)) Y (fun q => rfl) ⟨rfl, hh⟩ args) Y.2.2.2.2.1.2.2 hd S.2.2.2.2.2.2.2.2.1
end MJG
/-- the char at i of the string j -/
def sp_sch (j i : Nat) : Nat := ((mj_sbyt.getD j []).getD i 0).toNatClampNeg
theorem sp_sch_v : ∀ j, j < 4 → ∀ i, i < 5 → (((mj_sbyt.getD j []).getD i 0 &&& nI 255).toUInt32 % 65536).toInt32 = nI (sp_sch j i) := by decide +kernel
theorem sp_sch_n : ∀ j, j < 4 → ∀ i, i < 5 → narrow .char (.int (nI (sp_sch j i))) = .int (nI (sp_sch j i)) := by decide +kernel
theorem sp_sch_le : ∀ j, j < 4 → ∀ i, i < 5 → sp_sch j i ≤ 122 := by decide +kernel
set_option maxHeartbeats 1000000 in
set_option maxRecDepth 10000 in
theorem ev_J0_coder_7d493 {E : mj_E} {h : mj_H} {j : Nat} (hj : j < 4) : mj_Ev E iJ0_coder_7d493 [.ref (1000 + j)] h (mj_R (some (.int (nI 0))) h) := by
  refine mj_Ev.of (L0 := [some (.ref (1000 + j))]) pnRJ0 (Nat.le_of_ble_eq_true rfl) rfl ?_
  refine gj_cs rfl dJ0_coder_7d493_0 ?_
  refine gj_if_eqN (tgt := 13) (by omega) dJ0_coder_7d493_3 rfl (fun zq0 => ?_) (fun zq0 => ?_)
  · exfalso; revert zq0; decide
  refine gj_aload_n dJ0_coder_7d493_6 rfl ?_
  refine gj_getc (by omega) rfl w_1442 dJ0_coder_7d493_7 ?_
  refine gj_goto (tgt := 14) dJ0_coder_7d493_10 rfl ?_
  exact gj_nret (ty := .byte) rfl rfl dJ0_coder_7d493_14 rfl rfl rfl
set_option maxHeartbeats 1000000 in
set_option maxRecDepth 10000 in
theorem ev_J0_isLatin1_aae02 {E : mj_E} {h : mj_H} {j : Nat} (hj : j < 4) : mj_Ev E iJ0_isLatin1_aae02 [.ref (1000 + j)] h (mj_R (some (.int (mj_b true))) h) := by
  refine mj_Ev.of (L0 := [some (.ref (1000 + j))]) pnRJ0 (Nat.le_of_ble_eq_true rfl) rfl ?_
  refine gj_cs rfl dJ0_isLatin1_aae02_0 ?_
  refine gj_if_eqN (tgt := 17) (by omega) dJ0_isLatin1_aae02_3 rfl (fun zq0 => ?_) (fun zq0 => ?_)
  · exfalso; revert zq0; decide
  refine gj_aload_n dJ0_isLatin1_aae02_6 rfl ?_
  refine gj_getc (by omega) rfl w_1442 dJ0_isLatin1_aae02_7 ?_
  refine gj_if_neN (tgt := 17) (by omega) dJ0_isLatin1_aae02_10 rfl (fun zq0 => ?_) (fun zq0 => ?_)
  · exfalso; revert zq0; decide
  refine gj_ic (w := 1) dJ0_isLatin1_aae02_13 ?_
  refine gj_goto (tgt := 18) dJ0_isLatin1_aae02_14 rfl ?_
  exact gj_zr rfl dJ0_isLatin1_aae02_18 rfl (mj_b1 (by decide)) rfl
set_option maxHeartbeats 1000000 in
set_option maxRecDepth 10000 in
theorem ev_J0_length_8abf5 {E : mj_E} {h : mj_H} {j : Nat} (hj : j < 4) : mj_Ev E iJ0_length_8abf5 [.ref (1000 + j)] h (mj_R (some (.int (nI (mj_slen.getD j 0)))) h) := by
  have hsl := mj_sl j hj
  refine mj_Ev.of (L0 := [some (.ref (1000 + j))]) pnRJ0 (Nat.le_of_ble_eq_true rfl) rfl ?_
  refine gj_aload_n dJ0_length_8abf5_0 rfl ?_
  refine gj_getv (by omega) rfl w_1441 dJ0_length_8abf5_1 ?_
  refine gj_alenS (by omega) dJ0_length_8abf5_4 ?_
  refine gj_aload_n dJ0_length_8abf5_5 rfl ?_
  refine gj_VS1 lkJ0_335 (by omega) rfl (ev_J0_coder_7d493 (by omega)) dJ0_length_8abf5_6 rfl rfl rfl rfl rfl ?_
  refine gj_ishrN (by omega) (by omega) dJ0_length_8abf5_9 ?_
  exact gj_ir rfl dJ0_length_8abf5_10 rfl (congrArg nI (by exact Nat.shiftRight_zero)) rfl
set_option maxHeartbeats 1000000 in
set_option maxRecDepth 10000 in
theorem ev_J3_checkIndex_null {E : mj_E} {h : mj_H} {i z : Nat} (hi : i < z) (hz : z < 2 ^ 31) : mj_Ev E iJ3_checkIndex_8e157 [.int (nI i), .int (nI z), .null] h (mj_R (some (.int (nI i))) h) := by
  refine mj_Ev.of (L0 := [some (.int (nI i)), some (.int (nI z)), some (.null)]) pnRJ3 (Nat.le_of_ble_eq_true rfl) rfl ?_
  refine gj_iload_n dJ3_checkIndex_8e157_0 rfl ?_
  refine gj_if_ltN (tgt := 9) (by omega) dJ3_checkIndex_8e157_1 rfl (fun zq1 => ?_) (fun zq1 => ?_)
  · exfalso; omega
  refine gj_iload_n dJ3_checkIndex_8e157_4 rfl ?_
  refine gj_iload_n dJ3_checkIndex_8e157_5 rfl ?_
  refine gj_icmp_ltN (tgt := 16) (by omega) (by omega) dJ3_checkIndex_8e157_6 rfl (fun zq2 => ?_) (fun zq2 => ?_)
  rotate_left
  · exfalso; omega
  refine gj_iload_n dJ3_checkIndex_8e157_16 rfl ?_
  exact gj_ir rfl dJ3_checkIndex_8e157_17 rfl rfl rfl
set_option maxHeartbeats 1000000 in
set_option maxRecDepth 10000 in
theorem ev_J3_checkIndex_ref {E : mj_E} {h : mj_H} {i z : Nat} (hi : i < z) (hz : z < 2 ^ 31) : mj_Ev E iJ3_checkIndex_8e157 [.int (nI i), .int (nI z), .ref 1020] h (mj_R (some (.int (nI i))) h) := by
  refine mj_Ev.of (L0 := [some (.int (nI i)), some (.int (nI z)), some (.ref 1020)]) pnRJ3 (Nat.le_of_ble_eq_true rfl) rfl ?_
  refine gj_iload_n dJ3_checkIndex_8e157_0 rfl ?_
  refine gj_if_ltN (tgt := 9) (by omega) dJ3_checkIndex_8e157_1 rfl (fun zq1 => ?_) (fun zq1 => ?_)
  · exfalso; omega
  refine gj_iload_n dJ3_checkIndex_8e157_4 rfl ?_
  refine gj_iload_n dJ3_checkIndex_8e157_5 rfl ?_
  refine gj_icmp_ltN (tgt := 16) (by omega) (by omega) dJ3_checkIndex_8e157_6 rfl (fun zq2 => ?_) (fun zq2 => ?_)
  rotate_left
  · exfalso; omega
  refine gj_iload_n dJ3_checkIndex_8e157_16 rfl ?_
  exact gj_ir rfl dJ3_checkIndex_8e157_17 rfl rfl rfl
set_option maxHeartbeats 1000000 in
set_option maxRecDepth 10000 in
theorem ev_J0_checkIndex_df160 {E : mj_E} {h : mj_H} {i z : Nat} (hi : i < z) (hz : z < 2 ^ 31) : mj_Ev E iJ0_checkIndex_df160 [.int (nI i), .int (nI z)] h (mj_R none h) := by
  refine mj_Ev.of (L0 := [some (.int (nI i)), some (.int (nI z))]) pnRJ0 (Nat.le_of_ble_eq_true rfl) rfl ?_
  refine gj_iload_n dJ0_checkIndex_df160_0 rfl ?_
  refine gj_iload_n dJ0_checkIndex_df160_1 rfl ?_
  refine gj_fm rfl dJ0_checkIndex_df160_2 ?_ ?_
  · -- null
    refine gj_S1 lkJ0_1059 (ev_J3_checkIndex_null (by omega) (by omega)) dJ0_checkIndex_df160_5 rfl rfl rfl rfl rfl ?_
    refine gj_pop dJ0_checkIndex_df160_8 rfl ?_
    exact gj_vr rfl dJ0_checkIndex_df160_9 rfl
  refine gj_S1 lkJ0_1059 (ev_J3_checkIndex_ref (by omega) (by omega)) dJ0_checkIndex_df160_5 rfl rfl rfl rfl rfl ?_
  refine gj_pop dJ0_checkIndex_df160_8 rfl ?_
  exact gj_vr rfl dJ0_checkIndex_df160_9 rfl
set_option maxHeartbeats 1000000 in
set_option maxRecDepth 10000 in
theorem ev_J1_charAt_3b067 {E : mj_E} {h : mj_H} {j i : Nat} (hj : j < 4) (hi : i < mj_slen.getD j 0) : mj_Ev E iJ1_charAt_3b067 [.ref (1010 + j), .int (nI i)] h (mj_R (some (.int (nI (sp_sch j i)))) h) := by
  have hsl := mj_sl j hj
  refine mj_Ev.of (L0 := [some (.ref (1010 + j)), some (.int (nI i))]) pnRJ1 (Nat.le_of_ble_eq_true rfl) rfl ?_
  refine gj_iload_n dJ1_charAt_3b067_0 rfl ?_
  refine gj_aload_n dJ1_charAt_3b067_1 rfl ?_
  refine gj_alenS (by omega) dJ1_charAt_3b067_2 ?_
  refine gj_S0 lkJ1_9 (ev_J0_checkIndex_df160 (by omega) (by omega)) dJ1_charAt_3b067_3 rfl rfl rfl rfl rfl ?_
  refine gj_aload_n dJ1_charAt_3b067_6 rfl ?_
  refine gj_iload_n dJ1_charAt_3b067_7 rfl ?_
  refine gj_bald (by omega) (by omega) (by omega) rfl dJ1_charAt_3b067_8 ?_
  refine gj_sp 255 dJ1_charAt_3b067_9 (by decide) ?_
  refine gj_iand dJ1_charAt_3b067_12 ?_
  refine gj_i2c (v := (nI (sp_sch j i))) dJ1_charAt_3b067_13 (sp_sch_v j hj i (by omega)) ?_
  exact gj_nret (ty := .char) rfl (sp_sch_n j hj i (by omega)) dJ1_charAt_3b067_14 rfl rfl rfl
set_option maxHeartbeats 1000000 in
set_option maxRecDepth 10000 in
theorem ev_J0_charAt_5068e {E : mj_E} {h : mj_H} {j i : Nat} (hj : j < 4) (hi : i < mj_slen.getD j 0) : mj_Ev E iJ0_charAt_5068e [.ref (1000 + j), .int (nI i)] h (mj_R (some (.int (nI (sp_sch j i)))) h) := by
  have hsl := mj_sl j hj
  refine mj_Ev.of (L0 := [some (.ref (1000 + j)), some (.int (nI i))]) pnRJ0 (Nat.le_of_ble_eq_true rfl) rfl ?_
  refine gj_aload_n dJ0_charAt_5068e_0 rfl ?_
  refine gj_VS1 lkJ0_492 (by omega) rfl (ev_J0_isLatin1_aae02 (by omega)) dJ0_charAt_5068e_1 rfl rfl rfl rfl rfl ?_
  refine gj_if_eqb (tgt := 16) dJ0_charAt_5068e_4 rfl (fun zq1 => ?_) (fun zq1 => ?_)
  · exfalso; exact nomatch zq1
  refine gj_aload_n dJ0_charAt_5068e_7 rfl ?_
  refine gj_getv (by omega) rfl w_1441 dJ0_charAt_5068e_8 ?_
  refine gj_iload_n dJ0_charAt_5068e_11 rfl ?_
  refine gj_S1 lkJ0_495 (ev_J1_charAt_3b067 (by omega) (by omega)) dJ0_charAt_5068e_12 rfl rfl rfl rfl rfl ?_
  exact gj_nret (ty := .char) rfl (sp_sch_n j hj i (by omega)) dJ0_charAt_5068e_15 rfl rfl rfl
