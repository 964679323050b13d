/-- the reference's object when the text is at its token t -/
def mj_mt (a0 a1 n : Nat) (B : Nat → Nat) (t : Nat) : va_E := mj_mo a0 a1 n (sp_ss B n t) (sp_ps B n (t + 1) - sp_ss B n t) (sp_xkt B n t) (sp_xvt B n t)
theorem mj_p3 {h : mj_H} {z x y : va_E} (h0 : h 100 = some z) (h8 : h 108 = some x) (h9 : h 109 = some y) : h = mj_up (mj_up (mj_up h 100 z) 108 x) 109 y := by
  funext j; unfold mj_up; (repeat' split) <;> first | rfl | (subst_vars; assumption)
theorem mj_p2 {h : mj_H} {z x y : va_E} (h8 : h 108 = some x) (h9 : h 109 = some y) : mj_up h 100 z = mj_up (mj_up (mj_up h 100 z) 108 x) 109 y := by
  funext j; unfold mj_up; (repeat' split) <;> first | rfl | omega | (subst_vars; assumption)
theorem mj_p1 {h : mj_H} {z x y : va_E} (h8 : h 108 = some x) : mj_up (mj_up h 100 z) 109 y = mj_up (mj_up (mj_up h 100 z) 108 x) 109 y := by
  funext j; unfold mj_up; (repeat' split) <;> first | rfl | omega | (subst_vars; assumption)
theorem mj_p6 {h : mj_H} {a b c a' b' c' : va_E} : mj_up (mj_up (mj_up (mj_up (mj_up (mj_up h 100 a) 108 b) 109 c) 100 a') 108 b') 109 c' = mj_up (mj_up (mj_up h 100 a') 108 b') 109 c' := by
  funext j; unfold mj_up; (repeat' split) <;> first | rfl | omega
def mj_Zj (h : mj_H) (a0 a1 n : Nat) (B : Nat → Nat) (t : Nat) (A : Nat → Nat) : Option Value → mj_H → Prop := fun r h' => ∃ (ok : Bool) (A' W' : Nat → Nat), r = some (.int (mj_b ok)) ∧ h' = mj_up (mj_up (mj_up h 100 (mj_mt a0 a1 n B (pi_en B n t (A 0)))) 108 (mj_ar 154 A')) 109 (mj_ar 3 W') ∧ (pi_ok B n t (A 0) = true → ok = true ∧ A' = pi_A B n t A) ∧ (pi_ok B n t (A 0) = false → ok = true → ¬ sp_tt B n (pi_en B n t (A 0)) = 4294967294)
theorem mj_Zj_f {h : mj_H} {a0 a1 n : Nat} {B : Nat → Nat} {t u : Nat} {A A' W' : Nat → Nat} (hok : pi_ok B n t (A 0) = false) (hen : pi_en B n t (A 0) = u) : mj_Zj h a0 a1 n B t A (some (.int (mj_b false))) (mj_up (mj_up (mj_up h 100 (mj_mt a0 a1 n B u)) 108 (mj_ar 154 A')) 109 (mj_ar 3 W')) := by
  refine ⟨false, A', W', rfl, by rw [hen], fun z => ?_, fun _ z => nomatch z⟩
  rw [hok] at z; exact nomatch z
set_option maxHeartbeats 4000000 in
theorem ev_X11_item {E : mj_E} {h : mj_H} {a0 a1 n t : Nat} {B A W : Nat → Nat} (H0 : h 100 = some (mj_mt a0 a1 n B t)) (HB : h 107 = some (mj_ar 150 B)) (HA : h 108 = some (mj_ar 154 A)) (HW : h 109 = some (mj_ar 3 W)) (hB : ∀ c, B c ≤ 127) (hn : n ≤ 150) (ht : t < sp_tE B n) (hz : A 0 ≤ 7) : mj_Ev E iX11_takesItem [.ref 100] h (mj_Zj h a0 a1 n B t A) := by
  have hE := sp_tE_le (B := B) hn
  by_cases q1 : sp_tt B n t = 4294967291
  · by_cases q : sp_tt B n (t + 1) ≤ 5
    · have hen : pi_en B n t (A 0) = t + 1 + sp_m1 B n t + 1 := by unfold pi_en; rw [if_pos q1, if_pos q]
      by_cases q0 : sp_tt B n (t + 1 + 0 + 1) ≤ 24
      · have ht1 : t + 1 < sp_tE B n := sp_tE_lt hn (by omega) (by omega)
        refine (ev_X11_rd_item_cell H0 HB HA HW hB hn q1 q q0 ht1).mono ?_
        rintro r h' ⟨rfl, rfl⟩
        refine ⟨true, _, _, rfl, by rw [hen]; rfl, fun _ => ⟨rfl, ?_⟩, fun z _ => ?_⟩
        · unfold pi_A; rw [if_pos q1]; rfl
        · have hm : 0 < sp_m1 B n t := by
            rcases Nat.eq_zero_or_pos (sp_m1 B n t) with w | w
            · exfalso
              have hc : sp_cmp B n (t + 1) (sp_m1 B n t) = true := sp_fst_t (p := sp_cmp B n (t + 1)) (n := 150) (by show sp_m1 B n t < 150; omega)
              rw [w] at hc
              unfold sp_cmp at hc
              rw [decide_eq_true q0] at hc
              exact absurd hc (by decide)
            · exact w
          intro y
          unfold pi_ok at z
          rw [if_pos q1] at z
          rw [hen] at y
          exact of_decide_eq_false z ⟨q, hm, y⟩
      · have hm : sp_m1 B n t = 0 := by
          rcases Nat.eq_zero_or_pos (sp_m1 B n t) with w | w
          · exact w
          · exact absurd (sp_m1_f w) q0
        refine (ev_X11_rd_item_cell_k2 H0 HB HW hB hn q1 q q0).mono ?_
        rintro r h' ⟨rfl, rfl⟩
        rw [mj_p1 HA]
        refine mj_Zj_f (u := t + 2) ?_ (by rw [hen, hm])
        unfold pi_ok; rw [if_pos q1]; exact decide_eq_false fun z => by omega
    · refine (ev_X11_rd_item_cell_k H0 HB hB hn q1 q).mono ?_
      rintro r h' ⟨rfl, rfl⟩
      rw [mj_p2 HA HW]
      exact mj_Zj_f (u := t + 1) (by unfold pi_ok; rw [if_pos q1]; exact decide_eq_false fun z => q z.1) (by unfold pi_en; rw [if_pos q1, if_neg q])
  by_cases q2 : sp_tt B n t = 4294967290
  · refine (ev_X11_rd_item_week H0 HB HA HW hB hn q2).mono ?_
    rintro r h' ⟨rfl, rfl⟩
    have hen : pi_en B n t (A 0) = sp_we B n t (sp_m2 B n t) := by unfold pi_en; rw [if_neg q1, if_pos q2]
    have hok : pi_ok B n t (A 0) = decide (0 < sp_m2 B n t ∧ sp_tt B n (t + 2 * sp_m2 B n t + 1) = 4294967294) := by unfold pi_ok; rw [if_neg q1, if_pos q2]
    refine ⟨_, _, _, rfl, by rw [hen]; rfl, fun z => ⟨?_, ?_⟩, fun z y => ?_⟩
    · rw [hok] at z; exact z
    · unfold pi_A; rw [if_neg q1, if_pos q2]; rfl
    · rw [hok] at z
      rw [show sp_fst (sp_wmp B n t) 7 = sp_m2 B n t from rfl, z] at y
      exact nomatch y
  by_cases q3 : sp_tt B n t = 4294967289
  · have hen : ∀ u, (if A 0 < 7 then (if sp_tt B n (t + 1) ≤ 5 then (if 1 ≤ sp_tt B n (t + 2) ∧ sp_tt B n (t + 2) ≤ 99 then (if sp_tt B n (t + 3) ≤ 24 then t + 4 else t + 3) else t + 2) else t + 1) else t) = u → pi_en B n t (A 0) = u := fun u z => by unfold pi_en; rw [if_neg q1, if_neg q2, if_pos q3]; exact z
    have hok : ∀ b, decide (A 0 < 7 ∧ sp_tt B n (t + 1) ≤ 5 ∧ (1 ≤ sp_tt B n (t + 2) ∧ sp_tt B n (t + 2) ≤ 99) ∧ sp_tt B n (t + 3) ≤ 24 ∧ sp_tt B n (t + 4) = 4294967294) = b → pi_ok B n t (A 0) = b := fun b z => by unfold pi_ok; rw [if_neg q1, if_neg q2, if_pos q3]; exact z
    by_cases p0 : A 0 < 7
    · by_cases p1 : sp_tt B n (t + 1) ≤ 5
      · by_cases p2 : 1 ≤ sp_tt B n (t + 2) ∧ sp_tt B n (t + 2) ≤ 99
        · by_cases p3 : sp_tt B n (t + 3) ≤ 24
          · refine (ev_X11_rd_item_voter_t H0 HB HA HW hB hn q3 p0 p1 p2 p3).mono ?_
            rintro r h' ⟨rfl, rfl⟩
            have hen4 := hen (t + 4) (by rw [if_pos p0, if_pos p1, if_pos p2, if_pos p3])
            refine ⟨true, _, _, rfl, by rw [hen4]; rfl, fun _ => ⟨rfl, ?_⟩, fun z _ => ?_⟩
            · unfold pi_A; rw [if_neg q1, if_neg q2, if_pos q3]
            · intro y
              rw [hen4] at y
              rw [hok true (decide_eq_true ⟨p0, p1, p2, p3, y⟩)] at z
              exact nomatch z
          · refine (ev_X11_rd_item_voter_3 H0 HB HA HW hB hn q3 p0 p1 p2 p3).mono ?_
            rintro r h' ⟨rfl, rfl⟩
            rw [mj_p1 HA]
            exact mj_Zj_f (u := t + 3) (hok _ (decide_eq_false fun z => p3 z.2.2.2.1)) (hen _ (by rw [if_pos p0, if_pos p1, if_pos p2, if_neg p3]))
        · refine (ev_X11_rd_item_voter_2 H0 HB HA HW hB hn q3 p0 p1 p2).mono ?_
          rintro r h' ⟨rfl, rfl⟩
          rw [mj_p1 HA]
          exact mj_Zj_f (u := t + 2) (hok _ (decide_eq_false fun z => p2 z.2.2.1)) (hen _ (by rw [if_pos p0, if_pos p1, if_neg p2]))
      · refine (ev_X11_rd_item_voter_1 H0 HB HA hB hn q3 p0 p1).mono ?_
        rintro r h' ⟨rfl, rfl⟩
        rw [mj_p2 HA HW]
        exact mj_Zj_f (u := t + 1) (hok _ (decide_eq_false fun z => p1 z.2.1)) (hen _ (by rw [if_pos p0, if_neg p1]))
    · refine (ev_X11_rd_item_voter_f H0 HB HA hB hn q3 (by omega)).mono ?_
      rintro r h' ⟨rfl, rfl⟩
      have e := mj_p3 H0 HA HW
      rw [show mj_Zj h' a0 a1 n B t A = mj_Zj h' a0 a1 n B t A from rfl]
      have := mj_Zj_f (h := h') (a0 := a0) (a1 := a1) (n := n) (B := B) (t := t) (u := t) (A := A) (A' := A) (W' := W) (hok _ (decide_eq_false fun z => p0 z.1)) (hen _ (if_neg p0))
      rwa [← e] at this
  · refine (ev_X11_rd_item_no H0 HB hB hn q1 q2 q3).mono ?_
    rintro r h' ⟨rfl, rfl⟩
    have e := mj_p3 H0 HA HW
    have := mj_Zj_f (h := h') (a0 := a0) (a1 := a1) (n := n) (B := B) (t := t) (u := t) (A := A) (A' := A) (W' := W) (by unfold pi_ok; rw [if_neg q1, if_neg q2, if_neg q3]) (by unfold pi_en; rw [if_neg q1, if_neg q2, if_neg q3])
    rwa [← e] at this
