theorem mj_rgm {x : Int32} (h : (-1) ≤ x) : x = -1 ∨ ∃ k, x = nI k ∧ k < 2 ^ 31 := by
  have h1 := Int32.le_iff_toInt_le.mp h
  have h2 := Int32.toInt_lt x
  have e : ((-1) : Int32).toInt = -1 := by decide
  rw [e] at h1
  by_cases g : x.toInt = -1
  · left; apply Int32.toInt_inj.mp; rw [g, e]
  · right
    refine ⟨x.toInt.toNat, ?_, by omega⟩
    apply Int32.toInt_inj.mp
    rw [nI_toInt (by omega)]
    omega
theorem rv_sh {κ : Nat → Bool} {C : Nat → Nat → Nat} (R : mj_Rel κ C) : 1 ≤ 1 <<< C 27 0 ∧ 1 <<< C 27 0 ≤ 128 := by
  have := rv_7 R
  rw [Nat.one_shiftLeft]
  exact ⟨Nat.one_le_two_pow, show 2 ^ C 27 0 ≤ 2 ^ 7 from Nat.pow_le_pow_right (by decide) this⟩
theorem st_lake_bad_t {E : mj_E} {κ : Nat → Bool} {C : Nat → Nat → Nat} (R : mj_Rel κ C) {i : Int32} (h0 : ¬ ((nI 0 ≤ i ∧ i ≤ nI 99)))  : mj_St E mj_G mj_isI iX10_lake iX11_lake [.int i] (hh κ C) := by
  refine mj_st (ev_X10_lake_bad R.1 h0) ⟨_, rfl⟩ (ev_X11_lake_bad (E := E) (h := hh κ (mj_u C 11 (mj_un (C 11) 0 ((C 11 0) + 1)))) (hc100 κ (mj_u C 11 (mj_un (C 11) 0 ((C 11 0) + 1)))) (hc104 κ (mj_u C 11 (mj_un (C 11) 0 ((C 11 0) + 1)))) h0) ?_ (hu104 rfl) ?_
  · exact rfl
  · exact R.bad
theorem st_cell_bad_t {E : mj_E} {κ : Nat → Bool} {C : Nat → Nat → Nat} (R : mj_Rel κ C) {c k : Int32} (h0 : ¬ ((nI 0 ≤ c ∧ c ≤ nI 24) ∧ (nI 0 ≤ k ∧ k ≤ nI 5)))  : mj_St E mj_G mj_isI iX10_cell iX11_cell [.int c, .int k] (hh κ C) := by
  refine mj_st (ev_X10_cell_bad R.1 h0) ⟨_, rfl⟩ (ev_X11_cell_bad (E := E) (h := hh κ (mj_u C 11 (mj_un (C 11) 0 ((C 11 0) + 1)))) (hc100 κ (mj_u C 11 (mj_un (C 11) 0 ((C 11 0) + 1)))) (hc104 κ (mj_u C 11 (mj_un (C 11) 0 ((C 11 0) + 1)))) h0) ?_ (hu104 rfl) ?_
  · exact rfl
  · exact R.bad
theorem st_weather_bad_t {E : mj_E} {κ : Nat → Bool} {C : Nat → Nat → Nat} (R : mj_Rel κ C) {d f s : Int32} (h0 : ¬ ((nI 0 ≤ d ∧ d ≤ nI 6) ∧ (nI 0 ≤ f ∧ f ≤ nI 9) ∧ (nI 0 ≤ s ∧ s ≤ nI 9)))  : mj_St E mj_G mj_isI iX10_weather iX11_weather [.int d, .int f, .int s] (hh κ C) := by
  refine mj_st (ev_X10_weather_bad R.1 h0) ⟨_, rfl⟩ (ev_X11_weather_bad (E := E) (h := hh κ (mj_u C 11 (mj_un (C 11) 0 ((C 11 0) + 1)))) (hc100 κ (mj_u C 11 (mj_un (C 11) 0 ((C 11 0) + 1)))) (hc104 κ (mj_u C 11 (mj_un (C 11) 0 ((C 11 0) + 1)))) h0) ?_ (hu104 rfl) ?_
  · exact rfl
  · exact R.bad
theorem st_ward_bad_t {E : mj_E} {κ : Nat → Bool} {C : Nat → Nat → Nat} (R : mj_Rel κ C) {w x : Int32} (h0 : ¬ ((nI 0 ≤ w ∧ w ≤ nI 3) ∧ (nI 0 ≤ x ∧ x ≤ nI 99)))  : mj_St E mj_G mj_isI iX10_ward iX11_ward [.int w, .int x] (hh κ C) := by
  refine mj_st (ev_X10_ward_bad R.1 h0) ⟨_, rfl⟩ (ev_X11_ward_bad (E := E) (h := hh κ (mj_u C 11 (mj_un (C 11) 0 ((C 11 0) + 1)))) (hc100 κ (mj_u C 11 (mj_un (C 11) 0 ((C 11 0) + 1)))) (hc104 κ (mj_u C 11 (mj_un (C 11) 0 ((C 11 0) + 1)))) h0) ?_ (hu104 rfl) ?_
  · exact rfl
  · exact R.bad
theorem st_voter_bad_t {E : mj_E} {κ : Nat → Bool} {C : Nat → Nat → Nat} (R : mj_Rel κ C) {c k w : Int32} (h0 : ¬ ((nI 0 ≤ k ∧ k ≤ nI 5) ∧ (nI 1 ≤ w ∧ w ≤ nI 99) ∧ (nI 0 ≤ c ∧ c ≤ nI 24)))  : mj_St E mj_G mj_isI iX10_voter iX11_voter [.int k, .int w, .int c] (hh κ C) := by
  refine mj_st (ev_X10_voter_bad R.1 h0) ⟨_, rfl⟩ (ev_X11_voter_bad (E := E) (h := hh κ (mj_u C 11 (mj_un (C 11) 0 ((C 11 0) + 1)))) (hc100 κ (mj_u C 11 (mj_un (C 11) 0 ((C 11 0) + 1)))) (hc104 κ (mj_u C 11 (mj_un (C 11) 0 ((C 11 0) + 1)))) h0) ?_ (hu104 rfl) ?_
  · exact rfl
  · exact R.bad
theorem st_type_bad_t {E : mj_E} {κ : Nat → Bool} {C : Nat → Nat → Nat} (R : mj_Rel κ C) {c : Int32} (h0 : ¬ ((nI 0 ≤ c ∧ c ≤ nI 127)))  : mj_St E mj_G mj_isI iX10_type iX11_type [.int c] (hh κ C) := by
  refine mj_st (ev_X10_type_bad R.1 h0) ⟨_, rfl⟩ (ev_X11_type_bad (E := E) (h := hh κ (mj_u C 11 (mj_un (C 11) 0 ((C 11 0) + 1)))) (hc100 κ (mj_u C 11 (mj_un (C 11) 0 ((C 11 0) + 1)))) (hc104 κ (mj_u C 11 (mj_un (C 11) 0 ((C 11 0) + 1)))) h0) ?_ (hu104 rfl) ?_
  · exact rfl
  · exact R.bad
theorem st_day_bad_t {E : mj_E} {κ : Nat → Bool} {C : Nat → Nat → Nat} (R : mj_Rel κ C) {m : Int32} (h0 : ¬ ((nI 1 ≤ m ∧ m ≤ nI 60)))  : mj_St E mj_G mj_isI iX10_day iX11_day [.int m] (hh κ C) := by
  refine mj_st (ev_X10_day_bad R.1 h0) ⟨_, rfl⟩ (ev_X11_day_bad (E := E) (h := hh κ (mj_u C 11 (mj_un (C 11) 0 ((C 11 0) + 1)))) (hc100 κ (mj_u C 11 (mj_un (C 11) 0 ((C 11 0) + 1)))) (hc104 κ (mj_u C 11 (mj_un (C 11) 0 ((C 11 0) + 1)))) h0) ?_ (hu104 rfl) ?_
  · exact rfl
  · exact R.bad
theorem st_tread_bad_t {E : mj_E} {κ : Nat → Bool} {C : Nat → Nat → Nat} (R : mj_Rel κ C) {c w : Int32} (h0 : ¬ ((nI 0 ≤ c ∧ c ≤ nI 24) ∧ (nI 1 ≤ w ∧ w ≤ nI 99)))  : mj_St E mj_G mj_isI iX10_tread iX11_tread [.int c, .int w] (hh κ C) := by
  refine mj_st (ev_X10_tread_bad R.1 h0) ⟨_, rfl⟩ (ev_X11_tread_bad (E := E) (h := hh κ (mj_u C 11 (mj_un (C 11) 0 ((C 11 0) + 1)))) (hc100 κ (mj_u C 11 (mj_un (C 11) 0 ((C 11 0) + 1)))) (hc104 κ (mj_u C 11 (mj_un (C 11) 0 ((C 11 0) + 1)))) h0) ?_ (hu104 rfl) ?_
  · exact rfl
  · exact R.bad
theorem st_stone_bad_t {E : mj_E} {κ : Nat → Bool} {C : Nat → Nat → Nat} (R : mj_Rel κ C) {c : Int32} (h0 : ¬ ((nI 0 ≤ c ∧ c ≤ nI 24)))  : mj_St E mj_G mj_isI iX10_stone iX11_stone [.int c] (hh κ C) := by
  refine mj_st (ev_X10_stone_bad R.1 h0) ⟨_, rfl⟩ (ev_X11_stone_bad (E := E) (h := hh κ (mj_u C 11 (mj_un (C 11) 0 ((C 11 0) + 1)))) (hc100 κ (mj_u C 11 (mj_un (C 11) 0 ((C 11 0) + 1)))) (hc104 κ (mj_u C 11 (mj_un (C 11) 0 ((C 11 0) + 1)))) h0) ?_ (hu104 rfl) ?_
  · exact rfl
  · exact R.bad
theorem st_of_bad_t {E : mj_E} {κ : Nat → Bool} {C : Nat → Nat → Nat} (R : mj_Rel κ C) {c q : Int32} (h0 : ¬ ((nI 0 ≤ c ∧ c ≤ nI 24) ∧ (nI 0 ≤ q ∧ q ≤ nI 2)))  : mj_St E mj_G mj_isI iX10_of iX11_of [.int c, .int q] (hh κ C) := by
  refine mj_st (ev_X10_of_bad R.1 h0) ⟨_, rfl⟩ (ev_X11_of_bad (E := E) (h := hh κ (mj_u C 11 (mj_un (C 11) 0 ((C 11 0) + 1)))) (hc100 κ (mj_u C 11 (mj_un (C 11) 0 ((C 11 0) + 1)))) (hc104 κ (mj_u C 11 (mj_un (C 11) 0 ((C 11 0) + 1)))) h0) ?_ (hu104 rfl) ?_
  · exact rfl
  · exact R.bad
theorem st_about_bad_t {E : mj_E} {κ : Nat → Bool} {C : Nat → Nat → Nat} (R : mj_Rel κ C) {q v : Int32} (h0 : ¬ ((nI 0 ≤ v ∧ v < nI (C 27 0)) ∧ (nI 0 ≤ q ∧ q ≤ nI 3)))  : mj_St E mj_G mj_isI iX10_about iX11_about [.int v, .int q] (hh κ C) := by
  refine mj_st (ev_X10_about_bad R.1 h0) ⟨_, rfl⟩ (ev_X11_about_bad (E := E) (h := hh κ (mj_u C 11 (mj_un (C 11) 0 ((C 11 0) + 1)))) (hc100 κ (mj_u C 11 (mj_un (C 11) 0 ((C 11 0) + 1)))) (hc101 κ (mj_u C 11 (mj_un (C 11) 0 ((C 11 0) + 1)))) (hc104 κ (mj_u C 11 (mj_un (C 11) 0 ((C 11 0) + 1)))) (show mj_Tb ((mj_u C 11 (mj_un (C 11) 0 ((C 11 0) + 1))) 101) from R.2.1) (show ¬ ((nI 0 ≤ v ∧ v < nI (C 101 0)) ∧ (nI 0 ≤ q ∧ q ≤ nI 3)) from by rw [← rl_n R]; exact h0)) ?_ (hu104 rfl) ?_
  · exact rfl
  · exact R.bad
theorem st_then_bad_t {E : mj_E} {κ : Nat → Bool} {C : Nat → Nat → Nat} (R : mj_Rel κ C) {c m q : Int32} (h0 : ¬ ((nI 0 ≤ c ∧ c ≤ nI 24) ∧ (nI 0 ≤ m ∧ m ≤ nI 60) ∧ (nI 0 ≤ q ∧ q ≤ nI 1)))  : mj_St E mj_G mj_isI iX10_then iX11_then [.int c, .int m, .int q] (hh κ C) := by
  refine mj_st (ev_X10_then_bad R.1 h0) ⟨_, rfl⟩ (ev_X11_then_bad (E := E) (h := hh κ (mj_u C 11 (mj_un (C 11) 0 ((C 11 0) + 1)))) (hc100 κ (mj_u C 11 (mj_un (C 11) 0 ((C 11 0) + 1)))) (hc104 κ (mj_u C 11 (mj_un (C 11) 0 ((C 11 0) + 1)))) h0) ?_ (hu104 rfl) ?_
  · exact rfl
  · exact R.bad
theorem st_when_bad_t {E : mj_E} {κ : Nat → Bool} {C : Nat → Nat → Nat} (R : mj_Rel κ C) {c w : Int32} (h0 : ¬ ((nI 0 ≤ c ∧ c ≤ nI 24) ∧ (nI 1 ≤ w ∧ w ≤ nI 198)))  : mj_St E mj_G mj_isI iX10_when iX11_when [.int c, .int w] (hh κ C) := by
  refine mj_st (ev_X10_when_bad R.1 h0) ⟨_, rfl⟩ (ev_X11_when_bad (E := E) (h := hh κ (mj_u C 11 (mj_un (C 11) 0 ((C 11 0) + 1)))) (hc100 κ (mj_u C 11 (mj_un (C 11) 0 ((C 11 0) + 1)))) (hc104 κ (mj_u C 11 (mj_un (C 11) 0 ((C 11 0) + 1)))) h0) ?_ (hu104 rfl) ?_
  · exact rfl
  · exact R.bad
theorem st_where_bad_t {E : mj_E} {κ : Nat → Bool} {C : Nat → Nat → Nat} (R : mj_Rel κ C) {m w : Int32} (h0 : ¬ ((nI 1 ≤ w ∧ w ≤ nI 198) ∧ (nI 0 ≤ m ∧ m ≤ nI 60)))  : mj_St E mj_G mj_isI iX10_where iX11_where [.int w, .int m] (hh κ C) := by
  refine mj_st (ev_X10_where_bad R.1 h0) ⟨_, rfl⟩ (ev_X11_where_bad (E := E) (h := hh κ (mj_u C 11 (mj_un (C 11) 0 ((C 11 0) + 1)))) (hc100 κ (mj_u C 11 (mj_un (C 11) 0 ((C 11 0) + 1)))) (hc104 κ (mj_u C 11 (mj_un (C 11) 0 ((C 11 0) + 1)))) h0) ?_ (hu104 rfl) ?_
  · exact rfl
  · exact R.bad
theorem st_horses_bad_t {E : mj_E} {κ : Nat → Bool} {C : Nat → Nat → Nat} (R : mj_Rel κ C) {w : Int32} (h0 : ¬ ((nI 1 ≤ w ∧ w ≤ nI 198)))  : mj_St E mj_G mj_isI iX10_horses iX11_horses [.int w] (hh κ C) := by
  refine mj_st (ev_X10_horses_bad R.1 h0) ⟨_, rfl⟩ (ev_X11_horses_bad (E := E) (h := hh κ (mj_u C 11 (mj_un (C 11) 0 ((C 11 0) + 1)))) (hc100 κ (mj_u C 11 (mj_un (C 11) 0 ((C 11 0) + 1)))) (hc104 κ (mj_u C 11 (mj_un (C 11) 0 ((C 11 0) + 1)))) h0) ?_ (hu104 rfl) ?_
  · exact rfl
  · exact R.bad
theorem st_path_bad_t {E : mj_E} {κ : Nat → Bool} {C : Nat → Nat → Nat} (R : mj_Rel κ C) {a c i w : Int32} (h0 : ¬ ((nI 1 ≤ w ∧ w ≤ nI 198) ∧ (nI 0 ≤ a ∧ a ≤ nI 24) ∧ (nI 0 ≤ c ∧ c ≤ nI 24) ∧ ((-1) ≤ i)))  : mj_St E mj_G mj_isI iX10_path iX11_path [.int w, .int a, .int c, .int i] (hh κ C) := by
  refine mj_st (ev_X10_path_bad R.1 h0) ⟨_, rfl⟩ (ev_X11_path_bad (E := E) (h := hh κ (mj_u C 11 (mj_un (C 11) 0 ((C 11 0) + 1)))) (hc100 κ (mj_u C 11 (mj_un (C 11) 0 ((C 11 0) + 1)))) (hc104 κ (mj_u C 11 (mj_un (C 11) 0 ((C 11 0) + 1)))) h0) ?_ (hu104 rfl) ?_
  · exact rfl
  · exact R.bad
theorem st_safe_bad_t {E : mj_E} {κ : Nat → Bool} {C : Nat → Nat → Nat} (R : mj_Rel κ C) {a c : Int32} (h0 : ¬ ((nI 0 ≤ a ∧ a ≤ nI 24) ∧ (nI 0 ≤ c ∧ c ≤ nI 24)))  : mj_St E mj_G mj_isI iX10_safe iX11_safe [.int a, .int c] (hh κ C) := by
  refine mj_st (ev_X10_safe_bad R.1 h0) ⟨_, rfl⟩ (ev_X11_safe_bad (E := E) (h := hh κ (mj_u C 11 (mj_un (C 11) 0 ((C 11 0) + 1)))) (hc100 κ (mj_u C 11 (mj_un (C 11) 0 ((C 11 0) + 1)))) (hc104 κ (mj_u C 11 (mj_un (C 11) 0 ((C 11 0) + 1)))) h0) ?_ (hu104 rfl) ?_
  · exact rfl
  · exact R.bad
theorem st_cross_bad_t {E : mj_E} {κ : Nat → Bool} {C : Nat → Nat → Nat} (R : mj_Rel κ C) {a c w : Int32} (h0 : ¬ ((nI 1 ≤ w ∧ w ≤ nI 99) ∧ (nI 0 ≤ a ∧ a ≤ nI 24) ∧ (nI 0 ≤ c ∧ c ≤ nI 24) ∧ (¬ a = c)))  : mj_St E mj_G mj_isI iX10_cross iX11_cross [.int w, .int a, .int c] (hh κ C) := by
  refine mj_st (ev_X10_cross_bad R.1 h0) ⟨_, rfl⟩ (ev_X11_cross_bad (E := E) (h := hh κ (mj_u C 11 (mj_un (C 11) 0 ((C 11 0) + 1)))) (hc100 κ (mj_u C 11 (mj_un (C 11) 0 ((C 11 0) + 1)))) (hc104 κ (mj_u C 11 (mj_un (C 11) 0 ((C 11 0) + 1)))) h0) ?_ (hu104 rfl) ?_
  · exact rfl
  · exact R.bad
theorem st_apart_bad_t {E : mj_E} {κ : Nat → Bool} {C : Nat → Nat → Nat} (R : mj_Rel κ C) {a c q w : Int32} (h0 : ¬ ((nI 1 ≤ w ∧ w ≤ nI 198) ∧ (nI 0 ≤ a ∧ a ≤ nI 24) ∧ (nI 0 ≤ c ∧ c ≤ nI 24) ∧ (¬ a = c) ∧ (nI 0 ≤ q ∧ q ≤ nI 1)))  : mj_St E mj_G mj_isI iX10_apart iX11_apart [.int w, .int a, .int c, .int q] (hh κ C) := by
  refine mj_st (ev_X10_apart_bad R.1 h0) ⟨_, rfl⟩ (ev_X11_apart_bad (E := E) (h := hh κ (mj_u C 11 (mj_un (C 11) 0 ((C 11 0) + 1)))) (hc100 κ (mj_u C 11 (mj_un (C 11) 0 ((C 11 0) + 1)))) (hc104 κ (mj_u C 11 (mj_un (C 11) 0 ((C 11 0) + 1)))) h0) ?_ (hu104 rfl) ?_
  · exact rfl
  · exact R.bad
theorem st_votes_bad_t {E : mj_E} {κ : Nat → Bool} {C : Nat → Nat → Nat} (R : mj_Rel κ C) {q : Int32} (h0 : ¬ ((nI 0 ≤ q ∧ q ≤ nI 2)))  : mj_St E mj_G mj_isI iX10_votes iX11_votes [.int q] (hh κ C) := by
  refine mj_st (ev_X10_votes_bad R.1 h0) ⟨_, rfl⟩ (ev_X11_votes_bad (E := E) (h := hh κ (mj_u C 11 (mj_un (C 11) 0 ((C 11 0) + 1)))) (hc100 κ (mj_u C 11 (mj_un (C 11) 0 ((C 11 0) + 1)))) (hc104 κ (mj_u C 11 (mj_un (C 11) 0 ((C 11 0) + 1)))) h0) ?_ (hu104 rfl) ?_
  · exact rfl
  · exact R.bad
theorem st_seen_bad_t {E : mj_E} {κ : Nat → Bool} {C : Nat → Nat → Nat} (R : mj_Rel κ C) {q x : Int32} (h0 : ¬ ((nI 0 ≤ x ∧ x ≤ nI (1 <<< (C 27 0) - 1)) ∧ (nI 0 ≤ q ∧ q ≤ nI 2)))  : mj_St E mj_G mj_isI iX10_seen iX11_seen [.int x, .int q] (hh κ C) := by
  refine mj_st (ev_X10_seen_bad R.1 h0) ⟨_, rfl⟩ (ev_X11_seen_bad (E := E) (h := hh κ (mj_u C 11 (mj_un (C 11) 0 ((C 11 0) + 1)))) (hc100 κ (mj_u C 11 (mj_un (C 11) 0 ((C 11 0) + 1)))) (hc101 κ (mj_u C 11 (mj_un (C 11) 0 ((C 11 0) + 1)))) (hc104 κ (mj_u C 11 (mj_un (C 11) 0 ((C 11 0) + 1)))) (show mj_Tb ((mj_u C 11 (mj_un (C 11) 0 ((C 11 0) + 1))) 101) from R.2.1) (show ¬ ((nI 0 ≤ x ∧ x ≤ nI (1 <<< (C 101 0) - 1)) ∧ (nI 0 ≤ q ∧ q ≤ nI 2)) from by rw [← rl_n R]; exact h0)) ?_ (hu104 rfl) ?_
  · exact rfl
  · exact R.bad
theorem st_stones_bad_t {E : mj_E} {κ : Nat → Bool} {C : Nat → Nat → Nat} (R : mj_Rel κ C) {a c w : Int32} (h0 : ¬ ((nI 1 ≤ w ∧ w ≤ nI 198) ∧ (nI 0 ≤ a ∧ a ≤ nI 24) ∧ (nI 0 ≤ c ∧ c ≤ nI 24) ∧ (¬ a = c)))  : mj_St E mj_G mj_isI iX10_stones iX11_stones [.int w, .int a, .int c] (hh κ C) := by
  refine mj_st (ev_X10_stones_bad R.1 h0) ⟨_, rfl⟩ (ev_X11_stones_bad (E := E) (h := hh κ (mj_u C 11 (mj_un (C 11) 0 ((C 11 0) + 1)))) (hc100 κ (mj_u C 11 (mj_un (C 11) 0 ((C 11 0) + 1)))) (hc104 κ (mj_u C 11 (mj_un (C 11) 0 ((C 11 0) + 1)))) h0) ?_ (hu104 rfl) ?_
  · exact rfl
  · exact R.bad
theorem st_note_bad_t {E : mj_E} {κ : Nat → Bool} {C : Nat → Nat → Nat} (R : mj_Rel κ C) {c f i j s : Int32} (h0 : ¬ ((nI 0 ≤ c ∧ c ≤ nI 24) ∧ (nI 0 ≤ i ∧ i ≤ nI 99) ∧ (nI 0 ≤ f ∧ f ≤ nI 9) ∧ (nI 0 ≤ s ∧ s ≤ nI 9) ∧ (nI 0 ≤ j ∧ j ≤ nI 99)))  : mj_St E mj_G mj_isI iX10_note iX11_note [.int c, .int i, .int f, .int s, .int j] (hh κ C) := by
  refine mj_st (ev_X10_note_bad R.1 h0) ⟨_, rfl⟩ (ev_X11_note_bad (E := E) (h := hh κ (mj_u C 11 (mj_un (C 11) 0 ((C 11 0) + 1)))) (hc100 κ (mj_u C 11 (mj_un (C 11) 0 ((C 11 0) + 1)))) (hc104 κ (mj_u C 11 (mj_un (C 11) 0 ((C 11 0) + 1)))) h0) ?_ (hu104 rfl) ?_
  · exact rfl
  · exact R.bad
theorem st_voted_bad_t {E : mj_E} {κ : Nat → Bool} {C : Nat → Nat → Nat} (R : mj_Rel κ C) {f m p v y : Int32} (h0 : ¬ ((nI 0 ≤ v ∧ v < nI (C 27 0)) ∧ (nI 0 ≤ y ∧ y ≤ nI 1) ∧ (nI 0 ≤ p ∧ p ≤ nI 198) ∧ (nI 0 ≤ m ∧ m ≤ nI 198) ∧ (nI 0 ≤ f ∧ f ≤ nI 9)))  : mj_St E mj_G mj_isI iX10_voted iX11_voted [.int v, .int y, .int p, .int m, .int f] (hh κ C) := by
  refine mj_st (ev_X10_voted_bad R.1 h0) ⟨_, rfl⟩ (ev_X11_voted_bad (E := E) (h := hh κ (mj_u C 11 (mj_un (C 11) 0 ((C 11 0) + 1)))) (hc100 κ (mj_u C 11 (mj_un (C 11) 0 ((C 11 0) + 1)))) (hc101 κ (mj_u C 11 (mj_un (C 11) 0 ((C 11 0) + 1)))) (hc104 κ (mj_u C 11 (mj_un (C 11) 0 ((C 11 0) + 1)))) (show mj_Tb ((mj_u C 11 (mj_un (C 11) 0 ((C 11 0) + 1))) 101) from R.2.1) (show ¬ ((nI 0 ≤ v ∧ v < nI (C 101 0)) ∧ (nI 0 ≤ y ∧ y ≤ nI 1) ∧ (nI 0 ≤ p ∧ p ≤ nI 198) ∧ (nI 0 ≤ m ∧ m ≤ nI 198) ∧ (nI 0 ≤ f ∧ f ≤ nI 9)) from by rw [← rl_n R]; exact h0)) ?_ (hu104 rfl) ?_
  · exact rfl
  · exact R.bad
theorem st_forget_bad_t {E : mj_E} {κ : Nat → Bool} {C : Nat → Nat → Nat} (R : mj_Rel κ C) {q : Int32} (h0 : ¬ ((nI 0 ≤ q ∧ q ≤ nI 1)))  : mj_St E mj_G mj_isI iX10_forget iX11_forget [.int q] (hh κ C) := by
  refine mj_st (ev_X10_forget_bad R.1 h0) ⟨_, rfl⟩ (ev_X11_forget_bad (E := E) (h := hh κ (mj_u C 11 (mj_un (C 11) 0 ((C 11 0) + 1)))) (hc100 κ (mj_u C 11 (mj_un (C 11) 0 ((C 11 0) + 1)))) (hc104 κ (mj_u C 11 (mj_un (C 11) 0 ((C 11 0) + 1)))) h0) ?_ (hu104 rfl) ?_
  · exact rfl
  · exact R.bad
theorem st_is_bad_t {E : mj_E} {κ : Nat → Bool} {C : Nat → Nat → Nat} (R : mj_Rel κ C) {c : Int32} (h0 : ¬ ((nI 0 ≤ c ∧ c ≤ nI 24)))  : mj_St E mj_G mj_isI iX10_is iX11_is [.int c] (hh κ C) := by
  refine mj_st (ev_X10_is_bad R.1 h0) ⟨_, rfl⟩ (ev_X11_is_bad (E := E) (h := hh κ (mj_u C 11 (mj_un (C 11) 0 ((C 11 0) + 1)))) (hc100 κ (mj_u C 11 (mj_un (C 11) 0 ((C 11 0) + 1)))) (hc104 κ (mj_u C 11 (mj_un (C 11) 0 ((C 11 0) + 1)))) h0) ?_ (hu104 rfl) ?_
  · exact rfl
  · exact R.bad
theorem st_next_bad_t {E : mj_E} {κ : Nat → Bool} {C : Nat → Nat → Nat} (R : mj_Rel κ C) {c : Int32} (h0 : ¬ ((nI 0 ≤ c ∧ c ≤ nI 24)))  : mj_St E mj_G mj_isI iX10_next iX11_next [.int c] (hh κ C) := by
  refine mj_st (ev_X10_next_bad R.1 h0) ⟨_, rfl⟩ (ev_X11_next_bad (E := E) (h := hh κ (mj_u C 11 (mj_un (C 11) 0 ((C 11 0) + 1)))) (hc100 κ (mj_u C 11 (mj_un (C 11) 0 ((C 11 0) + 1)))) (hc104 κ (mj_u C 11 (mj_un (C 11) 0 ((C 11 0) + 1)))) h0) ?_ (hu104 rfl) ?_
  · exact rfl
  · exact R.bad
theorem st_who_bad_t {E : mj_E} {κ : Nat → Bool} {C : Nat → Nat → Nat} (R : mj_Rel κ C) {v : Int32} (h0 : ¬ ((nI 0 ≤ v ∧ v < nI (C 27 0))))  : mj_St E mj_G mj_isI iX10_who iX11_who [.int v] (hh κ C) := by
  refine mj_st (ev_X10_who_bad R.1 h0) ⟨_, rfl⟩ (ev_X11_who_bad (E := E) (h := hh κ (mj_u C 11 (mj_un (C 11) 0 ((C 11 0) + 1)))) (hc100 κ (mj_u C 11 (mj_un (C 11) 0 ((C 11 0) + 1)))) (hc101 κ (mj_u C 11 (mj_un (C 11) 0 ((C 11 0) + 1)))) (hc104 κ (mj_u C 11 (mj_un (C 11) 0 ((C 11 0) + 1)))) (show mj_Tb ((mj_u C 11 (mj_un (C 11) 0 ((C 11 0) + 1))) 101) from R.2.1) (show ¬ (nI 0 ≤ v ∧ v < nI (C 101 0)) from by rw [← rl_n R]; exact h0)) ?_ (hu104 rfl) ?_
  · exact rfl
  · exact R.bad
theorem st_two_bad_t {E : mj_E} {κ : Nat → Bool} {C : Nat → Nat → Nat} (R : mj_Rel κ C) {a c : Int32} (h0 : ¬ ((nI 0 ≤ a ∧ a < nI (C 27 0)) ∧ (nI 0 ≤ c ∧ c < nI (C 27 0)) ∧ (¬ a = c)))  : mj_St E mj_G mj_isI iX10_two iX11_two [.int a, .int c] (hh κ C) := by
  refine mj_st (ev_X10_two_bad R.1 h0) ⟨_, rfl⟩ (ev_X11_two_bad (E := E) (h := hh κ (mj_u C 11 (mj_un (C 11) 0 ((C 11 0) + 1)))) (hc100 κ (mj_u C 11 (mj_un (C 11) 0 ((C 11 0) + 1)))) (hc101 κ (mj_u C 11 (mj_un (C 11) 0 ((C 11 0) + 1)))) (hc104 κ (mj_u C 11 (mj_un (C 11) 0 ((C 11 0) + 1)))) (show mj_Tb ((mj_u C 11 (mj_un (C 11) 0 ((C 11 0) + 1))) 101) from R.2.1) (show ¬ ((nI 0 ≤ a ∧ a < nI (C 101 0)) ∧ (nI 0 ≤ c ∧ c < nI (C 101 0)) ∧ (¬ a = c)) from by rw [← rl_n R]; exact h0)) ?_ (hu104 rfl) ?_
  · exact rfl
  · exact R.bad
theorem st_thaw_bad_t {E : mj_E} {κ : Nat → Bool} {C : Nat → Nat → Nat} (R : mj_Rel κ C) {c m o w : Int32} (h0 : ¬ ((nI 0 ≤ c ∧ c ≤ nI 24) ∧ (nI 1 ≤ w ∧ w ≤ nI 198) ∧ (nI 0 ≤ m ∧ m ≤ nI 8) ∧ (nI 0 ≤ o ∧ o ≤ nI 10)))  : mj_St E mj_G mj_isI iX10_thaw iX11_thaw [.int c, .int w, .int m, .int o] (hh κ C) := by
  refine mj_st (ev_X10_thaw_bad R.1 h0) ⟨_, rfl⟩ (ev_X11_thaw_bad (E := E) (h := hh κ (mj_u C 11 (mj_un (C 11) 0 ((C 11 0) + 1)))) (hc100 κ (mj_u C 11 (mj_un (C 11) 0 ((C 11 0) + 1)))) (hc104 κ (mj_u C 11 (mj_un (C 11) 0 ((C 11 0) + 1)))) h0) ?_ (hu104 rfl) ?_
  · exact rfl
  · exact R.bad
theorem st_winters_bad_t {E : mj_E} {κ : Nat → Bool} {C : Nat → Nat → Nat} (R : mj_Rel κ C) {m s : Int32} (h0 : ¬ ((nI 0 ≤ s ∧ s ≤ nI 999999) ∧ (nI 0 ≤ m ∧ m ≤ nI 60)))  : mj_St E mj_G mj_isI iX10_winters iX11_winters [.int s, .int m] (hh κ C) := by
  refine mj_st (ev_X10_winters_bad R.1 h0) ⟨_, rfl⟩ (ev_X11_winters_bad (E := E) (h := hh κ (mj_u C 11 (mj_un (C 11) 0 ((C 11 0) + 1)))) (hc100 κ (mj_u C 11 (mj_un (C 11) 0 ((C 11 0) + 1)))) (hc104 κ (mj_u C 11 (mj_un (C 11) 0 ((C 11 0) + 1)))) h0) ?_ (hu104 rfl) ?_
  · exact rfl
  · exact R.bad
theorem st_part_bad_t {E : mj_E} {κ : Nat → Bool} {C : Nat → Nat → Nat} (R : mj_Rel κ C) {q : Int32} (h0 : ¬ ((nI 0 ≤ q ∧ q ≤ nI 1)))  : mj_St E mj_G mj_isL iX10_part iX11_part [.int q] (hh κ C) := by
  refine mj_st (ev_X10_part_bad R.1 h0) ⟨_, rfl⟩ (ev_X11_part_bad (E := E) (h := hh κ (mj_u C 11 (mj_un (C 11) 0 ((C 11 0) + 1)))) (hc100 κ (mj_u C 11 (mj_un (C 11) 0 ((C 11 0) + 1)))) (hc104 κ (mj_u C 11 (mj_un (C 11) 0 ((C 11 0) + 1)))) h0) ?_ (hu104 rfl) ?_
  · exact rfl
  · exact R.bad
theorem st_image_bad_t {E : mj_E} {κ : Nat → Bool} {C : Nat → Nat → Nat} (R : mj_Rel κ C) {i : Int32} (h0 : ¬ ((nI 0 ≤ i ∧ i ≤ nI 1)))  : mj_St E mj_G mj_isI iX10_image iX11_image [.int i] (hh κ C) := by
  refine mj_st (ev_X10_image_bad R.1 h0) ⟨_, rfl⟩ (ev_X11_image_bad (E := E) (h := hh κ (mj_u C 11 (mj_un (C 11) 0 ((C 11 0) + 1)))) (hc100 κ (mj_u C 11 (mj_un (C 11) 0 ((C 11 0) + 1)))) (hc104 κ (mj_u C 11 (mj_un (C 11) 0 ((C 11 0) + 1)))) h0) ?_ (hu104 rfl) ?_
  · exact rfl
  · exact R.bad
theorem st_from_bad_t {E : mj_E} {κ : Nat → Bool} {C : Nat → Nat → Nat} (R : mj_Rel κ C) {i : Int32} (h0 : ¬ ((nI 0 ≤ i ∧ i ≤ nI 1)))  : mj_St E mj_G mj_isI iX10_from iX11_from [.int i] (hh κ C) := by
  refine mj_st (ev_X10_from_bad R.1 h0) ⟨_, rfl⟩ (ev_X11_from_bad (E := E) (h := hh κ (mj_u C 11 (mj_un (C 11) 0 ((C 11 0) + 1)))) (hc100 κ (mj_u C 11 (mj_un (C 11) 0 ((C 11 0) + 1)))) (hc104 κ (mj_u C 11 (mj_un (C 11) 0 ((C 11 0) + 1)))) h0) ?_ (hu104 rfl) ?_
  · exact rfl
  · exact R.bad
theorem st_status_bad_t {E : mj_E} {κ : Nat → Bool} {C : Nat → Nat → Nat} (R : mj_Rel κ C) {q : Int32} (h0 : ¬ ((nI 0 ≤ q ∧ q ≤ nI 2)))  : mj_St E mj_G mj_isI iX10_status iX11_status [.int q] (hh κ C) := by
  refine mj_st (ev_X10_status_bad R.1 h0) ⟨_, rfl⟩ (ev_X11_status_bad (E := E) (h := hh κ (mj_u C 11 (mj_un (C 11) 0 ((C 11 0) + 1)))) (hc100 κ (mj_u C 11 (mj_un (C 11) 0 ((C 11 0) + 1)))) (hc104 κ (mj_u C 11 (mj_un (C 11) 0 ((C 11 0) + 1)))) h0) ?_ (hu104 rfl) ?_
  · exact rfl
  · exact R.bad
theorem st_count_bad_t {E : mj_E} {κ : Nat → Bool} {C : Nat → Nat → Nat} (R : mj_Rel κ C) {q : Int32} (h0 : ¬ ((nI 0 ≤ q ∧ q ≤ nI 6)))  : mj_St E mj_G mj_isI iX10_count iX11_count [.int q] (hh κ C) := by
  refine mj_st (ev_X10_count_bad R.1 h0) ⟨_, rfl⟩ (ev_X11_count_bad (E := E) (h := hh κ (mj_u C 11 (mj_un (C 11) 0 ((C 11 0) + 1)))) (hc100 κ (mj_u C 11 (mj_un (C 11) 0 ((C 11 0) + 1)))) (hc104 κ (mj_u C 11 (mj_un (C 11) 0 ((C 11 0) + 1)))) h0) ?_ (hu104 rfl) ?_
  · exact rfl
  · exact R.bad
theorem st_lake {E : mj_E} {κ : Nat → Bool} {C : Nat → Nat → Nat} (R : mj_Rel κ C) (i : Int32) : mj_St E mj_G mj_isI iX10_lake iX11_lake [.int i] (hh κ C) := by
  by_cases g : nI 0 ≤ i ∧ i ≤ nI 99
  · obtain ⟨i, rfl, h1⟩ := mj_rg (by decide) g
    exact st_lake_t R (by omega)
  · exact st_lake_bad_t R g
theorem st_cell {E : mj_E} {κ : Nat → Bool} {C : Nat → Nat → Nat} (R : mj_Rel κ C) (c k : Int32) : mj_St E mj_G mj_isI iX10_cell iX11_cell [.int c, .int k] (hh κ C) := by
  by_cases g : (nI 0 ≤ c ∧ c ≤ nI 24) ∧ (nI 0 ≤ k ∧ k ≤ nI 5)
  · obtain ⟨g1, g2⟩ := g
    obtain ⟨c, rfl, h1⟩ := mj_rg (by decide) g1
    obtain ⟨k, rfl, h2⟩ := mj_rg (by decide) g2
    exact st_cell_t R (by omega) (by omega)
  · exact st_cell_bad_t R g
theorem st_weather {E : mj_E} {κ : Nat → Bool} {C : Nat → Nat → Nat} (R : mj_Rel κ C) (d f s : Int32) : mj_St E mj_G mj_isI iX10_weather iX11_weather [.int d, .int f, .int s] (hh κ C) := by
  by_cases g : (nI 0 ≤ d ∧ d ≤ nI 6) ∧ (nI 0 ≤ f ∧ f ≤ nI 9) ∧ (nI 0 ≤ s ∧ s ≤ nI 9)
  · obtain ⟨g1, g2, g3⟩ := g
    obtain ⟨d, rfl, h1⟩ := mj_rg (by decide) g1
    obtain ⟨f, rfl, h2⟩ := mj_rg (by decide) g2
    obtain ⟨s, rfl, h3⟩ := mj_rg (by decide) g3
    exact st_weather_t R (by omega) (by omega) (by omega)
  · exact st_weather_bad_t R g
theorem st_ward {E : mj_E} {κ : Nat → Bool} {C : Nat → Nat → Nat} (R : mj_Rel κ C) (w x : Int32) : mj_St E mj_G mj_isI iX10_ward iX11_ward [.int w, .int x] (hh κ C) := by
  by_cases g : (nI 0 ≤ w ∧ w ≤ nI 3) ∧ (nI 0 ≤ x ∧ x ≤ nI 99)
  · obtain ⟨g1, g2⟩ := g
    obtain ⟨w, rfl, h1⟩ := mj_rg (by decide) g1
    obtain ⟨x, rfl, h2⟩ := mj_rg (by decide) g2
    exact st_ward_t R (by omega) (by omega)
  · exact st_ward_bad_t R g
theorem st_voter {E : mj_E} {κ : Nat → Bool} {C : Nat → Nat → Nat} (R : mj_Rel κ C) (k w c : Int32) : mj_St E mj_G mj_isI iX10_voter iX11_voter [.int k, .int w, .int c] (hh κ C) := by
  by_cases g : (nI 0 ≤ k ∧ k ≤ nI 5) ∧ (nI 1 ≤ w ∧ w ≤ nI 99) ∧ (nI 0 ≤ c ∧ c ≤ nI 24)
  · obtain ⟨g1, g2, g3⟩ := g
    obtain ⟨k, rfl, h1⟩ := mj_rg (by decide) g1
    obtain ⟨w, rfl, h2, j2⟩ := mj_rg1 (by decide) g2
    obtain ⟨c, rfl, h3⟩ := mj_rg (by decide) g3
    by_cases z : C 27 0 < 7
    · exact st_voter_t R (by omega) (by omega) (by omega) (by omega) z
    · exact st_voter_full_t R (by omega) (by omega) (by omega) (by omega) (by have := rv_7 R; omega)
  · exact st_voter_bad_t R g
theorem st_type {E : mj_E} {κ : Nat → Bool} {C : Nat → Nat → Nat} (R : mj_Rel κ C) (c : Int32) : mj_St E mj_G mj_isI iX10_type iX11_type [.int c] (hh κ C) := by
  by_cases g : nI 0 ≤ c ∧ c ≤ nI 127
  · obtain ⟨c, rfl, h1⟩ := mj_rg (by decide) g
    by_cases z : C 7 0 < 150
    · exact st_type_t R (by omega) z
    · exact st_type_full_t R (by omega) (by have := R.1.2.2.2.2.2.2.1; omega)
  · exact st_type_bad_t R g
theorem st_clear {E : mj_E} {κ : Nat → Bool} {C : Nat → Nat → Nat} (R : mj_Rel κ C) : mj_St E mj_G mj_isI iX10_clear iX11_clear [] (hh κ C) := st_clear_t R
theorem st_day {E : mj_E} {κ : Nat → Bool} {C : Nat → Nat → Nat} (R : mj_Rel κ C) (m : Int32) : mj_St E mj_G mj_isI iX10_day iX11_day [.int m] (hh κ C) := by
  by_cases g : nI 1 ≤ m ∧ m ≤ nI 60
  · obtain ⟨m, rfl, h1, j1⟩ := mj_rg1 (by decide) g
    by_cases z : C 20 0 + m ≤ 999
    · exact st_day_0_t R (by omega) (by omega) z
    · exact st_day_1_t R (by omega) (by omega) (by omega)
  · exact st_day_bad_t R g
theorem st_tread {E : mj_E} {κ : Nat → Bool} {C : Nat → Nat → Nat} (R : mj_Rel κ C) (c w : Int32) : mj_St E mj_G mj_isI iX10_tread iX11_tread [.int c, .int w] (hh κ C) := by
  by_cases g : (nI 0 ≤ c ∧ c ≤ nI 24) ∧ (nI 1 ≤ w ∧ w ≤ nI 99)
  · obtain ⟨g1, g2⟩ := g
    obtain ⟨c, rfl, h1⟩ := mj_rg (by decide) g1
    obtain ⟨w, rfl, h2, j2⟩ := mj_rg1 (by decide) g2
    by_cases z : w ≤ sp_bear (C 22 c) (C 23 c)
    · exact st_tread_1_t R (by omega) (by omega) (by omega) z
    · exact st_tread_0_t R (by omega) (by omega) (by omega) (Nat.lt_of_not_le z)
  · exact st_tread_bad_t R g
theorem st_stone {E : mj_E} {κ : Nat → Bool} {C : Nat → Nat → Nat} (R : mj_Rel κ C) (c : Int32) : mj_St E mj_G mj_isI iX10_stone iX11_stone [.int c] (hh κ C) := by
  by_cases g : nI 0 ≤ c ∧ c ≤ nI 24
  · obtain ⟨c, rfl, h1⟩ := mj_rg (by decide) g
    exact st_stone_t R (by omega)
  · exact st_stone_bad_t R g
theorem st_undo {E : mj_E} {κ : Nat → Bool} {C : Nat → Nat → Nat} (R : mj_Rel κ C) : mj_St E mj_G mj_isI iX10_undo iX11_undo [] (hh κ C) := by
  by_cases z : 0 < C 35 0
  · exact st_undo_t R z
  · exact st_undo_no_t R (by omega)
theorem st_of {E : mj_E} {κ : Nat → Bool} {C : Nat → Nat → Nat} (R : mj_Rel κ C) (c q : Int32) : mj_St E mj_G mj_isI iX10_of iX11_of [.int c, .int q] (hh κ C) := by
  by_cases g : (nI 0 ≤ c ∧ c ≤ nI 24) ∧ (nI 0 ≤ q ∧ q ≤ nI 2)
  · obtain ⟨g1, g2⟩ := g
    obtain ⟨c, rfl, h1⟩ := mj_rg (by decide) g1
    obtain ⟨q, rfl, h2⟩ := mj_rg (by decide) g2
    rcases (by omega : q = 0 ∨ q = 1 ∨ q = 2) with rfl | rfl | rfl
    · exact st_of_0_t R (by omega)
    · exact st_of_1_t R (by omega)
    · exact st_of_2_t R (by omega)
  · exact st_of_bad_t R g
theorem st_about {E : mj_E} {κ : Nat → Bool} {C : Nat → Nat → Nat} (R : mj_Rel κ C) (v q : Int32) : mj_St E mj_G mj_isI iX10_about iX11_about [.int v, .int q] (hh κ C) := by
  by_cases g : (nI 0 ≤ v ∧ v < nI (C 27 0)) ∧ (nI 0 ≤ q ∧ q ≤ nI 3)
  · obtain ⟨g1, g2⟩ := g
    obtain ⟨v, rfl, h1⟩ := mj_rgt (by have := rv_7 R; omega) g1
    obtain ⟨q, rfl, h2⟩ := mj_rg (by decide) g2
    rcases (by omega : q = 0 ∨ q = 1 ∨ q = 2 ∨ q = 3) with rfl | rfl | rfl | rfl
    · exact st_about_0_t R (by omega)
    · exact st_about_1_t R (by omega)
    · exact st_about_2_t R (by omega)
    · exact st_about_3_t R (by omega)
  · exact st_about_bad_t R g
theorem st_then {E : mj_E} {κ : Nat → Bool} {C : Nat → Nat → Nat} (R : mj_Rel κ C) (c m q : Int32) : mj_St E mj_G mj_isI iX10_then iX11_then [.int c, .int m, .int q] (hh κ C) := by
  by_cases g : (nI 0 ≤ c ∧ c ≤ nI 24) ∧ (nI 0 ≤ m ∧ m ≤ nI 60) ∧ (nI 0 ≤ q ∧ q ≤ nI 1)
  · obtain ⟨g1, g2, g3⟩ := g
    obtain ⟨c, rfl, h1⟩ := mj_rg (by decide) g1
    obtain ⟨m, rfl, h2⟩ := mj_rg (by decide) g2
    obtain ⟨q, rfl, h3⟩ := mj_rg (by decide) g3
    rcases (by omega : q = 0 ∨ q = 1) with rfl | rfl
    · exact st_then_0_t R (by omega) (by omega)
    · exact st_then_1_t R (by omega) (by omega)
  · exact st_then_bad_t R g
theorem st_when {E : mj_E} {κ : Nat → Bool} {C : Nat → Nat → Nat} (R : mj_Rel κ C) (c w : Int32) : mj_St E mj_G mj_isI iX10_when iX11_when [.int c, .int w] (hh κ C) := by
  by_cases g : (nI 0 ≤ c ∧ c ≤ nI 24) ∧ (nI 1 ≤ w ∧ w ≤ nI 198)
  · obtain ⟨g1, g2⟩ := g
    obtain ⟨c, rfl, h1⟩ := mj_rg (by decide) g1
    obtain ⟨w, rfl, h2, j2⟩ := mj_rg1 (by decide) g2
    exact st_when_t R (by omega) (by omega) (by omega)
  · exact st_when_bad_t R g
theorem st_where {E : mj_E} {κ : Nat → Bool} {C : Nat → Nat → Nat} (R : mj_Rel κ C) (w m : Int32) : mj_St E mj_G mj_isI iX10_where iX11_where [.int w, .int m] (hh κ C) := by
  by_cases g : (nI 1 ≤ w ∧ w ≤ nI 198) ∧ (nI 0 ≤ m ∧ m ≤ nI 60)
  · obtain ⟨g1, g2⟩ := g
    obtain ⟨w, rfl, h1, j1⟩ := mj_rg1 (by decide) g1
    obtain ⟨m, rfl, h2⟩ := mj_rg (by decide) g2
    exact st_where_t R (by omega) (by omega) (by omega)
  · exact st_where_bad_t R g
theorem st_horses {E : mj_E} {κ : Nat → Bool} {C : Nat → Nat → Nat} (R : mj_Rel κ C) (w : Int32) : mj_St E mj_G mj_isI iX10_horses iX11_horses [.int w] (hh κ C) := by
  by_cases g : nI 1 ≤ w ∧ w ≤ nI 198
  · obtain ⟨w, rfl, h1, j1⟩ := mj_rg1 (by decide) g
    exact st_horses_t R (by omega) (by omega)
  · exact st_horses_bad_t R g
theorem st_path {E : mj_E} {κ : Nat → Bool} {C : Nat → Nat → Nat} (R : mj_Rel κ C) (w a c i : Int32) : mj_St E mj_G mj_isI iX10_path iX11_path [.int w, .int a, .int c, .int i] (hh κ C) := by
  by_cases g : (nI 1 ≤ w ∧ w ≤ nI 198) ∧ (nI 0 ≤ a ∧ a ≤ nI 24) ∧ (nI 0 ≤ c ∧ c ≤ nI 24) ∧ ((-1) ≤ i)
  · obtain ⟨g1, g2, g3, g4⟩ := g
    obtain ⟨w, rfl, h1, j1⟩ := mj_rg1 (by decide) g1
    obtain ⟨a, rfl, h2⟩ := mj_rg (by decide) g2
    obtain ⟨c, rfl, h3⟩ := mj_rg (by decide) g3
    by_cases z : sp_far (sp_open (C 22) (C 23) w) a c = 25
    · exact st_path_none_t R (by omega) (by omega) (by omega) (by omega) z g4
    have z2 : sp_far (sp_open (C 22) (C 23) w) a c < 25 := by have := @sp_far_le (sp_open (C 22) (C 23) w) a c; omega
    rcases mj_rgm g4 with rfl | ⟨k, rfl, hk⟩
    · exact st_path_len_t R (by omega) (by omega) (by omega) (by omega) z2
    by_cases z3 : k < sp_far (sp_open (C 22) (C 23) w) a c + 1
    · exact st_path_step_t R (by omega) (by omega) (by omega) (by omega) z2 z3
    · exact st_path_few_t R (by omega) (by omega) (by omega) (by omega) z2 (Nat.le_of_not_lt z3) hk
  · exact st_path_bad_t R g
theorem st_safe {E : mj_E} {κ : Nat → Bool} {C : Nat → Nat → Nat} (R : mj_Rel κ C) (a c : Int32) : mj_St E mj_G mj_isI iX10_safe iX11_safe [.int a, .int c] (hh κ C) := by
  by_cases g : (nI 0 ≤ a ∧ a ≤ nI 24) ∧ (nI 0 ≤ c ∧ c ≤ nI 24)
  · obtain ⟨g1, g2⟩ := g
    obtain ⟨a, rfl, h1⟩ := mj_rg (by decide) g1
    obtain ⟨c, rfl, h2⟩ := mj_rg (by decide) g2
    exact st_safe_t R (by omega) (by omega)
  · exact st_safe_bad_t R g
theorem st_cross {E : mj_E} {κ : Nat → Bool} {C : Nat → Nat → Nat} (R : mj_Rel κ C) (w a c : Int32) : mj_St E mj_G mj_isI iX10_cross iX11_cross [.int w, .int a, .int c] (hh κ C) := by
  by_cases g : (nI 1 ≤ w ∧ w ≤ nI 99) ∧ (nI 0 ≤ a ∧ a ≤ nI 24) ∧ (nI 0 ≤ c ∧ c ≤ nI 24) ∧ (¬ a = c)
  · obtain ⟨g1, g2, g3, g4⟩ := g
    obtain ⟨w, rfl, h1, j1⟩ := mj_rg1 (by decide) g1
    obtain ⟨a, rfl, h2⟩ := mj_rg (by decide) g2
    obtain ⟨c, rfl, h3⟩ := mj_rg (by decide) g3
    have h4 : ¬ a = c := fun z => g4 (by rw [z])
    exact st_cross_t R (by omega) (by omega) (by omega) (by omega) (by omega)
  · exact st_cross_bad_t R g
theorem st_apart {E : mj_E} {κ : Nat → Bool} {C : Nat → Nat → Nat} (R : mj_Rel κ C) (w a c q : Int32) : mj_St E mj_G mj_isI iX10_apart iX11_apart [.int w, .int a, .int c, .int q] (hh κ C) := by
  by_cases g : (nI 1 ≤ w ∧ w ≤ nI 198) ∧ (nI 0 ≤ a ∧ a ≤ nI 24) ∧ (nI 0 ≤ c ∧ c ≤ nI 24) ∧ (¬ a = c) ∧ (nI 0 ≤ q ∧ q ≤ nI 1)
  · obtain ⟨g1, g2, g3, g4, g5⟩ := g
    obtain ⟨w, rfl, h1, j1⟩ := mj_rg1 (by decide) g1
    obtain ⟨a, rfl, h2⟩ := mj_rg (by decide) g2
    obtain ⟨c, rfl, h3⟩ := mj_rg (by decide) g3
    obtain ⟨q, rfl, h5⟩ := mj_rg (by decide) g5
    have h4 : ¬ a = c := fun z => g4 (by rw [z])
    rcases (by omega : q = 0 ∨ q = 1) with rfl | rfl
    · by_cases z5 : sp_lay (C 101) (fun q => C 101 (4 + q)) w 0 c a < 1000000
      · by_cases z6 : sp_fst (sp_q1 (C 101) (fun q => C 101 (4 + q)) w a c) 25 < 25
        · exact st_apart_1_0_t R (by omega) (by omega) (by omega) (by omega) (by omega) z5 z6
        have z6' : sp_fst (sp_q1 (C 101) (fun q => C 101 (4 + q)) w a c) 25 = 25 := Nat.le_antisymm sp_fst_le (Nat.le_of_not_lt z6)
        by_cases z7 : sp_fst (sp_q3 (C 101) (fun q => C 101 (4 + q)) w a c) 25 < 25
        · exact st_apart_2_0_t R (by omega) (by omega) (by omega) (by omega) (by omega) z5 z6' z7
        have z7' : sp_fst (sp_q3 (C 101) (fun q => C 101 (4 + q)) w a c) 25 = 25 := Nat.le_antisymm sp_fst_le (Nat.le_of_not_lt z7)
        exact st_apart_n_0_t R (by omega) (by omega) (by omega) (by omega) (by omega) z5 z6' (fun i hi => Nat.le_antisymm sp_fst_le (Nat.le_of_not_lt (of_decide_eq_false (show decide (sp_fst (sp_q2 (C 101) (fun q => C 101 (4 + q)) w a c i) 25 < 25) = false from fst_none_f z7' i hi))))
      · exact st_apart_0_0_t R (by omega) (by omega) (by omega) (by omega) (by omega) (Nat.le_of_not_lt z5)
    · by_cases z5 : sp_lay (C 101) (fun q => C 101 (4 + q)) w 0 c a < 1000000
      · by_cases z6 : sp_fst (sp_q1 (C 101) (fun q => C 101 (4 + q)) w a c) 25 < 25
        · exact st_apart_1_1_t R (by omega) (by omega) (by omega) (by omega) (by omega) z5 z6
        have z6' : sp_fst (sp_q1 (C 101) (fun q => C 101 (4 + q)) w a c) 25 = 25 := Nat.le_antisymm sp_fst_le (Nat.le_of_not_lt z6)
        by_cases z7 : sp_fst (sp_q3 (C 101) (fun q => C 101 (4 + q)) w a c) 25 < 25
        · exact st_apart_2_1_t R (by omega) (by omega) (by omega) (by omega) (by omega) z5 z6' z7
        have z7' : sp_fst (sp_q3 (C 101) (fun q => C 101 (4 + q)) w a c) 25 = 25 := Nat.le_antisymm sp_fst_le (Nat.le_of_not_lt z7)
        exact st_apart_n_1_t R (by omega) (by omega) (by omega) (by omega) (by omega) z5 z6' (fun i hi => Nat.le_antisymm sp_fst_le (Nat.le_of_not_lt (of_decide_eq_false (show decide (sp_fst (sp_q2 (C 101) (fun q => C 101 (4 + q)) w a c i) 25 < 25) = false from fst_none_f z7' i hi))))
      · exact st_apart_0_1_t R (by omega) (by omega) (by omega) (by omega) (by omega) (Nat.le_of_not_lt z5)
  · exact st_apart_bad_t R g
theorem st_votes {E : mj_E} {κ : Nat → Bool} {C : Nat → Nat → Nat} (R : mj_Rel κ C) (q : Int32) : mj_St E mj_G mj_isI iX10_votes iX11_votes [.int q] (hh κ C) := by
  by_cases g : nI 0 ≤ q ∧ q ≤ nI 2
  · obtain ⟨q, rfl, h1⟩ := mj_rg (by decide) g
    rcases (by omega : q = 0 ∨ q = 1 ∨ q = 2) with rfl | rfl | rfl
    · exact st_votes_0_t R
    · exact st_votes_1_t R
    · exact st_votes_2_t R
  · exact st_votes_bad_t R g
theorem st_turn {E : mj_E} {κ : Nat → Bool} {C : Nat → Nat → Nat} (R : mj_Rel κ C) : mj_St E mj_G mj_isI iX10_turn iX11_turn [] (hh κ C) := st_turn_t R
theorem st_seen {E : mj_E} {κ : Nat → Bool} {C : Nat → Nat → Nat} (R : mj_Rel κ C) (x q : Int32) : mj_St E mj_G mj_isI iX10_seen iX11_seen [.int x, .int q] (hh κ C) := by
  by_cases g : (nI 0 ≤ x ∧ x ≤ nI (1 <<< (C 27 0) - 1)) ∧ (nI 0 ≤ q ∧ q ≤ nI 2)
  · obtain ⟨g1, g2⟩ := g
    obtain ⟨x, rfl, h1⟩ := mj_rg (by have := (rv_sh R).2; omega) g1
    obtain ⟨q, rfl, h2⟩ := mj_rg (by decide) g2
    have hx1 : x < 1 <<< C 27 0 := Nat.lt_of_le_of_lt h1 (Nat.sub_lt (rv_sh R).1 (by decide))
    rcases (by omega : q = 0 ∨ q = 1 ∨ q = 2) with rfl | rfl | rfl
    · exact st_seen_0_t R hx1
    · exact st_seen_1_t R hx1
    · exact st_seen_2_t R hx1
  · exact st_seen_bad_t R g
theorem st_lies {E : mj_E} {κ : Nat → Bool} {C : Nat → Nat → Nat} (R : mj_Rel κ C) : mj_St E mj_G mj_isI iX10_lies iX11_lies [] (hh κ C) := st_lies_t R
theorem st_stones {E : mj_E} {κ : Nat → Bool} {C : Nat → Nat → Nat} (R : mj_Rel κ C) (w a c : Int32) : mj_St E mj_G mj_isI iX10_stones iX11_stones [.int w, .int a, .int c] (hh κ C) := by
  by_cases g : (nI 1 ≤ w ∧ w ≤ nI 198) ∧ (nI 0 ≤ a ∧ a ≤ nI 24) ∧ (nI 0 ≤ c ∧ c ≤ nI 24) ∧ (¬ a = c)
  · obtain ⟨g1, g2, g3, g4⟩ := g
    obtain ⟨w, rfl, h1, j1⟩ := mj_rg1 (by decide) g1
    obtain ⟨a, rfl, h2⟩ := mj_rg (by decide) g2
    obtain ⟨c, rfl, h3⟩ := mj_rg (by decide) g3
    have h4 : ¬ a = c := fun z => g4 (by rw [z])
    exact st_stones_t R (by omega) (by omega) (by omega) (by omega) (by omega)
  · exact st_stones_bad_t R g
theorem st_note {E : mj_E} {κ : Nat → Bool} {C : Nat → Nat → Nat} (R : mj_Rel κ C) (c i f s j : Int32) : mj_St E mj_G mj_isI iX10_note iX11_note [.int c, .int i, .int f, .int s, .int j] (hh κ C) := by
  by_cases g : (nI 0 ≤ c ∧ c ≤ nI 24) ∧ (nI 0 ≤ i ∧ i ≤ nI 99) ∧ (nI 0 ≤ f ∧ f ≤ nI 9) ∧ (nI 0 ≤ s ∧ s ≤ nI 9) ∧ (nI 0 ≤ j ∧ j ≤ nI 99)
  · obtain ⟨g1, g2, g3, g4, g5⟩ := g
    obtain ⟨c, rfl, h1⟩ := mj_rg (by decide) g1
    obtain ⟨i, rfl, h2⟩ := mj_rg (by decide) g2
    obtain ⟨f, rfl, h3⟩ := mj_rg (by decide) g3
    obtain ⟨s, rfl, h4⟩ := mj_rg (by decide) g4
    obtain ⟨j, rfl, h5⟩ := mj_rg (by decide) g5
    by_cases z : C 31 0 < 6
    · exact st_note_t R (by omega) (by omega) (by omega) (by omega) (by omega) z
    · exact st_note_full_t R (by omega) (by omega) (by omega) (by omega) (by omega) (by have := (show C 31 0 ≤ 6 from R.1.1 11 (by decide) 0); omega)
  · exact st_note_bad_t R g
theorem st_voted {E : mj_E} {κ : Nat → Bool} {C : Nat → Nat → Nat} (R : mj_Rel κ C) (v y p m f : Int32) : mj_St E mj_G mj_isI iX10_voted iX11_voted [.int v, .int y, .int p, .int m, .int f] (hh κ C) := by
  by_cases g : (nI 0 ≤ v ∧ v < nI (C 27 0)) ∧ (nI 0 ≤ y ∧ y ≤ nI 1) ∧ (nI 0 ≤ p ∧ p ≤ nI 198) ∧ (nI 0 ≤ m ∧ m ≤ nI 198) ∧ (nI 0 ≤ f ∧ f ≤ nI 9)
  · obtain ⟨g1, g2, g3, g4, g5⟩ := g
    obtain ⟨v, rfl, h1⟩ := mj_rgt (by have := rv_7 R; omega) g1
    obtain ⟨y, rfl, h2⟩ := mj_rg (by decide) g2
    obtain ⟨p, rfl, h3⟩ := mj_rg (by decide) g3
    obtain ⟨m, rfl, h4⟩ := mj_rg (by decide) g4
    obtain ⟨f, rfl, h5⟩ := mj_rg (by decide) g5
    by_cases z : C 33 0 < 6
    · exact st_voted_t R (by omega) (by omega) (by omega) (by omega) (by omega) z
    · exact st_voted_full_t R (by omega) (by omega) (by omega) (by omega) (by omega) (by have := (show C 33 0 ≤ 6 from R.1.1 13 (by decide) 0); omega)
  · exact st_voted_bad_t R g
theorem st_forget {E : mj_E} {κ : Nat → Bool} {C : Nat → Nat → Nat} (R : mj_Rel κ C) (q : Int32) : mj_St E mj_G mj_isI iX10_forget iX11_forget [.int q] (hh κ C) := by
  by_cases g : nI 0 ≤ q ∧ q ≤ nI 1
  · obtain ⟨q, rfl, h1⟩ := mj_rg (by decide) g
    rcases (by omega : q = 0 ∨ q = 1) with rfl | rfl
    · exact st_forget_0_t R
    · exact st_forget_1_t R
  · exact st_forget_bad_t R g
theorem st_is {E : mj_E} {κ : Nat → Bool} {C : Nat → Nat → Nat} (R : mj_Rel κ C) (c : Int32) : mj_St E mj_G mj_isI iX10_is iX11_is [.int c] (hh κ C) := by
  by_cases g : nI 0 ≤ c ∧ c ≤ nI 24
  · obtain ⟨c, rfl, h1⟩ := mj_rg (by decide) g
    exact st_is_t R (by omega)
  · exact st_is_bad_t R g
theorem st_next {E : mj_E} {κ : Nat → Bool} {C : Nat → Nat → Nat} (R : mj_Rel κ C) (c : Int32) : mj_St E mj_G mj_isI iX10_next iX11_next [.int c] (hh κ C) := by
  by_cases g : nI 0 ≤ c ∧ c ≤ nI 24
  · obtain ⟨c, rfl, h1⟩ := mj_rg (by decide) g
    by_cases z : sp_kn (C 32) (C 31 0) c = 0
    · exact st_next_none_t R (by omega) z
    · exact st_next_t R (by omega) (Nat.pos_of_ne_zero z)
  · exact st_next_bad_t R g
theorem st_who {E : mj_E} {κ : Nat → Bool} {C : Nat → Nat → Nat} (R : mj_Rel κ C) (v : Int32) : mj_St E mj_G mj_isI iX10_who iX11_who [.int v] (hh κ C) := by
  by_cases g : nI 0 ≤ v ∧ v < nI (C 27 0)
  · obtain ⟨v, rfl, h1⟩ := mj_rgt (by have := rv_7 R; omega) g
    exact st_who_t R (by omega)
  · exact st_who_bad_t R g
theorem st_two {E : mj_E} {κ : Nat → Bool} {C : Nat → Nat → Nat} (R : mj_Rel κ C) (a c : Int32) : mj_St E mj_G mj_isI iX10_two iX11_two [.int a, .int c] (hh κ C) := by
  by_cases g : (nI 0 ≤ a ∧ a < nI (C 27 0)) ∧ (nI 0 ≤ c ∧ c < nI (C 27 0)) ∧ (¬ a = c)
  · obtain ⟨g1, g2, g3⟩ := g
    obtain ⟨a, rfl, h1⟩ := mj_rgt (by have := rv_7 R; omega) g1
    obtain ⟨c, rfl, h2⟩ := mj_rgt (by have := rv_7 R; omega) g2
    have h3 : ¬ a = c := fun z => g3 (by rw [z])
    exact st_two_t R (by omega) (by omega) (by omega)
  · exact st_two_bad_t R g
theorem st_thaw {E : mj_E} {κ : Nat → Bool} {C : Nat → Nat → Nat} (R : mj_Rel κ C) (c w m o : Int32) : mj_St E mj_G mj_isI iX10_thaw iX11_thaw [.int c, .int w, .int m, .int o] (hh κ C) := by
  by_cases g : (nI 0 ≤ c ∧ c ≤ nI 24) ∧ (nI 1 ≤ w ∧ w ≤ nI 198) ∧ (nI 0 ≤ m ∧ m ≤ nI 8) ∧ (nI 0 ≤ o ∧ o ≤ nI 10)
  · obtain ⟨g1, g2, g3, g4⟩ := g
    obtain ⟨c, rfl, h1⟩ := mj_rg (by decide) g1
    obtain ⟨w, rfl, h2, j2⟩ := mj_rg1 (by decide) g2
    obtain ⟨m, rfl, h3⟩ := mj_rg (by decide) g3
    obtain ⟨o, rfl, h4⟩ := mj_rg (by decide) g4
    exact st_thaw_t R (by omega) (by omega) (by omega) (by omega) (by omega)
  · exact st_thaw_bad_t R g
theorem st_winters {E : mj_E} {κ : Nat → Bool} {C : Nat → Nat → Nat} (R : mj_Rel κ C) (s m : Int32) : mj_St E mj_G mj_isI iX10_winters iX11_winters [.int s, .int m] (hh κ C) := by
  by_cases g : (nI 0 ≤ s ∧ s ≤ nI 999999) ∧ (nI 0 ≤ m ∧ m ≤ nI 60)
  · obtain ⟨g1, g2⟩ := g
    obtain ⟨s, rfl, h1⟩ := mj_rg (by decide) g1
    obtain ⟨m, rfl, h2⟩ := mj_rg (by decide) g2
    exact st_winters_t R (by omega) (by omega)
  · exact st_winters_bad_t R g
theorem st_part {E : mj_E} {κ : Nat → Bool} {C : Nat → Nat → Nat} (R : mj_Rel κ C) (q : Int32) : mj_St E mj_G mj_isL iX10_part iX11_part [.int q] (hh κ C) := by
  by_cases g : nI 0 ≤ q ∧ q ≤ nI 1
  · obtain ⟨q, rfl, h1⟩ := mj_rg (by decide) g
    rcases (by omega : q = 0 ∨ q = 1) with rfl | rfl
    · exact st_part_0_t R
    · exact st_part_1_t R
  · exact st_part_bad_t R g
theorem st_image {E : mj_E} {κ : Nat → Bool} {C : Nat → Nat → Nat} (R : mj_Rel κ C) (i : Int32) : mj_St E mj_G mj_isI iX10_image iX11_image [.int i] (hh κ C) := by
  by_cases g : nI 0 ≤ i ∧ i ≤ nI 1
  · obtain ⟨i, rfl, h1⟩ := mj_rg (by decide) g
    rcases (by omega : i = 0 ∨ i = 1) with rfl | rfl
    · by_cases z : κ 0 = true
      · exact st_image_0_t R z
      · exact st_image_new_0_t R (by revert z; cases κ 0 <;> simp)
    · by_cases z : κ 1 = true
      · exact st_image_1_t R z
      · exact st_image_new_1_t R (by revert z; cases κ 1 <;> simp)
  · exact st_image_bad_t R g
theorem st_from {E : mj_E} {κ : Nat → Bool} {C : Nat → Nat → Nat} (R : mj_Rel κ C) (i : Int32) : mj_St E mj_G mj_isI iX10_from iX11_from [.int i] (hh κ C) := by
  by_cases g : nI 0 ≤ i ∧ i ≤ nI 1
  · obtain ⟨i, rfl, h1⟩ := mj_rg (by decide) g
    rcases (by omega : i = 0 ∨ i = 1) with rfl | rfl
    · by_cases z : κ 0 = true
      · exact st_from_0_t R z
      · exact st_from_no_0_t R (by revert z; cases κ 0 <;> simp)
    · by_cases z : κ 1 = true
      · exact st_from_1_t R z
      · exact st_from_no_1_t R (by revert z; cases κ 1 <;> simp)
  · exact st_from_bad_t R g
theorem st_status {E : mj_E} {κ : Nat → Bool} {C : Nat → Nat → Nat} (R : mj_Rel κ C) (q : Int32) : mj_St E mj_G mj_isI iX10_status iX11_status [.int q] (hh κ C) := by
  by_cases g : nI 0 ≤ q ∧ q ≤ nI 2
  · obtain ⟨q, rfl, h1⟩ := mj_rg (by decide) g
    rcases (by omega : q = 0 ∨ q = 1 ∨ q = 2) with rfl | rfl | rfl
    · exact st_status_0_t R
    · exact st_status_1_t R
    · exact st_status_2_t R
  · exact st_status_bad_t R g
theorem st_count {E : mj_E} {κ : Nat → Bool} {C : Nat → Nat → Nat} (R : mj_Rel κ C) (q : Int32) : mj_St E mj_G mj_isI iX10_count iX11_count [.int q] (hh κ C) := by
  by_cases g : nI 0 ≤ q ∧ q ≤ nI 6
  · obtain ⟨q, rfl, h1⟩ := mj_rg (by decide) g
    rcases (by omega : q = 0 ∨ q = 1 ∨ q = 2 ∨ q = 3 ∨ q = 4 ∨ q = 5 ∨ q = 6) with rfl | rfl | rfl | rfl | rfl | rfl | rfl
    · exact st_count_0_t R
    · exact st_count_1_t R
    · exact st_count_2_t R
    · exact st_count_3_t R
    · exact st_count_4_t R
    · exact st_count_5_t R
    · exact st_count_6_t R
  · exact st_count_bad_t R g
theorem st_digest {E : mj_E} {κ : Nat → Bool} {C : Nat → Nat → Nat} (R : mj_Rel κ C) : mj_St E mj_G mj_isL iX10_digest iX11_digest [] (hh κ C) := st_digest_t R
theorem mj_steps {E : mj_E} : mj_Steps E mj_G := by
  intro h g
  obtain ⟨κ, C, rfl, R⟩ := g
  exact ⟨fun x1 => st_lake R x1, fun x1 x2 => st_cell R x1 x2, fun x1 x2 x3 => st_weather R x1 x2 x3, fun x1 x2 => st_ward R x1 x2, fun x1 x2 x3 => st_voter R x1 x2 x3, fun x1 => st_type R x1, fun _ => st_clear R, fun _ => st_read R, fun x1 => st_day R x1, fun x1 x2 => st_tread R x1 x2, fun x1 => st_stone R x1, fun _ => st_undo R, fun x1 x2 => st_of R x1 x2, fun x1 x2 => st_about R x1 x2, fun x1 x2 x3 => st_then R x1 x2 x3, fun x1 x2 => st_when R x1 x2, fun x1 x2 => st_where R x1 x2, fun x1 => st_horses R x1, fun x1 x2 x3 x4 => st_path R x1 x2 x3 x4, fun x1 x2 => st_safe R x1 x2, fun x1 x2 x3 => st_cross R x1 x2 x3, fun x1 x2 x3 x4 => st_apart R x1 x2 x3 x4, fun x1 => st_votes R x1, fun _ => st_turn R, fun x1 x2 => st_seen R x1 x2, fun _ => st_lies R, fun x1 x2 x3 => st_stones R x1 x2 x3, fun x1 x2 x3 x4 x5 => st_note R x1 x2 x3 x4 x5, fun x1 x2 x3 x4 x5 => st_voted R x1 x2 x3 x4 x5, fun x1 => st_forget R x1, fun x1 => st_is R x1, fun x1 => st_next R x1, fun x1 => st_who R x1, fun x1 x2 => st_two R x1 x2, fun x1 x2 x3 x4 => st_thaw R x1 x2 x3 x4, fun x1 x2 => st_winters R x1 x2, fun x1 => st_part R x1, fun x1 => st_image R x1, fun x1 => st_from R x1, fun x1 => st_status R x1, fun x1 => st_count R x1, fun _ => st_digest R⟩
