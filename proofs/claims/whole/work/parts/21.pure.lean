/-! ===== pure: checks, rounds, comparisons ===== -/
theorem lg0 (x : Int64) : lg_cmp x x = 0 := by
  unfold lg_cmp
  rw [if_neg (show ¬ x > x from Int64.lt_irrefl), if_pos rfl]
theorem ou0 (ou : Nat → Int64) (x : Int64) : lg_cmp (vp_updL ou 0 x 0) x = 0 := by
  rw [pk_uLs]
  exact lg0 x
theorem chk_in {p c d : Int32} {N : Nat} (hc : c = nI N) (hd : d = nI (N - 1)) (h0 : 0 < N) (hN : N < 2 ^ 31) (h : vp_in p N) : ¬ p < 0 ∧ p < c ∧ ¬ d < p := by
  obtain ⟨j, hj, rfl⟩ := vp_in_of h hN
  subst hc; subst hd
  exact ⟨nI_pos (by omega), nI_lt hj hN, fun q => by have := (nI_ltI (by omega) (by omega)).mp q; omega⟩
theorem chk_out {p c d : Int32} {N : Nat} (hc : c = nI N) (hd : d = nI (N - 1)) (h0 : 0 < N) (hN : N < 2 ^ 31) (h : ¬ vp_in p N) : p < 0 ∨ (¬ p < 0 ∧ ¬ p < c ∧ d < p) := by
  by_cases h1 : p < 0
  · exact Or.inl h1
  · obtain ⟨j, hj, rfl⟩ := nI_of h1
    subst hc; subst hd
    have hjN : N ≤ j := Nat.le_of_not_lt (fun q => h (vp_in_nI q hN))
    exact Or.inr ⟨h1, fun q => by have := (nI_ltI hj hN).mp q; omega, nI_lt (by omega) hj⟩
theorem cell_or (p : Int32) : (k_X5_checkCell p = 0 ∧ ¬ f_X6_isIn p 0 143 = 0 ∧ vp_in p 144) ∨ (k_X5_checkCell p = 1 ∧ f_X6_isIn p 0 143 = 0) := by
  by_cases h : vp_in p 144
  · obtain ⟨a, b, c⟩ := chk_in (c := 144) (d := 143) rfl rfl (by decide) (by decide) h
    exact Or.inl ⟨by unfold k_X5_checkCell; rw [if_neg a, if_pos b], by unfold f_X6_isIn; rw [if_neg a, if_neg c]; decide, h⟩
  · rcases chk_out (c := 144) (d := 143) rfl rfl (by decide) (by decide) h with a | ⟨a, b, c⟩
    · exact Or.inr ⟨by unfold k_X5_checkCell; rw [if_pos a], by unfold f_X6_isIn; rw [if_pos a]⟩
    · exact Or.inr ⟨by unfold k_X5_checkCell; rw [if_neg a, if_neg b], by unfold f_X6_isIn; rw [if_neg a, if_pos c]⟩
theorem team_or (p : Int32) : (k_X5_checkTeam p = 0 ∧ ¬ f_X6_isIn p 0 5 = 0 ∧ vp_in p 6) ∨ (k_X5_checkTeam p = 1 ∧ f_X6_isIn p 0 5 = 0) := by
  by_cases h : vp_in p 6
  · obtain ⟨a, b, c⟩ := chk_in (c := 6) (d := 5) rfl rfl (by decide) (by decide) h
    exact Or.inl ⟨by unfold k_X5_checkTeam; rw [if_neg a, if_pos b], by unfold f_X6_isIn; rw [if_neg a, if_neg c]; decide, h⟩
  · rcases chk_out (c := 6) (d := 5) rfl rfl (by decide) (by decide) h with a | ⟨a, b, c⟩
    · exact Or.inr ⟨by unfold k_X5_checkTeam; rw [if_pos a], by unfold f_X6_isIn; rw [if_pos a]⟩
    · exact Or.inr ⟨by unfold k_X5_checkTeam; rw [if_neg a, if_neg b], by unfold f_X6_isIn; rw [if_neg a, if_pos c]⟩
theorem player_or (p : Int32) : (k_X5_checkPlayer p = 0 ∧ ¬ f_X6_isIn p 0 5 = 0 ∧ vp_in p 6) ∨ (k_X5_checkPlayer p = 1 ∧ f_X6_isIn p 0 5 = 0) := by
  by_cases h : vp_in p 6
  · obtain ⟨a, b, c⟩ := chk_in (c := 6) (d := 5) rfl rfl (by decide) (by decide) h
    exact Or.inl ⟨by unfold k_X5_checkPlayer; rw [if_neg a, if_pos b], by unfold f_X6_isIn; rw [if_neg a, if_neg c]; decide, h⟩
  · rcases chk_out (c := 6) (d := 5) rfl rfl (by decide) (by decide) h with a | ⟨a, b, c⟩
    · exact Or.inr ⟨by unfold k_X5_checkPlayer; rw [if_pos a], by unfold f_X6_isIn; rw [if_pos a]⟩
    · exact Or.inr ⟨by unfold k_X5_checkPlayer; rw [if_neg a, if_neg b], by unfold f_X6_isIn; rw [if_neg a, if_pos c]⟩
theorem referee_or (p : Int32) : (k_X5_checkReferee p = 0 ∧ ¬ f_X6_isIn p 0 1 = 0 ∧ vp_in p 2) ∨ (k_X5_checkReferee p = 1 ∧ f_X6_isIn p 0 1 = 0) := by
  by_cases h : vp_in p 2
  · obtain ⟨a, b, c⟩ := chk_in (c := 2) (d := 1) rfl rfl (by decide) (by decide) h
    exact Or.inl ⟨by unfold k_X5_checkReferee; rw [if_neg a, if_pos b], by unfold f_X6_isIn; rw [if_neg a, if_neg c]; decide, h⟩
  · rcases chk_out (c := 2) (d := 1) rfl rfl (by decide) (by decide) h with a | ⟨a, b, c⟩
    · exact Or.inr ⟨by unfold k_X5_checkReferee; rw [if_pos a], by unfold f_X6_isIn; rw [if_pos a]⟩
    · exact Or.inr ⟨by unfold k_X5_checkReferee; rw [if_neg a, if_neg b], by unfold f_X6_isIn; rw [if_neg a, if_pos c]⟩
theorem rd_off (hm aw : Int32) : k_X5_checkRound hm aw (-1) = 3 ∧ f_X2_isPlayed hm aw (-1) = 0 := by
  have h : f_X2_isPlayed hm aw (-1) = 0 := by unfold f_X2_isPlayed; rw [if_pos rfl]
  exact ⟨by unfold k_X5_checkRound; rw [if_pos h], h⟩
theorem rd_on (hm aw : Int32) {tk : Int32} (hk : ¬ tk = (-1)) : k_X5_checkRound hm aw tk = 0 ∧ ¬ f_X2_isPlayed hm aw tk = 0 := by
  have h : ¬ f_X2_isPlayed hm aw tk = 0 := by unfold f_X2_isPlayed; rw [if_neg hk]; decide
  exact ⟨by unfold k_X5_checkRound; rw [if_neg h], h⟩
theorem tk_on {tk : Int32} {n T : Nat} (hn : n < 512) (hT : T ≤ 50 * n) (h : tk = nI T) : ¬ tk = (-1) := fun q => by
  rw [h] at q
  exact nI_pos (n := T) (by omega) (by rw [q]; decide)
theorem on1 {x : Int32} (h : x = 1) : ¬ x = 0 := by rw [h]; decide
