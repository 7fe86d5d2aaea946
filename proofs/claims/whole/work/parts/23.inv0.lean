/-! ===== pure: small rows ===== -/
theorem fillN_at (f : Nat → Int32) (x : Int32) : ∀ n j : Nat, j < n → fillN f x n j = x
  | 0, j, h => absurd h (Nat.not_lt_zero j)
  | n + 1, j, h => by
    rw [fillN]
    unfold upd
    split
    · rfl
    · exact fillN_at f x n j (by omega)
theorem b01_upd {f : Nat → Int32} {k : Nat} {x : Int32} (h : b01 f) (hx : x = 0 ∨ x = 1) : b01 (upd f k x) := fun j => by
  unfold upd
  split
  · exact hx
  · exact h j
theorem inv_0 : Inv 0 (upd (upd (fun _ => 0) 0 0) 1 143) (fun _ => 0) 0 0 (-1) (fillN (fun _ => 0) (-2) 6) (fillN (fun _ => 0) (-1) 6) (fillN (fun _ => 0) (-1) 6) 0 (fun _ => 0) (fun _ => 0) (fun _ => 0) (fun _ => 0) 0 (fun _ => 0) (fun _ => 0) (fun _ => 0) (fun _ => 0) (fun _ => 0) (fun _ => 0) (fun _ => 0) (fun _ _ => 0) (upd (fun _ => 0) 1 143) (fun _ => 0) 0 0 0 0 (fun _ => 0) (fun _ => 0) (fun _ => 0) 0 (fun _ => 0) (fun _ => 0) (fun _ => 0) (fun _ => 0) 0 (fun _ => 0) (fun _ => 0) (fun _ => 0) (fun _ => 0) (fun _ => 0) (fun _ => 0) (fun _ => 0) (fun _ => 0) := by
  refine ⟨⟨rfl, fun _ => Or.inl rfl⟩, ⟨?_, ?_⟩, ⟨rfl, rfl, rfl, rfl⟩, ⟨rfl, rfl, rfl, rfl, fun _ => Or.inl rfl⟩, ⟨rfl, rfl, rfl, fun _ _ _ _ => ⟨rfl, 0, Nat.le_refl _, rfl⟩⟩, ⟨?_, ?_, ?_, ?_⟩, ⟨Nat.zero_le _, Nat.zero_le _, Nat.le_refl _, Nat.le_refl _⟩, ⟨fun j h => absurd h (Nat.not_lt_zero j), fun j h => absurd h (Nat.not_lt_zero j)⟩, Or.inl ⟨rfl, rfl, rfl, rfl, fun j hj => fillN_at _ _ 6 j hj, fun j hj => fillN_at _ _ 6 j hj⟩⟩
  · refine congrArg (fun f => upd f 1 143) (funext fun j => ?_)
    unfold upd
    split <;> rfl
  · intro j hj
    rcases (show j = 0 ∨ j = 1 by omega) with rfl | rfl
    · show vp_in (nI 0) 144
      exact vp_in_nI (by decide) (by decide)
    · show vp_in (nI 143) 144
      exact vp_in_nI (by decide) (by decide)
  all_goals
    show vp_in (nI 0) 6
    exact vp_in_nI (by decide) (by decide)

