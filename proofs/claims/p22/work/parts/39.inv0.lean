/-- the law's players at the start -/
def inN (lp : Nat → Int32) : Nat → Nat → Int32
  | 0 => lp
  | n + 1 => upd (upd (inN lp n) n (-2)) (6 + n) (-1)
termination_by n => n
theorem in_at (lp : Nat → Int32) : ∀ n j : Nat, n ≤ 6 → j < n → inN lp n j = (-2)
  | 0, j, _, h => absurd h (Nat.not_lt_zero j)
  | n + 1, j, hn, h => by
    rw [inN, upd_ne _ _ (by omega)]
    by_cases q : j = n
    · rw [q, upd_at]
    · rw [upd_ne _ _ q]; exact in_at lp n j (by omega) (by omega)
theorem inv_0 : InvB 0 (upd (upd (fun _ => 0) 0 0) 1 143) (fun _ => 0) 0 0 (-1) (fillN (fun _ => 0) (-2) 6) (fillN (fun _ => 0) (-1) 6) (fillN (fun _ => 0) (-1) 6) 0 (fun _ => 0) (fun _ => 0) (fun _ => 0) (fun _ => 0) 0 (fun _ => 0) (fun _ => 0) (fun _ => 0) (fun _ => 0) (fun _ => 0) (fun _ => 0) (fun _ => 0) (fun _ _ => 0) (upd (upd (fun _ => 0) 13 143) 14 (-1)) (inN (fun _ => 0) 6) (fun _ => 0) (fun _ => 0) (fun _ => 0) := by
  have z : bdd 0 0 := by unfold bdd; decide
  refine ⟨⟨⟨fun _ => Or.inl rfl, fun r hr => ⟨fun c hc => ?_, fun i hi => ?_⟩⟩, fun j hj => ?_, ⟨fun k hk => ⟨⟨rfl, rfl, rfl⟩, z, z, z⟩, fun i j hi hj => ⟨rfl, z⟩⟩, ⟨?_, ?_, vin (j := 0) (by decide), vin (j := 0) (by decide)⟩, upd_at _ _ _, ⟨0, by omega, ?_⟩, fun j hj => Or.inl (in_at _ 6 j (Nat.le_refl 6) hj), ⟨by omega, by omega⟩, fun _ => Or.inl rfl, Or.inl ⟨rfl, rfl, rfl, fun j hj => fill_at _ _ 6 j hj, fun j hj => fill_at _ _ 6 j hj⟩⟩, Or.inl rfl⟩
  · rw [upd_ne _ _ (by omega), upd_ne _ _ (by omega)]
    show (0 : Int32) = 1 ↔ bt 0 c = true
    rw [b_0]
    exact ⟨fun q => absurd q (by decide), fun q => absurd q (by decide)⟩
  · rw [upd_ne _ _ (by omega), upd_ne _ _ (by omega)]
    exact b_0 i
  · rcases (show j = 0 ∨ j = 1 by omega) with q | q
    · subst q
      rw [upd_ne _ _ (by decide), upd_ne _ _ (by decide), upd_ne _ _ (by decide), upd_at]
      exact ⟨rfl, vin (j := 0) (by decide)⟩
    · subst q
      rw [upd_ne _ _ (by decide), upd_at, upd_at]
      exact ⟨rfl, vin (j := 143) (by decide)⟩
  · rw [upd_ne _ _ (by decide), upd_ne _ _ (by decide)]
  · rw [upd_ne _ _ (by decide), upd_ne _ _ (by decide)]
  · rw [upd_ne _ _ (by decide), upd_ne _ _ (by decide)]; rfl
