/-! ===== pure: the class sees as the model sees ===== -/
theorem ti_a {x y : Int32} {a b : Int} (hx : x.toInt = a) (hy : y.toInt = b) (h1 : -2147483648 ≤ a + b) (h2 : a + b < 2147483648) : (x + y).toInt = a + b := by
  rw [Int32.toInt_add, hx, hy]
  exact Int.bmod_eq_of_le (by omega) (by omega)
theorem ti_s {x y : Int32} {a b : Int} (hx : x.toInt = a) (hy : y.toInt = b) (h1 : -2147483648 ≤ a - b) (h2 : a - b < 2147483648) : (x - y).toInt = a - b := by
  rw [Int32.toInt_sub, hx, hy]
  exact Int.bmod_eq_of_le (by omega) (by omega)
theorem ti_m {x y : Int32} {a b : Int} (hx : x.toInt = a) (hy : y.toInt = b) (h1 : -2147483648 ≤ a * b) (h2 : a * b < 2147483648) : (x * y).toInt = a * b := by
  rw [Int32.toInt_mul, hx, hy]
  exact Int.bmod_eq_of_le (by omega) (by omega)
theorem ti_n {n : Nat} (h : n < 2 ^ 31) : (nI n).toInt = (n : Int) := nI_toInt h
/-- a product of two small numbers is small -/
theorem mbd {a b N : Int} (h1 : -N ≤ a) (h2 : a ≤ N) (h3 : -N ≤ b) (h4 : b ≤ N) : -(N * N) ≤ a * b ∧ a * b ≤ N * N := by
  have e1 : 0 ≤ (N - a) * (N - b) := Int.mul_nonneg (by omega) (by omega)
  have e2 : 0 ≤ (N + a) * (N + b) := Int.mul_nonneg (by omega) (by omega)
  have e3 : 0 ≤ (N - a) * (N + b) := Int.mul_nonneg (by omega) (by omega)
  have e4 : 0 ≤ (N + a) * (N - b) := Int.mul_nonneg (by omega) (by omega)
  rw [Int.sub_mul, Int.mul_sub, Int.mul_sub] at e1
  rw [Int.add_mul, Int.mul_add, Int.mul_add] at e2
  rw [Int.sub_mul, Int.mul_add, Int.mul_add] at e3
  rw [Int.add_mul, Int.mul_sub, Int.mul_sub] at e4
  constructor <;> omega
theorem ti_abs {x : Int32} {a : Int} (hx : x.toInt = a) (h1 : -2147483648 < a) : (z_abs x).toInt = if 0 ≤ a then a else -a := by
  have h2 : a < 2147483648 := by have := Int32.toInt_lt x; omega
  unfold z_abs
  by_cases h : 0 ≤ x
  · have h3 : 0 ≤ a := by rw [Int32.le_iff_toInt_le, hx] at h; exact h
    rw [if_pos h, if_pos h3, hx]
  · have h3 : ¬ 0 ≤ a := fun q => h (by rw [Int32.le_iff_toInt_le, hx]; exact q)
    rw [if_neg h, if_neg h3, ti_s (x := 0) (a := 0) rfl hx (by omega) (by omega)]
    omega
/-- the class's question, in whole numbers: 0 where the line doesn't lead through -/
theorem le_iff {A B K : Nat} (hA : A < 144) (hB : B < 144) (hK : K < 144) : f_X1_lineEnters (nI A) (nI B) (nI K) = 0 ↔
    (if (0 : Int) ≤ (B / 12 : Nat) - (A / 12 : Nat) then ((B / 12 : Nat) : Int) - (A / 12 : Nat) else -(((B / 12 : Nat) : Int) - (A / 12 : Nat))) + (if (0 : Int) ≤ (B % 12 : Nat) - (A % 12 : Nat) then ((B % 12 : Nat) : Int) - (A % 12 : Nat) else -(((B % 12 : Nat) : Int) - (A % 12 : Nat))) ≤
    2 * (if (0 : Int) ≤ (((B / 12 : Nat) : Int) - (A / 12 : Nat)) * (((K % 12 : Nat) : Int) - (A % 12 : Nat)) - (((B % 12 : Nat) : Int) - (A % 12 : Nat)) * (((K / 12 : Nat) : Int) - (A / 12 : Nat)) then (((B / 12 : Nat) : Int) - (A / 12 : Nat)) * (((K % 12 : Nat) : Int) - (A % 12 : Nat)) - (((B % 12 : Nat) : Int) - (A % 12 : Nat)) * (((K / 12 : Nat) : Int) - (A / 12 : Nat)) else -((((B / 12 : Nat) : Int) - (A / 12 : Nat)) * (((K % 12 : Nat) : Int) - (A % 12 : Nat)) - (((B % 12 : Nat) : Int) - (A % 12 : Nat)) * (((K / 12 : Nat) : Int) - (A / 12 : Nat)))) := by
  unfold f_X1_lineEnters
  rw [r12 hA, r12 hB, r12 hK, d12 hA, d12 hB, d12 hK]
  generalize hrA : A / 12 = rA
  generalize hrB : B / 12 = rB
  generalize hrK : K / 12 = rK
  generalize hcA : A % 12 = cA
  generalize hcB : B % 12 = cB
  generalize hcK : K % 12 = cK
  have b1 : rA < 12 := by omega
  have b2 : rB < 12 := by omega
  have b3 : rK < 12 := by omega
  have b4 : cA < 12 := by omega
  have b5 : cB < 12 := by omega
  have b6 : cK < 12 := by omega
  have t1 : (nI rB - nI rA).toInt = (rB : Int) - rA := ti_s (ti_n (by omega)) (ti_n (by omega)) (by omega) (by omega)
  have t2 : (nI cB - nI cA).toInt = (cB : Int) - cA := ti_s (ti_n (by omega)) (ti_n (by omega)) (by omega) (by omega)
  have t3 : (nI rK - nI rA).toInt = (rK : Int) - rA := ti_s (ti_n (by omega)) (ti_n (by omega)) (by omega) (by omega)
  have t4 : (nI cK - nI cA).toInt = (cK : Int) - cA := ti_s (ti_n (by omega)) (ti_n (by omega)) (by omega) (by omega)
  have m1 := mbd (a := (rB : Int) - rA) (b := (cK : Int) - cA) (N := 12) (by omega) (by omega) (by omega) (by omega)
  have m2 := mbd (a := (cB : Int) - cA) (b := (rK : Int) - rA) (N := 12) (by omega) (by omega) (by omega) (by omega)
  have t5 := ti_m t1 t4 (by omega) (by omega)
  have t6 := ti_m t2 t3 (by omega) (by omega)
  generalize ((rB : Int) - rA) * ((cK : Int) - cA) = M1 at m1 t5 ⊢
  generalize ((cB : Int) - cA) * ((rK : Int) - rA) = M2 at m2 t6 ⊢
  have t7 := ti_abs (ti_s t5 t6 (by omega) (by omega)) (by omega)
  have t8 := ti_abs t1 (by omega)
  have t9 := ti_abs t2 (by omega)
  have u1 : 0 ≤ (if 0 ≤ M1 - M2 then M1 - M2 else -(M1 - M2)) ∧ (if 0 ≤ M1 - M2 then M1 - M2 else -(M1 - M2)) ≤ 300 := by split <;> omega
  have u2 : 0 ≤ (if (0 : Int) ≤ rB - rA then (rB : Int) - rA else -((rB : Int) - rA)) ∧ (if (0 : Int) ≤ rB - rA then (rB : Int) - rA else -((rB : Int) - rA)) ≤ 12 := by split <;> omega
  have u3 : 0 ≤ (if (0 : Int) ≤ cB - cA then (cB : Int) - cA else -((cB : Int) - cA)) ∧ (if (0 : Int) ≤ cB - cA then (cB : Int) - cA else -((cB : Int) - cA)) ≤ 12 := by split <;> omega
  generalize (if 0 ≤ M1 - M2 then M1 - M2 else -(M1 - M2)) = V at t7 u1 ⊢
  generalize (if (0 : Int) ≤ rB - rA then (rB : Int) - rA else -((rB : Int) - rA)) = R9 at t8 u2 ⊢
  generalize (if (0 : Int) ≤ cB - cA then (cB : Int) - cA else -((cB : Int) - cA)) = C9 at t9 u3 ⊢
  have t10 := ti_a t8 t9 (by omega) (by omega)
  have t11 := ti_m (x := 2) (a := 2) rfl t7 (by omega) (by omega)
  split
  · rename_i h
    rw [Int32.le_iff_toInt_le, t10, t11] at h
    exact ⟨fun _ => h, fun _ => rfl⟩
  · rename_i h
    rw [Int32.le_iff_toInt_le, t10, t11] at h
    exact ⟨fun q => absurd q (by decide), fun q => absurd q h⟩
/-- the model's side of a line -/
theorem side_iff {A B : Nat} (hA : A < 144) (hB : B < 144) {x y : Int32} {X Y : Int} (hx : x.toInt = X) (hy : y.toInt = Y) (x1 : 0 ≤ X) (x2 : X ≤ 24) (y1 : 0 ≤ Y) (y2 : Y ≤ 24) :
    (f_X6_side (nI A) (nI B) x y ≤ 0 ↔ (2 * (((B % 12 : Nat) : Int) - (A % 12 : Nat))) * (Y - (2 * ((A / 12 : Nat) : Int) + 1)) - (2 * (((B / 12 : Nat) : Int) - (A / 12 : Nat))) * (X - (2 * ((A % 12 : Nat) : Int) + 1)) ≤ 0) ∧
    (0 ≤ f_X6_side (nI A) (nI B) x y ↔ 0 ≤ (2 * (((B % 12 : Nat) : Int) - (A % 12 : Nat))) * (Y - (2 * ((A / 12 : Nat) : Int) + 1)) - (2 * (((B / 12 : Nat) : Int) - (A / 12 : Nat))) * (X - (2 * ((A % 12 : Nat) : Int) + 1))) := by
  unfold f_X6_side
  rw [r12 hA, r12 hB, d12 hA, d12 hB]
  generalize hrA : A / 12 = rA
  generalize hrB : B / 12 = rB
  generalize hcA : A % 12 = cA
  generalize hcB : B % 12 = cB
  have b1 : rA < 12 := by omega
  have b2 : rB < 12 := by omega
  have b4 : cA < 12 := by omega
  have b5 : cB < 12 := by omega
  have dbl : ∀ k : Nat, k < 12 → (2 * nI k + 1 : Int32).toInt = 2 * (k : Int) + 1 := fun k hk =>
    ti_a (ti_m (x := 2) (a := 2) rfl (ti_n (by omega)) (by omega) (by omega)) (y := 1) (b := 1) rfl (by omega) (by omega)
  have t1 := ti_s (dbl cB b5) (dbl cA b4) (by omega) (by omega)
  have t2 := ti_s (dbl rB b2) (dbl rA b1) (by omega) (by omega)
  have t3 := ti_s hy (dbl rA b1) (by omega) (by omega)
  have t4 := ti_s hx (dbl cA b4) (by omega) (by omega)
  rw [show 2 * (cB : Int) + 1 - (2 * (cA : Int) + 1) = 2 * ((cB : Int) - cA) by omega] at t1
  rw [show 2 * (rB : Int) + 1 - (2 * (rA : Int) + 1) = 2 * ((rB : Int) - rA) by omega] at t2
  have m1 := mbd (a := 2 * ((cB : Int) - cA)) (b := Y - (2 * (rA : Int) + 1)) (N := 26) (by omega) (by omega) (by omega) (by omega)
  have m2 := mbd (a := 2 * ((rB : Int) - rA)) (b := X - (2 * (cA : Int) + 1)) (N := 26) (by omega) (by omega) (by omega) (by omega)
  have t5 := ti_m t1 t3 (by omega) (by omega)
  have t6 := ti_m t2 t4 (by omega) (by omega)
  generalize 2 * ((cB : Int) - cA) * (Y - (2 * (rA : Int) + 1)) = M1 at m1 t5 ⊢
  generalize 2 * ((rB : Int) - rA) * (X - (2 * (cA : Int) + 1)) = M2 at m2 t6 ⊢
  have t7 := ti_s t5 t6 (by omega) (by omega)
  generalize ((2 * nI cB + 1 - (2 * nI cA + 1)) * (y - (2 * nI rA + 1)) - (2 * nI rB + 1 - (2 * nI rA + 1)) * (x - (2 * nI cA + 1)) : Int32) = v at t7 ⊢
  by_cases h1 : 0 ≤ v
  · have h2 : 0 ≤ M1 - M2 := by rw [Int32.le_iff_toInt_le, t7] at h1; exact h1
    rw [if_pos h1]
    by_cases h3 : v ≤ 0
    · have h4 : M1 - M2 ≤ 0 := by rw [Int32.le_iff_toInt_le, t7] at h3; exact h3
      rw [if_pos h3]
      exact ⟨⟨fun _ => h4, fun _ => by decide⟩, ⟨fun _ => h2, fun _ => by decide⟩⟩
    · have h4 : ¬ M1 - M2 ≤ 0 := fun q => h3 (by rw [Int32.le_iff_toInt_le, t7]; exact q)
      rw [if_neg h3]
      exact ⟨⟨fun q => absurd q (by decide), fun q => absurd q h4⟩, ⟨fun _ => h2, fun _ => by decide⟩⟩
  · have h2 : ¬ 0 ≤ M1 - M2 := fun q => h1 (by rw [Int32.le_iff_toInt_le, t7]; exact q)
    rw [if_neg h1]
    exact ⟨⟨fun _ => by omega, fun _ => by decide⟩, ⟨fun q => absurd q (by decide), fun q => absurd q h2⟩⟩
/-- the corner k of the cell K -/
theorem cx_val {K : Nat} (hK : K < 144) (k : Nat) (hk : k < 4) : (2 * (nI K - nI K / 12 * 12) + 2 * (nI k - nI k / 2 * 2) : Int32).toInt = 2 * ((K % 12 : Nat) : Int) + 2 * ((k % 2 : Nat) : Int) ∧ (2 * (nI K / 12) + 2 * (nI k / 2) : Int32).toInt = 2 * ((K / 12 : Nat) : Int) + 2 * ((k / 2 : Nat) : Int) := by
  have e1 : nI k - nI k / 2 * 2 = nI (k % 2) := pk_rem (d := 2) (by omega) (by decide) (by decide)
  have e2 : nI k / 2 = nI (k / 2) := pk_div (d := 2) (by omega) (by decide) (by decide)
  rw [e1, e2, r12 hK, d12 hK]
  have a1 : K % 12 < 12 := by omega
  have a2 : K / 12 < 12 := by omega
  have a3 : k % 2 < 2 := by omega
  have a4 : k / 2 < 2 := by omega
  constructor
  · exact ti_a (ti_m (x := 2) (a := 2) rfl (ti_n (by omega)) (by omega) (by omega)) (ti_m (x := 2) (a := 2) rfl (ti_n (by omega)) (by omega) (by omega)) (by omega) (by omega)
  · exact ti_a (ti_m (x := 2) (a := 2) rfl (ti_n (by omega)) (by omega) (by omega)) (ti_m (x := 2) (a := 2) rfl (ti_n (by omega)) (by omega) (by omega)) (by omega) (by omega)
noncomputable abbrev sdK (p1 p2 p3 : Int32) (n : Nat) : Int32 := f_X6_side p1 p2 (2 * (p3 - p3 / 12 * 12) + 2 * (nI n - nI n / 2 * 2)) (2 * (p3 / 12) + 2 * (nI n / 2))
theorem ldN_1 (p1 p2 p3 : Int32) : ∀ n : Nat, (ldN p1 p2 p3 n).1 = 0 ↔ ∀ k : Nat, k < n → sdK p1 p2 p3 k ≤ 0
  | 0 => ⟨fun _ k h => absurd h (Nat.not_lt_zero k), fun _ => by rw [ldN]⟩
  | n + 1 => by
    have ih := ldN_1 p1 p2 p3 n
    rw [ldN]
    dsimp only
    by_cases h : (ldN p1 p2 p3 n).1 = 0
    · rw [if_pos h]
      by_cases h2 : sdK p1 p2 p3 n ≤ 0
      · rw [if_pos h2]
        exact ⟨fun _ => all_s (ih.mp h) h2, fun _ => rfl⟩
      · rw [if_neg h2]
        exact ⟨fun q => absurd q (by decide), fun q => absurd (q n (Nat.lt_succ_self n)) h2⟩
    · rw [if_neg h]
      exact ⟨fun q => absurd q (by decide), fun q => absurd (ih.mpr (fun k hk => q k (Nat.lt_succ_of_lt hk))) h⟩
theorem ldN_2 (p1 p2 p3 : Int32) : ∀ n : Nat, (ldN p1 p2 p3 n).2 = 0 ↔ ∀ k : Nat, k < n → 0 ≤ sdK p1 p2 p3 k
  | 0 => ⟨fun _ k h => absurd h (Nat.not_lt_zero k), fun _ => by rw [ldN]⟩
  | n + 1 => by
    have ih := ldN_2 p1 p2 p3 n
    rw [ldN]
    dsimp only
    by_cases h : (ldN p1 p2 p3 n).2 = 0
    · rw [if_pos h]
      by_cases h2 : 0 ≤ sdK p1 p2 p3 n
      · rw [if_pos h2]
        exact ⟨fun _ => all_s (ih.mp h) h2, fun _ => rfl⟩
      · rw [if_neg h2]
        exact ⟨fun q => absurd q (by decide), fun q => absurd (q n (Nat.lt_succ_self n)) h2⟩
    · rw [if_neg h]
      exact ⟨fun q => absurd q (by decide), fun q => absurd (ih.mpr (fun k hk => q k (Nat.lt_succ_of_lt hk))) h⟩
theorem isIn_nI {v a b : Nat} (hv : v < 2 ^ 31) (ha : a < 2 ^ 31) (hb : b < 2 ^ 31) : f_X6_isIn (nI v) (nI a) (nI b) = 0 ↔ ¬ (a ≤ v ∧ v ≤ b) := by
  unfold f_X6_isIn
  by_cases h1 : nI v < nI a
  · have h2 := (nI_ltI hv ha).mp h1
    rw [if_pos h1]
    exact ⟨fun _ => by omega, fun _ => rfl⟩
  · have h2 : ¬ v < a := fun q => h1 (nI_lt q ha)
    rw [if_neg h1]
    by_cases h3 : nI b < nI v
    · have h4 := (nI_ltI hb hv).mp h3
      rw [if_pos h3]
      exact ⟨fun _ => by omega, fun _ => rfl⟩
    · have h4 : ¬ b < v := fun q => h3 (nI_lt q hv)
      rw [if_neg h3]
      exact ⟨fun q => absurd q (by decide), fun q => absurd (show a ≤ v ∧ v ≤ b by omega) q⟩
theorem btw_iff {a b v : Nat} (ha : a < 2 ^ 31) (hb : b < 2 ^ 31) (hv : v < 2 ^ 31) : f_X6_isBetween (nI a) (nI b) (nI v) = 0 ↔ ¬ (min a b ≤ v ∧ v ≤ max a b) := by
  unfold f_X6_isBetween
  by_cases h : nI b ≤ nI a
  · have h2 := (nI_leI hb ha).mp h
    rw [if_pos h, isIn_nI hv hb ha, Nat.min_eq_right h2, Nat.max_eq_left h2]
  · have h2 : a ≤ b := by
      rcases Nat.lt_or_ge a b with q | q
      · omega
      · exact absurd (nI_le q ha) h
    rw [if_neg h, isIn_nI hv ha hb, Nat.min_eq_left h2, Nat.max_eq_right h2]
theorem ex_m (C D : Int) : 2 * C * (2 * D - 1) = 4 * (C * D) - 2 * C := by
  rw [Int.mul_sub, Int.mul_one, Int.mul_assoc, Int.mul_left_comm C 2 D]
  omega
theorem ex_p (C D : Int) : 2 * C * (2 * D + 1) = 4 * (C * D) + 2 * C := by
  rw [Int.mul_add, Int.mul_one, Int.mul_assoc, Int.mul_left_comm C 2 D]
  omega
set_option maxHeartbeats 4000000 in
/-- in the box of two different cells both sides ask the same -/
theorem ld_le {A B K : Nat} (hA : A < 144) (hB : B < 144) (hK : K < 144) (hAB : A ≠ B) (g1 : min (A / 12) (B / 12) ≤ K / 12) (g2 : K / 12 ≤ max (A / 12) (B / 12)) (g3 : min (A % 12) (B % 12) ≤ K % 12) (g4 : K % 12 ≤ max (A % 12) (B % 12)) :
    ldR (nI A) (nI B) (nI K) = 0 ↔ f_X1_lineEnters (nI A) (nI B) (nI K) = 0 := by
  have hL := le_iff hA hB hK
  unfold ldR
  by_cases e1 : K = A
  · rw [if_pos (by rw [e1])]
    refine ⟨fun q => absurd q (by decide), fun q => ?_⟩
    have h := hL.mp q
    rw [e1, Int.sub_self, Int.sub_self, Int.mul_zero, Int.mul_zero, Int.sub_self, if_pos (Int.le_refl 0)] at h
    have : A / 12 = B / 12 ∧ A % 12 = B % 12 := by
      split at h <;> split at h <;> omega
    omega
  · rw [if_neg (fun q => e1 ((nI_eq (by omega) (by omega)).mp q))]
    by_cases e2 : K = B
    · rw [if_pos (by rw [e2])]
      refine ⟨fun q => absurd q (by decide), fun q => ?_⟩
      have h := hL.mp q
      rw [e2, Int.mul_comm (((B % 12 : Nat) : Int) - (A % 12 : Nat)), Int.sub_self, if_pos (Int.le_refl 0)] at h
      have : A / 12 = B / 12 ∧ A % 12 = B % 12 := by
        split at h <;> split at h <;> omega
      omega
    · rw [if_neg (fun q => e2 ((nI_eq (by omega) (by omega)).mp q)), r12 hA, r12 hB, d12 hA, d12 hB]
      have hc : ¬ f_X6_isBetween (nI (A % 12)) (nI (B % 12)) (nI K - nI K / 12 * 12) = 0 := by
        rw [r12 hK, btw_iff (by omega) (by omega) (by omega)]
        exact fun q => q ⟨g3, g4⟩
      have hr : ¬ f_X6_isBetween (nI (A / 12)) (nI (B / 12)) (nI K / 12) = 0 := by
        rw [d12 hK, btw_iff (by omega) (by omega) (by omega)]
        exact fun q => q ⟨g1, g2⟩
      rw [if_neg hc, if_neg hr, hL]
      have hsd : ∀ k : Nat, k < 4 → _ := fun k hk => side_iff hA hB (cx_val hK k hk).1 (cx_val hK k hk).2 (by omega) (by omega) (by omega) (by omega)
      have s0 := hsd 0 (by decide)
      have s1 := hsd 1 (by decide)
      have s2 := hsd 2 (by decide)
      have s3 := hsd 3 (by decide)
      have n1 := ldN_1 (nI A) (nI B) (nI K) 4
      have n2 := ldN_2 (nI A) (nI B) (nI K) 4
      generalize hrA : A / 12 = rA at *
      generalize hrB : B / 12 = rB at *
      generalize hrK : K / 12 = rK at *
      generalize hcA : A % 12 = cA at *
      generalize hcB : B % 12 = cB at *
      generalize hcK : K % 12 = cK at *
      have ym : (2 * (rK : Int) + 2 * ((0 : Nat) : Int)) - (2 * (rA : Int) + 1) = 2 * ((rK : Int) - rA) - 1 := by omega
      have yp : (2 * (rK : Int) + 2 * ((1 : Nat) : Int)) - (2 * (rA : Int) + 1) = 2 * ((rK : Int) - rA) + 1 := by omega
      have xm : (2 * (cK : Int) + 2 * ((0 : Nat) : Int)) - (2 * (cA : Int) + 1) = 2 * ((cK : Int) - cA) - 1 := by omega
      have xp : (2 * (cK : Int) + 2 * ((1 : Nat) : Int)) - (2 * (cA : Int) + 1) = 2 * ((cK : Int) - cA) + 1 := by omega
      rw [show (0 : Nat) % 2 = 0 from rfl, show (0 : Nat) / 2 = 0 from rfl, ym, xm, ex_m, ex_m] at s0
      rw [show (1 : Nat) % 2 = 1 from rfl, show (1 : Nat) / 2 = 0 from rfl, ym, xp, ex_m, ex_p] at s1
      rw [show (2 : Nat) % 2 = 0 from rfl, show (2 : Nat) / 2 = 1 from rfl, yp, xm, ex_p, ex_m] at s2
      rw [show (3 : Nat) % 2 = 1 from rfl, show (3 : Nat) / 2 = 1 from rfl, yp, xp, ex_p, ex_p] at s3
      generalize ((rB : Int) - rA) * ((cK : Int) - cA) = M1 at *
      generalize ((cB : Int) - cA) * ((rK : Int) - rA) = M2 at *
      have all4 : ∀ P : Nat → Prop, (∀ k, k < 4 → P k) ↔ P 0 ∧ P 1 ∧ P 2 ∧ P 3 := fun P =>
        ⟨fun h => ⟨h 0 (by decide), h 1 (by decide), h 2 (by decide), h 3 (by decide)⟩, fun h k hk => by
          rcases (show k = 0 ∨ k = 1 ∨ k = 2 ∨ k = 3 by omega) with rfl | rfl | rfl | rfl
          · exact h.1
          · exact h.2.1
          · exact h.2.2.1
          · exact h.2.2.2⟩
      rw [all4, s0.1, s1.1, s2.1, s3.1] at n1
      rw [all4, s0.2, s1.2, s2.2, s3.2] at n2
      by_cases q1 : (ldN (nI A) (nI B) (nI K) 4).1 = 0
      · rw [if_pos q1]
        have h := n1.mp q1
        refine ⟨fun _ => ?_, fun _ => rfl⟩
        split <;> split <;> split <;> omega
      · rw [if_neg q1]
        have h := mt n1.mpr q1
        by_cases q2 : (ldN (nI A) (nI B) (nI K) 4).2 = 0
        · rw [if_pos q2]
          have h2 := n2.mp q2
          refine ⟨fun _ => ?_, fun _ => rfl⟩
          split <;> split <;> split <;> omega
        · rw [if_neg q2]
          have h2 := mt n2.mpr q2
          refine ⟨fun z => absurd z (by decide), fun z => ?_⟩
          exfalso
          split at z <;> split at z <;> split at z <;> omega
/-- outside of the box the line of the model leads through no cell -/
theorem ld_out {A B K : Nat} (hA : A < 144) (hB : B < 144) (hK : K < 144) (h : ¬ ((min (A / 12) (B / 12) ≤ K / 12 ∧ K / 12 ≤ max (A / 12) (B / 12)) ∧ (min (A % 12) (B % 12) ≤ K % 12 ∧ K % 12 ≤ max (A % 12) (B % 12)))) : ldR (nI A) (nI B) (nI K) = 0 := by
  unfold ldR
  have e1 : K ≠ A := fun q => h (by rw [q]; omega)
  have e2 : K ≠ B := fun q => h (by rw [q]; omega)
  rw [if_neg (fun q => e1 ((nI_eq (by omega) (by omega)).mp q)), if_neg (fun q => e2 ((nI_eq (by omega) (by omega)).mp q)), r12 hA, r12 hB, r12 hK, d12 hA, d12 hB, d12 hK]
  by_cases hc : min (A % 12) (B % 12) ≤ K % 12 ∧ K % 12 ≤ max (A % 12) (B % 12)
  · have hr : ¬ (min (A / 12) (B / 12) ≤ K / 12 ∧ K / 12 ≤ max (A / 12) (B / 12)) := fun q => h ⟨q, hc⟩
    rw [if_neg (fun q => (btw_iff (by omega) (by omega) (by omega)).mp q hc), if_pos ((btw_iff (by omega) (by omega) (by omega)).mpr hr)]
  · rw [if_pos ((btw_iff (by omega) (by omega) (by omega)).mpr hc)]
theorem sgt_iff {bk : Nat → Int32} {A B : Nat} (hA : A < 144) (hB : B < 144) : SgtC bk A B ↔ ∀ j : Nat, j < 144 → bk j = 0 ∨ ldR (nI A) (nI B) (nI j) = 0 := by
  constructor
  · intro ⟨h1, h2⟩ j hj
    by_cases hx : (min (A / 12) (B / 12) ≤ j / 12 ∧ j / 12 ≤ max (A / 12) (B / 12)) ∧ (min (A % 12) (B % 12) ≤ j % 12 ∧ j % 12 ≤ max (A % 12) (B % 12))
    · by_cases e : A = B
      · have ej : j = A := by omega
        rw [ej]
        exact Or.inl (h1 e)
      · have h3 := h2 e (j / 12) (j % 12) hx.1.1 hx.1.2 hx.2.1 hx.2.2
        rw [show 12 * (j / 12) + j % 12 = j by omega] at h3
        exact h3.elim Or.inl (fun q => Or.inr ((ld_le hA hB hj e hx.1.1 hx.1.2 hx.2.1 hx.2.2).mpr q))
    · exact Or.inr (ld_out hA hB hj hx)
  · intro h
    refine ⟨fun e => ?_, fun e r c g1 g2 g3 g4 => ?_⟩
    · rcases h A hA with q | q
      · exact q
      · unfold ldR at q
        rw [if_pos rfl] at q
        exact absurd q (by decide)
    · have hj : 12 * r + c < 144 := by omega
      have e1 : (12 * r + c) / 12 = r := by omega
      have e2 : (12 * r + c) % 12 = c := by omega
      rcases h (12 * r + c) hj with q | q
      · exact Or.inl q
      · exact Or.inr ((ld_le hA hB hj e (by rw [e1]; exact g1) (by rw [e1]; exact g2) (by rw [e2]; exact g3) (by rw [e2]; exact g4)).mp q)
theorem seeN_eq (bk : Nat → Int32) (p1 p2 : Int32) : ∀ n : Nat, seeN bk p1 p2 n = sI (∀ j : Nat, j < n → bk j = 0 ∨ ldR p1 p2 (nI j) = 0)
  | 0 => by rw [seeN, sI_pos (fun j h => absurd h (Nat.not_lt_zero j))]
  | n + 1 => by
    have ih := seeN_eq bk p1 p2 n
    rw [seeN]
    by_cases h : ∀ j : Nat, j < n → bk j = 0 ∨ ldR p1 p2 (nI j) = 0
    · rw [ih, sI_pos h, if_neg (by decide)]
      by_cases h2 : bk n = 0
      · rw [if_pos h2, sI_pos (all_s h (Or.inl h2))]
      · rw [if_neg h2]
        by_cases h3 : ldR p1 p2 (nI n) = 0
        · rw [if_pos h3, sI_pos (all_s h (Or.inr h3))]
        · rw [if_neg h3, sI_neg (fun q => (q n (Nat.lt_succ_self n)).elim h2 h3)]
    · rw [ih, sI_neg h, if_pos rfl, sI_neg (fun q => h (fun j hj => q j (Nat.lt_succ_of_lt hj)))]
theorem see_eq {bk : Nat → Int32} {p1 p2 : Int32} (h1 : vp_in p1 144) (h2 : vp_in p2 144) : seeN bk p1 p2 144 = sI (SgtC bk p1.toNatClampNeg p2.toNatClampNeg) := by
  obtain ⟨A, hA, rfl⟩ := in_nI (by decide) h1
  obtain ⟨B, hB, rfl⟩ := in_nI (by decide) h2
  rw [nI_clamp (by omega), nI_clamp (by omega), seeN_eq]
  exact sI_eq (sgt_iff hA hB).symm
