/-! ===== own arithmetic ===== -/
theorem bd_lt {N i : Nat} (hN : N < 2 ^ 31) (hi : i ≤ N) (h : ¬ nI N ≤ nI i) : i < N := by
  rcases Nat.lt_or_ge i N with q | q
  · exact q
  · exact absurd (nI_le q (by omega)) h
theorem bd_eq {N i : Nat} (hN : N < 2 ^ 31) (hi : i ≤ N) (h : nI N ≤ nI i) : i = N := by
  rcases Nat.lt_or_ge i N with q | q
  · exact absurd h (nI_ge q hN)
  · omega
theorem bd_le {N i : Nat} (hN : N < 2 ^ 31) (hi : i < 2 ^ 31) (h : ¬ nI N < nI i) : i ≤ N := by
  rcases Nat.lt_or_ge N i with q | q
  · exact absurd (nI_lt q hi) h
  · exact q
theorem bd_gt {N i : Nat} (hN : N < 2 ^ 31) (hi : i < 2 ^ 31) (h : nI N < nI i) : N < i := (nI_ltI hN hi).mp h
/-- 1 where P holds, else 0 -/
noncomputable def sI (P : Prop) : Int32 := @ite Int32 P (Classical.propDecidable P) 1 0
theorem sI_pos {P : Prop} (h : P) : sI P = 1 := if_pos h
theorem sI_neg {P : Prop} (h : ¬ P) : sI P = 0 := if_neg h
theorem sI_01 (P : Prop) : sI P = 0 ∨ sI P = 1 := by
  by_cases h : P
  · exact Or.inr (sI_pos h)
  · exact Or.inl (sI_neg h)
theorem sI_eq {P Q : Prop} (h : P ↔ Q) : sI P = sI Q := by
  by_cases hP : P
  · rw [sI_pos hP, sI_pos (h.mp hP)]
  · rw [sI_neg hP, sI_neg (fun q => hP (h.mpr q))]
/-- the first n places hold x -/
def fillN (f : Nat → Int32) (x : Int32) : Nat → Nat → Int32
  | 0 => f
  | n + 1 => upd (fillN f x n) n x
/-- who stands on p, the first one -/
def pOn (ce : Nat → Int32) (p : Int32) : Int32 := if ce 0 = p then 0 else if ce 1 = p then 1 else if ce 2 = p then 2 else if ce 3 = p then 3 else if ce 4 = p then 4 else if ce 5 = p then 5 else (-1)
theorem pOn_at {ce : Nat → Int32} {p : Int32} {i : Nat} (hi : i < 6) (h : ∀ j, j < i → ¬ ce j = p) (h2 : ce i = p) : nI i = pOn ce p := by
  unfold pOn
  rcases (show i = 0 ∨ i = 1 ∨ i = 2 ∨ i = 3 ∨ i = 4 ∨ i = 5 by omega) with rfl | rfl | rfl | rfl | rfl | rfl
  · rw [if_pos h2]; rfl
  · rw [if_neg (h 0 (by decide)), if_pos h2]; rfl
  · rw [if_neg (h 0 (by decide)), if_neg (h 1 (by decide)), if_pos h2]; rfl
  · rw [if_neg (h 0 (by decide)), if_neg (h 1 (by decide)), if_neg (h 2 (by decide)), if_pos h2]; rfl
  · rw [if_neg (h 0 (by decide)), if_neg (h 1 (by decide)), if_neg (h 2 (by decide)), if_neg (h 3 (by decide)), if_pos h2]; rfl
  · rw [if_neg (h 0 (by decide)), if_neg (h 1 (by decide)), if_neg (h 2 (by decide)), if_neg (h 3 (by decide)), if_neg (h 4 (by decide)), if_pos h2]; rfl
theorem pOn_no {ce : Nat → Int32} {p : Int32} (h : ∀ j, j < 6 → ¬ ce j = p) : (-1) = pOn ce p := by
  unfold pOn
  rw [if_neg (h 0 (by decide)), if_neg (h 1 (by decide)), if_neg (h 2 (by decide)), if_neg (h 3 (by decide)), if_neg (h 4 (by decide)), if_neg (h 5 (by decide))]
theorem pOn_in {ce : Nat → Int32} {p : Int32} (h : ¬ pOn ce p = (-1)) : vp_in (pOn ce p) 6 := by
  unfold pOn at h ⊢
  (repeat' split) <;> first | exact vp_in_nI (n := 0) (by decide) (by decide) | exact vp_in_nI (n := 1) (by decide) (by decide) | exact vp_in_nI (n := 2) (by decide) (by decide) | exact vp_in_nI (n := 3) (by decide) (by decide) | exact vp_in_nI (n := 4) (by decide) (by decide) | exact vp_in_nI (n := 5) (by decide) (by decide) | (exfalso; simp_all)
theorem mk12 (r k : Nat) : (12 : Int32) * nI r + nI k = nI (12 * r + k) := by
  rw [show (12 : Int32) = nI 12 from rfl, pk_mul, nI_add]
theorem all_s {P : Nat → Prop} {i : Nat} (h : ∀ j, j < i → P j) (h1 : P i) : ∀ j, j < i + 1 → P j := fun j hj => by
  rcases Nat.lt_or_ge j i with q | q
  · exact h j q
  · exact (show j = i by omega) ▸ h1
theorem min_nI {a b : Nat} (ha : a < 2 ^ 31) (hb : b < 2 ^ 31) : z_min (nI a) (nI b) = nI (min a b) := by
  unfold z_min
  by_cases h : b < a
  · rw [if_pos (nI_lt h ha), Nat.min_eq_right (Nat.le_of_lt h)]
  · rw [if_neg (fun q => h ((nI_ltI hb ha).mp q)), Nat.min_eq_left (Nat.not_lt.mp h)]
theorem max_nI {a b : Nat} (ha : a < 2 ^ 31) (hb : b < 2 ^ 31) : z_max (nI a) (nI b) = nI (max a b) := by
  unfold z_max
  by_cases h : a < b
  · rw [if_pos (nI_lt h hb), Nat.max_eq_right (Nat.le_of_lt h)]
  · rw [if_neg (fun q => h ((nI_ltI ha hb).mp q)), Nat.max_eq_left (Nat.not_lt.mp h)]
theorem d12 {a : Nat} (ha : a < 144) : nI a / 12 = nI (a / 12) := pk_div (d := 12) (by omega) (by decide) (by decide)
theorem r12 {a : Nat} (ha : a < 144) : nI a - nI a / 12 * 12 = nI (a % 12) := pk_rem (d := 12) (by omega) (by decide) (by decide)
theorem in_nI {p : Int32} {N : Nat} (hN : N < 2 ^ 31) (h : vp_in p N) : ∃ j : Nat, j < N ∧ p = nI j := vp_in_of h hN
theorem in_cl {p : Int32} {N : Nat} (h : vp_in p N) : p.toNatClampNeg < N := Nat.not_le.mp (fun q => h (Or.inr q))
theorem wo_at {a : Nat → Nat} {i : Int32} (h : vp_in i 6) : va_rf ((fun k : Nat => if k < 6 then some (a (23 + k)) else none) i.toNatClampNeg) = .ref (a (23 + i.toNatClampNeg)) := by
  show va_rf (if i.toNatClampNeg < 6 then some (a (23 + i.toNatClampNeg)) else none) = _
  rw [if_pos (in_cl h)]
  rfl
theorem in_bd {p c : Int32} {N : Nat} (h1 : ¬ p < 0) (h2 : p < c) (hc : c = nI N ∧ N < 2 ^ 31) : vp_in p N := by
  obtain ⟨j, hj, rfl⟩ := nI_of h1
  obtain ⟨rfl, hN⟩ := hc
  exact vp_in_nI ((nI_ltI hj hN).mp h2) hN
theorem win_nI {a b : Nat} : (6 : Int32) * nI a + nI b = nI (6 * a + b) := by
  rw [show (6 : Int32) = nI 6 from rfl, pk_mul, nI_add]
theorem win_in {p r : Int32} (h1 : vp_in p 6) (h2 : vp_in r 6) : vp_in (6 * p + r) 36 := by
  obtain ⟨a, ha, rfl⟩ := in_nI (by decide) h1
  obtain ⟨b, hb, rfl⟩ := in_nI (by decide) h2
  rw [win_nI]
  exact vp_in_nI (by omega) (by decide)
