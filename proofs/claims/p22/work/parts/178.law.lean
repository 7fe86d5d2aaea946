/-- one step of k from a towards b -/
def stp (a b k : Nat) : Nat := if a < b then a + k else if b < a then a - k else a
/-- the k-th cell from p1 towards p2 -/
def stN (p1 p2 k : Nat) : Nat := 12 * stp (p1 / 12) (p2 / 12) k + stp (p1 % 12) (p2 % 12) k
theorem dv_all : ∀ F : Fin 12, ∀ a : Fin 12, 0 < F.val → ((a.val + F.val < 12 → (nI (a.val + F.val) - nI a.val) / nI F.val = 1 ∧ (nI a.val - nI (a.val + F.val)) / nI F.val = -1) ∧ (nI a.val - nI a.val) / nI F.val = 0) := by decide +kernel
theorem dv_step {a b F : Nat} (ha : a < 12) (hb : b < 12) (h0 : 0 < F) (hF : F < 12) (h : a = b ∨ a + F = b ∨ b + F = a) : (nI b - nI a) / nI F = if a < b then 1 else if b < a then -1 else 0 := by
  rcases h with h | h | h
  · subst h
    rw [if_neg (by omega), if_neg (by omega)]
    exact (dv_all ⟨F, hF⟩ ⟨a, ha⟩ h0).2
  · subst h
    rw [if_pos (by omega)]
    exact ((dv_all ⟨F, hF⟩ ⟨a, ha⟩ h0).1 hb).1
  · subst h
    rw [if_neg (by omega), if_pos (by omega)]
    exact ((dv_all ⟨F, hF⟩ ⟨b, hb⟩ h0).1 ha).2
theorem df_eq {a b c d : Nat} (ha : a < 12) (hb : b < 12) (hc : c < 12) (hd : d < 12) (h : nI a - nI b = nI c - nI d) : a + d = c + b := by
  have h1 := pk_sub_toInt (a := a) (b := b) (by omega) (by omega)
  have h2 := pk_sub_toInt (a := c) (b := d) (by omega) (by omega)
  rw [h, h2] at h1
  omega
theorem df_0 {a b : Nat} (ha : a < 12) (hb : b < 12) (h : nI a - nI b = 0) : a = b := by
  have h1 := pk_sub_toInt (a := a) (b := b) (by omega) (by omega)
  rw [h] at h1
  have h2 : (0 : Int32).toInt = 0 := rfl
  omega
theorem df_neg {a b : Nat} : -(nI a - nI b) = nI b - nI a := Int32.neg_sub
theorem mul_m {c k : Nat} {p : Nat} (h : k * c ≤ p) {y : Int32} (hy : y = -(nI c)) : nI p + nI k * y = nI (p - k * c) := by
  rw [hy, Int32.mul_neg, pk_mul, ← Int32.sub_eq_add_neg, pk_sub h]
theorem mul_p {c k : Nat} {p : Nat} {y : Int32} (hy : y = nI c) : nI p + nI k * y = nI (p + k * c) := by
  rw [hy, pk_mul, nI_add]
theorem st_eq {p1 p2 k F : Nat} (h1 : p1 < 144) (h2 : p2 < 144) (hF : F = apN p1 p2) (hk : k < F)
    (hs : (nI (p2 / 12) - nI (p1 / 12)) = 0 ∨ (nI (p2 % 12) - nI (p1 % 12)) = 0 ∨ (nI (p2 / 12) - nI (p1 / 12)) = (nI (p2 % 12) - nI (p1 % 12)) ∨ (nI (p2 / 12) - nI (p1 / 12)) = -(nI (p2 % 12) - nI (p1 % 12))) :
    nI p1 + nI k * ((((nI (p2 / 12) - nI (p1 / 12)) / nI F) * 12) + ((nI (p2 % 12) - nI (p1 % 12)) / nI F)) = nI (stN p1 p2 k) ∧ stN p1 p2 k < 144 ∧
      (p1 / 12 = p2 / 12 ∨ p1 / 12 + F = p2 / 12 ∨ p2 / 12 + F = p1 / 12) ∧ (p1 % 12 = p2 % 12 ∨ p1 % 12 + F = p2 % 12 ∨ p2 % 12 + F = p1 % 12) := by
  have hr : (p1 / 12 = p2 / 12 ∨ p1 / 12 + F = p2 / 12 ∨ p2 / 12 + F = p1 / 12) ∧ (p1 % 12 = p2 % 12 ∨ p1 % 12 + F = p2 % 12 ∨ p2 % 12 + F = p1 % 12) := by
    have ha : apN p1 p2 = max (max (p1 / 12 - p2 / 12) (p2 / 12 - p1 / 12)) (max (p1 % 12 - p2 % 12) (p2 % 12 - p1 % 12)) := rfl
    rcases hs with hs | hs | hs | hs
    · have := df_0 (by omega) (by omega) hs
      omega
    · have := df_0 (by omega) (by omega) hs
      omega
    · have := df_eq (by omega) (by omega) (by omega) (by omega) hs
      omega
    · rw [df_neg] at hs
      have := df_eq (by omega) (by omega) (by omega) (by omega) hs
      omega
  refine ⟨?_, ?_, hr⟩
  · have hFl : F < 12 := by rw [hF]; exact apN_lt h1 h2
    rw [dv_step (by omega) (by omega) (by omega) hFl hr.1, dv_step (by omega) (by omega) (by omega) hFl hr.2]
    unfold stN stp
    by_cases a1 : p1 / 12 < p2 / 12
    · rw [if_pos a1, if_pos a1]
      by_cases b1 : p1 % 12 < p2 % 12
      · rw [if_pos b1, if_pos b1, mul_p (c := 13) (by decide)]; congr 1; omega
      · rw [if_neg b1, if_neg b1]
        by_cases b2 : p2 % 12 < p1 % 12
        · rw [if_pos b2, if_pos b2, mul_p (c := 11) (by decide)]; congr 1; omega
        · rw [if_neg b2, if_neg b2, mul_p (c := 12) (by decide)]; congr 1; omega
    · rw [if_neg a1, if_neg a1]
      by_cases a2 : p2 / 12 < p1 / 12
      · rw [if_pos a2, if_pos a2]
        by_cases b1 : p1 % 12 < p2 % 12
        · rw [if_pos b1, if_pos b1, mul_m (c := 11) (by omega) (by decide)]; congr 1; omega
        · rw [if_neg b1, if_neg b1]
          by_cases b2 : p2 % 12 < p1 % 12
          · rw [if_pos b2, if_pos b2, mul_m (c := 13) (by omega) (by decide)]; congr 1; omega
          · rw [if_neg b2, if_neg b2, mul_m (c := 12) (by omega) (by decide)]; congr 1; omega
      · rw [if_neg a2, if_neg a2]
        by_cases b1 : p1 % 12 < p2 % 12
        · rw [if_pos b1, if_pos b1, mul_p (c := 1) (by decide)]; congr 1; omega
        · rw [if_neg b1, if_neg b1]
          by_cases b2 : p2 % 12 < p1 % 12
          · rw [if_pos b2, if_pos b2, mul_m (c := 1) (by omega) (by decide)]; congr 1; omega
          · rw [if_neg b2, if_neg b2, mul_p (c := 0) (by decide)]; congr 1; omega
  · unfold stN stp
    (repeat' split) <;> omega
theorem mn_eq {p1 p2 : Nat} (h1 : p1 < 144) (h2 : p2 < 144) (c : nI (p2 / 12) ≤ nI (p1 / 12)) : p2 / 12 ≤ p1 / 12 := (nI_leI (by omega) (by omega)).mp c
noncomputable def j_L_isSight_29 (lb : Nat → Int32) (p1 : Nat) (p2 : Nat) : Int32 := if (f_L_isBunker lb p1) = 0 then (if (f_L_isBunker lb p2) = 0 then 1 else 0) else 0
theorem zj_L_isSight_29 {lb : Nat → Int32} {p1 : Nat} {p2 : Nat} : j_L_isSight_29 lb p1 p2 = 0 ∨ j_L_isSight_29 lb p1 p2 = 1 := by
  unfold j_L_isSight_29
  (repeat' split) <;> first | exact Or.inl rfl | exact Or.inr rfl
theorem tj_L_isSight_29 {lb : Nat → Int32} {p1 : Nat} {p2 : Nat} (h : ¬ j_L_isSight_29 lb p1 p2 = 0) : ((f_L_isBunker lb p1) = 0) ∧ ((f_L_isBunker lb p2) = 0) := by
  unfold j_L_isSight_29 at h
  (repeat' split at h) <;> first | exact absurd rfl h | exact ⟨by assumption, by assumption⟩
noncomputable def j_L_isSight_83 (p2 : Nat) (p1 : Nat) : Int32 := if ((nI (p2 / 12)) - (nI (p1 / 12))) = 0 then 1 else (if ((nI (p2 % 12)) - (nI (p1 % 12))) = 0 then 1 else (if ((nI (p2 / 12)) - (nI (p1 / 12))) = ((nI (p2 % 12)) - (nI (p1 % 12))) then 1 else (if ((nI (p2 / 12)) - (nI (p1 / 12))) = (-((nI (p2 % 12)) - (nI (p1 % 12)))) then 1 else 0)))
theorem zj_L_isSight_83 {p2 : Nat} {p1 : Nat} : j_L_isSight_83 p2 p1 = 0 ∨ j_L_isSight_83 p2 p1 = 1 := by
  unfold j_L_isSight_83
  (repeat' split) <;> first | exact Or.inl rfl | exact Or.inr rfl
noncomputable def j_L_isSight_180 (p2 : Nat) (p1 : Nat) : Int32 := if (nI (p2 / 12)) ≤ (nI (p1 / 12)) then nI (p2 / 12) else nI (p1 / 12)
noncomputable def j_L_isSight_147 (v : Int32) (lb : Nat → Int32) (p1 : Nat) (p2 : Nat) (i : Nat) : Int32 := if v = 0 then 0 else (if (f_L_isBunker lb (stN p1 p2 (i + 1))) = 0 then 1 else 0)
theorem zj_L_isSight_147 {v : Int32} {lb : Nat → Int32} {p1 : Nat} {p2 : Nat} {i : Nat} : j_L_isSight_147 v lb p1 p2 i = 0 ∨ j_L_isSight_147 v lb p1 p2 i = 1 := by
  unfold j_L_isSight_147
  (repeat' split) <;> first | exact Or.inl rfl | exact Or.inr rfl
theorem tj_L_isSight_147 {v : Int32} {lb : Nat → Int32} {p1 : Nat} {p2 : Nat} {i : Nat} (h : ¬ j_L_isSight_147 v lb p1 p2 i = 0) : ¬ (v = 0) ∧ ((f_L_isBunker lb (stN p1 p2 (i + 1))) = 0) := by
  unfold j_L_isSight_147 at h
  (repeat' split at h) <;> first | exact absurd rfl h | exact ⟨by assumption, by assumption⟩
/-- isSight: no bunker on both, nor on the first n cells of the way -/
noncomputable def cnN (lb : Nat → Int32) (p1 p2 : Nat) : Nat → Int32
  | 0 => j_L_isSight_29 lb p1 p2
  | n + 1 => j_L_isSight_147 (cnN lb p1 p2 n) lb p1 p2 n
termination_by n => n
/-- isSight: the bunkers of n rows from lo on -/
noncomputable def orN (lb : Nat → Int32) (lo : Nat) : Nat → Int32
  | 0 => 0
  | n + 1 => orN lb lo n ||| lb (lo + n)
termination_by n => n
theorem st83 {p1 p2 : Nat} (h : ¬ j_L_isSight_83 p2 p1 = 0) : (nI (p2 / 12) - nI (p1 / 12)) = 0 ∨ (nI (p2 % 12) - nI (p1 % 12)) = 0 ∨ (nI (p2 / 12) - nI (p1 / 12)) = (nI (p2 % 12) - nI (p1 % 12)) ∨ (nI (p2 / 12) - nI (p1 / 12)) = -(nI (p2 % 12) - nI (p1 % 12)) := by
  unfold j_L_isSight_83 at h
  split at h
  · left; assumption
  · split at h
    · right; left; assumption
    · split at h
      · right; right; left; assumption
      · split at h
        · right; right; right; assumption
        · exact absurd rfl h
theorem mn180 {p1 p2 : Nat} (h1 : p1 < 144) (h2 : p2 < 144) : j_L_isSight_180 p2 p1 = nI (min (p1 / 12) (p2 / 12)) := by
  unfold j_L_isSight_180
  split
  · rename_i c
    have := (nI_leI (a := p2 / 12) (b := p1 / 12) (by omega) (by omega)).mp c
    congr 1; omega
  · rename_i c
    have : ¬ p2 / 12 ≤ p1 / 12 := fun q => c ((nI_leI (a := p2 / 12) (b := p1 / 12) (by omega) (by omega)).mpr q)
    congr 1; omega
noncomputable def f_L_isSight (lb : Nat → Int32) (bk : Nat → Int32) (p1 : Nat) (p2 : Nat) : Int32 := if (j_L_isSight_83 p2 p1) = 0 then (if (sI (SgtC bk p1 p2)) = (sI (SgtC bk p2 p1)) then (if (sI (SgtC bk p1 p2)) = 0 then (if 0 < (orN lb (min (p1 / 12) (p2 / 12)) (max (p1 / 12) (p2 / 12) + 1 - min (p1 / 12) (p2 / 12))) then 1 else 0) else (if (j_L_isSight_29 lb p1 p2) = 0 then 0 else 1)) else 0) else (if (sI (SgtC bk p1 p2)) = (sI (SgtC bk p2 p1)) then (if (sI (SgtC bk p1 p2)) = (cnN lb p1 p2 (apN p1 p2 - 1)) then (if 0 < (orN lb (min (p1 / 12) (p2 / 12)) (max (p1 / 12) (p2 / 12) + 1 - min (p1 / 12) (p2 / 12))) then 1 else (if (sI (SgtC bk p1 p2)) = 0 then 0 else 1)) else 0) else 0)
