/-! ===== the class's sight, both ways, along straight lines, over empty rows ===== -/
theorem le_sym {A B K : Nat} (hA : A < 144) (hB : B < 144) (hK : K < 144) : f_X1_lineEnters (nI A) (nI B) (nI K) = 0 ↔ f_X1_lineEnters (nI B) (nI A) (nI K) = 0 := by
  rw [le_iff hA hB hK, le_iff hB hA hK]
  generalize ((A / 12 : Nat) : Int) = rA
  generalize ((B / 12 : Nat) : Int) = rB
  generalize ((K / 12 : Nat) : Int) = rK
  generalize ((A % 12 : Nat) : Int) = cA
  generalize ((B % 12 : Nat) : Int) = cB
  generalize ((K % 12 : Nat) : Int) = cK
  have e : (rA - rB) * (cK - cB) - (cA - cB) * (rK - rB) = -((rB - rA) * (cK - cA) - (cB - cA) * (rK - rA)) := by
    simp only [Int.sub_mul, Int.mul_sub]
    have c1 := Int.mul_comm rA cB
    have c2 := Int.mul_comm rB cB
    have c3 := Int.mul_comm rB cA
    have c4 := Int.mul_comm rA cA
    omega
  rw [e]
  generalize (rB - rA) * (cK - cA) - (cB - cA) * (rK - rA) = X
  constructor
  · intro h
    repeat' split at h
    all_goals (repeat' split)
    all_goals omega
  · intro h
    repeat' split at h
    all_goals (repeat' split)
    all_goals omega
theorem sgt_sym {bk : Nat → Int32} {A B : Nat} (hA : A < 144) (hB : B < 144) : SgtC bk A B ↔ SgtC bk B A := by
  have one : ∀ {A B : Nat}, A < 144 → B < 144 → SgtC bk A B → SgtC bk B A := fun {A B} hA hB h => by
    refine ⟨fun e => e ▸ h.1 e.symm, fun e r c g1 g2 g3 g4 => ?_⟩
    refine (h.2 (fun q => e q.symm) r c (by omega) (by omega) (by omega) (by omega)).elim Or.inl fun q => Or.inr ?_
    exact (le_sym hA hB (by omega)).mp q
  exact ⟨one hA hB, one hB hA⟩
/-- a cell on the line, by its cross product: the line leads through it -/
theorem le_on {A B K : Nat} (hA : A < 144) (hB : B < 144) (hK : K < 144) (hAB : A ≠ B) (h : (((B / 12 : Nat) : Int) - (A / 12 : Nat)) * (((K % 12 : Nat) : Int) - (A % 12 : Nat)) - (((B % 12 : Nat) : Int) - (A % 12 : Nat)) * (((K / 12 : Nat) : Int) - (A / 12 : Nat)) = 0) : ¬ f_X1_lineEnters (nI A) (nI B) (nI K) = 0 := by
  rw [le_iff hA hB hK, h]
  have : ¬ (A / 12 = B / 12 ∧ A % 12 = B % 12) := by omega
  intro q
  repeat' split at q
  all_goals omega
theorem sgt_ends {bk : Nat → Int32} {A B : Nat} (hA : A < 144) (hB : B < 144) (h : SgtC bk A B) : bk A = 0 ∧ bk B = 0 := by
  by_cases e : A = B
  · subst e; exact ⟨h.1 rfl, h.1 rfl⟩
  · constructor
    · have h2 := h.2 e (A / 12) (A % 12) (by omega) (by omega) (by omega) (by omega)
      rw [show 12 * (A / 12) + A % 12 = A by omega] at h2
      exact h2.elim id (fun q => absurd q (le_on hA hB hA e (by rw [Int.sub_self, Int.sub_self, Int.mul_zero, Int.mul_zero]; rfl)))
    · have h2 := h.2 e (B / 12) (B % 12) (by omega) (by omega) (by omega) (by omega)
      rw [show 12 * (B / 12) + B % 12 = B by omega] at h2
      exact h2.elim id (fun q => absurd q (le_on hA hB hB e (by rw [Int.mul_comm]; exact Int.sub_self _)))
theorem sgt_free {bk lb : Nat → Int32} {A B : Nat} (hI : InvF bk lb) (hA : A < 144) (hB : B < 144) (h : ¬ 0 < orN lb (min (A / 12) (B / 12)) (max (A / 12) (B / 12) + 1 - min (A / 12) (B / 12))) : SgtC bk A B := by
  have h0 : ∀ r c : Nat, min (A / 12) (B / 12) ≤ r → r ≤ max (A / 12) (B / 12) → c < 12 → bk (12 * r + c) = 0 := fun r c g1 g2 hc => by
    refine (hI.1 (12 * r + c)).resolve_right fun q => h ((or_pos hI (by omega)).mpr ⟨r - min (A / 12) (B / 12), c, by omega, hc, ?_⟩)
    rw [show min (A / 12) (B / 12) + (r - min (A / 12) (B / 12)) = r by omega]
    exact q
  refine ⟨fun e => ?_, fun _ r c g1 g2 g3 g4 => Or.inl (h0 r c g1 g2 (by omega))⟩
  have := h0 (A / 12) (A % 12) (by omega) (by omega) (by omega)
  rwa [show 12 * (A / 12) + A % 12 = A by omega] at this
theorem absF {F z : Int} (hF : 0 < F) (h : z ≠ 0) : F ≤ F * z ∨ F * z ≤ -F := by
  rcases Int.lt_or_gt_of_ne h with q | q
  · right
    have := Int.mul_le_mul_of_nonneg_left (show z ≤ -1 by omega) (Int.le_of_lt hF)
    rw [Int.mul_neg, Int.mul_one] at this
    exact this
  · left
    have := Int.mul_le_mul_of_nonneg_left (show 1 ≤ z by omega) (Int.le_of_lt hF)
    rw [Int.mul_one] at this
    exact this
theorem st_cell {A B k : Nat} (hA : A < 144) (hB : B < 144) (F : Nat) (hk : k ≤ F)
    (hr : A / 12 = B / 12 ∨ A / 12 + F = B / 12 ∨ B / 12 + F = A / 12) (hc : A % 12 = B % 12 ∨ A % 12 + F = B % 12 ∨ B % 12 + F = A % 12) :
    stN A B k / 12 = stp (A / 12) (B / 12) k ∧ stN A B k % 12 = stp (A % 12) (B % 12) k ∧ stN A B k < 144 := by
  have h1 : stp (A / 12) (B / 12) k < 12 := by unfold stp; (repeat' split) <;> omega
  have h2 : stp (A % 12) (B % 12) k < 12 := by unfold stp; (repeat' split) <;> omega
  unfold stN
  omega
/-- the cells of a straight way lie on its line -/
theorem st_on {A B k F : Nat} (hA : A < 144) (hB : B < 144) (hk : k ≤ F)
    (hr : A / 12 = B / 12 ∨ A / 12 + F = B / 12 ∨ B / 12 + F = A / 12) (hc : A % 12 = B % 12 ∨ A % 12 + F = B % 12 ∨ B % 12 + F = A % 12) :
    (((B / 12 : Nat) : Int) - (A / 12 : Nat)) * (((stN A B k % 12 : Nat) : Int) - (A % 12 : Nat)) - (((B % 12 : Nat) : Int) - (A % 12 : Nat)) * (((stN A B k / 12 : Nat) : Int) - (A / 12 : Nat)) = 0 := by
  obtain ⟨e1, e2, -⟩ := st_cell hA hB F hk hr hc
  rw [e1, e2]
  have dr : (((B / 12 : Nat) : Int) - (A / 12 : Nat) = 0 ∧ ((stp (A / 12) (B / 12) k : Nat) : Int) - (A / 12 : Nat) = 0) ∨ (((B / 12 : Nat) : Int) - (A / 12 : Nat) = F ∧ ((stp (A / 12) (B / 12) k : Nat) : Int) - (A / 12 : Nat) = k) ∨ (((B / 12 : Nat) : Int) - (A / 12 : Nat) = -F ∧ ((stp (A / 12) (B / 12) k : Nat) : Int) - (A / 12 : Nat) = -k) := by
    unfold stp; (repeat' split) <;> omega
  have dc : (((B % 12 : Nat) : Int) - (A % 12 : Nat) = 0 ∧ ((stp (A % 12) (B % 12) k : Nat) : Int) - (A % 12 : Nat) = 0) ∨ (((B % 12 : Nat) : Int) - (A % 12 : Nat) = F ∧ ((stp (A % 12) (B % 12) k : Nat) : Int) - (A % 12 : Nat) = k) ∨ (((B % 12 : Nat) : Int) - (A % 12 : Nat) = -F ∧ ((stp (A % 12) (B % 12) k : Nat) : Int) - (A % 12 : Nat) = -k) := by
    unfold stp; (repeat' split) <;> omega
  rcases dr with ⟨a1, a2⟩ | ⟨a1, a2⟩ | ⟨a1, a2⟩ <;> rcases dc with ⟨b1, b2⟩ | ⟨b1, b2⟩ | ⟨b1, b2⟩ <;> rw [a1, a2, b1, b2] <;> (try simp only [Int.mul_neg, Int.neg_mul, Int.neg_neg, Int.zero_mul, Int.mul_zero]) <;> omega
/-- in the box of a straight way the line leads through its cells alone -/
theorem st_box {A B F r c : Nat} (hA : A < 144) (hB : B < 144) (hF : 0 < F)
    (hr : A / 12 = B / 12 ∨ A / 12 + F = B / 12 ∨ B / 12 + F = A / 12) (hc : A % 12 = B % 12 ∨ A % 12 + F = B % 12 ∨ B % 12 + F = A % 12)
    (g1 : min (A / 12) (B / 12) ≤ r) (g2 : r ≤ max (A / 12) (B / 12)) (g3 : min (A % 12) (B % 12) ≤ c) (g4 : c ≤ max (A % 12) (B % 12))
    (h : ¬ f_X1_lineEnters (nI A) (nI B) (nI (12 * r + c)) = 0) : ∃ k : Nat, k ≤ F ∧ 12 * r + c = stN A B k := by
  rw [le_iff hA hB (by omega), show (12 * r + c) / 12 = r by omega, show (12 * r + c) % 12 = c by omega] at h
  unfold stN stp
  rcases hr with hr | hr | hr
  · refine ⟨if c ≤ A % 12 then A % 12 - c else c - A % 12, ?_, ?_⟩
    · split <;> omega
    · (repeat' split) <;> omega
  · rcases hc with hc | hc | hc
    · exact ⟨r - A / 12, by omega, by (repeat' split) <;> omega⟩
    · have z : ((c : Int) - (A % 12 : Nat)) - ((r : Int) - (A / 12 : Nat)) = 0 := Classical.byContradiction fun q => by
        have a := absF (F := F) (by omega) q
        rw [Int.mul_sub] at a
        rw [show ((B / 12 : Nat) : Int) - (A / 12 : Nat) = F by omega, show ((B % 12 : Nat) : Int) - (A % 12 : Nat) = F by omega] at h
        apply h
        (repeat' split) <;> omega
      exact ⟨r - A / 12, by omega, by (repeat' split) <;> omega⟩
    · have z : ((c : Int) - (A % 12 : Nat)) + ((r : Int) - (A / 12 : Nat)) = 0 := Classical.byContradiction fun q => by
        have a := absF (F := F) (by omega) q
        rw [Int.mul_add] at a
        rw [show ((B / 12 : Nat) : Int) - (A / 12 : Nat) = F by omega, show ((B % 12 : Nat) : Int) - (A % 12 : Nat) = -F by omega, Int.neg_mul] at h
        apply h
        (repeat' split) <;> omega
      exact ⟨r - A / 12, by omega, by (repeat' split) <;> omega⟩
  · rcases hc with hc | hc | hc
    · exact ⟨A / 12 - r, by omega, by (repeat' split) <;> omega⟩
    · have z : ((c : Int) - (A % 12 : Nat)) + ((r : Int) - (A / 12 : Nat)) = 0 := Classical.byContradiction fun q => by
        have a := absF (F := F) (by omega) q
        rw [Int.mul_add] at a
        rw [show ((B / 12 : Nat) : Int) - (A / 12 : Nat) = -F by omega, show ((B % 12 : Nat) : Int) - (A % 12 : Nat) = F by omega, Int.neg_mul] at h
        apply h
        (repeat' split) <;> omega
      exact ⟨A / 12 - r, by omega, by (repeat' split) <;> omega⟩
    · have z : ((c : Int) - (A % 12 : Nat)) - ((r : Int) - (A / 12 : Nat)) = 0 := Classical.byContradiction fun q => by
        have a := absF (F := F) (by omega) q
        rw [Int.mul_sub] at a
        rw [show ((B / 12 : Nat) : Int) - (A / 12 : Nat) = -F by omega, show ((B % 12 : Nat) : Int) - (A % 12 : Nat) = -F by omega, Int.neg_mul, Int.neg_mul] at h
        apply h
        (repeat' split) <;> omega
      exact ⟨A / 12 - r, by omega, by (repeat' split) <;> omega⟩
theorem sgt_str {bk : Nat → Int32} {A B F : Nat} (hA : A < 144) (hB : B < 144) (hF : F = apN A B)
    (hr : A / 12 = B / 12 ∨ A / 12 + F = B / 12 ∨ B / 12 + F = A / 12) (hc : A % 12 = B % 12 ∨ A % 12 + F = B % 12 ∨ B % 12 + F = A % 12) :
    SgtC bk A B ↔ (bk A = 0 ∧ bk B = 0) ∧ ∀ k : Nat, k < F - 1 → bk (stN A B (k + 1)) = 0 := by
  have hap : apN A B = max (max (A / 12 - B / 12) (B / 12 - A / 12)) (max (A % 12 - B % 12) (B % 12 - A % 12)) := rfl
  constructor
  · intro h
    refine ⟨sgt_ends hA hB h, fun k hk => ?_⟩
    have e : A ≠ B := fun q => by subst q; omega
    obtain ⟨e1, e2, e3⟩ := st_cell hA hB F (show k + 1 ≤ F by omega) hr hc
    have b1 : min (A / 12) (B / 12) ≤ stp (A / 12) (B / 12) (k + 1) ∧ stp (A / 12) (B / 12) (k + 1) ≤ max (A / 12) (B / 12) := by unfold stp; (repeat' split) <;> omega
    have b2 : min (A % 12) (B % 12) ≤ stp (A % 12) (B % 12) (k + 1) ∧ stp (A % 12) (B % 12) (k + 1) ≤ max (A % 12) (B % 12) := by unfold stp; (repeat' split) <;> omega
    have h2 := h.2 e _ _ b1.1 b1.2 b2.1 b2.2
    exact h2.elim id (fun q => absurd q (le_on hA hB e3 e (st_on hA hB (show k + 1 ≤ F by omega) hr hc)))
  · rintro ⟨⟨hb1, hb2⟩, hk⟩
    refine ⟨fun _ => hb1, fun e r c g1 g2 g3 g4 => ?_⟩
    by_cases hl : f_X1_lineEnters (nI A) (nI B) (nI (12 * r + c)) = 0
    · exact Or.inr hl
    · left
      obtain ⟨k, hkF, ek⟩ := st_box hA hB (F := F) (by omega) hr hc g1 g2 g3 g4 hl
      rw [ek]
      by_cases k0 : k = 0
      · rw [show stN A B k = A by rw [k0]; unfold stN stp; (repeat' split) <;> omega]
        exact hb1
      · by_cases kF : k = F
        · rw [show stN A B k = B by rw [kF]; unfold stN stp; (repeat' split) <;> omega]
          exact hb2
        · have := hk (k - 1) (by omega)
          rwa [show k - 1 + 1 = k by omega] at this
theorem cn_eq {bk lb : Nat → Int32} {A B : Nat} (hI : InvF bk lb) (hA : A < 144) (hB : B < 144) : ∀ n : Nat, (∀ k : Nat, k < n → stN A B (k + 1) < 144) → cnN lb A B n = sI ((bk A = 0 ∧ bk B = 0) ∧ ∀ k : Nat, k < n → bk (stN A B (k + 1)) = 0)
  | 0, _ => by
    rw [cnN]
    unfold j_L_isSight_29
    rw [isB hI hA, isB hI hB]
    by_cases h1 : bk A = 0
    · rw [if_pos h1]
      by_cases h2 : bk B = 0
      · rw [if_pos h2, sI_pos ⟨⟨h1, h2⟩, fun k h => absurd h (Nat.not_lt_zero k)⟩]
      · rw [if_neg h2, sI_neg (fun q => h2 q.1.2)]
    · rw [if_neg h1, sI_neg (fun q => h1 q.1.1)]
  | n + 1, hs => by
    have ih := cn_eq hI hA hB n (fun k hk => hs k (by omega))
    rw [cnN]
    unfold j_L_isSight_147
    rw [ih, isB hI (hs n (by omega))]
    by_cases h : (bk A = 0 ∧ bk B = 0) ∧ ∀ k : Nat, k < n → bk (stN A B (k + 1)) = 0
    · rw [sI_pos h, if_neg (by decide)]
      by_cases h2 : bk (stN A B (n + 1)) = 0
      · rw [if_pos h2, sI_pos ⟨h.1, fun k hk => by
          by_cases e : k = n
          · rw [e]; exact h2
          · exact h.2 k (by omega)⟩]
      · rw [if_neg h2, sI_neg (fun q => h2 (q.2 n (by omega)))]
    · rw [sI_neg h, if_pos rfl, sI_neg (fun q => h ⟨q.1, fun k hk => q.2 k (by omega)⟩)]
theorem sgt_ok {bk lb : Nat → Int32} {A B : Nat} (hI : InvF bk lb) (hA : A < 144) (hB : B < 144) : f_L_isSight lb bk A B = 1 := by
  unfold f_L_isSight
  rw [if_pos (sI_eq (sgt_sym (bk := bk) hA hB)), if_pos (sI_eq (sgt_sym (bk := bk) hA hB))]
  by_cases hs : j_L_isSight_83 B A = 0
  · rw [if_pos hs]
    by_cases h : SgtC bk A B
    · rw [sI_pos h, if_neg (by decide)]
      have he := sgt_ends hA hB h
      unfold j_L_isSight_29
      rw [isB hI hA, isB hI hB, if_pos he.1, if_pos he.2, if_neg (by decide)]
    · rw [sI_neg h, if_pos rfl, if_pos (Classical.byContradiction fun q => h (sgt_free hI hA hB q))]
  · rw [if_neg hs]
    have hst : ∀ k : Nat, k < apN A B → _ := fun k hk => st_eq (p1 := A) (p2 := B) (k := k) hA hB rfl hk (st83 hs)
    have hdir : (A / 12 = B / 12 ∨ A / 12 + apN A B = B / 12 ∨ B / 12 + apN A B = A / 12) ∧ (A % 12 = B % 12 ∨ A % 12 + apN A B = B % 12 ∨ B % 12 + apN A B = A % 12) := by
      by_cases h0 : 0 < apN A B
      · exact (hst 0 h0).2.2
      · have hap : apN A B = max (max (A / 12 - B / 12) (B / 12 - A / 12)) (max (A % 12 - B % 12) (B % 12 - A % 12)) := rfl
        omega
    have hc : sI (SgtC bk A B) = cnN lb A B (apN A B - 1) := by
      rw [cn_eq hI hA hB (apN A B - 1) (fun k hk => (hst (k + 1) (by omega)).2.1)]
      exact sI_eq (sgt_str hA hB rfl hdir.1 hdir.2)
    rw [if_pos hc]
    by_cases ho : 0 < orN lb (min (A / 12) (B / 12)) (max (A / 12) (B / 12) + 1 - min (A / 12) (B / 12))
    · rw [if_pos ho]
    · rw [if_neg ho, sI_pos (sgt_free hI hA hB ho), if_neg (by decide)]
