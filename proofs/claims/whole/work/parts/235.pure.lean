/-! ===== pure: views, flights, places ===== -/
theorem vp_ge {p : Int32} {N : Nat} (h : vp_in p N) : 0 ≤ p := Int32.not_lt.mp (fun q => h (Or.inl q))
theorem vp_n2 {p : Int32} {N : Nat} (h : vp_in p N) : ¬ p = (-2) := fun q => h (Or.inl (by rw [q]; decide))
theorem vp_n1 {p : Int32} {N : Nat} (h : vp_in p N) : ¬ p = (-1) := fun q => h (Or.inl (by rw [q]; decide))
theorem view_eq {bk : Nat → Int32} {p1 : Int32} (h1 : vp_in p1 144) : ∀ n : Nat, n ≤ 144 → vwN bk p1 n = seenN bk p1 n
  | 0, _ => by rw [vwN, seenN]
  | n + 1, hn => by
    have ih := view_eq (bk := bk) h1 n (by omega)
    rw [vwN, seenN, see_eq h1 (show vp_in (nI n) 144 from vp_in_nI (by omega) (by decide)), ih, Int32.add_zero]
theorem fly_eq (tk : Int32) (sd : Nat → Int32) : ∀ n : Nat, flK tk sd n = flyN tk sd n
  | 0 => by rw [flK, flyN]
  | n + 1 => by rw [flK, flyN, fly_eq tk sd n, Int32.add_zero]
theorem sub_le0 {u v : Nat} (hu : u < 1024) (hv : v < 1024) : (nI u - nI v ≤ 0 ↔ nI u ≤ nI v) ∧ (nI u - nI v = 0 ↔ nI u = nI v) := by
  have t : (nI u - nI v).toInt = (u : Int) - v := ti_s (ti_n (by omega)) (ti_n (by omega)) (by omega) (by omega)
  have z : (0 : Int32).toInt = 0 := rfl
  constructor
  · rw [Int32.le_iff_toInt_le, Int32.le_iff_toInt_le, t, z, ti_n (by omega), ti_n (by omega)]
    omega
  · constructor
    · intro h
      have h2 := congrArg Int32.toInt h
      rw [t, z] at h2
      rw [show u = v by omega]
    · intro h
      rw [h, Int32.sub_self]
theorem ahead_eq {n : Nat} {pt df wv : Nat → Int32} {wn : Nat → Nat → Int32} (hn : n < 512) (hw : ∀ i j : Nat, i < 6 → j < 6 → wn i j = wv (6 * i + j) ∧ ∃ w : Nat, w ≤ n ∧ wn i j = nI w) {on hm aw tk th : Int32} {sn kn i j : Nat} (hi : i < 6) (hj : j < 6) : f_X6_isAhead on hm aw tk sn kn pt df wv th (nI i) (nI j) = f_X4_isAhead pt df wn (nI i) (nI j) := by
  unfold f_X6_isAhead f_X4_isAhead
  obtain ⟨a1, u, a2, a3⟩ := hw i j hi hj
  obtain ⟨b1, v, b2, b3⟩ := hw j i hj hi
  rw [win_nI, win_nI, nI_clamp (show i < 2 ^ 31 by omega), nI_clamp (show j < 2 ^ 31 by omega), nI_clamp (show 6 * i + j < 2 ^ 31 by omega), nI_clamp (show 6 * j + i < 2 ^ 31 by omega), ← a1, ← b1, a3, b3]
  have s := sub_le0 (u := u) (v := v) (by omega) (by omega)
  by_cases c1 : pt i = pt j
  · rw [if_pos c1, if_pos c1]
    by_cases c2 : nI u = nI v
    · rw [if_pos c2, if_pos (s.2.mpr c2)]
    · rw [if_neg c2, if_neg (mt s.2.mp c2)]
      by_cases c3 : nI u ≤ nI v
      · rw [if_pos c3, if_pos (s.1.mpr c3)]
      · rw [if_neg c3, if_neg (mt s.1.mp c3)]
  · rw [if_neg c1, if_neg c1]
theorem pl_eq {n : Nat} {pt df wv : Nat → Int32} {wn : Nat → Nat → Int32} (hn : n < 512) (hw : ∀ i j : Nat, i < 6 → j < 6 → wn i j = wv (6 * i + j) ∧ ∃ w : Nat, w ≤ n ∧ wn i j = nI w) {on hm aw tk : Int32} {sn kn : Nat} {p1 : Int32} (h1 : vp_in p1 6) : ∀ k : Nat, k ≤ 6 → plM on hm aw tk sn kn pt df wv p1 k = plN pt df wn p1 k
  | 0, _ => by rw [plM, plN]
  | k + 1, hk => by
    have ih := pl_eq (on := on) (hm := hm) (aw := aw) (tk := tk) (sn := sn) (kn := kn) (pt := pt) (df := df) hn hw h1 k (by omega)
    obtain ⟨j, hj, rfl⟩ := in_nI (by decide) h1
    rw [plM, plN, ih, ahead_eq hn hw (show k < 6 by omega) hj, Int32.add_zero]
theorem upd_self (f : Nat → Int32) (k : Nat) : upd f k (f k) = f := funext fun j => by
  unfold upd
  split
  · rename_i h; rw [h]
  · rfl
theorem upd_at (f : Nat → Int32) (k : Nat) (x : Int32) : upd f k x k = x := if_pos rfl
theorem upd_ne (f : Nat → Int32) {k j : Nat} (x : Int32) (h : ¬ j = k) : upd f k x j = f j := if_neg h
theorem agr_upd {N : Nat} {f g : Nat → Int32} (h : agr N f g) (k : Nat) {x y : Int32} (e : x = y) : agr N (upd f k x) (upd g k y) := fun j hj => by
  by_cases q : j = k
  · rw [q, upd_at, upd_at, e]
  · rw [upd_ne _ _ q, upd_ne _ _ q, h j hj]
/-- where the players may be, and no two on one cell -/
theorem rng_upd {ce : Nat → Int32} (h : ∀ j : Nat, j < 6 → ce j = (-2) ∨ ce j = (-1) ∨ vp_in (ce j) 144) (k : Nat) {x : Int32} (hx : x = (-2) ∨ x = (-1) ∨ vp_in x 144) : ∀ j : Nat, j < 6 → upd ce k x j = (-2) ∨ upd ce k x j = (-1) ∨ vp_in (upd ce k x j) 144 := fun j hj => by
  by_cases q : j = k
  · rw [q, upd_at]; exact hx
  · rw [upd_ne _ _ q]; exact h j hj
theorem pos_upd {ce : Nat → Int32} (h : ∀ i j : Nat, i < 6 → j < 6 → 0 ≤ ce i → ce i = ce j → i = j) (k : Nat) {x : Int32} (hx : ¬ 0 ≤ x ∨ ∀ j : Nat, j < 6 → ¬ ce j = x) : ∀ i j : Nat, i < 6 → j < 6 → 0 ≤ upd ce k x i → upd ce k x i = upd ce k x j → i = j := fun i j hi hj => by
  by_cases q : i = k
  · by_cases r : j = k
    · intro _ _; rw [q, r]
    · rw [q, upd_at, upd_ne _ _ r]
      intro g1 g2
      rcases hx with hx | hx
      · exact absurd g1 hx
      · exact absurd g2.symm (hx j hj)
  · by_cases r : j = k
    · rw [r, upd_at, upd_ne _ _ q]
      intro g1 g2
      rcases hx with hx | hx
      · exact absurd (g2 ▸ g1) hx
      · exact absurd g2 (hx i hi)
    · rw [upd_ne _ _ q, upd_ne _ _ r]
      exact h i j hi hj
theorem sOn_no (ce : Nat → Int32) (p : Int32) : ∀ n : Nat, (∀ j : Nat, j < n → ¬ ce j = p) → sOn ce p n = (-1)
  | 0, _ => by rw [sOn]
  | n + 1, h => by
    rw [sOn, if_neg (h n (Nat.lt_succ_self n))]
    exact sOn_no ce p n (fun j hj => h j (by omega))
theorem sOn_at (ce : Nat → Int32) (p : Int32) : ∀ n i : Nat, i < n → ce i = p → (∀ j : Nat, j < n → ce j = p → j = i) → sOn ce p n = nI i
  | 0, i, h, _, _ => absurd h (Nat.not_lt_zero i)
  | n + 1, i, h, h1, h2 => by
    rw [sOn]
    by_cases q : ce n = p
    · rw [if_pos q, h2 n (Nat.lt_succ_self n) q]
    · rw [if_neg q]
      have hin : i ≠ n := fun e => q (e ▸ h1)
      exact sOn_at ce p n i (by omega) h1 (fun j hj => h2 j (by omega))
theorem sOn_agr {f g : Nat → Int32} (p : Int32) (h : agr 6 f g) : ∀ n : Nat, n ≤ 6 → sOn g p n = sOn f p n
  | 0, _ => by rw [sOn, sOn]
  | n + 1, hn => by rw [sOn, sOn, sOn_agr p h n (by omega), h n (by omega)]
theorem stands {ce mce : Nat → Int32} {p : Int32} (h : agr 6 ce mce) (hp : ∀ i j : Nat, i < 6 → j < 6 → 0 ≤ ce i → ce i = ce j → i = j) (h0 : 0 ≤ p) : sOn mce p 6 = pOn ce p := by
  rw [sOn_agr p h 6 (Nat.le_refl 6)]
  by_cases e : ∃ i : Nat, i < 6 ∧ ce i = p
  · obtain ⟨i, hi, h1⟩ := e
    have hu : ∀ j : Nat, j < 6 → ce j = p → j = i := fun j hj h2 => (hp i j hi hj (by rw [h1]; exact h0) (by rw [h1, h2])).symm
    rw [sOn_at ce p 6 i hi h1 hu]
    exact pOn_at hi (fun j hj h2 => by have := hu j (by omega) h2; omega) h1
  · have h2 : ∀ j : Nat, j < 6 → ¬ ce j = p := fun j hj q => e ⟨j, hj, q⟩
    rw [sOn_no ce p 6 h2]
    exact pOn_no h2
theorem free_of {ce : Nat → Int32} {p : Int32} (h : pOn ce p = (-1)) : ∀ j : Nat, j < 6 → ¬ ce j = p := fun j hj q => by
  obtain ⟨i, ⟨hi, h1⟩, h2⟩ := pk_least (fun i => i < 6 ∧ ce i = p) ⟨j, hj, q⟩
  have h3 := pOn_at (ce := ce) (p := p) hi (fun k hk h4 => h2 k hk ⟨by omega, h4⟩) h1
  rw [h] at h3
  exact nI_pos (n := i) (by omega) (by rw [h3]; decide)
theorem dist_eq (p q : Int32) : f_X1_distance p q = f_X6_apart p q := by
  unfold f_X1_distance f_X6_apart
  have e : ∀ x : Int32, f_X6_size x = z_abs x := fun x => by
    unfold f_X6_size z_abs
    split
    · rfl
    · rw [Int32.zero_sub]
  rw [e, e]
  unfold z_max
  generalize z_abs (p / 12 - q / 12) = x
  generalize z_abs (p - p / 12 * 12 - (q - q / 12 * 12)) = y
  by_cases h : x < y
  · rw [if_pos h, if_pos (Int32.le_of_lt h)]
  · rw [if_neg h]
    by_cases h2 : x ≤ y
    · rw [if_pos h2]
      exact Int32.le_antisymm h2 (Int32.not_lt.mp h)
    · rw [if_neg h2]
