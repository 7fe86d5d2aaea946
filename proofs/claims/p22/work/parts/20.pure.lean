theorem chk_in {p c d : Int32} {N : Nat} (hc : c = nI N) (hd : d = nI (N - 1)) (h0 : 0 < N) (hN : N < 2 ^ 31) (h : vp_in p N) : ¬ p < 0 ∧ p < c ∧ ¬ d < p := by
  obtain ⟨j, hj, rfl⟩ := vp_in_of h hN
  subst hc; subst hd
  exact ⟨nI_pos (by omega), nI_lt hj hN, fun q => by have := (nI_ltI (by omega) (by omega)).mp q; omega⟩
theorem chk_out {p c d : Int32} {N : Nat} (hc : c = nI N) (hd : d = nI (N - 1)) (h0 : 0 < N) (hN : N < 2 ^ 31) (h : ¬ vp_in p N) : p < 0 ∨ (¬ p < 0 ∧ ¬ p < c ∧ d < p) := by
  by_cases h1 : p < 0
  · exact Or.inl h1
  · obtain ⟨j, hj, rfl⟩ := nI_of h1
    subst hc; subst hd
    have hjN : N ≤ j := Nat.le_of_not_lt (fun q => h (vp_in_nI q hN))
    exact Or.inr ⟨h1, fun q => by have := (nI_ltI hj hN).mp q; omega, nI_lt (by omega) hj⟩
theorem rd_off (hm aw : Int32) : k_X5_checkRound hm aw (-1) = 3 ∧ f_X2_isPlayed hm aw (-1) = 0 := by
  have h : f_X2_isPlayed hm aw (-1) = 0 := by unfold f_X2_isPlayed; rw [if_pos rfl]
  exact ⟨by unfold k_X5_checkRound; rw [if_pos h], h⟩
theorem rd_on (hm aw : Int32) {tk : Int32} (hk : ¬ tk = (-1)) : k_X5_checkRound hm aw tk = 0 ∧ ¬ f_X2_isPlayed hm aw tk = 0 := by
  have h : ¬ f_X2_isPlayed hm aw tk = 0 := by unfold f_X2_isPlayed; rw [if_neg hk]; decide
  exact ⟨by unfold k_X5_checkRound; rw [if_neg h], h⟩
theorem on1 {x : Int32} (h : x = 1) : ¬ x = 0 := by rw [h]; decide
theorem vp_ge {p : Int32} {N : Nat} (h : vp_in p N) : 0 ≤ p := Int32.not_lt.mp (fun q => h (Or.inl q))
theorem vp_n2 {p : Int32} {N : Nat} (h : vp_in p N) : ¬ p = (-2) := fun q => h (Or.inl (by rw [q]; decide))
theorem vp_n1 {p : Int32} {N : Nat} (h : vp_in p N) : ¬ p = (-1) := fun q => h (Or.inl (by rw [q]; decide))
theorem upd_self (f : Nat → Int32) (k : Nat) : upd f k (f k) = f := funext fun j => by
  unfold upd
  split
  · rename_i h; rw [h]
  · rfl
theorem upd_at (f : Nat → Int32) (k : Nat) (x : Int32) : upd f k x k = x := if_pos rfl
theorem upd_ne (f : Nat → Int32) {k j : Nat} (x : Int32) (h : ¬ j = k) : upd f k x j = f j := if_neg h
theorem free_of {ce : Nat → Int32} {p : Int32} (h : pOn ce p = (-1)) : ∀ j : Nat, j < 6 → ¬ ce j = p := fun j hj q => by
  obtain ⟨i, ⟨hi, h1⟩, h2⟩ := pk_least (fun i => i < 6 ∧ ce i = p) ⟨j, hj, q⟩
  have h3 := pOn_at (ce := ce) (p := p) hi (fun k hk h4 => h2 k hk ⟨by omega, h4⟩) h1
  rw [h] at h3
  exact nI_pos (n := i) (by omega) (by rw [h3]; decide)
theorem ti_a {x y : Int32} {a b : Int} (hx : x.toInt = a) (hy : y.toInt = b) (h1 : -2147483648 ≤ a + b) (h2 : a + b < 2147483648) : (x + y).toInt = a + b := by
  rw [Int32.toInt_add, hx, hy]
  exact Int.bmod_eq_of_le (by omega) (by omega)
theorem ti_s {x y : Int32} {a b : Int} (hx : x.toInt = a) (hy : y.toInt = b) (h1 : -2147483648 ≤ a - b) (h2 : a - b < 2147483648) : (x - y).toInt = a - b := by
  rw [Int32.toInt_sub, hx, hy]
  exact Int.bmod_eq_of_le (by omega) (by omega)
theorem ti_m {x y : Int32} {a b : Int} (hx : x.toInt = a) (hy : y.toInt = b) (h1 : -2147483648 ≤ a * b) (h2 : a * b < 2147483648) : (x * y).toInt = a * b := by
  rw [Int32.toInt_mul, hx, hy]
  exact Int.bmod_eq_of_le (by omega) (by omega)
theorem ti_n {n : Nat} (h : n < 2 ^ 31) : (nI n).toInt = (n : Int) := nI_toInt h
/-- a product of two small numbers is small -/
theorem mbd {a b N : Int} (h1 : -N ≤ a) (h2 : a ≤ N) (h3 : -N ≤ b) (h4 : b ≤ N) : -(N * N) ≤ a * b ∧ a * b ≤ N * N := by
  have e1 : 0 ≤ (N - a) * (N - b) := Int.mul_nonneg (by omega) (by omega)
  have e2 : 0 ≤ (N + a) * (N + b) := Int.mul_nonneg (by omega) (by omega)
  have e3 : 0 ≤ (N - a) * (N + b) := Int.mul_nonneg (by omega) (by omega)
  have e4 : 0 ≤ (N + a) * (N - b) := Int.mul_nonneg (by omega) (by omega)
  rw [Int.sub_mul, Int.mul_sub, Int.mul_sub] at e1
  rw [Int.add_mul, Int.mul_add, Int.mul_add] at e2
  rw [Int.sub_mul, Int.mul_add, Int.mul_add] at e3
  rw [Int.add_mul, Int.mul_sub, Int.mul_sub] at e4
  constructor <;> omega
theorem ti_abs {x : Int32} {a : Int} (hx : x.toInt = a) (h1 : -2147483648 < a) : (z_abs x).toInt = if 0 ≤ a then a else -a := by
  have h2 : a < 2147483648 := by have := Int32.toInt_lt x; omega
  unfold z_abs
  by_cases h : 0 ≤ x
  · have h3 : 0 ≤ a := by rw [Int32.le_iff_toInt_le, hx] at h; exact h
    rw [if_pos h, if_pos h3, hx]
  · have h3 : ¬ 0 ≤ a := fun q => h (by rw [Int32.le_iff_toInt_le, hx]; exact q)
    rw [if_neg h, if_neg h3, ti_s (x := 0) (a := 0) rfl hx (by omega) (by omega)]
    omega
/-- the class's question, in whole numbers: 0 where the line doesn't lead through -/
theorem le_iff {A B K : Nat} (hA : A < 144) (hB : B < 144) (hK : K < 144) : f_X1_lineEnters (nI A) (nI B) (nI K) = 0 ↔
    (if (0 : Int) ≤ (B / 12 : Nat) - (A / 12 : Nat) then ((B / 12 : Nat) : Int) - (A / 12 : Nat) else -(((B / 12 : Nat) : Int) - (A / 12 : Nat))) + (if (0 : Int) ≤ (B % 12 : Nat) - (A % 12 : Nat) then ((B % 12 : Nat) : Int) - (A % 12 : Nat) else -(((B % 12 : Nat) : Int) - (A % 12 : Nat))) ≤
    2 * (if (0 : Int) ≤ (((B / 12 : Nat) : Int) - (A / 12 : Nat)) * (((K % 12 : Nat) : Int) - (A % 12 : Nat)) - (((B % 12 : Nat) : Int) - (A % 12 : Nat)) * (((K / 12 : Nat) : Int) - (A / 12 : Nat)) then (((B / 12 : Nat) : Int) - (A / 12 : Nat)) * (((K % 12 : Nat) : Int) - (A % 12 : Nat)) - (((B % 12 : Nat) : Int) - (A % 12 : Nat)) * (((K / 12 : Nat) : Int) - (A / 12 : Nat)) else -((((B / 12 : Nat) : Int) - (A / 12 : Nat)) * (((K % 12 : Nat) : Int) - (A % 12 : Nat)) - (((B % 12 : Nat) : Int) - (A % 12 : Nat)) * (((K / 12 : Nat) : Int) - (A / 12 : Nat)))) := by
  unfold f_X1_lineEnters
  rw [r12 hA, r12 hB, r12 hK, d12 hA, d12 hB, d12 hK]
  generalize hrA : A / 12 = rA
  generalize hrB : B / 12 = rB
  generalize hrK : K / 12 = rK
  generalize hcA : A % 12 = cA
  generalize hcB : B % 12 = cB
  generalize hcK : K % 12 = cK
  have b1 : rA < 12 := by omega
  have b2 : rB < 12 := by omega
  have b3 : rK < 12 := by omega
  have b4 : cA < 12 := by omega
  have b5 : cB < 12 := by omega
  have b6 : cK < 12 := by omega
  have t1 : (nI rB - nI rA).toInt = (rB : Int) - rA := ti_s (ti_n (by omega)) (ti_n (by omega)) (by omega) (by omega)
  have t2 : (nI cB - nI cA).toInt = (cB : Int) - cA := ti_s (ti_n (by omega)) (ti_n (by omega)) (by omega) (by omega)
  have t3 : (nI rK - nI rA).toInt = (rK : Int) - rA := ti_s (ti_n (by omega)) (ti_n (by omega)) (by omega) (by omega)
  have t4 : (nI cK - nI cA).toInt = (cK : Int) - cA := ti_s (ti_n (by omega)) (ti_n (by omega)) (by omega) (by omega)
  have m1 := mbd (a := (rB : Int) - rA) (b := (cK : Int) - cA) (N := 12) (by omega) (by omega) (by omega) (by omega)
  have m2 := mbd (a := (cB : Int) - cA) (b := (rK : Int) - rA) (N := 12) (by omega) (by omega) (by omega) (by omega)
  have t5 := ti_m t1 t4 (by omega) (by omega)
  have t6 := ti_m t2 t3 (by omega) (by omega)
  generalize ((rB : Int) - rA) * ((cK : Int) - cA) = M1 at m1 t5 ⊢
  generalize ((cB : Int) - cA) * ((rK : Int) - rA) = M2 at m2 t6 ⊢
  have t7 := ti_abs (ti_s t5 t6 (by omega) (by omega)) (by omega)
  have t8 := ti_abs t1 (by omega)
  have t9 := ti_abs t2 (by omega)
  have u1 : 0 ≤ (if 0 ≤ M1 - M2 then M1 - M2 else -(M1 - M2)) ∧ (if 0 ≤ M1 - M2 then M1 - M2 else -(M1 - M2)) ≤ 300 := by split <;> omega
  have u2 : 0 ≤ (if (0 : Int) ≤ rB - rA then (rB : Int) - rA else -((rB : Int) - rA)) ∧ (if (0 : Int) ≤ rB - rA then (rB : Int) - rA else -((rB : Int) - rA)) ≤ 12 := by split <;> omega
  have u3 : 0 ≤ (if (0 : Int) ≤ cB - cA then (cB : Int) - cA else -((cB : Int) - cA)) ∧ (if (0 : Int) ≤ cB - cA then (cB : Int) - cA else -((cB : Int) - cA)) ≤ 12 := by split <;> omega
  generalize (if 0 ≤ M1 - M2 then M1 - M2 else -(M1 - M2)) = V at t7 u1 ⊢
  generalize (if (0 : Int) ≤ rB - rA then (rB : Int) - rA else -((rB : Int) - rA)) = R9 at t8 u2 ⊢
  generalize (if (0 : Int) ≤ cB - cA then (cB : Int) - cA else -((cB : Int) - cA)) = C9 at t9 u3 ⊢
  have t10 := ti_a t8 t9 (by omega) (by omega)
  have t11 := ti_m (x := 2) (a := 2) rfl t7 (by omega) (by omega)
  split
  · rename_i h
    rw [Int32.le_iff_toInt_le, t10, t11] at h
    exact ⟨fun _ => h, fun _ => rfl⟩
  · rename_i h
    rw [Int32.le_iff_toInt_le, t10, t11] at h
    exact ⟨fun q => absurd q (by decide), fun q => absurd q h⟩
def bt (x : Int32) (i : Nat) : Bool := x.toBitVec.getLsbD i
theorem b_ext {x y : Int32} (h : ∀ i, i < 32 → bt x i = bt y i) : x = y := Int32.toBitVec_inj.mp (BitVec.eq_of_getLsbD_eq (fun i hi => h i hi))
theorem b_or (x y : Int32) (i : Nat) : bt (x ||| y) i = (bt x i || bt y i) := by unfold bt; rw [Int32.toBitVec_or, BitVec.getLsbD_or]
theorem b_and (x y : Int32) (i : Nat) : bt (x &&& y) i = (bt x i && bt y i) := by unfold bt; rw [Int32.toBitVec_and, BitVec.getLsbD_and]
theorem b_xor (x y : Int32) (i : Nat) : bt (x ^^^ y) i = (bt x i ^^ bt y i) := by unfold bt; rw [Int32.toBitVec_xor, BitVec.getLsbD_xor]
theorem b_big {x : Int32} {i : Nat} (h : 32 ≤ i) : bt x i = false := BitVec.getLsbD_of_ge _ _ h
theorem b_0 (i : Nat) : bt 0 i = false := BitVec.getLsbD_zero
theorem s_l : ∀ n, n < 32 → ((nI n &&& 31).toBitVec.smod 32).toNat = n := by decide +kernel
theorem b_shl (n : Nat) (hn : n < 32) (x : Int32) {i : Nat} (hi : i < 32) : bt (x <<< (nI n &&& 31)) i = (decide (n ≤ i) && bt x (i - n)) := by
  unfold bt
  rw [Int32.toBitVec_shiftLeft]
  show (x.toBitVec <<< ((nI n &&& 31).toBitVec.smod 32).toNat).getLsbD i = _
  rw [s_l n hn, BitVec.getLsbD_shiftLeft]
  rcases Nat.lt_or_ge i n with h | h
  · simp [h, Nat.not_le.mpr h]
  · simp [hi, h, Nat.not_lt.mpr h]
theorem b_sshr (n : Nat) (hn : n < 32) (x : Int32) {i : Nat} (hi : i < 32) : bt (x >>> (nI n &&& 31)) i = if n + i < 32 then bt x (n + i) else bt x 31 := by
  unfold bt
  rw [Int32.toBitVec_shiftRight]
  show (x.toBitVec.sshiftRight ((nI n &&& 31).toBitVec.smod 32).toNat).getLsbD i = _
  rw [s_l n hn, BitVec.getLsbD_sshiftRight, BitVec.msb_eq_getLsbD_last]
  simp [hi]
theorem cell_in {p : Int32} (h : vp_in p 144) : k_X5_checkCell p = 0 := by
  obtain ⟨a, b, c⟩ := chk_in (c := 144) (d := 143) rfl rfl (by decide) (by decide) h
  unfold k_X5_checkCell; rw [if_neg a, if_pos b]
theorem cell_out {p : Int32} (h : ¬ vp_in p 144) : k_X5_checkCell p = 1 := by
  rcases chk_out (c := 144) (d := 143) rfl rfl (by decide) (by decide) h with a | ⟨a, b, c⟩
  · unfold k_X5_checkCell; rw [if_pos a]
  · unfold k_X5_checkCell; rw [if_neg a, if_neg b]
theorem team_in6 {p : Int32} (h : vp_in p 6) : k_X5_checkTeam p = 0 := by
  obtain ⟨a, b, c⟩ := chk_in (c := 6) (d := 5) rfl rfl (by decide) (by decide) h
  unfold k_X5_checkTeam; rw [if_neg a, if_pos b]
theorem team_out6 {p : Int32} (h : ¬ vp_in p 6) : k_X5_checkTeam p = 1 := by
  rcases chk_out (c := 6) (d := 5) rfl rfl (by decide) (by decide) h with a | ⟨a, b, c⟩
  · unfold k_X5_checkTeam; rw [if_pos a]
  · unfold k_X5_checkTeam; rw [if_neg a, if_neg b]
theorem player_in {p : Int32} (h : vp_in p 6) : k_X5_checkPlayer p = 0 := by
  obtain ⟨a, b, c⟩ := chk_in (c := 6) (d := 5) rfl rfl (by decide) (by decide) h
  unfold k_X5_checkPlayer; rw [if_neg a, if_pos b]
theorem player_out {p : Int32} (h : ¬ vp_in p 6) : k_X5_checkPlayer p = 1 := by
  rcases chk_out (c := 6) (d := 5) rfl rfl (by decide) (by decide) h with a | ⟨a, b, c⟩
  · unfold k_X5_checkPlayer; rw [if_pos a]
  · unfold k_X5_checkPlayer; rw [if_neg a, if_neg b]
theorem referee_in {p : Int32} (h : vp_in p 2) : k_X5_checkReferee p = 0 := by
  obtain ⟨a, b, c⟩ := chk_in (c := 2) (d := 1) rfl rfl (by decide) (by decide) h
  unfold k_X5_checkReferee; rw [if_neg a, if_pos b]
theorem referee_out {p : Int32} (h : ¬ vp_in p 2) : k_X5_checkReferee p = 1 := by
  rcases chk_out (c := 2) (d := 1) rfl rfl (by decide) (by decide) h with a | ⟨a, b, c⟩
  · unfold k_X5_checkReferee; rw [if_pos a]
  · unfold k_X5_checkReferee; rw [if_neg a, if_neg b]
theorem vin {j N : Nat} (h : j < N) (hN : N < 2 ^ 31 := by decide) : vp_in (nI j) N := vp_in_nI h hN
theorem vout {j N : Nat} (h : N ≤ j) (hj : j < 2 ^ 31) : ¬ vp_in (nI j) N := fun q => q (Or.inr (by rw [nI_clamp hj]; exact h))
theorem b_1 : ∀ i, i < 32 → bt 1 i = decide (i = 0) := by decide +kernel
theorem and1 (y : Int32) : (y &&& 1) = 1 ↔ bt y 0 = true := by
  constructor
  · intro h
    have h2 := b_and y 1 0
    rw [h, b_1 0 (by decide)] at h2
    simpa using h2.symm
  · intro h
    refine b_ext fun i hi => ?_
    rw [b_and, b_1 i hi]
    by_cases e : i = 0
    · subst e; simp [h]
    · simp [e]
/-- the law's rows of bits hold the class's bunkers -/
def b01 (f : Nat → Int32) : Prop := ∀ j : Nat, f j = 0 ∨ f j = 1
def InvF (bk lb : Nat → Int32) : Prop := b01 bk ∧ ∀ r : Nat, r < 12 → (∀ c : Nat, c < 12 → (bk (12 * r + c) = 1 ↔ bt (lb r) c = true)) ∧ ∀ i : Nat, 12 ≤ i → bt (lb r) i = false
theorem isB {bk lb : Nat → Int32} {c : Nat} (h : InvF bk lb) (hc : c < 144) : f_L_isBunker lb c = bk c := by
  have h2 := (h.2 (c / 12) (by omega)).1 (c % 12) (by omega)
  rw [show 12 * (c / 12) + c % 12 = c by omega] at h2
  have h3 : ((lb (c / 12) >>> (nI (c % 12) &&& 31)) &&& 1) = 1 ↔ bk c = 1 := by
    rw [and1, b_sshr (c % 12) (by omega) _ (by decide), if_pos (by omega), Nat.add_zero]
    exact h2.symm
  unfold f_L_isBunker
  rcases h.1 c with q | q
  · rw [if_neg (fun z => absurd (q.symm.trans (h3.mp z)) (by decide)), q]
  · rw [if_pos (h3.mpr q), q]
theorem b_turn (x : Int32) {c : Nat} (hc : c < 12) (i : Nat) : bt (x ^^^ (1 <<< (nI c &&& 31))) i = (bt x i ^^ decide (i = c)) := by
  rw [b_xor]
  rcases Nat.lt_or_ge i 32 with hi | hi
  · rw [b_shl c (by omega) 1 hi]
    by_cases e : c ≤ i
    · rw [b_1 (i - c) (by omega)]
      have : decide (i - c = 0) = decide (i = c) := decide_eq_decide.mpr (by omega)
      rw [this]
      simp [e]
    · have : decide (i = c) = false := decide_eq_false (by omega)
      simp [e, this]
  · rw [b_big hi, b_big hi, decide_eq_false (by omega)]
theorem bt_or (lb : Nat → Int32) (lo i : Nat) : ∀ n : Nat, bt (orN lb lo n) i = true ↔ ∃ j : Nat, j < n ∧ bt (lb (lo + j)) i = true
  | 0 => by
    rw [orN, b_0]
    exact ⟨fun h => absurd h (by decide), fun ⟨j, h, _⟩ => absurd h (Nat.not_lt_zero j)⟩
  | n + 1 => by
    rw [orN, b_or, Bool.or_eq_true, bt_or lb lo i n]
    constructor
    · rintro (⟨j, h, q⟩ | q)
      · exact ⟨j, by omega, q⟩
      · exact ⟨n, by omega, q⟩
    · rintro ⟨j, h, q⟩
      by_cases e : j = n
      · subst e; exact Or.inr q
      · exact Or.inl ⟨j, by omega, q⟩
theorem bt_pos {x : Int32} (h : bt x 31 = false) : 0 < x ↔ ∃ i : Nat, i < 32 ∧ bt x i = true := by
  have hm : x.toBitVec.msb = false := by rw [BitVec.msb_eq_getLsbD_last]; exact h
  have h0 : 0 ≤ x.toInt := by
    show 0 ≤ x.toBitVec.toInt
    rw [BitVec.toInt_eq_msb_cond, hm]
    simp
  rw [Int32.lt_iff_toInt_lt]
  show 0 < x.toInt ↔ _
  constructor
  · intro hp
    refine Classical.byContradiction fun q => ?_
    have e : x = 0 := b_ext fun i hi => by
      rw [b_0]
      cases hb : bt x i with
      | false => rfl
      | true => exact absurd ⟨i, hi, hb⟩ q
    rw [e] at hp
    exact absurd hp (by decide)
  · rintro ⟨i, hi, q⟩
    refine Classical.byContradiction fun z => ?_
    have e : x.toInt = (0 : Int32).toInt := by
      show x.toInt = 0
      omega
    rw [Int32.toInt_inj.mp e, b_0] at q
    exact absurd q (by decide)
theorem or_pos {bk lb : Nat → Int32} {lo n : Nat} (h : InvF bk lb) (hb : lo + n ≤ 12) : 0 < orN lb lo n ↔ ∃ j c : Nat, j < n ∧ c < 12 ∧ bk (12 * (lo + j) + c) = 1 := by
  have h31 : ∀ i : Nat, 12 ≤ i → bt (orN lb lo n) i = false := fun i hi => by
    cases hq : bt (orN lb lo n) i with
    | false => rfl
    | true =>
      obtain ⟨j, hj, q⟩ := (bt_or lb lo i n).mp hq
      rw [(h.2 (lo + j) (by omega)).2 i hi] at q
      exact absurd q (by decide)
  rw [bt_pos (h31 31 (by decide))]
  constructor
  · rintro ⟨i, hi, q⟩
    have hi2 : i < 12 := Nat.lt_of_not_le fun z => by rw [h31 i z] at q; exact absurd q (by decide)
    obtain ⟨j, hj, q2⟩ := (bt_or lb lo i n).mp q
    exact ⟨j, i, hj, hi2, ((h.2 (lo + j) (by omega)).1 i hi2).mpr q2⟩
  · rintro ⟨j, c, hj, hc, q⟩
    exact ⟨c, by omega, (bt_or lb lo c n).mpr ⟨j, hj, ((h.2 (lo + j) (by omega)).1 c hc).mp q⟩⟩
