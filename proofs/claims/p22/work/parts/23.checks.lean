/-! ===== isRound, isTable, isView hold ===== -/
theorem fly_le (tk : Int32) (sd : Nat → Int32) : ∀ n : Nat, ∃ m : Nat, m ≤ n ∧ flyN tk sd n = nI m
  | 0 => ⟨0, Nat.le_refl 0, by rw [flyN]; rfl⟩
  | n + 1 => by
    obtain ⟨m, h1, h2⟩ := fly_le tk sd n
    rw [flyN]
    split
    · exact ⟨m, by omega, h2⟩
    · exact ⟨m + 1, by omega, by rw [h2, nI_1]⟩
theorem rd_at (lp hi : Nat → Int32) : ∀ n : Nat, (∀ j : Nat, j < 6 ∨ 6 + n ≤ j → rdN lp hi n j = lp j) ∧ ∀ j : Nat, j < n → rdN lp hi n (6 + j) = hi j
  | 0 => ⟨fun j _ => by rw [rdN], fun j h => absurd h (Nat.not_lt_zero j)⟩
  | n + 1 => by
    obtain ⟨h1, h2⟩ := rd_at lp hi n
    constructor
    · intro j hj
      rw [rdN, upd_ne _ _ (by omega)]
      exact h1 j (by omega)
    · intro j hj
      rw [rdN]
      by_cases q : j = n
      · rw [q, upd_at]
      · rw [upd_ne _ _ (by omega)]
        exact h2 j (by omega)
theorem rnd_ok {n : Nat} {rf : Nat → Int32} {bk : Nat → Int32} {hm : Int32} {aw : Int32} {tk : Int32} {ce : Nat → Int32} {hi : Nat → Int32} {la : Nat → Int32} {sn : Nat} {sa : Nat → Int32} {sb : Nat → Int32} {sc : Nat → Int32} {sd : Nat → Int32} {kn : Nat} {ka : Nat → Int32} {kb : Nat → Int32} {kc : Nat → Int32} {kd : Nat → Int32} {pt : Nat → Int32} {fn : Nat → Int32} {df : Nat → Int32} {wn : Nat → Nat → Int32} {lb : Nat → Int32} {lp : Nat → Int32} {lc : Nat → Int32} {lt : Nat → Int32} {lw : Nat → Int32} (hn : n ≤ 60) (h : InvB n rf bk hm aw tk ce hi la sn sa sb sc sd kn ka kb kc kd pt fn df wn lb lp lc lt lw) :
    j_L_isRound_80 tk lb sd sn = 1 ∧ (∀ i : Nat, i < 6 → j_L_isRound_187 ce i lb (rdN lp hi i) hi = 1) ∧ InvA n rf bk hm aw tk ce hi la sn sa sb sc sd kn ka kb kc kd pt fn df wn lb (rdN lp hi 6) lc lt lw := by
  obtain ⟨hC, hS⟩ := h
  have e14 := hC.b14
  obtain ⟨m, hm1, hm2⟩ := fly_le tk sd sn
  have hcnt := hC.cnt
  rcases hC.st with hO | hO
  · obtain ⟨t1, t2, t3, t4, t5⟩ := id hO
    have j12 : j_L_isRound_12 lb = 0 := by unfold j_L_isRound_12; rw [e14, t1]; exact if_pos (by decide)
    refine ⟨?_, fun i hi6 => ?_, ?_, fun j hj => (rd_at lp hi 6).2 j hj⟩
    · have j47 : j_L_isRound_47 lb = 0 := by unfold j_L_isRound_47; rw [j12]; rfl
      unfold j_L_isRound_80
      rw [e14, if_pos (rfl : tk = tk), hm2, if_neg (nI_pos (by omega)), j47, if_neg (by rw [show m = 0 by omega]; decide)]
    · have j124 : j_L_isRound_124 lb (rdN lp hi i) i = ce i := by unfold j_L_isRound_124; rw [j12, t4 i hi6]; rfl
      unfold j_L_isRound_187
      rw [j124, if_pos (rfl : ce i = ce i), t5 i hi6, e14, t1, j12, if_neg (by decide), if_neg (by decide), if_neg (by decide), if_pos (by decide), if_pos (by decide)]
    · obtain ⟨h1, h2, h3, h4, h5, h6, h7, h8, h9, h10⟩ := hC
      exact ⟨h1, h2, h3, h4, h5, h6, fun j hj => by rw [(rd_at lp hi 6).1 j (Or.inl hj)]; exact h7 j hj, h8, h9, Or.inl hO⟩
  · obtain ⟨⟨T, o1, o2, o3⟩, o4, o5, o6⟩ := id hO
    obtain ⟨tn1, tn2⟩ := tk_pl (T := T) (by omega)
    have j12 : j_L_isRound_12 lb = 1 := by unfold j_L_isRound_12; rw [e14, o2]; exact if_neg tn2
    refine ⟨?_, fun i hi6 => ?_, ?_, fun j hj => (rd_at lp hi 6).2 j hj⟩
    · have j47 : j_L_isRound_47 lb = nI sn := by unfold j_L_isRound_47; rw [j12]; exact o4.1
      unfold j_L_isRound_80
      rw [e14, if_pos (rfl : tk = tk), hm2, if_neg (nI_pos (by omega)), j47, if_neg (nI_nlt hm1 (by omega))]
    · have r1 : rdN lp hi i i = ce i := by rw [(rd_at lp hi i).1 i (Or.inl hi6)]; exact (o5 i hi6).1
      have r2 : rdN lp hi i (6 + i) = lp (6 + i) := (rd_at lp hi i).1 (6 + i) (Or.inr (by omega))
      have hS2 := (hS.resolve_left (by rw [o2]; exact tn1)) i hi6
      have j124 : j_L_isRound_124 lb (rdN lp hi i) i = ce i := by unfold j_L_isRound_124; rw [j12]; exact r1
      unfold j_L_isRound_187
      rw [j124, if_pos (rfl : ce i = ce i), r2, e14, o2, j12]
      rcases o3 i hi6 with q | ⟨k, q1, q2, q3⟩
      · rw [q] at hS2 ⊢
        rw [if_neg (by decide), if_neg (fun z => absurd (Int32.lt_trans z (by decide : (-1 : Int32) < 0)) tn2), if_neg (by decide), if_neg (by decide)]
        rcases hS2 with w | w
        · rw [if_pos w]
        · rw [w, if_pos (by decide)]
      · rw [q3, if_neg (fun z => nI_pos (n := k) (by omega) (Int32.lt_trans z (by decide))), if_neg (nI_nlt q2 (by omega)), if_neg (nI_ne0 (by omega) (by omega)), if_neg (by decide)]
        rcases hS2 with w | w
        · rw [if_pos w]
        · rw [w, q3, if_neg (nI_pos (by omega)), if_pos (rfl : nI k = nI k)]
    · obtain ⟨h1, h2, h3, h4, h5, h6, h7, h8, h9, h10⟩ := hC
      refine ⟨h1, h2, h3, h4, h5, h6, fun j hj => by rw [(rd_at lp hi 6).1 j (Or.inl hj)]; exact h7 j hj, h8, h9, Or.inr ⟨⟨T, o1, o2, o3⟩, o4, fun j hj => ⟨?_, ?_⟩, o6⟩⟩
      · rw [(rd_at lp hi 6).1 j (Or.inl hj)]; exact (o5 j hj).1
      · rw [(rd_at lp hi 6).1 (12 + j) (Or.inr (by omega))]; exact (o5 j hj).2
theorem bd_dif {n : Nat} {x y : Int32} (hn : n ≤ 60) (hx : bdd n x) (hy : bdd n y) : (0 < x - y ↔ ¬ x ≤ y) ∧ (x - y = 0 ↔ x = y) := by
  unfold bdd at hx hy
  have t : (x - y).toInt = x.toInt - y.toInt := ti_s rfl rfl (by omega) (by omega)
  have z : (0 : Int32).toInt = 0 := rfl
  constructor
  · rw [Int32.lt_iff_toInt_lt, Int32.le_iff_toInt_le, t, z]
    omega
  · constructor
    · intro h
      have h2 := congrArg Int32.toInt h
      rw [t, z] at h2
      exact Int32.toInt_inj.mp (by omega)
    · intro h
      rw [h, Int32.sub_self]
theorem plT_eq {n : Nat} {pt fn df : Nat → Int32} {wn : Nat → Nat → Int32} {lt lw : Nat → Int32} (hn : n ≤ 60) (h : InvT n pt fn df wn lt lw) {i : Nat} (hi : i < 6) : ∀ k : Nat, k ≤ 6 → plN pt df wn (nI i) k = plT lt lw i k
  | 0, _ => by rw [plN, plT]
  | k + 1, hk => by
    have ih := plT_eq hn h hi k (by omega)
    have hk6 : k < 6 := by omega
    obtain ⟨⟨a1, a2, a3⟩, a4, a5, a6⟩ := h.1 k hk6
    obtain ⟨⟨b1, b2, b3⟩, b4, b5, b6⟩ := h.1 i hi
    obtain ⟨c1, c2⟩ := h.2 k i hk6 hi
    obtain ⟨d1, d2⟩ := h.2 i k hi hk6
    have j : j_L_isTable_198 lt k i lw = if nI k = nI i then 0 else if f_X4_isAhead pt df wn (nI k) (nI i) = 0 then 0 else 1 := by
      unfold j_L_isTable_198 j_L_isTable_184 f_X4_isAhead
      rw [a1, b1, a3, b3, c1, d1, nI_clamp (show k < 2 ^ 31 by omega), nI_clamp (show i < 2 ^ 31 by omega)]
      have s1 := bd_dif hn a4 b4
      have s2 := bd_dif hn c2 d2
      have s3 := bd_dif hn a6 b6
      by_cases e : nI k = nI i
      · have ek : k = i := (nI_eq (by omega) (by omega)).mp e
        subst ek
        rw [if_pos (rfl : nI k = nI k), if_neg (fun q => s1.1.mp q (Int32.le_refl _)), if_pos (Int32.sub_self (pt k)), if_neg (fun q => s2.1.mp q (Int32.le_refl _)), if_pos (Int32.sub_self (wn k k)), if_neg (fun q => s3.1.mp q (Int32.le_refl _)), if_pos (Int32.sub_self (df k)), if_pos (Int32.le_refl (nI k))]
        rfl
      · rw [if_neg e]
        by_cases q1 : pt k = pt i
        · rw [if_neg (fun q => s1.1.mp q (by rw [q1]; exact Int32.le_refl _)), if_pos (s1.2.mpr q1), if_pos q1]
          by_cases q2 : wn k i = wn i k
          · rw [if_neg (fun q => s2.1.mp q (by rw [q2]; exact Int32.le_refl _)), if_pos (s2.2.mpr q2), if_pos q2]
            by_cases q3 : df k = df i
            · rw [if_neg (fun q => s3.1.mp q (by rw [q3]; exact Int32.le_refl _)), if_pos (s3.2.mpr q3), if_pos q3]
            · rw [if_neg q3]
              by_cases w : df k ≤ df i
              · rw [if_neg (fun q => s3.1.mp q w), if_neg (fun q => q3 (s3.2.mp q)), if_pos w]
              · rw [if_pos (s3.1.mpr w), if_neg w]
          · rw [if_neg q2]
            by_cases w : wn k i ≤ wn i k
            · rw [if_neg (fun q => s2.1.mp q w), if_neg (fun q => q2 (s2.2.mp q)), if_pos w]
            · rw [if_pos (s2.1.mpr w), if_neg w]
        · rw [if_neg q1]
          by_cases w : pt k ≤ pt i
          · rw [if_neg (fun q => s1.1.mp q w), if_neg (fun q => q1 (s1.2.mp q)), if_pos w]
          · rw [if_pos (s1.1.mpr w), if_neg w]
    rw [plN, plT, ih, j]
    by_cases e : nI k = nI i
    · rw [if_pos e, if_pos e, Int32.add_zero]
    · rw [if_neg e, if_neg e]
      by_cases q : f_X4_isAhead pt df wn (nI k) (nI i) = 0
      · rw [if_pos q, if_pos q, Int32.add_zero]
      · rw [if_neg q, if_neg q]
theorem tab_ok {n : Nat} {pt fn df : Nat → Int32} {wn : Nat → Nat → Int32} {lt lw : Nat → Int32} (hn : n ≤ 60) (h : InvT n pt fn df wn lt lw) : j_L_isTable_57 = 1 ∧ ∀ i : Nat, i < 6 → j_L_isTable_272 pt i lt fn df wn lw = 1 := by
  refine ⟨rfl, fun i hi => ?_⟩
  obtain ⟨⟨b1, b2, b3⟩, -⟩ := h.1 i hi
  unfold j_L_isTable_272
  rw [b1, b2, b3, if_pos rfl, if_pos rfl, if_pos rfl, plT_eq hn h hi 6 (Nat.le_refl 6), if_pos rfl]
theorem vw_eq (bk : Nat → Int32) {c : Nat} (hc : c < 144) : ∀ n : Nat, n ≤ 144 → seenN bk (nI c) n = vwN bk c n
  | 0, _ => by rw [seenN, vwN]
  | n + 1, hn => by
    rw [seenN, vwN, vw_eq bk hc n (by omega), nI_clamp (show c < 2 ^ 31 by omega), nI_clamp (show n < 2 ^ 31 by omega)]
    unfold j_L_isView_29
    split
    · rw [Int32.add_zero]
    · rfl
theorem vw_nI (bk : Nat → Int32) (c : Nat) : ∀ n : Nat, ∃ m : Nat, m ≤ n ∧ vwN bk c n = nI m ∧ (m = 0 ↔ ∀ j : Nat, j < n → ¬ SgtC bk c j)
  | 0 => ⟨0, Nat.le_refl 0, by rw [vwN]; rfl, ⟨fun _ j h => absurd h (Nat.not_lt_zero j), fun _ => rfl⟩⟩
  | n + 1 => by
    obtain ⟨m, h1, h2, h3⟩ := vw_nI bk c n
    rw [vwN, h2]
    unfold j_L_isView_29
    by_cases q : SgtC bk c n
    · rw [sI_pos q, if_neg (by decide)]
      exact ⟨m + 1, by omega, nI_1 m, ⟨fun z => by omega, fun z => absurd q (z n (Nat.lt_succ_self n))⟩⟩
    · rw [sI_neg q, if_pos rfl, Int32.add_zero]
      exact ⟨m, by omega, rfl, ⟨fun z => all_s (h3.mp z) q, fun z => h3.mpr (fun j hj => z j (by omega))⟩⟩
theorem view_ok {bk lb : Nat → Int32} {c : Nat} (hI : InvF bk lb) (hc : c < 144) : f_L_isView lb bk c = 1 := by
  unfold f_L_isView j_L_isView_55
  rw [vw_eq bk hc 144 (Nat.le_refl _), if_pos rfl, isB hI hc]
  obtain ⟨m, h1, h2, h3⟩ := vw_nI bk c 144
  rw [h2]
  rcases hI.1 c with q | q
  · have hs : SgtC bk c c := ⟨fun _ => q, fun e => absurd rfl e⟩
    have hm : m ≠ 0 := fun z => h3.mp z c hc hs
    rw [if_neg (nI_ne0 (by omega) (by omega)), q, if_pos rfl]
  · have hm : m = 0 := h3.mpr fun j hj z => by
      have := (sgt_ends hc hj z).1
      rw [q] at this
      exact absurd this (by decide)
    rw [hm, q]
    decide
