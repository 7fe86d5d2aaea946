/-! ===== pure: the ticks ===== -/
theorem st_eq {bk : Nat → Int32} {hm aw tk c0 : Int32} {ce mce hi mhi : Nat → Int32} {sn : Nat} {sa sb sc sd : Nat → Int32} (hc : agr 6 ce mce) (hp : ∀ i j : Nat, i < 6 → j < 6 → 0 ≤ ce i → ce i = ce j → i = j) (hh : agr 6 hi mhi) (hr : ∀ j : Nat, j < sn → vp_in (sb j) 144 ∧ vp_in (sc j) 144) (hs : sn ≤ 100) :
    ∀ n : Nat, n ≤ sn → (pmS bk tk mce c0 mhi sn sa sb sc sd n).1 = c0 + (ntS bk hm aw tk ce hi sn sa sb sc sd n).1 ∧ agr 6 (ntS bk hm aw tk ce hi sn sa sb sc sd n).2 (pmS bk tk mce c0 mhi sn sa sb sc sd n).2
  | 0, _ => by
    rw [pmS, ntS]
    exact ⟨(Int32.add_zero c0).symm, hh⟩
  | n + 1, hn => by
    obtain ⟨i1, i2⟩ := st_eq (bk := bk) (hm := hm) (aw := aw) (tk := tk) (c0 := c0) (sa := sa) (sd := sd) hc hp hh hr hs n (by omega)
    obtain ⟨r1, r2⟩ := hr n (by omega)
    rw [pmS, ntS]
    by_cases x1 : sd n = tk
    · rw [if_pos x1, if_pos x1, stands hc hp (vp_ge r2), see_eq r1 r2]
      unfold f_X2_strikes g_hi_X2_strikes
      rw [nI_clamp (show n < 2 ^ 31 by omega)]
      generalize ntS bk hm aw tk ce hi sn sa sb sc sd n = N at i1 i2 ⊢
      generalize pmS bk tk mce c0 mhi sn sa sb sc sd n = M at i1 i2 ⊢
      by_cases x2 : pOn ce (sc n) = (-1)
      · repeat rw [if_pos x2]
        rw [if_pos rfl]
        exact ⟨i1, i2⟩
      · repeat rw [if_neg x2]
        by_cases x3 : pOn ce (sc n) = sa n
        · repeat rw [if_pos x3]
          rw [if_pos rfl]
          exact ⟨i1, i2⟩
        · repeat rw [if_neg x3]
          by_cases x4 : sI (SgtC bk (sb n).toNatClampNeg (sc n).toNatClampNeg) = 0
          · repeat rw [if_pos x4]
            rw [if_pos rfl]
            exact ⟨i1, i2⟩
          · repeat rw [if_neg x4]
            rw [if_neg (show ¬ (1 : Int32) = 0 by decide)]
            have e := i2 _ (in_cl (pOn_in x2))
            refine ⟨by rw [i1, Int32.add_assoc], ?_⟩
            rw [← e]
            by_cases x5 : N.2 (pOn ce (sc n)).toNatClampNeg = (-1)
            · rw [if_pos x5, if_pos x5]
              exact agr_upd i2 _ rfl
            · rw [if_neg x5, if_neg x5, e, upd_self]
              exact i2
    · rw [if_neg x1, if_neg x1]
      exact ⟨i1, i2⟩
theorem ps_eq {bk : Nat → Int32} {hm aw tk : Int32} {ce mce hi mhi : Nat → Int32} {sn : Nat} {sa sb sc sd : Nat → Int32} (hc : agr 6 ce mce) (hp : ∀ i j : Nat, i < 6 → j < 6 → 0 ≤ ce i → ce i = ce j → i = j) (hh : agr 6 hi mhi) (hr : ∀ j : Nat, j < sn → vp_in (sb j) 144 ∧ vp_in (sc j) 144) (hs : sn ≤ 100) :
    ∀ n : Nat, (pmN bk tk mce mhi sn sa sb sc sd n).1 = (psN bk hm aw tk ce hi sn sa sb sc sd n).1 ∧ (pmN bk tk mce mhi sn sa sb sc sd n).2.1 = (psN bk hm aw tk ce hi sn sa sb sc sd n).2.1 ∧ agr 6 (psN bk hm aw tk ce hi sn sa sb sc sd n).2.2 (pmN bk tk mce mhi sn sa sb sc sd n).2.2
  | 0 => by
    rw [pmN, psN]
    exact ⟨rfl, rfl, hh⟩
  | n + 1 => by
    obtain ⟨i1, i2, i3⟩ := ps_eq (bk := bk) (hm := hm) (aw := aw) (tk := tk) (sa := sa) (sd := sd) hc hp hh hr hs n
    rw [pmN, psN]
    dsimp only
    rw [i2, i1]
    have h := st_eq (bk := bk) (hm := hm) (aw := aw) (tk := (psN bk hm aw tk ce hi sn sa sb sc sd n).2.1 + 1) (c0 := (psN bk hm aw tk ce hi sn sa sb sc sd n).1) (sa := sa) (sd := sd) hc hp i3 hr hs sn (Nat.le_refl sn)
    exact ⟨h.1, rfl, h.2⟩
theorem ps_tk {bk : Nat → Int32} {hm aw : Int32} {ce hi : Nat → Int32} {sn T : Nat} {sa sb sc sd : Nat → Int32} : ∀ n : Nat, (psN bk hm aw (nI T) ce hi sn sa sb sc sd n).2.1 = nI (T + n)
  | 0 => by rw [psN]; rfl
  | n + 1 => by
    rw [psN]
    dsimp only
    rw [ps_tk n, ← Nat.add_assoc, nI_succ]
theorem op_pass {n : Nat} {rf : Nat → Int32} {bk : Nat → Int32} {hm : Int32} {aw : Int32} {tk : Int32} {ce : Nat → Int32} {hi : Nat → Int32} {la : Nat → Int32} {sn : Nat} {sa : Nat → Int32} {sb : Nat → Int32} {sc : Nat → Int32} {sd : Nat → Int32} {kn : Nat} {ka : Nat → Int32} {kb : Nat → Int32} {kc : Nat → Int32} {kd : Nat → Int32} {pt : Nat → Int32} {fn : Nat → Int32} {df : Nat → Int32} {wn : Nat → Nat → Int32} {mrf : Nat → Int32} {mbk : Nat → Int32} {mon : Int32} {mhm : Int32} {maw : Int32} {mtk : Int32} {mce : Nat → Int32} {mhi : Nat → Int32} {mla : Nat → Int32} {msn : Nat} {msa : Nat → Int32} {msb : Nat → Int32} {msc : Nat → Int32} {msd : Nat → Int32} {mkn : Nat} {mka : Nat → Int32} {mkb : Nat → Int32} {mkc : Nat → Int32} {mkd : Nat → Int32} {mpt : Nat → Int32} {mfn : Nat → Int32} {mdf : Nat → Int32} {mwv : Nat → Int32} (mth : Int32) (ou : Nat → Int64) (p1 : Int32) (hn : n < 512) (hI : Inv n rf bk hm aw tk ce hi la sn sa sb sc sd kn ka kb kc kd pt fn df wn mrf mbk mon mhm maw mtk mce mhi mla msn msa msb msc msd mkn mka mkb mkc mkd mpt mfn mdf mwv) : (g_th_X6_pass mbk mon mhm maw mtk mce mhi msn msa msb msc msd mkn mth p1) = (f_L_pass bk hm aw tk ce hi sn sa sb sc sd ou p1) ∧ ((f_L_pass bk hm aw tk ce hi sn sa sb sc sd ou p1) = 0 → lg_cmp ((g_ou_L_pass bk hm aw tk ce hi sn sa sb sc sd ou p1) 0) (f_X6_pass mbk mon mhm maw mtk mce mhi msn msa msb msc msd mkn mth p1).toInt64 = 0) ∧ Inv (n + 1) rf bk hm aw (g_tk_L_pass bk hm aw tk ce hi sn sa sb sc sd ou p1) ce (g_hi_L_pass bk hm aw tk ce hi sn sa sb sc sd ou p1) la sn sa sb sc sd kn ka kb kc kd pt fn df wn mrf mbk mon mhm maw (g_tk_X6_pass mbk mon mhm maw mtk mce mhi msn msa msb msc msd mkn mth p1) mce (g_hi_X6_pass mbk mon mhm maw mtk mce mhi msn msa msb msc msd mkn mth p1) mla msn msa msb msc msd mkn mka mkb mkc mkd mpt mfn mdf mwv := by
  have hs := hI.step
  by_cases z : f_X6_isIn p1 1 50 = 0
  · have hk : k_X5_pass bk hm aw tk ce hi sn sa sb sc sd p1 = 2 := by
      unfold f_X6_isIn at z
      unfold k_X5_pass
      by_cases z1 : p1 < 1
      · rw [if_pos z1]
      · rw [if_neg z1] at z ⊢
        by_cases z2 : 50 < p1
        · rw [if_neg (Int32.not_le.mpr z2)]
        · rw [if_neg z2] at z
          exact absurd z (by decide)
    have hk0 : ¬ k_X5_pass bk hm aw tk ce hi sn sa sb sc sd p1 = 0 := by rw [hk]; decide
    unfold g_th_X6_pass f_L_pass g_tk_L_pass g_hi_L_pass g_tk_X6_pass g_hi_X6_pass
    repeat rw [if_neg hk0]
    rw [if_pos hk]
    repeat rw [if_pos z]
    exact ⟨rfl, fun q => absurd q (by decide), hs⟩
  · obtain ⟨N, hN, eN⟩ := isIn_50 z
    have kk : k_X5_pass bk hm aw tk ce hi sn sa sb sc sd p1 = if k_X5_checkRound hm aw tk = 0 then 0 else k_X5_checkRound hm aw tk := by
      unfold f_X6_isIn at z
      unfold k_X5_pass
      by_cases z1 : p1 < 1
      · rw [if_pos z1] at z; exact absurd rfl z
      · rw [if_neg z1] at z ⊢
        by_cases z2 : 50 < p1
        · rw [if_pos z2] at z; exact absurd rfl z
        · rw [if_pos (Int32.not_lt.mp z2)]
    rcases hI.2.2.2.2.2.2.2.2 with q | q
    · have hk : k_X5_pass bk hm aw tk ce hi sn sa sb sc sd p1 = 3 := by rw [kk, q.2.1, (rd_off hm aw).1, if_neg (by decide)]
      have hk0 : ¬ k_X5_pass bk hm aw tk ce hi sn sa sb sc sd p1 = 0 := by rw [hk]; decide
      have hk2 : ¬ k_X5_pass bk hm aw tk ce hi sn sa sb sc sd p1 = 2 := by rw [hk]; decide
      unfold g_th_X6_pass f_L_pass g_tk_L_pass g_hi_L_pass g_tk_X6_pass g_hi_X6_pass
      repeat rw [if_neg hk0]
      rw [if_neg hk2]
      repeat rw [if_neg z]
      repeat rw [if_pos q.1]
      exact ⟨rfl, fun q => absurd q (by decide), hs⟩
    · obtain ⟨q1, q2, q3, ⟨T, q4, q5⟩, q6, ⟨qc, qh, ql⟩, qr, qp⟩ := q
      have hk : k_X5_pass bk hm aw tk ce hi sn sa sb sc sd p1 = 0 := by rw [kk, (rd_on hm aw (tk_on hn q4 q5)).1, if_pos rfl]
      obtain ⟨s1, s2, s3, s4⟩ := hI.2.2.1
      have hc := hI.cnt
      have hr : ∀ j : Nat, j < msn → vp_in (sb j) 144 ∧ vp_in (sc j) 144 := hI.2.2.2.2.2.2.2.1.1
      have e := ps_eq (bk := bk) (hm := hm) (aw := aw) (tk := tk) (sa := sa) (sb := sb) (sc := sc) (sd := sd) (sn := msn) qc qp qh hr (by omega) p1.toNatClampNeg
      have eT : (psN bk hm aw tk ce hi msn sa sb sc sd p1.toNatClampNeg).2.1 = nI (T + N) := by
        rw [q5, ps_tk, eN, nI_clamp (by omega)]
      unfold g_th_X6_pass f_L_pass g_tk_L_pass g_hi_L_pass g_tk_X6_pass g_hi_X6_pass g_ou_L_pass f_X6_pass
      repeat rw [if_neg z]
      repeat rw [if_neg (on1 q1)]
      repeat rw [if_pos hk]
      rw [← hI.1.1, ← q3, ← s1, ← s2, ← s3, ← s4, q6.1, e.1, e.2.1]
      obtain ⟨h1, h2, h3, h4, h5, h6, h7, h8, h9⟩ := hs
      exact ⟨rfl, fun _ => ou0 _ _, ⟨rfl, h1.2⟩, h2, ⟨rfl, rfl, rfl, rfl⟩, h4, h5, h6, ⟨h7.2.1, h7.2⟩, ⟨hr, h8.2⟩, Or.inr ⟨q1, q2, rfl, ⟨T + N, by omega, eT⟩, ⟨rfl, q6.2⟩, ⟨qc, e.2.2, ql⟩, qr, qp⟩⟩
