theorem op_begin {n : Nat} {rf : Nat → Int32} {bk : Nat → Int32} {hm : Int32} {aw : Int32} {tk : Int32} {ce : Nat → Int32} {hi : Nat → Int32} {la : Nat → Int32} {sn : Nat} {sa : Nat → Int32} {sb : Nat → Int32} {sc : Nat → Int32} {sd : Nat → Int32} {kn : Nat} {ka : Nat → Int32} {kb : Nat → Int32} {kc : Nat → Int32} {kd : Nat → Int32} {pt : Nat → Int32} {fn : Nat → Int32} {df : Nat → Int32} {wn : Nat → Nat → Int32} {mrf : Nat → Int32} {mbk : Nat → Int32} {mon : Int32} {mhm : Int32} {maw : Int32} {mtk : Int32} {mce : Nat → Int32} {mhi : Nat → Int32} {mla : Nat → Int32} {msn : Nat} {msa : Nat → Int32} {msb : Nat → Int32} {msc : Nat → Int32} {msd : Nat → Int32} {mkn : Nat} {mka : Nat → Int32} {mkb : Nat → Int32} {mkc : Nat → Int32} {mkd : Nat → Int32} {mpt : Nat → Int32} {mfn : Nat → Int32} {mdf : Nat → Int32} {mwv : Nat → Int32} (mth : Int32) (ou : Nat → Int64) (p1 : Int32) (p2 : Int32) (hn : n < 512) (hI : Inv n rf bk hm aw tk ce hi la sn sa sb sc sd kn ka kb kc kd pt fn df wn mrf mbk mon mhm maw mtk mce mhi mla msn msa msb msc msd mkn mka mkb mkc mkd mpt mfn mdf mwv) : (g_th_X6_begin mon mhm maw mtk mce mhi mla msn mkn mth p1 p2) = (f_L_begin hm aw tk ce hi la sn kn p1 p2) ∧ Inv (n + 1) rf bk (g_hm_L_begin hm aw tk ce hi la sn kn p1 p2) (g_aw_L_begin hm aw tk ce hi la sn kn p1 p2) (g_tk_L_begin hm aw tk ce hi la sn kn p1 p2) (g_ce_L_begin hm aw tk ce hi la sn kn p1 p2) (g_hi_L_begin hm aw tk ce hi la sn kn p1 p2) (g_la_L_begin hm aw tk ce hi la sn kn p1 p2) (g_sn_L_begin hm aw tk ce hi la sn kn p1 p2) sa sb sc sd (g_kn_L_begin hm aw tk ce hi la sn kn p1 p2) ka kb kc kd pt fn df wn mrf mbk (g_on_X6_begin mon mhm maw mtk mce mhi mla msn mkn mth p1 p2) (g_hm_X6_begin mon mhm maw mtk mce mhi mla msn mkn mth p1 p2) (g_aw_X6_begin mon mhm maw mtk mce mhi mla msn mkn mth p1 p2) (g_tk_X6_begin mon mhm maw mtk mce mhi mla msn mkn mth p1 p2) (g_ce_X6_begin mon mhm maw mtk mce mhi mla msn mkn mth p1 p2) (g_hi_X6_begin mon mhm maw mtk mce mhi mla msn mkn mth p1 p2) (g_la_X6_begin mon mhm maw mtk mce mhi mla msn mkn mth p1 p2) (g_sn_X6_begin mon mhm maw mtk mce mhi mla msn mkn mth p1 p2) msa msb msc msd (g_kn_X6_begin mon mhm maw mtk mce mhi mla msn mkn mth p1 p2) mka mkb mkc mkd mpt mfn mdf mwv := by
  have hs := hI.step
  rcases team_or p1 with ⟨a1, a2, a3⟩ | ⟨a1, a2⟩
  · rcases team_or p2 with ⟨b1, b2, b3⟩ | ⟨b1, b2⟩
    · by_cases c : p1 = p2
      · have hk : k_X5_begin hm aw tk ce hi la sn kn p1 p2 = 2 := by
          unfold k_X5_begin
          rw [if_pos a1, if_pos b1, if_pos c]
        have hk0 : ¬ k_X5_begin hm aw tk ce hi la sn kn p1 p2 = 0 := by rw [hk]; decide
        unfold g_on_X6_begin g_hm_X6_begin g_aw_X6_begin g_tk_X6_begin g_ce_X6_begin g_hi_X6_begin g_la_X6_begin g_sn_X6_begin g_kn_X6_begin g_th_X6_begin f_L_begin g_hm_L_begin g_aw_L_begin g_tk_L_begin g_ce_L_begin g_hi_L_begin g_la_L_begin g_sn_L_begin g_kn_L_begin
        repeat rw [if_neg hk0]
        rw [if_neg (show ¬ k_X5_begin hm aw tk ce hi la sn kn p1 p2 = 1 by rw [hk]; decide), if_pos hk]
        repeat rw [if_neg a2]
        repeat rw [if_neg b2]
        repeat rw [if_pos c]
        exact ⟨rfl, hs⟩
      · rcases hI.2.2.2.2.2.2.2.2 with q | q
        · have hk : k_X5_begin hm aw tk ce hi la sn kn p1 p2 = 0 := by
            unfold k_X5_begin
            rw [if_pos a1, if_pos b1, if_neg c, q.2.1, if_pos (rd_off hm aw).2]
          unfold g_on_X6_begin g_hm_X6_begin g_aw_X6_begin g_tk_X6_begin g_ce_X6_begin g_hi_X6_begin g_la_X6_begin g_sn_X6_begin g_kn_X6_begin g_th_X6_begin f_L_begin g_hm_L_begin g_aw_L_begin g_tk_L_begin g_ce_L_begin g_hi_L_begin g_la_L_begin g_sn_L_begin g_kn_L_begin
          repeat rw [if_pos hk]
          repeat rw [if_neg a2]
          repeat rw [if_neg b2]
          repeat rw [if_neg c]
          repeat rw [if_pos q.1]
          obtain ⟨h1, h2, h3, h4, h5, h6, h7, h8, h9⟩ := hs
          exact ⟨rfl, h1, h2, h3, h4, h5, ⟨a3, b3, a3, b3⟩, ⟨Nat.zero_le _, Nat.zero_le _, Nat.zero_le _, Nat.zero_le _⟩, ⟨fun j h => absurd h (Nat.not_lt_zero j), fun j h => absurd h (Nat.not_lt_zero j)⟩,
            Or.inr ⟨rfl, ⟨rfl, rfl, c⟩, rfl, ⟨0, Nat.zero_le _, rfl⟩, ⟨rfl, rfl⟩,
              ⟨fun j hj => (fillN_at _ _ 6 j hj).trans (fillN_at _ _ 6 j hj).symm, fun j hj => (fillN_at _ _ 6 j hj).trans (fillN_at _ _ 6 j hj).symm, fun j hj => (fillN_at _ _ 6 j hj).trans (fillN_at _ _ 6 j hj).symm⟩,
              fun j hj => Or.inr (Or.inl (fillN_at _ _ 6 j hj)), fun i j hi hj h0 _ => absurd (show (0 : Int32) ≤ (-1) by rw [fillN_at _ _ 6 i hi] at h0; exact h0) (by decide)⟩⟩
        · obtain ⟨T, hT, hT2⟩ := q.2.2.2.1
          have hk : k_X5_begin hm aw tk ce hi la sn kn p1 p2 = 3 := by
            unfold k_X5_begin
            rw [if_pos a1, if_pos b1, if_neg c, if_neg (rd_on hm aw (tk_on hn hT hT2)).2]
          have hk0 : ¬ k_X5_begin hm aw tk ce hi la sn kn p1 p2 = 0 := by rw [hk]; decide
          unfold g_on_X6_begin g_hm_X6_begin g_aw_X6_begin g_tk_X6_begin g_ce_X6_begin g_hi_X6_begin g_la_X6_begin g_sn_X6_begin g_kn_X6_begin g_th_X6_begin f_L_begin g_hm_L_begin g_aw_L_begin g_tk_L_begin g_ce_L_begin g_hi_L_begin g_la_L_begin g_sn_L_begin g_kn_L_begin
          repeat rw [if_neg hk0]
          rw [if_neg (show ¬ k_X5_begin hm aw tk ce hi la sn kn p1 p2 = 1 by rw [hk]; decide), if_neg (show ¬ k_X5_begin hm aw tk ce hi la sn kn p1 p2 = 2 by rw [hk]; decide)]
          repeat rw [if_neg a2]
          repeat rw [if_neg b2]
          repeat rw [if_neg c]
          repeat rw [if_neg (on1 q.1)]
          exact ⟨rfl, hs⟩
    · have hk : k_X5_begin hm aw tk ce hi la sn kn p1 p2 = 1 := by
        unfold k_X5_begin
        rw [if_pos a1, b1, if_neg (by decide)]
      have hk0 : ¬ k_X5_begin hm aw tk ce hi la sn kn p1 p2 = 0 := by rw [hk]; decide
      unfold g_on_X6_begin g_hm_X6_begin g_aw_X6_begin g_tk_X6_begin g_ce_X6_begin g_hi_X6_begin g_la_X6_begin g_sn_X6_begin g_kn_X6_begin g_th_X6_begin f_L_begin g_hm_L_begin g_aw_L_begin g_tk_L_begin g_ce_L_begin g_hi_L_begin g_la_L_begin g_sn_L_begin g_kn_L_begin
      repeat rw [if_neg hk0]
      rw [if_pos hk]
      repeat rw [if_neg a2]
      repeat rw [if_pos b2]
      exact ⟨rfl, hs⟩
  · have hk : k_X5_begin hm aw tk ce hi la sn kn p1 p2 = 1 := by
      unfold k_X5_begin
      rw [a1, if_neg (by decide)]
    have hk0 : ¬ k_X5_begin hm aw tk ce hi la sn kn p1 p2 = 0 := by rw [hk]; decide
    unfold g_on_X6_begin g_hm_X6_begin g_aw_X6_begin g_tk_X6_begin g_ce_X6_begin g_hi_X6_begin g_la_X6_begin g_sn_X6_begin g_kn_X6_begin g_th_X6_begin f_L_begin g_hm_L_begin g_aw_L_begin g_tk_L_begin g_ce_L_begin g_hi_L_begin g_la_L_begin g_sn_L_begin g_kn_L_begin
    repeat rw [if_neg hk0]
    rw [if_pos hk]
    repeat rw [if_pos a2]
    exact ⟨rfl, hs⟩
theorem op_move {n : Nat} {rf : Nat → Int32} {bk : Nat → Int32} {hm : Int32} {aw : Int32} {tk : Int32} {ce : Nat → Int32} {hi : Nat → Int32} {la : Nat → Int32} {sn : Nat} {sa : Nat → Int32} {sb : Nat → Int32} {sc : Nat → Int32} {sd : Nat → Int32} {kn : Nat} {ka : Nat → Int32} {kb : Nat → Int32} {kc : Nat → Int32} {kd : Nat → Int32} {pt : Nat → Int32} {fn : Nat → Int32} {df : Nat → Int32} {wn : Nat → Nat → Int32} {mrf : Nat → Int32} {mbk : Nat → Int32} {mon : Int32} {mhm : Int32} {maw : Int32} {mtk : Int32} {mce : Nat → Int32} {mhi : Nat → Int32} {mla : Nat → Int32} {msn : Nat} {msa : Nat → Int32} {msb : Nat → Int32} {msc : Nat → Int32} {msd : Nat → Int32} {mkn : Nat} {mka : Nat → Int32} {mkb : Nat → Int32} {mkc : Nat → Int32} {mkd : Nat → Int32} {mpt : Nat → Int32} {mfn : Nat → Int32} {mdf : Nat → Int32} {mwv : Nat → Int32} (mth : Int32) (ou : Nat → Int64) (p1 : Int32) (p2 : Int32) (hn : n < 512) (hI : Inv n rf bk hm aw tk ce hi la sn sa sb sc sd kn ka kb kc kd pt fn df wn mrf mbk mon mhm maw mtk mce mhi mla msn msa msb msc msd mkn mka mkb mkc mkd mpt mfn mdf mwv) : (g_th_X6_move mbk mon mhm maw mtk mce msn mkn mth p1 p2) = (f_L_move bk hm aw tk ce ou p1 p2) ∧ ((f_L_move bk hm aw tk ce ou p1 p2) = 0 → lg_cmp ((g_ou_L_move bk hm aw tk ce ou p1 p2) 0) (f_X6_move mbk mon mhm maw mtk mce msn mkn mth p1 p2).toInt64 = 0) ∧ Inv (n + 1) rf bk hm aw tk (g_ce_L_move bk hm aw tk ce ou p1 p2) hi la sn sa sb sc sd kn ka kb kc kd pt fn df wn mrf mbk mon mhm maw mtk (g_ce_X6_move mbk mon mhm maw mtk mce msn mkn mth p1 p2) mhi mla msn msa msb msc msd mkn mka mkb mkc mkd mpt mfn mdf mwv := by
  have hs := hI.step
  rcases player_or p1 with ⟨a1, a2, a3⟩ | ⟨a1, a2⟩
  · rcases cell_or p2 with ⟨b1, b2, b3⟩ | ⟨b1, b2⟩
    · have off : k_X5_move bk hm aw tk ce p1 p2 = 3 → g_th_X6_move mbk mon mhm maw mtk mce msn mkn mth p1 p2 = 2 → g_ce_X6_move mbk mon mhm maw mtk mce msn mkn mth p1 p2 = mce → g_th_X6_move mbk mon mhm maw mtk mce msn mkn mth p1 p2 = f_L_move bk hm aw tk ce ou p1 p2 ∧ (f_L_move bk hm aw tk ce ou p1 p2 = 0 → lg_cmp ((g_ou_L_move bk hm aw tk ce ou p1 p2) 0) (f_X6_move mbk mon mhm maw mtk mce msn mkn mth p1 p2).toInt64 = 0) ∧ g_ce_L_move bk hm aw tk ce ou p1 p2 = ce ∧ g_ce_X6_move mbk mon mhm maw mtk mce msn mkn mth p1 p2 = mce := by
        intro e1 e2 e3
        have e0 : f_L_move bk hm aw tk ce ou p1 p2 = 2 := by
          unfold f_L_move
          rw [e1, if_neg (by decide), if_neg (by decide)]
        have e4 : g_ce_L_move bk hm aw tk ce ou p1 p2 = ce := by
          unfold g_ce_L_move
          rw [e1, if_neg (by decide)]
        exact ⟨by rw [e0, e2], fun z => absurd z (by rw [e0]; decide), e4, e3⟩
      rcases hI.2.2.2.2.2.2.2.2 with q | q
      · obtain ⟨o1, o2, o3, o4⟩ := off (by unfold k_X5_move; rw [if_pos a1, if_pos b1, q.2.1, (rd_off hm aw).1, if_neg (by decide)]) (by unfold g_th_X6_move; rw [if_neg a2, if_neg b2, if_pos q.1]) (by unfold g_ce_X6_move; rw [if_neg a2, if_neg b2, if_pos q.1])
        rw [o3, o4]
        exact ⟨o1, o2, hs⟩
      · obtain ⟨q1, q2, q3, ⟨T, q4, q5⟩, q6, ⟨qc, qh, ql⟩, qr, qp⟩ := q
        have ec := qc _ (in_cl a3)
        have m : (k_X5_move bk hm aw tk ce p1 p2 = 0 ∧ g_th_X6_move mbk mon mhm maw mtk mce msn mkn mth p1 p2 = 0 ∧ g_ce_X6_move mbk mon mhm maw mtk mce msn mkn mth p1 p2 = upd mce p1.toNatClampNeg p2 ∧ f_X6_move mbk mon mhm maw mtk mce msn mkn mth p1 p2 = ce p1.toNatClampNeg ∧ pOn ce p2 = (-1)) ∨ (k_X5_move bk hm aw tk ce p1 p2 = 3 ∧ g_th_X6_move mbk mon mhm maw mtk mce msn mkn mth p1 p2 = 2 ∧ g_ce_X6_move mbk mon mhm maw mtk mce msn mkn mth p1 p2 = mce) := by
          unfold k_X5_move g_th_X6_move g_ce_X6_move f_X6_move
          rw [if_pos a1, if_pos b1, (rd_on hm aw (tk_on hn q4 q5)).1, if_pos (show (0 : Int32) = 0 from rfl), ← ec, ← hI.1.1, stands qc qp (vp_ge b3), dist_eq]
          repeat rw [if_neg a2]
          repeat rw [if_neg b2]
          repeat rw [if_neg (on1 q1)]
          rcases qr _ (in_cl a3) with e | e | e
          · repeat rw [if_pos e]
            exact Or.inr ⟨rfl, rfl, rfl⟩
          · have x1 : ¬ ce p1.toNatClampNeg = (-2) := by rw [e]; decide
            have x2 : ce p1.toNatClampNeg < 0 := by rw [e]; decide
            repeat rw [if_neg x1]
            repeat rw [if_pos x2]
            repeat rw [if_pos e]
            by_cases y1 : bk p2.toNatClampNeg = 0
            · repeat rw [if_pos y1]
              by_cases y2 : pOn ce p2 = (-1)
              · repeat rw [if_pos y2]
                exact Or.inl ⟨rfl, rfl, rfl, rfl, y2⟩
              · repeat rw [if_neg y2]
                exact Or.inr ⟨rfl, rfl, rfl⟩
            · repeat rw [if_neg y1]
              exact Or.inr ⟨rfl, rfl, rfl⟩
          · have x1 := vp_n2 e
            have x2 := vp_n1 e
            have x3 : ¬ ce p1.toNatClampNeg < 0 := fun z => e (Or.inl z)
            by_cases x4 : f_X6_apart (ce p1.toNatClampNeg) p2 = 1
            · repeat rw [if_neg x1]
              repeat rw [if_neg x3]
              repeat rw [if_neg x2]
              repeat rw [if_pos x4]
              by_cases y1 : bk p2.toNatClampNeg = 0
              · repeat rw [if_pos y1]
                by_cases y2 : pOn ce p2 = (-1)
                · repeat rw [if_pos y2]
                  exact Or.inl ⟨rfl, rfl, rfl, rfl, y2⟩
                · repeat rw [if_neg y2]
                  exact Or.inr ⟨rfl, rfl, rfl⟩
              · repeat rw [if_neg y1]
                exact Or.inr ⟨rfl, rfl, rfl⟩
            · repeat rw [if_neg x1]
              repeat rw [if_neg x3]
              repeat rw [if_neg x2]
              repeat rw [if_neg x4]
              exact Or.inr ⟨rfl, rfl, rfl⟩
        rcases m with ⟨m1, m2, m3, m4, m5⟩ | ⟨m1, m2, m3⟩
        · have e0 : f_L_move bk hm aw tk ce ou p1 p2 = 0 := by unfold f_L_move; rw [if_pos m1]
          have e1 : g_ce_L_move bk hm aw tk ce ou p1 p2 = upd ce p1.toNatClampNeg p2 := by unfold g_ce_L_move; rw [if_pos m1]
          refine ⟨by rw [e0, m2], fun _ => ?_, ?_⟩
          · rw [m4]
            unfold g_ou_L_move
            rw [if_pos m1]
            exact ou0 _ _
          · rw [e1, m3]
            obtain ⟨h1, h2, h3, h4, h5, h6, h7, h8, h9⟩ := hs
            exact ⟨h1, h2, h3, h4, h5, h6, h7, h8, Or.inr ⟨q1, q2, q3, ⟨T, by omega, q5⟩, q6, ⟨agr_upd qc _ rfl, qh, ql⟩, rng_upd qr _ (Or.inr (Or.inr b3)), pos_upd qp _ (Or.inr (free_of m5))⟩⟩
        · obtain ⟨o1, o2, o3, o4⟩ := off m1 m2 m3
          rw [o3, o4]
          exact ⟨o1, o2, hs⟩
    · have hk : k_X5_move bk hm aw tk ce p1 p2 = 1 := by
        unfold k_X5_move
        rw [if_pos a1, b1, if_neg (by decide)]
      have hk0 : ¬ k_X5_move bk hm aw tk ce p1 p2 = 0 := by rw [hk]; decide
      unfold g_th_X6_move f_L_move g_ce_L_move g_ce_X6_move
      repeat rw [if_neg hk0]
      rw [if_pos hk]
      repeat rw [if_neg a2]
      repeat rw [if_pos b2]
      exact ⟨rfl, fun q => absurd q (by decide), hs⟩
  · have hk : k_X5_move bk hm aw tk ce p1 p2 = 1 := by
      unfold k_X5_move
      rw [a1, if_neg (by decide)]
    have hk0 : ¬ k_X5_move bk hm aw tk ce p1 p2 = 0 := by rw [hk]; decide
    unfold g_th_X6_move f_L_move g_ce_L_move g_ce_X6_move
    repeat rw [if_neg hk0]
    rw [if_pos hk]
    repeat rw [if_pos a2]
    exact ⟨rfl, fun q => absurd q (by decide), hs⟩
theorem op_shoot {n : Nat} {rf : Nat → Int32} {bk : Nat → Int32} {hm : Int32} {aw : Int32} {tk : Int32} {ce : Nat → Int32} {hi : Nat → Int32} {la : Nat → Int32} {sn : Nat} {sa : Nat → Int32} {sb : Nat → Int32} {sc : Nat → Int32} {sd : Nat → Int32} {kn : Nat} {ka : Nat → Int32} {kb : Nat → Int32} {kc : Nat → Int32} {kd : Nat → Int32} {pt : Nat → Int32} {fn : Nat → Int32} {df : Nat → Int32} {wn : Nat → Nat → Int32} {mrf : Nat → Int32} {mbk : Nat → Int32} {mon : Int32} {mhm : Int32} {maw : Int32} {mtk : Int32} {mce : Nat → Int32} {mhi : Nat → Int32} {mla : Nat → Int32} {msn : Nat} {msa : Nat → Int32} {msb : Nat → Int32} {msc : Nat → Int32} {msd : Nat → Int32} {mkn : Nat} {mka : Nat → Int32} {mkb : Nat → Int32} {mkc : Nat → Int32} {mkd : Nat → Int32} {mpt : Nat → Int32} {mfn : Nat → Int32} {mdf : Nat → Int32} {mwv : Nat → Int32} (mth : Int32) (ou : Nat → Int64) (p1 : Int32) (p2 : Int32) (hn : n < 512) (hI : Inv n rf bk hm aw tk ce hi la sn sa sb sc sd kn ka kb kc kd pt fn df wn mrf mbk mon mhm maw mtk mce mhi mla msn msa msb msc msd mkn mka mkb mkc mkd mpt mfn mdf mwv) : (g_th_X6_shoot mon mhm maw mtk mce mla msn msa msb msc msd mkn mth p1 p2) = (f_L_shoot hm aw tk ce la sn sa sb sc sd ou p1 p2) ∧ ((f_L_shoot hm aw tk ce la sn sa sb sc sd ou p1 p2) = 0 → lg_cmp ((g_ou_L_shoot hm aw tk ce la sn sa sb sc sd ou p1 p2) 0) (f_X6_shoot mon mhm maw mtk mce mla msn msa msb msc msd mkn mth p1 p2).toInt64 = 0) ∧ Inv (n + 1) rf bk hm aw tk ce hi (g_la_L_shoot hm aw tk ce la sn sa sb sc sd ou p1 p2) (g_sn_L_shoot hm aw tk ce la sn sa sb sc sd ou p1 p2) (g_sa_L_shoot hm aw tk ce la sn sa sb sc sd ou p1 p2) (g_sb_L_shoot hm aw tk ce la sn sa sb sc sd ou p1 p2) (g_sc_L_shoot hm aw tk ce la sn sa sb sc sd ou p1 p2) (g_sd_L_shoot hm aw tk ce la sn sa sb sc sd ou p1 p2) kn ka kb kc kd pt fn df wn mrf mbk mon mhm maw mtk mce mhi (g_la_X6_shoot mon mhm maw mtk mce mla msn msa msb msc msd mkn mth p1 p2) (g_sn_X6_shoot mon mhm maw mtk mce mla msn msa msb msc msd mkn mth p1 p2) (g_sa_X6_shoot mon mhm maw mtk mce mla msn msa msb msc msd mkn mth p1 p2) (g_sb_X6_shoot mon mhm maw mtk mce mla msn msa msb msc msd mkn mth p1 p2) (g_sc_X6_shoot mon mhm maw mtk mce mla msn msa msb msc msd mkn mth p1 p2) (g_sd_X6_shoot mon mhm maw mtk mce mla msn msa msb msc msd mkn mth p1 p2) mkn mka mkb mkc mkd mpt mfn mdf mwv := by
  have hs := hI.step
  rcases player_or p1 with ⟨a1, a2, a3⟩ | ⟨a1, a2⟩
  · rcases cell_or p2 with ⟨b1, b2, b3⟩ | ⟨b1, b2⟩
    · have no : k_X5_shoot hm aw tk ce la sn sa sb sc sd p1 p2 = 3 → (g_th_X6_shoot mon mhm maw mtk mce mla msn msa msb msc msd mkn mth p1 p2 = 2 ∧ g_la_X6_shoot mon mhm maw mtk mce mla msn msa msb msc msd mkn mth p1 p2 = mla ∧ g_sn_X6_shoot mon mhm maw mtk mce mla msn msa msb msc msd mkn mth p1 p2 = msn ∧ g_sa_X6_shoot mon mhm maw mtk mce mla msn msa msb msc msd mkn mth p1 p2 = msa ∧ g_sb_X6_shoot mon mhm maw mtk mce mla msn msa msb msc msd mkn mth p1 p2 = msb ∧ g_sc_X6_shoot mon mhm maw mtk mce mla msn msa msb msc msd mkn mth p1 p2 = msc ∧ g_sd_X6_shoot mon mhm maw mtk mce mla msn msa msb msc msd mkn mth p1 p2 = msd) → g_th_X6_shoot mon mhm maw mtk mce mla msn msa msb msc msd mkn mth p1 p2 = f_L_shoot hm aw tk ce la sn sa sb sc sd ou p1 p2 ∧ (f_L_shoot hm aw tk ce la sn sa sb sc sd ou p1 p2 = 0 → lg_cmp ((g_ou_L_shoot hm aw tk ce la sn sa sb sc sd ou p1 p2) 0) (f_X6_shoot mon mhm maw mtk mce mla msn msa msb msc msd mkn mth p1 p2).toInt64 = 0) ∧ (g_la_L_shoot hm aw tk ce la sn sa sb sc sd ou p1 p2 = la ∧ g_sn_L_shoot hm aw tk ce la sn sa sb sc sd ou p1 p2 = sn ∧ g_sa_L_shoot hm aw tk ce la sn sa sb sc sd ou p1 p2 = sa ∧ g_sb_L_shoot hm aw tk ce la sn sa sb sc sd ou p1 p2 = sb ∧ g_sc_L_shoot hm aw tk ce la sn sa sb sc sd ou p1 p2 = sc ∧ g_sd_L_shoot hm aw tk ce la sn sa sb sc sd ou p1 p2 = sd) ∧ (g_la_X6_shoot mon mhm maw mtk mce mla msn msa msb msc msd mkn mth p1 p2 = mla ∧ g_sn_X6_shoot mon mhm maw mtk mce mla msn msa msb msc msd mkn mth p1 p2 = msn ∧ g_sa_X6_shoot mon mhm maw mtk mce mla msn msa msb msc msd mkn mth p1 p2 = msa ∧ g_sb_X6_shoot mon mhm maw mtk mce mla msn msa msb msc msd mkn mth p1 p2 = msb ∧ g_sc_X6_shoot mon mhm maw mtk mce mla msn msa msb msc msd mkn mth p1 p2 = msc ∧ g_sd_X6_shoot mon mhm maw mtk mce mla msn msa msb msc msd mkn mth p1 p2 = msd) := by
        intro e1 ⟨e2, e3⟩
        have e0 : f_L_shoot hm aw tk ce la sn sa sb sc sd ou p1 p2 = 2 := by
          unfold f_L_shoot
          rw [e1, if_neg (by decide), if_neg (by decide)]
        refine ⟨by rw [e0, e2], fun z => absurd z (by rw [e0]; decide), ?_, e3⟩
        unfold g_la_L_shoot g_sn_L_shoot g_sa_L_shoot g_sb_L_shoot g_sc_L_shoot g_sd_L_shoot
        rw [e1]
        repeat rw [if_neg (show ¬ (3 : Int32) = 0 by decide)]
        exact ⟨rfl, rfl, rfl, rfl, rfl, rfl⟩
      have put : k_X5_shoot hm aw tk ce la sn sa sb sc sd p1 p2 = 3 → (g_th_X6_shoot mon mhm maw mtk mce mla msn msa msb msc msd mkn mth p1 p2 = 2 ∧ g_la_X6_shoot mon mhm maw mtk mce mla msn msa msb msc msd mkn mth p1 p2 = mla ∧ g_sn_X6_shoot mon mhm maw mtk mce mla msn msa msb msc msd mkn mth p1 p2 = msn ∧ g_sa_X6_shoot mon mhm maw mtk mce mla msn msa msb msc msd mkn mth p1 p2 = msa ∧ g_sb_X6_shoot mon mhm maw mtk mce mla msn msa msb msc msd mkn mth p1 p2 = msb ∧ g_sc_X6_shoot mon mhm maw mtk mce mla msn msa msb msc msd mkn mth p1 p2 = msc ∧ g_sd_X6_shoot mon mhm maw mtk mce mla msn msa msb msc msd mkn mth p1 p2 = msd) → ((g_th_X6_shoot mon mhm maw mtk mce mla msn msa msb msc msd mkn mth p1 p2) = (f_L_shoot hm aw tk ce la sn sa sb sc sd ou p1 p2) ∧ ((f_L_shoot hm aw tk ce la sn sa sb sc sd ou p1 p2) = 0 → lg_cmp ((g_ou_L_shoot hm aw tk ce la sn sa sb sc sd ou p1 p2) 0) (f_X6_shoot mon mhm maw mtk mce mla msn msa msb msc msd mkn mth p1 p2).toInt64 = 0) ∧ Inv (n + 1) rf bk hm aw tk ce hi (g_la_L_shoot hm aw tk ce la sn sa sb sc sd ou p1 p2) (g_sn_L_shoot hm aw tk ce la sn sa sb sc sd ou p1 p2) (g_sa_L_shoot hm aw tk ce la sn sa sb sc sd ou p1 p2) (g_sb_L_shoot hm aw tk ce la sn sa sb sc sd ou p1 p2) (g_sc_L_shoot hm aw tk ce la sn sa sb sc sd ou p1 p2) (g_sd_L_shoot hm aw tk ce la sn sa sb sc sd ou p1 p2) kn ka kb kc kd pt fn df wn mrf mbk mon mhm maw mtk mce mhi (g_la_X6_shoot mon mhm maw mtk mce mla msn msa msb msc msd mkn mth p1 p2) (g_sn_X6_shoot mon mhm maw mtk mce mla msn msa msb msc msd mkn mth p1 p2) (g_sa_X6_shoot mon mhm maw mtk mce mla msn msa msb msc msd mkn mth p1 p2) (g_sb_X6_shoot mon mhm maw mtk mce mla msn msa msb msc msd mkn mth p1 p2) (g_sc_X6_shoot mon mhm maw mtk mce mla msn msa msb msc msd mkn mth p1 p2) (g_sd_X6_shoot mon mhm maw mtk mce mla msn msa msb msc msd mkn mth p1 p2) mkn mka mkb mkc mkd mpt mfn mdf mwv) := fun e1 e2 => by
        obtain ⟨o1, o2, ⟨c1, c2, c3, c4, c5, c6⟩, ⟨d1, d2, d3, d4, d5, d6⟩⟩ := no e1 e2
        rw [c1, c2, c3, c4, c5, c6, d1, d2, d3, d4, d5, d6]
        exact ⟨o1, o2, hs⟩
      rcases hI.2.2.2.2.2.2.2.2 with q | q
      · refine put (by unfold k_X5_shoot; rw [if_pos a1, if_pos b1, q.2.1, (rd_off hm aw).1, if_neg (by decide)]) ?_
        unfold g_th_X6_shoot g_la_X6_shoot g_sn_X6_shoot g_sa_X6_shoot g_sb_X6_shoot g_sc_X6_shoot g_sd_X6_shoot
        repeat rw [if_neg a2]
        repeat rw [if_neg b2]
        repeat rw [if_pos q.1]
        exact ⟨rfl, rfl, rfl, rfl, rfl, rfl, rfl⟩
      · obtain ⟨q1, q2, q3, ⟨T, q4, q5⟩, q6, ⟨qc, qh, ql⟩, qr, qp⟩ := q
        have ec := qc _ (in_cl a3)
        have el := ql _ (in_cl a3)
        have kk : k_X5_shoot hm aw tk ce la sn sa sb sc sd p1 p2 = if 0 ≤ ce p1.toNatClampNeg then (if ce p1.toNatClampNeg = p2 then 3 else if f_X2_mayFire hm aw tk la sn p1 = 0 then 3 else 0) else 3 := by
          unfold k_X5_shoot
          rw [if_pos a1, if_pos b1, (rd_on hm aw (tk_on hn q4 q5)).1, if_pos (show (0 : Int32) = 0 from rfl)]
        by_cases x1 : 0 ≤ ce p1.toNatClampNeg
        · rw [if_pos x1] at kk
          have x1' : ¬ mce p1.toNatClampNeg < 0 := by rw [← ec]; exact Int32.not_lt.mpr x1
          have cr : vp_in (ce p1.toNatClampNeg) 144 := hI.cei _ (in_cl a3) x1
          by_cases x2 : la p1.toNatClampNeg = tk
          · have x2' : mla p1.toNatClampNeg = mtk := by rw [← el, ← q3]; exact x2
            refine put ?_ ?_
            · rw [kk]
              split
              · rfl
              · rw [show f_X2_mayFire hm aw tk la sn p1 = 0 by unfold f_X2_mayFire; rw [if_pos x2], if_pos rfl]
            · unfold g_th_X6_shoot g_la_X6_shoot g_sn_X6_shoot g_sa_X6_shoot g_sb_X6_shoot g_sc_X6_shoot g_sd_X6_shoot
              repeat rw [if_neg a2]
              repeat rw [if_neg b2]
              repeat rw [if_neg (on1 q1)]
              repeat rw [if_neg x1']
              repeat rw [if_pos x2']
              exact ⟨rfl, rfl, rfl, rfl, rfl, rfl, rfl⟩
          · have x2' : ¬ mla p1.toNatClampNeg = mtk := by rw [← el, ← q3]; exact x2
            by_cases x3 : ce p1.toNatClampNeg = p2
            · have x3' : mce p1.toNatClampNeg = p2 := by rw [← ec]; exact x3
              refine put (by rw [kk, if_pos x3]) ?_
              unfold g_th_X6_shoot g_la_X6_shoot g_sn_X6_shoot g_sa_X6_shoot g_sb_X6_shoot g_sc_X6_shoot g_sd_X6_shoot
              repeat rw [if_neg a2]
              repeat rw [if_neg b2]
              repeat rw [if_neg (on1 q1)]
              repeat rw [if_neg x1']
              repeat rw [if_neg x2']
              repeat rw [if_pos x3']
              exact ⟨rfl, rfl, rfl, rfl, rfl, rfl, rfl⟩
            · have x3' : ¬ mce p1.toNatClampNeg = p2 := by rw [← ec]; exact x3
              rw [if_neg x3] at kk
              by_cases x4 : 100 ≤ nI sn
              · have x4' : 100 ≤ nI msn := by rw [← q6.1]; exact x4
                refine put (by rw [kk, show f_X2_mayFire hm aw tk la sn p1 = 0 by unfold f_X2_mayFire; rw [if_neg x2, if_pos x4], if_pos rfl]) ?_
                unfold g_th_X6_shoot g_la_X6_shoot g_sn_X6_shoot g_sa_X6_shoot g_sb_X6_shoot g_sc_X6_shoot g_sd_X6_shoot
                repeat rw [if_neg a2]
                repeat rw [if_neg b2]
                repeat rw [if_neg (on1 q1)]
                repeat rw [if_neg x1']
                repeat rw [if_neg x2']
                repeat rw [if_neg x3']
                repeat rw [if_pos x4']
                exact ⟨rfl, rfl, rfl, rfl, rfl, rfl, rfl⟩
              · have x4' : ¬ 100 ≤ nI msn := by rw [← q6.1]; exact x4
                have hk : k_X5_shoot hm aw tk ce la sn sa sb sc sd p1 p2 = 0 := by rw [kk, show f_X2_mayFire hm aw tk la sn p1 = 1 by unfold f_X2_mayFire; rw [if_neg x2, if_neg x4], if_neg (by decide)]
                have hsn : sn < 100 := by
                  have := hI.cnt.1
                  exact Nat.not_le.mp (fun z => x4 (nI_le (a := 100) z (by omega)))
                unfold g_th_X6_shoot g_la_X6_shoot g_sn_X6_shoot g_sa_X6_shoot g_sb_X6_shoot g_sc_X6_shoot g_sd_X6_shoot f_L_shoot g_la_L_shoot g_sn_L_shoot g_sa_L_shoot g_sb_L_shoot g_sc_L_shoot g_sd_L_shoot g_ou_L_shoot f_X6_shoot
                repeat rw [if_neg a2]
                repeat rw [if_neg b2]
                repeat rw [if_neg (on1 q1)]
                repeat rw [if_neg x1']
                repeat rw [if_neg x2']
                repeat rw [if_neg x3']
                repeat rw [if_neg x4']
                repeat rw [if_pos hk]
                unfold g_sd_X2_fire
                rw [dist_eq, ← ec, upd_at, ← q3]
                obtain ⟨h1, h2, ⟨s1, s2, s3, s4⟩, h4, h5, h6, ⟨n1, n2, n3, n4⟩, ⟨h8, h8'⟩, h9⟩ := hs
                have e6 := q6.1
                refine ⟨rfl, fun _ => ou0 _ _, h1, h2, ⟨by rw [s1, e6], by rw [s2, e6], by rw [s3, e6], by rw [s4, e6]⟩, h4, h5, h6, ⟨by omega, by omega, n3, n4⟩, ⟨fun j hj => ?_, h8'⟩, Or.inr ⟨q1, q2, rfl, ⟨T, by omega, q5⟩, ⟨by rw [e6], q6.2⟩, ⟨qc, qh, agr_upd ql _ rfl⟩, qr, qp⟩⟩
                rw [e6]
                by_cases y : j = msn
                · rw [y, upd_at, upd_at]
                  exact ⟨cr, b3⟩
                · rw [upd_ne _ _ y, upd_ne _ _ y]
                  exact h8 j (by omega)
        · rw [if_neg x1] at kk
          have x1' : mce p1.toNatClampNeg < 0 := by rw [← ec]; exact Int32.not_le.mp x1
          refine put kk ?_
          unfold g_th_X6_shoot g_la_X6_shoot g_sn_X6_shoot g_sa_X6_shoot g_sb_X6_shoot g_sc_X6_shoot g_sd_X6_shoot
          repeat rw [if_neg a2]
          repeat rw [if_neg b2]
          repeat rw [if_neg (on1 q1)]
          repeat rw [if_pos x1']
          exact ⟨rfl, rfl, rfl, rfl, rfl, rfl, rfl⟩
    · have hk : k_X5_shoot hm aw tk ce la sn sa sb sc sd p1 p2 = 1 := by
        unfold k_X5_shoot
        rw [if_pos a1, b1, if_neg (by decide)]
      have hk0 : ¬ k_X5_shoot hm aw tk ce la sn sa sb sc sd p1 p2 = 0 := by rw [hk]; decide
      unfold g_th_X6_shoot f_L_shoot g_la_L_shoot g_sn_L_shoot g_sa_L_shoot g_sb_L_shoot g_sc_L_shoot g_sd_L_shoot g_la_X6_shoot g_sn_X6_shoot g_sa_X6_shoot g_sb_X6_shoot g_sc_X6_shoot g_sd_X6_shoot
      repeat rw [if_neg hk0]
      rw [if_pos hk]
      repeat rw [if_neg a2]
      repeat rw [if_pos b2]
      exact ⟨rfl, fun q => absurd q (by decide), hs⟩
  · have hk : k_X5_shoot hm aw tk ce la sn sa sb sc sd p1 p2 = 1 := by
      unfold k_X5_shoot
      rw [a1, if_neg (by decide)]
    have hk0 : ¬ k_X5_shoot hm aw tk ce la sn sa sb sc sd p1 p2 = 0 := by rw [hk]; decide
    unfold g_th_X6_shoot f_L_shoot g_la_L_shoot g_sn_L_shoot g_sa_L_shoot g_sb_L_shoot g_sc_L_shoot g_sd_L_shoot g_la_X6_shoot g_sn_X6_shoot g_sa_X6_shoot g_sb_X6_shoot g_sc_X6_shoot g_sd_X6_shoot
    repeat rw [if_neg hk0]
    rw [if_pos hk]
    repeat rw [if_pos a2]
    exact ⟨rfl, fun q => absurd q (by decide), hs⟩
