theorem op_call {n : Nat} {rf : Nat → Int32} {bk : Nat → Int32} {hm : Int32} {aw : Int32} {tk : Int32} {ce : Nat → Int32} {hi : Nat → Int32} {la : Nat → Int32} {sn : Nat} {sa : Nat → Int32} {sb : Nat → Int32} {sc : Nat → Int32} {sd : Nat → Int32} {kn : Nat} {ka : Nat → Int32} {kb : Nat → Int32} {kc : Nat → Int32} {kd : Nat → Int32} {pt : Nat → Int32} {fn : Nat → Int32} {df : Nat → Int32} {wn : Nat → Nat → Int32} {mrf : Nat → Int32} {mbk : Nat → Int32} {mon : Int32} {mhm : Int32} {maw : Int32} {mtk : Int32} {mce : Nat → Int32} {mhi : Nat → Int32} {mla : Nat → Int32} {msn : Nat} {msa : Nat → Int32} {msb : Nat → Int32} {msc : Nat → Int32} {msd : Nat → Int32} {mkn : Nat} {mka : Nat → Int32} {mkb : Nat → Int32} {mkc : Nat → Int32} {mkd : Nat → Int32} {mpt : Nat → Int32} {mfn : Nat → Int32} {mdf : Nat → Int32} {mwv : Nat → Int32} (mth : Int32) (ou : Nat → Int64) (p1 : Int32) (p2 : Int32) (hn : n < 512) (hI : Inv n rf bk hm aw tk ce hi la sn sa sb sc sd kn ka kb kc kd pt fn df wn mrf mbk mon mhm maw mtk mce mhi mla msn msa msb msc msd mkn mka mkb mkc mkd mpt mfn mdf mwv) : (g_th_X6_call mrf mbk mon mhm maw mtk mce msn mkn mka mkb mkc mkd mth p1 p2) = (f_L_call rf bk hm aw tk ce kn ka kb kc kd ou p1 p2) ∧ ((f_L_call rf bk hm aw tk ce kn ka kb kc kd ou p1 p2) = 0 → lg_cmp ((g_ou_L_call rf bk hm aw tk ce kn ka kb kc kd ou p1 p2) 0) (f_X6_call mrf mbk mon mhm maw mtk mce msn mkn mka mkb mkc mkd mth p1 p2).toInt64 = 0) ∧ Inv (n + 1) rf bk hm aw tk (g_ce_L_call rf bk hm aw tk ce kn ka kb kc kd ou p1 p2) hi la sn sa sb sc sd (g_kn_L_call rf bk hm aw tk ce kn ka kb kc kd ou p1 p2) (g_ka_L_call rf bk hm aw tk ce kn ka kb kc kd ou p1 p2) (g_kb_L_call rf bk hm aw tk ce kn ka kb kc kd ou p1 p2) (g_kc_L_call rf bk hm aw tk ce kn ka kb kc kd ou p1 p2) (g_kd_L_call rf bk hm aw tk ce kn ka kb kc kd ou p1 p2) pt fn df wn mrf mbk mon mhm maw mtk (g_ce_X6_call mrf mbk mon mhm maw mtk mce msn mkn mka mkb mkc mkd mth p1 p2) mhi mla msn msa msb msc msd (g_kn_X6_call mrf mbk mon mhm maw mtk mce msn mkn mka mkb mkc mkd mth p1 p2) (g_ka_X6_call mrf mbk mon mhm maw mtk mce msn mkn mka mkb mkc mkd mth p1 p2) (g_kb_X6_call mrf mbk mon mhm maw mtk mce msn mkn mka mkb mkc mkd mth p1 p2) (g_kc_X6_call mrf mbk mon mhm maw mtk mce msn mkn mka mkb mkc mkd mth p1 p2) (g_kd_X6_call mrf mbk mon mhm maw mtk mce msn mkn mka mkb mkc mkd mth p1 p2) mpt mfn mdf mwv := by
  have hs := hI.step
  rcases referee_or p1 with ⟨a1, a2, a3⟩ | ⟨a1, a2⟩
  · rcases player_or p2 with ⟨b1, b2, b3⟩ | ⟨b1, b2⟩
    · have put : k_X5_call rf bk hm aw tk ce kn ka kb kc kd p1 p2 = 3 → (g_th_X6_call mrf mbk mon mhm maw mtk mce msn mkn mka mkb mkc mkd mth p1 p2 = 2 ∧ g_ce_X6_call mrf mbk mon mhm maw mtk mce msn mkn mka mkb mkc mkd mth p1 p2 = mce ∧ g_kn_X6_call mrf mbk mon mhm maw mtk mce msn mkn mka mkb mkc mkd mth p1 p2 = mkn ∧ g_ka_X6_call mrf mbk mon mhm maw mtk mce msn mkn mka mkb mkc mkd mth p1 p2 = mka ∧ g_kb_X6_call mrf mbk mon mhm maw mtk mce msn mkn mka mkb mkc mkd mth p1 p2 = mkb ∧ g_kc_X6_call mrf mbk mon mhm maw mtk mce msn mkn mka mkb mkc mkd mth p1 p2 = mkc ∧ g_kd_X6_call mrf mbk mon mhm maw mtk mce msn mkn mka mkb mkc mkd mth p1 p2 = mkd) → ((g_th_X6_call mrf mbk mon mhm maw mtk mce msn mkn mka mkb mkc mkd mth p1 p2) = (f_L_call rf bk hm aw tk ce kn ka kb kc kd ou p1 p2) ∧ ((f_L_call rf bk hm aw tk ce kn ka kb kc kd ou p1 p2) = 0 → lg_cmp ((g_ou_L_call rf bk hm aw tk ce kn ka kb kc kd ou p1 p2) 0) (f_X6_call mrf mbk mon mhm maw mtk mce msn mkn mka mkb mkc mkd mth p1 p2).toInt64 = 0) ∧ Inv (n + 1) rf bk hm aw tk (g_ce_L_call rf bk hm aw tk ce kn ka kb kc kd ou p1 p2) hi la sn sa sb sc sd (g_kn_L_call rf bk hm aw tk ce kn ka kb kc kd ou p1 p2) (g_ka_L_call rf bk hm aw tk ce kn ka kb kc kd ou p1 p2) (g_kb_L_call rf bk hm aw tk ce kn ka kb kc kd ou p1 p2) (g_kc_L_call rf bk hm aw tk ce kn ka kb kc kd ou p1 p2) (g_kd_L_call rf bk hm aw tk ce kn ka kb kc kd ou p1 p2) pt fn df wn mrf mbk mon mhm maw mtk (g_ce_X6_call mrf mbk mon mhm maw mtk mce msn mkn mka mkb mkc mkd mth p1 p2) mhi mla msn msa msb msc msd (g_kn_X6_call mrf mbk mon mhm maw mtk mce msn mkn mka mkb mkc mkd mth p1 p2) (g_ka_X6_call mrf mbk mon mhm maw mtk mce msn mkn mka mkb mkc mkd mth p1 p2) (g_kb_X6_call mrf mbk mon mhm maw mtk mce msn mkn mka mkb mkc mkd mth p1 p2) (g_kc_X6_call mrf mbk mon mhm maw mtk mce msn mkn mka mkb mkc mkd mth p1 p2) (g_kd_X6_call mrf mbk mon mhm maw mtk mce msn mkn mka mkb mkc mkd mth p1 p2) mpt mfn mdf mwv) := fun e1 ⟨e2, d1, d2, d3, d4, d5, d6⟩ => by
        have e0 : f_L_call rf bk hm aw tk ce kn ka kb kc kd ou p1 p2 = 2 := by
          unfold f_L_call
          rw [e1, if_neg (by decide), if_neg (by decide)]
        have c0 : g_ce_L_call rf bk hm aw tk ce kn ka kb kc kd ou p1 p2 = ce ∧ g_kn_L_call rf bk hm aw tk ce kn ka kb kc kd ou p1 p2 = kn ∧ g_ka_L_call rf bk hm aw tk ce kn ka kb kc kd ou p1 p2 = ka ∧ g_kb_L_call rf bk hm aw tk ce kn ka kb kc kd ou p1 p2 = kb ∧ g_kc_L_call rf bk hm aw tk ce kn ka kb kc kd ou p1 p2 = kc ∧ g_kd_L_call rf bk hm aw tk ce kn ka kb kc kd ou p1 p2 = kd := by
          unfold g_ce_L_call g_kn_L_call g_ka_L_call g_kb_L_call g_kc_L_call g_kd_L_call
          rw [e1]
          repeat rw [if_neg (show ¬ (3 : Int32) = 0 by decide)]
          exact ⟨rfl, rfl, rfl, rfl, rfl, rfl⟩
        obtain ⟨c1, c2, c3, c4, c5, c6⟩ := c0
        rw [c1, c2, c3, c4, c5, c6, d1, d2, d3, d4, d5, d6]
        exact ⟨by rw [e0, e2], fun z => absurd z (by rw [e0]; decide), hs⟩
      rcases hI.2.2.2.2.2.2.2.2 with q | q
      · refine put (by unfold k_X5_call; rw [if_pos a1, if_pos b1, q.2.1, (rd_off hm aw).1, if_neg (by decide)]) ?_
        unfold g_th_X6_call g_ce_X6_call g_kn_X6_call g_ka_X6_call g_kb_X6_call g_kc_X6_call g_kd_X6_call
        repeat rw [if_neg a2]
        repeat rw [if_neg b2]
        repeat rw [if_pos q.1]
        exact ⟨rfl, rfl, rfl, rfl, rfl, rfl, rfl⟩
      · obtain ⟨q1, q2, q3, ⟨T, q4, q5⟩, q6, ⟨qc, qh, ql⟩, qr, qp⟩ := q
        have ec := qc _ (in_cl b3)
        have kk : k_X5_call rf bk hm aw tk ce kn ka kb kc kd p1 p2 = if 0 ≤ ce p2.toNatClampNeg then (if sI (SgtC bk (rf p1.toNatClampNeg).toNatClampNeg (ce p2.toNatClampNeg).toNatClampNeg) = 0 then 3 else if f_X2_mayCall hm aw tk kn = 0 then 3 else 0) else 3 := by
          unfold k_X5_call
          rw [if_pos a1, if_pos b1, (rd_on hm aw (tk_on hn q4 q5)).1, if_pos (show (0 : Int32) = 0 from rfl)]
        by_cases x1 : 0 ≤ ce p2.toNatClampNeg
        · rw [if_pos x1] at kk
          have x1' : ¬ mce p2.toNatClampNeg < 0 := by rw [← ec]; exact Int32.not_lt.mpr x1
          have cr : vp_in (ce p2.toNatClampNeg) 144 := hI.cei _ (in_cl b3) x1
          have e5 : seeN mbk (mrf p1.toNatClampNeg) (mce p2.toNatClampNeg) 144 = sI (SgtC bk (rf p1.toNatClampNeg).toNatClampNeg (ce p2.toNatClampNeg).toNatClampNeg) := by
            rw [← hI.1.1, ← hI.2.1.1, ← ec]
            exact see_eq (hI.rfi _ (in_cl a3)) cr
          by_cases x2 : sI (SgtC bk (rf p1.toNatClampNeg).toNatClampNeg (ce p2.toNatClampNeg).toNatClampNeg) = 0
          · refine put (by rw [kk, if_pos x2]) ?_
            unfold g_th_X6_call g_ce_X6_call g_kn_X6_call g_ka_X6_call g_kb_X6_call g_kc_X6_call g_kd_X6_call
            rw [e5]
            repeat rw [if_neg a2]
            repeat rw [if_neg b2]
            repeat rw [if_neg (on1 q1)]
            repeat rw [if_neg x1']
            repeat rw [if_pos x2]
            exact ⟨rfl, rfl, rfl, rfl, rfl, rfl, rfl⟩
          · have hc := hI.cnt
            have x3 : ¬ f_X2_mayCall hm aw tk kn = 0 := by
              unfold f_X2_mayCall
              rw [if_neg (fun z => by have := (nI_leI (a := 512) (by decide) (by omega)).mp z; omega)]
              decide
            have hk : k_X5_call rf bk hm aw tk ce kn ka kb kc kd p1 p2 = 0 := by rw [kk, if_neg x2, if_neg x3]
            unfold g_th_X6_call f_L_call g_ce_X6_call g_kn_X6_call g_ka_X6_call g_kb_X6_call g_kc_X6_call g_kd_X6_call g_ce_L_call g_kn_L_call g_ka_L_call g_kb_L_call g_kc_L_call g_kd_L_call g_ou_L_call f_X6_call
            rw [e5]
            repeat rw [if_neg a2]
            repeat rw [if_neg b2]
            repeat rw [if_neg (on1 q1)]
            repeat rw [if_neg x1']
            repeat rw [if_neg x2]
            repeat rw [if_pos hk]
            obtain ⟨h1, h2, h3, ⟨s1, s2, s3, s4, s5⟩, h5, h6, ⟨n1, n2, n3, n4⟩, ⟨h8, h8'⟩, h9⟩ := hs
            have e6 := q6.2
            refine ⟨rfl, fun _ => ?_, h1, h2, h3, ⟨by rw [s1, e6], by rw [s2, e6, ec], by rw [s3, e6, q3], by rw [s4, e6], b01_upd s5 (Or.inl rfl)⟩, h5, h6, ⟨n1, n2, by omega, by omega⟩, ⟨h8, fun j hj => ?_⟩, Or.inr ⟨q1, q2, q3, ⟨T, by omega, q5⟩, ⟨q6.1, by rw [e6]⟩, ⟨agr_upd qc _ rfl, qh, ql⟩, rng_upd qr _ (Or.inl rfl), pos_upd qp _ (Or.inl (by decide))⟩⟩
            · rw [e6]; exact ou0 _ _
            · rw [e6]
              by_cases y : j = mkn
              · rw [y, upd_at, upd_at]
                exact ⟨b3, cr⟩
              · rw [upd_ne _ _ y, upd_ne _ _ y]
                exact h8' j (by omega)
        · rw [if_neg x1] at kk
          have x1' : mce p2.toNatClampNeg < 0 := by rw [← ec]; exact Int32.not_le.mp x1
          refine put kk ?_
          unfold g_th_X6_call g_ce_X6_call g_kn_X6_call g_ka_X6_call g_kb_X6_call g_kc_X6_call g_kd_X6_call
          repeat rw [if_neg a2]
          repeat rw [if_neg b2]
          repeat rw [if_neg (on1 q1)]
          repeat rw [if_pos x1']
          exact ⟨rfl, rfl, rfl, rfl, rfl, rfl, rfl⟩
    · have hk : k_X5_call rf bk hm aw tk ce kn ka kb kc kd p1 p2 = 1 := by
        unfold k_X5_call
        rw [if_pos a1, b1, if_neg (by decide)]
      have hk0 : ¬ k_X5_call rf bk hm aw tk ce kn ka kb kc kd p1 p2 = 0 := by rw [hk]; decide
      unfold g_th_X6_call f_L_call g_ce_L_call g_kn_L_call g_ka_L_call g_kb_L_call g_kc_L_call g_kd_L_call g_ce_X6_call g_kn_X6_call g_ka_X6_call g_kb_X6_call g_kc_X6_call g_kd_X6_call
      repeat rw [if_neg hk0]
      rw [if_pos hk]
      repeat rw [if_neg a2]
      repeat rw [if_pos b2]
      exact ⟨rfl, fun q => absurd q (by decide), hs⟩
  · have hk : k_X5_call rf bk hm aw tk ce kn ka kb kc kd p1 p2 = 1 := by
      unfold k_X5_call
      rw [a1, if_neg (by decide)]
    have hk0 : ¬ k_X5_call rf bk hm aw tk ce kn ka kb kc kd p1 p2 = 0 := by rw [hk]; decide
    unfold g_th_X6_call f_L_call g_ce_L_call g_kn_L_call g_ka_L_call g_kb_L_call g_kc_L_call g_kd_L_call g_ce_X6_call g_kn_X6_call g_ka_X6_call g_kb_X6_call g_kc_X6_call g_kd_X6_call
    repeat rw [if_neg hk0]
    rw [if_pos hk]
    repeat rw [if_pos a2]
    exact ⟨rfl, fun q => absurd q (by decide), hs⟩
theorem op_dispute {n : Nat} {rf : Nat → Int32} {bk : Nat → Int32} {hm : Int32} {aw : Int32} {tk : Int32} {ce : Nat → Int32} {hi : Nat → Int32} {la : Nat → Int32} {sn : Nat} {sa : Nat → Int32} {sb : Nat → Int32} {sc : Nat → Int32} {sd : Nat → Int32} {kn : Nat} {ka : Nat → Int32} {kb : Nat → Int32} {kc : Nat → Int32} {kd : Nat → Int32} {pt : Nat → Int32} {fn : Nat → Int32} {df : Nat → Int32} {wn : Nat → Nat → Int32} {mrf : Nat → Int32} {mbk : Nat → Int32} {mon : Int32} {mhm : Int32} {maw : Int32} {mtk : Int32} {mce : Nat → Int32} {mhi : Nat → Int32} {mla : Nat → Int32} {msn : Nat} {msa : Nat → Int32} {msb : Nat → Int32} {msc : Nat → Int32} {msd : Nat → Int32} {mkn : Nat} {mka : Nat → Int32} {mkb : Nat → Int32} {mkc : Nat → Int32} {mkd : Nat → Int32} {mpt : Nat → Int32} {mfn : Nat → Int32} {mdf : Nat → Int32} {mwv : Nat → Int32} (mth : Int32) (ou : Nat → Int64) (p1 : Int32) (hn : n < 512) (hI : Inv n rf bk hm aw tk ce hi la sn sa sb sc sd kn ka kb kc kd pt fn df wn mrf mbk mon mhm maw mtk mce mhi mla msn msa msb msc msd mkn mka mkb mkc mkd mpt mfn mdf mwv) : (g_th_X6_dispute mon mhm maw mtk mce mhi msn mkn mka mkb mkc mkd mfn mth p1) = (f_L_dispute hm aw tk ce hi kn ka kb kc kd fn ou p1) ∧ ((f_L_dispute hm aw tk ce hi kn ka kb kc kd fn ou p1) = 0 → ((f_X6_dispute mon mhm maw mtk mce mhi msn mkn mka mkb mkc mkd mfn mth p1) = 0 → lg_cmp ((g_ou_L_dispute hm aw tk ce hi kn ka kb kc kd fn ou p1) 0) 0 = 0) ∧ (¬ (f_X6_dispute mon mhm maw mtk mce mhi msn mkn mka mkb mkc mkd mfn mth p1) = 0 → lg_cmp ((g_ou_L_dispute hm aw tk ce hi kn ka kb kc kd fn ou p1) 0) 1 = 0)) ∧ Inv (n + 1) rf bk hm aw tk (g_ce_L_dispute hm aw tk ce hi kn ka kb kc kd fn ou p1) hi la sn sa sb sc sd kn ka kb kc (g_kd_L_dispute hm aw tk ce hi kn ka kb kc kd fn ou p1) pt (g_fn_L_dispute hm aw tk ce hi kn ka kb kc kd fn ou p1) df wn mrf mbk mon mhm maw mtk (g_ce_X6_dispute mon mhm maw mtk mce mhi msn mkn mka mkb mkc mkd mfn mth p1) mhi mla msn msa msb msc msd mkn mka mkb mkc (g_kd_X6_dispute mon mhm maw mtk mce mhi msn mkn mka mkb mkc mkd mfn mth p1) mpt (g_fn_X6_dispute mon mhm maw mtk mce mhi msn mkn mka mkb mkc mkd mfn mth p1) mdf mwv := by
  have hs := hI.step
  have put : ∀ k : Int32, k_X5_dispute hm aw tk ce hi kn ka kb kc kd fn p1 = k → ¬ k = 0 → (g_th_X6_dispute mon mhm maw mtk mce mhi msn mkn mka mkb mkc mkd mfn mth p1 = (if k = 1 then 1 else 2) ∧ g_ce_X6_dispute mon mhm maw mtk mce mhi msn mkn mka mkb mkc mkd mfn mth p1 = mce ∧ g_kd_X6_dispute mon mhm maw mtk mce mhi msn mkn mka mkb mkc mkd mfn mth p1 = mkd ∧ g_fn_X6_dispute mon mhm maw mtk mce mhi msn mkn mka mkb mkc mkd mfn mth p1 = mfn) → ((g_th_X6_dispute mon mhm maw mtk mce mhi msn mkn mka mkb mkc mkd mfn mth p1) = (f_L_dispute hm aw tk ce hi kn ka kb kc kd fn ou p1) ∧ ((f_L_dispute hm aw tk ce hi kn ka kb kc kd fn ou p1) = 0 → ((f_X6_dispute mon mhm maw mtk mce mhi msn mkn mka mkb mkc mkd mfn mth p1) = 0 → lg_cmp ((g_ou_L_dispute hm aw tk ce hi kn ka kb kc kd fn ou p1) 0) 0 = 0) ∧ (¬ (f_X6_dispute mon mhm maw mtk mce mhi msn mkn mka mkb mkc mkd mfn mth p1) = 0 → lg_cmp ((g_ou_L_dispute hm aw tk ce hi kn ka kb kc kd fn ou p1) 0) 1 = 0)) ∧ Inv (n + 1) rf bk hm aw tk (g_ce_L_dispute hm aw tk ce hi kn ka kb kc kd fn ou p1) hi la sn sa sb sc sd kn ka kb kc (g_kd_L_dispute hm aw tk ce hi kn ka kb kc kd fn ou p1) pt (g_fn_L_dispute hm aw tk ce hi kn ka kb kc kd fn ou p1) df wn mrf mbk mon mhm maw mtk (g_ce_X6_dispute mon mhm maw mtk mce mhi msn mkn mka mkb mkc mkd mfn mth p1) mhi mla msn msa msb msc msd mkn mka mkb mkc (g_kd_X6_dispute mon mhm maw mtk mce mhi msn mkn mka mkb mkc mkd mfn mth p1) mpt (g_fn_X6_dispute mon mhm maw mtk mce mhi msn mkn mka mkb mkc mkd mfn mth p1) mdf mwv) := fun k e1 hk ⟨e2, d1, d2, d3⟩ => by
    have e0 : f_L_dispute hm aw tk ce hi kn ka kb kc kd fn ou p1 = (if k = 1 then 1 else 2) := by
      unfold f_L_dispute
      rw [e1, if_neg hk]
    have e9 : ¬ f_L_dispute hm aw tk ce hi kn ka kb kc kd fn ou p1 = 0 := by
      rw [e0]
      split <;> decide
    have c0 : g_ce_L_dispute hm aw tk ce hi kn ka kb kc kd fn ou p1 = ce ∧ g_kd_L_dispute hm aw tk ce hi kn ka kb kc kd fn ou p1 = kd ∧ g_fn_L_dispute hm aw tk ce hi kn ka kb kc kd fn ou p1 = fn := by
      unfold g_ce_L_dispute g_kd_L_dispute g_fn_L_dispute
      rw [e1]
      repeat rw [if_neg hk]
      exact ⟨rfl, rfl, rfl⟩
    obtain ⟨c1, c2, c3⟩ := c0
    rw [c1, c2, c3, d1, d2, d3]
    exact ⟨by rw [e0, e2], fun z => absurd z e9, hs⟩
  rcases hI.2.2.2.2.2.2.2.2 with q | q
  · refine put 1 ?_ (by decide) ?_
    · have e : f_X2_hasCall hm aw tk kn p1 = 0 := by
        unfold f_X2_hasCall
        by_cases z : p1 < 0
        · rw [if_pos z]
        · rw [if_neg z, q.2.2.2.1, if_pos (show nI 0 ≤ p1 from Int32.not_lt.mp z)]
      unfold k_X5_dispute
      rw [if_pos e]
    · unfold g_th_X6_dispute g_ce_X6_dispute g_kd_X6_dispute g_fn_X6_dispute
      repeat rw [if_pos q.1]
      exact ⟨rfl, rfl, rfl, rfl⟩
  · obtain ⟨q1, q2, q3, ⟨T, q4, q5⟩, q6, ⟨qc, qh, ql⟩, qr, qp⟩ := q
    have hc := hI.cnt
    by_cases z : f_X6_isIn p1 0 (nI mkn - 1) = 0
    · refine put 1 ?_ (by decide) ?_
      · have e : f_X2_hasCall hm aw tk kn p1 = 0 := by
          unfold f_X2_hasCall
          by_cases z1 : p1 < 0
          · rw [if_pos z1]
          · rw [if_neg z1, if_pos ?_]
            obtain ⟨j, hj, rfl⟩ := nI_of z1
            rw [q6.2]
            apply Int32.not_lt.mp
            intro z2
            have z3 := (nI_ltI hj (by omega)).mp z2
            obtain ⟨w, hw⟩ : ∃ w : Nat, mkn = w + 1 := ⟨mkn - 1, by omega⟩
            rw [hw, nI_pred] at z
            exact ((isIn_nI (a := 0) hj (by decide) (by omega)).mp z) ⟨Nat.zero_le _, by omega⟩
        unfold k_X5_dispute
        rw [if_pos e]
      · unfold g_th_X6_dispute g_ce_X6_dispute g_kd_X6_dispute g_fn_X6_dispute
        repeat rw [if_neg (on1 q1)]
        repeat rw [if_pos z]
        exact ⟨rfl, rfl, rfl, rfl⟩
    · have a3 : vp_in p1 mkn := isIn_kn z (by omega)
      have hi1 := in_cl a3
      have e : ¬ f_X2_hasCall hm aw tk kn p1 = 0 := by
        unfold f_X2_hasCall
        obtain ⟨j, hj, rfl⟩ := in_nI (by omega) a3
        rw [if_neg (nI_pos (by omega)), q6.2, if_neg (nI_ge hj (by omega))]
        decide
      have kk : k_X5_dispute hm aw tk ce hi kn ka kb kc kd fn p1 = if kd p1.toNatClampNeg = 0 then 0 else 3 := by
        unfold k_X5_dispute
        rw [if_neg e]
      obtain ⟨s1, s2, s3, s4, s5⟩ := hI.2.2.2.1
      by_cases x1 : kd p1.toNatClampNeg = 0
      · have x1' : mkd p1.toNatClampNeg = 0 := by rw [← s4]; exact x1
        have hk : k_X5_dispute hm aw tk ce hi kn ka kb kc kd fn p1 = 0 := by rw [kk, if_pos x1]
        obtain ⟨g1, g2⟩ := hI.2.2.2.2.2.2.2.1.2 _ hi1
        have eh := qh _ (in_cl g1)
        have jd : ∀ ce' : Nat → Int32, ce' = (if pOn ce (kb p1.toNatClampNeg) = (-1) then upd ce (ka p1.toNatClampNeg).toNatClampNeg (kb p1.toNatClampNeg) else upd ce (ka p1.toNatClampNeg).toNatClampNeg (-1)) →
            agr 6 ce' (if pOn ce (kb p1.toNatClampNeg) = (-1) then upd mce (ka p1.toNatClampNeg).toNatClampNeg (kb p1.toNatClampNeg) else upd mce (ka p1.toNatClampNeg).toNatClampNeg (-1)) ∧ (∀ j : Nat, j < 6 → ce' j = (-2) ∨ ce' j = (-1) ∨ vp_in (ce' j) 144) ∧ ∀ i j : Nat, i < 6 → j < 6 → 0 ≤ ce' i → ce' i = ce' j → i = j := by
          intro ce' e9
          rw [e9]
          by_cases y : pOn ce (kb p1.toNatClampNeg) = (-1)
          · rw [if_pos y, if_pos y]
            exact ⟨agr_upd qc _ rfl, rng_upd qr _ (Or.inr (Or.inr g2)), pos_upd qp _ (Or.inr (free_of y))⟩
          · rw [if_neg y, if_neg y]
            exact ⟨agr_upd qc _ rfl, rng_upd qr _ (Or.inr (Or.inl rfl)), pos_upd qp _ (Or.inl (by decide))⟩
        have eM : (f_X6_dispute mon mhm maw mtk mce mhi msn mkn mka mkb mkc mkd mfn mth p1 = f_X2_judge hm aw tk ce hi kn ka kb kc kd p1 ∧ g_th_X6_dispute mon mhm maw mtk mce mhi msn mkn mka mkb mkc mkd mfn mth p1 = 0 ∧ g_kd_X6_dispute mon mhm maw mtk mce mhi msn mkn mka mkb mkc mkd mfn mth p1 = upd mkd p1.toNatClampNeg 1 ∧ g_fn_X6_dispute mon mhm maw mtk mce mhi msn mkn mka mkb mkc mkd mfn mth p1 = g_fn_X5_dispute hm aw tk ce hi kn ka kb kc kd fn p1) ∧ agr 6 (g_ce_X2_judge hm aw tk ce hi kn ka kb kc kd p1) (g_ce_X6_dispute mon mhm maw mtk mce mhi msn mkn mka mkb mkc mkd mfn mth p1) ∧ (∀ j : Nat, j < 6 → (g_ce_X2_judge hm aw tk ce hi kn ka kb kc kd p1) j = (-2) ∨ (g_ce_X2_judge hm aw tk ce hi kn ka kb kc kd p1) j = (-1) ∨ vp_in ((g_ce_X2_judge hm aw tk ce hi kn ka kb kc kd p1) j) 144) ∧ ∀ i j : Nat, i < 6 → j < 6 → 0 ≤ (g_ce_X2_judge hm aw tk ce hi kn ka kb kc kd p1) i → (g_ce_X2_judge hm aw tk ce hi kn ka kb kc kd p1) i = (g_ce_X2_judge hm aw tk ce hi kn ka kb kc kd p1) j → i = j := by
          unfold g_fn_X5_dispute f_X6_dispute g_th_X6_dispute g_ce_X6_dispute g_kd_X6_dispute g_fn_X6_dispute f_X2_judge g_ce_X2_judge f_X2_teamCalled f_X6_teamOf
          rw [← s1, ← s2, ← s3, ← eh, stands qc qp (vp_ge g2), ← hI.2.2.2.2.1.2.1, ← q2.1, ← q2.2.1]
          repeat rw [if_neg (on1 q1)]
          repeat rw [if_neg z]
          repeat rw [if_pos x1']
          by_cases y1 : hi (ka p1.toNatClampNeg).toNatClampNeg = (-1)
          · repeat rw [if_pos y1]
            exact ⟨⟨rfl, rfl, rfl, by rw [if_pos rfl]⟩, jd _ rfl⟩
          · repeat rw [if_neg y1]
            by_cases y2 : kc p1.toNatClampNeg < hi (ka p1.toNatClampNeg).toNatClampNeg
            · repeat rw [if_pos y2]
              exact ⟨⟨rfl, rfl, rfl, by rw [if_pos rfl]⟩, jd _ rfl⟩
            · repeat rw [if_neg y2]
              exact ⟨⟨rfl, rfl, rfl, by rw [if_neg (show ¬ (1 : Int32) = 0 by decide)]⟩, qc, qr, qp⟩
        obtain ⟨⟨m1, m2, m3, m4⟩, m5, m6, m7⟩ := eM
        rw [m1, m2, m3, m4]
        unfold f_L_dispute g_ce_L_dispute g_kd_L_dispute g_fn_L_dispute g_ou_L_dispute
        repeat rw [if_pos hk]
        obtain ⟨h1, h2, h3, -, h5, h6, h7, h8, h9⟩ := hs
        refine ⟨rfl, fun _ => ⟨fun y => ?_, fun y => ?_⟩, h1, h2, h3, ⟨s1, s2, s3, by rw [s4], b01_upd s5 (Or.inr rfl)⟩, ⟨h5.1, rfl, h5.2.2⟩, h6, h7, h8, Or.inr ⟨q1, q2, q3, ⟨T, by omega, q5⟩, q6, ⟨m5, qh, ql⟩, m6, m7⟩⟩
        · rw [if_pos y]; exact ou0 _ _
        · rw [if_neg y]; exact ou0 _ _
      · have x1' : ¬ mkd p1.toNatClampNeg = 0 := by rw [← s4]; exact x1
        refine put 3 (by rw [kk, if_neg x1]) (by decide) ?_
        unfold g_th_X6_dispute g_ce_X6_dispute g_kd_X6_dispute g_fn_X6_dispute
        repeat rw [if_neg (on1 q1)]
        repeat rw [if_neg z]
        repeat rw [if_neg x1']
        exact ⟨rfl, rfl, rfl, rfl⟩
