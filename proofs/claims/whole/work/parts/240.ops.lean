theorem op_tick {n : Nat} {rf : Nat → Int32} {bk : Nat → Int32} {hm : Int32} {aw : Int32} {tk : Int32} {ce : Nat → Int32} {hi : Nat → Int32} {la : Nat → Int32} {sn : Nat} {sa : Nat → Int32} {sb : Nat → Int32} {sc : Nat → Int32} {sd : Nat → Int32} {kn : Nat} {ka : Nat → Int32} {kb : Nat → Int32} {kc : Nat → Int32} {kd : Nat → Int32} {pt : Nat → Int32} {fn : Nat → Int32} {df : Nat → Int32} {wn : Nat → Nat → Int32} {mrf : Nat → Int32} {mbk : Nat → Int32} {mon : Int32} {mhm : Int32} {maw : Int32} {mtk : Int32} {mce : Nat → Int32} {mhi : Nat → Int32} {mla : Nat → Int32} {msn : Nat} {msa : Nat → Int32} {msb : Nat → Int32} {msc : Nat → Int32} {msd : Nat → Int32} {mkn : Nat} {mka : Nat → Int32} {mkb : Nat → Int32} {mkc : Nat → Int32} {mkd : Nat → Int32} {mpt : Nat → Int32} {mfn : Nat → Int32} {mdf : Nat → Int32} {mwv : Nat → Int32} (mth : Int32) (ou : Nat → Int64)  (hn : n < 512) (hI : Inv n rf bk hm aw tk ce hi la sn sa sb sc sd kn ka kb kc kd pt fn df wn mrf mbk mon mhm maw mtk mce mhi mla msn msa msb msc msd mkn mka mkb mkc mkd mpt mfn mdf mwv) : tk = (f_X6_tick mon mhm maw mtk msn mkn mth) ∧ Inv (n + 1) rf bk hm aw tk ce hi la sn sa sb sc sd kn ka kb kc kd pt fn df wn mrf mbk mon mhm maw mtk mce mhi mla msn msa msb msc msd mkn mka mkb mkc mkd mpt mfn mdf mwv := by
  refine ⟨?_, hI.step⟩
  rcases hI.2.2.2.2.2.2.2.2 with q | q
  · rw [f_X6_tick, if_pos q.1]; exact q.2.1
  · rw [f_X6_tick, if_neg (on1 q.1)]; exact q.2.2.1
theorem op_where {n : Nat} {rf : Nat → Int32} {bk : Nat → Int32} {hm : Int32} {aw : Int32} {tk : Int32} {ce : Nat → Int32} {hi : Nat → Int32} {la : Nat → Int32} {sn : Nat} {sa : Nat → Int32} {sb : Nat → Int32} {sc : Nat → Int32} {sd : Nat → Int32} {kn : Nat} {ka : Nat → Int32} {kb : Nat → Int32} {kc : Nat → Int32} {kd : Nat → Int32} {pt : Nat → Int32} {fn : Nat → Int32} {df : Nat → Int32} {wn : Nat → Nat → Int32} {mrf : Nat → Int32} {mbk : Nat → Int32} {mon : Int32} {mhm : Int32} {maw : Int32} {mtk : Int32} {mce : Nat → Int32} {mhi : Nat → Int32} {mla : Nat → Int32} {msn : Nat} {msa : Nat → Int32} {msb : Nat → Int32} {msc : Nat → Int32} {msd : Nat → Int32} {mkn : Nat} {mka : Nat → Int32} {mkb : Nat → Int32} {mkc : Nat → Int32} {mkd : Nat → Int32} {mpt : Nat → Int32} {mfn : Nat → Int32} {mdf : Nat → Int32} {mwv : Nat → Int32} (mth : Int32) (ou : Nat → Int64) (p1 : Int32) (hn : n < 512) (hI : Inv n rf bk hm aw tk ce hi la sn sa sb sc sd kn ka kb kc kd pt fn df wn mrf mbk mon mhm maw mtk mce mhi mla msn msa msb msc msd mkn mka mkb mkc mkd mpt mfn mdf mwv) : (g_th_X6_where mon mhm maw mtk mce msn mkn mth p1) = (f_L_where hm aw tk ce ou p1) ∧ ((f_L_where hm aw tk ce ou p1) = 0 → lg_cmp ((g_ou_L_where hm aw tk ce ou p1) 0) (f_X6_where mon mhm maw mtk mce msn mkn mth p1).toInt64 = 0) ∧ Inv (n + 1) rf bk hm aw tk ce hi la sn sa sb sc sd kn ka kb kc kd pt fn df wn mrf mbk mon mhm maw mtk mce mhi mla msn msa msb msc msd mkn mka mkb mkc mkd mpt mfn mdf mwv := by
  have hs := hI.step
  rcases player_or p1 with ⟨a1, a2, a3⟩ | ⟨a1, a2⟩
  · have hk : k_X5_where hm aw tk ce p1 = 0 := by unfold k_X5_where; rw [if_pos a1]
    refine ⟨?_, fun _ => ?_, hs⟩
    · unfold g_th_X6_where f_L_where
      rw [if_neg a2, if_pos hk]
    · have e1 : f_X6_where mon mhm maw mtk mce msn mkn mth p1 = ce p1.toNatClampNeg := by
        unfold f_X6_where
        rw [if_neg a2]
        rcases hI.2.2.2.2.2.2.2.2 with q | q
        · rw [if_pos q.1, q.2.2.2.2.1 _ (in_cl a3)]
        · rw [if_neg (on1 q.1)]; exact (q.2.2.2.2.2.1.1 _ (in_cl a3)).symm
      rw [e1]
      unfold g_ou_L_where
      rw [if_pos hk]
      exact ou0 _ _
  · have hk : k_X5_where hm aw tk ce p1 = 1 := by unfold k_X5_where; rw [a1, if_neg (by decide)]
    have hk0 : ¬ k_X5_where hm aw tk ce p1 = 0 := by rw [hk]; decide
    refine ⟨?_, fun q => absurd q ?_, hs⟩
    · unfold g_th_X6_where f_L_where
      rw [if_pos a2, if_neg hk0]
    · unfold f_L_where
      rw [if_neg hk0]
      decide
theorem op_hit {n : Nat} {rf : Nat → Int32} {bk : Nat → Int32} {hm : Int32} {aw : Int32} {tk : Int32} {ce : Nat → Int32} {hi : Nat → Int32} {la : Nat → Int32} {sn : Nat} {sa : Nat → Int32} {sb : Nat → Int32} {sc : Nat → Int32} {sd : Nat → Int32} {kn : Nat} {ka : Nat → Int32} {kb : Nat → Int32} {kc : Nat → Int32} {kd : Nat → Int32} {pt : Nat → Int32} {fn : Nat → Int32} {df : Nat → Int32} {wn : Nat → Nat → Int32} {mrf : Nat → Int32} {mbk : Nat → Int32} {mon : Int32} {mhm : Int32} {maw : Int32} {mtk : Int32} {mce : Nat → Int32} {mhi : Nat → Int32} {mla : Nat → Int32} {msn : Nat} {msa : Nat → Int32} {msb : Nat → Int32} {msc : Nat → Int32} {msd : Nat → Int32} {mkn : Nat} {mka : Nat → Int32} {mkb : Nat → Int32} {mkc : Nat → Int32} {mkd : Nat → Int32} {mpt : Nat → Int32} {mfn : Nat → Int32} {mdf : Nat → Int32} {mwv : Nat → Int32} (mth : Int32) (ou : Nat → Int64) (p1 : Int32) (hn : n < 512) (hI : Inv n rf bk hm aw tk ce hi la sn sa sb sc sd kn ka kb kc kd pt fn df wn mrf mbk mon mhm maw mtk mce mhi mla msn msa msb msc msd mkn mka mkb mkc mkd mpt mfn mdf mwv) : (g_th_X6_hit mon mhm maw mtk mhi msn mkn mth p1) = (f_L_hit hm aw tk hi ou p1) ∧ ((f_L_hit hm aw tk hi ou p1) = 0 → lg_cmp ((g_ou_L_hit hm aw tk hi ou p1) 0) (f_X6_hit mon mhm maw mtk mhi msn mkn mth p1).toInt64 = 0) ∧ Inv (n + 1) rf bk hm aw tk ce hi la sn sa sb sc sd kn ka kb kc kd pt fn df wn mrf mbk mon mhm maw mtk mce mhi mla msn msa msb msc msd mkn mka mkb mkc mkd mpt mfn mdf mwv := by
  have hs := hI.step
  rcases player_or p1 with ⟨a1, a2, a3⟩ | ⟨a1, a2⟩
  · have hk : k_X5_hit hm aw tk hi p1 = 0 := by unfold k_X5_hit; rw [if_pos a1]
    refine ⟨?_, fun _ => ?_, hs⟩
    · unfold g_th_X6_hit f_L_hit
      rw [if_neg a2, if_pos hk]
    · have e1 : f_X6_hit mon mhm maw mtk mhi msn mkn mth p1 = hi p1.toNatClampNeg := by
        unfold f_X6_hit
        rw [if_neg a2]
        rcases hI.2.2.2.2.2.2.2.2 with q | q
        · rw [if_pos q.1, q.2.2.2.2.2 _ (in_cl a3)]
        · rw [if_neg (on1 q.1)]; exact (q.2.2.2.2.2.1.2.1 _ (in_cl a3)).symm
      rw [e1]
      unfold g_ou_L_hit
      rw [if_pos hk]
      exact ou0 _ _
  · have hk : k_X5_hit hm aw tk hi p1 = 1 := by unfold k_X5_hit; rw [a1, if_neg (by decide)]
    have hk0 : ¬ k_X5_hit hm aw tk hi p1 = 0 := by rw [hk]; decide
    refine ⟨?_, fun q => absurd q ?_, hs⟩
    · unfold g_th_X6_hit f_L_hit
      rw [if_pos a2, if_neg hk0]
    · unfold f_L_hit
      rw [if_neg hk0]
      decide
theorem op_points {n : Nat} {rf : Nat → Int32} {bk : Nat → Int32} {hm : Int32} {aw : Int32} {tk : Int32} {ce : Nat → Int32} {hi : Nat → Int32} {la : Nat → Int32} {sn : Nat} {sa : Nat → Int32} {sb : Nat → Int32} {sc : Nat → Int32} {sd : Nat → Int32} {kn : Nat} {ka : Nat → Int32} {kb : Nat → Int32} {kc : Nat → Int32} {kd : Nat → Int32} {pt : Nat → Int32} {fn : Nat → Int32} {df : Nat → Int32} {wn : Nat → Nat → Int32} {mrf : Nat → Int32} {mbk : Nat → Int32} {mon : Int32} {mhm : Int32} {maw : Int32} {mtk : Int32} {mce : Nat → Int32} {mhi : Nat → Int32} {mla : Nat → Int32} {msn : Nat} {msa : Nat → Int32} {msb : Nat → Int32} {msc : Nat → Int32} {msd : Nat → Int32} {mkn : Nat} {mka : Nat → Int32} {mkb : Nat → Int32} {mkc : Nat → Int32} {mkd : Nat → Int32} {mpt : Nat → Int32} {mfn : Nat → Int32} {mdf : Nat → Int32} {mwv : Nat → Int32} (mth : Int32) (ou : Nat → Int64) (p1 : Int32) (hn : n < 512) (hI : Inv n rf bk hm aw tk ce hi la sn sa sb sc sd kn ka kb kc kd pt fn df wn mrf mbk mon mhm maw mtk mce mhi mla msn msa msb msc msd mkn mka mkb mkc mkd mpt mfn mdf mwv) : (g_th_X6_of mon mhm maw mtk msn mkn mth mpt p1) = (f_L_points pt ou p1) ∧ ((f_L_points pt ou p1) = 0 → lg_cmp ((g_ou_L_points pt ou p1) 0) (f_X6_of mon mhm maw mtk msn mkn mth mpt p1).toInt64 = 0) ∧ Inv (n + 1) rf bk hm aw tk ce hi la sn sa sb sc sd kn ka kb kc kd pt fn df wn mrf mbk mon mhm maw mtk mce mhi mla msn msa msb msc msd mkn mka mkb mkc mkd mpt mfn mdf mwv := by
  have hs := hI.step
  rcases team_or p1 with ⟨a1, a2, a3⟩ | ⟨a1, a2⟩
  · have hk : k_X5_points pt p1 = 0 := by unfold k_X5_points; rw [if_pos a1]
    refine ⟨?_, fun _ => ?_, hs⟩
    · unfold g_th_X6_of f_L_points
      rw [if_neg a2, if_pos hk]
    · have e1 : f_X6_of mon mhm maw mtk msn mkn mth mpt p1 = pt p1.toNatClampNeg := by
        unfold f_X6_of
        rw [if_neg a2, ← hI.2.2.2.2.1.1]
      rw [e1]
      unfold g_ou_L_points
      rw [if_pos hk]
      exact ou0 _ _
  · have hk : k_X5_points pt p1 = 1 := by unfold k_X5_points; rw [a1, if_neg (by decide)]
    have hk0 : ¬ k_X5_points pt p1 = 0 := by rw [hk]; decide
    refine ⟨?_, fun q => absurd q ?_, hs⟩
    · unfold g_th_X6_of f_L_points
      rw [if_pos a2, if_neg hk0]
    · unfold f_L_points
      rw [if_neg hk0]
      decide
theorem op_fines {n : Nat} {rf : Nat → Int32} {bk : Nat → Int32} {hm : Int32} {aw : Int32} {tk : Int32} {ce : Nat → Int32} {hi : Nat → Int32} {la : Nat → Int32} {sn : Nat} {sa : Nat → Int32} {sb : Nat → Int32} {sc : Nat → Int32} {sd : Nat → Int32} {kn : Nat} {ka : Nat → Int32} {kb : Nat → Int32} {kc : Nat → Int32} {kd : Nat → Int32} {pt : Nat → Int32} {fn : Nat → Int32} {df : Nat → Int32} {wn : Nat → Nat → Int32} {mrf : Nat → Int32} {mbk : Nat → Int32} {mon : Int32} {mhm : Int32} {maw : Int32} {mtk : Int32} {mce : Nat → Int32} {mhi : Nat → Int32} {mla : Nat → Int32} {msn : Nat} {msa : Nat → Int32} {msb : Nat → Int32} {msc : Nat → Int32} {msd : Nat → Int32} {mkn : Nat} {mka : Nat → Int32} {mkb : Nat → Int32} {mkc : Nat → Int32} {mkd : Nat → Int32} {mpt : Nat → Int32} {mfn : Nat → Int32} {mdf : Nat → Int32} {mwv : Nat → Int32} (mth : Int32) (ou : Nat → Int64) (p1 : Int32) (hn : n < 512) (hI : Inv n rf bk hm aw tk ce hi la sn sa sb sc sd kn ka kb kc kd pt fn df wn mrf mbk mon mhm maw mtk mce mhi mla msn msa msb msc msd mkn mka mkb mkc mkd mpt mfn mdf mwv) : (g_th_X6_of mon mhm maw mtk msn mkn mth mfn p1) = (f_L_fines fn ou p1) ∧ ((f_L_fines fn ou p1) = 0 → lg_cmp ((g_ou_L_fines fn ou p1) 0) (f_X6_of mon mhm maw mtk msn mkn mth mfn p1).toInt64 = 0) ∧ Inv (n + 1) rf bk hm aw tk ce hi la sn sa sb sc sd kn ka kb kc kd pt fn df wn mrf mbk mon mhm maw mtk mce mhi mla msn msa msb msc msd mkn mka mkb mkc mkd mpt mfn mdf mwv := by
  have hs := hI.step
  rcases team_or p1 with ⟨a1, a2, a3⟩ | ⟨a1, a2⟩
  · have hk : k_X5_fines fn p1 = 0 := by unfold k_X5_fines; rw [if_pos a1]
    refine ⟨?_, fun _ => ?_, hs⟩
    · unfold g_th_X6_of f_L_fines
      rw [if_neg a2, if_pos hk]
    · have e1 : f_X6_of mon mhm maw mtk msn mkn mth mfn p1 = fn p1.toNatClampNeg := by
        unfold f_X6_of
        rw [if_neg a2, ← hI.2.2.2.2.1.2.1]
      rw [e1]
      unfold g_ou_L_fines
      rw [if_pos hk]
      exact ou0 _ _
  · have hk : k_X5_fines fn p1 = 1 := by unfold k_X5_fines; rw [a1, if_neg (by decide)]
    have hk0 : ¬ k_X5_fines fn p1 = 0 := by rw [hk]; decide
    refine ⟨?_, fun q => absurd q ?_, hs⟩
    · unfold g_th_X6_of f_L_fines
      rw [if_pos a2, if_neg hk0]
    · unfold f_L_fines
      rw [if_neg hk0]
      decide
theorem op_difference {n : Nat} {rf : Nat → Int32} {bk : Nat → Int32} {hm : Int32} {aw : Int32} {tk : Int32} {ce : Nat → Int32} {hi : Nat → Int32} {la : Nat → Int32} {sn : Nat} {sa : Nat → Int32} {sb : Nat → Int32} {sc : Nat → Int32} {sd : Nat → Int32} {kn : Nat} {ka : Nat → Int32} {kb : Nat → Int32} {kc : Nat → Int32} {kd : Nat → Int32} {pt : Nat → Int32} {fn : Nat → Int32} {df : Nat → Int32} {wn : Nat → Nat → Int32} {mrf : Nat → Int32} {mbk : Nat → Int32} {mon : Int32} {mhm : Int32} {maw : Int32} {mtk : Int32} {mce : Nat → Int32} {mhi : Nat → Int32} {mla : Nat → Int32} {msn : Nat} {msa : Nat → Int32} {msb : Nat → Int32} {msc : Nat → Int32} {msd : Nat → Int32} {mkn : Nat} {mka : Nat → Int32} {mkb : Nat → Int32} {mkc : Nat → Int32} {mkd : Nat → Int32} {mpt : Nat → Int32} {mfn : Nat → Int32} {mdf : Nat → Int32} {mwv : Nat → Int32} (mth : Int32) (ou : Nat → Int64) (p1 : Int32) (hn : n < 512) (hI : Inv n rf bk hm aw tk ce hi la sn sa sb sc sd kn ka kb kc kd pt fn df wn mrf mbk mon mhm maw mtk mce mhi mla msn msa msb msc msd mkn mka mkb mkc mkd mpt mfn mdf mwv) : (g_th_X6_of mon mhm maw mtk msn mkn mth mdf p1) = (f_L_difference df ou p1) ∧ ((f_L_difference df ou p1) = 0 → lg_cmp ((g_ou_L_difference df ou p1) 0) (f_X6_of mon mhm maw mtk msn mkn mth mdf p1).toInt64 = 0) ∧ Inv (n + 1) rf bk hm aw tk ce hi la sn sa sb sc sd kn ka kb kc kd pt fn df wn mrf mbk mon mhm maw mtk mce mhi mla msn msa msb msc msd mkn mka mkb mkc mkd mpt mfn mdf mwv := by
  have hs := hI.step
  rcases team_or p1 with ⟨a1, a2, a3⟩ | ⟨a1, a2⟩
  · have hk : k_X5_difference df p1 = 0 := by unfold k_X5_difference; rw [if_pos a1]
    refine ⟨?_, fun _ => ?_, hs⟩
    · unfold g_th_X6_of f_L_difference
      rw [if_neg a2, if_pos hk]
    · have e1 : f_X6_of mon mhm maw mtk msn mkn mth mdf p1 = df p1.toNatClampNeg := by
        unfold f_X6_of
        rw [if_neg a2, ← hI.2.2.2.2.1.2.2.1]
      rw [e1]
      unfold g_ou_L_difference
      rw [if_pos hk]
      exact ou0 _ _
  · have hk : k_X5_difference df p1 = 1 := by unfold k_X5_difference; rw [a1, if_neg (by decide)]
    have hk0 : ¬ k_X5_difference df p1 = 0 := by rw [hk]; decide
    refine ⟨?_, fun q => absurd q ?_, hs⟩
    · unfold g_th_X6_of f_L_difference
      rw [if_pos a2, if_neg hk0]
    · unfold f_L_difference
      rw [if_neg hk0]
      decide
theorem op_setReferee {n : Nat} {rf : Nat → Int32} {bk : Nat → Int32} {hm : Int32} {aw : Int32} {tk : Int32} {ce : Nat → Int32} {hi : Nat → Int32} {la : Nat → Int32} {sn : Nat} {sa : Nat → Int32} {sb : Nat → Int32} {sc : Nat → Int32} {sd : Nat → Int32} {kn : Nat} {ka : Nat → Int32} {kb : Nat → Int32} {kc : Nat → Int32} {kd : Nat → Int32} {pt : Nat → Int32} {fn : Nat → Int32} {df : Nat → Int32} {wn : Nat → Nat → Int32} {mrf : Nat → Int32} {mbk : Nat → Int32} {mon : Int32} {mhm : Int32} {maw : Int32} {mtk : Int32} {mce : Nat → Int32} {mhi : Nat → Int32} {mla : Nat → Int32} {msn : Nat} {msa : Nat → Int32} {msb : Nat → Int32} {msc : Nat → Int32} {msd : Nat → Int32} {mkn : Nat} {mka : Nat → Int32} {mkb : Nat → Int32} {mkc : Nat → Int32} {mkd : Nat → Int32} {mpt : Nat → Int32} {mfn : Nat → Int32} {mdf : Nat → Int32} {mwv : Nat → Int32} (mth : Int32) (ou : Nat → Int64) (p1 : Int32) (p2 : Int32) (hn : n < 512) (hI : Inv n rf bk hm aw tk ce hi la sn sa sb sc sd kn ka kb kc kd pt fn df wn mrf mbk mon mhm maw mtk mce mhi mla msn msa msb msc msd mkn mka mkb mkc mkd mpt mfn mdf mwv) : (g_th_X6_setReferee mrf mon mhm maw mtk msn mkn mth p1 p2) = (f_L_setReferee rf ou p1 p2) ∧ ((f_L_setReferee rf ou p1 p2) = 0 → lg_cmp ((g_ou_L_setReferee rf ou p1 p2) 0) (f_X6_setReferee mrf mon mhm maw mtk msn mkn mth p1 p2).toInt64 = 0) ∧ Inv (n + 1) (g_rf_L_setReferee rf ou p1 p2) bk hm aw tk ce hi la sn sa sb sc sd kn ka kb kc kd pt fn df wn (g_rf_X6_setReferee mrf mon mhm maw mtk msn mkn mth p1 p2) mbk mon mhm maw mtk mce mhi mla msn msa msb msc msd mkn mka mkb mkc mkd mpt mfn mdf mwv := by
  have hs := hI.step
  rcases referee_or p1 with ⟨a1, a2, a3⟩ | ⟨a1, a2⟩
  · rcases cell_or p2 with ⟨b1, b2, b3⟩ | ⟨b1, b2⟩
    · have hk : k_X5_setReferee rf p1 p2 = 0 := by unfold k_X5_setReferee; rw [if_pos a1, if_pos b1]
      unfold g_th_X6_setReferee f_L_setReferee f_X6_setReferee g_ou_L_setReferee g_rf_L_setReferee g_rf_X6_setReferee
      rw [if_pos hk, if_pos hk, if_pos hk, if_neg a2, if_neg a2, if_neg a2, if_neg b2, if_neg b2, if_neg b2]
      obtain ⟨h1, ⟨h2, h3⟩, h4⟩ := hs
      refine ⟨rfl, fun _ => ?_, h1, ⟨by rw [h2], ?_⟩, h4⟩
      · rw [← h2]; exact ou0 _ _
      · intro j hj
        unfold upd
        split
        · exact b3
        · exact h3 j hj
    · have hk : k_X5_setReferee rf p1 p2 = 1 := by unfold k_X5_setReferee; rw [if_pos a1, b1, if_neg (by decide)]
      have hk0 : ¬ k_X5_setReferee rf p1 p2 = 0 := by rw [hk]; decide
      unfold g_th_X6_setReferee f_L_setReferee g_rf_L_setReferee g_rf_X6_setReferee
      rw [if_neg hk0, if_neg hk0, if_neg a2, if_neg a2, if_pos b2, if_pos b2]
      exact ⟨rfl, fun q => absurd q (by decide), hs⟩
  · have hk : k_X5_setReferee rf p1 p2 = 1 := by unfold k_X5_setReferee; rw [a1, if_neg (by decide)]
    have hk0 : ¬ k_X5_setReferee rf p1 p2 = 0 := by rw [hk]; decide
    unfold g_th_X6_setReferee f_L_setReferee g_rf_L_setReferee g_rf_X6_setReferee
    rw [if_neg hk0, if_neg hk0, if_pos a2, if_pos a2]
    exact ⟨rfl, fun q => absurd q (by decide), hs⟩
theorem op_toggleBunker {n : Nat} {rf : Nat → Int32} {bk : Nat → Int32} {hm : Int32} {aw : Int32} {tk : Int32} {ce : Nat → Int32} {hi : Nat → Int32} {la : Nat → Int32} {sn : Nat} {sa : Nat → Int32} {sb : Nat → Int32} {sc : Nat → Int32} {sd : Nat → Int32} {kn : Nat} {ka : Nat → Int32} {kb : Nat → Int32} {kc : Nat → Int32} {kd : Nat → Int32} {pt : Nat → Int32} {fn : Nat → Int32} {df : Nat → Int32} {wn : Nat → Nat → Int32} {mrf : Nat → Int32} {mbk : Nat → Int32} {mon : Int32} {mhm : Int32} {maw : Int32} {mtk : Int32} {mce : Nat → Int32} {mhi : Nat → Int32} {mla : Nat → Int32} {msn : Nat} {msa : Nat → Int32} {msb : Nat → Int32} {msc : Nat → Int32} {msd : Nat → Int32} {mkn : Nat} {mka : Nat → Int32} {mkb : Nat → Int32} {mkc : Nat → Int32} {mkd : Nat → Int32} {mpt : Nat → Int32} {mfn : Nat → Int32} {mdf : Nat → Int32} {mwv : Nat → Int32} (mth : Int32) (ou : Nat → Int64) (p1 : Int32) (hn : n < 512) (hI : Inv n rf bk hm aw tk ce hi la sn sa sb sc sd kn ka kb kc kd pt fn df wn mrf mbk mon mhm maw mtk mce mhi mla msn msa msb msc msd mkn mka mkb mkc mkd mpt mfn mdf mwv) : (g_th_X6_toggleBunker mbk mon mhm maw mtk msn mkn mth p1) = (f_L_toggleBunker bk hm aw tk ou p1) ∧ ((f_L_toggleBunker bk hm aw tk ou p1) = 0 → ((f_X6_toggleBunker mbk mon mhm maw mtk msn mkn mth p1) = 0 → lg_cmp ((g_ou_L_toggleBunker bk hm aw tk ou p1) 0) 0 = 0) ∧ (¬ (f_X6_toggleBunker mbk mon mhm maw mtk msn mkn mth p1) = 0 → lg_cmp ((g_ou_L_toggleBunker bk hm aw tk ou p1) 0) 1 = 0)) ∧ Inv (n + 1) rf (g_bk_L_toggleBunker bk hm aw tk ou p1) hm aw tk ce hi la sn sa sb sc sd kn ka kb kc kd pt fn df wn mrf (g_bk_X6_toggleBunker mbk mon mhm maw mtk msn mkn mth p1) mon mhm maw mtk mce mhi mla msn msa msb msc msd mkn mka mkb mkc mkd mpt mfn mdf mwv := by
  have hs := hI.step
  rcases cell_or p1 with ⟨a1, a2, a3⟩ | ⟨a1, a2⟩
  · rcases hI.2.2.2.2.2.2.2.2 with q | q
    · have hk : k_X5_toggleBunker bk hm aw tk p1 = 0 := by unfold k_X5_toggleBunker; rw [if_pos a1, q.2.1, if_pos (rd_off hm aw).2]
      obtain ⟨⟨h1, h2⟩, h3⟩ := hs
      subst h1
      unfold g_th_X6_toggleBunker f_L_toggleBunker f_X6_toggleBunker g_ou_L_toggleBunker g_bk_L_toggleBunker g_bk_X6_toggleBunker
      rw [if_pos hk, if_pos hk, if_pos hk, if_neg a2, if_neg a2, if_neg a2, if_pos q.1, if_pos q.1, if_pos q.1]
      have hb : b01 (g_bk_X1_turnBunker bk p1) := by
        unfold g_bk_X1_turnBunker
        split
        · exact b01_upd h2 (Or.inr rfl)
        · exact b01_upd h2 (Or.inl rfl)
      refine ⟨rfl, fun _ => ⟨fun e => ?_, fun e => ?_⟩, ⟨by unfold g_bk_X1_turnBunker; rfl, hb⟩, h3⟩
      · have e2 : f_X1_turnBunker bk p1 = 0 := by unfold f_X1_turnBunker; exact e
        rw [if_pos e2]; exact ou0 _ _
      · have e2 : ¬ f_X1_turnBunker bk p1 = 0 := by unfold f_X1_turnBunker; exact e
        rw [if_neg e2]; exact ou0 _ _
    · obtain ⟨T, hT, hT2⟩ := q.2.2.2.1
      have hk : k_X5_toggleBunker bk hm aw tk p1 = 3 := by unfold k_X5_toggleBunker; rw [if_pos a1, if_neg (rd_on hm aw (tk_on hn hT hT2)).2]
      have hk0 : ¬ k_X5_toggleBunker bk hm aw tk p1 = 0 := by rw [hk]; decide
      have hk1 : ¬ k_X5_toggleBunker bk hm aw tk p1 = 1 := by rw [hk]; decide
      unfold g_th_X6_toggleBunker f_L_toggleBunker g_bk_L_toggleBunker g_bk_X6_toggleBunker
      rw [if_neg hk0, if_neg hk1, if_neg hk0, if_neg a2, if_neg a2, if_neg (on1 q.1), if_neg (on1 q.1)]
      exact ⟨rfl, fun q => absurd q (by decide), hs⟩
  · have hk : k_X5_toggleBunker bk hm aw tk p1 = 1 := by unfold k_X5_toggleBunker; rw [a1, if_neg (by decide)]
    have hk0 : ¬ k_X5_toggleBunker bk hm aw tk p1 = 0 := by rw [hk]; decide
    unfold g_th_X6_toggleBunker f_L_toggleBunker g_bk_L_toggleBunker g_bk_X6_toggleBunker
    rw [if_neg hk0, if_pos hk, if_neg hk0, if_pos a2, if_pos a2]
    exact ⟨rfl, fun q => absurd q (by decide), hs⟩
