theorem op_sees {n : Nat} {rf : Nat → Int32} {bk : Nat → Int32} {hm : Int32} {aw : Int32} {tk : Int32} {ce : Nat → Int32} {hi : Nat → Int32} {la : Nat → Int32} {sn : Nat} {sa : Nat → Int32} {sb : Nat → Int32} {sc : Nat → Int32} {sd : Nat → Int32} {kn : Nat} {ka : Nat → Int32} {kb : Nat → Int32} {kc : Nat → Int32} {kd : Nat → Int32} {pt : Nat → Int32} {fn : Nat → Int32} {df : Nat → Int32} {wn : Nat → Nat → Int32} {mrf : Nat → Int32} {mbk : Nat → Int32} {mon : Int32} {mhm : Int32} {maw : Int32} {mtk : Int32} {mce : Nat → Int32} {mhi : Nat → Int32} {mla : Nat → Int32} {msn : Nat} {msa : Nat → Int32} {msb : Nat → Int32} {msc : Nat → Int32} {msd : Nat → Int32} {mkn : Nat} {mka : Nat → Int32} {mkb : Nat → Int32} {mkc : Nat → Int32} {mkd : Nat → Int32} {mpt : Nat → Int32} {mfn : Nat → Int32} {mdf : Nat → Int32} {mwv : Nat → Int32} (mth : Int32) (ou : Nat → Int64) (p1 : Int32) (p2 : Int32) (hn : n < 512) (hI : Inv n rf bk hm aw tk ce hi la sn sa sb sc sd kn ka kb kc kd pt fn df wn mrf mbk mon mhm maw mtk mce mhi mla msn msa msb msc msd mkn mka mkb mkc mkd mpt mfn mdf mwv) : (g_th_X6_sees mbk mon mhm maw mtk msn mkn mth p1 p2) = (f_L_sees bk ou p1 p2) ∧ ((f_L_sees bk ou p1 p2) = 0 → ((f_X6_sees mbk mon mhm maw mtk msn mkn mth p1 p2) = 0 → lg_cmp ((g_ou_L_sees bk ou p1 p2) 0) 0 = 0) ∧ (¬ (f_X6_sees mbk mon mhm maw mtk msn mkn mth p1 p2) = 0 → lg_cmp ((g_ou_L_sees bk ou p1 p2) 0) 1 = 0)) ∧ Inv (n + 1) rf bk hm aw tk ce hi la sn sa sb sc sd kn ka kb kc kd pt fn df wn mrf mbk mon mhm maw mtk mce mhi mla msn msa msb msc msd mkn mka mkb mkc mkd mpt mfn mdf mwv := by
  have hs := hI.step
  rcases cell_or p1 with ⟨a1, a2, a3⟩ | ⟨a1, a2⟩
  · rcases cell_or p2 with ⟨b1, b2, b3⟩ | ⟨b1, b2⟩
    · have hk : k_X5_sees bk p1 p2 = 0 := by unfold k_X5_sees; rw [if_pos a1, if_pos b1]
      have e0 : seeN mbk p1 p2 144 = sI (SgtC bk p1.toNatClampNeg p2.toNatClampNeg) := by rw [← hI.1.1]; exact see_eq a3 b3
      unfold g_th_X6_sees f_L_sees f_X6_sees g_ou_L_sees
      rw [e0]
      repeat rw [if_pos hk]
      repeat rw [if_neg a2]
      repeat rw [if_neg b2]
      by_cases z : sI (SgtC bk p1.toNatClampNeg p2.toNatClampNeg) = 0
      · repeat rw [if_pos z]
        exact ⟨rfl, fun _ => ⟨fun _ => ou0 _ _, fun q => absurd rfl q⟩, hs⟩
      · repeat rw [if_neg z]
        exact ⟨rfl, fun _ => ⟨fun q => absurd q (by decide), fun _ => ou0 _ _⟩, hs⟩
    · have hk : k_X5_sees bk p1 p2 = 1 := by unfold k_X5_sees; rw [if_pos a1, b1, if_neg (by decide)]
      have hk0 : ¬ k_X5_sees bk p1 p2 = 0 := by rw [hk]; decide
      unfold g_th_X6_sees f_L_sees
      rw [if_neg hk0, if_neg a2, if_pos b2]
      exact ⟨rfl, fun q => absurd q (by decide), hs⟩
  · have hk : k_X5_sees bk p1 p2 = 1 := by unfold k_X5_sees; rw [a1, if_neg (by decide)]
    have hk0 : ¬ k_X5_sees bk p1 p2 = 0 := by rw [hk]; decide
    unfold g_th_X6_sees f_L_sees
    rw [if_neg hk0, if_pos a2]
    exact ⟨rfl, fun q => absurd q (by decide), hs⟩
theorem op_view {n : Nat} {rf : Nat → Int32} {bk : Nat → Int32} {hm : Int32} {aw : Int32} {tk : Int32} {ce : Nat → Int32} {hi : Nat → Int32} {la : Nat → Int32} {sn : Nat} {sa : Nat → Int32} {sb : Nat → Int32} {sc : Nat → Int32} {sd : Nat → Int32} {kn : Nat} {ka : Nat → Int32} {kb : Nat → Int32} {kc : Nat → Int32} {kd : Nat → Int32} {pt : Nat → Int32} {fn : Nat → Int32} {df : Nat → Int32} {wn : Nat → Nat → Int32} {mrf : Nat → Int32} {mbk : Nat → Int32} {mon : Int32} {mhm : Int32} {maw : Int32} {mtk : Int32} {mce : Nat → Int32} {mhi : Nat → Int32} {mla : Nat → Int32} {msn : Nat} {msa : Nat → Int32} {msb : Nat → Int32} {msc : Nat → Int32} {msd : Nat → Int32} {mkn : Nat} {mka : Nat → Int32} {mkb : Nat → Int32} {mkc : Nat → Int32} {mkd : Nat → Int32} {mpt : Nat → Int32} {mfn : Nat → Int32} {mdf : Nat → Int32} {mwv : Nat → Int32} (mth : Int32) (ou : Nat → Int64) (p1 : Int32) (hn : n < 512) (hI : Inv n rf bk hm aw tk ce hi la sn sa sb sc sd kn ka kb kc kd pt fn df wn mrf mbk mon mhm maw mtk mce mhi mla msn msa msb msc msd mkn mka mkb mkc mkd mpt mfn mdf mwv) : (g_th_X6_view mbk mon mhm maw mtk msn mkn mth p1) = (f_L_view bk ou p1) ∧ ((f_L_view bk ou p1) = 0 → lg_cmp ((g_ou_L_view bk ou p1) 0) (f_X6_view mbk mon mhm maw mtk msn mkn mth p1).toInt64 = 0) ∧ Inv (n + 1) rf bk hm aw tk ce hi la sn sa sb sc sd kn ka kb kc kd pt fn df wn mrf mbk mon mhm maw mtk mce mhi mla msn msa msb msc msd mkn mka mkb mkc mkd mpt mfn mdf mwv := by
  have hs := hI.step
  rcases cell_or p1 with ⟨a1, a2, a3⟩ | ⟨a1, a2⟩
  · have hk : k_X5_view bk p1 = 0 := by unfold k_X5_view; rw [if_pos a1]
    refine ⟨?_, fun _ => ?_, hs⟩
    · unfold g_th_X6_view f_L_view
      rw [if_neg a2, if_pos hk]
    · have e1 : f_X6_view mbk mon mhm maw mtk msn mkn mth p1 = seenN bk p1 144 := by
        unfold f_X6_view
        rw [if_neg a2, ← hI.1.1]
        exact view_eq a3 144 (Nat.le_refl _)
      rw [e1]
      unfold g_ou_L_view
      rw [if_pos hk]
      exact ou0 _ _
  · have hk : k_X5_view bk p1 = 1 := by unfold k_X5_view; rw [a1, if_neg (by decide)]
    have hk0 : ¬ k_X5_view bk p1 = 0 := by rw [hk]; decide
    refine ⟨?_, fun q => absurd q ?_, hs⟩
    · unfold g_th_X6_view f_L_view
      rw [if_pos a2, if_neg hk0]
    · unfold f_L_view
      rw [if_neg hk0]
      decide
theorem op_flying {n : Nat} {rf : Nat → Int32} {bk : Nat → Int32} {hm : Int32} {aw : Int32} {tk : Int32} {ce : Nat → Int32} {hi : Nat → Int32} {la : Nat → Int32} {sn : Nat} {sa : Nat → Int32} {sb : Nat → Int32} {sc : Nat → Int32} {sd : Nat → Int32} {kn : Nat} {ka : Nat → Int32} {kb : Nat → Int32} {kc : Nat → Int32} {kd : Nat → Int32} {pt : Nat → Int32} {fn : Nat → Int32} {df : Nat → Int32} {wn : Nat → Nat → Int32} {mrf : Nat → Int32} {mbk : Nat → Int32} {mon : Int32} {mhm : Int32} {maw : Int32} {mtk : Int32} {mce : Nat → Int32} {mhi : Nat → Int32} {mla : Nat → Int32} {msn : Nat} {msa : Nat → Int32} {msb : Nat → Int32} {msc : Nat → Int32} {msd : Nat → Int32} {mkn : Nat} {mka : Nat → Int32} {mkb : Nat → Int32} {mkc : Nat → Int32} {mkd : Nat → Int32} {mpt : Nat → Int32} {mfn : Nat → Int32} {mdf : Nat → Int32} {mwv : Nat → Int32} (mth : Int32) (ou : Nat → Int64)  (hn : n < 512) (hI : Inv n rf bk hm aw tk ce hi la sn sa sb sc sd kn ka kb kc kd pt fn df wn mrf mbk mon mhm maw mtk mce mhi mla msn msa msb msc msd mkn mka mkb mkc mkd mpt mfn mdf mwv) : (flyN tk sd sn) = (flM mon mtk msd msn) ∧ Inv (n + 1) rf bk hm aw tk ce hi la sn sa sb sc sd kn ka kb kc kd pt fn df wn mrf mbk mon mhm maw mtk mce mhi mla msn msa msb msc msd mkn mka mkb mkc mkd mpt mfn mdf mwv := by
  refine ⟨?_, hI.step⟩
  rcases hI.2.2.2.2.2.2.2.2 with q | q
  · rw [q.2.2.1, flyN]
    unfold flM
    split
    · rfl
    · rw [if_pos q.1]
  · have e : flM mon mtk msd msn = flyN mtk msd msn := by
      unfold flM
      split
      · rename_i h
        rw [h, flyN]
      · rw [if_neg (on1 q.1), fly_eq]
    rw [e, q.2.2.1, q.2.2.2.2.1.1, hI.2.2.1.2.2.2]
theorem op_place {n : Nat} {rf : Nat → Int32} {bk : Nat → Int32} {hm : Int32} {aw : Int32} {tk : Int32} {ce : Nat → Int32} {hi : Nat → Int32} {la : Nat → Int32} {sn : Nat} {sa : Nat → Int32} {sb : Nat → Int32} {sc : Nat → Int32} {sd : Nat → Int32} {kn : Nat} {ka : Nat → Int32} {kb : Nat → Int32} {kc : Nat → Int32} {kd : Nat → Int32} {pt : Nat → Int32} {fn : Nat → Int32} {df : Nat → Int32} {wn : Nat → Nat → Int32} {mrf : Nat → Int32} {mbk : Nat → Int32} {mon : Int32} {mhm : Int32} {maw : Int32} {mtk : Int32} {mce : Nat → Int32} {mhi : Nat → Int32} {mla : Nat → Int32} {msn : Nat} {msa : Nat → Int32} {msb : Nat → Int32} {msc : Nat → Int32} {msd : Nat → Int32} {mkn : Nat} {mka : Nat → Int32} {mkb : Nat → Int32} {mkc : Nat → Int32} {mkd : Nat → Int32} {mpt : Nat → Int32} {mfn : Nat → Int32} {mdf : Nat → Int32} {mwv : Nat → Int32} (mth : Int32) (ou : Nat → Int64) (p1 : Int32) (hn : n < 512) (hI : Inv n rf bk hm aw tk ce hi la sn sa sb sc sd kn ka kb kc kd pt fn df wn mrf mbk mon mhm maw mtk mce mhi mla msn msa msb msc msd mkn mka mkb mkc mkd mpt mfn mdf mwv) : (g_th_X6_place mon mhm maw mtk msn mkn mpt mdf mwv mth p1) = (f_L_place pt df wn ou p1) ∧ ((f_L_place pt df wn ou p1) = 0 → lg_cmp ((g_ou_L_place pt df wn ou p1) 0) (f_X6_place mon mhm maw mtk msn mkn mpt mdf mwv mth p1).toInt64 = 0) ∧ Inv (n + 1) rf bk hm aw tk ce hi la sn sa sb sc sd kn ka kb kc kd pt fn df wn mrf mbk mon mhm maw mtk mce mhi mla msn msa msb msc msd mkn mka mkb mkc mkd mpt mfn mdf mwv := by
  have hs := hI.step
  rcases team_or p1 with ⟨a1, a2, a3⟩ | ⟨a1, a2⟩
  · have hk : k_X5_place pt df wn p1 = 0 := by unfold k_X5_place; rw [if_pos a1]
    refine ⟨?_, fun _ => ?_, hs⟩
    · unfold g_th_X6_place f_L_place
      rw [if_neg a2, if_pos hk]
    · have e1 : f_X6_place mon mhm maw mtk msn mkn mpt mdf mwv mth p1 = plN pt df wn p1 6 := by
        unfold f_X6_place
        rw [if_neg a2, ← hI.2.2.2.2.1.1, ← hI.2.2.2.2.1.2.2.1]
        exact pl_eq hn hI.2.2.2.2.1.2.2.2 a3 6 (Nat.le_refl _)
      rw [e1]
      unfold g_ou_L_place
      rw [if_pos hk]
      exact ou0 _ _
  · have hk : k_X5_place pt df wn p1 = 1 := by unfold k_X5_place; rw [a1, if_neg (by decide)]
    have hk0 : ¬ k_X5_place pt df wn p1 = 0 := by rw [hk]; decide
    refine ⟨?_, fun q => absurd q ?_, hs⟩
    · unfold g_th_X6_place f_L_place
      rw [if_pos a2, if_neg hk0]
    · unfold f_L_place
      rw [if_neg hk0]
      decide
