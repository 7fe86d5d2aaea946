/-! ===== pure: the table ===== -/
theorem mg_eq {ce hi mce mhi : Nat → Int32} (h1 : agr 6 ce mce) (h2 : agr 6 hi mhi) : ∀ n : Nat, n ≤ 6 → mgM mce mhi n = mgN ce hi n
  | 0, _ => by rw [mgM, mgN]
  | n + 1, hn => by rw [mgM, mgN, mg_eq h1 h2 n (by omega), h1 n (by omega), h2 n (by omega), Int32.add_zero]
theorem pts_eq (pt : Nat → Int32) (a b : Nat) (m : Int32) : upd (upd pt a (pt a + ptA m)) b ((upd pt a (pt a + ptA m)) b + ptB m) = if m ≤ 0 then (if 0 ≤ m then upd (upd pt a (pt a + 1)) b ((upd pt a (pt a + 1)) b + 1) else upd pt b (pt b + 3)) else upd pt a (pt a + 3) := by
  unfold ptA ptB
  by_cases h1 : m ≤ 0
  · rw [if_pos h1, if_pos h1]
    by_cases h2 : 0 ≤ m
    · have h3 : m = 0 := Int32.le_antisymm h1 h2
      rw [if_pos h2, if_pos h2, if_pos h3]
    · have h3 : ¬ m = 0 := fun q => h2 (by rw [q]; decide)
      rw [if_neg h2, if_neg h2, if_neg h3, Int32.add_zero, upd_self]
  · have h2 : 0 ≤ m := Int32.le_of_lt (Int32.not_le.mp h1)
    have h3 : ¬ m = 0 := fun q => h1 (by rw [q]; decide)
    rw [if_neg h1, if_neg h1, if_pos h2, if_neg h3, Int32.add_zero, upd_self]
theorem upw {n a b : Nat} {wn : Nat → Nat → Int32} {wv : Nat → Int32} (h : ∀ i j : Nat, i < 6 → j < 6 → wn i j = wv (6 * i + j) ∧ ∃ w : Nat, w ≤ n ∧ wn i j = nI w) (ha : a < 6) (hb : b < 6) : ∀ i j : Nat, i < 6 → j < 6 → va_up wn a (upd (wn a) b (wn a b + 1)) i j = upd wv (6 * a + b) (wv (6 * a + b) + 1) (6 * i + j) ∧ ∃ w : Nat, w ≤ n + 1 ∧ va_up wn a (upd (wn a) b (wn a b + 1)) i j = nI w := by
  intro i j hi hj
  obtain ⟨g1, w, g2, g3⟩ := h i j hi hj
  by_cases e : i = a
  · subst e
    rw [va_up_self]
    by_cases e2 : j = b
    · subst e2
      rw [upd_at, upd_at]
      exact ⟨by rw [g1], w + 1, by omega, by rw [g3, nI_succ]⟩
    · rw [upd_ne _ _ e2, upd_ne _ _ (show ¬ 6 * i + j = 6 * i + b by omega)]
      exact ⟨g1, w, by omega, g3⟩
  · rw [va_up_ne _ _ e, upd_ne _ _ (show ¬ 6 * i + j = 6 * a + b by omega)]
    exact ⟨g1, w, by omega, g3⟩
theorem wins_eq {n a b : Nat} {wn : Nat → Nat → Int32} {wv : Nat → Int32} (h : ∀ i j : Nat, i < 6 → j < 6 → wn i j = wv (6 * i + j) ∧ ∃ w : Nat, w ≤ n ∧ wn i j = nI w) (ha : a < 6) (hb : b < 6) (m : Int32) : ∀ i j : Nat, i < 6 → j < 6 → (if m ≤ 0 then (if 0 ≤ m then wn else va_up wn b (upd (wn b) a (wn b a + 1))) else va_up wn a (upd (wn a) b (wn a b + 1))) i j = upd (upd wv (6 * a + b) (wv (6 * a + b) + wnA m)) (6 * b + a) ((upd wv (6 * a + b) (wv (6 * a + b) + wnA m)) (6 * b + a) + wnB m) (6 * i + j) ∧ ∃ w : Nat, w ≤ n + 1 ∧ (if m ≤ 0 then (if 0 ≤ m then wn else va_up wn b (upd (wn b) a (wn b a + 1))) else va_up wn a (upd (wn a) b (wn a b + 1))) i j = nI w := by
  unfold wnA wnB
  by_cases h1 : m ≤ 0
  · repeat rw [if_pos h1]
    by_cases h2 : 0 ≤ m
    · repeat rw [if_pos h2]
      rw [Int32.add_zero, upd_self, Int32.add_zero, upd_self]
      exact fun i j hi hj => ⟨(h i j hi hj).1, (h i j hi hj).2.elim (fun w hw => ⟨w, Nat.le_succ_of_le hw.1, hw.2⟩)⟩
    · repeat rw [if_neg h2]
      rw [Int32.add_zero, upd_self]
      exact upw h hb ha
  · have h2 : 0 ≤ m := Int32.le_of_lt (Int32.not_le.mp h1)
    repeat rw [if_neg h1]
    repeat rw [if_pos h2]
    rw [Int32.add_zero, upd_self]
    exact upw h ha hb
theorem op_end {n : Nat} {rf : Nat → Int32} {bk : Nat → Int32} {hm : Int32} {aw : Int32} {tk : Int32} {ce : Nat → Int32} {hi : Nat → Int32} {la : Nat → Int32} {sn : Nat} {sa : Nat → Int32} {sb : Nat → Int32} {sc : Nat → Int32} {sd : Nat → Int32} {kn : Nat} {ka : Nat → Int32} {kb : Nat → Int32} {kc : Nat → Int32} {kd : Nat → Int32} {pt : Nat → Int32} {fn : Nat → Int32} {df : Nat → Int32} {wn : Nat → Nat → Int32} {mrf : Nat → Int32} {mbk : Nat → Int32} {mon : Int32} {mhm : Int32} {maw : Int32} {mtk : Int32} {mce : Nat → Int32} {mhi : Nat → Int32} {mla : Nat → Int32} {msn : Nat} {msa : Nat → Int32} {msb : Nat → Int32} {msc : Nat → Int32} {msd : Nat → Int32} {mkn : Nat} {mka : Nat → Int32} {mkb : Nat → Int32} {mkc : Nat → Int32} {mkd : Nat → Int32} {mpt : Nat → Int32} {mfn : Nat → Int32} {mdf : Nat → Int32} {mwv : Nat → Int32} (mth : Int32) (ou : Nat → Int64)  (hn : n < 512) (hI : Inv n rf bk hm aw tk ce hi la sn sa sb sc sd kn ka kb kc kd pt fn df wn mrf mbk mon mhm maw mtk mce mhi mla msn msa msb msc msd mkn mka mkb mkc mkd mpt mfn mdf mwv) : (g_th_X6_end mon mhm maw mtk mce mhi msn mkn mpt mfn mdf mwv mth) = (f_L_end hm aw tk ce hi la sn kn pt fn df wn ou) ∧ ((f_L_end hm aw tk ce hi la sn kn pt fn df wn ou) = 0 → lg_cmp ((g_ou_L_end hm aw tk ce hi la sn kn pt fn df wn ou) 0) (f_X6_end mon mhm maw mtk mce mhi msn mkn mpt mfn mdf mwv mth).toInt64 = 0) ∧ Inv (n + 1) rf bk hm aw (g_tk_L_end hm aw tk ce hi la sn kn pt fn df wn ou) (g_ce_L_end hm aw tk ce hi la sn kn pt fn df wn ou) (g_hi_L_end hm aw tk ce hi la sn kn pt fn df wn ou) (g_la_L_end hm aw tk ce hi la sn kn pt fn df wn ou) (g_sn_L_end hm aw tk ce hi la sn kn pt fn df wn ou) sa sb sc sd (g_kn_L_end hm aw tk ce hi la sn kn pt fn df wn ou) ka kb kc kd (g_pt_L_end hm aw tk ce hi la sn kn pt fn df wn ou) (g_fn_L_end hm aw tk ce hi la sn kn pt fn df wn ou) (g_df_L_end hm aw tk ce hi la sn kn pt fn df wn ou) (g_wn_L_end hm aw tk ce hi la sn kn pt fn df wn ou) mrf mbk (g_on_X6_end mon mhm maw mtk mce mhi msn mkn mpt mfn mdf mwv mth) mhm maw mtk mce mhi mla msn msa msb msc msd mkn mka mkb mkc mkd (g_pt_X6_end mon mhm maw mtk mce mhi msn mkn mpt mfn mdf mwv mth) (g_fn_X6_end mon mhm maw mtk mce mhi msn mkn mpt mfn mdf mwv mth) (g_df_X6_end mon mhm maw mtk mce mhi msn mkn mpt mfn mdf mwv mth) (g_wv_X6_end mon mhm maw mtk mce mhi msn mkn mpt mfn mdf mwv mth) := by
  have hs := hI.step
  rcases hI.2.2.2.2.2.2.2.2 with q | q
  · have hk : ¬ k_X5_end hm aw tk ce hi la sn kn pt fn df wn = 0 := by
      unfold k_X5_end
      rw [q.2.1, (rd_off hm aw).1, if_neg (by decide)]
      decide
    unfold g_th_X6_end f_L_end g_tk_L_end g_ce_L_end g_hi_L_end g_la_L_end g_sn_L_end g_kn_L_end g_pt_L_end g_fn_L_end g_df_L_end g_wn_L_end g_on_X6_end g_pt_X6_end g_fn_X6_end g_df_X6_end g_wv_X6_end
    repeat rw [if_neg hk]
    repeat rw [if_pos q.1]
    exact ⟨rfl, fun z => absurd z (by decide), hs⟩
  · obtain ⟨q1, q2, q3, ⟨T, q4, q5⟩, q6, ⟨qc, qh, ql⟩, qr, qp⟩ := q
    have hk : k_X5_end hm aw tk ce hi la sn kn pt fn df wn = 0 := by
      unfold k_X5_end
      rw [(rd_on hm aw (tk_on hn q4 q5)).1, if_pos rfl]
    have em := mg_eq qc qh 6 (Nat.le_refl 6)
    obtain ⟨t1, t2, -, -⟩ := hI.tm
    obtain ⟨p1, p2, p3, p4⟩ := hI.2.2.2.2.1
    have w := wins_eq p4 (in_cl t1) (in_cl t2) (mgN ce hi 6)
    have c1 : (6 * hm + aw).toNatClampNeg = 6 * hm.toNatClampNeg + aw.toNatClampNeg := by
      obtain ⟨a, ha, rfl⟩ := in_nI (by decide) t1
      obtain ⟨b, hb, rfl⟩ := in_nI (by decide) t2
      rw [win_nI, nI_clamp (by omega), nI_clamp (by omega), nI_clamp (by omega)]
    have c2 : (6 * aw + hm).toNatClampNeg = 6 * aw.toNatClampNeg + hm.toNatClampNeg := by
      obtain ⟨a, ha, rfl⟩ := in_nI (by decide) t1
      obtain ⟨b, hb, rfl⟩ := in_nI (by decide) t2
      rw [win_nI, nI_clamp (by omega), nI_clamp (by omega), nI_clamp (by omega)]
    obtain ⟨h1, h2, h3, h4, -, h6, ⟨n1, n2, n3, n4⟩, h8, -⟩ := hs
    unfold g_th_X6_end f_L_end g_tk_L_end g_ce_L_end g_hi_L_end g_la_L_end g_sn_L_end g_kn_L_end g_pt_L_end g_fn_L_end g_df_L_end g_wn_L_end g_on_X6_end g_pt_X6_end g_fn_X6_end g_df_X6_end g_wv_X6_end g_ou_L_end f_X6_end
    repeat rw [if_pos hk]
    repeat rw [if_neg (on1 q1)]
    rw [em]
    refine ⟨rfl, fun _ => ou0 _ _, h1, h2, h3, h4, ⟨?_, ?_, ?_, ?_⟩, h6, ⟨Nat.zero_le _, n2, Nat.zero_le _, n4⟩, h8, Or.inl ⟨rfl, rfl, rfl, rfl, fun j hj => fillN_at _ _ 6 j hj, fun j hj => fillN_at _ _ 6 j hj⟩⟩
    · rw [← q2.1, ← q2.2.1, ← p1, ← p2, pts_eq]
      unfold g_pt_X4_enter
      (repeat' split) <;> rfl
    · rw [← q2.1, ← q2.2.1, ← p1, ← p2, pts_eq]
      unfold g_fn_X4_enter
      (repeat' split) <;> rfl
    · rw [← q2.1, ← q2.2.1, ← p3]
      unfold g_df_X4_enter
      rfl
    · rw [← q2.1, ← q2.2.1, c1, c2]
      unfold g_wn_X4_enter g_wn_X4_enterWin
      exact w
