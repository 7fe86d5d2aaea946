theorem InvF.far {bk lb : Nat → Int32} (h : InvF bk lb) {k : Nat} (hk : 12 ≤ k) (x : Int32) : InvF bk (upd lb k x) := ⟨h.1, fun r hr => by rw [upd_ne _ _ (by omega)]; exact h.2 r hr⟩
theorem InvR.far {rf lb : Nat → Int32} (h : InvR rf lb) {k : Nat} (hk : 14 ≤ k) (x : Int32) : InvR rf (upd lb k x) := fun j hj => by rw [upd_ne _ _ (by omega)]; exact h j hj
theorem fill_at (f : Nat → Int32) (x : Int32) : ∀ n j : Nat, j < n → fillN f x n j = x
  | 0, j, h => absurd h (Nat.not_lt_zero j)
  | n + 1, j, h => by
    unfold fillN
    by_cases q : j = n
    · rw [q, upd_at]
    · rw [upd_ne _ _ q]; exact fill_at f x n j (by omega)
theorem bg_at (lp : Nat → Int32) : ∀ n j : Nat, n ≤ 6 → j < n → bgN lp n j = (-1) ∧ bgN lp n (6 + j) = (-1) ∧ bgN lp n (12 + j) = (-1)
  | 0, j, _, h => absurd h (Nat.not_lt_zero j)
  | n + 1, j, hn, h => by
    rw [bgN]
    by_cases q : j = n
    · subst q
      refine ⟨?_, ?_, ?_⟩
      · rw [upd_ne _ _ (by omega), upd_ne _ _ (by omega), upd_at]
      · rw [upd_ne _ _ (by omega), upd_at]
      · rw [upd_at]
    · obtain ⟨a, b, c⟩ := bg_at lp n j (by omega) (by omega)
      refine ⟨?_, ?_, ?_⟩
      · rw [upd_ne _ _ (by omega), upd_ne _ _ (by omega), upd_ne _ _ (by omega)]; exact a
      · rw [upd_ne _ _ (by omega), upd_ne _ _ (by omega), upd_ne _ _ (by omega)]; exact b
      · rw [upd_ne _ _ (by omega), upd_ne _ _ (by omega), upd_ne _ _ (by omega)]; exact c
theorem kb_eq {hm aw tk : Int32} {ce hi la : Nat → Int32} {sn kn : Nat} {p1 p2 : Int32} : k_L_begins hm aw tk ce hi la sn kn p1 p2 = k_X5_begin hm aw tk ce hi la sn kn p1 p2 := by
  unfold k_L_begins
  split
  · rename_i h; rw [h]
  · rfl
theorem InvC.nil {bk ce hi : Nat → Int32} {ka kb kc kd lc : Nat → Int32} : InvC bk ce hi 0 ka kb kc kd lc := ⟨fun j h => absurd h (Nat.not_lt_zero j), fun i j h => absurd h (Nat.not_lt_zero i)⟩
theorem op_begin {n : Nat} {rf : Nat → Int32} {bk : Nat → Int32} {hm : Int32} {aw : Int32} {tk : Int32} {ce : Nat → Int32} {hi : Nat → Int32} {la : Nat → Int32} {sn : Nat} {sa : Nat → Int32} {sb : Nat → Int32} {sc : Nat → Int32} {sd : Nat → Int32} {kn : Nat} {ka : Nat → Int32} {kb : Nat → Int32} {kc : Nat → Int32} {kd : Nat → Int32} {pt : Nat → Int32} {fn : Nat → Int32} {df : Nat → Int32} {wn : Nat → Nat → Int32} {lb : Nat → Int32} {lp : Nat → Int32} {lc : Nat → Int32} {lt : Nat → Int32} {lw : Nat → Int32} (hn : n < 60) (h : InvA n rf bk hm aw tk ce hi la sn sa sb sc sd kn ka kb kc kd pt fn df wn lb lp lc lt lw) {p1 p2 : Nat} (h1 : p1 ≤ 6) (h2 : p2 < 6) : f_L_isBegun lb lp hm aw tk ce hi la sn kn p1 p2 = 1 ∧ InvB (n + 1) rf bk (g_hm_D2 hm aw tk ce hi la sn kn (nI p1) (nI p2)) (g_aw_D2 hm aw tk ce hi la sn kn (nI p1) (nI p2)) (g_tk_D2 hm aw tk ce hi la sn kn (nI p1) (nI p2)) (g_ce_D2 hm aw tk ce hi la sn kn (nI p1) (nI p2)) (g_hi_D2 hm aw tk ce hi la sn kn (nI p1) (nI p2)) (g_la_D2 hm aw tk ce hi la sn kn (nI p1) (nI p2)) (g_sn_D2 hm aw tk ce hi la sn kn (nI p1) (nI p2)) sa sb sc sd (g_kn_D2 hm aw tk ce hi la sn kn (nI p1) (nI p2)) ka kb kc kd pt fn df wn (g_lb_L_isBegun lb lp hm aw tk ce hi la sn kn p1 p2) (g_lp_L_isBegun lb lp hm aw tk ce hi la sn kn p1 p2) lc lt lw := by
  have hC := h.1
  have e14 := hC.b14
  have go : ∀ {x k : Int32}, (k = 1 ∧ x = (-30) ∨ k = 2 ∧ x = (-20) ∨ k = 3 ∧ x = (-10)) → j_L_isBegun_40 p1 p2 lb = x → k_X5_begin hm aw tk ce hi la sn kn (nI p1) (nI p2) = k → f_L_isBegun lb lp hm aw tk ce hi la sn kn p1 p2 = 1 ∧ InvB (n + 1) rf bk (g_hm_D2 hm aw tk ce hi la sn kn (nI p1) (nI p2)) (g_aw_D2 hm aw tk ce hi la sn kn (nI p1) (nI p2)) (g_tk_D2 hm aw tk ce hi la sn kn (nI p1) (nI p2)) (g_ce_D2 hm aw tk ce hi la sn kn (nI p1) (nI p2)) (g_hi_D2 hm aw tk ce hi la sn kn (nI p1) (nI p2)) (g_la_D2 hm aw tk ce hi la sn kn (nI p1) (nI p2)) (g_sn_D2 hm aw tk ce hi la sn kn (nI p1) (nI p2)) sa sb sc sd (g_kn_D2 hm aw tk ce hi la sn kn (nI p1) (nI p2)) ka kb kc kd pt fn df wn (g_lb_L_isBegun lb lp hm aw tk ce hi la sn kn p1 p2) (g_lp_L_isBegun lb lp hm aw tk ce hi la sn kn p1 p2) lc lt lw := by
    intro x k hx a1 a2
    have a3 : k_L_begins hm aw tk ce hi la sn kn (nI p1) (nI p2) = k := kb_eq.trans a2
    have x0 : ¬ x = 0 := by rcases hx with ⟨-, e⟩ | ⟨-, e⟩ | ⟨-, e⟩ <;> rw [e] <;> decide
    have k0 : ¬ k = 0 := by rcases hx with ⟨e, -⟩ | ⟨e, -⟩ | ⟨e, -⟩ <;> rw [e] <;> decide
    have gl : g_lp_L_isBegun lb lp hm aw tk ce hi la sn kn p1 p2 = lp := by unfold g_lp_L_isBegun; rw [a1, if_neg x0]
    have gb : g_lb_L_isBegun lb lp hm aw tk ce hi la sn kn p1 p2 = lb := by unfold g_lb_L_isBegun; rw [a1, if_neg x0]
    have ef : f_D2 hm aw tk ce hi la sn kn (nI p1) (nI p2) = x := by
      unfold f_D2
      rw [a3, if_neg k0]
      rcases hx with ⟨e1, e2⟩ | ⟨e1, e2⟩ | ⟨e1, e2⟩ <;> rw [e1, e2] <;> rfl
    have z1 : g_hm_D2 hm aw tk ce hi la sn kn (nI p1) (nI p2) = hm := by unfold g_hm_D2; rw [a3, if_neg k0]
    have z2 : g_aw_D2 hm aw tk ce hi la sn kn (nI p1) (nI p2) = aw := by unfold g_aw_D2; rw [a3, if_neg k0]
    have z3 : g_tk_D2 hm aw tk ce hi la sn kn (nI p1) (nI p2) = tk := by unfold g_tk_D2; rw [a3, if_neg k0]
    have z4 : g_ce_D2 hm aw tk ce hi la sn kn (nI p1) (nI p2) = ce := by unfold g_ce_D2; rw [a3, if_neg k0]
    have z5 : g_hi_D2 hm aw tk ce hi la sn kn (nI p1) (nI p2) = hi := by unfold g_hi_D2; rw [a3, if_neg k0]
    have z6 : g_la_D2 hm aw tk ce hi la sn kn (nI p1) (nI p2) = la := by unfold g_la_D2; rw [a3, if_neg k0]
    have z7 : g_sn_D2 hm aw tk ce hi la sn kn (nI p1) (nI p2) = sn := by unfold g_sn_D2; rw [a3, if_neg k0]
    have z8 : g_kn_D2 hm aw tk ce hi la sn kn (nI p1) (nI p2) = kn := by unfold g_kn_D2; rw [a3, if_neg k0]
    unfold f_L_isBegun
    rw [gl, gb, ef, a1, z1, z2, z3, z4, z5, z6, z7, z8, if_pos (rfl : x = x)]
    exact ⟨rfl, h.keep⟩
  have e2 := team_in6 (vin (j := p2) h2)
  have m2 : nI p2 ≤ 5 := nI_le (a := p2) (b := 5) (by omega) (by decide)
  by_cases c1 : p1 < 6
  · have e1 := team_in6 (vin (j := p1) c1)
    have n1 : ¬ 5 < nI p1 := nI_nlt (a := 5) (b := p1) (by omega) (by decide)
    by_cases c2 : p1 = p2
    · refine go (Or.inr (Or.inl ⟨rfl, rfl⟩)) (by unfold j_L_isBegun_40; rw [if_neg n1, if_pos m2, c2, if_pos (rfl : nI p2 = nI p2)]) ?_
      unfold k_X5_begin
      rw [e1, if_pos (rfl : (0 : Int32) = 0), e2, if_pos (rfl : (0 : Int32) = 0), c2, if_pos (rfl : nI p2 = nI p2)]
    · have c3 : ¬ nI p1 = nI p2 := fun q => c2 ((nI_eq (by omega) (by omega)).mp q)
      rcases hC.onp with ⟨t1, hO⟩ | ⟨T, o1, o2, o3, o4⟩
      · have a1 : j_L_isBegun_40 p1 p2 lb = 0 := by unfold j_L_isBegun_40; rw [if_neg n1, if_pos m2, if_neg c3, e14, t1]; rfl
        have a2 : k_X5_begin hm aw tk ce hi la sn kn (nI p1) (nI p2) = 0 := by
          unfold k_X5_begin
          rw [e1, if_pos (rfl : (0 : Int32) = 0), e2, if_pos (rfl : (0 : Int32) = 0), if_neg c3, t1, (rd_off hm aw).2]
          rfl
        have a3 : k_L_begins hm aw tk ce hi la sn kn (nI p1) (nI p2) = 0 := kb_eq.trans a2
        have gl : g_lp_L_isBegun lb lp hm aw tk ce hi la sn kn p1 p2 = bgN lp 6 := by unfold g_lp_L_isBegun; rw [if_pos a1]
        have gb : g_lb_L_isBegun lb lp hm aw tk ce hi la sn kn p1 p2 = upd (upd (upd (upd (upd lb 14 0) 15 0) 16 0) 17 (nI p1)) 18 (nI p2) := by unfold g_lb_L_isBegun; rw [if_pos a1]
        have ef : f_D2 hm aw tk ce hi la sn kn (nI p1) (nI p2) = 0 := by unfold f_D2; rw [if_pos a3]
        have z1 : g_hm_D2 hm aw tk ce hi la sn kn (nI p1) (nI p2) = nI p1 := by unfold g_hm_D2; rw [if_pos a3]
        have z2 : g_aw_D2 hm aw tk ce hi la sn kn (nI p1) (nI p2) = nI p2 := by unfold g_aw_D2; rw [if_pos a3]
        have z3 : g_tk_D2 hm aw tk ce hi la sn kn (nI p1) (nI p2) = 0 := by unfold g_tk_D2; rw [if_pos a3]
        have z4 : g_ce_D2 hm aw tk ce hi la sn kn (nI p1) (nI p2) = fillN ce (-1) 6 := by unfold g_ce_D2; rw [if_pos a3]
        have z5 : g_hi_D2 hm aw tk ce hi la sn kn (nI p1) (nI p2) = fillN hi (-1) 6 := by unfold g_hi_D2; rw [if_pos a3]
        have z6 : g_la_D2 hm aw tk ce hi la sn kn (nI p1) (nI p2) = fillN la (-1) 6 := by unfold g_la_D2; rw [if_pos a3]
        have z7 : g_sn_D2 hm aw tk ce hi la sn kn (nI p1) (nI p2) = 0 := by unfold g_sn_D2; rw [if_pos a3]
        have z8 : g_kn_D2 hm aw tk ce hi la sn kn (nI p1) (nI p2) = 0 := by unfold g_kn_D2; rw [if_pos a3]
        unfold f_L_isBegun
        rw [gl, gb, ef, a1, z1, z2, z3, z4, z5, z6, z7, z8, if_pos (rfl : (0 : Int32) = 0)]
        have hb : ∀ j : Nat, j < 6 → _ := fun j hj => bg_at lp 6 j (Nat.le_refl 6) hj
        have hr : rngP (bgN lp 6) := fun j hj => Or.inr (Or.inl (hb j hj).1)
        refine ⟨rfl, ⟨((((hC.f.far (by decide) _).far (by decide) _).far (by decide) _).far (by decide) _).far (by decide) _, ((((hC.r.far (by decide) _).far (by decide) _).far (by decide) _).far (by decide) _).far (by decide) _, hC.t.step, ⟨?_, ?_, vin c1, vin h2⟩, ?_, ⟨0, by omega, ?_⟩, hr, ⟨by omega, by omega⟩, hC.kd01, Or.inr ⟨⟨0, by omega, rfl, fun j hj => Or.inl (fill_at hi (-1) 6 j hj)⟩, ⟨?_, ?_⟩, fun j hj => ⟨?_, ?_⟩, ⟨fun j hj => Or.inr (Or.inl (fill_at ce (-1) 6 j hj)), fun j hj q => ?_⟩, fun j hj => absurd hj (Nat.not_lt_zero j), InvC.nil⟩⟩, Or.inr fun j hj => Or.inr ?_⟩
        · rw [upd_ne _ _ (by decide), upd_at]
        · rw [upd_at]
        · rw [upd_ne _ _ (by decide), upd_ne _ _ (by decide), upd_ne _ _ (by decide), upd_ne _ _ (by decide), upd_at]
        · rw [upd_ne _ _ (by decide), upd_ne _ _ (by decide), upd_at]; rfl
        · rw [upd_ne _ _ (by decide), upd_ne _ _ (by decide), upd_ne _ _ (by decide), upd_at]; rfl
        · rw [upd_ne _ _ (by decide), upd_ne _ _ (by decide), upd_at]; rfl
        · rw [(hb j hj).1, fill_at ce (-1) 6 j hj]
        · rw [(hb j hj).2.2, fill_at la (-1) 6 j hj]
        · rw [fill_at ce (-1) 6 j hj] at q; exact absurd q (by decide)
        · rw [(hb j hj).2.1, fill_at hi (-1) 6 j hj]
      · obtain ⟨tn1, tn2⟩ := tk_pl (T := T) (by omega)
        refine go (Or.inr (Or.inr ⟨rfl, rfl⟩)) (by unfold j_L_isBegun_40; rw [if_neg n1, if_pos m2, if_neg c3, e14, o2, if_neg tn2]) ?_
        unfold k_X5_begin
        rw [e1, if_pos (rfl : (0 : Int32) = 0), e2, if_pos (rfl : (0 : Int32) = 0), if_neg c3, if_neg (rd_on hm aw (tk := tk) (by rw [o2]; exact tn1)).2]
  · have n1 : 5 < nI p1 := nI_lt (a := 5) (b := p1) (by omega) (by omega)
    refine go (Or.inl ⟨rfl, rfl⟩) (by unfold j_L_isBegun_40; rw [if_pos n1]) ?_
    unfold k_X5_begin
    rw [team_out6 (vout (by omega) (by omega)), if_neg (by decide)]
