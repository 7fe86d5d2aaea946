/-- a call is disputed -/
theorem On.close {n : Nat} {bk : Nat → Int32} {tk : Int32} {ce hi la : Nat → Int32} {sn : Nat} {sb sc : Nat → Int32} {kn : Nat} {ka kb kc kd lb lp lc : Nat → Int32} (h : On n bk tk ce hi la sn sb sc kn ka kb kc kd lb lp lc) {p : Nat} (hp : p < kn) (hk : kn ≤ 19) : On n bk tk ce hi la sn sb sc kn ka kb kc (upd kd p 1) lb lp (upd lc (40 + p) 1) := by
  obtain ⟨h1, h2, h3, h4, h5, h6⟩ := h
  refine ⟨h1, h2, h3, h4, h5, fun j hj => ?_, fun i j hi hj ki kj hij => ?_⟩
  · obtain ⟨⟨x1, x2, x3⟩, x4, x5, x6⟩ := h6.1 j hj
    rw [upd_ne lc _ (by omega : ¬ j = 40 + p), upd_ne lc _ (by omega : ¬ 20 + j = 40 + p)]
    by_cases z : j = p
    · subst z
      rw [upd_at, upd_at]
      exact ⟨⟨x1, x2, rfl⟩, x4, x5, fun q => absurd q (by decide)⟩
    · rw [upd_ne kd _ z, upd_ne lc _ (by omega : ¬ 40 + j = 40 + p)]
      exact ⟨⟨x1, x2, x3⟩, x4, x5, x6⟩
  · have zi : ¬ i = p := fun z => by rw [z, upd_at] at ki; exact absurd ki (by decide)
    have zj : ¬ j = p := fun z => by rw [z, upd_at] at kj; exact absurd kj (by decide)
    rw [upd_ne _ _ zi] at ki
    rw [upd_ne _ _ zj] at kj
    exact h6.2 i j hi hj ki kj hij
theorem ad_at (f : Nat → Int32) (k : Nat) (x : Int32) : adA f k x k = f k + x := by unfold adA; rw [upd_at]
theorem ad_ne (f : Nat → Int32) {k j : Nat} (x : Int32) (h : ¬ j = k) : adA f k x j = f j := by unfold adA; rw [upd_ne _ _ h]
theorem as_at (f : Nat → Int32) (k : Nat) (x : Int32) : adS f k x k = f k - x := by unfold adS; rw [upd_at]
theorem as_ne (f : Nat → Int32) {k j : Nat} (x : Int32) (h : ¬ j = k) : adS f k x j = f j := by unfold adS; rw [upd_ne _ _ h]
theorem bdd_add {n : Nat} {x y : Int32} (hn : n < 60) (h : bdd n x) (h1 : -16 ≤ y.toInt) (h2 : y.toInt ≤ 16) : bdd (n + 1) (x + y) := by
  unfold bdd at *
  rw [ti_a (x := x) (y := y) rfl rfl (by omega) (by omega)]
  omega
theorem InvT.fine {n : Nat} {pt fn df : Nat → Int32} {wn : Nat → Nat → Int32} {lt lw : Nat → Int32} (hn : n < 60) (h : InvT n pt fn df wn lt lw) {k : Nat} (hk : k < 6) : InvT (n + 1) pt (upd fn k (fn k + 1)) df wn (adA lt (3 * k + 1) 1) lw := by
  refine ⟨fun j hj => ?_, fun i j hi hj => ⟨(h.2 i j hi hj).1, (h.2 i j hi hj).2.step⟩⟩
  obtain ⟨⟨a1, a2, a3⟩, a4, a5, a6⟩ := h.1 j hj
  rw [ad_ne lt _ (by omega : ¬ 3 * j = 3 * k + 1), ad_ne lt _ (by omega : ¬ 3 * j + 2 = 3 * k + 1)]
  by_cases z : j = k
  · subst z
    rw [upd_at, ad_at, a2]
    exact ⟨⟨a1, rfl, a3⟩, a4.step, bdd_add hn a5 (by decide) (by decide), a6.step⟩
  · rw [upd_ne fn _ z, ad_ne lt _ (by omega : ¬ 3 * j + 1 = 3 * k + 1)]
    exact ⟨⟨a1, a2, a3⟩, a4.step, a5.step, a6.step⟩
theorem op_disp {n : Nat} {rf : Nat → Int32} {bk : Nat → Int32} {hm : Int32} {aw : Int32} {tk : Int32} {ce : Nat → Int32} {hi : Nat → Int32} {la : Nat → Int32} {sn : Nat} {sa : Nat → Int32} {sb : Nat → Int32} {sc : Nat → Int32} {sd : Nat → Int32} {kn : Nat} {ka : Nat → Int32} {kb : Nat → Int32} {kc : Nat → Int32} {kd : Nat → Int32} {pt : Nat → Int32} {fn : Nat → Int32} {df : Nat → Int32} {wn : Nat → Nat → Int32} {lb : Nat → Int32} {lp : Nat → Int32} {lc : Nat → Int32} {lt : Nat → Int32} {lw : Nat → Int32} (hn : n < 60) (h : InvA n rf bk hm aw tk ce hi la sn sa sb sc sd kn ka kb kc kd pt fn df wn lb lp lc lt lw) {p1 : Nat} (h1 : p1 < 20) : f_L_isDispute lb lp lc lt hm aw tk ce hi kn ka kb kc kd fn p1 = 1 ∧ InvB (n + 1) rf bk hm aw tk (g_ce_D7 hm aw tk ce hi kn ka kb kc kd fn (nI p1) 0) hi la sn sa sb sc sd kn ka kb kc (g_kd_D7 hm aw tk ce hi kn ka kb kc kd fn (nI p1) 0) pt (g_fn_D7 hm aw tk ce hi kn ka kb kc kd fn (nI p1) 0) df wn lb (g_lp_L_isDispute lb lp lc lt hm aw tk ce hi kn ka kb kc kd fn p1) (g_lc_L_isDispute lb lp lc lt hm aw tk ce hi kn ka kb kc kd fn p1) (g_lt_L_isDispute lb lp lc lt hm aw tk ce hi kn ka kb kc kd fn p1) lw := by
  have hC := h.1
  have e14 := hC.b14
  have ci : (nI p1).toNatClampNeg = p1 := nI_clamp (by omega)
  have same : ∀ {k : Int32}, ¬ k = 0 → k_X5_dispute hm aw tk ce hi kn ka kb kc kd fn (nI p1) = k → g_lp_L_isDispute lb lp lc lt hm aw tk ce hi kn ka kb kc kd fn p1 = lp → g_lc_L_isDispute lb lp lc lt hm aw tk ce hi kn ka kb kc kd fn p1 = lc → g_lt_L_isDispute lb lp lc lt hm aw tk ce hi kn ka kb kc kd fn p1 = lt → InvB (n + 1) rf bk hm aw tk (g_ce_D7 hm aw tk ce hi kn ka kb kc kd fn (nI p1) 0) hi la sn sa sb sc sd kn ka kb kc (g_kd_D7 hm aw tk ce hi kn ka kb kc kd fn (nI p1) 0) pt (g_fn_D7 hm aw tk ce hi kn ka kb kc kd fn (nI p1) 0) df wn lb (g_lp_L_isDispute lb lp lc lt hm aw tk ce hi kn ka kb kc kd fn p1) (g_lc_L_isDispute lb lp lc lt hm aw tk ce hi kn ka kb kc kd fn p1) (g_lt_L_isDispute lb lp lc lt hm aw tk ce hi kn ka kb kc kd fn p1) lw := by
    intro k k0 a3 gl gc gt
    have z1 : g_ce_D7 hm aw tk ce hi kn ka kb kc kd fn (nI p1) 0 = ce := by unfold g_ce_D7; rw [a3, if_neg k0]
    have z2 : g_kd_D7 hm aw tk ce hi kn ka kb kc kd fn (nI p1) 0 = kd := by unfold g_kd_D7; rw [a3, if_neg k0]
    have z3 : g_fn_D7 hm aw tk ce hi kn ka kb kc kd fn (nI p1) 0 = fn := by unfold g_fn_D7; rw [a3, if_neg k0]
    rw [gl, gc, gt, z1, z2, z3]
    exact h.keep
  -- no such call
  have none : j_L_isDispute_21 lb p1 = 0 → kn ≤ p1 → f_L_isDispute lb lp lc lt hm aw tk ce hi kn ka kb kc kd fn p1 = 1 ∧ InvB (n + 1) rf bk hm aw tk (g_ce_D7 hm aw tk ce hi kn ka kb kc kd fn (nI p1) 0) hi la sn sa sb sc sd kn ka kb kc (g_kd_D7 hm aw tk ce hi kn ka kb kc kd fn (nI p1) 0) pt (g_fn_D7 hm aw tk ce hi kn ka kb kc kd fn (nI p1) 0) df wn lb (g_lp_L_isDispute lb lp lc lt hm aw tk ce hi kn ka kb kc kd fn p1) (g_lc_L_isDispute lb lp lc lt hm aw tk ce hi kn ka kb kc kd fn p1) (g_lt_L_isDispute lb lp lc lt hm aw tk ce hi kn ka kb kc kd fn p1) lw := by
    intro a0 hk
    have a3 : k_X5_dispute hm aw tk ce hi kn ka kb kc kd fn (nI p1) = 1 := by
      unfold k_X5_dispute f_X2_hasCall
      rw [if_neg (nI_pos (by omega)), if_pos (nI_le hk (by omega))]
      rfl
    have ef : f_D7 hm aw tk ce hi kn ka kb kc kd fn (nI p1) 0 = (-30) := by unfold f_D7; rw [a3]; rfl
    refine ⟨?_, same (k := 1) (by decide) a3 (by unfold g_lp_L_isDispute; rw [if_pos a0]) (by unfold g_lc_L_isDispute; rw [if_pos a0]) (by unfold g_lt_L_isDispute; rw [if_pos a0])⟩
    unfold f_L_isDispute
    rw [if_pos a0, ef, if_pos (rfl : (-30 : Int32) = -30)]
  rcases hC.onp with ⟨t1, hO⟩ | ⟨T, o1, o2, o3, o4⟩
  · exact none (by unfold j_L_isDispute_21; rw [e14, t1]; rfl) (by rw [hO.2.2.1]; exact Nat.zero_le _)
  · obtain ⟨tn1, tn2⟩ := tk_pl (T := T) (by omega)
    have n14 : ¬ lb 14 < 0 := by rw [e14, o2]; exact tn2
    have hk19 := hC.cnt.2
    by_cases hk : kn ≤ p1
    · exact none (by unfold j_L_isDispute_21; rw [if_neg n14, o4.2.1.2, if_pos (nI_le hk (by omega))]) hk
    · have hp : p1 < kn := by omega
      have a0 : ¬ j_L_isDispute_21 lb p1 = 0 := by unfold j_L_isDispute_21; rw [if_neg n14, o4.2.1.2, if_neg (nI_ge hp (by omega))]; decide
      obtain ⟨⟨x1, x2, x3⟩, x4, x5, x6⟩ := o4.2.2.2.2.2.1 p1 hp
      have hc : ¬ f_X2_hasCall hm aw tk kn (nI p1) = 0 := by unfold f_X2_hasCall; rw [if_neg (nI_pos (by omega)), if_neg (nI_ge hp (by omega))]; decide
      rcases hC.kd01 p1 with q | q
      · -- a call that was not disputed
        have b0 : ¬ lc (40 + p1) = 1 := by rw [x3, q]; decide
        obtain ⟨x7, x8⟩ := x6 q
        have a3 : k_X5_dispute hm aw tk ce hi kn ka kb kc kd fn (nI p1) = 0 := by unfold k_X5_dispute; rw [if_neg hc, ci, if_pos q]
        obtain ⟨y1, y2⟩ : ka p1 = nI (ka p1).toNatClampNeg ∧ (ka p1).toNatClampNeg < 6 := ⟨nI_cl x4, in_cl x4⟩
        have hs := h.2 _ y2
        have z2 : g_kd_D7 hm aw tk ce hi kn ka kb kc kd fn (nI p1) 0 = upd kd p1 1 := by unfold g_kd_D7; rw [if_pos a3, ci]
        have gc : g_lc_L_isDispute lb lp lc lt hm aw tk ce hi kn ka kb kc kd fn p1 = upd lc (40 + p1) 1 := by unfold g_lc_L_isDispute; rw [if_neg a0, if_neg b0]
        have oc := o4.step.close hp hk19
        have hkd : b01 (upd kd p1 1) := fun j => by
          by_cases z : j = p1
          · rw [z, upd_at]; exact Or.inr rfl
          · rw [upd_ne _ _ z]; exact hC.kd01 j
        obtain ⟨g1, g2, g3, g4, g5, g6, g7, g8, g9, g10⟩ := hC.step
        rcases o3 _ y2 with w | ⟨k, k1, k2, k3⟩
        · -- wrong: no hit
          have j98 : j_L_isDispute_98 lp lc p1 = 0 := by unfold j_L_isDispute_98; rw [x1, hs, w, if_pos (by decide)]
          have jg : f_X2_judge hm aw tk ce hi kn ka kb kc kd (nI p1) = 0 := by unfold f_X2_judge; rw [ci, if_pos w]
          have ef : f_D7 hm aw tk ce hi kn ka kb kc kd fn (nI p1) 0 = 0 := by unfold f_D7; rw [if_pos a3, if_pos jg]
          have z3 : g_fn_D7 hm aw tk ce hi kn ka kb kc kd fn (nI p1) 0 = fn := by unfold g_fn_D7 g_fn_X5_dispute; rw [if_pos a3, if_pos jg]
          have gt : g_lt_L_isDispute lb lp lc lt hm aw tk ce hi kn ka kb kc kd fn p1 = lt := by unfold g_lt_L_isDispute; rw [if_neg a0, if_neg b0, if_pos j98]
          obtain ⟨v1, v2⟩ := ceq x5.1
          have lf := fr_on (bk := bk) (lb := lb) (lp := lp) (ce := ce) hC.f v2 (fun j hj => (o4.2.2.1 j hj).1)
          rw [← v1] at lf
          have z1 : g_ce_D7 hm aw tk ce hi kn ka kb kc kd fn (nI p1) 0 = if pOn ce (kb p1) = (-1) then upd ce (ka p1).toNatClampNeg (kb p1) else upd ce (ka p1).toNatClampNeg (-1) := by unfold g_ce_D7 g_ce_X2_judge; rw [if_pos a3, ci, if_pos w]
          have gl : g_lp_L_isDispute lb lp lc lt hm aw tk ce hi kn ka kb kc kd fn p1 = if frN lb lp (kb p1).toNatClampNeg 6 = 0 then upd lp (ka p1).toNatClampNeg (-1) else upd lp (ka p1).toNatClampNeg (nI (kb p1).toNatClampNeg) := by unfold g_lp_L_isDispute; rw [if_neg a0, if_neg b0, if_pos j98, x2, x1]
          have others : ∀ j : Nat, j < kn → upd kd p1 1 j = 0 → ¬ (ka j).toNatClampNeg = (ka p1).toNatClampNeg := fun j hj kj e => by
            have zj : ¬ j = p1 := fun z => by rw [z, upd_at] at kj; exact absurd kj (by decide)
            rw [upd_ne _ _ zj] at kj
            have hj4 := (o4.2.2.2.2.2.1 j hj).2.1
            exact zj (o4.2.2.2.2.2.2 j p1 hj hp kj q (by rw [nI_cl hj4, e, ← y1]))
          have fin : ∀ {x : Int32}, (x = (-1) ∨ (vp_in x 144 ∧ bk x.toNatClampNeg = 0)) → g_ce_D7 hm aw tk ce hi kn ka kb kc kd fn (nI p1) 0 = upd ce (ka p1).toNatClampNeg x → g_lp_L_isDispute lb lp lc lt hm aw tk ce hi kn ka kb kc kd fn p1 = upd lp (ka p1).toNatClampNeg x → f_L_isDispute lb lp lc lt hm aw tk ce hi kn ka kb kc kd fn p1 = 1 ∧ InvB (n + 1) rf bk hm aw tk (g_ce_D7 hm aw tk ce hi kn ka kb kc kd fn (nI p1) 0) hi la sn sa sb sc sd kn ka kb kc (g_kd_D7 hm aw tk ce hi kn ka kb kc kd fn (nI p1) 0) pt (g_fn_D7 hm aw tk ce hi kn ka kb kc kd fn (nI p1) 0) df wn lb (g_lp_L_isDispute lb lp lc lt hm aw tk ce hi kn ka kb kc kd fn p1) (g_lc_L_isDispute lb lp lc lt hm aw tk ce hi kn ka kb kc kd fn p1) (g_lt_L_isDispute lb lp lc lt hm aw tk ce hi kn ka kb kc kd fn p1) lw := by
            intro x hx u1 u2
            refine ⟨by unfold f_L_isDispute; rw [if_neg a0, if_neg b0, if_pos j98, ef, if_pos (rfl : (0 : Int32) = 0)], ?_⟩
            rw [u1, u2, z2, z3, gc, gt]
            exact ⟨⟨g1, g2, g3, g4, g5, g6, rng_upd g7 _ (Or.inr (hx.imp id (fun z => z.1))), g8, hkd, Or.inr (oc.put y2 (Or.inr hx) (Or.inr others))⟩, Or.inr fun j hj => Or.inr (by rw [upd_ne _ _ (by omega)]; exact h.2 j hj)⟩
          rcases lf with ⟨f1, f2, f3⟩ | ⟨f1, f2⟩
          · exact fin (Or.inr x5) (by rw [z1, if_pos f2]) (by rw [gl, f3, ← v1]; rfl)
          · have f1' : ¬ pOn ce (kb p1) = (-1) := f1.resolve_left (fun z => z x5.2)
            exact fin (Or.inl rfl) (by rw [z1, if_neg f1']) (by rw [gl, f2]; rfl)
        · -- right: there was a hit, and no later than the call
          have hp1 : ¬ hi (ka p1).toNatClampNeg = (-1) := by rw [k3]; exact (tk_pl (by omega)).1
          have j98 : j_L_isDispute_98 lp lc p1 = 1 := by unfold j_L_isDispute_98; rw [x1, hs, k3, if_neg (nI_nle (by omega) (by omega))]
          have jg : f_X2_judge hm aw tk ce hi kn ka kb kc kd (nI p1) = 1 := by
            unfold f_X2_judge
            rw [ci, if_neg hp1, if_neg (fun z => absurd (x8.resolve_left hp1) (Int32.not_le.mpr z))]
          have ef : f_D7 hm aw tk ce hi kn ka kb kc kd fn (nI p1) 0 = 1 := by unfold f_D7; rw [if_pos a3, jg]; rfl
          have z1 : g_ce_D7 hm aw tk ce hi kn ka kb kc kd fn (nI p1) 0 = ce := by
            unfold g_ce_D7 g_ce_X2_judge
            rw [if_pos a3, ci, if_neg hp1, if_neg (fun z => absurd (x8.resolve_left hp1) (Int32.not_le.mpr z))]
          have gl : g_lp_L_isDispute lb lp lc lt hm aw tk ce hi kn ka kb kc kd fn p1 = lp := by unfold g_lp_L_isDispute; rw [if_neg a0, if_neg b0, j98]; rfl
          have z3 : g_fn_D7 hm aw tk ce hi kn ka kb kc kd fn (nI p1) 0 = upd fn (f_X2_teamCalled hm aw tk kn ka (nI p1)).toNatClampNeg (fn (f_X2_teamCalled hm aw tk kn ka (nI p1)).toNatClampNeg + 1) := by unfold g_fn_D7 g_fn_X5_dispute; rw [if_pos a3, jg]; rfl
          have gt : g_lt_L_isDispute lb lp lc lt hm aw tk ce hi kn ka kb kc kd fn p1 = adA lt (3 * (f_X2_teamCalled hm aw tk kn ka (nI p1)).toNatClampNeg + 1) 1 := by
            unfold g_lt_L_isDispute f_X2_teamCalled
            rw [if_neg a0, if_neg b0, j98, if_neg (by decide), x1, ← y1, hC.tm.1, hC.tm.2.1, ci]
            split <;> rfl
          have htm : (f_X2_teamCalled hm aw tk kn ka (nI p1)).toNatClampNeg < 6 := in_cl (team_in hC.tm.2.2.1 hC.tm.2.2.2)
          refine ⟨by unfold f_L_isDispute; rw [if_neg a0, if_neg b0, j98, if_neg (by decide), ef, if_pos (rfl : (1 : Int32) = 1)], ?_⟩
          rw [z1, z2, z3, gl, gc, gt]
          exact ⟨⟨g1, g2, hC.t.fine hn htm, g4, g5, g6, g7, g8, hkd, Or.inr oc⟩, Or.inr fun j hj => Or.inr (h.2 j hj)⟩
      · -- disputed before
        have b0 : lc (40 + p1) = 1 := by rw [x3, q]
        have a3 : k_X5_dispute hm aw tk ce hi kn ka kb kc kd fn (nI p1) = 3 := by unfold k_X5_dispute; rw [if_neg hc, ci, q]; rfl
        have ef : f_D7 hm aw tk ce hi kn ka kb kc kd fn (nI p1) 0 = (-10) := by unfold f_D7; rw [a3]; rfl
        refine ⟨?_, same (k := 3) (by decide) a3 (by unfold g_lp_L_isDispute; rw [if_neg a0, if_pos b0]) (by unfold g_lc_L_isDispute; rw [if_neg a0, if_pos b0]) (by unfold g_lt_L_isDispute; rw [if_neg a0, if_pos b0])⟩
        unfold f_L_isDispute
        rw [if_neg a0, if_pos b0, ef, if_pos (rfl : (-10 : Int32) = -10)]
