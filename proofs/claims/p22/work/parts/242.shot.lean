theorem fly_far (tk : Int32) (sd : Nat → Int32) (m : Nat) (x : Int32) : ∀ n : Nat, n ≤ m → flyN tk (upd sd m x) n = flyN tk sd n
  | 0, _ => by rw [flyN, flyN]
  | n + 1, h => by rw [flyN, flyN, fly_far tk sd m x n (by omega), upd_ne _ _ (by omega)]
theorem op_shot {n : Nat} {rf : Nat → Int32} {bk : Nat → Int32} {hm : Int32} {aw : Int32} {tk : Int32} {ce : Nat → Int32} {hi : Nat → Int32} {la : Nat → Int32} {sn : Nat} {sa : Nat → Int32} {sb : Nat → Int32} {sc : Nat → Int32} {sd : Nat → Int32} {kn : Nat} {ka : Nat → Int32} {kb : Nat → Int32} {kc : Nat → Int32} {kd : Nat → Int32} {pt : Nat → Int32} {fn : Nat → Int32} {df : Nat → Int32} {wn : Nat → Nat → Int32} {lb : Nat → Int32} {lp : Nat → Int32} {lc : Nat → Int32} {lt : Nat → Int32} {lw : Nat → Int32} (hn : n < 60) (h : InvA n rf bk hm aw tk ce hi la sn sa sb sc sd kn ka kb kc kd pt fn df wn lb lp lc lt lw) {p1 p2 : Nat} (h1 : p1 ≤ 6) (h2 : p2 ≤ 144) : f_L_isShot lb lp hm aw tk ce la sn sa sb sc sd p1 p2 = 1 ∧ InvB (n + 1) rf bk hm aw tk ce hi (g_la_D4 hm aw tk ce la sn sa sb sc sd (nI p1) (nI p2)) (g_sn_D4 hm aw tk ce la sn sa sb sc sd (nI p1) (nI p2)) (g_sa_D4 hm aw tk ce la sn sa sb sc sd (nI p1) (nI p2)) (g_sb_D4 hm aw tk ce la sn sa sb sc sd (nI p1) (nI p2)) (g_sc_D4 hm aw tk ce la sn sa sb sc sd (nI p1) (nI p2)) (g_sd_D4 hm aw tk ce la sn sa sb sc sd (nI p1) (nI p2)) kn ka kb kc kd pt fn df wn (g_lb_L_isShot lb lp hm aw tk ce la sn sa sb sc sd p1 p2) (g_lp_L_isShot lb lp hm aw tk ce la sn sa sb sc sd p1 p2) lc lt lw := by
  have hC := h.1
  have e14 := hC.b14
  have go : ∀ {x k : Int32}, (k = 1 ∧ x = (-30) ∨ k = 3 ∧ x = (-10)) → j_L_isShot_74 p1 p2 lb lp = 0 → j_L_isShot_113 p1 p2 lb lp = x → k_X5_shoot hm aw tk ce la sn sa sb sc sd (nI p1) (nI p2) = k → f_L_isShot lb lp hm aw tk ce la sn sa sb sc sd p1 p2 = 1 ∧ InvB (n + 1) rf bk hm aw tk ce hi (g_la_D4 hm aw tk ce la sn sa sb sc sd (nI p1) (nI p2)) (g_sn_D4 hm aw tk ce la sn sa sb sc sd (nI p1) (nI p2)) (g_sa_D4 hm aw tk ce la sn sa sb sc sd (nI p1) (nI p2)) (g_sb_D4 hm aw tk ce la sn sa sb sc sd (nI p1) (nI p2)) (g_sc_D4 hm aw tk ce la sn sa sb sc sd (nI p1) (nI p2)) (g_sd_D4 hm aw tk ce la sn sa sb sc sd (nI p1) (nI p2)) kn ka kb kc kd pt fn df wn (g_lb_L_isShot lb lp hm aw tk ce la sn sa sb sc sd p1 p2) (g_lp_L_isShot lb lp hm aw tk ce la sn sa sb sc sd p1 p2) lc lt lw := by
    intro x k hx a0 a1 a3
    have k0 : ¬ k = 0 := by rcases hx with ⟨e, -⟩ | ⟨e, -⟩ <;> rw [e] <;> decide
    have gl : g_lp_L_isShot lb lp hm aw tk ce la sn sa sb sc sd p1 p2 = lp := by unfold g_lp_L_isShot; rw [if_pos a0]
    have gb : g_lb_L_isShot lb lp hm aw tk ce la sn sa sb sc sd p1 p2 = lb := by unfold g_lb_L_isShot; rw [if_pos a0]
    have ef : f_D4 hm aw tk ce la sn sa sb sc sd (nI p1) (nI p2) = x := by
      unfold f_D4
      rw [a3, if_neg k0]
      rcases hx with ⟨e1, e2⟩ | ⟨e1, e2⟩ <;> rw [e1, e2] <;> rfl
    have z1 : g_la_D4 hm aw tk ce la sn sa sb sc sd (nI p1) (nI p2) = la := by unfold g_la_D4; rw [a3, if_neg k0]
    have z2 : g_sn_D4 hm aw tk ce la sn sa sb sc sd (nI p1) (nI p2) = sn := by unfold g_sn_D4; rw [a3, if_neg k0]
    have z3 : g_sa_D4 hm aw tk ce la sn sa sb sc sd (nI p1) (nI p2) = sa := by unfold g_sa_D4; rw [a3, if_neg k0]
    have z4 : g_sb_D4 hm aw tk ce la sn sa sb sc sd (nI p1) (nI p2) = sb := by unfold g_sb_D4; rw [a3, if_neg k0]
    have z5 : g_sc_D4 hm aw tk ce la sn sa sb sc sd (nI p1) (nI p2) = sc := by unfold g_sc_D4; rw [a3, if_neg k0]
    have z6 : g_sd_D4 hm aw tk ce la sn sa sb sc sd (nI p1) (nI p2) = sd := by unfold g_sd_D4; rw [a3, if_neg k0]
    unfold f_L_isShot
    rw [gl, gb, ef, a1, z1, z2, z3, z4, z5, z6, if_pos a0, if_pos (rfl : x = x), Int32.add_zero, if_pos (rfl : flyN tk sd sn = flyN tk sd sn)]
    exact ⟨rfl, h.keep⟩
  by_cases c1 : p1 < 6
  · have e1 := player_in (vin (j := p1) c1)
    have n1 : ¬ 6 ≤ nI p1 := nI_ge (a := p1) (b := 6) c1 (by decide)
    by_cases c2 : p2 < 144
    · have e2 := cell_in (vin (j := p2) c2)
      have n2 : ¬ 144 ≤ nI p2 := nI_ge (a := p2) (b := 144) c2 (by decide)
      have j19 : j_L_isShot_19 p1 p2 = 1 := by unfold j_L_isShot_19; rw [if_neg n1, if_neg n2]
      have no : j_L_isShot_74 p1 p2 lb lp = 0 → k_X5_shoot hm aw tk ce la sn sa sb sc sd (nI p1) (nI p2) = 3 → f_L_isShot lb lp hm aw tk ce la sn sa sb sc sd p1 p2 = 1 ∧ InvB (n + 1) rf bk hm aw tk ce hi (g_la_D4 hm aw tk ce la sn sa sb sc sd (nI p1) (nI p2)) (g_sn_D4 hm aw tk ce la sn sa sb sc sd (nI p1) (nI p2)) (g_sa_D4 hm aw tk ce la sn sa sb sc sd (nI p1) (nI p2)) (g_sb_D4 hm aw tk ce la sn sa sb sc sd (nI p1) (nI p2)) (g_sc_D4 hm aw tk ce la sn sa sb sc sd (nI p1) (nI p2)) (g_sd_D4 hm aw tk ce la sn sa sb sc sd (nI p1) (nI p2)) kn ka kb kc kd pt fn df wn (g_lb_L_isShot lb lp hm aw tk ce la sn sa sb sc sd p1 p2) (g_lp_L_isShot lb lp hm aw tk ce la sn sa sb sc sd p1 p2) lc lt lw := fun a1 a2 =>
        go (Or.inr ⟨rfl, rfl⟩) a1 (by unfold j_L_isShot_113; rw [j19, a1]; rfl) a2
      rcases hC.onp with ⟨t1, -⟩ | ⟨T, o1, o2, o3, o4⟩
      · refine no ?_ ?_
        · unfold j_L_isShot_74
          rw [j19, e14, t1]
          rfl
        · unfold k_X5_shoot
          rw [e1, if_pos (rfl : (0 : Int32) = 0), e2, if_pos (rfl : (0 : Int32) = 0), t1, (rd_off hm aw).1]
          rfl
      · obtain ⟨tn1, tn2⟩ := tk_pl (T := T) (by omega)
        have er := (rd_on hm aw (tk := tk) (by rw [o2]; exact tn1)).1
        obtain ⟨l1, l2⟩ := o4.2.2.1 p1 c1
        have ci : (nI p1).toNatClampNeg = p1 := nI_clamp (by omega)
        have n14 : ¬ lb 14 < 0 := by rw [e14, o2]; exact tn2
        have jj : ∀ {x : Int32}, (if ce p1 < 0 then 0 else if la p1 = tk then 0 else if ce p1 = nI p2 then 0 else if 100 ≤ nI sn then 0 else 1) = x → j_L_isShot_74 p1 p2 lb lp = x := by
          intro x hx
          unfold j_L_isShot_74
          rw [j19, if_neg (by decide), if_neg n14, l1, l2, e14, o4.2.1.1]
          exact hx
        have kk : ∀ {x : Int32}, (if 0 ≤ ce p1 then (if ce p1 = nI p2 then 3 else if f_X2_mayFire hm aw tk la sn (nI p1) = 0 then 3 else 0) else 3) = x → k_X5_shoot hm aw tk ce la sn sa sb sc sd (nI p1) (nI p2) = x := by
          intro x hx
          unfold k_X5_shoot
          rw [e1, if_pos (rfl : (0 : Int32) = 0), e2, if_pos (rfl : (0 : Int32) = 0), er, if_pos (rfl : (0 : Int32) = 0), ci]
          exact hx
        have mf : f_X2_mayFire hm aw tk la sn (nI p1) = if la p1 = tk then 0 else if 100 ≤ nI sn then 0 else 1 := by unfold f_X2_mayFire; rw [ci]
        by_cases q1 : ce p1 < 0
        · exact no (jj (if_pos q1)) (kk (if_neg (fun z => absurd q1 (Int32.not_lt.mpr z))))
        · have q2 : 0 ≤ ce p1 := Int32.not_lt.mp q1
          have hv := hC.cei p1 c1 q2
          by_cases q3 : la p1 = tk
          · refine no (jj (by rw [if_neg q1, if_pos q3])) (kk ?_)
            rw [if_pos q2, mf, if_pos q3]
            split <;> rfl
          · by_cases q4 : ce p1 = nI p2
            · exact no (jj (by rw [if_neg q1, if_neg q3, if_pos q4])) (kk (by rw [if_pos q2, if_pos q4]))
            · by_cases q5 : 100 ≤ nI sn
              · refine no (jj (by rw [if_neg q1, if_neg q3, if_neg q4, if_pos q5])) (kk ?_)
                rw [if_pos q2, if_neg q4, mf, if_neg q3, if_pos q5]
                rfl
              · have a0 : j_L_isShot_74 p1 p2 lb lp = 1 := jj (by rw [if_neg q1, if_neg q3, if_neg q4, if_neg q5])
                have a3 : k_X5_shoot hm aw tk ce la sn sa sb sc sd (nI p1) (nI p2) = 0 := kk (by rw [if_pos q2, if_neg q4, mf, if_neg q3, if_neg q5]; rfl)
                have hsn : sn < 100 := Nat.lt_of_not_le fun z => q5 (nI_le (a := 100) (b := sn) z (by have := hC.cnt; omega))
                obtain ⟨y1, y2⟩ := ceq hv
                have hd : f_X1_distance (ce p1) (nI p2) = nI (apN (ce p1).toNatClampNeg p2) := (congrArg (fun x => f_X1_distance x (nI p2)) y1).trans (dist_ap y2 c2)
                have hap := apN_lt y2 c2
                have hap0 : 0 < apN (ce p1).toNatClampNeg p2 := by
                  have hne : (ce p1).toNatClampNeg ≠ p2 := fun z => q4 (y1.trans (by rw [z]))
                  have hdef : apN (ce p1).toNatClampNeg p2 = max (max ((ce p1).toNatClampNeg / 12 - p2 / 12) (p2 / 12 - (ce p1).toNatClampNeg / 12)) (max ((ce p1).toNatClampNeg % 12 - p2 % 12) (p2 % 12 - (ce p1).toNatClampNeg % 12)) := rfl
                  omega
                have har : (f_X1_distance (ce p1) (nI p2) + 3) / 4 = nI ((apN (ce p1).toNatClampNeg p2 + 3) / 4) := by
                  rw [hd]
                  exact (congrArg (fun x : Int32 => x / 4) (nI_add _ 3)).trans (pk_div (d := 4) (by omega) (by decide) (by decide))
                have gl : g_lp_L_isShot lb lp hm aw tk ce la sn sa sb sc sd p1 p2 = upd lp (12 + p1) (lb 14) := by unfold g_lp_L_isShot; rw [a0]; rfl
                have gb : g_lb_L_isShot lb lp hm aw tk ce la sn sa sb sc sd p1 p2 = upd lb 15 (lb 15 + 1) := by unfold g_lb_L_isShot; rw [a0]; rfl
                have ef : f_D4 hm aw tk ce la sn sa sb sc sd (nI p1) (nI p2) = tk + nI ((apN (ce p1).toNatClampNeg p2 + 3) / 4) := by unfold f_D4; rw [if_pos a3, ci, har]
                have e113 : j_L_isShot_113 p1 p2 lb lp = tk + nI ((apN (ce p1).toNatClampNeg p2 + 3) / 4) := by unfold j_L_isShot_113; rw [j19, a0, ← l1, ← e14]; rfl
                have z1 : g_la_D4 hm aw tk ce la sn sa sb sc sd (nI p1) (nI p2) = upd la p1 tk := by unfold g_la_D4; rw [if_pos a3, ci]
                have z2 : g_sn_D4 hm aw tk ce la sn sa sb sc sd (nI p1) (nI p2) = sn + 1 := by unfold g_sn_D4; rw [if_pos a3]
                have z3 : g_sa_D4 hm aw tk ce la sn sa sb sc sd (nI p1) (nI p2) = upd sa sn (nI p1) := by unfold g_sa_D4; rw [if_pos a3]
                have z4 : g_sb_D4 hm aw tk ce la sn sa sb sc sd (nI p1) (nI p2) = upd sb sn (ce p1) := by unfold g_sb_D4; rw [if_pos a3, ci]
                have z5 : g_sc_D4 hm aw tk ce la sn sa sb sc sd (nI p1) (nI p2) = upd sc sn (nI p2) := by unfold g_sc_D4; rw [if_pos a3]
                have z6 : g_sd_D4 hm aw tk ce la sn sa sb sc sd (nI p1) (nI p2) = upd sd sn (tk + nI ((apN (ce p1).toNatClampNeg p2 + 3) / 4)) := by unfold g_sd_D4 g_sd_X2_fire; rw [if_pos a3, ci, har]
                have hfl : flyN tk (upd sd sn (tk + nI ((apN (ce p1).toNatClampNeg p2 + 3) / 4))) (sn + 1) = flyN tk sd sn + 1 := by
                  rw [flyN, fly_far tk sd sn _ sn (Nat.le_refl sn), upd_at, if_neg]
                  rw [o2, nI_add]
                  exact nI_ge (by omega) (by omega)
                unfold f_L_isShot
                rw [gl, gb, ef, e113, z1, z2, z3, z4, z5, z6, hfl, if_neg (show ¬ j_L_isShot_74 p1 p2 lb lp = 0 by rw [a0]; decide), if_pos (rfl : tk + nI ((apN (ce p1).toNatClampNeg p2 + 3) / 4) = tk + nI ((apN (ce p1).toNatClampNeg p2 + 3) / 4)), if_pos (rfl : flyN tk sd sn + 1 = flyN tk sd sn + 1)]
                refine ⟨rfl, ?_, Or.inr fun j hj => Or.inr ?_⟩
                · obtain ⟨g1, g2, g3, g4, g5, g6, g7, g8, g9, g10⟩ := hC.step
                  obtain ⟨w1, w2, w3, w4, w5, w6⟩ := o4.step
                  refine ⟨g1.far (by decide) _, g2.far (by decide) _, g3, ?_, ?_, ?_, rng_far g7 (by omega) _, ⟨by omega, g8.2⟩, g9, Or.inr ⟨w1, ⟨?_, ?_⟩, fun j hj => ⟨?_, ?_⟩, w4, fun j hj => ?_, w6⟩⟩
                  · rw [upd_ne _ _ (by decide), upd_ne _ _ (by decide)]; exact g4
                  · rw [upd_ne _ _ (by decide)]; exact g5
                  · rw [upd_ne _ _ (by decide)]; exact g6
                  · rw [upd_at, w2.1, nI_1]
                  · rw [upd_ne _ _ (by decide)]; exact w2.2
                  · rw [upd_ne _ _ (by omega)]; exact (w3 j hj).1
                  · by_cases z : j = p1
                    · rw [z, upd_at, upd_at]; exact e14
                    · rw [upd_ne _ _ (by omega), upd_ne _ _ z]; exact (w3 j hj).2
                  · by_cases z : j = sn
                    · rw [z, upd_at, upd_at]; exact ⟨hv, vin c2⟩
                    · rw [upd_ne _ _ z, upd_ne _ _ z]; exact w5 j (by omega)
                · rw [upd_ne _ _ (by omega)]; exact h.2 j hj
    · have n2 : 144 ≤ nI p2 := nI_le (a := 144) (b := p2) (by omega) (by omega)
      have j19 : j_L_isShot_19 p1 p2 = 0 := by unfold j_L_isShot_19; rw [if_neg n1, if_pos n2]
      exact go (Or.inl ⟨rfl, rfl⟩) (by unfold j_L_isShot_74; rw [if_pos j19]) (by unfold j_L_isShot_113; rw [if_pos j19]) (by unfold k_X5_shoot; rw [e1, if_pos (rfl : (0 : Int32) = 0), cell_out (vout (by omega) (by omega)), if_neg (by decide)])
  · have n1 : 6 ≤ nI p1 := nI_le (a := 6) (b := p1) (by omega) (by omega)
    have j19 : j_L_isShot_19 p1 p2 = 0 := by unfold j_L_isShot_19; rw [if_pos n1]
    exact go (Or.inl ⟨rfl, rfl⟩) (by unfold j_L_isShot_74; rw [if_pos j19]) (by unfold j_L_isShot_113; rw [if_pos j19]) (by unfold k_X5_shoot; rw [player_out (vout (by omega) (by omega)), if_neg (by decide)])
