theorem op_call {n : Nat} {rf : Nat → Int32} {bk : Nat → Int32} {hm : Int32} {aw : Int32} {tk : Int32} {ce : Nat → Int32} {hi : Nat → Int32} {la : Nat → Int32} {sn : Nat} {sa : Nat → Int32} {sb : Nat → Int32} {sc : Nat → Int32} {sd : Nat → Int32} {kn : Nat} {ka : Nat → Int32} {kb : Nat → Int32} {kc : Nat → Int32} {kd : Nat → Int32} {pt : Nat → Int32} {fn : Nat → Int32} {df : Nat → Int32} {wn : Nat → Nat → Int32} {lb : Nat → Int32} {lp : Nat → Int32} {lc : Nat → Int32} {lt : Nat → Int32} {lw : Nat → Int32} (hn : n < 60) (h : InvA n rf bk hm aw tk ce hi la sn sa sb sc sd kn ka kb kc kd pt fn df wn lb lp lc lt lw) {p1 p2 : Nat} (h1 : p1 ≤ 2) (h2 : p2 ≤ 6) (h16 : ¬ 18 < lb 16) : f_L_isCall lb lp lc rf bk hm aw tk ce kn ka kb kc kd p1 p2 = 1 ∧ InvB (n + 1) rf bk hm aw tk (g_ce_D6 rf bk hm aw tk ce kn ka kb kc kd (nI p1) (nI p2)) hi la sn sa sb sc sd (g_kn_D6 rf bk hm aw tk ce kn ka kb kc kd (nI p1) (nI p2)) (g_ka_D6 rf bk hm aw tk ce kn ka kb kc kd (nI p1) (nI p2)) (g_kb_D6 rf bk hm aw tk ce kn ka kb kc kd (nI p1) (nI p2)) (g_kc_D6 rf bk hm aw tk ce kn ka kb kc kd (nI p1) (nI p2)) (g_kd_D6 rf bk hm aw tk ce kn ka kb kc kd (nI p1) (nI p2)) pt fn df wn (g_lb_L_isCall lb lp lc rf bk hm aw tk ce kn ka kb kc kd p1 p2) (g_lp_L_isCall lb lp lc rf bk hm aw tk ce kn ka kb kc kd p1 p2) (g_lc_L_isCall lb lp lc rf bk hm aw tk ce kn ka kb kc kd p1 p2) lt lw := by
  have hC := h.1
  have e14 := hC.b14
  have go : ∀ {x k : Int32}, (k = 1 ∧ x = (-30) ∨ k = 3 ∧ x = (-10)) → j_L_isCall_62 p1 p2 lb lp bk = 0 → j_L_isCall_88 p1 p2 lb lp bk = x → k_X5_call rf bk hm aw tk ce kn ka kb kc kd (nI p1) (nI p2) = k → f_L_isCall lb lp lc rf bk hm aw tk ce kn ka kb kc kd p1 p2 = 1 ∧ InvB (n + 1) rf bk hm aw tk (g_ce_D6 rf bk hm aw tk ce kn ka kb kc kd (nI p1) (nI p2)) hi la sn sa sb sc sd (g_kn_D6 rf bk hm aw tk ce kn ka kb kc kd (nI p1) (nI p2)) (g_ka_D6 rf bk hm aw tk ce kn ka kb kc kd (nI p1) (nI p2)) (g_kb_D6 rf bk hm aw tk ce kn ka kb kc kd (nI p1) (nI p2)) (g_kc_D6 rf bk hm aw tk ce kn ka kb kc kd (nI p1) (nI p2)) (g_kd_D6 rf bk hm aw tk ce kn ka kb kc kd (nI p1) (nI p2)) pt fn df wn (g_lb_L_isCall lb lp lc rf bk hm aw tk ce kn ka kb kc kd p1 p2) (g_lp_L_isCall lb lp lc rf bk hm aw tk ce kn ka kb kc kd p1 p2) (g_lc_L_isCall lb lp lc rf bk hm aw tk ce kn ka kb kc kd p1 p2) lt lw := by
    intro x k hx a0 a1 a3
    have k0 : ¬ k = 0 := by rcases hx with ⟨e, -⟩ | ⟨e, -⟩ <;> rw [e] <;> decide
    have gl : g_lp_L_isCall lb lp lc rf bk hm aw tk ce kn ka kb kc kd p1 p2 = lp := by unfold g_lp_L_isCall; rw [if_pos a0]
    have gb : g_lb_L_isCall lb lp lc rf bk hm aw tk ce kn ka kb kc kd p1 p2 = lb := by unfold g_lb_L_isCall; rw [if_pos a0]
    have gc : g_lc_L_isCall lb lp lc rf bk hm aw tk ce kn ka kb kc kd p1 p2 = lc := by unfold g_lc_L_isCall; rw [if_pos a0]
    have ef : f_D6 rf bk hm aw tk ce kn ka kb kc kd (nI p1) (nI p2) = x := by
      unfold f_D6
      rw [a3, if_neg k0]
      rcases hx with ⟨e1, e2⟩ | ⟨e1, e2⟩ <;> rw [e1, e2] <;> rfl
    have z1 : g_ce_D6 rf bk hm aw tk ce kn ka kb kc kd (nI p1) (nI p2) = ce := by unfold g_ce_D6; rw [a3, if_neg k0]
    have z2 : g_kn_D6 rf bk hm aw tk ce kn ka kb kc kd (nI p1) (nI p2) = kn := by unfold g_kn_D6; rw [a3, if_neg k0]
    have z3 : g_ka_D6 rf bk hm aw tk ce kn ka kb kc kd (nI p1) (nI p2) = ka := by unfold g_ka_D6; rw [a3, if_neg k0]
    have z4 : g_kb_D6 rf bk hm aw tk ce kn ka kb kc kd (nI p1) (nI p2) = kb := by unfold g_kb_D6; rw [a3, if_neg k0]
    have z5 : g_kc_D6 rf bk hm aw tk ce kn ka kb kc kd (nI p1) (nI p2) = kc := by unfold g_kc_D6; rw [a3, if_neg k0]
    have z6 : g_kd_D6 rf bk hm aw tk ce kn ka kb kc kd (nI p1) (nI p2) = kd := by unfold g_kd_D6; rw [a3, if_neg k0]
    unfold f_L_isCall
    rw [gl, gb, gc, ef, a1, z1, z2, z3, z4, z5, z6, if_pos (rfl : x = x)]
    exact ⟨rfl, h.keep⟩
  by_cases c1 : p1 < 2
  · have e1 := referee_in (vin (j := p1) c1)
    have n1 : ¬ 2 ≤ nI p1 := nI_ge (a := p1) (b := 2) c1 (by decide)
    by_cases c2 : p2 < 6
    · have e2 := player_in (vin (j := p2) c2)
      have n2 : ¬ 6 ≤ nI p2 := nI_ge (a := p2) (b := 6) c2 (by decide)
      have j18 : j_L_isCall_18 p1 p2 = 1 := by unfold j_L_isCall_18; rw [if_neg n1, if_neg n2]
      have no : j_L_isCall_62 p1 p2 lb lp bk = 0 → k_X5_call rf bk hm aw tk ce kn ka kb kc kd (nI p1) (nI p2) = 3 → f_L_isCall lb lp lc rf bk hm aw tk ce kn ka kb kc kd p1 p2 = 1 ∧ InvB (n + 1) rf bk hm aw tk (g_ce_D6 rf bk hm aw tk ce kn ka kb kc kd (nI p1) (nI p2)) hi la sn sa sb sc sd (g_kn_D6 rf bk hm aw tk ce kn ka kb kc kd (nI p1) (nI p2)) (g_ka_D6 rf bk hm aw tk ce kn ka kb kc kd (nI p1) (nI p2)) (g_kb_D6 rf bk hm aw tk ce kn ka kb kc kd (nI p1) (nI p2)) (g_kc_D6 rf bk hm aw tk ce kn ka kb kc kd (nI p1) (nI p2)) (g_kd_D6 rf bk hm aw tk ce kn ka kb kc kd (nI p1) (nI p2)) pt fn df wn (g_lb_L_isCall lb lp lc rf bk hm aw tk ce kn ka kb kc kd p1 p2) (g_lp_L_isCall lb lp lc rf bk hm aw tk ce kn ka kb kc kd p1 p2) (g_lc_L_isCall lb lp lc rf bk hm aw tk ce kn ka kb kc kd p1 p2) lt lw := fun a1 a2 =>
        go (Or.inr ⟨rfl, rfl⟩) a1 (by unfold j_L_isCall_88; rw [j18, a1]; rfl) a2
      rcases hC.onp with ⟨t1, -⟩ | ⟨T, o1, o2, o3, o4⟩
      · refine no ?_ ?_
        · unfold j_L_isCall_62
          rw [j18, e14, t1]
          rfl
        · unfold k_X5_call
          rw [e1, if_pos (rfl : (0 : Int32) = 0), e2, if_pos (rfl : (0 : Int32) = 0), t1, (rd_off hm aw).1]
          rfl
      · obtain ⟨tn1, tn2⟩ := tk_pl (T := T) (by omega)
        have er := (rd_on hm aw (tk := tk) (by rw [o2]; exact tn1)).1
        obtain ⟨l1, l2⟩ := o4.2.2.1 p2 c2
        have r1 := (hC.r p1 c1).1
        have ci : (nI p1).toNatClampNeg = p1 := nI_clamp (by omega)
        have ci2 : (nI p2).toNatClampNeg = p2 := nI_clamp (by omega)
        have n14 : ¬ lb 14 < 0 := by rw [e14, o2]; exact tn2
        have hkn : kn ≤ 18 := Nat.le_of_not_lt fun z => h16 (by rw [o4.2.1.2]; exact nI_lt (a := 18) (b := kn) z (by have := hC.cnt; omega))
        have mc : ¬ f_X2_mayCall hm aw tk kn = 0 := by unfold f_X2_mayCall; rw [if_neg (show ¬ (512 : Int32) ≤ nI kn from nI_ge (a := kn) (b := 512) (by omega) (by decide))]; decide
        have jj : ∀ {x : Int32}, (if ce p2 < 0 then 0 else if sI (SgtC bk (rf p1).toNatClampNeg (ce p2).toNatClampNeg) = 0 then 0 else 1) = x → j_L_isCall_62 p1 p2 lb lp bk = x := by
          intro x hx
          unfold j_L_isCall_62
          rw [j18, if_neg (by decide), if_neg n14, l1, r1]
          exact hx
        have kk : ∀ {x : Int32}, (if 0 ≤ ce p2 then (if sI (SgtC bk (rf p1).toNatClampNeg (ce p2).toNatClampNeg) = 0 then 3 else if f_X2_mayCall hm aw tk kn = 0 then 3 else 0) else 3) = x → k_X5_call rf bk hm aw tk ce kn ka kb kc kd (nI p1) (nI p2) = x := by
          intro x hx
          unfold k_X5_call
          rw [e1, if_pos (rfl : (0 : Int32) = 0), e2, if_pos (rfl : (0 : Int32) = 0), er, if_pos (rfl : (0 : Int32) = 0), ci, ci2]
          exact hx
        by_cases q1 : ce p2 < 0
        · exact no (jj (if_pos q1)) (kk (if_neg (fun z => absurd q1 (Int32.not_lt.mpr z))))
        · have q2 : 0 ≤ ce p2 := Int32.not_lt.mp q1
          have hv := hC.cei p2 c2 q2
          by_cases q3 : sI (SgtC bk (rf p1).toNatClampNeg (ce p2).toNatClampNeg) = 0
          · exact no (jj (by rw [if_neg q1, if_pos q3])) (kk (by rw [if_pos q2, if_pos q3]))
          · have a0 : j_L_isCall_62 p1 p2 lb lp bk = 1 := jj (by rw [if_neg q1, if_neg q3])
            have a3 : k_X5_call rf bk hm aw tk ce kn ka kb kc kd (nI p1) (nI p2) = 0 := kk (by rw [if_pos q2, if_neg q3, if_neg mc])
            have e16 : (lb 16).toNatClampNeg = kn := by rw [o4.2.1.2]; exact nI_clamp (by omega)
            have gl : g_lp_L_isCall lb lp lc rf bk hm aw tk ce kn ka kb kc kd p1 p2 = upd lp p2 (-2) := by unfold g_lp_L_isCall; rw [a0]; rfl
            have gb : g_lb_L_isCall lb lp lc rf bk hm aw tk ce kn ka kb kc kd p1 p2 = upd lb 16 (lb 16 + 1) := by unfold g_lb_L_isCall; rw [a0]; rfl
            have gc : g_lc_L_isCall lb lp lc rf bk hm aw tk ce kn ka kb kc kd p1 p2 = upd (upd (upd lc kn (nI p2)) (20 + kn) (ce p2)) (40 + kn) 0 := by unfold g_lc_L_isCall; rw [a0, e16, l1]; rfl
            have ef : f_D6 rf bk hm aw tk ce kn ka kb kc kd (nI p1) (nI p2) = nI kn := by unfold f_D6; rw [if_pos a3]
            have e88 : j_L_isCall_88 p1 p2 lb lp bk = nI kn := by unfold j_L_isCall_88; rw [j18, a0]; exact o4.2.1.2
            have z1 : g_ce_D6 rf bk hm aw tk ce kn ka kb kc kd (nI p1) (nI p2) = upd ce p2 (-2) := by unfold g_ce_D6; rw [if_pos a3, ci2]
            have z2 : g_kn_D6 rf bk hm aw tk ce kn ka kb kc kd (nI p1) (nI p2) = kn + 1 := by unfold g_kn_D6; rw [if_pos a3]
            have z3 : g_ka_D6 rf bk hm aw tk ce kn ka kb kc kd (nI p1) (nI p2) = upd ka kn (nI p2) := by unfold g_ka_D6; rw [if_pos a3]
            have z4 : g_kb_D6 rf bk hm aw tk ce kn ka kb kc kd (nI p1) (nI p2) = upd kb kn (ce p2) := by unfold g_kb_D6; rw [if_pos a3, ci2]
            have z5 : g_kc_D6 rf bk hm aw tk ce kn ka kb kc kd (nI p1) (nI p2) = upd kc kn tk := by unfold g_kc_D6; rw [if_pos a3]
            have z6 : g_kd_D6 rf bk hm aw tk ce kn ka kb kc kd (nI p1) (nI p2) = upd kd kn 0 := by unfold g_kd_D6; rw [if_pos a3]
            unfold f_L_isCall
            rw [gl, gb, gc, ef, e88, z1, z2, z3, z4, z5, z6, if_pos (rfl : nI kn = nI kn)]
            have o5 := o4.step.put c2 (x := -2) (Or.inl rfl) (Or.inl rfl)
            refine ⟨rfl, ?_, Or.inr fun j hj => Or.inr ?_⟩
            · obtain ⟨g1, g2, g3, g4, g5, g6, g7, g8, g9, g10⟩ := hC.step
              obtain ⟨w1, w2, w3, w4, w5, w6⟩ := o5
              have hb16 : upd lb 16 (lb 16 + 1) 16 = nI (kn + 1) := by rw [upd_at, o4.2.1.2, nI_1]
              refine ⟨g1.far (by decide) _, g2.far (by decide) _, g3, ?_, ?_, ⟨kn + 1, by omega, hb16⟩, rng_upd g7 p2 (Or.inl rfl), ⟨g8.1, by omega⟩, fun j => ?_, Or.inr ⟨w1, ⟨?_, hb16⟩, w3, w4, w5, ?_, ?_⟩⟩
              · rw [upd_ne _ _ (by decide), upd_ne _ _ (by decide)]; exact g4
              · rw [upd_ne _ _ (by decide)]; exact g5
              · by_cases z : j = kn
                · rw [z, upd_at]; exact Or.inl rfl
                · rw [upd_ne _ _ z]; exact g9 j
              · rw [upd_ne _ _ (by decide)]; exact w2.1
              · intro j hj
                by_cases z : j = kn
                · subst z
                  refine ⟨⟨?_, ?_, ?_⟩, ?_, ⟨?_, ?_⟩, fun _ => ⟨?_, ?_⟩⟩
                  · rw [upd_ne _ _ (by omega), upd_ne _ _ (by omega), upd_at, upd_at]
                  · rw [upd_ne _ _ (by omega), upd_at, upd_at]
                  · rw [upd_at, upd_at]
                  · rw [upd_at]; exact vin c2
                  · rw [upd_at]; exact hv
                  · rw [upd_at]; exact o4.2.2.2.1.2 p2 c2 q2
                  · rw [upd_at, ci2, upd_at]
                  · rw [upd_at, upd_at, ci2]
                    rcases o3 p2 c2 with w | ⟨k, k1, k2, k3⟩
                    · exact Or.inl w
                    · right; rw [k3, o2]; exact nI_le k2 (by omega)
                · obtain ⟨⟨x1, x2, x3⟩, x4, x5, x6⟩ := w6.1 j (by omega)
                  rw [upd_ne ka _ z, upd_ne kb _ z, upd_ne kc _ z, upd_ne kd _ z]
                  refine ⟨⟨?_, ?_, ?_⟩, x4, x5, x6⟩
                  · rw [upd_ne _ _ (by omega), upd_ne _ _ (by omega), upd_ne _ _ (by omega)]; exact x1
                  · rw [upd_ne _ _ (by omega), upd_ne _ _ (by omega), upd_ne _ _ (by omega)]; exact x2
                  · rw [upd_ne _ _ (by omega), upd_ne _ _ (by omega), upd_ne _ _ (by omega)]; exact x3
              · have new : ∀ i : Nat, i < kn → kd i = 0 → ¬ ka i = nI p2 := fun i hi hk q => by
                  have := ((o4.2.2.2.2.2.1 i hi).2.2.2 hk).1
                  rw [q, ci2] at this
                  exact vp_n2 hv this
                intro i j hi hj ki kj hij
                by_cases zi : i = kn
                · by_cases zj : j = kn
                  · omega
                  · rw [zi, upd_at, upd_ne _ _ zj] at hij
                    rw [upd_ne _ _ zj] at kj
                    exact absurd hij.symm (new j (by omega) kj)
                · rw [upd_ne _ _ zi] at ki
                  by_cases zj : j = kn
                  · rw [zj, upd_at, upd_ne _ _ zi] at hij
                    exact absurd hij (new i (by omega) ki)
                  · rw [upd_ne _ _ zj] at kj
                    rw [upd_ne _ _ zi, upd_ne _ _ zj] at hij
                    exact w6.2 i j (by omega) (by omega) ki kj hij
            · rw [upd_ne _ _ (by omega)]; exact h.2 j hj
    · have n2 : 6 ≤ nI p2 := nI_le (a := 6) (b := p2) (by omega) (by omega)
      have j18 : j_L_isCall_18 p1 p2 = 0 := by unfold j_L_isCall_18; rw [if_neg n1, if_pos n2]
      exact go (Or.inl ⟨rfl, rfl⟩) (by unfold j_L_isCall_62; rw [if_pos j18]) (by unfold j_L_isCall_88; rw [if_pos j18]) (by unfold k_X5_call; rw [e1, if_pos (rfl : (0 : Int32) = 0), player_out (vout (by omega) (by omega)), if_neg (by decide)])
  · have n1 : 2 ≤ nI p1 := nI_le (a := 2) (b := p1) (by omega) (by omega)
    have j18 : j_L_isCall_18 p1 p2 = 0 := by unfold j_L_isCall_18; rw [if_pos n1]
    exact go (Or.inl ⟨rfl, rfl⟩) (by unfold j_L_isCall_62; rw [if_pos j18]) (by unfold j_L_isCall_88; rw [if_pos j18]) (by unfold k_X5_call; rw [referee_out (vout (by omega) (by omega)), if_neg (by decide)])
