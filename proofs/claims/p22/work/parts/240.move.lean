/-! ===== each thing that the law does: its answer is the class's, and what they have in common stays ===== -/
theorem Core.onp {n : Nat} {rf : Nat → Int32} {bk : Nat → Int32} {hm : Int32} {aw : Int32} {tk : Int32} {ce : Nat → Int32} {hi : Nat → Int32} {la : Nat → Int32} {sn : Nat} {sa : Nat → Int32} {sb : Nat → Int32} {sc : Nat → Int32} {sd : Nat → Int32} {kn : Nat} {ka : Nat → Int32} {kb : Nat → Int32} {kc : Nat → Int32} {kd : Nat → Int32} {pt : Nat → Int32} {fn : Nat → Int32} {df : Nat → Int32} {wn : Nat → Nat → Int32} {lb : Nat → Int32} {lp : Nat → Int32} {lc : Nat → Int32} {lt : Nat → Int32} {lw : Nat → Int32} (h : Core n rf bk hm aw tk ce hi la sn sa sb sc sd kn ka kb kc kd pt fn df wn lb lp lc lt lw) : (tk = (-1) ∧ Off tk ce hi sn kn) ∨ (∃ T : Nat, T ≤ 50 * n ∧ tk = nI T ∧ hitP T hi ∧ On n bk tk ce hi la sn sb sc kn ka kb kc kd lb lp lc) := by
  rcases h.st with q | q
  · exact Or.inl ⟨q.1, q⟩
  · obtain ⟨T, q1, q2, q3⟩ := q.1
    exact Or.inr ⟨T, q1, q2, q3, q⟩
theorem ceq {x : Int32} (h : vp_in x 144) : x = nI x.toNatClampNeg ∧ x.toNatClampNeg < 144 := ⟨nI_cl h, in_cl h⟩
theorem dist_ap {a b : Nat} (ha : a < 144) (hb : b < 144) : f_X1_distance (nI a) (nI b) = nI (apN a b) := by
  have e1 := ti_abs (x := nI (a / 12) - nI (b / 12)) (ti_s (ti_n (n := a / 12) (by omega)) (ti_n (n := b / 12) (by omega)) (by omega) (by omega)) (by omega)
  have e2 := ti_abs (x := nI (a % 12) - nI (b % 12)) (ti_s (ti_n (n := a % 12) (by omega)) (ti_n (n := b % 12) (by omega)) (by omega) (by omega)) (by omega)
  unfold f_X1_distance z_max
  rw [r12 ha, r12 hb, d12 ha, d12 hb]
  have hap : apN a b = max (max (a / 12 - b / 12) (b / 12 - a / 12)) (max (a % 12 - b % 12) (b % 12 - a % 12)) := rfl
  have hl := apN_lt ha hb
  apply Int32.toInt_inj.mp
  rw [ti_n (by omega)]
  split
  · rename_i q
    rw [Int32.lt_iff_toInt_lt, e1, e2] at q
    rw [e2]
    repeat' split at q
    all_goals (repeat' split)
    all_goals omega
  · rename_i q
    rw [Int32.lt_iff_toInt_lt, e1, e2] at q
    rw [e1]
    repeat' split at q
    all_goals (repeat' split)
    all_goals omega
theorem d3_of {bk : Nat → Int32} {hm aw tk : Int32} {ce : Nat → Int32} {p1 p2 k : Int32} (h : k_X5_move bk hm aw tk ce p1 p2 = k) : (k = 0 → f_D3 bk hm aw tk ce p1 p2 = ce p1.toNatClampNeg ∧ g_ce_D3 bk hm aw tk ce p1 p2 = upd ce p1.toNatClampNeg p2) ∧ (k = 1 → f_D3 bk hm aw tk ce p1 p2 = (-30) ∧ g_ce_D3 bk hm aw tk ce p1 p2 = ce) ∧ (k = 3 → f_D3 bk hm aw tk ce p1 p2 = (-10) ∧ g_ce_D3 bk hm aw tk ce p1 p2 = ce) := by
  unfold f_D3 g_ce_D3
  rw [h]
  exact ⟨fun q => by subst q; exact ⟨rfl, rfl⟩, fun q => by subst q; exact ⟨rfl, rfl⟩, fun q => by subst q; exact ⟨rfl, rfl⟩⟩
theorem op_move {n : Nat} {rf : Nat → Int32} {bk : Nat → Int32} {hm : Int32} {aw : Int32} {tk : Int32} {ce : Nat → Int32} {hi : Nat → Int32} {la : Nat → Int32} {sn : Nat} {sa : Nat → Int32} {sb : Nat → Int32} {sc : Nat → Int32} {sd : Nat → Int32} {kn : Nat} {ka : Nat → Int32} {kb : Nat → Int32} {kc : Nat → Int32} {kd : Nat → Int32} {pt : Nat → Int32} {fn : Nat → Int32} {df : Nat → Int32} {wn : Nat → Nat → Int32} {lb : Nat → Int32} {lp : Nat → Int32} {lc : Nat → Int32} {lt : Nat → Int32} {lw : Nat → Int32} (hn : n < 60) (h : InvA n rf bk hm aw tk ce hi la sn sa sb sc sd kn ka kb kc kd pt fn df wn lb lp lc lt lw) {p1 p2 : Nat} (h1 : p1 ≤ 6) (h2 : p2 ≤ 144) : f_L_isMove lb lp bk hm aw tk ce p1 p2 = 1 ∧ InvB (n + 1) rf bk hm aw tk (g_ce_D3 bk hm aw tk ce (nI p1) (nI p2)) hi la sn sa sb sc sd kn ka kb kc kd pt fn df wn lb (g_lp_L_isMove lb lp bk hm aw tk ce p1 p2) lc lt lw := by
  have hC := h.1
  have e14 := hC.b14
  have go : ∀ {x : Int32}, j_L_isMove_75 p1 p2 lb lp = 0 → f_D3 bk hm aw tk ce (nI p1) (nI p2) = x → g_ce_D3 bk hm aw tk ce (nI p1) (nI p2) = ce → j_L_isMove_100 p1 p2 lb lp = x → f_L_isMove lb lp bk hm aw tk ce p1 p2 = 1 ∧ InvB (n + 1) rf bk hm aw tk (g_ce_D3 bk hm aw tk ce (nI p1) (nI p2)) hi la sn sa sb sc sd kn ka kb kc kd pt fn df wn lb (g_lp_L_isMove lb lp bk hm aw tk ce p1 p2) lc lt lw := by
    intro x a1 a2 a3 a4
    have gl : g_lp_L_isMove lb lp bk hm aw tk ce p1 p2 = lp := by unfold g_lp_L_isMove; rw [if_pos a1]
    unfold f_L_isMove
    rw [a2, a3, a4, gl, if_pos (rfl : x = x)]
    exact ⟨rfl, h.keep⟩
  by_cases c1 : p1 < 6
  · have e1 := player_in (vin (j := p1) c1)
    have n1 : ¬ 6 ≤ nI p1 := nI_ge (a := p1) (b := 6) c1 (by decide)
    by_cases c2 : p2 < 144
    · have e2 := cell_in (vin (j := p2) c2)
      have n2 : ¬ 144 ≤ nI p2 := nI_ge (a := p2) (b := 144) c2 (by decide)
      have j19 : j_L_isMove_19 p1 p2 = 1 := by unfold j_L_isMove_19; rw [if_neg n1, if_neg n2]
      have no : j_L_isMove_75 p1 p2 lb lp = 0 → k_X5_move bk hm aw tk ce (nI p1) (nI p2) = 3 → f_L_isMove lb lp bk hm aw tk ce p1 p2 = 1 ∧ InvB (n + 1) rf bk hm aw tk (g_ce_D3 bk hm aw tk ce (nI p1) (nI p2)) hi la sn sa sb sc sd kn ka kb kc kd pt fn df wn lb (g_lp_L_isMove lb lp bk hm aw tk ce p1 p2) lc lt lw := by
        intro a1 a2
        have a3 := (d3_of a2).2.2 rfl
        exact go a1 a3.1 a3.2 (by unfold j_L_isMove_100; rw [j19, a1]; rfl)
      rcases hC.onp with ⟨t1, -⟩ | ⟨T, o1, o2, o3, o4⟩
      · refine no ?_ ?_
        · unfold j_L_isMove_75
          rw [j19, e14, t1]
          rfl
        · unfold k_X5_move
          rw [e1, if_pos rfl, e2, if_pos rfl, t1, (rd_off hm aw).1]
          rfl
      · obtain ⟨tn1, tn2⟩ := tk_pl (T := T) (by omega)
        have er := (rd_on hm aw (tk := tk) (by rw [o2]; exact tn1)).1
        have l1 := (o4.2.2.1 p1 c1).1
        have lf := fr_on (bk := bk) (lb := lb) (lp := lp) (ce := ce) hC.f c2 (fun j hj => (o4.2.2.1 j hj).1)
        have ci : (nI p1).toNatClampNeg = p1 := nI_clamp (by omega)
        have ci2 : (nI p2).toNatClampNeg = p2 := nI_clamp (by omega)
        -- the cell is free, and the player may go there
        have yes : j_L_isMove_75 p1 p2 lb lp = 1 → k_X5_move bk hm aw tk ce (nI p1) (nI p2) = 0 → bk p2 = 0 → ¬ ce p1 = (-2) → f_L_isMove lb lp bk hm aw tk ce p1 p2 = 1 ∧ InvB (n + 1) rf bk hm aw tk (g_ce_D3 bk hm aw tk ce (nI p1) (nI p2)) hi la sn sa sb sc sd kn ka kb kc kd pt fn df wn lb (g_lp_L_isMove lb lp bk hm aw tk ce p1 p2) lc lt lw := by
          intro a1 a2 a4 a5
          have a3 := (d3_of a2).1 rfl
          rw [ci] at a3
          have hx : nI p2 = (-2) ∨ nI p2 = (-1) ∨ (vp_in (nI p2) 144 ∧ bk (nI p2).toNatClampNeg = 0) := Or.inr (Or.inr ⟨vin c2, by rw [ci2]; exact a4⟩)
          have gl : g_lp_L_isMove lb lp bk hm aw tk ce p1 p2 = upd lp p1 (nI p2) := by unfold g_lp_L_isMove; rw [a1]; rfl
          have e100 : j_L_isMove_100 p1 p2 lb lp = ce p1 := by unfold j_L_isMove_100; rw [j19, a1, ← l1]; rfl
          unfold f_L_isMove
          rw [a3.1, a3.2, gl, e100, if_pos (rfl : ce p1 = ce p1)]
          refine ⟨rfl, ?_, Or.inr fun j hj => Or.inr ?_⟩
          · obtain ⟨g1, g2, g3, g4, g5, g6, g7, g8, g9, g10⟩ := hC.step
            refine ⟨g1, g2, g3, g4, g5, g6, rng_upd g7 p1 (Or.inr (Or.inr (vin c2))), g8, g9, Or.inr (o4.step.put c1 hx (Or.inr fun j hj hk q => a5 ?_))⟩
            rw [← q]
            exact ((o4.2.2.2.2.2.1 j hj).2.2.2 hk).1
          · rw [upd_ne _ _ (by omega)]; exact h.2 j hj
        have k0 : ∀ {x : Int32}, (if ce p1 = (-2) then 3 else if ce p1 < 0 then (if bk p2 = 0 then (if pOn ce (nI p2) = (-1) then 0 else 3) else 3) else if f_X1_distance (ce p1) (nI p2) = 1 then (if bk p2 = 0 then (if pOn ce (nI p2) = (-1) then 0 else 3) else 3) else 3) = x → k_X5_move bk hm aw tk ce (nI p1) (nI p2) = x := by
          intro x hx
          unfold k_X5_move
          rw [e1, if_pos rfl, e2, if_pos rfl, er, if_pos rfl, ci, ci2]
          exact hx
        have n14 : ¬ lb 14 < 0 := by rw [e14, o2]; exact tn2
        rcases o4.2.2.2.1.1 p1 c1 with z | z | z
        · refine no ?_ (k0 (if_pos z))
          unfold j_L_isMove_75
          rw [j19, if_neg (by decide), if_neg n14, l1, z, if_pos (by decide)]
        · have z2 : ¬ ce p1 = (-2) := by rw [z]; decide
          have z3 : ce p1 < 0 := by rw [z]; decide
          have j75 : j_L_isMove_75 p1 p2 lb lp = if frN lb lp p2 6 = 0 then 0 else 1 := by
            unfold j_L_isMove_75
            rw [j19, if_neg (by decide), if_neg n14, l1, z, if_neg (by decide), if_pos rfl]
          rcases lf with ⟨f1, f2, f3⟩ | ⟨f1, f2⟩
          · exact yes (by rw [j75, f3]; rfl) (k0 (by rw [if_neg z2, if_pos z3, if_pos f1, if_pos f2])) f1 z2
          · refine no (by rw [j75, f2]; rfl) (k0 ?_)
            rw [if_neg z2, if_pos z3]
            rcases f1 with f1 | f1
            · rw [if_neg f1]
            · by_cases w : bk p2 = 0
              · rw [if_pos w, if_neg f1]
              · rw [if_neg w]
        · obtain ⟨y1, y2⟩ := ceq z
          have z2 : ¬ ce p1 = (-2) := vp_n2 z
          have z1 : ¬ ce p1 = (-1) := vp_n1 z
          have z3 : ¬ ce p1 < 0 := vp_nneg z
          have z4 : ¬ ce p1 ≤ (-2) := fun q => z3 (Int32.lt_of_le_of_lt q (by decide))
          have hd : f_X1_distance (ce p1) (nI p2) = nI (apN (ce p1).toNatClampNeg p2) := (congrArg (fun x => f_X1_distance x (nI p2)) y1).trans (dist_ap y2 c2)
          have j75 : j_L_isMove_75 p1 p2 lb lp = if nI (apN (ce p1).toNatClampNeg p2) = 1 then (if frN lb lp p2 6 = 0 then 0 else 1) else 0 := by
            unfold j_L_isMove_75
            rw [j19, if_neg (by decide), if_neg n14, l1, if_neg z4, if_neg z1]
          by_cases d : nI (apN (ce p1).toNatClampNeg p2) = 1
          · rcases lf with ⟨f1, f2, f3⟩ | ⟨f1, f2⟩
            · exact yes (by rw [j75, if_pos d, f3]; rfl) (k0 (by rw [if_neg z2, if_neg z3, hd, if_pos d, if_pos f1, if_pos f2])) f1 z2
            · refine no (by rw [j75, if_pos d, f2]; rfl) (k0 ?_)
              rw [if_neg z2, if_neg z3, hd, if_pos d]
              rcases f1 with f1 | f1
              · rw [if_neg f1]
              · by_cases w : bk p2 = 0
                · rw [if_pos w, if_neg f1]
                · rw [if_neg w]
          · exact no (by rw [j75, if_neg d]) (k0 (by rw [if_neg z2, if_neg z3, hd, if_neg d]))
    · have hp : p2 = 144 := by omega
      have n2 : 144 ≤ nI p2 := nI_le (a := 144) (b := p2) (by omega) (by omega)
      have j19 : j_L_isMove_19 p1 p2 = 0 := by unfold j_L_isMove_19; rw [if_neg n1, if_pos n2]
      have j75 : j_L_isMove_75 p1 p2 lb lp = 0 := by unfold j_L_isMove_75; rw [j19, if_pos rfl]
      have hk : k_X5_move bk hm aw tk ce (nI p1) (nI p2) = 1 := by unfold k_X5_move; rw [e1, if_pos rfl, cell_out (vout (by omega) (by omega)), if_neg (by decide)]
      have a3 := (d3_of hk).2.1 rfl
      exact go j75 a3.1 a3.2 (by unfold j_L_isMove_100; rw [j19, if_pos rfl])
  · have n1 : 6 ≤ nI p1 := nI_le (a := 6) (b := p1) (by omega) (by omega)
    have j19 : j_L_isMove_19 p1 p2 = 0 := by unfold j_L_isMove_19; rw [if_pos n1]
    have j75 : j_L_isMove_75 p1 p2 lb lp = 0 := by unfold j_L_isMove_75; rw [j19, if_pos rfl]
    have hk : k_X5_move bk hm aw tk ce (nI p1) (nI p2) = 1 := by unfold k_X5_move; rw [player_out (vout (by omega) (by omega)), if_neg (by decide)]
    have a3 := (d3_of hk).2.1 rfl
    exact go j75 a3.1 a3.2 (by unfold j_L_isMove_100; rw [j19, if_pos rfl])
