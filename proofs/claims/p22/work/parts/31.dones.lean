theorem mv_ex {lp : Nat → Int32} {it o2 cl : Nat} (hl : rngP lp) (hit : it ≤ 6) (hcl : cl ≤ 144) : ∃ k : Nat, k ≤ 144 ∧ j_L_isDone_347 it lp o2 cl = nI k := by
  unfold j_L_isDone_347
  split
  · exact ⟨cl, hcl, rfl⟩
  · rename_i h
    obtain ⟨t1, t2, t3, t4⟩ := tj_L_isDone_322 h
    have hi : it < 6 := Nat.lt_of_not_le fun z => t1 (nI_le (a := 6) (b := it) z (by omega))
    have := in_cl (lp_nn (hl it hi) t2)
    exact ⟨_, by omega, rfl⟩
theorem sh_ex {lp : Nat → Int32} {o2 cl : Nat} (hl : rngP lp) (hcl : cl ≤ 144) : ∃ k : Nat, k ≤ 144 ∧ j_L_isDone_399 lp o2 cl = nI k := by
  unfold j_L_isDone_399
  split
  · exact ⟨cl, hcl, rfl⟩
  · rename_i h
    split
    · exact ⟨cl, hcl, rfl⟩
    · have := in_cl (lp_nn (hl ((o2 / 42) % 6) (by omega)) h)
      exact ⟨_, by omega, rfl⟩
theorem tt_ex {o2 : Nat} : ∃ k : Nat, (k = 51 ∨ (1 ≤ k ∧ k ≤ 4)) ∧ j_L_isDone_429 o2 = nI k := by
  unfold j_L_isDone_429
  split
  · exact ⟨51, Or.inl rfl, rfl⟩
  · exact ⟨1 + o2 % 4, Or.inr ⟨by omega, by omega⟩, rfl⟩
theorem dv_ex {n : Nat} {rf : Nat → Int32} {bk : Nat → Int32} {hm : Int32} {aw : Int32} {tk : Int32} {ce : Nat → Int32} {hi : Nat → Int32} {la : Nat → Int32} {sn : Nat} {sa : Nat → Int32} {sb : Nat → Int32} {sc : Nat → Int32} {sd : Nat → Int32} {kn : Nat} {ka : Nat → Int32} {kb : Nat → Int32} {kc : Nat → Int32} {kd : Nat → Int32} {pt : Nat → Int32} {fn : Nat → Int32} {df : Nat → Int32} {wn : Nat → Nat → Int32} {lb : Nat → Int32} {lp : Nat → Int32} {lc : Nat → Int32} {lt : Nat → Int32} {lw : Nat → Int32} (h : Core n rf bk hm aw tk ce hi la sn sa sb sc sd kn ka kb kc kd pt fn df wn lb lp lc lt lw) : ∃ k : Nat, (1 ≤ k ∧ k ≤ 20) ∧ j_L_isDone_595 lb = nI k := by
  unfold j_L_isDone_595
  split
  · obtain ⟨m, h1, h2⟩ := h.b16
    exact ⟨m + 1, ⟨by omega, by omega⟩, by rw [h2, nI_1]⟩
  · exact ⟨2, ⟨by omega, by omega⟩, rfl⟩
theorem InvF.turn {bk lb : Nat → Int32} (h : InvF bk lb) {cl : Nat} (hc : cl < 144) : InvF (if bk cl = 0 then upd bk cl 1 else upd bk cl 0) (upd lb (cl / 12) (lb (cl / 12) ^^^ (1 <<< (nI (cl % 12) &&& 31)))) := by
  have e : (if bk cl = 0 then upd bk cl 1 else upd bk cl 0) = upd bk cl (if bk cl = 0 then 1 else 0) := by split <;> rfl
  rw [e]
  refine ⟨fun j => ?_, fun r hr => ⟨fun c hcc => ?_, fun i hi => ?_⟩⟩
  · by_cases z : j = cl
    · rw [z, upd_at]; split
      · exact Or.inr rfl
      · exact Or.inl rfl
    · rw [upd_ne _ _ z]; exact h.1 j
  · by_cases z : r = cl / 12
    · rw [z, upd_at, b_turn _ (by omega)]
      by_cases w : c = cl % 12
      · rw [show 12 * (cl / 12) + c = cl by omega, upd_at, w]
        have h2 := (h.2 (cl / 12) (by omega)).1 (cl % 12) (by omega)
        rw [show 12 * (cl / 12) + cl % 12 = cl by omega] at h2
        rcases h.1 cl with q | q
        · rw [q, if_pos rfl]
          have hb : bt (lb (cl / 12)) (cl % 12) = false := by
            cases hb : bt (lb (cl / 12)) (cl % 12) with
            | false => rfl
            | true => have := h2.mpr hb; rw [q] at this; exact absurd this (by decide)
          rw [hb]
          simp
        · rw [q, if_neg (by decide), h2.mp q]
          simp
      · rw [upd_ne _ _ (by omega), ← z, decide_eq_false w, Bool.xor_false]
        exact (h.2 r hr).1 c hcc
    · rw [upd_ne _ _ (by omega), upd_ne _ _ z]
      exact (h.2 r hr).1 c hcc
  · by_cases z : r = cl / 12
    · rw [z, upd_at, b_turn _ (by omega), ← z, (h.2 r hr).2 i hi, decide_eq_false (by omega)]
      rfl
    · rw [upd_ne _ _ z]; exact (h.2 r hr).2 i hi
theorem op_tog {n : Nat} {rf : Nat → Int32} {bk : Nat → Int32} {hm : Int32} {aw : Int32} {tk : Int32} {ce : Nat → Int32} {hi : Nat → Int32} {la : Nat → Int32} {sn : Nat} {sa : Nat → Int32} {sb : Nat → Int32} {sc : Nat → Int32} {sd : Nat → Int32} {kn : Nat} {ka : Nat → Int32} {kb : Nat → Int32} {kc : Nat → Int32} {kd : Nat → Int32} {pt : Nat → Int32} {fn : Nat → Int32} {df : Nat → Int32} {wn : Nat → Nat → Int32} {lb : Nat → Int32} {lp : Nat → Int32} {lc : Nat → Int32} {lt : Nat → Int32} {lw : Nat → Int32} {cl : Nat} (hn : n < 60) (h : InvA n rf bk hm aw tk ce hi la sn sa sb sc sd kn ka kb kc kd pt fn df wn lb lp lc lt lw) (hcl : cl ≤ 144) : f_D0 bk hm aw tk (nI cl) 0 = j_L_isDone_132 cl lb ∧ (j_L_isDone_132 cl lb < 0 → InvB (n + 1) rf (g_bk_D0 bk hm aw tk (nI cl) 0) hm aw tk ce hi la sn sa sb sc sd kn ka kb kc kd pt fn df wn lb lp lc lt lw) ∧ (¬ j_L_isDone_132 cl lb < 0 → InvB (n + 1) rf (g_bk_D0 bk hm aw tk (nI cl) 0) hm aw tk ce hi la sn sa sb sc sd kn ka kb kc kd pt fn df wn (upd lb (cl / 12) (lb (cl / 12) ^^^ (1 <<< (nI (cl % 12) &&& 31)))) lp lc lt lw) := by
  have hC := h.1
  have e14 := hC.b14
  have go : ∀ {k x : Int32}, k_X5_toggleBunker bk hm aw tk (nI cl) = k → (k = 1 ∧ x = (-30) ∨ k = 3 ∧ x = (-10)) → j_L_isDone_132 cl lb = x → f_D0 bk hm aw tk (nI cl) 0 = j_L_isDone_132 cl lb ∧ (j_L_isDone_132 cl lb < 0 → InvB (n + 1) rf (g_bk_D0 bk hm aw tk (nI cl) 0) hm aw tk ce hi la sn sa sb sc sd kn ka kb kc kd pt fn df wn lb lp lc lt lw) ∧ (¬ j_L_isDone_132 cl lb < 0 → InvB (n + 1) rf (g_bk_D0 bk hm aw tk (nI cl) 0) hm aw tk ce hi la sn sa sb sc sd kn ka kb kc kd pt fn df wn (upd lb (cl / 12) (lb (cl / 12) ^^^ (1 <<< (nI (cl % 12) &&& 31)))) lp lc lt lw) := by
    intro k x a3 hx a1
    have k0 : ¬ k = 0 := by rcases hx with ⟨e, -⟩ | ⟨e, -⟩ <;> rw [e] <;> decide
    have x0 : x < 0 := by rcases hx with ⟨-, e⟩ | ⟨-, e⟩ <;> rw [e] <;> decide
    have ef : f_D0 bk hm aw tk (nI cl) 0 = x := by
      unfold f_D0
      rw [a3, if_neg k0]
      rcases hx with ⟨e1, e2⟩ | ⟨e1, e2⟩ <;> rw [e1, e2] <;> rfl
    have eg : g_bk_D0 bk hm aw tk (nI cl) 0 = bk := by unfold g_bk_D0; rw [a3, if_neg k0]
    rw [ef, a1, eg]
    exact ⟨rfl, fun _ => h.keep, fun z => absurd x0 z⟩
  by_cases c2 : cl < 144
  · have e2 := cell_in (vin (j := cl) c2)
    have n2 : ¬ nI cl = 144 := fun q => by have := (nI_eq (a := cl) (b := 144) (by omega) (by decide)).mp q; omega
    rcases hC.onp with ⟨t1, hO⟩ | ⟨T, o1, o2, o3, o4⟩
    · have ci : (nI cl).toNatClampNeg = cl := nI_clamp (by omega)
      have j132 : j_L_isDone_132 cl lb = if bk cl = 0 then 1 else 0 := by unfold j_L_isDone_132; rw [if_neg n2, e14, t1, if_pos (by decide), isB hC.f c2]
      have a3 : k_X5_toggleBunker bk hm aw tk (nI cl) = 0 := by unfold k_X5_toggleBunker; rw [e2, if_pos (rfl : (0 : Int32) = 0), t1, (rd_off hm aw).2]; rfl
      have eg : g_bk_D0 bk hm aw tk (nI cl) 0 = if bk cl = 0 then upd bk cl 1 else upd bk cl 0 := by unfold g_bk_D0 g_bk_X1_turnBunker; rw [if_pos a3, ci]
      have ef : f_D0 bk hm aw tk (nI cl) 0 = if bk cl = 0 then 1 else 0 := by
        unfold f_D0 f_X1_turnBunker
        rw [if_pos a3, ci, upd_at, upd_at]
        by_cases q : bk cl = 0
        · rw [if_pos q]; rfl
        · rw [if_neg q]; rfl
      have nn : ¬ j_L_isDone_132 cl lb < 0 := by rw [j132]; split <;> decide
      refine ⟨ef.trans j132.symm, fun z => absurd z nn, fun _ => ?_⟩
      rw [eg]
      obtain ⟨g1, g2, g3, g4, g5, g6, g7, g8, g9, g10⟩ := hC.step
      refine ⟨⟨g1.turn c2, fun j hj => ?_, g3, ?_, ?_, ?_, g7, g8, g9, Or.inl hO⟩, Or.inl t1⟩
      · rw [upd_ne _ _ (by omega)]; exact g2 j hj
      · rw [upd_ne _ _ (by omega), upd_ne _ _ (by omega)]; exact g4
      · rw [upd_ne _ _ (by omega)]; exact g5
      · rw [upd_ne _ _ (by omega)]; exact g6
    · obtain ⟨tn1, tn2⟩ := tk_pl (T := T) (by omega)
      refine go (k := 3) (x := -10) ?_ (Or.inr ⟨rfl, rfl⟩) ?_
      · unfold k_X5_toggleBunker
        rw [e2, if_pos (rfl : (0 : Int32) = 0), if_neg (rd_on hm aw (tk := tk) (by rw [o2]; exact tn1)).2]
      · unfold j_L_isDone_132
        rw [if_neg n2, e14, o2, if_neg tn2]
  · have hc : cl = 144 := by omega
    refine go (k := 1) (x := -30) ?_ (Or.inl ⟨rfl, rfl⟩) ?_
    · unfold k_X5_toggleBunker
      rw [cell_out (vout (by omega) (by omega)), if_neg (by decide)]
    · unfold j_L_isDone_132
      rw [hc]; rfl
theorem op_ref {n : Nat} {rf : Nat → Int32} {bk : Nat → Int32} {hm : Int32} {aw : Int32} {tk : Int32} {ce : Nat → Int32} {hi : Nat → Int32} {la : Nat → Int32} {sn : Nat} {sa : Nat → Int32} {sb : Nat → Int32} {sc : Nat → Int32} {sd : Nat → Int32} {kn : Nat} {ka : Nat → Int32} {kb : Nat → Int32} {kc : Nat → Int32} {kd : Nat → Int32} {pt : Nat → Int32} {fn : Nat → Int32} {df : Nat → Int32} {wn : Nat → Nat → Int32} {lb : Nat → Int32} {lp : Nat → Int32} {lc : Nat → Int32} {lt : Nat → Int32} {lw : Nat → Int32} {o1 cl : Nat} (hn : n < 60) (h : InvA n rf bk hm aw tk ce hi la sn sa sb sc sd kn ka kb kc kd pt fn df wn lb lp lc lt lw) (hcl : cl ≤ 144) : f_D1 rf (nI (o1 % 3)) (nI cl) = j_L_isDone_214 o1 cl lb ∧ (j_L_isDone_214 o1 cl lb < 0 → InvB (n + 1) (g_rf_D1 rf (nI (o1 % 3)) (nI cl)) bk hm aw tk ce hi la sn sa sb sc sd kn ka kb kc kd pt fn df wn lb lp lc lt lw) ∧ (¬ j_L_isDone_214 o1 cl lb < 0 → InvB (n + 1) (g_rf_D1 rf (nI (o1 % 3)) (nI cl)) bk hm aw tk ce hi la sn sa sb sc sd kn ka kb kc kd pt fn df wn (upd lb (12 + (o1 % 3)) (nI cl)) lp lc lt lw) := by
  have hC := h.1
  have hw : o1 % 3 < 3 := Nat.mod_lt _ (by decide)
  have ci : (nI (o1 % 3)).toNatClampNeg = o1 % 3 := nI_clamp (by omega)
  have go : k_X5_setReferee rf (nI (o1 % 3)) (nI cl) = 1 → j_L_isDone_214 o1 cl lb = (-30) → f_D1 rf (nI (o1 % 3)) (nI cl) = j_L_isDone_214 o1 cl lb ∧ (j_L_isDone_214 o1 cl lb < 0 → InvB (n + 1) (g_rf_D1 rf (nI (o1 % 3)) (nI cl)) bk hm aw tk ce hi la sn sa sb sc sd kn ka kb kc kd pt fn df wn lb lp lc lt lw) ∧ (¬ j_L_isDone_214 o1 cl lb < 0 → InvB (n + 1) (g_rf_D1 rf (nI (o1 % 3)) (nI cl)) bk hm aw tk ce hi la sn sa sb sc sd kn ka kb kc kd pt fn df wn (upd lb (12 + (o1 % 3)) (nI cl)) lp lc lt lw) := by
    intro a3 a1
    have ef : f_D1 rf (nI (o1 % 3)) (nI cl) = (-30) := by unfold f_D1; rw [a3]; rfl
    have eg : g_rf_D1 rf (nI (o1 % 3)) (nI cl) = rf := by unfold g_rf_D1; rw [a3]; rfl
    rw [ef, a1, eg]
    exact ⟨rfl, fun _ => h.keep, fun z => absurd (by decide) z⟩
  by_cases c1 : o1 % 3 < 2
  · have e1 := referee_in (vin (j := o1 % 3) c1)
    have n1 : ¬ nI (o1 % 3) = 2 := fun q => by have := (nI_eq (a := o1 % 3) (b := 2) (by omega) (by decide)).mp q; omega
    by_cases c2 : cl < 144
    · have e2 := cell_in (vin (j := cl) c2)
      have n2 : ¬ nI cl = 144 := fun q => by have := (nI_eq (a := cl) (b := 144) (by omega) (by decide)).mp q; omega
      obtain ⟨r1, r2⟩ := hC.r _ c1
      have a1 : j_L_isDone_214 o1 cl lb = rf (o1 % 3) := by unfold j_L_isDone_214; rw [if_neg n1, if_neg n2, r1]
      have a3 : k_X5_setReferee rf (nI (o1 % 3)) (nI cl) = 0 := by unfold k_X5_setReferee; rw [e1, if_pos (rfl : (0 : Int32) = 0), e2, if_pos (rfl : (0 : Int32) = 0)]
      have ef : f_D1 rf (nI (o1 % 3)) (nI cl) = rf (o1 % 3) := by unfold f_D1; rw [if_pos a3, ci]
      have eg : g_rf_D1 rf (nI (o1 % 3)) (nI cl) = upd rf (o1 % 3) (nI cl) := by unfold g_rf_D1; rw [if_pos a3, ci]
      refine ⟨ef.trans a1.symm, fun z => absurd z (by rw [a1]; exact vp_nneg r2), fun _ => ?_⟩
      rw [eg]
      obtain ⟨g1, g2, g3, g4, g5, g6, g7, g8, g9, g10⟩ := hC.step
      refine ⟨⟨g1.far (by omega) _, fun j hj => ?_, g3, ?_, ?_, ?_, g7, g8, g9, ?_⟩, Or.inr fun j hj => Or.inr (h.2 j hj)⟩
      · by_cases z : j = o1 % 3
        · rw [z, upd_at, upd_at]; exact ⟨rfl, vin c2⟩
        · rw [upd_ne _ _ (by omega), upd_ne _ _ z]; exact g2 j hj
      · rw [upd_ne _ _ (by omega), upd_ne _ _ (by omega)]; exact g4
      · rw [upd_ne _ _ (by omega)]; exact g5
      · rw [upd_ne _ _ (by omega)]; exact g6
      · rcases g10 with q | ⟨w1, w2, w3⟩
        · exact Or.inl q
        · refine Or.inr ⟨w1, ⟨?_, ?_⟩, w3⟩
          · rw [upd_ne _ _ (by omega)]; exact w2.1
          · rw [upd_ne _ _ (by omega)]; exact w2.2
    · have hc : cl = 144 := by omega
      refine go ?_ ?_
      · unfold k_X5_setReferee
        rw [e1, if_pos (rfl : (0 : Int32) = 0), cell_out (vout (by omega) (by omega)), if_neg (by decide)]
      · unfold j_L_isDone_214
        rw [if_neg n1, hc]; rfl
  · have hw2 : o1 % 3 = 2 := by omega
    refine go ?_ ?_
    · unfold k_X5_setReferee
      rw [referee_out (vout (by omega) (by omega)), if_neg (by decide)]
    · unfold j_L_isDone_214
      rw [hw2]; rfl
/-! ===== ticks pass ===== -/
def cntN (sd : Nat → Int32) (t9 : Int32) : Nat → Nat
  | 0 => 0
  | n + 1 => if sd n = t9 then cntN sd t9 n + 1 else cntN sd t9 n
theorem le_stp {x : Int32} {T : Nat} (hT : T + 1 < 2 ^ 31) : (x ≤ nI T → x ≤ nI (T + 1) ∧ ¬ x = nI (T + 1)) ∧ (¬ x ≤ nI T → (x ≤ nI (T + 1) ↔ x = nI (T + 1))) := by
  have e1 := ti_n (n := T) (by omega)
  have e2 := ti_n (n := T + 1) hT
  refine ⟨fun h => ⟨?_, fun q => ?_⟩, fun h => ⟨fun q => ?_, fun q => by rw [q]; exact Int32.le_refl _⟩⟩
  · rw [Int32.le_iff_toInt_le, e1] at h
    rw [Int32.le_iff_toInt_le, e2]
    omega
  · rw [q, Int32.le_iff_toInt_le, e1, e2] at h
    omega
  · rw [Int32.le_iff_toInt_le, e1] at h
    rw [Int32.le_iff_toInt_le, e2] at q
    exact Int32.toInt_inj.mp (by rw [e2]; omega)
theorem fly_stp (sd : Nat → Int32) {T : Nat} (hT : T + 1 < 2 ^ 31) : ∀ n : Nat, ∃ a b : Nat, flyN (nI T) sd n = nI a ∧ flyN (nI (T + 1)) sd n = nI b ∧ a = b + cntN sd (nI (T + 1)) n ∧ a ≤ n
  | 0 => ⟨0, 0, by rw [flyN]; rfl, by rw [flyN]; rfl, rfl, Nat.le_refl 0⟩
  | n + 1 => by
    obtain ⟨a, b, h1, h2, h3, h4⟩ := fly_stp sd hT n
    have hs := le_stp (x := sd n) hT
    rw [flyN, flyN, h1, h2]
    unfold cntN
    by_cases q : sd n ≤ nI T
    · obtain ⟨q1, q2⟩ := hs.1 q
      rw [if_pos q, if_pos q1, if_neg q2]
      exact ⟨a, b, rfl, rfl, h3, by omega⟩
    · rw [if_neg q]
      by_cases w : sd n = nI (T + 1)
      · rw [if_pos ((hs.2 q).mpr w), if_pos w]
        exact ⟨a + 1, b, nI_1 a, rfl, by omega, by omega⟩
      · rw [if_neg (fun z => w ((hs.2 q).mp z)), if_neg w]
        exact ⟨a + 1, b + 1, nI_1 a, nI_1 b, by omega, by omega⟩
theorem pOn_val {ce : Nat → Int32} {x : Int32} (h : ¬ pOn ce x = (-1)) : ∃ i : Nat, i < 6 ∧ pOn ce x = nI i ∧ ce i = x := by
  have h2 : ∃ i : Nat, i < 6 ∧ ce i = x := Classical.byContradiction fun q => h ((pOn_iff ce x).mpr fun j hj z => q ⟨j, hj, z⟩)
  obtain ⟨i, ⟨hi, h1⟩, h3⟩ := pk_least (fun i => i < 6 ∧ ce i = x) h2
  exact ⟨i, hi, (pOn_at hi (fun k hk h4 => h3 k hk ⟨by omega, h4⟩) h1).symm, h1⟩
theorem str_ok {bk : Nat → Int32} {hm aw t9 : Int32} {ce hi : Nat → Int32} {sn : Nat} {sa sb sc : Nat → Int32} {j : Nat} (hj : j < 2 ^ 31) (hs : vp_in (sc j) 144) :
    (f_X2_strikes bk hm aw t9 ce hi sn sa sb sc (nI j) = 0 ∨ f_X2_strikes bk hm aw t9 ce hi sn sa sb sc (nI j) = 1) ∧ (g_hi_X2_strikes bk hm aw t9 ce hi sn sa sb sc (nI j) = hi ∨ ∃ i : Nat, i < 6 ∧ hi i = (-1) ∧ 0 ≤ ce i ∧ g_hi_X2_strikes bk hm aw t9 ce hi sn sa sb sc (nI j) = upd hi i t9) := by
  unfold f_X2_strikes g_hi_X2_strikes
  rw [nI_clamp hj]
  constructor
  · (repeat' split) <;> first | exact Or.inl rfl | exact Or.inr rfl
  · by_cases c1 : pOn ce (sc j) = (-1)
    · rw [if_pos c1]; exact Or.inl rfl
    · rw [if_neg c1]
      split
      · exact Or.inl rfl
      · split
        · exact Or.inl rfl
        · split
          · rename_i q
            obtain ⟨i, h1, h2, h3⟩ := pOn_val c1
            rw [h2, nI_clamp (by omega)] at q ⊢
            exact Or.inr ⟨i, h1, q, by rw [h3]; exact vp_ge hs, rfl⟩
          · exact Or.inl rfl
theorem nt_ok {bk : Nat → Int32} {hm aw : Int32} {ce hi : Nat → Int32} {sn : Nat} {sa sb sc sd : Nat → Int32} {T : Nat} (hT : T < 2 ^ 31) (hs : ∀ j : Nat, j < sn → vp_in (sc j) 144) (hsn : sn ≤ 100) :
    ∀ n : Nat, n ≤ sn → ∃ C : Nat, (ntS bk hm aw (nI T) ce hi sn sa sb sc sd n).1 = nI C ∧ C ≤ cntN sd (nI T) n ∧ ∀ j : Nat, j < 6 → (ntS bk hm aw (nI T) ce hi sn sa sb sc sd n).2 j = hi j ∨ (hi j = (-1) ∧ (ntS bk hm aw (nI T) ce hi sn sa sb sc sd n).2 j = nI T ∧ 0 ≤ ce j)
  | 0, _ => ⟨0, by rw [ntS]; rfl, Nat.le_refl 0, fun j _ => Or.inl (by rw [ntS])⟩
  | n + 1, hn => by
    obtain ⟨C, h1, h2, h3⟩ := nt_ok (bk := bk) (hm := hm) (aw := aw) (ce := ce) (hi := hi) (sa := sa) (sb := sb) (sd := sd) hT hs hsn n (by omega)
    rw [ntS]
    unfold cntN
    generalize ntS bk hm aw (nI T) ce hi sn sa sb sc sd n = X at h1 h3 ⊢
    by_cases q : sd n = nI T
    · rw [if_pos q, if_pos q]
      obtain ⟨s1, s2⟩ := str_ok (bk := bk) (hm := hm) (aw := aw) (t9 := nI T) (ce := ce) (hi := X.2) (sn := sn) (sa := sa) (sb := sb) (sc := sc) (j := n) (by omega) (hs n (by omega))
      have hh : ∀ j : Nat, j < 6 → g_hi_X2_strikes bk hm aw (nI T) ce X.2 sn sa sb sc (nI n) j = hi j ∨ (hi j = (-1) ∧ g_hi_X2_strikes bk hm aw (nI T) ce X.2 sn sa sb sc (nI n) j = nI T ∧ 0 ≤ ce j) := fun j hj => by
        rcases s2 with s2 | ⟨i, i1, i2, i3, i4⟩
        · rw [s2]; exact h3 j hj
        · rw [i4]
          by_cases z : j = i
          · subst z
            rw [upd_at]
            rcases h3 j hj with w | w
            · exact Or.inr ⟨by rw [← w]; exact i2, rfl, i3⟩
            · rw [w.2.1] at i2; exact absurd i2 (tk_pl hT).1
          · rw [upd_ne _ _ z]; exact h3 j hj
      rcases s1 with s1 | s1
      · rw [if_pos s1]
        exact ⟨C, h1, by omega, hh⟩
      · rw [if_neg (by rw [s1]; decide)]
        exact ⟨C + 1, by dsimp only; rw [h1, nI_1], by omega, hh⟩
    · rw [if_neg q, if_neg q]
      exact ⟨C, h1, h2, h3⟩
theorem ps_ok {bk : Nat → Int32} {hm aw : Int32} {ce hi : Nat → Int32} {sn : Nat} {sa sb sc sd : Nat → Int32} {T M0 : Nat} (hT : T + 100 < 2 ^ 31) (hs : ∀ j : Nat, j < sn → vp_in (sc j) 144) (hsn : sn ≤ 100) (hh : hitP T hi) (hM : flyN (nI T) sd sn = nI M0) (hM0 : M0 ≤ sn) :
    ∀ N : Nat, N ≤ 50 → ∃ S M : Nat, (psN bk hm aw (nI T) ce hi sn sa sb sc sd N).1 = nI S ∧ (psN bk hm aw (nI T) ce hi sn sa sb sc sd N).2.1 = nI (T + N) ∧ flyN (nI (T + N)) sd sn = nI M ∧ S + M ≤ M0 ∧ hitP (T + N) (psN bk hm aw (nI T) ce hi sn sa sb sc sd N).2.2 ∧ ∀ j : Nat, j < 6 → (psN bk hm aw (nI T) ce hi sn sa sb sc sd N).2.2 j = hi j ∨ (hi j = (-1) ∧ 0 ≤ ce j)
  | 0, _ => ⟨0, M0, by rw [psN]; rfl, by rw [psN]; rfl, hM, by omega, by rw [psN]; exact hh, fun j _ => Or.inl (by rw [psN])⟩
  | N + 1, hN => by
    obtain ⟨S, M, h1, h2, h3, h4, h5, h6⟩ := ps_ok (bk := bk) (hm := hm) (aw := aw) (ce := ce) (sa := sa) (sb := sb) hT hs hsn hh hM hM0 N (by omega)
    rw [psN]
    generalize psN bk hm aw (nI T) ce hi sn sa sb sc sd N = X at h1 h2 h5 h6 ⊢
    dsimp only
    rw [h2, nI_1]
    obtain ⟨C, c1, c2, c3⟩ := nt_ok (bk := bk) (hm := hm) (aw := aw) (ce := ce) (hi := X.2.2) (sa := sa) (sb := sb) (sd := sd) (T := T + N + 1) (by omega) hs hsn sn (Nat.le_refl sn)
    obtain ⟨a, b, f1, f2, f3, f4⟩ := fly_stp sd (T := T + N) (by omega) sn
    have ea : a = M := (nI_eq (by omega) (by omega)).mp (f1.symm.trans h3)
    refine ⟨S + C, b, by rw [h1, c1, nI_add], rfl, f2, by omega, fun j hj => ?_, fun j hj => ?_⟩
    · rcases c3 j hj with w | ⟨w1, w2, w3⟩
      · rw [w]
        rcases h5 j hj with z | ⟨k, k1, k2, k3⟩
        · exact Or.inl z
        · exact Or.inr ⟨k, k1, by omega, k3⟩
      · exact Or.inr ⟨T + N + 1, by omega, by omega, w2⟩
    · rcases c3 j hj with w | ⟨w1, w2, w3⟩
      · rw [w]; exact h6 j hj
      · rcases h6 j hj with z | z
        · exact Or.inr ⟨by rw [← z]; exact w1, w3⟩
        · exact Or.inr z
theorem op_pass {n : Nat} {rf : Nat → Int32} {bk : Nat → Int32} {hm : Int32} {aw : Int32} {tk : Int32} {ce : Nat → Int32} {hi : Nat → Int32} {la : Nat → Int32} {sn : Nat} {sa : Nat → Int32} {sb : Nat → Int32} {sc : Nat → Int32} {sd : Nat → Int32} {kn : Nat} {ka : Nat → Int32} {kb : Nat → Int32} {kc : Nat → Int32} {kd : Nat → Int32} {pt : Nat → Int32} {fn : Nat → Int32} {df : Nat → Int32} {wn : Nat → Nat → Int32} {lb : Nat → Int32} {lp : Nat → Int32} {lc : Nat → Int32} {lt : Nat → Int32} {lw : Nat → Int32} {tt : Nat} (hn : n < 60) (h : InvA n rf bk hm aw tk ce hi la sn sa sb sc sd kn ka kb kc kd pt fn df wn lb lp lc lt lw) (ht : tt = 51 ∨ (1 ≤ tt ∧ tt ≤ 4)) :
    ((50 < tt ∨ lb 14 < 0) → f_D5 bk hm aw tk ce hi sn sa sb sc sd (nI tt) 0 = (if 50 < tt then (-20) else (-10)) ∧ g_tk_D5 bk hm aw tk ce hi sn sa sb sc sd (nI tt) 0 = tk ∧ g_hi_D5 bk hm aw tk ce hi sn sa sb sc sd (nI tt) 0 = hi) ∧
    (¬ 50 < tt → ¬ lb 14 < 0 → ¬ f_D5 bk hm aw tk ce hi sn sa sb sc sd (nI tt) 0 < 0 ∧ ¬ (flyN tk sd sn) - (flyN (g_tk_D5 bk hm aw tk ce hi sn sa sb sc sd (nI tt) 0) sd sn) < f_D5 bk hm aw tk ce hi sn sa sb sc sd (nI tt) 0 ∧ InvB (n + 1) rf bk hm aw (g_tk_D5 bk hm aw tk ce hi sn sa sb sc sd (nI tt) 0) ce (g_hi_D5 bk hm aw tk ce hi sn sa sb sc sd (nI tt) 0) la sn sa sb sc sd kn ka kb kc kd pt fn df wn (upd lb 14 (lb 14 + nI tt)) lp lc lt lw) := by
  have hC := h.1
  have e14 := hC.b14
  have bad : ∀ {k x : Int32}, k_X5_pass bk hm aw tk ce hi sn sa sb sc sd (nI tt) = k → (k = 2 ∧ x = (-20) ∨ k = 3 ∧ x = (-10)) → f_D5 bk hm aw tk ce hi sn sa sb sc sd (nI tt) 0 = x ∧ g_tk_D5 bk hm aw tk ce hi sn sa sb sc sd (nI tt) 0 = tk ∧ g_hi_D5 bk hm aw tk ce hi sn sa sb sc sd (nI tt) 0 = hi := by
    intro k x a3 hx
    have k0 : ¬ k = 0 := by rcases hx with ⟨e, -⟩ | ⟨e, -⟩ <;> rw [e] <;> decide
    refine ⟨?_, ?_, ?_⟩
    · unfold f_D5
      rw [a3, if_neg k0]
      rcases hx with ⟨e1, e2⟩ | ⟨e1, e2⟩ <;> rw [e1, e2] <;> rfl
    · unfold g_tk_D5; rw [a3, if_neg k0]
    · unfold g_hi_D5; rw [a3, if_neg k0]
  have n1 : ¬ nI tt < 1 := nI_nlt (a := tt) (b := 1) (by omega) (by omega)
  constructor
  · intro hx
    by_cases c1 : 50 < tt
    · rw [if_pos c1]
      refine bad (k := 2) ?_ (Or.inl ⟨rfl, rfl⟩)
      unfold k_X5_pass
      rw [if_neg n1, if_neg (show ¬ nI tt ≤ 50 from nI_ge (a := 50) (b := tt) c1 (by omega))]
    · rw [if_neg c1]
      refine bad (k := 3) ?_ (Or.inr ⟨rfl, rfl⟩)
      have hx2 := hx.resolve_left c1
      rw [e14] at hx2
      rcases hC.onp with ⟨t1, hO⟩ | ⟨T, o1, o2, o3, o4⟩
      · unfold k_X5_pass
        rw [if_neg n1, if_pos (show nI tt ≤ 50 from nI_le (a := tt) (b := 50) (by omega) (by decide)), t1, (rd_off hm aw).1]
        rfl
      · rw [o2] at hx2; exact absurd hx2 (tk_pl (by omega)).2
  · intro c1 c2
    rw [e14] at c2
    rcases hC.onp with ⟨t1, hO⟩ | ⟨T, o1, o2, o3, o4⟩
    · rw [t1] at c2; exact absurd (by decide) c2
    · obtain ⟨tn1, tn2⟩ := tk_pl (T := T) (by omega)
      have hcnt := hC.cnt
      have ci : (nI tt).toNatClampNeg = tt := nI_clamp (by omega)
      have a3 : k_X5_pass bk hm aw tk ce hi sn sa sb sc sd (nI tt) = 0 := by
        unfold k_X5_pass
        rw [if_neg n1, if_pos (show nI tt ≤ 50 from nI_le (a := tt) (b := 50) (by omega) (by decide)), if_pos (rd_on hm aw (tk := tk) (by rw [o2]; exact tn1)).1]
      have ef : f_D5 bk hm aw tk ce hi sn sa sb sc sd (nI tt) 0 = (psN bk hm aw tk ce hi sn sa sb sc sd tt).1 := by unfold f_D5; rw [if_pos a3, ci]
      have eg : g_tk_D5 bk hm aw tk ce hi sn sa sb sc sd (nI tt) 0 = (psN bk hm aw tk ce hi sn sa sb sc sd tt).2.1 := by unfold g_tk_D5; rw [if_pos a3, ci]
      have eh : g_hi_D5 bk hm aw tk ce hi sn sa sb sc sd (nI tt) 0 = (psN bk hm aw tk ce hi sn sa sb sc sd tt).2.2 := by unfold g_hi_D5; rw [if_pos a3, ci]
      rw [ef, eg, eh]
      obtain ⟨M0, m1, m2⟩ := fly_le tk sd sn
      rw [o2] at m2
      obtain ⟨S, M, p1, p2, p3, p4, p5, p6⟩ := ps_ok (bk := bk) (hm := hm) (aw := aw) (ce := ce) (hi := hi) (sa := sa) (sb := sb) (T := T) (by omega) hC.sci hcnt.1 o3 m2 m1 tt (by omega)
      rw [← o2] at p1 p2 p5 p6 m2
      generalize psN bk hm aw tk ce hi sn sa sb sc sd tt = X at p1 p2 p5 p6 ⊢
      rw [p1, p2, p3, m2]
      refine ⟨nI_pos (by omega), ?_, ?_, Or.inr fun j hj => ?_⟩
      · rw [pk_sub (by omega)]
        exact nI_nlt (by omega) (by omega)
      · obtain ⟨g1, g2, g3, g4, g5, g6, g7, g8, g9, g10⟩ := hC.step
        obtain ⟨w1, w2, w3, w4, w5, w6⟩ := o4.step
        refine ⟨g1.far (by decide) _, g2.far (by decide) _, g3, ?_, ?_, ?_, g7, g8, g9, Or.inr ⟨⟨T + tt, by omega, rfl, p5⟩, ⟨?_, ?_⟩, w3, w4, w5, fun j hj => ?_, w6.2⟩⟩
        · rw [upd_ne _ _ (by decide), upd_ne _ _ (by decide)]; exact g4
        · rw [upd_at, e14, o2, nI_add]
        · rw [upd_ne _ _ (by decide)]; exact g6
        · rw [upd_ne _ _ (by decide)]; exact w2.1
        · rw [upd_ne _ _ (by decide)]; exact w2.2
        · obtain ⟨x1, x2, x3, x4⟩ := w6.1 j hj
          refine ⟨x1, x2, x3, fun q => ⟨(x4 q).1, ?_⟩⟩
          have hk6 : (ka j).toNatClampNeg < 6 := in_cl x2
          rcases p6 _ hk6 with z | z
          · rw [z]; exact (x4 q).2
          · rw [(x4 q).1] at z; exact absurd z.2 (by decide)
      · rcases p6 j hj with z | z
        · exact Or.inr (by rw [z]; exact h.2 j hj)
        · exact Or.inl (by rw [h.2 j hj, z.1]; decide)
