theorem mg_eq {T : Nat} {lp ce hi : Nat → Int32} (hT : T < 100000) (h1 : ∀ j : Nat, j < 6 → lp j = ce j) (h2 : ∀ j : Nat, j < 6 → lp (6 + j) = hi j) (h3 : hitP T hi) : ∀ n : Nat, n ≤ 6 → mgN ce hi n = mrN lp n
  | 0, _ => by rw [mgN, mrN]
  | n + 1, hn => by
    rw [mgN, mrN, mg_eq hT h1 h2 h3 n (by omega)]
    unfold j_L_isEnd_75
    rw [h1 n (by omega), h2 n (by omega)]
    by_cases c1 : ce n = (-2)
    · rw [if_pos c1, if_pos c1, Int32.add_zero]
    · rw [if_neg c1, if_neg c1]
      rcases h3 n (by omega) with w | ⟨k, k1, k2, k3⟩
      · rw [w, if_pos (rfl : (-1 : Int32) = -1), if_pos (show (-1 : Int32) ≤ 0 by decide)]
        by_cases q : 3 ≤ nI n
        · rw [if_pos q, if_pos q]
        · rw [if_neg q, if_neg q]
      · rw [k3, if_neg (tk_pl (T := k) (by omega)).1, if_neg (nI_nle (by omega) (by omega)), Int32.add_zero]
theorem mg_bd (ce hi : Nat → Int32) : ∀ n : Nat, n ≤ 6 → -(n : Int) ≤ (mgN ce hi n).toInt ∧ (mgN ce hi n).toInt ≤ (n : Int)
  | 0, _ => by rw [mgN]; exact ⟨by decide, by decide⟩
  | n + 1, hn => by
    obtain ⟨h1, h2⟩ := mg_bd ce hi n (by omega)
    rw [mgN]
    split
    · omega
    · split
      · split
        · rw [ti_a (x := mgN ce hi n) (y := -1) (b := -1) rfl rfl (by omega) (by omega)]; omega
        · rw [ti_a (x := mgN ce hi n) (y := 1) (b := 1) rfl rfl (by omega) (by omega)]; omega
      · omega
theorem lt2_le1 (x : Int32) : x < 2 ↔ x ≤ 1 := by
  rw [Int32.lt_iff_toInt_lt, Int32.le_iff_toInt_le]
  have h2 : (2 : Int32).toInt = 2 := rfl
  have h1 : (1 : Int32).toInt = 1 := rfl
  omega
/-- the penalties, on both sides -/
theorem tk_eq {lt pt fn df : Nat → Int32} (h : ∀ k : Nat, k < 6 → lt (3 * k) = pt k ∧ lt (3 * k + 1) = fn k ∧ lt (3 * k + 2) = df k) : ∀ n : Nat, n ≤ 6 → ∀ k : Nat, k < 6 → tkN lt n (3 * k) = (tpN pt fn n).1 k ∧ tkN lt n (3 * k + 1) = (tpN pt fn n).2 k ∧ tkN lt n (3 * k + 2) = df k
  | 0, _, k, hk => by rw [tkN, tpN]; exact h k hk
  | n + 1, hn, k, hk => by
    obtain ⟨a1, a2, a3⟩ := tk_eq h n (by omega) k hk
    obtain ⟨b1, b2, b3⟩ := tk_eq h n (by omega) n (by omega)
    have j1 : j_L_isEnd_265 (tkN lt n) n = if (tpN pt fn n).2 n < 2 then 0 else 1 := by
      unfold j_L_isEnd_265
      rw [b2]
      by_cases q : (tpN pt fn n).2 n < 2
      · rw [if_pos q, if_pos ((lt2_le1 _).mp q)]
      · rw [if_neg q, if_neg (fun z => q ((lt2_le1 _).mpr z))]
    have j2 : j_L_isEnd_293 (tkN lt n) n = if (tpN pt fn n).2 n < 2 then 0 else 2 := by
      unfold j_L_isEnd_293
      rw [as_ne _ _ (by omega : ¬ 3 * n + 1 = 3 * n), b2]
      by_cases q : (tpN pt fn n).2 n < 2
      · rw [if_pos q, if_pos ((lt2_le1 _).mp q)]
      · rw [if_neg q, if_neg (fun z => q ((lt2_le1 _).mpr z))]
    rw [tkN, tpN, j1, j2]
    by_cases q : (tpN pt fn n).2 n < 2
    · rw [if_pos q, if_pos q, if_pos q]
      refine ⟨?_, ?_, ?_⟩
      · rw [as_ne _ _ (by omega : ¬ 3 * k = 3 * n + 1)]
        by_cases z : k = n
        · subst z; rw [as_at, Int32.sub_zero]; exact a1
        · rw [as_ne _ _ (by omega : ¬ 3 * k = 3 * n)]; exact a1
      · by_cases z : k = n
        · subst z; rw [as_at, Int32.sub_zero, as_ne _ _ (by omega : ¬ 3 * k + 1 = 3 * k)]; exact a2
        · rw [as_ne _ _ (by omega : ¬ 3 * k + 1 = 3 * n + 1), as_ne _ _ (by omega : ¬ 3 * k + 1 = 3 * n)]; exact a2
      · rw [as_ne _ _ (by omega : ¬ 3 * k + 2 = 3 * n + 1), as_ne _ _ (by omega : ¬ 3 * k + 2 = 3 * n)]; exact a3
    · rw [if_neg q, if_neg q, if_neg q]
      dsimp only
      refine ⟨?_, ?_, ?_⟩
      · rw [as_ne _ _ (by omega : ¬ 3 * k = 3 * n + 1)]
        by_cases z : k = n
        · subst z; rw [as_at, upd_at, a1]
        · rw [as_ne _ _ (by omega : ¬ 3 * k = 3 * n), upd_ne _ _ z]; exact a1
      · by_cases z : k = n
        · subst z; rw [as_at, upd_at, as_ne _ _ (by omega : ¬ 3 * k + 1 = 3 * k), a2]
        · rw [as_ne _ _ (by omega : ¬ 3 * k + 1 = 3 * n + 1), as_ne _ _ (by omega : ¬ 3 * k + 1 = 3 * n), upd_ne _ _ z]; exact a2
      · rw [as_ne _ _ (by omega : ¬ 3 * k + 2 = 3 * n + 1), as_ne _ _ (by omega : ¬ 3 * k + 2 = 3 * n)]; exact a3
/-- the penalties move a number but little, and once -/
theorem tp_bd (pt fn : Nat → Int32) : ∀ n k : Nat, ((n ≤ k → (tpN pt fn n).1 k = pt k ∧ (tpN pt fn n).2 k = fn k)) ∧ (k < n → ((tpN pt fn n).1 k = pt k ∧ (tpN pt fn n).2 k = fn k) ∨ ((tpN pt fn n).1 k = pt k - 1 ∧ (tpN pt fn n).2 k = fn k - 2))
  | 0, k => ⟨fun _ => by rw [tpN]; exact ⟨rfl, rfl⟩, fun h => absurd h (Nat.not_lt_zero k)⟩
  | n + 1, k => by
    obtain ⟨h1, h2⟩ := tp_bd pt fn n k
    obtain ⟨m1, -⟩ := tp_bd pt fn n n
    rw [tpN]
    by_cases q : (tpN pt fn n).2 n < 2
    · rw [if_pos q]
      refine ⟨fun z => h1 (by omega), fun z => ?_⟩
      by_cases w : k = n
      · exact Or.inl (h1 (by omega))
      · exact h2 (by omega)
    · rw [if_neg q]
      dsimp only
      refine ⟨fun z => ?_, fun z => ?_⟩
      · rw [upd_ne _ _ (by omega), upd_ne _ _ (by omega)]; exact h1 (by omega)
      · by_cases w : k = n
        · subst w
          rw [upd_at, upd_at, (m1 (Nat.le_refl _)).1, (m1 (Nat.le_refl _)).2]
          exact Or.inr ⟨rfl, rfl⟩
        · rw [upd_ne _ _ w, upd_ne _ _ w]; exact h2 (by omega)
/-- x at k, else nothing -/
def atk (k j : Nat) (x : Int32) : Int32 := if j = k then x else 0
theorem ad_k (f : Nat → Int32) (k j : Nat) (x : Int32) : adA f k x j = f j + atk k j x := by
  unfold atk
  by_cases h : j = k
  · rw [h, ad_at, if_pos rfl]
  · rw [ad_ne _ _ h, if_neg h, Int32.add_zero]
theorem as_k (f : Nat → Int32) (k j : Nat) (x : Int32) : adS f k x j = f j - atk k j x := by
  unfold atk
  by_cases h : j = k
  · rw [h, as_at, if_pos rfl]
  · rw [as_ne _ _ h, if_neg h, Int32.sub_zero]
theorem up_k (f : Nat → Int32) (k j : Nat) (x : Int32) : upd f k (f k + x) j = f j + atk k j x := ad_k f k j x
theorem us_k (f : Nat → Int32) (k j : Nat) (x : Int32) : upd f k (f k - x) j = f j - atk k j x := as_k f k j x
theorem atk_0 (k j : Nat) : atk k j 0 = 0 := by unfold atk; split <;> rfl
theorem atk_s {k j k2 j2 : Nat} (h : j = k ↔ j2 = k2) (x : Int32) : atk k j x = atk k2 j2 x := by
  unfold atk
  by_cases q : j = k
  · rw [if_pos q, if_pos (h.mp q)]
  · rw [if_neg q, if_neg (fun z => q (h.mpr z))]
theorem atk_n {k j : Nat} (h : ¬ j = k) (x : Int32) : atk k j x = 0 := if_neg h
theorem atk_bd {k j : Nat} {x : Int32} {b : Int} (hb : 0 ≤ b) (h1 : -b ≤ x.toInt) (h2 : x.toInt ≤ b) : -b ≤ (atk k j x).toInt ∧ (atk k j x).toInt ≤ b := by
  unfold atk
  split
  · exact ⟨h1, h2⟩
  · have z : (0 : Int32).toInt = 0 := rfl
    omega
theorem bdd_as {n : Nat} {x y z : Int32} (hn : n < 60) (h : bdd n x) (h1 : -8 ≤ y.toInt) (h2 : y.toInt ≤ 8) (h3 : -8 ≤ z.toInt) (h4 : z.toInt ≤ 8) : bdd (n + 1) (x + y - z) := by
  unfold bdd at *
  have a := ti_a (x := x) (y := y) rfl rfl (by omega) (by omega)
  have b := ti_s (x := x + y) (y := z) a rfl (by omega) (by omega)
  rw [b]
  omega
theorem bdd_aa {n : Nat} {x y z w : Int32} (hn : n < 60) (h : bdd n x) (h1 : -5 ≤ y.toInt) (h2 : y.toInt ≤ 5) (h3 : -5 ≤ z.toInt) (h4 : z.toInt ≤ 5) (h5 : -5 ≤ w.toInt) (h6 : w.toInt ≤ 5) : bdd (n + 1) (x + y + z - w) := by
  unfold bdd at *
  have a := ti_a (x := x) (y := y) rfl rfl (by omega) (by omega)
  have b := ti_a (x := x + y) (y := z) a rfl (by omega) (by omega)
  have c := ti_s (x := x + y + z) (y := w) b rfl (by omega) (by omega)
  rw [c]
  omega
/-- what the law adds at the end of a round -/
theorem end_pt {lp : Nat → Int32} {pt fn df : Nat → Int32} {wn : Nat → Nat → Int32} {hm aw m : Int32} (hm_ : m = mrN lp 6) :
    ∃ P : Nat → Int32, (∀ k : Nat, P k = pt k + atk hm.toNatClampNeg k (j_L_isEnd_127 lp) + atk aw.toNatClampNeg k (j_L_isEnd_155 lp)) ∧ g_pt_X4_enter pt fn df wn hm aw m = (tpN P fn 6).1 ∧ g_fn_X4_enter pt fn df wn hm aw m = (tpN P fn 6).2 ∧
      ∀ i j : Nat, g_wn_X4_enter pt fn df wn hm aw m i j = wn i j + (if i = hm.toNatClampNeg then atk aw.toNatClampNeg j (j_L_isEnd_205 lp) else 0) + (if i = aw.toNatClampNeg then atk hm.toNatClampNeg j (j_L_isEnd_229 lp) else 0) := by
  unfold g_pt_X4_enter g_fn_X4_enter g_wn_X4_enter
  by_cases c1 : m ≤ 0
  · by_cases c2 : 0 ≤ m
    · have m0 : m = 0 := Int32.le_antisymm c1 c2
      have j1 : j_L_isEnd_127 lp = 1 := by unfold j_L_isEnd_127; rw [← hm_, m0]; rfl
      have j2 : j_L_isEnd_155 lp = 1 := by unfold j_L_isEnd_155; rw [← hm_, m0]; rfl
      have j3 : j_L_isEnd_205 lp = 0 := by unfold j_L_isEnd_205; rw [← hm_, m0]; rfl
      have j4 : j_L_isEnd_229 lp = 0 := by unfold j_L_isEnd_229; rw [← hm_, m0]; rfl
      rw [if_pos c1, if_pos c2, if_pos c1, if_pos c2, if_pos c1, if_pos c2, j1, j2, j3, j4]
      refine ⟨_, fun k => ?_, rfl, rfl, fun i j => ?_⟩
      · rw [up_k, up_k]
      · rw [atk_0, atk_0, ite_self, ite_self, Int32.add_zero, Int32.add_zero]
    · have m1 : ¬ m = 0 := fun z => c2 (by rw [z]; decide)
      have j1 : j_L_isEnd_127 lp = 0 := by unfold j_L_isEnd_127; rw [← hm_, if_pos c1, if_neg m1]
      have j2 : j_L_isEnd_155 lp = 3 := by unfold j_L_isEnd_155; rw [← hm_, if_pos c1, if_neg m1]
      have j3 : j_L_isEnd_205 lp = 0 := by unfold j_L_isEnd_205; rw [← hm_, if_pos c1]
      have j4 : j_L_isEnd_229 lp = 1 := by unfold j_L_isEnd_229; rw [← hm_, if_neg c2]
      rw [if_pos c1, if_neg c2, if_pos c1, if_neg c2, if_pos c1, if_neg c2, j1, j2, j3, j4]
      refine ⟨_, fun k => ?_, rfl, rfl, fun i j => ?_⟩
      · rw [up_k, atk_0, Int32.add_zero]
      · unfold g_wn_X4_enterWin va_up
        rw [atk_0, ite_self, Int32.add_zero]
        by_cases q : i = aw.toNatClampNeg
        · rw [q, if_pos rfl, if_pos rfl, up_k]
        · rw [if_neg q, if_neg q, Int32.add_zero]
  · have c2 : 0 ≤ m := Int32.le_of_lt (Int32.not_le.mp c1)
    have j1 : j_L_isEnd_127 lp = 3 := by unfold j_L_isEnd_127; rw [← hm_, if_neg c1]
    have j2 : j_L_isEnd_155 lp = 0 := by unfold j_L_isEnd_155; rw [← hm_, if_neg c1]
    have j3 : j_L_isEnd_205 lp = 1 := by unfold j_L_isEnd_205; rw [← hm_, if_neg c1]
    have j4 : j_L_isEnd_229 lp = 0 := by unfold j_L_isEnd_229; rw [← hm_, if_pos c2]
    rw [if_neg c1, if_neg c1, if_neg c1, j1, j2, j3, j4]
    refine ⟨_, fun k => ?_, rfl, rfl, fun i j => ?_⟩
    · rw [up_k, atk_0, Int32.add_zero]
    · unfold g_wn_X4_enterWin va_up
      rw [atk_0, ite_self, Int32.add_zero]
      by_cases q : i = hm.toNatClampNeg
      · rw [q, if_pos rfl, if_pos rfl, up_k]
      · rw [if_neg q, if_neg q, Int32.add_zero]
theorem j_bd (lp : Nat → Int32) : (0 ≤ (j_L_isEnd_127 lp).toInt ∧ (j_L_isEnd_127 lp).toInt ≤ 3) ∧ (0 ≤ (j_L_isEnd_155 lp).toInt ∧ (j_L_isEnd_155 lp).toInt ≤ 3) ∧ (0 ≤ (j_L_isEnd_205 lp).toInt ∧ (j_L_isEnd_205 lp).toInt ≤ 1) ∧ (0 ≤ (j_L_isEnd_229 lp).toInt ∧ (j_L_isEnd_229 lp).toInt ≤ 1) := by
  unfold j_L_isEnd_127 j_L_isEnd_155 j_L_isEnd_205 j_L_isEnd_229
  refine ⟨?_, ?_, ?_, ?_⟩ <;> (repeat' split) <;> decide
theorem InvT.ended {n : Nat} {pt fn df : Nat → Int32} {wn : Nat → Nat → Int32} {lt lw lp : Nat → Int32} {hm aw m : Int32} (hn : n < 60) (h : InvT n pt fn df wn lt lw) (hh : vp_in hm 6) (ha : vp_in aw 6) (hm_ : m = mrN lp 6) (m1 : -6 ≤ m.toInt) (m2 : m.toInt ≤ 6) :
    InvT (n + 1) (g_pt_X4_enter pt fn df wn hm aw m) (g_fn_X4_enter pt fn df wn hm aw m) (g_df_X4_enter pt fn df wn hm aw m) (g_wn_X4_enter pt fn df wn hm aw m)
      (tkN (adS (adA (adA (adA lt (3 * hm.toNatClampNeg) (j_L_isEnd_127 lp)) (3 * aw.toNatClampNeg) (j_L_isEnd_155 lp)) (3 * hm.toNatClampNeg + 2) (mrN lp 6)) (3 * aw.toNatClampNeg + 2) (mrN lp 6)) 6)
      (adA (adA lw (6 * hm.toNatClampNeg + aw.toNatClampNeg) (j_L_isEnd_205 lp)) (6 * aw.toNatClampNeg + hm.toNatClampNeg) (j_L_isEnd_229 lp)) := by
  obtain ⟨P, p1, p2, p3, p4⟩ := end_pt (lp := lp) (pt := pt) (fn := fn) (df := df) (wn := wn) (hm := hm) (aw := aw) hm_
  rw [p2, p3, ← hm_]
  have hH : hm.toNatClampNeg < 6 := in_cl hh
  have hA : aw.toNatClampNeg < 6 := in_cl ha
  obtain ⟨⟨q1, q2⟩, ⟨q3, q4⟩, ⟨q5, q6⟩, q7, q8⟩ := j_bd lp
  have hd : ∀ k : Nat, g_df_X4_enter pt fn df wn hm aw m k = df k + atk hm.toNatClampNeg k m - atk aw.toNatClampNeg k m := fun k => by
    unfold g_df_X4_enter
    rw [us_k, up_k]
  generalize hm.toNatClampNeg = H at *
  generalize aw.toNatClampNeg = A at *
  have hl : ∀ k : Nat, k < 6 → _ := tk_eq (lt := adS (adA (adA (adA lt (3 * H) (j_L_isEnd_127 lp)) (3 * A) (j_L_isEnd_155 lp)) (3 * H + 2) m) (3 * A + 2) m) (pt := P) (fn := fn) (df := g_df_X4_enter pt fn df wn hm aw m) (fun k hk => by
    obtain ⟨⟨a1, a2, a3⟩, -⟩ := h.1 k hk
    refine ⟨?_, ?_, ?_⟩
    · rw [as_k, ad_k, ad_k, ad_k, a1, p1, atk_n (by omega : ¬ 3 * k = 3 * A + 2), atk_n (by omega : ¬ 3 * k = 3 * H + 2), Int32.sub_zero, Int32.add_zero, atk_s (show 3 * k = 3 * H ↔ k = H by omega), atk_s (show 3 * k = 3 * A ↔ k = A by omega)]
    · rw [as_k, ad_k, ad_k, ad_k, a2, atk_n (by omega : ¬ 3 * k + 1 = 3 * A + 2), atk_n (by omega : ¬ 3 * k + 1 = 3 * H + 2), atk_n (by omega : ¬ 3 * k + 1 = 3 * H), atk_n (by omega : ¬ 3 * k + 1 = 3 * A), Int32.sub_zero, Int32.add_zero, Int32.add_zero, Int32.add_zero]
    · rw [as_k, ad_k, ad_k, ad_k, a3, hd, atk_n (by omega : ¬ 3 * k + 2 = 3 * H), atk_n (by omega : ¬ 3 * k + 2 = 3 * A), Int32.add_zero, Int32.add_zero, atk_s (show 3 * k + 2 = 3 * H + 2 ↔ k = H by omega), atk_s (show 3 * k + 2 = 3 * A + 2 ↔ k = A by omega)]) 6 (Nat.le_refl 6)
  refine ⟨fun k hk => ⟨hl k hk, ?_, ?_, ?_⟩, fun i j hi hj => ⟨?_, ?_⟩⟩
  · obtain ⟨-, a4, -⟩ := h.1 k hk
    have u1 := atk_bd (k := H) (j := k) (x := j_L_isEnd_127 lp) (b := 5) (by omega) (by omega) (by omega)
    have u2 := atk_bd (k := A) (j := k) (x := j_L_isEnd_155 lp) (b := 5) (by omega) (by omega) (by omega)
    rcases (tp_bd P fn 6 k).2 hk with ⟨z, -⟩ | ⟨z, -⟩
    · rw [z, p1, ← Int32.sub_zero (pt k + atk H k (j_L_isEnd_127 lp) + atk A k (j_L_isEnd_155 lp))]
      exact bdd_aa hn a4 u1.1 u1.2 u2.1 u2.2 (by decide) (by decide)
    · rw [z, p1]
      exact bdd_aa hn a4 u1.1 u1.2 u2.1 u2.2 (by decide) (by decide)
  · obtain ⟨-, -, a5, -⟩ := h.1 k hk
    rcases (tp_bd P fn 6 k).2 hk with ⟨-, z⟩ | ⟨-, z⟩
    · rw [z]; exact a5.step
    · rw [z, ← Int32.add_zero (fn k)]
      exact bdd_as hn a5 (by decide) (by decide) (by decide) (by decide)
  · obtain ⟨-, -, -, a6⟩ := h.1 k hk
    rw [hd]
    have u1 := atk_bd (k := H) (j := k) (x := m) (b := 8) (by omega) (by omega) (by omega)
    have u2 := atk_bd (k := A) (j := k) (x := m) (b := 8) (by omega) (by omega) (by omega)
    exact bdd_as hn a6 u1.1 u1.2 u2.1 u2.2
  · rw [ad_k, ad_k, (h.2 i j hi hj).1, p4]
    have e1 : atk (6 * H + A) (6 * i + j) (j_L_isEnd_205 lp) = if i = H then atk A j (j_L_isEnd_205 lp) else 0 := by
      by_cases z : i = H
      · rw [if_pos z]; exact atk_s (by omega) _
      · rw [if_neg z]; exact atk_n (by omega) _
    have e2 : atk (6 * A + H) (6 * i + j) (j_L_isEnd_229 lp) = if i = A then atk H j (j_L_isEnd_229 lp) else 0 := by
      by_cases z : i = A
      · rw [if_pos z]; exact atk_s (by omega) _
      · rw [if_neg z]; exact atk_n (by omega) _
    rw [e1, e2]
  · rw [p4, ← Int32.sub_zero (wn i j + _ + _)]
    have z0 : (0 : Int32).toInt = 0 := rfl
    have u1 := atk_bd (k := A) (j := j) (x := j_L_isEnd_205 lp) (b := 5) (by omega) (by omega) (by omega)
    have u2 := atk_bd (k := H) (j := j) (x := j_L_isEnd_229 lp) (b := 5) (by omega) (by omega) (by omega)
    refine bdd_aa hn (h.2 i j hi hj).2 ?_ ?_ ?_ ?_ (by decide) (by decide) <;> split <;> omega
theorem op_end {n : Nat} {rf : Nat → Int32} {bk : Nat → Int32} {hm : Int32} {aw : Int32} {tk : Int32} {ce : Nat → Int32} {hi : Nat → Int32} {la : Nat → Int32} {sn : Nat} {sa : Nat → Int32} {sb : Nat → Int32} {sc : Nat → Int32} {sd : Nat → Int32} {kn : Nat} {ka : Nat → Int32} {kb : Nat → Int32} {kc : Nat → Int32} {kd : Nat → Int32} {pt : Nat → Int32} {fn : Nat → Int32} {df : Nat → Int32} {wn : Nat → Nat → Int32} {lb : Nat → Int32} {lp : Nat → Int32} {lc : Nat → Int32} {lt : Nat → Int32} {lw : Nat → Int32} (hn : n < 60) (h : InvA n rf bk hm aw tk ce hi la sn sa sb sc sd kn ka kb kc kd pt fn df wn lb lp lc lt lw)  : f_L_isEnd lb lp lt lw hm aw tk ce hi la sn kn pt fn df wn = 1 ∧ InvB (n + 1) rf bk hm aw (g_tk_L_isEnd lb lp lt lw hm aw tk ce hi la sn kn pt fn df wn) (g_ce_L_isEnd lb lp lt lw hm aw tk ce hi la sn kn pt fn df wn) (g_hi_L_isEnd lb lp lt lw hm aw tk ce hi la sn kn pt fn df wn) (g_la_L_isEnd lb lp lt lw hm aw tk ce hi la sn kn pt fn df wn) (g_sn_L_isEnd lb lp lt lw hm aw tk ce hi la sn kn pt fn df wn) sa sb sc sd (g_kn_L_isEnd lb lp lt lw hm aw tk ce hi la sn kn pt fn df wn) ka kb kc kd (g_pt_L_isEnd lb lp lt lw hm aw tk ce hi la sn kn pt fn df wn) (g_fn_L_isEnd lb lp lt lw hm aw tk ce hi la sn kn pt fn df wn) (g_df_L_isEnd lb lp lt lw hm aw tk ce hi la sn kn pt fn df wn) (g_wn_L_isEnd lb lp lt lw hm aw tk ce hi la sn kn pt fn df wn) (g_lb_L_isEnd lb lp lt lw hm aw tk ce hi la sn kn pt fn df wn) lp lc (g_lt_L_isEnd lb lp lt lw hm aw tk ce hi la sn kn pt fn df wn) (g_lw_L_isEnd lb lp lt lw hm aw tk ce hi la sn kn pt fn df wn) := by
  have hC := h.1
  have e14 := hC.b14
  rcases hC.onp with ⟨t1, hO⟩ | ⟨T, o1, o2, o3, o4⟩
  · have n14 : ¬ 0 ≤ lb 14 := by rw [e14, t1]; decide
    have a3 : k_X5_end hm aw tk ce hi la sn kn pt fn df wn = 3 := by unfold k_X5_end; rw [t1, (rd_off hm aw).1]; rfl
    have k0 : ¬ (3 : Int32) = 0 := by decide
    refine ⟨by unfold f_L_isEnd f_D8; rw [if_neg n14, a3]; rfl, ?_⟩
    have z1 : g_tk_L_isEnd lb lp lt lw hm aw tk ce hi la sn kn pt fn df wn = tk := by unfold g_tk_L_isEnd g_tk_D8; rw [if_neg n14, a3, if_neg k0]
    have z2 : g_ce_L_isEnd lb lp lt lw hm aw tk ce hi la sn kn pt fn df wn = ce := by unfold g_ce_L_isEnd g_ce_D8; rw [if_neg n14, a3, if_neg k0]
    have z3 : g_hi_L_isEnd lb lp lt lw hm aw tk ce hi la sn kn pt fn df wn = hi := by unfold g_hi_L_isEnd g_hi_D8; rw [if_neg n14, a3, if_neg k0]
    have z4 : g_la_L_isEnd lb lp lt lw hm aw tk ce hi la sn kn pt fn df wn = la := by unfold g_la_L_isEnd g_la_D8; rw [if_neg n14, a3, if_neg k0]
    have z5 : g_sn_L_isEnd lb lp lt lw hm aw tk ce hi la sn kn pt fn df wn = sn := by unfold g_sn_L_isEnd g_sn_D8; rw [if_neg n14, a3, if_neg k0]
    have z6 : g_kn_L_isEnd lb lp lt lw hm aw tk ce hi la sn kn pt fn df wn = kn := by unfold g_kn_L_isEnd g_kn_D8; rw [if_neg n14, a3, if_neg k0]
    have z7 : g_pt_L_isEnd lb lp lt lw hm aw tk ce hi la sn kn pt fn df wn = pt := by unfold g_pt_L_isEnd g_pt_D8; rw [if_neg n14, a3, if_neg k0]
    have z8 : g_fn_L_isEnd lb lp lt lw hm aw tk ce hi la sn kn pt fn df wn = fn := by unfold g_fn_L_isEnd g_fn_D8; rw [if_neg n14, a3, if_neg k0]
    have z9 : g_df_L_isEnd lb lp lt lw hm aw tk ce hi la sn kn pt fn df wn = df := by unfold g_df_L_isEnd g_df_D8; rw [if_neg n14, a3, if_neg k0]
    have y1 : g_wn_L_isEnd lb lp lt lw hm aw tk ce hi la sn kn pt fn df wn = wn := by unfold g_wn_L_isEnd g_wn_D8; rw [if_neg n14, a3, if_neg k0]
    have y2 : g_lb_L_isEnd lb lp lt lw hm aw tk ce hi la sn kn pt fn df wn = lb := by unfold g_lb_L_isEnd; rw [if_neg n14]
    have y3 : g_lt_L_isEnd lb lp lt lw hm aw tk ce hi la sn kn pt fn df wn = lt := by unfold g_lt_L_isEnd; rw [if_neg n14]
    have y4 : g_lw_L_isEnd lb lp lt lw hm aw tk ce hi la sn kn pt fn df wn = lw := by unfold g_lw_L_isEnd; rw [if_neg n14]
    rw [z1, z2, z3, z4, z5, z6, z7, z8, z9, y1, y2, y3, y4]
    exact h.keep
  · obtain ⟨tn1, tn2⟩ := tk_pl (T := T) (by omega)
    have n14 : 0 ≤ lb 14 := by rw [e14, o2]; exact Int32.not_lt.mp tn2
    have hmg : mgN ce hi 6 = mrN lp 6 := mg_eq (T := T) (by omega) (fun j hj => (o4.2.2.1 j hj).1) h.2 o3 6 (Nat.le_refl 6)
    obtain ⟨mb1, mb2⟩ := mg_bd ce hi 6 (Nat.le_refl 6)
    have z1 : g_tk_L_isEnd lb lp lt lw hm aw tk ce hi la sn kn pt fn df wn = (-1) := by unfold g_tk_L_isEnd; rw [if_pos n14]
    have z2 : g_ce_L_isEnd lb lp lt lw hm aw tk ce hi la sn kn pt fn df wn = fillN ce (-2) 6 := by unfold g_ce_L_isEnd; rw [if_pos n14]
    have z3 : g_hi_L_isEnd lb lp lt lw hm aw tk ce hi la sn kn pt fn df wn = fillN hi (-1) 6 := by unfold g_hi_L_isEnd; rw [if_pos n14]
    have z4 : g_la_L_isEnd lb lp lt lw hm aw tk ce hi la sn kn pt fn df wn = fillN la (-1) 6 := by unfold g_la_L_isEnd; rw [if_pos n14]
    have z5 : g_sn_L_isEnd lb lp lt lw hm aw tk ce hi la sn kn pt fn df wn = 0 := by unfold g_sn_L_isEnd; rw [if_pos n14]
    have z6 : g_kn_L_isEnd lb lp lt lw hm aw tk ce hi la sn kn pt fn df wn = 0 := by unfold g_kn_L_isEnd; rw [if_pos n14]
    have z7 : g_pt_L_isEnd lb lp lt lw hm aw tk ce hi la sn kn pt fn df wn = g_pt_X4_enter pt fn df wn hm aw (mgN ce hi 6) := by unfold g_pt_L_isEnd; rw [if_pos n14]
    have z8 : g_fn_L_isEnd lb lp lt lw hm aw tk ce hi la sn kn pt fn df wn = g_fn_X4_enter pt fn df wn hm aw (mgN ce hi 6) := by unfold g_fn_L_isEnd; rw [if_pos n14]
    have z9 : g_df_L_isEnd lb lp lt lw hm aw tk ce hi la sn kn pt fn df wn = g_df_X4_enter pt fn df wn hm aw (mgN ce hi 6) := by unfold g_df_L_isEnd; rw [if_pos n14]
    have y1 : g_wn_L_isEnd lb lp lt lw hm aw tk ce hi la sn kn pt fn df wn = g_wn_X4_enter pt fn df wn hm aw (mgN ce hi 6) := by unfold g_wn_L_isEnd; rw [if_pos n14]
    have y2 : g_lb_L_isEnd lb lp lt lw hm aw tk ce hi la sn kn pt fn df wn = upd lb 14 (-1) := by unfold g_lb_L_isEnd; rw [if_pos n14]
    have hT := hC.t.ended (lp := lp) hn hC.tm.2.2.1 hC.tm.2.2.2 hmg mb1 mb2
    obtain ⟨t1, t2, t3, t4⟩ := hC.tm
    have y3 : g_lt_L_isEnd lb lp lt lw hm aw tk ce hi la sn kn pt fn df wn = tkN (adS (adA (adA (adA lt (3 * hm.toNatClampNeg) (j_L_isEnd_127 lp)) (3 * aw.toNatClampNeg) (j_L_isEnd_155 lp)) (3 * hm.toNatClampNeg + 2) (mrN lp 6)) (3 * aw.toNatClampNeg + 2) (mrN lp 6)) 6 := by unfold g_lt_L_isEnd; rw [if_pos n14, t1, t2]
    have y4 : g_lw_L_isEnd lb lp lt lw hm aw tk ce hi la sn kn pt fn df wn = adA (adA lw (6 * hm.toNatClampNeg + aw.toNatClampNeg) (j_L_isEnd_205 lp)) (6 * aw.toNatClampNeg + hm.toNatClampNeg) (j_L_isEnd_229 lp) := by unfold g_lw_L_isEnd; rw [if_pos n14, t1, t2]
    refine ⟨by unfold f_L_isEnd; rw [if_pos n14, hmg, if_pos (rfl : mrN lp 6 = mrN lp 6)], ?_⟩
    rw [z1, z2, z3, z4, z5, z6, z7, z8, z9, y1, y2, y3, y4]
    obtain ⟨g1, g2, g3, g4, g5, g6, g7, g8, g9, g10⟩ := hC.step
    refine ⟨⟨g1.far (by decide) _, g2.far (by decide) _, hT, ?_, upd_at _ _ _, ?_, g7, ⟨by omega, by omega⟩, g9, Or.inl ⟨rfl, rfl, rfl, fun j hj => fill_at _ _ 6 j hj, fun j hj => fill_at _ _ 6 j hj⟩⟩, Or.inl rfl⟩
    · rw [upd_ne _ _ (by decide), upd_ne _ _ (by decide)]; exact g4
    · rw [upd_ne _ _ (by decide)]; exact g6
