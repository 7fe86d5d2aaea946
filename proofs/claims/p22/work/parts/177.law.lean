noncomputable def j_L_isEnd_265 (e1 : Nat → Int32) (k : Nat) : Int32 := if (e1 ((3 * k) + 1)) ≤ 1 then 0 else 1
theorem zj_L_isEnd_265 {e1 : Nat → Int32} {k : Nat} : j_L_isEnd_265 e1 k = 0 ∨ j_L_isEnd_265 e1 k = 1 := by
  unfold j_L_isEnd_265
  (repeat' split) <;> first | exact Or.inl rfl | exact Or.inr rfl
theorem tj_L_isEnd_265 {e1 : Nat → Int32} {k : Nat} (h : ¬ j_L_isEnd_265 e1 k = 0) : ¬ ((e1 ((3 * k) + 1)) ≤ 1) := by
  unfold j_L_isEnd_265 at h
  (repeat' split at h) <;> first | exact absurd rfl h | assumption
noncomputable def j_L_isEnd_293 (e1 : Nat → Int32) (k : Nat) : Int32 := if ((adS e1 (3 * k) (j_L_isEnd_265 e1 k)) ((3 * k) + 1)) ≤ 1 then 0 else 2
noncomputable def j_L_isEnd_75 (lp : Nat → Int32) (i : Nat) : Int32 := if (lp i) = (-2) then 0 else (if (lp (6 + i)) ≤ 0 then (if 3 ≤ (nI i) then (-1) else 1) else 0)
/-- isEnd: the difference of those standing, of the first n -/
noncomputable def mrN (lp : Nat → Int32) : Nat → Int32
  | 0 => 0
  | n + 1 => mrN lp n + j_L_isEnd_75 lp n
termination_by n => n
noncomputable def j_L_isEnd_127 (lp : Nat → Int32) : Int32 := if (mrN lp 6) ≤ 0 then (if (mrN lp 6) = 0 then 1 else 0) else 3
noncomputable def j_L_isEnd_155 (lp : Nat → Int32) : Int32 := if (mrN lp 6) ≤ 0 then (if (mrN lp 6) = 0 then 1 else 3) else 0
noncomputable def j_L_isEnd_205 (lp : Nat → Int32) : Int32 := if (mrN lp 6) ≤ 0 then 0 else 1
theorem zj_L_isEnd_205 {lp : Nat → Int32} : j_L_isEnd_205 lp = 0 ∨ j_L_isEnd_205 lp = 1 := by
  unfold j_L_isEnd_205
  (repeat' split) <;> first | exact Or.inl rfl | exact Or.inr rfl
theorem tj_L_isEnd_205 {lp : Nat → Int32} (h : ¬ j_L_isEnd_205 lp = 0) : ¬ ((mrN lp 6) ≤ 0) := by
  unfold j_L_isEnd_205 at h
  (repeat' split at h) <;> first | exact absurd rfl h | assumption
noncomputable def j_L_isEnd_229 (lp : Nat → Int32) : Int32 := if 0 ≤ (mrN lp 6) then 0 else 1
theorem zj_L_isEnd_229 {lp : Nat → Int32} : j_L_isEnd_229 lp = 0 ∨ j_L_isEnd_229 lp = 1 := by
  unfold j_L_isEnd_229
  (repeat' split) <;> first | exact Or.inl rfl | exact Or.inr rfl
theorem tj_L_isEnd_229 {lp : Nat → Int32} (h : ¬ j_L_isEnd_229 lp = 0) : ¬ (0 ≤ (mrN lp 6)) := by
  unfold j_L_isEnd_229 at h
  (repeat' split at h) <;> first | exact absurd rfl h | assumption
/-- isEnd: the penalties of the first n teams -/
noncomputable def tkN (lt : Nat → Int32) : Nat → Nat → Int32
  | 0 => lt
  | n + 1 => adS (adS (tkN lt n) (3 * n) (j_L_isEnd_265 (tkN lt n) n)) ((3 * n) + 1) (j_L_isEnd_293 (tkN lt n) n)
termination_by n => n
noncomputable def f_L_isEnd (lb : Nat → Int32) (lp : Nat → Int32) (lt : Nat → Int32) (lw : Nat → Int32) (hm : Int32) (aw : Int32) (tk : Int32) (ce : Nat → Int32) (hi : Nat → Int32) (la : Nat → Int32) (sn : Nat) (kn : Nat) (pt : Nat → Int32) (fn : Nat → Int32) (df : Nat → Int32) (wn : Nat → Nat → Int32) : Int32 := if 0 ≤ (lb 14) then (if (mgN ce hi 6) = (mrN lp 6) then 1 else 0) else (if (f_D8 hm aw tk ce hi la sn kn pt fn df wn 0 0) = (-10) then 1 else 0)
noncomputable def g_tk_L_isEnd (lb : Nat → Int32) (lp : Nat → Int32) (lt : Nat → Int32) (lw : Nat → Int32) (hm : Int32) (aw : Int32) (tk : Int32) (ce : Nat → Int32) (hi : Nat → Int32) (la : Nat → Int32) (sn : Nat) (kn : Nat) (pt : Nat → Int32) (fn : Nat → Int32) (df : Nat → Int32) (wn : Nat → Nat → Int32) : Int32 := if 0 ≤ (lb 14) then (-1) else (g_tk_D8 hm aw tk ce hi la sn kn pt fn df wn 0 0)
noncomputable def g_ce_L_isEnd (lb : Nat → Int32) (lp : Nat → Int32) (lt : Nat → Int32) (lw : Nat → Int32) (hm : Int32) (aw : Int32) (tk : Int32) (ce : Nat → Int32) (hi : Nat → Int32) (la : Nat → Int32) (sn : Nat) (kn : Nat) (pt : Nat → Int32) (fn : Nat → Int32) (df : Nat → Int32) (wn : Nat → Nat → Int32) : Nat → Int32 := if 0 ≤ (lb 14) then (fillN ce (-2) 6) else (g_ce_D8 hm aw tk ce hi la sn kn pt fn df wn 0 0)
noncomputable def g_hi_L_isEnd (lb : Nat → Int32) (lp : Nat → Int32) (lt : Nat → Int32) (lw : Nat → Int32) (hm : Int32) (aw : Int32) (tk : Int32) (ce : Nat → Int32) (hi : Nat → Int32) (la : Nat → Int32) (sn : Nat) (kn : Nat) (pt : Nat → Int32) (fn : Nat → Int32) (df : Nat → Int32) (wn : Nat → Nat → Int32) : Nat → Int32 := if 0 ≤ (lb 14) then (fillN hi (-1) 6) else (g_hi_D8 hm aw tk ce hi la sn kn pt fn df wn 0 0)
noncomputable def g_la_L_isEnd (lb : Nat → Int32) (lp : Nat → Int32) (lt : Nat → Int32) (lw : Nat → Int32) (hm : Int32) (aw : Int32) (tk : Int32) (ce : Nat → Int32) (hi : Nat → Int32) (la : Nat → Int32) (sn : Nat) (kn : Nat) (pt : Nat → Int32) (fn : Nat → Int32) (df : Nat → Int32) (wn : Nat → Nat → Int32) : Nat → Int32 := if 0 ≤ (lb 14) then (fillN la (-1) 6) else (g_la_D8 hm aw tk ce hi la sn kn pt fn df wn 0 0)
noncomputable def g_sn_L_isEnd (lb : Nat → Int32) (lp : Nat → Int32) (lt : Nat → Int32) (lw : Nat → Int32) (hm : Int32) (aw : Int32) (tk : Int32) (ce : Nat → Int32) (hi : Nat → Int32) (la : Nat → Int32) (sn : Nat) (kn : Nat) (pt : Nat → Int32) (fn : Nat → Int32) (df : Nat → Int32) (wn : Nat → Nat → Int32) : Nat := if 0 ≤ (lb 14) then 0 else (g_sn_D8 hm aw tk ce hi la sn kn pt fn df wn 0 0)
noncomputable def g_kn_L_isEnd (lb : Nat → Int32) (lp : Nat → Int32) (lt : Nat → Int32) (lw : Nat → Int32) (hm : Int32) (aw : Int32) (tk : Int32) (ce : Nat → Int32) (hi : Nat → Int32) (la : Nat → Int32) (sn : Nat) (kn : Nat) (pt : Nat → Int32) (fn : Nat → Int32) (df : Nat → Int32) (wn : Nat → Nat → Int32) : Nat := if 0 ≤ (lb 14) then 0 else (g_kn_D8 hm aw tk ce hi la sn kn pt fn df wn 0 0)
noncomputable def g_pt_L_isEnd (lb : Nat → Int32) (lp : Nat → Int32) (lt : Nat → Int32) (lw : Nat → Int32) (hm : Int32) (aw : Int32) (tk : Int32) (ce : Nat → Int32) (hi : Nat → Int32) (la : Nat → Int32) (sn : Nat) (kn : Nat) (pt : Nat → Int32) (fn : Nat → Int32) (df : Nat → Int32) (wn : Nat → Nat → Int32) : Nat → Int32 := if 0 ≤ (lb 14) then (g_pt_X4_enter pt fn df wn hm aw (mgN ce hi 6)) else (g_pt_D8 hm aw tk ce hi la sn kn pt fn df wn 0 0)
noncomputable def g_fn_L_isEnd (lb : Nat → Int32) (lp : Nat → Int32) (lt : Nat → Int32) (lw : Nat → Int32) (hm : Int32) (aw : Int32) (tk : Int32) (ce : Nat → Int32) (hi : Nat → Int32) (la : Nat → Int32) (sn : Nat) (kn : Nat) (pt : Nat → Int32) (fn : Nat → Int32) (df : Nat → Int32) (wn : Nat → Nat → Int32) : Nat → Int32 := if 0 ≤ (lb 14) then (g_fn_X4_enter pt fn df wn hm aw (mgN ce hi 6)) else (g_fn_D8 hm aw tk ce hi la sn kn pt fn df wn 0 0)
noncomputable def g_df_L_isEnd (lb : Nat → Int32) (lp : Nat → Int32) (lt : Nat → Int32) (lw : Nat → Int32) (hm : Int32) (aw : Int32) (tk : Int32) (ce : Nat → Int32) (hi : Nat → Int32) (la : Nat → Int32) (sn : Nat) (kn : Nat) (pt : Nat → Int32) (fn : Nat → Int32) (df : Nat → Int32) (wn : Nat → Nat → Int32) : Nat → Int32 := if 0 ≤ (lb 14) then (g_df_X4_enter pt fn df wn hm aw (mgN ce hi 6)) else (g_df_D8 hm aw tk ce hi la sn kn pt fn df wn 0 0)
noncomputable def g_wn_L_isEnd (lb : Nat → Int32) (lp : Nat → Int32) (lt : Nat → Int32) (lw : Nat → Int32) (hm : Int32) (aw : Int32) (tk : Int32) (ce : Nat → Int32) (hi : Nat → Int32) (la : Nat → Int32) (sn : Nat) (kn : Nat) (pt : Nat → Int32) (fn : Nat → Int32) (df : Nat → Int32) (wn : Nat → Nat → Int32) : Nat → Nat → Int32 := if 0 ≤ (lb 14) then (g_wn_X4_enter pt fn df wn hm aw (mgN ce hi 6)) else (g_wn_D8 hm aw tk ce hi la sn kn pt fn df wn 0 0)
noncomputable def g_lb_L_isEnd (lb : Nat → Int32) (lp : Nat → Int32) (lt : Nat → Int32) (lw : Nat → Int32) (hm : Int32) (aw : Int32) (tk : Int32) (ce : Nat → Int32) (hi : Nat → Int32) (la : Nat → Int32) (sn : Nat) (kn : Nat) (pt : Nat → Int32) (fn : Nat → Int32) (df : Nat → Int32) (wn : Nat → Nat → Int32) : Nat → Int32 := if 0 ≤ (lb 14) then upd lb 14 (-1) else lb
noncomputable def g_lt_L_isEnd (lb : Nat → Int32) (lp : Nat → Int32) (lt : Nat → Int32) (lw : Nat → Int32) (hm : Int32) (aw : Int32) (tk : Int32) (ce : Nat → Int32) (hi : Nat → Int32) (la : Nat → Int32) (sn : Nat) (kn : Nat) (pt : Nat → Int32) (fn : Nat → Int32) (df : Nat → Int32) (wn : Nat → Nat → Int32) : Nat → Int32 := if 0 ≤ (lb 14) then tkN (adS (adA (adA (adA lt (3 * ((lb 17).toNatClampNeg)) (j_L_isEnd_127 lp)) (3 * ((lb 18).toNatClampNeg)) (j_L_isEnd_155 lp)) ((3 * ((lb 17).toNatClampNeg)) + 2) (mrN lp 6)) ((3 * ((lb 18).toNatClampNeg)) + 2) (mrN lp 6)) 6 else lt
noncomputable def g_lw_L_isEnd (lb : Nat → Int32) (lp : Nat → Int32) (lt : Nat → Int32) (lw : Nat → Int32) (hm : Int32) (aw : Int32) (tk : Int32) (ce : Nat → Int32) (hi : Nat → Int32) (la : Nat → Int32) (sn : Nat) (kn : Nat) (pt : Nat → Int32) (fn : Nat → Int32) (df : Nat → Int32) (wn : Nat → Nat → Int32) : Nat → Int32 := if 0 ≤ (lb 14) then adA (adA lw ((6 * ((lb 17).toNatClampNeg)) + ((lb 18).toNatClampNeg)) (j_L_isEnd_205 lp)) ((6 * ((lb 18).toNatClampNeg)) + ((lb 17).toNatClampNeg)) (j_L_isEnd_229 lp) else lw
