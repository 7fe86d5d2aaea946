theorem d4_sn {hm aw tk : Int32} {ce la : Nat → Int32} {sn : Nat} {sa sb sc sd : Nat → Int32} {p1 p2 : Int32} (h : sn ≤ 100) : g_sn_D4 hm aw tk ce la sn sa sb sc sd p1 p2 ≤ 100 := by
  unfold g_sn_D4
  split
  · rename_i hk
    have : sn < 100 := by
      unfold k_X5_shoot at hk
      (repeat' split at hk) <;> first | exact mayFire_lt h (by assumption) | contradiction | exact absurd hk (by decide)
    omega
  · exact h
theorem lp_pl {x : Int32} (h : x = (-2) ∨ x = (-1) ∨ vp_in x 144) (h1 : ¬ x ≤ (-2)) (h2 : ¬ x = (-1)) : vp_in x 144 := by
  rcases h with h | h | h
  · exact absurd (h ▸ Int32.le_refl _) h1
  · exact absurd h h2
  · exact h
theorem lp_nn {x : Int32} (h : x = (-2) ∨ x = (-1) ∨ vp_in x 144) (h1 : ¬ x < 0) : vp_in x 144 := by
  rcases h with h | h | h
  · exact absurd (show x < 0 by rw [h]; decide) h1
  · exact absurd (show x < 0 by rw [h]; decide) h1
  · exact h
/-- f, with x more at k; with x less -/
def adA (f : Nat → Int32) (k : Nat) (x : Int32) : Nat → Int32 := upd f k (f k + x)
def adS (f : Nat → Int32) (k : Nat) (x : Int32) : Nat → Int32 := upd f k (f k - x)
noncomputable def j_L_isMove_19 (p1 : Nat) (p2 : Nat) : Int32 := if 6 ≤ (nI p1) then 0 else (if 144 ≤ (nI p2) then 0 else 1)
theorem zj_L_isMove_19 {p1 : Nat} {p2 : Nat} : j_L_isMove_19 p1 p2 = 0 ∨ j_L_isMove_19 p1 p2 = 1 := by
  unfold j_L_isMove_19
  (repeat' split) <;> first | exact Or.inl rfl | exact Or.inr rfl
theorem tj_L_isMove_19 {p1 : Nat} {p2 : Nat} (h : ¬ j_L_isMove_19 p1 p2 = 0) : ¬ (6 ≤ (nI p1)) ∧ ¬ (144 ≤ (nI p2)) := by
  unfold j_L_isMove_19 at h
  (repeat' split at h) <;> first | exact absurd rfl h | exact ⟨by assumption, by assumption⟩
noncomputable def j_L_isMove_75 (p1 : Nat) (p2 : Nat) (lb : Nat → Int32) (lp : Nat → Int32) : Int32 := if (j_L_isMove_19 p1 p2) = 0 then 0 else (if (lb 14) < 0 then 0 else (if (lp p1) ≤ (-2) then 0 else (if (lp p1) = (-1) then (if (frN lb lp p2 6) = 0 then 0 else 1) else (if (nI (apN ((lp p1).toNatClampNeg) p2)) = 1 then (if (frN lb lp p2 6) = 0 then 0 else 1) else 0))))
theorem zj_L_isMove_75 {p1 : Nat} {p2 : Nat} {lb : Nat → Int32} {lp : Nat → Int32} : j_L_isMove_75 p1 p2 lb lp = 0 ∨ j_L_isMove_75 p1 p2 lb lp = 1 := by
  unfold j_L_isMove_75
  (repeat' split) <;> first | exact Or.inl rfl | exact Or.inr rfl
theorem tj_L_isMove_75 {p1 : Nat} {p2 : Nat} {lb : Nat → Int32} {lp : Nat → Int32} (h : ¬ j_L_isMove_75 p1 p2 lb lp = 0) : ¬ ((j_L_isMove_19 p1 p2) = 0) ∧ ¬ ((lb 14) < 0) ∧ ¬ ((lp p1) ≤ (-2)) ∧ ¬ ((frN lb lp p2 6) = 0) := by
  unfold j_L_isMove_75 at h
  (repeat' split at h) <;> first | exact absurd rfl h | exact ⟨by assumption, by assumption, by assumption, by assumption⟩
noncomputable def j_L_isMove_100 (p1 : Nat) (p2 : Nat) (lb : Nat → Int32) (lp : Nat → Int32) : Int32 := if (j_L_isMove_19 p1 p2) = 0 then (-30) else (if (j_L_isMove_75 p1 p2 lb lp) = 0 then (-10) else lp p1)
noncomputable def f_L_isMove (lb : Nat → Int32) (lp : Nat → Int32) (bk : Nat → Int32) (hm : Int32) (aw : Int32) (tk : Int32) (ce : Nat → Int32) (p1 : Nat) (p2 : Nat) : Int32 := if (f_D3 bk hm aw tk ce (nI p1) (nI p2)) = (j_L_isMove_100 p1 p2 lb lp) then 1 else 0
noncomputable def g_lp_L_isMove (lb : Nat → Int32) (lp : Nat → Int32) (bk : Nat → Int32) (hm : Int32) (aw : Int32) (tk : Int32) (ce : Nat → Int32) (p1 : Nat) (p2 : Nat) : Nat → Int32 := if (j_L_isMove_75 p1 p2 lb lp) = 0 then lp else upd lp p1 (nI p2)
set_option maxHeartbeats 4000000 in
set_option maxRecDepth 100000 in
theorem c_L_isMove (l : Launch) (hlt : l.stackTraces = false) (D : va_G) (cI cZ cJ cA : ClassId) (sx : Nat → Nat) (sz : Nat) (a : Nat → Nat) (q : Nat → Nat) (lb : Nat → Int32) (lp : Nat → Int32) (bk : Nat → Int32) (hm : Int32) (aw : Int32) (tk : Int32) (ce : Nat → Int32) (p1 : Nat) (p2 : Nat) (h1 : p1 < 100) (h2 : p2 < 1000) (hlp : ∀ j : Nat, j < 6 → lp j = (-2) ∨ lp j = (-1) ∨ vp_in (lp j) 144) (hz : ∀ j : Nat, bk j = 0 ∨ bk j = 1) : Met l yL_isMove wsL_isMove ({ frames := 10, cells := 4, slots := 24, locals := 178 } : Room) (va_Pc [.ref (a 0), .ref (q 0), .ref (q 1), .int (nI p1), .int (nI p2)] (pcL (pcW D (tyL cI cZ cJ cA) [((a 0), .inr (5, [.ref (a 2), .ref (a 4), .ref (a 18), .ref (a 1)])), ((a 4), .inr (2, [.int hm, .int aw, .int tk, .ref (a 5), .ref (a 6), .ref (a 7), .ref (a 8), .ref (a 13)])), ((a 5), .inl (cI, 6, .inl ce)), ((a 2), .inr (1, [.ref (a 3)])), ((a 3), .inl (cZ, 144, .inl bk)), ((q 0), .inl (cI, 19, .inl lb)), ((q 1), .inl (cI, 18, .inl lp))] sz) sx (va_A [((a 0), .inr (5, [.ref (a 2), .ref (a 4), .ref (a 18), .ref (a 1)])), ((a 4), .inr (2, [.int hm, .int aw, .int tk, .ref (a 5), .ref (a 6), .ref (a 7), .ref (a 8), .ref (a 13)])), ((a 5), .inl (cI, 6, .inl ce)), ((a 2), .inr (1, [.ref (a 3)])), ((a 3), .inl (cZ, 144, .inl bk)), ((q 0), .inl (cI, 19, .inl lb)), ((q 1), .inl (cI, 18, .inl lp))] sz))) (va_Qi (fun (r : Int32) (u : (Nat → Int32) × (Nat → Int32)) => r = f_L_isMove lb lp bk hm aw tk ce p1 p2 ∧ u.1 = (g_ce_D3 bk hm aw tk ce (nI p1) (nI p2)) ∧ u.2 = g_lp_L_isMove lb lp bk hm aw tk ce p1 p2) (fun u t => bcW D (tyL cI cZ cJ cA) (va_A [((a 0), .inr (5, [.ref (a 2), .ref (a 4), .ref (a 18), .ref (a 1)])), ((a 4), .inr (2, [.int hm, .int aw, .int tk, .ref (a 5), .ref (a 6), .ref (a 7), .ref (a 8), .ref (a 13)])), ((a 5), .inl (cI, 6, .inl ce)), ((a 2), .inr (1, [.ref (a 3)])), ((a 3), .inl (cZ, 144, .inl bk)), ((q 0), .inl (cI, 19, .inl lb)), ((q 1), .inl (cI, 18, .inl lp))] sz) [((a 0), .inr (5, [.ref (a 2), .ref (a 4), .ref (a 18), .ref (a 1)])), ((a 4), .inr (2, [.int hm, .int aw, .int tk, .ref (a 5), .ref (a 6), .ref (a 7), .ref (a 8), .ref (a 13)])), ((a 5), .inl (cI, 6, .inl u.1)), ((a 2), .inr (1, [.ref (a 3)])), ((a 3), .inl (cZ, 144, .inl bk)), ((q 0), .inl (cI, 19, .inl lb)), ((q 1), .inl (cI, 18, .inl u.2))] t) (va_A [((a 0), .inr (5, [.ref (a 2), .ref (a 4), .ref (a 18), .ref (a 1)])), ((a 4), .inr (2, [.int hm, .int aw, .int tk, .ref (a 5), .ref (a 6), .ref (a 7), .ref (a 8), .ref (a 13)])), ((a 5), .inl (cI, 6, .inl ce)), ((a 2), .inr (1, [.ref (a 3)])), ((a 3), .inl (cZ, 144, .inl bk)), ((q 0), .inl (cI, 19, .inl lb)), ((q 1), .inl (cI, 18, .inl lp))] sz)) 4 24 (va_A [((a 0), .inr (5, [.ref (a 2), .ref (a 4), .ref (a 18), .ref (a 1)])), ((a 4), .inr (2, [.int hm, .int aw, .int tk, .ref (a 5), .ref (a 6), .ref (a 7), .ref (a 8), .ref (a 13)])), ((a 5), .inl (cI, 6, .inl ce)), ((a 2), .inr (1, [.ref (a 3)])), ((a 3), .inl (cZ, 144, .inl bk)), ((q 0), .inl (cI, 19, .inl lb)), ((q 1), .inl (cI, 18, .inl lp))] sz) := by
  refine Met.ofW (cc := cL_isMove) (maxL := 8) (ret := (some .boolean)) (by decide) rfl ?_
  intro p e s m args below meth c s₁ B hml hv
  obtain ⟨rfl, ⟨⟨hsz, hP, hK, hD0⟩, hE⟩, hN⟩ := hv
  have hx := B.exec
  have hb := B.bytes
  have hr := B.returns
  have hts := atoms_spec (ws := wsL_isMove) B.pre
  have hown : s.vm.findClass RL = some m.cls := findClass_of_methodNamed B.named
  have hlocks := B.notSynchronized
  subst hsz
  have hD := hD0.self (sz := s.heap.size)
  generalize hAe : va_A [((a 0), .inr (5, [.ref (a 2), .ref (a 4), .ref (a 18), .ref (a 1)])), ((a 4), .inr (2, [.int hm, .int aw, .int tk, .ref (a 5), .ref (a 6), .ref (a 7), .ref (a 8), .ref (a 13)])), ((a 5), .inl (cI, 6, .inl ce)), ((a 2), .inr (1, [.ref (a 3)])), ((a 3), .inl (cZ, 144, .inl bk)), ((q 0), .inl (cI, 19, .inl lb)), ((q 1), .inl (cI, 18, .inl lp))] s.heap.size = A at hD hE ⊢
  have hA : ∀ q : Nat, s.heap.size ≤ q → A q := fun q h => by rw [← hAe]; exact Or.inr h
  have hAR : ∀ q : Nat, s.heap.size ≤ q → (fun q : Nat => s.heap.size ≤ q) q := fun _ h => h
  have hS : va_S A s.heap s.heap [] := va_S.rf
  have hP : va_P D vwCl [((a 0), .inr (5, [.ref (a 2), .ref (a 4), .ref (a 18), .ref (a 1)])), ((a 4), .inr (2, [.int hm, .int aw, .int tk, .ref (a 5), .ref (a 6), .ref (a 7), .ref (a 8), .ref (a 13)])), ((a 5), .inl (cI, 6, .inl ce)), ((a 2), .inr (1, [.ref (a 3)])), ((a 3), .inl (cZ, 144, .inl bk)), ((q 0), .inl (cI, 19, .inl lb)), ((q 1), .inl (cI, 18, .inl lp))] s.heap := hP
  have hl := lv_entry ([.ref (a 0), .ref (q 0), .ref (q 1), .int (nI p1), .int (nI p2)]) (n := 8) (Nat.le_of_ble_eq_true rfl)
  rw [lg_entry_eq]
  generalize (lg_sl ([.ref (a 0), .ref (q 0), .ref (q 1), .int (nI p1), .int (nI p2)]) ++ List.replicate (8 - (lg_sl ([.ref (a 0), .ref (q 0), .ref (q 1), .int (nI p1), .int (nI p2)])).length) Slot.unset).toArray = ls at hl ⊢
  have hl : lv_has ls 8 [(0, .ref (a 0)), (1, .ref (q 0)), (2, .ref (q 1)), (3, .int (nI p1)), (4, .int (nI p2))] := hl
  refine jn_w (cells2 := 0) (slots2 := 0) (fun H locs ls => va_P D vwCl [((a 0), .inr (5, [.ref (a 2), .ref (a 4), .ref (a 18), .ref (a 1)])), ((a 4), .inr (2, [.int hm, .int aw, .int tk, .ref (a 5), .ref (a 6), .ref (a 7), .ref (a 8), .ref (a 13)])), ((a 5), .inl (cI, 6, .inl ce)), ((a 2), .inr (1, [.ref (a 3)])), ((a 3), .inl (cZ, 144, .inl bk)), ((q 0), .inl (cI, 19, .inl lb)), ((q 1), .inl (cI, 18, .inl lp))] H ∧ va_D A [((a 0), .inr (5, [.ref (a 2), .ref (a 4), .ref (a 18), .ref (a 1)])), ((a 4), .inr (2, [.int hm, .int aw, .int tk, .ref (a 5), .ref (a 6), .ref (a 7), .ref (a 8), .ref (a 13)])), ((a 5), .inl (cI, 6, .inl ce)), ((a 2), .inr (1, [.ref (a 3)])), ((a 3), .inl (cZ, 144, .inl bk)), ((q 0), .inl (cI, 19, .inl lb)), ((q 1), .inl (cI, 18, .inl lp))] ∧ va_S A s.heap H locs ∧ lv_has ls 8 [(0, .ref (a 0)), (1, .ref (q 0)), (2, .ref (q 1)), (3, .int (nI p1)), (4, .int (nI p2))]) (pc2 := 19) (st2 := []) (j_L_isMove_19 p1 p2) (fun jn_0 => ?_) ?_
  · refine lv_iload_n hx hb dL_isMove_0 rfl (lv_at hl 3 rfl) ?_
    refine lv_bipush (v := 6) hx hb dL_isMove_1 (by decide) ?_
    refine lv_icmp_ge (tgt := 18) hx hb dL_isMove_3 (by decide) (fun c_1 => ?_) (fun c_1 => ?_)
    · have nc_1 : 6 ≤ p1 := (nI_leI (a := 6) (b := p1) (by omega) (by omega)).mp c_1
      refine lv_iconst (v := 0) hx hb dL_isMove_18 (by decide) ?_
      refine W.widen (k := 0) (n := 0) (Nat.le_of_ble_eq_true rfl) (Nat.le_of_ble_eq_true rfl) ?_
      refine tp_eq (y := j_L_isMove_19 p1 p2) (by rw [j_L_isMove_19, if_pos c_1]) ?_
      exact jn_0 _ _ _ ⟨hP, hD, hS, lv_sub hl [0, 1, 2, 3, 4] rfl⟩
    · have nc_1 : ¬ 6 ≤ p1 := fun q => c_1 ((nI_leI (a := 6) (b := p1) (by omega) (by omega)).mpr q)
      refine lv_iload hx hb dL_isMove_6 (lv_at hl 4 rfl) ?_
      refine lv_sipush (v := 144) hx hb dL_isMove_8 (by decide) ?_
      refine lv_icmp_ge (tgt := 18) hx hb dL_isMove_11 (by decide) (fun c_2 => ?_) (fun c_2 => ?_)
      · have nc_2 : 144 ≤ p2 := (nI_leI (a := 144) (b := p2) (by omega) (by omega)).mp c_2
        refine lv_iconst (v := 0) hx hb dL_isMove_18 (by decide) ?_
        refine W.widen (k := 0) (n := 0) (Nat.le_of_ble_eq_true rfl) (Nat.le_of_ble_eq_true rfl) ?_
        refine tp_eq (y := j_L_isMove_19 p1 p2) (by rw [j_L_isMove_19, if_neg c_1, if_pos c_2]) ?_
        exact jn_0 _ _ _ ⟨hP, hD, hS, lv_sub hl [0, 1, 2, 3, 4] rfl⟩
      · have nc_2 : ¬ 144 ≤ p2 := fun q => c_2 ((nI_leI (a := 144) (b := p2) (by omega) (by omega)).mpr q)
        refine lv_iconst (v := 1) hx hb dL_isMove_14 (by decide) ?_
        refine lv_goto (tgt := 19) hx hb dL_isMove_15 (by decide) ?_
        refine W.widen (k := 0) (n := 0) (Nat.le_of_ble_eq_true rfl) (Nat.le_of_ble_eq_true rfl) ?_
        refine tp_eq (y := j_L_isMove_19 p1 p2) (by rw [j_L_isMove_19, if_neg c_1, if_neg c_2]) ?_
        exact jn_0 _ _ _ ⟨hP, hD, hS, lv_sub hl [0, 1, 2, 3, 4] rfl⟩
  · intro H locs ls hI
    obtain ⟨hP, hD, hS, hl⟩ := hI
    have hl : lv_has ls 8 [(0, .ref (a 0)), (1, .ref (q 0)), (2, .ref (q 1)), (3, .int (nI p1)), (4, .int (nI p2))] := hl
    have hP : va_P D vwCl [((a 0), .inr (5, [.ref (a 2), .ref (a 4), .ref (a 18), .ref (a 1)])), ((a 4), .inr (2, [.int hm, .int aw, .int tk, .ref (a 5), .ref (a 6), .ref (a 7), .ref (a 8), .ref (a 13)])), ((a 5), .inl (cI, 6, .inl ce)), ((a 2), .inr (1, [.ref (a 3)])), ((a 3), .inl (cZ, 144, .inl bk)), ((q 0), .inl (cI, 19, .inl lb)), ((q 1), .inl (cI, 18, .inl lp))] H := hP
    have hD : va_D A [((a 0), .inr (5, [.ref (a 2), .ref (a 4), .ref (a 18), .ref (a 1)])), ((a 4), .inr (2, [.int hm, .int aw, .int tk, .ref (a 5), .ref (a 6), .ref (a 7), .ref (a 8), .ref (a 13)])), ((a 5), .inl (cI, 6, .inl ce)), ((a 2), .inr (1, [.ref (a 3)])), ((a 3), .inl (cZ, 144, .inl bk)), ((q 0), .inl (cI, 19, .inl lb)), ((q 1), .inl (cI, 18, .inl lp))] := hD
    refine lv_istore (lv' := [(5, .int (j_L_isMove_19 p1 p2)), (0, .ref (a 0)), (1, .ref (q 0)), (2, .ref (q 1)), (3, .int (nI p1)), (4, .int (nI p2))]) hx hb dL_isMove_19 hl (by decide) rfl (fun ls hl => ?_)
    refine jn_w (cells2 := 0) (slots2 := 0) (fun H locs ls => va_P D vwCl [((a 0), .inr (5, [.ref (a 2), .ref (a 4), .ref (a 18), .ref (a 1)])), ((a 4), .inr (2, [.int hm, .int aw, .int tk, .ref (a 5), .ref (a 6), .ref (a 7), .ref (a 8), .ref (a 13)])), ((a 5), .inl (cI, 6, .inl ce)), ((a 2), .inr (1, [.ref (a 3)])), ((a 3), .inl (cZ, 144, .inl bk)), ((q 0), .inl (cI, 19, .inl lb)), ((q 1), .inl (cI, 18, .inl lp))] H ∧ va_D A [((a 0), .inr (5, [.ref (a 2), .ref (a 4), .ref (a 18), .ref (a 1)])), ((a 4), .inr (2, [.int hm, .int aw, .int tk, .ref (a 5), .ref (a 6), .ref (a 7), .ref (a 8), .ref (a 13)])), ((a 5), .inl (cI, 6, .inl ce)), ((a 2), .inr (1, [.ref (a 3)])), ((a 3), .inl (cZ, 144, .inl bk)), ((q 0), .inl (cI, 19, .inl lb)), ((q 1), .inl (cI, 18, .inl lp))] ∧ va_S A s.heap H locs ∧ lv_has ls 8 [(5, .int (j_L_isMove_19 p1 p2)), (0, .ref (a 0)), (1, .ref (q 0)), (2, .ref (q 1)), (3, .int (nI p1)), (4, .int (nI p2))]) (pc2 := 75) (st2 := []) (j_L_isMove_75 p1 p2 lb lp) (fun jn_21 => ?_) ?_
    · refine lv_iload hx hb dL_isMove_21 (lv_at hl 0 rfl) ?_
      refine lv_if_eq (tgt := 74) hx hb dL_isMove_23 (by decide) (fun c_3 => ?_) (fun c_3 => ?_)
      · refine lv_iconst (v := 0) hx hb dL_isMove_74 (by decide) ?_
        refine W.widen (k := 0) (n := 0) (Nat.le_of_ble_eq_true rfl) (Nat.le_of_ble_eq_true rfl) ?_
        refine tp_eq (y := j_L_isMove_75 p1 p2 lb lp) (by rw [j_L_isMove_75, if_pos c_3]) ?_
        exact jn_21 _ _ _ ⟨hP, hD, hS, lv_sub hl [0, 1, 2, 3, 4, 5] rfl⟩
      · obtain ⟨tc_3_0, tc_3_1⟩ := tj_L_isMove_19 c_3
        have ntc_3_0 : ¬ 6 ≤ p1 := fun q => tc_3_0 ((nI_leI (a := 6) (b := p1) (by omega) (by omega)).mpr q)
        have ntc_3_1 : ¬ 144 ≤ p2 := fun q => tc_3_1 ((nI_leI (a := 144) (b := p2) (by omega) (by omega)).mpr q)
        refine lv_aload_n hx hb dL_isMove_26 rfl (lv_at hl 2 rfl) ?_
        refine lv_bipush (v := 14) hx hb dL_isMove_27 (by decide) ?_
        refine va_iald hx hb hK hP 5 0 rfl rfl (vp_in_nI (n := 14) (by decide) (by decide)) dL_isMove_29 ?_
        refine tp_eq (y := lb 14) rfl ?_
        refine lv_if_lt (tgt := 74) hx hb dL_isMove_30 (by decide) (fun c_4 => ?_) (fun c_4 => ?_)
        · refine lv_iconst (v := 0) hx hb dL_isMove_74 (by decide) ?_
          refine W.widen (k := 0) (n := 0) (Nat.le_of_ble_eq_true rfl) (Nat.le_of_ble_eq_true rfl) ?_
          refine tp_eq (y := j_L_isMove_75 p1 p2 lb lp) (by rw [j_L_isMove_75, if_neg c_3, if_pos c_4]) ?_
          exact jn_21 _ _ _ ⟨hP, hD, hS, lv_sub hl [0, 1, 2, 3, 4, 5] rfl⟩
        · refine lv_aload_n hx hb dL_isMove_33 rfl (lv_at hl 3 rfl) ?_
          refine lv_iload_n hx hb dL_isMove_34 rfl (lv_at hl 4 rfl) ?_
          refine va_iald hx hb hK hP 6 0 rfl rfl (vp_in_nI (n := p1) (by omega) (by decide)) dL_isMove_35 ?_
          refine tp_eq (y := lp p1) (by rw [nI_clamp (n := p1) (by omega)]) ?_
          refine lv_bipush (v := (-2)) hx hb dL_isMove_36 (by decide) ?_
          refine lv_icmp_le (tgt := 74) hx hb dL_isMove_38 (by decide) (fun c_5 => ?_) (fun c_5 => ?_)
          · refine lv_iconst (v := 0) hx hb dL_isMove_74 (by decide) ?_
            refine W.widen (k := 0) (n := 0) (Nat.le_of_ble_eq_true rfl) (Nat.le_of_ble_eq_true rfl) ?_
            refine tp_eq (y := j_L_isMove_75 p1 p2 lb lp) (by rw [j_L_isMove_75, if_neg c_3, if_neg c_4, if_pos c_5]) ?_
            exact jn_21 _ _ _ ⟨hP, hD, hS, lv_sub hl [0, 1, 2, 3, 4, 5] rfl⟩
          · refine lv_aload_n hx hb dL_isMove_41 rfl (lv_at hl 3 rfl) ?_
            refine lv_iload_n hx hb dL_isMove_42 rfl (lv_at hl 4 rfl) ?_
            refine va_iald hx hb hK hP 6 0 rfl rfl (vp_in_nI (n := p1) (by omega) (by decide)) dL_isMove_43 ?_
            refine tp_eq (y := lp p1) (by rw [nI_clamp (n := p1) (by omega)]) ?_
            refine lv_iconst (v := (-1)) hx hb dL_isMove_44 (by decide) ?_
            refine lv_icmp_eq (tgt := 60) hx hb dL_isMove_45 (by decide) (fun c_6 => ?_) (fun c_6 => ?_)
            · refine lv_aload_n hx hb dL_isMove_60 rfl (lv_at hl 2 rfl) ?_
              refine lv_aload_n hx hb dL_isMove_61 rfl (lv_at hl 3 rfl) ?_
              refine lv_iload hx hb dL_isMove_62 (lv_at hl 5 rfl) ?_
              have hPc := hP.sub (ws' := [((q 0), .inl (cI, 19, .inl lb)), ((q 1), .inl (cI, 18, .inl lp))]) [5, 6] rfl
              refine va_calli (va_runS (As := [.ref (q 0), .ref (q 1), .int (nI p2)]) (rest := []) ⟨hx, hb, hml, hown, hts⟩ (c_L_isFree l D cI cZ cJ cA H.size q lb lp p2 (by first | assumption | omega)) (va_cwS 3 hts gL_isMove_L_isFree rfl rfl rfl (by decide +kernel) ⟨Nat.le_of_ble_eq_true rfl, Nat.le_of_ble_eq_true rfl⟩) ⟨pcR_bl, fun U hU hW => ⟨rfl, by rw [hU], by rw [hU]; exact hPc, va_K.moved hW.alike hK⟩⟩ rfl rfl hl.1 rfl (lv_room (Nat.le_of_ble_eq_true rfl)) dL_isMove_64 ⟨Nat.le_of_ble_eq_true rfl, Nat.le_of_ble_eq_true rfl⟩) hS (fun _ h1 h2 => absurd h1 (Nat.not_lt.mpr h2)) (rd_free hS hA) (fun r_7 u t H locs ht hvm hw hB hz1 hk1 hS => ?_)
              try dsimp only at hw
              have hr_7 := hw
              have hP := rd_P hP hk1
              obtain rfl := hr_7.symm
              refine W.widen (k := 0) (n := 0) (Nat.le_refl _) (Nat.le_refl _) ?_
              refine lv_if_eq (tgt := 74) hx hb dL_isMove_67 (by decide) (fun c_8 => ?_) (fun c_8 => ?_)
              · refine lv_iconst (v := 0) hx hb dL_isMove_74 (by decide) ?_
                refine W.widen (k := 0) (n := 0) (Nat.le_of_ble_eq_true rfl) (Nat.le_of_ble_eq_true rfl) ?_
                refine tp_eq (y := j_L_isMove_75 p1 p2 lb lp) (by rw [j_L_isMove_75, if_neg c_3, if_neg c_4, if_neg c_5, if_pos c_6, if_pos c_8]) ?_
                exact jn_21 _ _ _ ⟨hP, hD, hS, lv_sub hl [0, 1, 2, 3, 4, 5] rfl⟩
              · refine lv_iconst (v := 1) hx hb dL_isMove_70 (by decide) ?_
                refine lv_goto (tgt := 75) hx hb dL_isMove_71 (by decide) ?_
                refine W.widen (k := 0) (n := 0) (Nat.le_of_ble_eq_true rfl) (Nat.le_of_ble_eq_true rfl) ?_
                refine tp_eq (y := j_L_isMove_75 p1 p2 lb lp) (by rw [j_L_isMove_75, if_neg c_3, if_neg c_4, if_neg c_5, if_pos c_6, if_neg c_8]) ?_
                exact jn_21 _ _ _ ⟨hP, hD, hS, lv_sub hl [0, 1, 2, 3, 4, 5] rfl⟩
            · refine lv_aload_n hx hb dL_isMove_48 rfl (lv_at hl 3 rfl) ?_
              refine lv_iload_n hx hb dL_isMove_49 rfl (lv_at hl 4 rfl) ?_
              refine va_iald hx hb hK hP 6 0 rfl rfl (vp_in_nI (n := p1) (by omega) (by decide)) dL_isMove_50 ?_
              refine tp_eq (y := lp p1) (by rw [nI_clamp (n := p1) (by omega)]) ?_
              have hcl_51 := in_cl (lp_pl (hlp p1 (by omega)) c_5 c_6)
              refine tp_eq (y := nI ((lp p1).toNatClampNeg)) (nI_cl (lp_pl (hlp p1 (by omega)) c_5 c_6)) ?_
              refine lv_iload hx hb dL_isMove_51 (lv_at hl 5 rfl) ?_
              have hPc := hP.sub (ws' := []) [] rfl
              refine va_calli (va_runS (As := [.int (nI ((lp p1).toNatClampNeg)), .int (nI p2)]) (rest := []) ⟨hx, hb, hml, hown, hts⟩ (c_L_apart l D cI cZ cJ cA H.size ((lp p1).toNatClampNeg) p2 (by first | assumption | omega) (by first | assumption | omega)) (va_cwS 2 hts gL_isMove_L_apart rfl rfl rfl (by decide +kernel) ⟨Nat.le_of_ble_eq_true rfl, Nat.le_of_ble_eq_true rfl⟩) ⟨pcR_bl, fun U hU hW => ⟨rfl, by rw [hU], by rw [hU]; exact hPc, va_K.moved hW.alike hK⟩⟩ rfl rfl hl.1 rfl (lv_room (Nat.le_of_ble_eq_true rfl)) dL_isMove_53 ⟨Nat.le_of_ble_eq_true rfl, Nat.le_of_ble_eq_true rfl⟩) hS (fun _ h1 h2 => absurd h1 (Nat.not_lt.mpr h2)) (rd_free hS hA) (fun r_9 u t H locs ht hvm hw hB hz1 hk1 hS => ?_)
              try dsimp only at hw
              have hr_9 := hw
              have hP := rd_P hP hk1
              obtain rfl := hr_9.symm
              refine W.widen (k := 0) (n := 0) (Nat.le_refl _) (Nat.le_refl _) ?_
              have hap_9 : apN ((lp p1).toNatClampNeg) p2 < 12 := apN_lt (by omega) (by omega)
              refine lv_iconst (v := 1) hx hb dL_isMove_56 (by decide) ?_
              refine lv_icmp_ne (tgt := 74) hx hb dL_isMove_57 (by decide) (fun c_10 => ?_) (fun c_10 => ?_)
              · have nc_10 : ¬ (apN ((lp p1).toNatClampNeg) p2) = 1 := fun q => c_10 ((nI_eq (a := (apN ((lp p1).toNatClampNeg) p2)) (b := 1) (by omega) (by omega)).mpr q)
                refine lv_iconst (v := 0) hx hb dL_isMove_74 (by decide) ?_
                refine W.widen (k := 0) (n := 0) (Nat.le_of_ble_eq_true rfl) (Nat.le_of_ble_eq_true rfl) ?_
                refine tp_eq (y := j_L_isMove_75 p1 p2 lb lp) (by rw [j_L_isMove_75, if_neg c_3, if_neg c_4, if_neg c_5, if_neg c_6, if_neg c_10]) ?_
                exact jn_21 _ _ _ ⟨hP, hD, hS, lv_sub hl [0, 1, 2, 3, 4, 5] rfl⟩
              · have nc_10 : (apN ((lp p1).toNatClampNeg) p2) = 1 := (nI_eq (a := (apN ((lp p1).toNatClampNeg) p2)) (b := 1) (by omega) (by omega)).mp c_10
                refine lv_aload_n hx hb dL_isMove_60 rfl (lv_at hl 2 rfl) ?_
                refine lv_aload_n hx hb dL_isMove_61 rfl (lv_at hl 3 rfl) ?_
                refine lv_iload hx hb dL_isMove_62 (lv_at hl 5 rfl) ?_
                have hPc := hP.sub (ws' := [((q 0), .inl (cI, 19, .inl lb)), ((q 1), .inl (cI, 18, .inl lp))]) [5, 6] rfl
                refine va_calli (va_runS (As := [.ref (q 0), .ref (q 1), .int (nI p2)]) (rest := []) ⟨hx, hb, hml, hown, hts⟩ (c_L_isFree l D cI cZ cJ cA H.size q lb lp p2 (by first | assumption | omega)) (va_cwS 3 hts gL_isMove_L_isFree rfl rfl rfl (by decide +kernel) ⟨Nat.le_of_ble_eq_true rfl, Nat.le_of_ble_eq_true rfl⟩) ⟨pcR_bl, fun U hU hW => ⟨rfl, by rw [hU], by rw [hU]; exact hPc, va_K.moved hW.alike hK⟩⟩ rfl rfl hl.1 rfl (lv_room (Nat.le_of_ble_eq_true rfl)) dL_isMove_64 ⟨Nat.le_of_ble_eq_true rfl, Nat.le_of_ble_eq_true rfl⟩) hS (fun _ h1 h2 => absurd h1 (Nat.not_lt.mpr h2)) (rd_free hS hA) (fun r_11 u t H locs ht hvm hw hB hz1 hk1 hS => ?_)
                try dsimp only at hw
                have hr_11 := hw
                have hP := rd_P hP hk1
                obtain rfl := hr_11.symm
                refine W.widen (k := 0) (n := 0) (Nat.le_refl _) (Nat.le_refl _) ?_
                refine lv_if_eq (tgt := 74) hx hb dL_isMove_67 (by decide) (fun c_12 => ?_) (fun c_12 => ?_)
                · refine lv_iconst (v := 0) hx hb dL_isMove_74 (by decide) ?_
                  refine W.widen (k := 0) (n := 0) (Nat.le_of_ble_eq_true rfl) (Nat.le_of_ble_eq_true rfl) ?_
                  refine tp_eq (y := j_L_isMove_75 p1 p2 lb lp) (by rw [j_L_isMove_75, if_neg c_3, if_neg c_4, if_neg c_5, if_neg c_6, if_pos c_10, if_pos c_12]) ?_
                  exact jn_21 _ _ _ ⟨hP, hD, hS, lv_sub hl [0, 1, 2, 3, 4, 5] rfl⟩
                · refine lv_iconst (v := 1) hx hb dL_isMove_70 (by decide) ?_
                  refine lv_goto (tgt := 75) hx hb dL_isMove_71 (by decide) ?_
                  refine W.widen (k := 0) (n := 0) (Nat.le_of_ble_eq_true rfl) (Nat.le_of_ble_eq_true rfl) ?_
                  refine tp_eq (y := j_L_isMove_75 p1 p2 lb lp) (by rw [j_L_isMove_75, if_neg c_3, if_neg c_4, if_neg c_5, if_neg c_6, if_pos c_10, if_neg c_12]) ?_
                  exact jn_21 _ _ _ ⟨hP, hD, hS, lv_sub hl [0, 1, 2, 3, 4, 5] rfl⟩
    · intro H locs ls hI
      obtain ⟨hP, hD, hS, hl⟩ := hI
      have hl : lv_has ls 8 [(5, .int (j_L_isMove_19 p1 p2)), (0, .ref (a 0)), (1, .ref (q 0)), (2, .ref (q 1)), (3, .int (nI p1)), (4, .int (nI p2))] := hl
      have hP : va_P D vwCl [((a 0), .inr (5, [.ref (a 2), .ref (a 4), .ref (a 18), .ref (a 1)])), ((a 4), .inr (2, [.int hm, .int aw, .int tk, .ref (a 5), .ref (a 6), .ref (a 7), .ref (a 8), .ref (a 13)])), ((a 5), .inl (cI, 6, .inl ce)), ((a 2), .inr (1, [.ref (a 3)])), ((a 3), .inl (cZ, 144, .inl bk)), ((q 0), .inl (cI, 19, .inl lb)), ((q 1), .inl (cI, 18, .inl lp))] H := hP
      have hD : va_D A [((a 0), .inr (5, [.ref (a 2), .ref (a 4), .ref (a 18), .ref (a 1)])), ((a 4), .inr (2, [.int hm, .int aw, .int tk, .ref (a 5), .ref (a 6), .ref (a 7), .ref (a 8), .ref (a 13)])), ((a 5), .inl (cI, 6, .inl ce)), ((a 2), .inr (1, [.ref (a 3)])), ((a 3), .inl (cZ, 144, .inl bk)), ((q 0), .inl (cI, 19, .inl lb)), ((q 1), .inl (cI, 18, .inl lp))] := hD
      refine lv_istore (lv' := [(6, .int (j_L_isMove_75 p1 p2 lb lp)), (5, .int (j_L_isMove_19 p1 p2)), (0, .ref (a 0)), (1, .ref (q 0)), (2, .ref (q 1)), (3, .int (nI p1)), (4, .int (nI p2))]) hx hb dL_isMove_75 hl (by decide) rfl (fun ls hl => ?_)
      refine jn_w (cells2 := 0) (slots2 := 0) (fun H locs ls => va_P D vwCl [((a 0), .inr (5, [.ref (a 2), .ref (a 4), .ref (a 18), .ref (a 1)])), ((a 4), .inr (2, [.int hm, .int aw, .int tk, .ref (a 5), .ref (a 6), .ref (a 7), .ref (a 8), .ref (a 13)])), ((a 5), .inl (cI, 6, .inl ce)), ((a 2), .inr (1, [.ref (a 3)])), ((a 3), .inl (cZ, 144, .inl bk)), ((q 0), .inl (cI, 19, .inl lb)), ((q 1), .inl (cI, 18, .inl lp))] H ∧ va_D A [((a 0), .inr (5, [.ref (a 2), .ref (a 4), .ref (a 18), .ref (a 1)])), ((a 4), .inr (2, [.int hm, .int aw, .int tk, .ref (a 5), .ref (a 6), .ref (a 7), .ref (a 8), .ref (a 13)])), ((a 5), .inl (cI, 6, .inl ce)), ((a 2), .inr (1, [.ref (a 3)])), ((a 3), .inl (cZ, 144, .inl bk)), ((q 0), .inl (cI, 19, .inl lb)), ((q 1), .inl (cI, 18, .inl lp))] ∧ va_S A s.heap H locs ∧ lv_has ls 8 [(6, .int (j_L_isMove_75 p1 p2 lb lp)), (5, .int (j_L_isMove_19 p1 p2)), (0, .ref (a 0)), (1, .ref (q 0)), (2, .ref (q 1)), (3, .int (nI p1)), (4, .int (nI p2))]) (pc2 := 100) (st2 := []) (j_L_isMove_100 p1 p2 lb lp) (fun jn_77 => ?_) ?_
      · refine lv_iload hx hb dL_isMove_77 (lv_at hl 1 rfl) ?_
        refine lv_if_ne (tgt := 87) hx hb dL_isMove_79 (by decide) (fun c_13 => ?_) (fun c_13 => ?_)
        · obtain ⟨tc_13_0, tc_13_1⟩ := tj_L_isMove_19 c_13
          have ntc_13_0 : ¬ 6 ≤ p1 := fun q => tc_13_0 ((nI_leI (a := 6) (b := p1) (by omega) (by omega)).mpr q)
          have ntc_13_1 : ¬ 144 ≤ p2 := fun q => tc_13_1 ((nI_leI (a := 144) (b := p2) (by omega) (by omega)).mpr q)
          refine lv_iload hx hb dL_isMove_87 (lv_at hl 0 rfl) ?_
          refine lv_if_eq (tgt := 98) hx hb dL_isMove_89 (by decide) (fun c_14 => ?_) (fun c_14 => ?_)
          · refine lv_bipush (v := (-10)) hx hb dL_isMove_98 (by decide) ?_
            refine W.widen (k := 0) (n := 0) (Nat.le_of_ble_eq_true rfl) (Nat.le_of_ble_eq_true rfl) ?_
            refine tp_eq (y := j_L_isMove_100 p1 p2 lb lp) (by rw [j_L_isMove_100, if_neg c_13, if_pos c_14]) ?_
            exact jn_77 _ _ _ ⟨hP, hD, hS, lv_sub hl [0, 1, 2, 3, 4, 5, 6] rfl⟩
          · obtain ⟨tc_14_0, tc_14_1, tc_14_2, tc_14_3⟩ := tj_L_isMove_75 c_14
            obtain ⟨ttc_14_0_0, ttc_14_0_1⟩ := tj_L_isMove_19 tc_14_0
            have nttc_14_0_0 : ¬ 6 ≤ p1 := fun q => ttc_14_0_0 ((nI_leI (a := 6) (b := p1) (by omega) (by omega)).mpr q)
            have nttc_14_0_1 : ¬ 144 ≤ p2 := fun q => ttc_14_0_1 ((nI_leI (a := 144) (b := p2) (by omega) (by omega)).mpr q)
            refine lv_aload_n hx hb dL_isMove_92 rfl (lv_at hl 4 rfl) ?_
            refine lv_iload_n hx hb dL_isMove_93 rfl (lv_at hl 5 rfl) ?_
            refine va_iald hx hb hK hP 6 0 rfl rfl (vp_in_nI (n := p1) (by omega) (by decide)) dL_isMove_94 ?_
            refine tp_eq (y := lp p1) (by rw [nI_clamp (n := p1) (by omega)]) ?_
            refine lv_goto (tgt := 100) hx hb dL_isMove_95 (by decide) ?_
            refine W.widen (k := 0) (n := 0) (Nat.le_of_ble_eq_true rfl) (Nat.le_of_ble_eq_true rfl) ?_
            refine tp_eq (y := j_L_isMove_100 p1 p2 lb lp) (by rw [j_L_isMove_100, if_neg c_13, if_neg c_14]) ?_
            exact jn_77 _ _ _ ⟨hP, hD, hS, lv_sub hl [0, 1, 2, 3, 4, 5, 6] rfl⟩
        · refine lv_bipush (v := (-30)) hx hb dL_isMove_82 (by decide) ?_
          refine lv_goto (tgt := 100) hx hb dL_isMove_84 (by decide) ?_
          refine W.widen (k := 0) (n := 0) (Nat.le_of_ble_eq_true rfl) (Nat.le_of_ble_eq_true rfl) ?_
          refine tp_eq (y := j_L_isMove_100 p1 p2 lb lp) (by rw [j_L_isMove_100, if_pos c_13]) ?_
          exact jn_77 _ _ _ ⟨hP, hD, hS, lv_sub hl [0, 1, 2, 3, 4, 5, 6] rfl⟩
      · intro H locs ls hI
        obtain ⟨hP, hD, hS, hl⟩ := hI
        have hl : lv_has ls 8 [(6, .int (j_L_isMove_75 p1 p2 lb lp)), (5, .int (j_L_isMove_19 p1 p2)), (0, .ref (a 0)), (1, .ref (q 0)), (2, .ref (q 1)), (3, .int (nI p1)), (4, .int (nI p2))] := hl
        have hP : va_P D vwCl [((a 0), .inr (5, [.ref (a 2), .ref (a 4), .ref (a 18), .ref (a 1)])), ((a 4), .inr (2, [.int hm, .int aw, .int tk, .ref (a 5), .ref (a 6), .ref (a 7), .ref (a 8), .ref (a 13)])), ((a 5), .inl (cI, 6, .inl ce)), ((a 2), .inr (1, [.ref (a 3)])), ((a 3), .inl (cZ, 144, .inl bk)), ((q 0), .inl (cI, 19, .inl lb)), ((q 1), .inl (cI, 18, .inl lp))] H := hP
        have hD : va_D A [((a 0), .inr (5, [.ref (a 2), .ref (a 4), .ref (a 18), .ref (a 1)])), ((a 4), .inr (2, [.int hm, .int aw, .int tk, .ref (a 5), .ref (a 6), .ref (a 7), .ref (a 8), .ref (a 13)])), ((a 5), .inl (cI, 6, .inl ce)), ((a 2), .inr (1, [.ref (a 3)])), ((a 3), .inl (cZ, 144, .inl bk)), ((q 0), .inl (cI, 19, .inl lb)), ((q 1), .inl (cI, 18, .inl lp))] := hD
        refine lv_istore (lv' := [(7, .int (j_L_isMove_100 p1 p2 lb lp)), (6, .int (j_L_isMove_75 p1 p2 lb lp)), (5, .int (j_L_isMove_19 p1 p2)), (0, .ref (a 0)), (1, .ref (q 0)), (2, .ref (q 1)), (3, .int (nI p1)), (4, .int (nI p2))]) hx hb dL_isMove_100 hl (by decide) rfl (fun ls hl => ?_)
        refine lv_iload hx hb dL_isMove_102 (lv_at hl 1 rfl) ?_
        refine lv_if_eq (tgt := 112) hx hb dL_isMove_104 (by decide) (fun c_15 => ?_) (fun c_15 => ?_)
        · refine lv_aload_n hx hb dL_isMove_112 rfl (lv_at hl 3 rfl) ?_
          refine lv_iconst (v := 3) hx hb dL_isMove_113 (by decide) ?_
          refine lv_iload_n hx hb dL_isMove_114 rfl (lv_at hl 6 rfl) ?_
          refine lv_iload hx hb dL_isMove_115 (lv_at hl 7 rfl) ?_
          have hPc := hP.sub (ws' := [((a 0), .inr (5, [.ref (a 2), .ref (a 4), .ref (a 18), .ref (a 1)])), ((a 4), .inr (2, [.int hm, .int aw, .int tk, .ref (a 5), .ref (a 6), .ref (a 7), .ref (a 8), .ref (a 13)])), ((a 5), .inl (cI, 6, .inl ce)), ((a 2), .inr (1, [.ref (a 3)])), ((a 3), .inl (cZ, 144, .inl bk))]) [0, 1, 2, 3, 4] rfl
          have hDc := hD.sub (ws' := [((a 0), .inr (5, [.ref (a 2), .ref (a 4), .ref (a 18), .ref (a 1)])), ((a 4), .inr (2, [.int hm, .int aw, .int tk, .ref (a 5), .ref (a 6), .ref (a 7), .ref (a 8), .ref (a 13)])), ((a 5), .inl (cI, 6, .inl ce)), ((a 2), .inr (1, [.ref (a 3)])), ((a 3), .inl (cZ, 144, .inl bk))]) [0, 1, 2, 3, 4] (by decide) rfl
          have hFc := va_free (wc := [((a 0), .inr (5, [.ref (a 2), .ref (a 4), .ref (a 18), .ref (a 1)])), ((a 4), .inr (2, [.int hm, .int aw, .int tk, .ref (a 5), .ref (a 6), .ref (a 7), .ref (a 8), .ref (a 13)])), ((a 5), .inl (cI, 6, .inl ce)), ((a 2), .inr (1, [.ref (a 3)])), ((a 3), .inl (cZ, 144, .inl bk))]) hD hS hA [0, 1, 2, 3, 4] rfl
          refine va_calli (vx_runSW (As := [.ref (a 0), .int 3, .int (nI p1), .int (nI p2)]) (rest := []) ⟨hx, hb, hml, hown, hts⟩ (c_D3 l hlt D cI cZ cJ cA sx H.size a bk hm aw tk ce (nI p1) (nI p2) (by first | assumption | omega)) (vx_cwSW 4 hts gL_isMove_L_does rfl rfl rfl (by decide +kernel) ⟨Nat.le_of_ble_eq_true rfl, Nat.le_of_ble_eq_true rfl⟩) ⟨pcL_bl, fun U hU hW => ⟨rfl, ⟨⟨by rw [hU], by rw [hU]; exact hPc, va_K.moved hW.alike hK, hDc.weaken (fun _ _ _ _ => trivial)⟩, hE.call hS hFc hU hW⟩, hN.moved hW.alike⟩⟩ rfl rfl hl.1 rfl (lv_room (Nat.le_of_ble_eq_true rfl)) dL_isMove_117 ⟨Nat.le_of_ble_eq_true rfl, Nat.le_of_ble_eq_true rfl⟩) hS (fun q _ h => hFc q h) hFc (fun r_16 u t H locs ht hvm hw hB hz1 hk1 hS => ?_)
          try dsimp only at hw
          obtain ⟨u0_16, rfl⟩ : ∃ z, z = u := ⟨_, rfl⟩
          obtain ⟨hr_16, hu0_16⟩ := hw
          obtain ⟨hP1, hK1, hD1⟩ := hB
          rw [ht] at hP1
          obtain ⟨hP, hD⟩ := va_join (wr := [((q 0), .inl (cI, 19, .inl lb)), ((q 1), .inl (cI, 18, .inl lp))]) (w1 := [((a 0), .inr (5, [.ref (a 2), .ref (a 4), .ref (a 18), .ref (a 1)])), ((a 4), .inr (2, [.int hm, .int aw, .int tk, .ref (a 5), .ref (a 6), .ref (a 7), .ref (a 8), .ref (a 13)])), ((a 5), .inl (cI, 6, .inl u0_16)), ((a 2), .inr (1, [.ref (a 3)])), ((a 3), .inl (cZ, 144, .inl bk))]) hP hD [0, 1, 2, 3, 4] [5, 6] rfl rfl (by decide) (by decide) hk1 hFc hP1 hD1
          obtain rfl := hu0_16.symm
          have hP : va_P D vwCl [((q 0), .inl (cI, 19, .inl lb)), ((q 1), .inl (cI, 18, .inl lp)), ((a 0), .inr (5, [.ref (a 2), .ref (a 4), .ref (a 18), .ref (a 1)])), ((a 4), .inr (2, [.int hm, .int aw, .int tk, .ref (a 5), .ref (a 6), .ref (a 7), .ref (a 8), .ref (a 13)])), ((a 5), .inl (cI, 6, .inl (g_ce_D3 bk hm aw tk ce (nI p1) (nI p2)))), ((a 2), .inr (1, [.ref (a 3)])), ((a 3), .inl (cZ, 144, .inl bk))] H := hP
          have hD : va_D A [((q 0), .inl (cI, 19, .inl lb)), ((q 1), .inl (cI, 18, .inl lp)), ((a 0), .inr (5, [.ref (a 2), .ref (a 4), .ref (a 18), .ref (a 1)])), ((a 4), .inr (2, [.int hm, .int aw, .int tk, .ref (a 5), .ref (a 6), .ref (a 7), .ref (a 8), .ref (a 13)])), ((a 5), .inl (cI, 6, .inl (g_ce_D3 bk hm aw tk ce (nI p1) (nI p2)))), ((a 2), .inr (1, [.ref (a 3)])), ((a 3), .inl (cZ, 144, .inl bk))] := hD
          obtain rfl := hr_16.symm
          refine W.widen (k := 4) (n := 24) (Nat.le_refl _) (Nat.le_refl _) ?_
          refine lv_iload hx hb dL_isMove_120 (lv_at hl 0 rfl) ?_
          refine lv_icmp_ne (tgt := 129) hx hb dL_isMove_122 (by decide) (fun c_17 => ?_) (fun c_17 => ?_)
          · refine lv_iconst (v := 0) hx hb dL_isMove_129 (by decide) ?_
            have hP9 := hP.sub (ws' := [((a 0), .inr (5, [.ref (a 2), .ref (a 4), .ref (a 18), .ref (a 1)])), ((a 4), .inr (2, [.int hm, .int aw, .int tk, .ref (a 5), .ref (a 6), .ref (a 7), .ref (a 8), .ref (a 13)])), ((a 5), .inl (cI, 6, .inl (g_ce_D3 bk hm aw tk ce (nI p1) (nI p2)))), ((a 2), .inr (1, [.ref (a 3)])), ((a 3), .inl (cZ, 144, .inl bk)), ((q 0), .inl (cI, 19, .inl lb)), ((q 1), .inl (cI, 18, .inl lp))]) [2, 3, 4, 5, 6, 0, 1] rfl
            have hD9 := hD.sub (ws' := [((a 0), .inr (5, [.ref (a 2), .ref (a 4), .ref (a 18), .ref (a 1)])), ((a 4), .inr (2, [.int hm, .int aw, .int tk, .ref (a 5), .ref (a 6), .ref (a 7), .ref (a 8), .ref (a 13)])), ((a 5), .inl (cI, 6, .inl (g_ce_D3 bk hm aw tk ce (nI p1) (nI p2)))), ((a 2), .inr (1, [.ref (a 3)])), ((a 3), .inl (cZ, 144, .inl bk)), ((q 0), .inl (cI, 19, .inl lb)), ((q 1), .inl (cI, 18, .inl lp))]) [2, 3, 4, 5, 6, 0, 1] (by decide) rfl
            -- leaf 0
            refine W.widen (k := 4) (n := 24) (Nat.le_of_ble_eq_true rfl) (Nat.le_of_ble_eq_true rfl) ?_
            exact W.zret (v := 0) (ty := .boolean) hx hb hr rfl (fun t ht hW => ⟨⟨0, ((g_ce_D3 bk hm aw tk ce (nI p1) (nI p2)), lp), rfl, ⟨(by rw [f_L_isMove, if_neg c_17]), rfl, (by rw [g_lp_L_isMove, if_pos c_15])⟩, by rw [ht]; exact hP9, va_K.moved hW.alike hK, hD9⟩, hS.F ht⟩) hS.2.2 dL_isMove_130
          · refine lv_iconst (v := 1) hx hb dL_isMove_125 (by decide) ?_
            refine lv_goto (tgt := 130) hx hb dL_isMove_126 (by decide) ?_
            have hP9 := hP.sub (ws' := [((a 0), .inr (5, [.ref (a 2), .ref (a 4), .ref (a 18), .ref (a 1)])), ((a 4), .inr (2, [.int hm, .int aw, .int tk, .ref (a 5), .ref (a 6), .ref (a 7), .ref (a 8), .ref (a 13)])), ((a 5), .inl (cI, 6, .inl (g_ce_D3 bk hm aw tk ce (nI p1) (nI p2)))), ((a 2), .inr (1, [.ref (a 3)])), ((a 3), .inl (cZ, 144, .inl bk)), ((q 0), .inl (cI, 19, .inl lb)), ((q 1), .inl (cI, 18, .inl lp))]) [2, 3, 4, 5, 6, 0, 1] rfl
            have hD9 := hD.sub (ws' := [((a 0), .inr (5, [.ref (a 2), .ref (a 4), .ref (a 18), .ref (a 1)])), ((a 4), .inr (2, [.int hm, .int aw, .int tk, .ref (a 5), .ref (a 6), .ref (a 7), .ref (a 8), .ref (a 13)])), ((a 5), .inl (cI, 6, .inl (g_ce_D3 bk hm aw tk ce (nI p1) (nI p2)))), ((a 2), .inr (1, [.ref (a 3)])), ((a 3), .inl (cZ, 144, .inl bk)), ((q 0), .inl (cI, 19, .inl lb)), ((q 1), .inl (cI, 18, .inl lp))]) [2, 3, 4, 5, 6, 0, 1] (by decide) rfl
            -- leaf 1
            refine W.widen (k := 4) (n := 24) (Nat.le_of_ble_eq_true rfl) (Nat.le_of_ble_eq_true rfl) ?_
            exact W.zret (v := 1) (ty := .boolean) hx hb hr rfl (fun t ht hW => ⟨⟨1, ((g_ce_D3 bk hm aw tk ce (nI p1) (nI p2)), lp), rfl, ⟨(by rw [f_L_isMove, if_pos c_17]), rfl, (by rw [g_lp_L_isMove, if_pos c_15])⟩, by rw [ht]; exact hP9, va_K.moved hW.alike hK, hD9⟩, hS.F ht⟩) hS.2.2 dL_isMove_130
        · obtain ⟨tc_15_0, tc_15_1, tc_15_2, tc_15_3⟩ := tj_L_isMove_75 c_15
          obtain ⟨ttc_15_0_0, ttc_15_0_1⟩ := tj_L_isMove_19 tc_15_0
          have nttc_15_0_0 : ¬ 6 ≤ p1 := fun q => ttc_15_0_0 ((nI_leI (a := 6) (b := p1) (by omega) (by omega)).mpr q)
          have nttc_15_0_1 : ¬ 144 ≤ p2 := fun q => ttc_15_0_1 ((nI_leI (a := 144) (b := p2) (by omega) (by omega)).mpr q)
          refine lv_aload_n hx hb dL_isMove_107 rfl (lv_at hl 5 rfl) ?_
          refine lv_iload_n hx hb dL_isMove_108 rfl (lv_at hl 6 rfl) ?_
          refine lv_iload hx hb dL_isMove_109 (lv_at hl 7 rfl) ?_
          refine va_iast hx hb hK hP hD hS 6 0 rfl rfl (vp_in_nI (n := p1) (by omega) (by decide)) dL_isMove_111 (fun H locs hP hD hS => ?_)
          rw [nI_clamp (n := p1) (by omega)] at hP hD
          have hP : va_P D vwCl [((a 0), .inr (5, [.ref (a 2), .ref (a 4), .ref (a 18), .ref (a 1)])), ((a 4), .inr (2, [.int hm, .int aw, .int tk, .ref (a 5), .ref (a 6), .ref (a 7), .ref (a 8), .ref (a 13)])), ((a 5), .inl (cI, 6, .inl ce)), ((a 2), .inr (1, [.ref (a 3)])), ((a 3), .inl (cZ, 144, .inl bk)), ((q 0), .inl (cI, 19, .inl lb)), ((q 1), .inl (cI, 18, .inl (upd lp p1 (nI p2))))] H := hP
          have hD : va_D A [((a 0), .inr (5, [.ref (a 2), .ref (a 4), .ref (a 18), .ref (a 1)])), ((a 4), .inr (2, [.int hm, .int aw, .int tk, .ref (a 5), .ref (a 6), .ref (a 7), .ref (a 8), .ref (a 13)])), ((a 5), .inl (cI, 6, .inl ce)), ((a 2), .inr (1, [.ref (a 3)])), ((a 3), .inl (cZ, 144, .inl bk)), ((q 0), .inl (cI, 19, .inl lb)), ((q 1), .inl (cI, 18, .inl (upd lp p1 (nI p2))))] := hD
          refine lv_aload_n hx hb dL_isMove_112 rfl (lv_at hl 3 rfl) ?_
          refine lv_iconst (v := 3) hx hb dL_isMove_113 (by decide) ?_
          refine lv_iload_n hx hb dL_isMove_114 rfl (lv_at hl 6 rfl) ?_
          refine lv_iload hx hb dL_isMove_115 (lv_at hl 7 rfl) ?_
          have hPc := hP.sub (ws' := [((a 0), .inr (5, [.ref (a 2), .ref (a 4), .ref (a 18), .ref (a 1)])), ((a 4), .inr (2, [.int hm, .int aw, .int tk, .ref (a 5), .ref (a 6), .ref (a 7), .ref (a 8), .ref (a 13)])), ((a 5), .inl (cI, 6, .inl ce)), ((a 2), .inr (1, [.ref (a 3)])), ((a 3), .inl (cZ, 144, .inl bk))]) [0, 1, 2, 3, 4] rfl
          have hDc := hD.sub (ws' := [((a 0), .inr (5, [.ref (a 2), .ref (a 4), .ref (a 18), .ref (a 1)])), ((a 4), .inr (2, [.int hm, .int aw, .int tk, .ref (a 5), .ref (a 6), .ref (a 7), .ref (a 8), .ref (a 13)])), ((a 5), .inl (cI, 6, .inl ce)), ((a 2), .inr (1, [.ref (a 3)])), ((a 3), .inl (cZ, 144, .inl bk))]) [0, 1, 2, 3, 4] (by decide) rfl
          have hFc := va_free (wc := [((a 0), .inr (5, [.ref (a 2), .ref (a 4), .ref (a 18), .ref (a 1)])), ((a 4), .inr (2, [.int hm, .int aw, .int tk, .ref (a 5), .ref (a 6), .ref (a 7), .ref (a 8), .ref (a 13)])), ((a 5), .inl (cI, 6, .inl ce)), ((a 2), .inr (1, [.ref (a 3)])), ((a 3), .inl (cZ, 144, .inl bk))]) hD hS hA [0, 1, 2, 3, 4] rfl
          refine va_calli (vx_runSW (As := [.ref (a 0), .int 3, .int (nI p1), .int (nI p2)]) (rest := []) ⟨hx, hb, hml, hown, hts⟩ (c_D3 l hlt D cI cZ cJ cA sx H.size a bk hm aw tk ce (nI p1) (nI p2) (by first | assumption | omega)) (vx_cwSW 4 hts gL_isMove_L_does rfl rfl rfl (by decide +kernel) ⟨Nat.le_of_ble_eq_true rfl, Nat.le_of_ble_eq_true rfl⟩) ⟨pcL_bl, fun U hU hW => ⟨rfl, ⟨⟨by rw [hU], by rw [hU]; exact hPc, va_K.moved hW.alike hK, hDc.weaken (fun _ _ _ _ => trivial)⟩, hE.call hS hFc hU hW⟩, hN.moved hW.alike⟩⟩ rfl rfl hl.1 rfl (lv_room (Nat.le_of_ble_eq_true rfl)) dL_isMove_117 ⟨Nat.le_of_ble_eq_true rfl, Nat.le_of_ble_eq_true rfl⟩) hS (fun q _ h => hFc q h) hFc (fun r_18 u t H locs ht hvm hw hB hz1 hk1 hS => ?_)
          try dsimp only at hw
          obtain ⟨u0_18, rfl⟩ : ∃ z, z = u := ⟨_, rfl⟩
          obtain ⟨hr_18, hu0_18⟩ := hw
          obtain ⟨hP1, hK1, hD1⟩ := hB
          rw [ht] at hP1
          obtain ⟨hP, hD⟩ := va_join (wr := [((q 0), .inl (cI, 19, .inl lb)), ((q 1), .inl (cI, 18, .inl (upd lp p1 (nI p2))))]) (w1 := [((a 0), .inr (5, [.ref (a 2), .ref (a 4), .ref (a 18), .ref (a 1)])), ((a 4), .inr (2, [.int hm, .int aw, .int tk, .ref (a 5), .ref (a 6), .ref (a 7), .ref (a 8), .ref (a 13)])), ((a 5), .inl (cI, 6, .inl u0_18)), ((a 2), .inr (1, [.ref (a 3)])), ((a 3), .inl (cZ, 144, .inl bk))]) hP hD [0, 1, 2, 3, 4] [5, 6] rfl rfl (by decide) (by decide) hk1 hFc hP1 hD1
          obtain rfl := hu0_18.symm
          have hP : va_P D vwCl [((q 0), .inl (cI, 19, .inl lb)), ((q 1), .inl (cI, 18, .inl (upd lp p1 (nI p2)))), ((a 0), .inr (5, [.ref (a 2), .ref (a 4), .ref (a 18), .ref (a 1)])), ((a 4), .inr (2, [.int hm, .int aw, .int tk, .ref (a 5), .ref (a 6), .ref (a 7), .ref (a 8), .ref (a 13)])), ((a 5), .inl (cI, 6, .inl (g_ce_D3 bk hm aw tk ce (nI p1) (nI p2)))), ((a 2), .inr (1, [.ref (a 3)])), ((a 3), .inl (cZ, 144, .inl bk))] H := hP
          have hD : va_D A [((q 0), .inl (cI, 19, .inl lb)), ((q 1), .inl (cI, 18, .inl (upd lp p1 (nI p2)))), ((a 0), .inr (5, [.ref (a 2), .ref (a 4), .ref (a 18), .ref (a 1)])), ((a 4), .inr (2, [.int hm, .int aw, .int tk, .ref (a 5), .ref (a 6), .ref (a 7), .ref (a 8), .ref (a 13)])), ((a 5), .inl (cI, 6, .inl (g_ce_D3 bk hm aw tk ce (nI p1) (nI p2)))), ((a 2), .inr (1, [.ref (a 3)])), ((a 3), .inl (cZ, 144, .inl bk))] := hD
          obtain rfl := hr_18.symm
          refine W.widen (k := 4) (n := 24) (Nat.le_refl _) (Nat.le_refl _) ?_
          refine lv_iload hx hb dL_isMove_120 (lv_at hl 0 rfl) ?_
          refine lv_icmp_ne (tgt := 129) hx hb dL_isMove_122 (by decide) (fun c_19 => ?_) (fun c_19 => ?_)
          · refine lv_iconst (v := 0) hx hb dL_isMove_129 (by decide) ?_
            have hP9 := hP.sub (ws' := [((a 0), .inr (5, [.ref (a 2), .ref (a 4), .ref (a 18), .ref (a 1)])), ((a 4), .inr (2, [.int hm, .int aw, .int tk, .ref (a 5), .ref (a 6), .ref (a 7), .ref (a 8), .ref (a 13)])), ((a 5), .inl (cI, 6, .inl (g_ce_D3 bk hm aw tk ce (nI p1) (nI p2)))), ((a 2), .inr (1, [.ref (a 3)])), ((a 3), .inl (cZ, 144, .inl bk)), ((q 0), .inl (cI, 19, .inl lb)), ((q 1), .inl (cI, 18, .inl (upd lp p1 (nI p2))))]) [2, 3, 4, 5, 6, 0, 1] rfl
            have hD9 := hD.sub (ws' := [((a 0), .inr (5, [.ref (a 2), .ref (a 4), .ref (a 18), .ref (a 1)])), ((a 4), .inr (2, [.int hm, .int aw, .int tk, .ref (a 5), .ref (a 6), .ref (a 7), .ref (a 8), .ref (a 13)])), ((a 5), .inl (cI, 6, .inl (g_ce_D3 bk hm aw tk ce (nI p1) (nI p2)))), ((a 2), .inr (1, [.ref (a 3)])), ((a 3), .inl (cZ, 144, .inl bk)), ((q 0), .inl (cI, 19, .inl lb)), ((q 1), .inl (cI, 18, .inl (upd lp p1 (nI p2))))]) [2, 3, 4, 5, 6, 0, 1] (by decide) rfl
            -- leaf 2
            refine W.widen (k := 4) (n := 24) (Nat.le_of_ble_eq_true rfl) (Nat.le_of_ble_eq_true rfl) ?_
            exact W.zret (v := 0) (ty := .boolean) hx hb hr rfl (fun t ht hW => ⟨⟨0, ((g_ce_D3 bk hm aw tk ce (nI p1) (nI p2)), upd lp p1 (nI p2)), rfl, ⟨(by rw [f_L_isMove, if_neg c_19]), rfl, (by rw [g_lp_L_isMove, if_neg c_15])⟩, by rw [ht]; exact hP9, va_K.moved hW.alike hK, hD9⟩, hS.F ht⟩) hS.2.2 dL_isMove_130
          · refine lv_iconst (v := 1) hx hb dL_isMove_125 (by decide) ?_
            refine lv_goto (tgt := 130) hx hb dL_isMove_126 (by decide) ?_
            have hP9 := hP.sub (ws' := [((a 0), .inr (5, [.ref (a 2), .ref (a 4), .ref (a 18), .ref (a 1)])), ((a 4), .inr (2, [.int hm, .int aw, .int tk, .ref (a 5), .ref (a 6), .ref (a 7), .ref (a 8), .ref (a 13)])), ((a 5), .inl (cI, 6, .inl (g_ce_D3 bk hm aw tk ce (nI p1) (nI p2)))), ((a 2), .inr (1, [.ref (a 3)])), ((a 3), .inl (cZ, 144, .inl bk)), ((q 0), .inl (cI, 19, .inl lb)), ((q 1), .inl (cI, 18, .inl (upd lp p1 (nI p2))))]) [2, 3, 4, 5, 6, 0, 1] rfl
            have hD9 := hD.sub (ws' := [((a 0), .inr (5, [.ref (a 2), .ref (a 4), .ref (a 18), .ref (a 1)])), ((a 4), .inr (2, [.int hm, .int aw, .int tk, .ref (a 5), .ref (a 6), .ref (a 7), .ref (a 8), .ref (a 13)])), ((a 5), .inl (cI, 6, .inl (g_ce_D3 bk hm aw tk ce (nI p1) (nI p2)))), ((a 2), .inr (1, [.ref (a 3)])), ((a 3), .inl (cZ, 144, .inl bk)), ((q 0), .inl (cI, 19, .inl lb)), ((q 1), .inl (cI, 18, .inl (upd lp p1 (nI p2))))]) [2, 3, 4, 5, 6, 0, 1] (by decide) rfl
            -- leaf 3
            refine W.widen (k := 4) (n := 24) (Nat.le_of_ble_eq_true rfl) (Nat.le_of_ble_eq_true rfl) ?_
            exact W.zret (v := 1) (ty := .boolean) hx hb hr rfl (fun t ht hW => ⟨⟨1, ((g_ce_D3 bk hm aw tk ce (nI p1) (nI p2)), upd lp p1 (nI p2)), rfl, ⟨(by rw [f_L_isMove, if_pos c_19]), rfl, (by rw [g_lp_L_isMove, if_neg c_15])⟩, by rw [ht]; exact hP9, va_K.moved hW.alike hK, hD9⟩, hS.F ht⟩) hS.2.2 dL_isMove_130
