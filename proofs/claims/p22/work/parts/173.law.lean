noncomputable def j_L_isShot_19 (p1 : Nat) (p2 : Nat) : Int32 := if 6 ≤ (nI p1) then 0 else (if 144 ≤ (nI p2) then 0 else 1)
theorem zj_L_isShot_19 {p1 : Nat} {p2 : Nat} : j_L_isShot_19 p1 p2 = 0 ∨ j_L_isShot_19 p1 p2 = 1 := by
  unfold j_L_isShot_19
  (repeat' split) <;> first | exact Or.inl rfl | exact Or.inr rfl
theorem tj_L_isShot_19 {p1 : Nat} {p2 : Nat} (h : ¬ j_L_isShot_19 p1 p2 = 0) : ¬ (6 ≤ (nI p1)) ∧ ¬ (144 ≤ (nI p2)) := by
  unfold j_L_isShot_19 at h
  (repeat' split at h) <;> first | exact absurd rfl h | exact ⟨by assumption, by assumption⟩
noncomputable def j_L_isShot_74 (p1 : Nat) (p2 : Nat) (lb : Nat → Int32) (lp : Nat → Int32) : Int32 := if (j_L_isShot_19 p1 p2) = 0 then 0 else (if (lb 14) < 0 then 0 else (if (lp p1) < 0 then 0 else (if (lp (12 + p1)) = (lb 14) then 0 else (if (lp p1) = (nI p2) then 0 else (if 100 ≤ (lb 15) then 0 else 1)))))
theorem zj_L_isShot_74 {p1 : Nat} {p2 : Nat} {lb : Nat → Int32} {lp : Nat → Int32} : j_L_isShot_74 p1 p2 lb lp = 0 ∨ j_L_isShot_74 p1 p2 lb lp = 1 := by
  unfold j_L_isShot_74
  (repeat' split) <;> first | exact Or.inl rfl | exact Or.inr rfl
theorem tj_L_isShot_74 {p1 : Nat} {p2 : Nat} {lb : Nat → Int32} {lp : Nat → Int32} (h : ¬ j_L_isShot_74 p1 p2 lb lp = 0) : ¬ ((j_L_isShot_19 p1 p2) = 0) ∧ ¬ ((lb 14) < 0) ∧ ¬ ((lp p1) < 0) ∧ ¬ ((lp (12 + p1)) = (lb 14)) ∧ ¬ ((lp p1) = (nI p2)) ∧ ¬ (100 ≤ (lb 15)) := by
  unfold j_L_isShot_74 at h
  (repeat' split at h) <;> first | exact absurd rfl h | exact ⟨by assumption, by assumption, by assumption, by assumption, by assumption, by assumption⟩
noncomputable def j_L_isShot_113 (p1 : Nat) (p2 : Nat) (lb : Nat → Int32) (lp : Nat → Int32) : Int32 := if (j_L_isShot_19 p1 p2) = 0 then (-30) else (if (j_L_isShot_74 p1 p2 lb lp) = 0 then (-10) else (lb 14) + (nI (((apN ((lp p1).toNatClampNeg) p2) + 3) / 4)))
noncomputable def f_L_isShot (lb : Nat → Int32) (lp : Nat → Int32) (hm : Int32) (aw : Int32) (tk : Int32) (ce : Nat → Int32) (la : Nat → Int32) (sn : Nat) (sa : Nat → Int32) (sb : Nat → Int32) (sc : Nat → Int32) (sd : Nat → Int32) (p1 : Nat) (p2 : Nat) : Int32 := if (j_L_isShot_74 p1 p2 lb lp) = 0 then (if (f_D4 hm aw tk ce la sn sa sb sc sd (nI p1) (nI p2)) = (j_L_isShot_113 p1 p2 lb lp) then (if (flyN tk (g_sd_D4 hm aw tk ce la sn sa sb sc sd (nI p1) (nI p2)) (g_sn_D4 hm aw tk ce la sn sa sb sc sd (nI p1) (nI p2))) = ((flyN tk sd sn) + 0) then 1 else 0) else 0) else (if (f_D4 hm aw tk ce la sn sa sb sc sd (nI p1) (nI p2)) = (j_L_isShot_113 p1 p2 lb lp) then (if (flyN tk (g_sd_D4 hm aw tk ce la sn sa sb sc sd (nI p1) (nI p2)) (g_sn_D4 hm aw tk ce la sn sa sb sc sd (nI p1) (nI p2))) = ((flyN tk sd sn) + 1) then 1 else 0) else 0)
noncomputable def g_lb_L_isShot (lb : Nat → Int32) (lp : Nat → Int32) (hm : Int32) (aw : Int32) (tk : Int32) (ce : Nat → Int32) (la : Nat → Int32) (sn : Nat) (sa : Nat → Int32) (sb : Nat → Int32) (sc : Nat → Int32) (sd : Nat → Int32) (p1 : Nat) (p2 : Nat) : Nat → Int32 := if (j_L_isShot_74 p1 p2 lb lp) = 0 then lb else upd lb 15 ((lb 15) + 1)
noncomputable def g_lp_L_isShot (lb : Nat → Int32) (lp : Nat → Int32) (hm : Int32) (aw : Int32) (tk : Int32) (ce : Nat → Int32) (la : Nat → Int32) (sn : Nat) (sa : Nat → Int32) (sb : Nat → Int32) (sc : Nat → Int32) (sd : Nat → Int32) (p1 : Nat) (p2 : Nat) : Nat → Int32 := if (j_L_isShot_74 p1 p2 lb lp) = 0 then lp else upd lp (12 + p1) (lb 14)
set_option maxHeartbeats 4000000 in
set_option maxRecDepth 100000 in
theorem c_L_isShot (l : Launch) (hlt : l.stackTraces = false) (D : va_G) (cI cZ cJ cA : ClassId) (sx : Nat → Nat) (sz : Nat) (a : Nat → Nat) (q : Nat → Nat) (lb : Nat → Int32) (lp : Nat → Int32) (hm : Int32) (aw : Int32) (tk : Int32) (ce : Nat → Int32) (la : Nat → Int32) (sn : Nat) (sa : Nat → Int32) (sb : Nat → Int32) (sc : Nat → Int32) (sd : Nat → Int32) (p1 : Nat) (p2 : Nat) (h1 : p1 < 100) (h2 : p2 < 1000) (hlp : ∀ j : Nat, j < 6 → lp j = (-2) ∨ lp j = (-1) ∨ vp_in (lp j) 144) (hsn : sn ≤ 100) : Met l yL_isShot wsL_isShot ({ frames := 10, cells := 4, slots := 24, locals := 178 } : Room) (va_Pc [.ref (a 0), .ref (q 0), .ref (q 1), .int (nI p1), .int (nI p2)] (pcL (pcW D (tyL cI cZ cJ cA) [((a 0), .inr (5, [.ref (a 2), .ref (a 4), .ref (a 18), .ref (a 1)])), ((a 4), .inr (2, [.int hm, .int aw, .int tk, .ref (a 5), .ref (a 6), .ref (a 7), .ref (a 8), .ref (a 13)])), ((a 5), .inl (cI, 6, .inl ce)), ((a 7), .inl (cI, 6, .inl la)), ((a 8), .inr (3, [.int (nI sn), .ref (a 9), .ref (a 10), .ref (a 11), .ref (a 12)])), ((a 9), .inl (cI, 100, .inl sa)), ((a 10), .inl (cI, 100, .inl sb)), ((a 11), .inl (cI, 100, .inl sc)), ((a 12), .inl (cI, 100, .inl sd)), ((q 0), .inl (cI, 19, .inl lb)), ((q 1), .inl (cI, 18, .inl lp))] sz) sx (va_A [((a 0), .inr (5, [.ref (a 2), .ref (a 4), .ref (a 18), .ref (a 1)])), ((a 4), .inr (2, [.int hm, .int aw, .int tk, .ref (a 5), .ref (a 6), .ref (a 7), .ref (a 8), .ref (a 13)])), ((a 5), .inl (cI, 6, .inl ce)), ((a 7), .inl (cI, 6, .inl la)), ((a 8), .inr (3, [.int (nI sn), .ref (a 9), .ref (a 10), .ref (a 11), .ref (a 12)])), ((a 9), .inl (cI, 100, .inl sa)), ((a 10), .inl (cI, 100, .inl sb)), ((a 11), .inl (cI, 100, .inl sc)), ((a 12), .inl (cI, 100, .inl sd)), ((q 0), .inl (cI, 19, .inl lb)), ((q 1), .inl (cI, 18, .inl lp))] sz))) (va_Qi (fun (r : Int32) (u : (Nat → Int32) × (Nat) × (Nat → Int32) × (Nat → Int32) × (Nat → Int32) × (Nat → Int32) × (Nat → Int32) × (Nat → Int32)) => r = f_L_isShot lb lp hm aw tk ce la sn sa sb sc sd p1 p2 ∧ u.1 = (g_la_D4 hm aw tk ce la sn sa sb sc sd (nI p1) (nI p2)) ∧ u.2.1 = (g_sn_D4 hm aw tk ce la sn sa sb sc sd (nI p1) (nI p2)) ∧ u.2.2.1 = (g_sa_D4 hm aw tk ce la sn sa sb sc sd (nI p1) (nI p2)) ∧ u.2.2.2.1 = (g_sb_D4 hm aw tk ce la sn sa sb sc sd (nI p1) (nI p2)) ∧ u.2.2.2.2.1 = (g_sc_D4 hm aw tk ce la sn sa sb sc sd (nI p1) (nI p2)) ∧ u.2.2.2.2.2.1 = (g_sd_D4 hm aw tk ce la sn sa sb sc sd (nI p1) (nI p2)) ∧ u.2.2.2.2.2.2.1 = g_lb_L_isShot lb lp hm aw tk ce la sn sa sb sc sd p1 p2 ∧ u.2.2.2.2.2.2.2 = g_lp_L_isShot lb lp hm aw tk ce la sn sa sb sc sd p1 p2) (fun u t => bcW D (tyL cI cZ cJ cA) (va_A [((a 0), .inr (5, [.ref (a 2), .ref (a 4), .ref (a 18), .ref (a 1)])), ((a 4), .inr (2, [.int hm, .int aw, .int tk, .ref (a 5), .ref (a 6), .ref (a 7), .ref (a 8), .ref (a 13)])), ((a 5), .inl (cI, 6, .inl ce)), ((a 7), .inl (cI, 6, .inl la)), ((a 8), .inr (3, [.int (nI sn), .ref (a 9), .ref (a 10), .ref (a 11), .ref (a 12)])), ((a 9), .inl (cI, 100, .inl sa)), ((a 10), .inl (cI, 100, .inl sb)), ((a 11), .inl (cI, 100, .inl sc)), ((a 12), .inl (cI, 100, .inl sd)), ((q 0), .inl (cI, 19, .inl lb)), ((q 1), .inl (cI, 18, .inl lp))] sz) [((a 0), .inr (5, [.ref (a 2), .ref (a 4), .ref (a 18), .ref (a 1)])), ((a 4), .inr (2, [.int hm, .int aw, .int tk, .ref (a 5), .ref (a 6), .ref (a 7), .ref (a 8), .ref (a 13)])), ((a 5), .inl (cI, 6, .inl ce)), ((a 7), .inl (cI, 6, .inl u.1)), ((a 8), .inr (3, [.int (nI u.2.1), .ref (a 9), .ref (a 10), .ref (a 11), .ref (a 12)])), ((a 9), .inl (cI, 100, .inl u.2.2.1)), ((a 10), .inl (cI, 100, .inl u.2.2.2.1)), ((a 11), .inl (cI, 100, .inl u.2.2.2.2.1)), ((a 12), .inl (cI, 100, .inl u.2.2.2.2.2.1)), ((q 0), .inl (cI, 19, .inl u.2.2.2.2.2.2.1)), ((q 1), .inl (cI, 18, .inl u.2.2.2.2.2.2.2))] t) (va_A [((a 0), .inr (5, [.ref (a 2), .ref (a 4), .ref (a 18), .ref (a 1)])), ((a 4), .inr (2, [.int hm, .int aw, .int tk, .ref (a 5), .ref (a 6), .ref (a 7), .ref (a 8), .ref (a 13)])), ((a 5), .inl (cI, 6, .inl ce)), ((a 7), .inl (cI, 6, .inl la)), ((a 8), .inr (3, [.int (nI sn), .ref (a 9), .ref (a 10), .ref (a 11), .ref (a 12)])), ((a 9), .inl (cI, 100, .inl sa)), ((a 10), .inl (cI, 100, .inl sb)), ((a 11), .inl (cI, 100, .inl sc)), ((a 12), .inl (cI, 100, .inl sd)), ((q 0), .inl (cI, 19, .inl lb)), ((q 1), .inl (cI, 18, .inl lp))] sz)) 4 24 (va_A [((a 0), .inr (5, [.ref (a 2), .ref (a 4), .ref (a 18), .ref (a 1)])), ((a 4), .inr (2, [.int hm, .int aw, .int tk, .ref (a 5), .ref (a 6), .ref (a 7), .ref (a 8), .ref (a 13)])), ((a 5), .inl (cI, 6, .inl ce)), ((a 7), .inl (cI, 6, .inl la)), ((a 8), .inr (3, [.int (nI sn), .ref (a 9), .ref (a 10), .ref (a 11), .ref (a 12)])), ((a 9), .inl (cI, 100, .inl sa)), ((a 10), .inl (cI, 100, .inl sb)), ((a 11), .inl (cI, 100, .inl sc)), ((a 12), .inl (cI, 100, .inl sd)), ((q 0), .inl (cI, 19, .inl lb)), ((q 1), .inl (cI, 18, .inl lp))] sz) := by
  refine Met.ofW (cc := cL_isShot) (maxL := 9) (ret := (some .boolean)) (by decide) rfl ?_
  intro p e s m args below meth c s₁ B hml hv
  obtain ⟨rfl, ⟨⟨hsz, hP, hK, hD0⟩, hE⟩, hN⟩ := hv
  have hx := B.exec
  have hb := B.bytes
  have hr := B.returns
  have hts := atoms_spec (ws := wsL_isShot) B.pre
  have hown : s.vm.findClass RL = some m.cls := findClass_of_methodNamed B.named
  have hlocks := B.notSynchronized
  subst hsz
  have hD := hD0.self (sz := s.heap.size)
  generalize hAe : va_A [((a 0), .inr (5, [.ref (a 2), .ref (a 4), .ref (a 18), .ref (a 1)])), ((a 4), .inr (2, [.int hm, .int aw, .int tk, .ref (a 5), .ref (a 6), .ref (a 7), .ref (a 8), .ref (a 13)])), ((a 5), .inl (cI, 6, .inl ce)), ((a 7), .inl (cI, 6, .inl la)), ((a 8), .inr (3, [.int (nI sn), .ref (a 9), .ref (a 10), .ref (a 11), .ref (a 12)])), ((a 9), .inl (cI, 100, .inl sa)), ((a 10), .inl (cI, 100, .inl sb)), ((a 11), .inl (cI, 100, .inl sc)), ((a 12), .inl (cI, 100, .inl sd)), ((q 0), .inl (cI, 19, .inl lb)), ((q 1), .inl (cI, 18, .inl lp))] s.heap.size = A at hD hE ⊢
  have hA : ∀ q : Nat, s.heap.size ≤ q → A q := fun q h => by rw [← hAe]; exact Or.inr h
  have hAR : ∀ q : Nat, s.heap.size ≤ q → (fun q : Nat => s.heap.size ≤ q) q := fun _ h => h
  have hS : va_S A s.heap s.heap [] := va_S.rf
  have hP : va_P D vwCl [((a 0), .inr (5, [.ref (a 2), .ref (a 4), .ref (a 18), .ref (a 1)])), ((a 4), .inr (2, [.int hm, .int aw, .int tk, .ref (a 5), .ref (a 6), .ref (a 7), .ref (a 8), .ref (a 13)])), ((a 5), .inl (cI, 6, .inl ce)), ((a 7), .inl (cI, 6, .inl la)), ((a 8), .inr (3, [.int (nI sn), .ref (a 9), .ref (a 10), .ref (a 11), .ref (a 12)])), ((a 9), .inl (cI, 100, .inl sa)), ((a 10), .inl (cI, 100, .inl sb)), ((a 11), .inl (cI, 100, .inl sc)), ((a 12), .inl (cI, 100, .inl sd)), ((q 0), .inl (cI, 19, .inl lb)), ((q 1), .inl (cI, 18, .inl lp))] s.heap := hP
  have hl := lv_entry ([.ref (a 0), .ref (q 0), .ref (q 1), .int (nI p1), .int (nI p2)]) (n := 9) (Nat.le_of_ble_eq_true rfl)
  rw [lg_entry_eq]
  generalize (lg_sl ([.ref (a 0), .ref (q 0), .ref (q 1), .int (nI p1), .int (nI p2)]) ++ List.replicate (9 - (lg_sl ([.ref (a 0), .ref (q 0), .ref (q 1), .int (nI p1), .int (nI p2)])).length) Slot.unset).toArray = ls at hl ⊢
  have hl : lv_has ls 9 [(0, .ref (a 0)), (1, .ref (q 0)), (2, .ref (q 1)), (3, .int (nI p1)), (4, .int (nI p2))] := hl
  refine jn_w (cells2 := 0) (slots2 := 0) (fun H locs ls => va_P D vwCl [((a 0), .inr (5, [.ref (a 2), .ref (a 4), .ref (a 18), .ref (a 1)])), ((a 4), .inr (2, [.int hm, .int aw, .int tk, .ref (a 5), .ref (a 6), .ref (a 7), .ref (a 8), .ref (a 13)])), ((a 5), .inl (cI, 6, .inl ce)), ((a 7), .inl (cI, 6, .inl la)), ((a 8), .inr (3, [.int (nI sn), .ref (a 9), .ref (a 10), .ref (a 11), .ref (a 12)])), ((a 9), .inl (cI, 100, .inl sa)), ((a 10), .inl (cI, 100, .inl sb)), ((a 11), .inl (cI, 100, .inl sc)), ((a 12), .inl (cI, 100, .inl sd)), ((q 0), .inl (cI, 19, .inl lb)), ((q 1), .inl (cI, 18, .inl lp))] H ∧ va_D A [((a 0), .inr (5, [.ref (a 2), .ref (a 4), .ref (a 18), .ref (a 1)])), ((a 4), .inr (2, [.int hm, .int aw, .int tk, .ref (a 5), .ref (a 6), .ref (a 7), .ref (a 8), .ref (a 13)])), ((a 5), .inl (cI, 6, .inl ce)), ((a 7), .inl (cI, 6, .inl la)), ((a 8), .inr (3, [.int (nI sn), .ref (a 9), .ref (a 10), .ref (a 11), .ref (a 12)])), ((a 9), .inl (cI, 100, .inl sa)), ((a 10), .inl (cI, 100, .inl sb)), ((a 11), .inl (cI, 100, .inl sc)), ((a 12), .inl (cI, 100, .inl sd)), ((q 0), .inl (cI, 19, .inl lb)), ((q 1), .inl (cI, 18, .inl lp))] ∧ va_S A s.heap H locs ∧ lv_has ls 9 [(0, .ref (a 0)), (1, .ref (q 0)), (2, .ref (q 1)), (3, .int (nI p1)), (4, .int (nI p2))]) (pc2 := 19) (st2 := []) (j_L_isShot_19 p1 p2) (fun jn_0 => ?_) ?_
  · refine lv_iload_n hx hb dL_isShot_0 rfl (lv_at hl 3 rfl) ?_
    refine lv_bipush (v := 6) hx hb dL_isShot_1 (by decide) ?_
    refine lv_icmp_ge (tgt := 18) hx hb dL_isShot_3 (by decide) (fun c_1 => ?_) (fun c_1 => ?_)
    · have nc_1 : 6 ≤ p1 := (nI_leI (a := 6) (b := p1) (by omega) (by omega)).mp c_1
      refine lv_iconst (v := 0) hx hb dL_isShot_18 (by decide) ?_
      refine W.widen (k := 0) (n := 0) (Nat.le_of_ble_eq_true rfl) (Nat.le_of_ble_eq_true rfl) ?_
      refine tp_eq (y := j_L_isShot_19 p1 p2) (by rw [j_L_isShot_19, if_pos c_1]) ?_
      exact jn_0 _ _ _ ⟨hP, hD, hS, lv_sub hl [0, 1, 2, 3, 4] rfl⟩
    · have nc_1 : ¬ 6 ≤ p1 := fun q => c_1 ((nI_leI (a := 6) (b := p1) (by omega) (by omega)).mpr q)
      refine lv_iload hx hb dL_isShot_6 (lv_at hl 4 rfl) ?_
      refine lv_sipush (v := 144) hx hb dL_isShot_8 (by decide) ?_
      refine lv_icmp_ge (tgt := 18) hx hb dL_isShot_11 (by decide) (fun c_2 => ?_) (fun c_2 => ?_)
      · have nc_2 : 144 ≤ p2 := (nI_leI (a := 144) (b := p2) (by omega) (by omega)).mp c_2
        refine lv_iconst (v := 0) hx hb dL_isShot_18 (by decide) ?_
        refine W.widen (k := 0) (n := 0) (Nat.le_of_ble_eq_true rfl) (Nat.le_of_ble_eq_true rfl) ?_
        refine tp_eq (y := j_L_isShot_19 p1 p2) (by rw [j_L_isShot_19, if_neg c_1, if_pos c_2]) ?_
        exact jn_0 _ _ _ ⟨hP, hD, hS, lv_sub hl [0, 1, 2, 3, 4] rfl⟩
      · have nc_2 : ¬ 144 ≤ p2 := fun q => c_2 ((nI_leI (a := 144) (b := p2) (by omega) (by omega)).mpr q)
        refine lv_iconst (v := 1) hx hb dL_isShot_14 (by decide) ?_
        refine lv_goto (tgt := 19) hx hb dL_isShot_15 (by decide) ?_
        refine W.widen (k := 0) (n := 0) (Nat.le_of_ble_eq_true rfl) (Nat.le_of_ble_eq_true rfl) ?_
        refine tp_eq (y := j_L_isShot_19 p1 p2) (by rw [j_L_isShot_19, if_neg c_1, if_neg c_2]) ?_
        exact jn_0 _ _ _ ⟨hP, hD, hS, lv_sub hl [0, 1, 2, 3, 4] rfl⟩
  · intro H locs ls hI
    obtain ⟨hP, hD, hS, hl⟩ := hI
    have hl : lv_has ls 9 [(0, .ref (a 0)), (1, .ref (q 0)), (2, .ref (q 1)), (3, .int (nI p1)), (4, .int (nI p2))] := hl
    have hP : va_P D vwCl [((a 0), .inr (5, [.ref (a 2), .ref (a 4), .ref (a 18), .ref (a 1)])), ((a 4), .inr (2, [.int hm, .int aw, .int tk, .ref (a 5), .ref (a 6), .ref (a 7), .ref (a 8), .ref (a 13)])), ((a 5), .inl (cI, 6, .inl ce)), ((a 7), .inl (cI, 6, .inl la)), ((a 8), .inr (3, [.int (nI sn), .ref (a 9), .ref (a 10), .ref (a 11), .ref (a 12)])), ((a 9), .inl (cI, 100, .inl sa)), ((a 10), .inl (cI, 100, .inl sb)), ((a 11), .inl (cI, 100, .inl sc)), ((a 12), .inl (cI, 100, .inl sd)), ((q 0), .inl (cI, 19, .inl lb)), ((q 1), .inl (cI, 18, .inl lp))] H := hP
    have hD : va_D A [((a 0), .inr (5, [.ref (a 2), .ref (a 4), .ref (a 18), .ref (a 1)])), ((a 4), .inr (2, [.int hm, .int aw, .int tk, .ref (a 5), .ref (a 6), .ref (a 7), .ref (a 8), .ref (a 13)])), ((a 5), .inl (cI, 6, .inl ce)), ((a 7), .inl (cI, 6, .inl la)), ((a 8), .inr (3, [.int (nI sn), .ref (a 9), .ref (a 10), .ref (a 11), .ref (a 12)])), ((a 9), .inl (cI, 100, .inl sa)), ((a 10), .inl (cI, 100, .inl sb)), ((a 11), .inl (cI, 100, .inl sc)), ((a 12), .inl (cI, 100, .inl sd)), ((q 0), .inl (cI, 19, .inl lb)), ((q 1), .inl (cI, 18, .inl lp))] := hD
    refine lv_istore (lv' := [(5, .int (j_L_isShot_19 p1 p2)), (0, .ref (a 0)), (1, .ref (q 0)), (2, .ref (q 1)), (3, .int (nI p1)), (4, .int (nI p2))]) hx hb dL_isShot_19 hl (by decide) rfl (fun ls hl => ?_)
    refine jn_w (cells2 := 0) (slots2 := 0) (fun H locs ls => va_P D vwCl [((a 0), .inr (5, [.ref (a 2), .ref (a 4), .ref (a 18), .ref (a 1)])), ((a 4), .inr (2, [.int hm, .int aw, .int tk, .ref (a 5), .ref (a 6), .ref (a 7), .ref (a 8), .ref (a 13)])), ((a 5), .inl (cI, 6, .inl ce)), ((a 7), .inl (cI, 6, .inl la)), ((a 8), .inr (3, [.int (nI sn), .ref (a 9), .ref (a 10), .ref (a 11), .ref (a 12)])), ((a 9), .inl (cI, 100, .inl sa)), ((a 10), .inl (cI, 100, .inl sb)), ((a 11), .inl (cI, 100, .inl sc)), ((a 12), .inl (cI, 100, .inl sd)), ((q 0), .inl (cI, 19, .inl lb)), ((q 1), .inl (cI, 18, .inl lp))] H ∧ va_D A [((a 0), .inr (5, [.ref (a 2), .ref (a 4), .ref (a 18), .ref (a 1)])), ((a 4), .inr (2, [.int hm, .int aw, .int tk, .ref (a 5), .ref (a 6), .ref (a 7), .ref (a 8), .ref (a 13)])), ((a 5), .inl (cI, 6, .inl ce)), ((a 7), .inl (cI, 6, .inl la)), ((a 8), .inr (3, [.int (nI sn), .ref (a 9), .ref (a 10), .ref (a 11), .ref (a 12)])), ((a 9), .inl (cI, 100, .inl sa)), ((a 10), .inl (cI, 100, .inl sb)), ((a 11), .inl (cI, 100, .inl sc)), ((a 12), .inl (cI, 100, .inl sd)), ((q 0), .inl (cI, 19, .inl lb)), ((q 1), .inl (cI, 18, .inl lp))] ∧ va_S A s.heap H locs ∧ lv_has ls 9 [(5, .int (j_L_isShot_19 p1 p2)), (0, .ref (a 0)), (1, .ref (q 0)), (2, .ref (q 1)), (3, .int (nI p1)), (4, .int (nI p2))]) (pc2 := 74) (st2 := []) (j_L_isShot_74 p1 p2 lb lp) (fun jn_21 => ?_) ?_
    · refine lv_iload hx hb dL_isShot_21 (lv_at hl 0 rfl) ?_
      refine lv_if_eq (tgt := 73) hx hb dL_isShot_23 (by decide) (fun c_3 => ?_) (fun c_3 => ?_)
      · refine lv_iconst (v := 0) hx hb dL_isShot_73 (by decide) ?_
        refine W.widen (k := 0) (n := 0) (Nat.le_of_ble_eq_true rfl) (Nat.le_of_ble_eq_true rfl) ?_
        refine tp_eq (y := j_L_isShot_74 p1 p2 lb lp) (by rw [j_L_isShot_74, if_pos c_3]) ?_
        exact jn_21 _ _ _ ⟨hP, hD, hS, lv_sub hl [0, 1, 2, 3, 4, 5] rfl⟩
      · obtain ⟨tc_3_0, tc_3_1⟩ := tj_L_isShot_19 c_3
        have ntc_3_0 : ¬ 6 ≤ p1 := fun q => tc_3_0 ((nI_leI (a := 6) (b := p1) (by omega) (by omega)).mpr q)
        have ntc_3_1 : ¬ 144 ≤ p2 := fun q => tc_3_1 ((nI_leI (a := 144) (b := p2) (by omega) (by omega)).mpr q)
        refine lv_aload_n hx hb dL_isShot_26 rfl (lv_at hl 2 rfl) ?_
        refine lv_bipush (v := 14) hx hb dL_isShot_27 (by decide) ?_
        refine va_iald hx hb hK hP 9 0 rfl rfl (vp_in_nI (n := 14) (by decide) (by decide)) dL_isShot_29 ?_
        refine tp_eq (y := lb 14) rfl ?_
        refine lv_if_lt (tgt := 73) hx hb dL_isShot_30 (by decide) (fun c_4 => ?_) (fun c_4 => ?_)
        · refine lv_iconst (v := 0) hx hb dL_isShot_73 (by decide) ?_
          refine W.widen (k := 0) (n := 0) (Nat.le_of_ble_eq_true rfl) (Nat.le_of_ble_eq_true rfl) ?_
          refine tp_eq (y := j_L_isShot_74 p1 p2 lb lp) (by rw [j_L_isShot_74, if_neg c_3, if_pos c_4]) ?_
          exact jn_21 _ _ _ ⟨hP, hD, hS, lv_sub hl [0, 1, 2, 3, 4, 5] rfl⟩
        · refine lv_aload_n hx hb dL_isShot_33 rfl (lv_at hl 3 rfl) ?_
          refine lv_iload_n hx hb dL_isShot_34 rfl (lv_at hl 4 rfl) ?_
          refine va_iald hx hb hK hP 10 0 rfl rfl (vp_in_nI (n := p1) (by omega) (by decide)) dL_isShot_35 ?_
          refine tp_eq (y := lp p1) (by rw [nI_clamp (n := p1) (by omega)]) ?_
          refine lv_if_lt (tgt := 73) hx hb dL_isShot_36 (by decide) (fun c_5 => ?_) (fun c_5 => ?_)
          · refine lv_iconst (v := 0) hx hb dL_isShot_73 (by decide) ?_
            refine W.widen (k := 0) (n := 0) (Nat.le_of_ble_eq_true rfl) (Nat.le_of_ble_eq_true rfl) ?_
            refine tp_eq (y := j_L_isShot_74 p1 p2 lb lp) (by rw [j_L_isShot_74, if_neg c_3, if_neg c_4, if_pos c_5]) ?_
            exact jn_21 _ _ _ ⟨hP, hD, hS, lv_sub hl [0, 1, 2, 3, 4, 5] rfl⟩
          · refine lv_aload_n hx hb dL_isShot_39 rfl (lv_at hl 3 rfl) ?_
            refine lv_bipush (v := 12) hx hb dL_isShot_40 (by decide) ?_
            refine lv_iload_n hx hb dL_isShot_42 rfl (lv_at hl 4 rfl) ?_
            refine lv_iadd hx hb dL_isShot_43 ?_
            refine tp_eq (y := nI (12 + p1)) (nI_add 12 p1) ?_
            refine va_iald hx hb hK hP 10 0 rfl rfl (vp_in_nI (n := (12 + p1)) (by omega) (by decide)) dL_isShot_44 ?_
            refine tp_eq (y := lp (12 + p1)) (by rw [nI_clamp (n := (12 + p1)) (by omega)]) ?_
            refine lv_aload_n hx hb dL_isShot_45 rfl (lv_at hl 2 rfl) ?_
            refine lv_bipush (v := 14) hx hb dL_isShot_46 (by decide) ?_
            refine va_iald hx hb hK hP 9 0 rfl rfl (vp_in_nI (n := 14) (by decide) (by decide)) dL_isShot_48 ?_
            refine tp_eq (y := lb 14) rfl ?_
            refine lv_icmp_eq (tgt := 73) hx hb dL_isShot_49 (by decide) (fun c_6 => ?_) (fun c_6 => ?_)
            · refine lv_iconst (v := 0) hx hb dL_isShot_73 (by decide) ?_
              refine W.widen (k := 0) (n := 0) (Nat.le_of_ble_eq_true rfl) (Nat.le_of_ble_eq_true rfl) ?_
              refine tp_eq (y := j_L_isShot_74 p1 p2 lb lp) (by rw [j_L_isShot_74, if_neg c_3, if_neg c_4, if_neg c_5, if_pos c_6]) ?_
              exact jn_21 _ _ _ ⟨hP, hD, hS, lv_sub hl [0, 1, 2, 3, 4, 5] rfl⟩
            · refine lv_aload_n hx hb dL_isShot_52 rfl (lv_at hl 3 rfl) ?_
              refine lv_iload_n hx hb dL_isShot_53 rfl (lv_at hl 4 rfl) ?_
              refine va_iald hx hb hK hP 10 0 rfl rfl (vp_in_nI (n := p1) (by omega) (by decide)) dL_isShot_54 ?_
              refine tp_eq (y := lp p1) (by rw [nI_clamp (n := p1) (by omega)]) ?_
              refine lv_iload hx hb dL_isShot_55 (lv_at hl 5 rfl) ?_
              refine lv_icmp_eq (tgt := 73) hx hb dL_isShot_57 (by decide) (fun c_7 => ?_) (fun c_7 => ?_)
              · refine lv_iconst (v := 0) hx hb dL_isShot_73 (by decide) ?_
                refine W.widen (k := 0) (n := 0) (Nat.le_of_ble_eq_true rfl) (Nat.le_of_ble_eq_true rfl) ?_
                refine tp_eq (y := j_L_isShot_74 p1 p2 lb lp) (by rw [j_L_isShot_74, if_neg c_3, if_neg c_4, if_neg c_5, if_neg c_6, if_pos c_7]) ?_
                exact jn_21 _ _ _ ⟨hP, hD, hS, lv_sub hl [0, 1, 2, 3, 4, 5] rfl⟩
              · refine lv_aload_n hx hb dL_isShot_60 rfl (lv_at hl 2 rfl) ?_
                refine lv_bipush (v := 15) hx hb dL_isShot_61 (by decide) ?_
                refine va_iald hx hb hK hP 9 0 rfl rfl (vp_in_nI (n := 15) (by decide) (by decide)) dL_isShot_63 ?_
                refine tp_eq (y := lb 15) rfl ?_
                refine lv_bipush (v := 100) hx hb dL_isShot_64 (by decide) ?_
                refine lv_icmp_ge (tgt := 73) hx hb dL_isShot_66 (by decide) (fun c_8 => ?_) (fun c_8 => ?_)
                · refine lv_iconst (v := 0) hx hb dL_isShot_73 (by decide) ?_
                  refine W.widen (k := 0) (n := 0) (Nat.le_of_ble_eq_true rfl) (Nat.le_of_ble_eq_true rfl) ?_
                  refine tp_eq (y := j_L_isShot_74 p1 p2 lb lp) (by rw [j_L_isShot_74, if_neg c_3, if_neg c_4, if_neg c_5, if_neg c_6, if_neg c_7, if_pos c_8]) ?_
                  exact jn_21 _ _ _ ⟨hP, hD, hS, lv_sub hl [0, 1, 2, 3, 4, 5] rfl⟩
                · refine lv_iconst (v := 1) hx hb dL_isShot_69 (by decide) ?_
                  refine lv_goto (tgt := 74) hx hb dL_isShot_70 (by decide) ?_
                  refine W.widen (k := 0) (n := 0) (Nat.le_of_ble_eq_true rfl) (Nat.le_of_ble_eq_true rfl) ?_
                  refine tp_eq (y := j_L_isShot_74 p1 p2 lb lp) (by rw [j_L_isShot_74, if_neg c_3, if_neg c_4, if_neg c_5, if_neg c_6, if_neg c_7, if_neg c_8]) ?_
                  exact jn_21 _ _ _ ⟨hP, hD, hS, lv_sub hl [0, 1, 2, 3, 4, 5] rfl⟩
    · intro H locs ls hI
      obtain ⟨hP, hD, hS, hl⟩ := hI
      have hl : lv_has ls 9 [(5, .int (j_L_isShot_19 p1 p2)), (0, .ref (a 0)), (1, .ref (q 0)), (2, .ref (q 1)), (3, .int (nI p1)), (4, .int (nI p2))] := hl
      have hP : va_P D vwCl [((a 0), .inr (5, [.ref (a 2), .ref (a 4), .ref (a 18), .ref (a 1)])), ((a 4), .inr (2, [.int hm, .int aw, .int tk, .ref (a 5), .ref (a 6), .ref (a 7), .ref (a 8), .ref (a 13)])), ((a 5), .inl (cI, 6, .inl ce)), ((a 7), .inl (cI, 6, .inl la)), ((a 8), .inr (3, [.int (nI sn), .ref (a 9), .ref (a 10), .ref (a 11), .ref (a 12)])), ((a 9), .inl (cI, 100, .inl sa)), ((a 10), .inl (cI, 100, .inl sb)), ((a 11), .inl (cI, 100, .inl sc)), ((a 12), .inl (cI, 100, .inl sd)), ((q 0), .inl (cI, 19, .inl lb)), ((q 1), .inl (cI, 18, .inl lp))] H := hP
      have hD : va_D A [((a 0), .inr (5, [.ref (a 2), .ref (a 4), .ref (a 18), .ref (a 1)])), ((a 4), .inr (2, [.int hm, .int aw, .int tk, .ref (a 5), .ref (a 6), .ref (a 7), .ref (a 8), .ref (a 13)])), ((a 5), .inl (cI, 6, .inl ce)), ((a 7), .inl (cI, 6, .inl la)), ((a 8), .inr (3, [.int (nI sn), .ref (a 9), .ref (a 10), .ref (a 11), .ref (a 12)])), ((a 9), .inl (cI, 100, .inl sa)), ((a 10), .inl (cI, 100, .inl sb)), ((a 11), .inl (cI, 100, .inl sc)), ((a 12), .inl (cI, 100, .inl sd)), ((q 0), .inl (cI, 19, .inl lb)), ((q 1), .inl (cI, 18, .inl lp))] := hD
      refine lv_istore (lv' := [(6, .int (j_L_isShot_74 p1 p2 lb lp)), (5, .int (j_L_isShot_19 p1 p2)), (0, .ref (a 0)), (1, .ref (q 0)), (2, .ref (q 1)), (3, .int (nI p1)), (4, .int (nI p2))]) hx hb dL_isShot_74 hl (by decide) rfl (fun ls hl => ?_)
      refine jn_w (cells2 := 0) (slots2 := 0) (fun H locs ls => va_P D vwCl [((a 0), .inr (5, [.ref (a 2), .ref (a 4), .ref (a 18), .ref (a 1)])), ((a 4), .inr (2, [.int hm, .int aw, .int tk, .ref (a 5), .ref (a 6), .ref (a 7), .ref (a 8), .ref (a 13)])), ((a 5), .inl (cI, 6, .inl ce)), ((a 7), .inl (cI, 6, .inl la)), ((a 8), .inr (3, [.int (nI sn), .ref (a 9), .ref (a 10), .ref (a 11), .ref (a 12)])), ((a 9), .inl (cI, 100, .inl sa)), ((a 10), .inl (cI, 100, .inl sb)), ((a 11), .inl (cI, 100, .inl sc)), ((a 12), .inl (cI, 100, .inl sd)), ((q 0), .inl (cI, 19, .inl lb)), ((q 1), .inl (cI, 18, .inl lp))] H ∧ va_D A [((a 0), .inr (5, [.ref (a 2), .ref (a 4), .ref (a 18), .ref (a 1)])), ((a 4), .inr (2, [.int hm, .int aw, .int tk, .ref (a 5), .ref (a 6), .ref (a 7), .ref (a 8), .ref (a 13)])), ((a 5), .inl (cI, 6, .inl ce)), ((a 7), .inl (cI, 6, .inl la)), ((a 8), .inr (3, [.int (nI sn), .ref (a 9), .ref (a 10), .ref (a 11), .ref (a 12)])), ((a 9), .inl (cI, 100, .inl sa)), ((a 10), .inl (cI, 100, .inl sb)), ((a 11), .inl (cI, 100, .inl sc)), ((a 12), .inl (cI, 100, .inl sd)), ((q 0), .inl (cI, 19, .inl lb)), ((q 1), .inl (cI, 18, .inl lp))] ∧ va_S A s.heap H locs ∧ lv_has ls 9 [(6, .int (j_L_isShot_74 p1 p2 lb lp)), (5, .int (j_L_isShot_19 p1 p2)), (0, .ref (a 0)), (1, .ref (q 0)), (2, .ref (q 1)), (3, .int (nI p1)), (4, .int (nI p2))]) (pc2 := 113) (st2 := []) (j_L_isShot_113 p1 p2 lb lp) (fun jn_76 => ?_) ?_
      · refine lv_iload hx hb dL_isShot_76 (lv_at hl 1 rfl) ?_
        refine lv_if_ne (tgt := 86) hx hb dL_isShot_78 (by decide) (fun c_9 => ?_) (fun c_9 => ?_)
        · obtain ⟨tc_9_0, tc_9_1⟩ := tj_L_isShot_19 c_9
          have ntc_9_0 : ¬ 6 ≤ p1 := fun q => tc_9_0 ((nI_leI (a := 6) (b := p1) (by omega) (by omega)).mpr q)
          have ntc_9_1 : ¬ 144 ≤ p2 := fun q => tc_9_1 ((nI_leI (a := 144) (b := p2) (by omega) (by omega)).mpr q)
          refine lv_iload hx hb dL_isShot_86 (lv_at hl 0 rfl) ?_
          refine lv_if_eq (tgt := 111) hx hb dL_isShot_88 (by decide) (fun c_10 => ?_) (fun c_10 => ?_)
          · refine lv_bipush (v := (-10)) hx hb dL_isShot_111 (by decide) ?_
            refine W.widen (k := 0) (n := 0) (Nat.le_of_ble_eq_true rfl) (Nat.le_of_ble_eq_true rfl) ?_
            refine tp_eq (y := j_L_isShot_113 p1 p2 lb lp) (by rw [j_L_isShot_113, if_neg c_9, if_pos c_10]) ?_
            exact jn_76 _ _ _ ⟨hP, hD, hS, lv_sub hl [0, 1, 2, 3, 4, 5, 6] rfl⟩
          · obtain ⟨tc_10_0, tc_10_1, tc_10_2, tc_10_3, tc_10_4, tc_10_5⟩ := tj_L_isShot_74 c_10
            obtain ⟨ttc_10_0_0, ttc_10_0_1⟩ := tj_L_isShot_19 tc_10_0
            have nttc_10_0_0 : ¬ 6 ≤ p1 := fun q => ttc_10_0_0 ((nI_leI (a := 6) (b := p1) (by omega) (by omega)).mpr q)
            have nttc_10_0_1 : ¬ 144 ≤ p2 := fun q => ttc_10_0_1 ((nI_leI (a := 144) (b := p2) (by omega) (by omega)).mpr q)
            refine lv_aload_n hx hb dL_isShot_91 rfl (lv_at hl 3 rfl) ?_
            refine lv_bipush (v := 14) hx hb dL_isShot_92 (by decide) ?_
            refine va_iald hx hb hK hP 9 0 rfl rfl (vp_in_nI (n := 14) (by decide) (by decide)) dL_isShot_94 ?_
            refine tp_eq (y := lb 14) rfl ?_
            refine lv_aload_n hx hb dL_isShot_95 rfl (lv_at hl 4 rfl) ?_
            refine lv_iload_n hx hb dL_isShot_96 rfl (lv_at hl 5 rfl) ?_
            refine va_iald hx hb hK hP 10 0 rfl rfl (vp_in_nI (n := p1) (by omega) (by decide)) dL_isShot_97 ?_
            refine tp_eq (y := lp p1) (by rw [nI_clamp (n := p1) (by omega)]) ?_
            have hcl_98 := in_cl (lp_nn (hlp p1 (by omega)) tc_10_2)
            refine tp_eq (y := nI ((lp p1).toNatClampNeg)) (nI_cl (lp_nn (hlp p1 (by omega)) tc_10_2)) ?_
            refine lv_iload hx hb dL_isShot_98 (lv_at hl 6 rfl) ?_
            have hPc := hP.sub (ws' := []) [] rfl
            refine va_calli (va_runS (As := [.int (nI ((lp p1).toNatClampNeg)), .int (nI p2)]) (rest := [.int (lb 14)]) ⟨hx, hb, hml, hown, hts⟩ (c_L_apart l D cI cZ cJ cA H.size ((lp p1).toNatClampNeg) p2 (by first | assumption | omega) (by first | assumption | omega)) (va_cwS 2 hts gL_isShot_L_apart rfl rfl rfl (by decide +kernel) ⟨Nat.le_of_ble_eq_true rfl, Nat.le_of_ble_eq_true rfl⟩) ⟨pcR_bl, fun U hU hW => ⟨rfl, by rw [hU], by rw [hU]; exact hPc, va_K.moved hW.alike hK⟩⟩ rfl rfl hl.1 rfl (lv_room (Nat.le_of_ble_eq_true rfl)) dL_isShot_100 ⟨Nat.le_of_ble_eq_true rfl, Nat.le_of_ble_eq_true rfl⟩) hS (fun _ h1 h2 => absurd h1 (Nat.not_lt.mpr h2)) (rd_free hS hA) (fun r_11 u t H locs ht hvm hw hB hz1 hk1 hS => ?_)
            try dsimp only at hw
            have hr_11 := hw
            have hP := rd_P hP hk1
            obtain rfl := hr_11.symm
            refine W.widen (k := 0) (n := 0) (Nat.le_refl _) (Nat.le_refl _) ?_
            have hap_11 : apN ((lp p1).toNatClampNeg) p2 < 12 := apN_lt (by omega) (by omega)
            refine lv_iconst (v := 3) hx hb dL_isShot_103 (by decide) ?_
            refine lv_iadd hx hb dL_isShot_104 ?_
            refine tp_eq (y := nI ((apN ((lp p1).toNatClampNeg) p2) + 3)) (nI_add (apN ((lp p1).toNatClampNeg) p2) 3) ?_
            refine lv_iconst (v := 4) hx hb dL_isShot_105 (by decide) ?_
            refine lv_idiv hx hb dL_isShot_106 (by decide) ?_
            refine tp_eq (y := nI (((apN ((lp p1).toNatClampNeg) p2) + 3) / 4)) (pk_div (a := ((apN ((lp p1).toNatClampNeg) p2) + 3)) (d := 4) (by omega) (by omega) (by omega)) ?_
            refine lv_iadd hx hb dL_isShot_107 ?_
            refine lv_goto (tgt := 113) hx hb dL_isShot_108 (by decide) ?_
            refine W.widen (k := 0) (n := 0) (Nat.le_of_ble_eq_true rfl) (Nat.le_of_ble_eq_true rfl) ?_
            refine tp_eq (y := j_L_isShot_113 p1 p2 lb lp) (by rw [j_L_isShot_113, if_neg c_9, if_neg c_10]) ?_
            exact jn_76 _ _ _ ⟨hP, hD, hS, lv_sub hl [0, 1, 2, 3, 4, 5, 6] rfl⟩
        · refine lv_bipush (v := (-30)) hx hb dL_isShot_81 (by decide) ?_
          refine lv_goto (tgt := 113) hx hb dL_isShot_83 (by decide) ?_
          refine W.widen (k := 0) (n := 0) (Nat.le_of_ble_eq_true rfl) (Nat.le_of_ble_eq_true rfl) ?_
          refine tp_eq (y := j_L_isShot_113 p1 p2 lb lp) (by rw [j_L_isShot_113, if_pos c_9]) ?_
          exact jn_76 _ _ _ ⟨hP, hD, hS, lv_sub hl [0, 1, 2, 3, 4, 5, 6] rfl⟩
      · intro H locs ls hI
        obtain ⟨hP, hD, hS, hl⟩ := hI
        have hl : lv_has ls 9 [(6, .int (j_L_isShot_74 p1 p2 lb lp)), (5, .int (j_L_isShot_19 p1 p2)), (0, .ref (a 0)), (1, .ref (q 0)), (2, .ref (q 1)), (3, .int (nI p1)), (4, .int (nI p2))] := hl
        have hP : va_P D vwCl [((a 0), .inr (5, [.ref (a 2), .ref (a 4), .ref (a 18), .ref (a 1)])), ((a 4), .inr (2, [.int hm, .int aw, .int tk, .ref (a 5), .ref (a 6), .ref (a 7), .ref (a 8), .ref (a 13)])), ((a 5), .inl (cI, 6, .inl ce)), ((a 7), .inl (cI, 6, .inl la)), ((a 8), .inr (3, [.int (nI sn), .ref (a 9), .ref (a 10), .ref (a 11), .ref (a 12)])), ((a 9), .inl (cI, 100, .inl sa)), ((a 10), .inl (cI, 100, .inl sb)), ((a 11), .inl (cI, 100, .inl sc)), ((a 12), .inl (cI, 100, .inl sd)), ((q 0), .inl (cI, 19, .inl lb)), ((q 1), .inl (cI, 18, .inl lp))] H := hP
        have hD : va_D A [((a 0), .inr (5, [.ref (a 2), .ref (a 4), .ref (a 18), .ref (a 1)])), ((a 4), .inr (2, [.int hm, .int aw, .int tk, .ref (a 5), .ref (a 6), .ref (a 7), .ref (a 8), .ref (a 13)])), ((a 5), .inl (cI, 6, .inl ce)), ((a 7), .inl (cI, 6, .inl la)), ((a 8), .inr (3, [.int (nI sn), .ref (a 9), .ref (a 10), .ref (a 11), .ref (a 12)])), ((a 9), .inl (cI, 100, .inl sa)), ((a 10), .inl (cI, 100, .inl sb)), ((a 11), .inl (cI, 100, .inl sc)), ((a 12), .inl (cI, 100, .inl sd)), ((q 0), .inl (cI, 19, .inl lb)), ((q 1), .inl (cI, 18, .inl lp))] := hD
        refine lv_istore (lv' := [(7, .int (j_L_isShot_113 p1 p2 lb lp)), (6, .int (j_L_isShot_74 p1 p2 lb lp)), (5, .int (j_L_isShot_19 p1 p2)), (0, .ref (a 0)), (1, .ref (q 0)), (2, .ref (q 1)), (3, .int (nI p1)), (4, .int (nI p2))]) hx hb dL_isShot_113 hl (by decide) rfl (fun ls hl => ?_)
        refine lv_aload_n hx hb dL_isShot_115 rfl (lv_at hl 3 rfl) ?_
        have hPc := hP.sub (ws' := [((a 0), .inr (5, [.ref (a 2), .ref (a 4), .ref (a 18), .ref (a 1)])), ((a 4), .inr (2, [.int hm, .int aw, .int tk, .ref (a 5), .ref (a 6), .ref (a 7), .ref (a 8), .ref (a 13)])), ((a 8), .inr (3, [.int (nI sn), .ref (a 9), .ref (a 10), .ref (a 11), .ref (a 12)])), ((a 12), .inl (cI, 100, .inl sd))]) [0, 1, 4, 8] rfl
        refine va_calli (va_runV (As := []) (rest := []) ⟨hx, hb, hml, hown, hts⟩ (c_X5_flying l D cI cZ cJ cA H.size a hm aw tk sn sd hsn) (cwV 0 hts gL_isShot_X5_flying rfl rfl rfl (by decide +kernel) ⟨Nat.le_of_ble_eq_true rfl, Nat.le_of_ble_eq_true rfl⟩) ⟨pcR_bl, va_recv hK hPc (ci := 5) (q0 := 0) rfl rfl, fun U hU hW => ⟨rfl, by rw [hU], by rw [hU]; exact hPc, va_K.moved hW.alike hK⟩⟩ rfl rfl hl.1 rfl (lv_room (Nat.le_of_ble_eq_true rfl)) dL_isShot_116 ⟨Nat.le_of_ble_eq_true rfl, Nat.le_of_ble_eq_true rfl⟩) hS (fun _ h1 h2 => absurd h1 (Nat.not_lt.mpr h2)) (rd_free hS hA) (fun r_12 u t H locs ht hvm hw hB hz1 hk1 hS => ?_)
        try dsimp only at hw
        have hr_12 := hw
        have hP := rd_P hP hk1
        obtain rfl := hr_12.symm
        refine W.widen (k := 0) (n := 0) (Nat.le_refl _) (Nat.le_refl _) ?_
        refine lv_istore (lv' := [(8, .int (flyN tk sd sn)), (7, .int (j_L_isShot_113 p1 p2 lb lp)), (6, .int (j_L_isShot_74 p1 p2 lb lp)), (5, .int (j_L_isShot_19 p1 p2)), (0, .ref (a 0)), (1, .ref (q 0)), (2, .ref (q 1)), (3, .int (nI p1)), (4, .int (nI p2))]) hx hb dL_isShot_119 hl (by decide) rfl (fun ls hl => ?_)
        refine lv_iload hx hb dL_isShot_121 (lv_at hl 2 rfl) ?_
        refine lv_if_eq (tgt := 144) hx hb dL_isShot_123 (by decide) (fun c_13 => ?_) (fun c_13 => ?_)
        · refine lv_aload_n hx hb dL_isShot_144 rfl (lv_at hl 4 rfl) ?_
          refine lv_iconst (v := 4) hx hb dL_isShot_145 (by decide) ?_
          refine lv_iload_n hx hb dL_isShot_146 rfl (lv_at hl 7 rfl) ?_
          refine lv_iload hx hb dL_isShot_147 (lv_at hl 8 rfl) ?_
          have hPc := hP.sub (ws' := [((a 0), .inr (5, [.ref (a 2), .ref (a 4), .ref (a 18), .ref (a 1)])), ((a 4), .inr (2, [.int hm, .int aw, .int tk, .ref (a 5), .ref (a 6), .ref (a 7), .ref (a 8), .ref (a 13)])), ((a 5), .inl (cI, 6, .inl ce)), ((a 7), .inl (cI, 6, .inl la)), ((a 8), .inr (3, [.int (nI sn), .ref (a 9), .ref (a 10), .ref (a 11), .ref (a 12)])), ((a 9), .inl (cI, 100, .inl sa)), ((a 10), .inl (cI, 100, .inl sb)), ((a 11), .inl (cI, 100, .inl sc)), ((a 12), .inl (cI, 100, .inl sd))]) [0, 1, 2, 3, 4, 5, 6, 7, 8] rfl
          have hDc := hD.sub (ws' := [((a 0), .inr (5, [.ref (a 2), .ref (a 4), .ref (a 18), .ref (a 1)])), ((a 4), .inr (2, [.int hm, .int aw, .int tk, .ref (a 5), .ref (a 6), .ref (a 7), .ref (a 8), .ref (a 13)])), ((a 5), .inl (cI, 6, .inl ce)), ((a 7), .inl (cI, 6, .inl la)), ((a 8), .inr (3, [.int (nI sn), .ref (a 9), .ref (a 10), .ref (a 11), .ref (a 12)])), ((a 9), .inl (cI, 100, .inl sa)), ((a 10), .inl (cI, 100, .inl sb)), ((a 11), .inl (cI, 100, .inl sc)), ((a 12), .inl (cI, 100, .inl sd))]) [0, 1, 2, 3, 4, 5, 6, 7, 8] (by decide) rfl
          have hFc := va_free (wc := [((a 0), .inr (5, [.ref (a 2), .ref (a 4), .ref (a 18), .ref (a 1)])), ((a 4), .inr (2, [.int hm, .int aw, .int tk, .ref (a 5), .ref (a 6), .ref (a 7), .ref (a 8), .ref (a 13)])), ((a 5), .inl (cI, 6, .inl ce)), ((a 7), .inl (cI, 6, .inl la)), ((a 8), .inr (3, [.int (nI sn), .ref (a 9), .ref (a 10), .ref (a 11), .ref (a 12)])), ((a 9), .inl (cI, 100, .inl sa)), ((a 10), .inl (cI, 100, .inl sb)), ((a 11), .inl (cI, 100, .inl sc)), ((a 12), .inl (cI, 100, .inl sd))]) hD hS hA [0, 1, 2, 3, 4, 5, 6, 7, 8] rfl
          refine va_calli (vx_runSW (As := [.ref (a 0), .int 4, .int (nI p1), .int (nI p2)]) (rest := []) ⟨hx, hb, hml, hown, hts⟩ (c_D4 l hlt D cI cZ cJ cA sx H.size a hm aw tk ce la sn sa sb sc sd (nI p1) (nI p2) (by first | assumption | omega)) (vx_cwSW 4 hts gL_isShot_L_does rfl rfl rfl (by decide +kernel) ⟨Nat.le_of_ble_eq_true rfl, Nat.le_of_ble_eq_true rfl⟩) ⟨pcL_bl, fun U hU hW => ⟨rfl, ⟨⟨by rw [hU], by rw [hU]; exact hPc, va_K.moved hW.alike hK, hDc.weaken (fun _ _ _ _ => trivial)⟩, hE.call hS hFc hU hW⟩, hN.moved hW.alike⟩⟩ rfl rfl hl.1 rfl (lv_room (Nat.le_of_ble_eq_true rfl)) dL_isShot_149 ⟨Nat.le_of_ble_eq_true rfl, Nat.le_of_ble_eq_true rfl⟩) hS (fun q _ h => hFc q h) hFc (fun r_14 u t H locs ht hvm hw hB hz1 hk1 hS => ?_)
          try dsimp only at hw
          obtain ⟨u0_14, u1_14, u2_14, u3_14, u4_14, u5_14⟩ := u
          try dsimp only at hw
          obtain ⟨hr_14, hu0_14, hu1_14, hu2_14, hu3_14, hu4_14, hu5_14⟩ := hw
          obtain ⟨hP1, hK1, hD1⟩ := hB
          rw [ht] at hP1
          obtain ⟨hP, hD⟩ := va_join (wr := [((q 0), .inl (cI, 19, .inl lb)), ((q 1), .inl (cI, 18, .inl lp))]) (w1 := [((a 0), .inr (5, [.ref (a 2), .ref (a 4), .ref (a 18), .ref (a 1)])), ((a 4), .inr (2, [.int hm, .int aw, .int tk, .ref (a 5), .ref (a 6), .ref (a 7), .ref (a 8), .ref (a 13)])), ((a 5), .inl (cI, 6, .inl ce)), ((a 7), .inl (cI, 6, .inl u0_14)), ((a 8), .inr (3, [.int (nI u1_14), .ref (a 9), .ref (a 10), .ref (a 11), .ref (a 12)])), ((a 9), .inl (cI, 100, .inl u2_14)), ((a 10), .inl (cI, 100, .inl u3_14)), ((a 11), .inl (cI, 100, .inl u4_14)), ((a 12), .inl (cI, 100, .inl u5_14))]) hP hD [0, 1, 2, 3, 4, 5, 6, 7, 8] [9, 10] rfl rfl (by decide) (by decide) hk1 hFc hP1 hD1
          obtain rfl := hu0_14.symm
          obtain rfl := hu1_14.symm
          obtain rfl := hu2_14.symm
          obtain rfl := hu3_14.symm
          obtain rfl := hu4_14.symm
          obtain rfl := hu5_14.symm
          have hP : va_P D vwCl [((q 0), .inl (cI, 19, .inl lb)), ((q 1), .inl (cI, 18, .inl lp)), ((a 0), .inr (5, [.ref (a 2), .ref (a 4), .ref (a 18), .ref (a 1)])), ((a 4), .inr (2, [.int hm, .int aw, .int tk, .ref (a 5), .ref (a 6), .ref (a 7), .ref (a 8), .ref (a 13)])), ((a 5), .inl (cI, 6, .inl ce)), ((a 7), .inl (cI, 6, .inl (g_la_D4 hm aw tk ce la sn sa sb sc sd (nI p1) (nI p2)))), ((a 8), .inr (3, [.int (nI (g_sn_D4 hm aw tk ce la sn sa sb sc sd (nI p1) (nI p2))), .ref (a 9), .ref (a 10), .ref (a 11), .ref (a 12)])), ((a 9), .inl (cI, 100, .inl (g_sa_D4 hm aw tk ce la sn sa sb sc sd (nI p1) (nI p2)))), ((a 10), .inl (cI, 100, .inl (g_sb_D4 hm aw tk ce la sn sa sb sc sd (nI p1) (nI p2)))), ((a 11), .inl (cI, 100, .inl (g_sc_D4 hm aw tk ce la sn sa sb sc sd (nI p1) (nI p2)))), ((a 12), .inl (cI, 100, .inl (g_sd_D4 hm aw tk ce la sn sa sb sc sd (nI p1) (nI p2))))] H := hP
          have hD : va_D A [((q 0), .inl (cI, 19, .inl lb)), ((q 1), .inl (cI, 18, .inl lp)), ((a 0), .inr (5, [.ref (a 2), .ref (a 4), .ref (a 18), .ref (a 1)])), ((a 4), .inr (2, [.int hm, .int aw, .int tk, .ref (a 5), .ref (a 6), .ref (a 7), .ref (a 8), .ref (a 13)])), ((a 5), .inl (cI, 6, .inl ce)), ((a 7), .inl (cI, 6, .inl (g_la_D4 hm aw tk ce la sn sa sb sc sd (nI p1) (nI p2)))), ((a 8), .inr (3, [.int (nI (g_sn_D4 hm aw tk ce la sn sa sb sc sd (nI p1) (nI p2))), .ref (a 9), .ref (a 10), .ref (a 11), .ref (a 12)])), ((a 9), .inl (cI, 100, .inl (g_sa_D4 hm aw tk ce la sn sa sb sc sd (nI p1) (nI p2)))), ((a 10), .inl (cI, 100, .inl (g_sb_D4 hm aw tk ce la sn sa sb sc sd (nI p1) (nI p2)))), ((a 11), .inl (cI, 100, .inl (g_sc_D4 hm aw tk ce la sn sa sb sc sd (nI p1) (nI p2)))), ((a 12), .inl (cI, 100, .inl (g_sd_D4 hm aw tk ce la sn sa sb sc sd (nI p1) (nI p2))))] := hD
          obtain rfl := hr_14.symm
          refine W.widen (k := 4) (n := 24) (Nat.le_refl _) (Nat.le_refl _) ?_
          refine lv_iload hx hb dL_isShot_152 (lv_at hl 1 rfl) ?_
          refine lv_icmp_ne (tgt := 181) hx hb dL_isShot_154 (by decide) (fun c_15 => ?_) (fun c_15 => ?_)
          · refine lv_iconst (v := 0) hx hb dL_isShot_181 (by decide) ?_
            have hP9 := hP.sub (ws' := [((a 0), .inr (5, [.ref (a 2), .ref (a 4), .ref (a 18), .ref (a 1)])), ((a 4), .inr (2, [.int hm, .int aw, .int tk, .ref (a 5), .ref (a 6), .ref (a 7), .ref (a 8), .ref (a 13)])), ((a 5), .inl (cI, 6, .inl ce)), ((a 7), .inl (cI, 6, .inl (g_la_D4 hm aw tk ce la sn sa sb sc sd (nI p1) (nI p2)))), ((a 8), .inr (3, [.int (nI (g_sn_D4 hm aw tk ce la sn sa sb sc sd (nI p1) (nI p2))), .ref (a 9), .ref (a 10), .ref (a 11), .ref (a 12)])), ((a 9), .inl (cI, 100, .inl (g_sa_D4 hm aw tk ce la sn sa sb sc sd (nI p1) (nI p2)))), ((a 10), .inl (cI, 100, .inl (g_sb_D4 hm aw tk ce la sn sa sb sc sd (nI p1) (nI p2)))), ((a 11), .inl (cI, 100, .inl (g_sc_D4 hm aw tk ce la sn sa sb sc sd (nI p1) (nI p2)))), ((a 12), .inl (cI, 100, .inl (g_sd_D4 hm aw tk ce la sn sa sb sc sd (nI p1) (nI p2)))), ((q 0), .inl (cI, 19, .inl lb)), ((q 1), .inl (cI, 18, .inl lp))]) [2, 3, 4, 5, 6, 7, 8, 9, 10, 0, 1] rfl
            have hD9 := hD.sub (ws' := [((a 0), .inr (5, [.ref (a 2), .ref (a 4), .ref (a 18), .ref (a 1)])), ((a 4), .inr (2, [.int hm, .int aw, .int tk, .ref (a 5), .ref (a 6), .ref (a 7), .ref (a 8), .ref (a 13)])), ((a 5), .inl (cI, 6, .inl ce)), ((a 7), .inl (cI, 6, .inl (g_la_D4 hm aw tk ce la sn sa sb sc sd (nI p1) (nI p2)))), ((a 8), .inr (3, [.int (nI (g_sn_D4 hm aw tk ce la sn sa sb sc sd (nI p1) (nI p2))), .ref (a 9), .ref (a 10), .ref (a 11), .ref (a 12)])), ((a 9), .inl (cI, 100, .inl (g_sa_D4 hm aw tk ce la sn sa sb sc sd (nI p1) (nI p2)))), ((a 10), .inl (cI, 100, .inl (g_sb_D4 hm aw tk ce la sn sa sb sc sd (nI p1) (nI p2)))), ((a 11), .inl (cI, 100, .inl (g_sc_D4 hm aw tk ce la sn sa sb sc sd (nI p1) (nI p2)))), ((a 12), .inl (cI, 100, .inl (g_sd_D4 hm aw tk ce la sn sa sb sc sd (nI p1) (nI p2)))), ((q 0), .inl (cI, 19, .inl lb)), ((q 1), .inl (cI, 18, .inl lp))]) [2, 3, 4, 5, 6, 7, 8, 9, 10, 0, 1] (by decide) rfl
            -- leaf 0
            refine W.widen (k := 4) (n := 24) (Nat.le_of_ble_eq_true rfl) (Nat.le_of_ble_eq_true rfl) ?_
            exact W.zret (v := 0) (ty := .boolean) hx hb hr rfl (fun t ht hW => ⟨⟨0, ((g_la_D4 hm aw tk ce la sn sa sb sc sd (nI p1) (nI p2)), (g_sn_D4 hm aw tk ce la sn sa sb sc sd (nI p1) (nI p2)), (g_sa_D4 hm aw tk ce la sn sa sb sc sd (nI p1) (nI p2)), (g_sb_D4 hm aw tk ce la sn sa sb sc sd (nI p1) (nI p2)), (g_sc_D4 hm aw tk ce la sn sa sb sc sd (nI p1) (nI p2)), (g_sd_D4 hm aw tk ce la sn sa sb sc sd (nI p1) (nI p2)), lb, lp), rfl, ⟨(by rw [f_L_isShot, if_pos c_13, if_neg c_15]), rfl, rfl, rfl, rfl, rfl, rfl, (by rw [g_lb_L_isShot, if_pos c_13]), (by rw [g_lp_L_isShot, if_pos c_13])⟩, by rw [ht]; exact hP9, va_K.moved hW.alike hK, hD9⟩, hS.F ht⟩) hS.2.2 dL_isShot_182
          · refine lv_aload_n hx hb dL_isShot_157 rfl (lv_at hl 4 rfl) ?_
            have hPc := hP.sub (ws' := [((a 0), .inr (5, [.ref (a 2), .ref (a 4), .ref (a 18), .ref (a 1)])), ((a 4), .inr (2, [.int hm, .int aw, .int tk, .ref (a 5), .ref (a 6), .ref (a 7), .ref (a 8), .ref (a 13)])), ((a 8), .inr (3, [.int (nI (g_sn_D4 hm aw tk ce la sn sa sb sc sd (nI p1) (nI p2))), .ref (a 9), .ref (a 10), .ref (a 11), .ref (a 12)])), ((a 12), .inl (cI, 100, .inl (g_sd_D4 hm aw tk ce la sn sa sb sc sd (nI p1) (nI p2))))]) [2, 3, 6, 10] rfl
            refine va_calli (va_runV (As := []) (rest := []) ⟨hx, hb, hml, hown, hts⟩ (c_X5_flying l D cI cZ cJ cA H.size a hm aw tk (g_sn_D4 hm aw tk ce la sn sa sb sc sd (nI p1) (nI p2)) (g_sd_D4 hm aw tk ce la sn sa sb sc sd (nI p1) (nI p2)) (d4_sn hsn)) (cwV 0 hts gL_isShot_X5_flying rfl rfl rfl (by decide +kernel) ⟨Nat.le_of_ble_eq_true rfl, Nat.le_of_ble_eq_true rfl⟩) ⟨pcR_bl, va_recv hK hPc (ci := 5) (q0 := 0) rfl rfl, fun U hU hW => ⟨rfl, by rw [hU], by rw [hU]; exact hPc, va_K.moved hW.alike hK⟩⟩ rfl rfl hl.1 rfl (lv_room (Nat.le_of_ble_eq_true rfl)) dL_isShot_158 ⟨Nat.le_of_ble_eq_true rfl, Nat.le_of_ble_eq_true rfl⟩) hS (fun _ h1 h2 => absurd h1 (Nat.not_lt.mpr h2)) (rd_free hS hA) (fun r_16 u t H locs ht hvm hw hB hz1 hk1 hS => ?_)
            try dsimp only at hw
            have hr_16 := hw
            have hP := rd_P hP hk1
            obtain rfl := hr_16.symm
            refine W.widen (k := 4) (n := 24) (Nat.le_refl _) (Nat.le_refl _) ?_
            refine lv_iload hx hb dL_isShot_161 (lv_at hl 0 rfl) ?_
            refine lv_iload hx hb dL_isShot_163 (lv_at hl 2 rfl) ?_
            refine lv_if_eq (tgt := 172) hx hb dL_isShot_165 (by decide) (fun _ => ?_) (fun c_17 => absurd c_13 c_17)
            refine lv_iconst (v := 0) hx hb dL_isShot_172 (by decide) ?_
            refine lv_iadd hx hb dL_isShot_173 ?_
            refine lv_icmp_ne (tgt := 181) hx hb dL_isShot_174 (by decide) (fun c_18 => ?_) (fun c_18 => ?_)
            · refine lv_iconst (v := 0) hx hb dL_isShot_181 (by decide) ?_
              have hP9 := hP.sub (ws' := [((a 0), .inr (5, [.ref (a 2), .ref (a 4), .ref (a 18), .ref (a 1)])), ((a 4), .inr (2, [.int hm, .int aw, .int tk, .ref (a 5), .ref (a 6), .ref (a 7), .ref (a 8), .ref (a 13)])), ((a 5), .inl (cI, 6, .inl ce)), ((a 7), .inl (cI, 6, .inl (g_la_D4 hm aw tk ce la sn sa sb sc sd (nI p1) (nI p2)))), ((a 8), .inr (3, [.int (nI (g_sn_D4 hm aw tk ce la sn sa sb sc sd (nI p1) (nI p2))), .ref (a 9), .ref (a 10), .ref (a 11), .ref (a 12)])), ((a 9), .inl (cI, 100, .inl (g_sa_D4 hm aw tk ce la sn sa sb sc sd (nI p1) (nI p2)))), ((a 10), .inl (cI, 100, .inl (g_sb_D4 hm aw tk ce la sn sa sb sc sd (nI p1) (nI p2)))), ((a 11), .inl (cI, 100, .inl (g_sc_D4 hm aw tk ce la sn sa sb sc sd (nI p1) (nI p2)))), ((a 12), .inl (cI, 100, .inl (g_sd_D4 hm aw tk ce la sn sa sb sc sd (nI p1) (nI p2)))), ((q 0), .inl (cI, 19, .inl lb)), ((q 1), .inl (cI, 18, .inl lp))]) [2, 3, 4, 5, 6, 7, 8, 9, 10, 0, 1] rfl
              have hD9 := hD.sub (ws' := [((a 0), .inr (5, [.ref (a 2), .ref (a 4), .ref (a 18), .ref (a 1)])), ((a 4), .inr (2, [.int hm, .int aw, .int tk, .ref (a 5), .ref (a 6), .ref (a 7), .ref (a 8), .ref (a 13)])), ((a 5), .inl (cI, 6, .inl ce)), ((a 7), .inl (cI, 6, .inl (g_la_D4 hm aw tk ce la sn sa sb sc sd (nI p1) (nI p2)))), ((a 8), .inr (3, [.int (nI (g_sn_D4 hm aw tk ce la sn sa sb sc sd (nI p1) (nI p2))), .ref (a 9), .ref (a 10), .ref (a 11), .ref (a 12)])), ((a 9), .inl (cI, 100, .inl (g_sa_D4 hm aw tk ce la sn sa sb sc sd (nI p1) (nI p2)))), ((a 10), .inl (cI, 100, .inl (g_sb_D4 hm aw tk ce la sn sa sb sc sd (nI p1) (nI p2)))), ((a 11), .inl (cI, 100, .inl (g_sc_D4 hm aw tk ce la sn sa sb sc sd (nI p1) (nI p2)))), ((a 12), .inl (cI, 100, .inl (g_sd_D4 hm aw tk ce la sn sa sb sc sd (nI p1) (nI p2)))), ((q 0), .inl (cI, 19, .inl lb)), ((q 1), .inl (cI, 18, .inl lp))]) [2, 3, 4, 5, 6, 7, 8, 9, 10, 0, 1] (by decide) rfl
              -- leaf 1
              refine W.widen (k := 4) (n := 24) (Nat.le_of_ble_eq_true rfl) (Nat.le_of_ble_eq_true rfl) ?_
              exact W.zret (v := 0) (ty := .boolean) hx hb hr rfl (fun t ht hW => ⟨⟨0, ((g_la_D4 hm aw tk ce la sn sa sb sc sd (nI p1) (nI p2)), (g_sn_D4 hm aw tk ce la sn sa sb sc sd (nI p1) (nI p2)), (g_sa_D4 hm aw tk ce la sn sa sb sc sd (nI p1) (nI p2)), (g_sb_D4 hm aw tk ce la sn sa sb sc sd (nI p1) (nI p2)), (g_sc_D4 hm aw tk ce la sn sa sb sc sd (nI p1) (nI p2)), (g_sd_D4 hm aw tk ce la sn sa sb sc sd (nI p1) (nI p2)), lb, lp), rfl, ⟨(by rw [f_L_isShot, if_pos c_13, if_pos c_15, if_neg c_18]), rfl, rfl, rfl, rfl, rfl, rfl, (by rw [g_lb_L_isShot, if_pos c_13]), (by rw [g_lp_L_isShot, if_pos c_13])⟩, by rw [ht]; exact hP9, va_K.moved hW.alike hK, hD9⟩, hS.F ht⟩) hS.2.2 dL_isShot_182
            · refine lv_iconst (v := 1) hx hb dL_isShot_177 (by decide) ?_
              refine lv_goto (tgt := 182) hx hb dL_isShot_178 (by decide) ?_
              have hP9 := hP.sub (ws' := [((a 0), .inr (5, [.ref (a 2), .ref (a 4), .ref (a 18), .ref (a 1)])), ((a 4), .inr (2, [.int hm, .int aw, .int tk, .ref (a 5), .ref (a 6), .ref (a 7), .ref (a 8), .ref (a 13)])), ((a 5), .inl (cI, 6, .inl ce)), ((a 7), .inl (cI, 6, .inl (g_la_D4 hm aw tk ce la sn sa sb sc sd (nI p1) (nI p2)))), ((a 8), .inr (3, [.int (nI (g_sn_D4 hm aw tk ce la sn sa sb sc sd (nI p1) (nI p2))), .ref (a 9), .ref (a 10), .ref (a 11), .ref (a 12)])), ((a 9), .inl (cI, 100, .inl (g_sa_D4 hm aw tk ce la sn sa sb sc sd (nI p1) (nI p2)))), ((a 10), .inl (cI, 100, .inl (g_sb_D4 hm aw tk ce la sn sa sb sc sd (nI p1) (nI p2)))), ((a 11), .inl (cI, 100, .inl (g_sc_D4 hm aw tk ce la sn sa sb sc sd (nI p1) (nI p2)))), ((a 12), .inl (cI, 100, .inl (g_sd_D4 hm aw tk ce la sn sa sb sc sd (nI p1) (nI p2)))), ((q 0), .inl (cI, 19, .inl lb)), ((q 1), .inl (cI, 18, .inl lp))]) [2, 3, 4, 5, 6, 7, 8, 9, 10, 0, 1] rfl
              have hD9 := hD.sub (ws' := [((a 0), .inr (5, [.ref (a 2), .ref (a 4), .ref (a 18), .ref (a 1)])), ((a 4), .inr (2, [.int hm, .int aw, .int tk, .ref (a 5), .ref (a 6), .ref (a 7), .ref (a 8), .ref (a 13)])), ((a 5), .inl (cI, 6, .inl ce)), ((a 7), .inl (cI, 6, .inl (g_la_D4 hm aw tk ce la sn sa sb sc sd (nI p1) (nI p2)))), ((a 8), .inr (3, [.int (nI (g_sn_D4 hm aw tk ce la sn sa sb sc sd (nI p1) (nI p2))), .ref (a 9), .ref (a 10), .ref (a 11), .ref (a 12)])), ((a 9), .inl (cI, 100, .inl (g_sa_D4 hm aw tk ce la sn sa sb sc sd (nI p1) (nI p2)))), ((a 10), .inl (cI, 100, .inl (g_sb_D4 hm aw tk ce la sn sa sb sc sd (nI p1) (nI p2)))), ((a 11), .inl (cI, 100, .inl (g_sc_D4 hm aw tk ce la sn sa sb sc sd (nI p1) (nI p2)))), ((a 12), .inl (cI, 100, .inl (g_sd_D4 hm aw tk ce la sn sa sb sc sd (nI p1) (nI p2)))), ((q 0), .inl (cI, 19, .inl lb)), ((q 1), .inl (cI, 18, .inl lp))]) [2, 3, 4, 5, 6, 7, 8, 9, 10, 0, 1] (by decide) rfl
              -- leaf 2
              refine W.widen (k := 4) (n := 24) (Nat.le_of_ble_eq_true rfl) (Nat.le_of_ble_eq_true rfl) ?_
              exact W.zret (v := 1) (ty := .boolean) hx hb hr rfl (fun t ht hW => ⟨⟨1, ((g_la_D4 hm aw tk ce la sn sa sb sc sd (nI p1) (nI p2)), (g_sn_D4 hm aw tk ce la sn sa sb sc sd (nI p1) (nI p2)), (g_sa_D4 hm aw tk ce la sn sa sb sc sd (nI p1) (nI p2)), (g_sb_D4 hm aw tk ce la sn sa sb sc sd (nI p1) (nI p2)), (g_sc_D4 hm aw tk ce la sn sa sb sc sd (nI p1) (nI p2)), (g_sd_D4 hm aw tk ce la sn sa sb sc sd (nI p1) (nI p2)), lb, lp), rfl, ⟨(by rw [f_L_isShot, if_pos c_13, if_pos c_15, if_pos c_18]), rfl, rfl, rfl, rfl, rfl, rfl, (by rw [g_lb_L_isShot, if_pos c_13]), (by rw [g_lp_L_isShot, if_pos c_13])⟩, by rw [ht]; exact hP9, va_K.moved hW.alike hK, hD9⟩, hS.F ht⟩) hS.2.2 dL_isShot_182
        · obtain ⟨tc_13_0, tc_13_1, tc_13_2, tc_13_3, tc_13_4, tc_13_5⟩ := tj_L_isShot_74 c_13
          obtain ⟨ttc_13_0_0, ttc_13_0_1⟩ := tj_L_isShot_19 tc_13_0
          have nttc_13_0_0 : ¬ 6 ≤ p1 := fun q => ttc_13_0_0 ((nI_leI (a := 6) (b := p1) (by omega) (by omega)).mpr q)
          have nttc_13_0_1 : ¬ 144 ≤ p2 := fun q => ttc_13_0_1 ((nI_leI (a := 144) (b := p2) (by omega) (by omega)).mpr q)
          refine lv_aload_n hx hb dL_isShot_126 rfl (lv_at hl 6 rfl) ?_
          refine lv_bipush (v := 12) hx hb dL_isShot_127 (by decide) ?_
          refine lv_iload_n hx hb dL_isShot_129 rfl (lv_at hl 7 rfl) ?_
          refine lv_iadd hx hb dL_isShot_130 ?_
          refine tp_eq (y := nI (12 + p1)) (nI_add 12 p1) ?_
          refine lv_aload_n hx hb dL_isShot_131 rfl (lv_at hl 5 rfl) ?_
          refine lv_bipush (v := 14) hx hb dL_isShot_132 (by decide) ?_
          refine va_iald hx hb hK hP 9 0 rfl rfl (vp_in_nI (n := 14) (by decide) (by decide)) dL_isShot_134 ?_
          refine tp_eq (y := lb 14) rfl ?_
          refine va_iast hx hb hK hP hD hS 10 0 rfl rfl (vp_in_nI (n := (12 + p1)) (by omega) (by decide)) dL_isShot_135 (fun H locs hP hD hS => ?_)
          rw [nI_clamp (n := (12 + p1)) (by omega)] at hP hD
          have hP : va_P D vwCl [((a 0), .inr (5, [.ref (a 2), .ref (a 4), .ref (a 18), .ref (a 1)])), ((a 4), .inr (2, [.int hm, .int aw, .int tk, .ref (a 5), .ref (a 6), .ref (a 7), .ref (a 8), .ref (a 13)])), ((a 5), .inl (cI, 6, .inl ce)), ((a 7), .inl (cI, 6, .inl la)), ((a 8), .inr (3, [.int (nI sn), .ref (a 9), .ref (a 10), .ref (a 11), .ref (a 12)])), ((a 9), .inl (cI, 100, .inl sa)), ((a 10), .inl (cI, 100, .inl sb)), ((a 11), .inl (cI, 100, .inl sc)), ((a 12), .inl (cI, 100, .inl sd)), ((q 0), .inl (cI, 19, .inl lb)), ((q 1), .inl (cI, 18, .inl (upd lp (12 + p1) (lb 14))))] H := hP
          have hD : va_D A [((a 0), .inr (5, [.ref (a 2), .ref (a 4), .ref (a 18), .ref (a 1)])), ((a 4), .inr (2, [.int hm, .int aw, .int tk, .ref (a 5), .ref (a 6), .ref (a 7), .ref (a 8), .ref (a 13)])), ((a 5), .inl (cI, 6, .inl ce)), ((a 7), .inl (cI, 6, .inl la)), ((a 8), .inr (3, [.int (nI sn), .ref (a 9), .ref (a 10), .ref (a 11), .ref (a 12)])), ((a 9), .inl (cI, 100, .inl sa)), ((a 10), .inl (cI, 100, .inl sb)), ((a 11), .inl (cI, 100, .inl sc)), ((a 12), .inl (cI, 100, .inl sd)), ((q 0), .inl (cI, 19, .inl lb)), ((q 1), .inl (cI, 18, .inl (upd lp (12 + p1) (lb 14))))] := hD
          refine lv_aload_n hx hb dL_isShot_136 rfl (lv_at hl 5 rfl) ?_
          refine lv_bipush (v := 15) hx hb dL_isShot_137 (by decide) ?_
          refine lv_dup2_11 hx hb dL_isShot_139 rfl rfl ?_
          refine va_iald hx hb hK hP 9 0 rfl rfl (vp_in_nI (n := 15) (by decide) (by decide)) dL_isShot_140 ?_
          refine tp_eq (y := lb 15) rfl ?_
          refine lv_iconst (v := 1) hx hb dL_isShot_141 (by decide) ?_
          refine lv_iadd hx hb dL_isShot_142 ?_
          refine va_iast hx hb hK hP hD hS 9 0 rfl rfl (vp_in_nI (n := 15) (by decide) (by decide)) dL_isShot_143 (fun H locs hP hD hS => ?_)
          have hP : va_P D vwCl [((a 0), .inr (5, [.ref (a 2), .ref (a 4), .ref (a 18), .ref (a 1)])), ((a 4), .inr (2, [.int hm, .int aw, .int tk, .ref (a 5), .ref (a 6), .ref (a 7), .ref (a 8), .ref (a 13)])), ((a 5), .inl (cI, 6, .inl ce)), ((a 7), .inl (cI, 6, .inl la)), ((a 8), .inr (3, [.int (nI sn), .ref (a 9), .ref (a 10), .ref (a 11), .ref (a 12)])), ((a 9), .inl (cI, 100, .inl sa)), ((a 10), .inl (cI, 100, .inl sb)), ((a 11), .inl (cI, 100, .inl sc)), ((a 12), .inl (cI, 100, .inl sd)), ((q 0), .inl (cI, 19, .inl (upd lb 15 ((lb 15) + 1)))), ((q 1), .inl (cI, 18, .inl (upd lp (12 + p1) (lb 14))))] H := hP
          have hD : va_D A [((a 0), .inr (5, [.ref (a 2), .ref (a 4), .ref (a 18), .ref (a 1)])), ((a 4), .inr (2, [.int hm, .int aw, .int tk, .ref (a 5), .ref (a 6), .ref (a 7), .ref (a 8), .ref (a 13)])), ((a 5), .inl (cI, 6, .inl ce)), ((a 7), .inl (cI, 6, .inl la)), ((a 8), .inr (3, [.int (nI sn), .ref (a 9), .ref (a 10), .ref (a 11), .ref (a 12)])), ((a 9), .inl (cI, 100, .inl sa)), ((a 10), .inl (cI, 100, .inl sb)), ((a 11), .inl (cI, 100, .inl sc)), ((a 12), .inl (cI, 100, .inl sd)), ((q 0), .inl (cI, 19, .inl (upd lb 15 ((lb 15) + 1)))), ((q 1), .inl (cI, 18, .inl (upd lp (12 + p1) (lb 14))))] := hD
          refine lv_aload_n hx hb dL_isShot_144 rfl (lv_at hl 4 rfl) ?_
          refine lv_iconst (v := 4) hx hb dL_isShot_145 (by decide) ?_
          refine lv_iload_n hx hb dL_isShot_146 rfl (lv_at hl 7 rfl) ?_
          refine lv_iload hx hb dL_isShot_147 (lv_at hl 8 rfl) ?_
          have hPc := hP.sub (ws' := [((a 0), .inr (5, [.ref (a 2), .ref (a 4), .ref (a 18), .ref (a 1)])), ((a 4), .inr (2, [.int hm, .int aw, .int tk, .ref (a 5), .ref (a 6), .ref (a 7), .ref (a 8), .ref (a 13)])), ((a 5), .inl (cI, 6, .inl ce)), ((a 7), .inl (cI, 6, .inl la)), ((a 8), .inr (3, [.int (nI sn), .ref (a 9), .ref (a 10), .ref (a 11), .ref (a 12)])), ((a 9), .inl (cI, 100, .inl sa)), ((a 10), .inl (cI, 100, .inl sb)), ((a 11), .inl (cI, 100, .inl sc)), ((a 12), .inl (cI, 100, .inl sd))]) [0, 1, 2, 3, 4, 5, 6, 7, 8] rfl
          have hDc := hD.sub (ws' := [((a 0), .inr (5, [.ref (a 2), .ref (a 4), .ref (a 18), .ref (a 1)])), ((a 4), .inr (2, [.int hm, .int aw, .int tk, .ref (a 5), .ref (a 6), .ref (a 7), .ref (a 8), .ref (a 13)])), ((a 5), .inl (cI, 6, .inl ce)), ((a 7), .inl (cI, 6, .inl la)), ((a 8), .inr (3, [.int (nI sn), .ref (a 9), .ref (a 10), .ref (a 11), .ref (a 12)])), ((a 9), .inl (cI, 100, .inl sa)), ((a 10), .inl (cI, 100, .inl sb)), ((a 11), .inl (cI, 100, .inl sc)), ((a 12), .inl (cI, 100, .inl sd))]) [0, 1, 2, 3, 4, 5, 6, 7, 8] (by decide) rfl
          have hFc := va_free (wc := [((a 0), .inr (5, [.ref (a 2), .ref (a 4), .ref (a 18), .ref (a 1)])), ((a 4), .inr (2, [.int hm, .int aw, .int tk, .ref (a 5), .ref (a 6), .ref (a 7), .ref (a 8), .ref (a 13)])), ((a 5), .inl (cI, 6, .inl ce)), ((a 7), .inl (cI, 6, .inl la)), ((a 8), .inr (3, [.int (nI sn), .ref (a 9), .ref (a 10), .ref (a 11), .ref (a 12)])), ((a 9), .inl (cI, 100, .inl sa)), ((a 10), .inl (cI, 100, .inl sb)), ((a 11), .inl (cI, 100, .inl sc)), ((a 12), .inl (cI, 100, .inl sd))]) hD hS hA [0, 1, 2, 3, 4, 5, 6, 7, 8] rfl
          refine va_calli (vx_runSW (As := [.ref (a 0), .int 4, .int (nI p1), .int (nI p2)]) (rest := []) ⟨hx, hb, hml, hown, hts⟩ (c_D4 l hlt D cI cZ cJ cA sx H.size a hm aw tk ce la sn sa sb sc sd (nI p1) (nI p2) (by first | assumption | omega)) (vx_cwSW 4 hts gL_isShot_L_does rfl rfl rfl (by decide +kernel) ⟨Nat.le_of_ble_eq_true rfl, Nat.le_of_ble_eq_true rfl⟩) ⟨pcL_bl, fun U hU hW => ⟨rfl, ⟨⟨by rw [hU], by rw [hU]; exact hPc, va_K.moved hW.alike hK, hDc.weaken (fun _ _ _ _ => trivial)⟩, hE.call hS hFc hU hW⟩, hN.moved hW.alike⟩⟩ rfl rfl hl.1 rfl (lv_room (Nat.le_of_ble_eq_true rfl)) dL_isShot_149 ⟨Nat.le_of_ble_eq_true rfl, Nat.le_of_ble_eq_true rfl⟩) hS (fun q _ h => hFc q h) hFc (fun r_19 u t H locs ht hvm hw hB hz1 hk1 hS => ?_)
          try dsimp only at hw
          obtain ⟨u0_19, u1_19, u2_19, u3_19, u4_19, u5_19⟩ := u
          try dsimp only at hw
          obtain ⟨hr_19, hu0_19, hu1_19, hu2_19, hu3_19, hu4_19, hu5_19⟩ := hw
          obtain ⟨hP1, hK1, hD1⟩ := hB
          rw [ht] at hP1
          obtain ⟨hP, hD⟩ := va_join (wr := [((q 0), .inl (cI, 19, .inl (upd lb 15 ((lb 15) + 1)))), ((q 1), .inl (cI, 18, .inl (upd lp (12 + p1) (lb 14))))]) (w1 := [((a 0), .inr (5, [.ref (a 2), .ref (a 4), .ref (a 18), .ref (a 1)])), ((a 4), .inr (2, [.int hm, .int aw, .int tk, .ref (a 5), .ref (a 6), .ref (a 7), .ref (a 8), .ref (a 13)])), ((a 5), .inl (cI, 6, .inl ce)), ((a 7), .inl (cI, 6, .inl u0_19)), ((a 8), .inr (3, [.int (nI u1_19), .ref (a 9), .ref (a 10), .ref (a 11), .ref (a 12)])), ((a 9), .inl (cI, 100, .inl u2_19)), ((a 10), .inl (cI, 100, .inl u3_19)), ((a 11), .inl (cI, 100, .inl u4_19)), ((a 12), .inl (cI, 100, .inl u5_19))]) hP hD [0, 1, 2, 3, 4, 5, 6, 7, 8] [9, 10] rfl rfl (by decide) (by decide) hk1 hFc hP1 hD1
          obtain rfl := hu0_19.symm
          obtain rfl := hu1_19.symm
          obtain rfl := hu2_19.symm
          obtain rfl := hu3_19.symm
          obtain rfl := hu4_19.symm
          obtain rfl := hu5_19.symm
          have hP : va_P D vwCl [((q 0), .inl (cI, 19, .inl (upd lb 15 ((lb 15) + 1)))), ((q 1), .inl (cI, 18, .inl (upd lp (12 + p1) (lb 14)))), ((a 0), .inr (5, [.ref (a 2), .ref (a 4), .ref (a 18), .ref (a 1)])), ((a 4), .inr (2, [.int hm, .int aw, .int tk, .ref (a 5), .ref (a 6), .ref (a 7), .ref (a 8), .ref (a 13)])), ((a 5), .inl (cI, 6, .inl ce)), ((a 7), .inl (cI, 6, .inl (g_la_D4 hm aw tk ce la sn sa sb sc sd (nI p1) (nI p2)))), ((a 8), .inr (3, [.int (nI (g_sn_D4 hm aw tk ce la sn sa sb sc sd (nI p1) (nI p2))), .ref (a 9), .ref (a 10), .ref (a 11), .ref (a 12)])), ((a 9), .inl (cI, 100, .inl (g_sa_D4 hm aw tk ce la sn sa sb sc sd (nI p1) (nI p2)))), ((a 10), .inl (cI, 100, .inl (g_sb_D4 hm aw tk ce la sn sa sb sc sd (nI p1) (nI p2)))), ((a 11), .inl (cI, 100, .inl (g_sc_D4 hm aw tk ce la sn sa sb sc sd (nI p1) (nI p2)))), ((a 12), .inl (cI, 100, .inl (g_sd_D4 hm aw tk ce la sn sa sb sc sd (nI p1) (nI p2))))] H := hP
          have hD : va_D A [((q 0), .inl (cI, 19, .inl (upd lb 15 ((lb 15) + 1)))), ((q 1), .inl (cI, 18, .inl (upd lp (12 + p1) (lb 14)))), ((a 0), .inr (5, [.ref (a 2), .ref (a 4), .ref (a 18), .ref (a 1)])), ((a 4), .inr (2, [.int hm, .int aw, .int tk, .ref (a 5), .ref (a 6), .ref (a 7), .ref (a 8), .ref (a 13)])), ((a 5), .inl (cI, 6, .inl ce)), ((a 7), .inl (cI, 6, .inl (g_la_D4 hm aw tk ce la sn sa sb sc sd (nI p1) (nI p2)))), ((a 8), .inr (3, [.int (nI (g_sn_D4 hm aw tk ce la sn sa sb sc sd (nI p1) (nI p2))), .ref (a 9), .ref (a 10), .ref (a 11), .ref (a 12)])), ((a 9), .inl (cI, 100, .inl (g_sa_D4 hm aw tk ce la sn sa sb sc sd (nI p1) (nI p2)))), ((a 10), .inl (cI, 100, .inl (g_sb_D4 hm aw tk ce la sn sa sb sc sd (nI p1) (nI p2)))), ((a 11), .inl (cI, 100, .inl (g_sc_D4 hm aw tk ce la sn sa sb sc sd (nI p1) (nI p2)))), ((a 12), .inl (cI, 100, .inl (g_sd_D4 hm aw tk ce la sn sa sb sc sd (nI p1) (nI p2))))] := hD
          obtain rfl := hr_19.symm
          refine W.widen (k := 4) (n := 24) (Nat.le_refl _) (Nat.le_refl _) ?_
          refine lv_iload hx hb dL_isShot_152 (lv_at hl 1 rfl) ?_
          refine lv_icmp_ne (tgt := 181) hx hb dL_isShot_154 (by decide) (fun c_20 => ?_) (fun c_20 => ?_)
          · refine lv_iconst (v := 0) hx hb dL_isShot_181 (by decide) ?_
            have hP9 := hP.sub (ws' := [((a 0), .inr (5, [.ref (a 2), .ref (a 4), .ref (a 18), .ref (a 1)])), ((a 4), .inr (2, [.int hm, .int aw, .int tk, .ref (a 5), .ref (a 6), .ref (a 7), .ref (a 8), .ref (a 13)])), ((a 5), .inl (cI, 6, .inl ce)), ((a 7), .inl (cI, 6, .inl (g_la_D4 hm aw tk ce la sn sa sb sc sd (nI p1) (nI p2)))), ((a 8), .inr (3, [.int (nI (g_sn_D4 hm aw tk ce la sn sa sb sc sd (nI p1) (nI p2))), .ref (a 9), .ref (a 10), .ref (a 11), .ref (a 12)])), ((a 9), .inl (cI, 100, .inl (g_sa_D4 hm aw tk ce la sn sa sb sc sd (nI p1) (nI p2)))), ((a 10), .inl (cI, 100, .inl (g_sb_D4 hm aw tk ce la sn sa sb sc sd (nI p1) (nI p2)))), ((a 11), .inl (cI, 100, .inl (g_sc_D4 hm aw tk ce la sn sa sb sc sd (nI p1) (nI p2)))), ((a 12), .inl (cI, 100, .inl (g_sd_D4 hm aw tk ce la sn sa sb sc sd (nI p1) (nI p2)))), ((q 0), .inl (cI, 19, .inl (upd lb 15 ((lb 15) + 1)))), ((q 1), .inl (cI, 18, .inl (upd lp (12 + p1) (lb 14))))]) [2, 3, 4, 5, 6, 7, 8, 9, 10, 0, 1] rfl
            have hD9 := hD.sub (ws' := [((a 0), .inr (5, [.ref (a 2), .ref (a 4), .ref (a 18), .ref (a 1)])), ((a 4), .inr (2, [.int hm, .int aw, .int tk, .ref (a 5), .ref (a 6), .ref (a 7), .ref (a 8), .ref (a 13)])), ((a 5), .inl (cI, 6, .inl ce)), ((a 7), .inl (cI, 6, .inl (g_la_D4 hm aw tk ce la sn sa sb sc sd (nI p1) (nI p2)))), ((a 8), .inr (3, [.int (nI (g_sn_D4 hm aw tk ce la sn sa sb sc sd (nI p1) (nI p2))), .ref (a 9), .ref (a 10), .ref (a 11), .ref (a 12)])), ((a 9), .inl (cI, 100, .inl (g_sa_D4 hm aw tk ce la sn sa sb sc sd (nI p1) (nI p2)))), ((a 10), .inl (cI, 100, .inl (g_sb_D4 hm aw tk ce la sn sa sb sc sd (nI p1) (nI p2)))), ((a 11), .inl (cI, 100, .inl (g_sc_D4 hm aw tk ce la sn sa sb sc sd (nI p1) (nI p2)))), ((a 12), .inl (cI, 100, .inl (g_sd_D4 hm aw tk ce la sn sa sb sc sd (nI p1) (nI p2)))), ((q 0), .inl (cI, 19, .inl (upd lb 15 ((lb 15) + 1)))), ((q 1), .inl (cI, 18, .inl (upd lp (12 + p1) (lb 14))))]) [2, 3, 4, 5, 6, 7, 8, 9, 10, 0, 1] (by decide) rfl
            -- leaf 3
            refine W.widen (k := 4) (n := 24) (Nat.le_of_ble_eq_true rfl) (Nat.le_of_ble_eq_true rfl) ?_
            exact W.zret (v := 0) (ty := .boolean) hx hb hr rfl (fun t ht hW => ⟨⟨0, ((g_la_D4 hm aw tk ce la sn sa sb sc sd (nI p1) (nI p2)), (g_sn_D4 hm aw tk ce la sn sa sb sc sd (nI p1) (nI p2)), (g_sa_D4 hm aw tk ce la sn sa sb sc sd (nI p1) (nI p2)), (g_sb_D4 hm aw tk ce la sn sa sb sc sd (nI p1) (nI p2)), (g_sc_D4 hm aw tk ce la sn sa sb sc sd (nI p1) (nI p2)), (g_sd_D4 hm aw tk ce la sn sa sb sc sd (nI p1) (nI p2)), upd lb 15 ((lb 15) + 1), upd lp (12 + p1) (lb 14)), rfl, ⟨(by rw [f_L_isShot, if_neg c_13, if_neg c_20]), rfl, rfl, rfl, rfl, rfl, rfl, (by rw [g_lb_L_isShot, if_neg c_13]), (by rw [g_lp_L_isShot, if_neg c_13])⟩, by rw [ht]; exact hP9, va_K.moved hW.alike hK, hD9⟩, hS.F ht⟩) hS.2.2 dL_isShot_182
          · refine lv_aload_n hx hb dL_isShot_157 rfl (lv_at hl 4 rfl) ?_
            have hPc := hP.sub (ws' := [((a 0), .inr (5, [.ref (a 2), .ref (a 4), .ref (a 18), .ref (a 1)])), ((a 4), .inr (2, [.int hm, .int aw, .int tk, .ref (a 5), .ref (a 6), .ref (a 7), .ref (a 8), .ref (a 13)])), ((a 8), .inr (3, [.int (nI (g_sn_D4 hm aw tk ce la sn sa sb sc sd (nI p1) (nI p2))), .ref (a 9), .ref (a 10), .ref (a 11), .ref (a 12)])), ((a 12), .inl (cI, 100, .inl (g_sd_D4 hm aw tk ce la sn sa sb sc sd (nI p1) (nI p2))))]) [2, 3, 6, 10] rfl
            refine va_calli (va_runV (As := []) (rest := []) ⟨hx, hb, hml, hown, hts⟩ (c_X5_flying l D cI cZ cJ cA H.size a hm aw tk (g_sn_D4 hm aw tk ce la sn sa sb sc sd (nI p1) (nI p2)) (g_sd_D4 hm aw tk ce la sn sa sb sc sd (nI p1) (nI p2)) (d4_sn hsn)) (cwV 0 hts gL_isShot_X5_flying rfl rfl rfl (by decide +kernel) ⟨Nat.le_of_ble_eq_true rfl, Nat.le_of_ble_eq_true rfl⟩) ⟨pcR_bl, va_recv hK hPc (ci := 5) (q0 := 0) rfl rfl, fun U hU hW => ⟨rfl, by rw [hU], by rw [hU]; exact hPc, va_K.moved hW.alike hK⟩⟩ rfl rfl hl.1 rfl (lv_room (Nat.le_of_ble_eq_true rfl)) dL_isShot_158 ⟨Nat.le_of_ble_eq_true rfl, Nat.le_of_ble_eq_true rfl⟩) hS (fun _ h1 h2 => absurd h1 (Nat.not_lt.mpr h2)) (rd_free hS hA) (fun r_21 u t H locs ht hvm hw hB hz1 hk1 hS => ?_)
            try dsimp only at hw
            have hr_21 := hw
            have hP := rd_P hP hk1
            obtain rfl := hr_21.symm
            refine W.widen (k := 4) (n := 24) (Nat.le_refl _) (Nat.le_refl _) ?_
            refine lv_iload hx hb dL_isShot_161 (lv_at hl 0 rfl) ?_
            refine lv_iload hx hb dL_isShot_163 (lv_at hl 2 rfl) ?_
            refine lv_if_eq (tgt := 172) hx hb dL_isShot_165 (by decide) (fun c_22 => absurd c_22 c_13) (fun _ => ?_)
            refine lv_iconst (v := 1) hx hb dL_isShot_168 (by decide) ?_
            refine lv_goto (tgt := 173) hx hb dL_isShot_169 (by decide) ?_
            refine lv_iadd hx hb dL_isShot_173 ?_
            refine lv_icmp_ne (tgt := 181) hx hb dL_isShot_174 (by decide) (fun c_23 => ?_) (fun c_23 => ?_)
            · refine lv_iconst (v := 0) hx hb dL_isShot_181 (by decide) ?_
              have hP9 := hP.sub (ws' := [((a 0), .inr (5, [.ref (a 2), .ref (a 4), .ref (a 18), .ref (a 1)])), ((a 4), .inr (2, [.int hm, .int aw, .int tk, .ref (a 5), .ref (a 6), .ref (a 7), .ref (a 8), .ref (a 13)])), ((a 5), .inl (cI, 6, .inl ce)), ((a 7), .inl (cI, 6, .inl (g_la_D4 hm aw tk ce la sn sa sb sc sd (nI p1) (nI p2)))), ((a 8), .inr (3, [.int (nI (g_sn_D4 hm aw tk ce la sn sa sb sc sd (nI p1) (nI p2))), .ref (a 9), .ref (a 10), .ref (a 11), .ref (a 12)])), ((a 9), .inl (cI, 100, .inl (g_sa_D4 hm aw tk ce la sn sa sb sc sd (nI p1) (nI p2)))), ((a 10), .inl (cI, 100, .inl (g_sb_D4 hm aw tk ce la sn sa sb sc sd (nI p1) (nI p2)))), ((a 11), .inl (cI, 100, .inl (g_sc_D4 hm aw tk ce la sn sa sb sc sd (nI p1) (nI p2)))), ((a 12), .inl (cI, 100, .inl (g_sd_D4 hm aw tk ce la sn sa sb sc sd (nI p1) (nI p2)))), ((q 0), .inl (cI, 19, .inl (upd lb 15 ((lb 15) + 1)))), ((q 1), .inl (cI, 18, .inl (upd lp (12 + p1) (lb 14))))]) [2, 3, 4, 5, 6, 7, 8, 9, 10, 0, 1] rfl
              have hD9 := hD.sub (ws' := [((a 0), .inr (5, [.ref (a 2), .ref (a 4), .ref (a 18), .ref (a 1)])), ((a 4), .inr (2, [.int hm, .int aw, .int tk, .ref (a 5), .ref (a 6), .ref (a 7), .ref (a 8), .ref (a 13)])), ((a 5), .inl (cI, 6, .inl ce)), ((a 7), .inl (cI, 6, .inl (g_la_D4 hm aw tk ce la sn sa sb sc sd (nI p1) (nI p2)))), ((a 8), .inr (3, [.int (nI (g_sn_D4 hm aw tk ce la sn sa sb sc sd (nI p1) (nI p2))), .ref (a 9), .ref (a 10), .ref (a 11), .ref (a 12)])), ((a 9), .inl (cI, 100, .inl (g_sa_D4 hm aw tk ce la sn sa sb sc sd (nI p1) (nI p2)))), ((a 10), .inl (cI, 100, .inl (g_sb_D4 hm aw tk ce la sn sa sb sc sd (nI p1) (nI p2)))), ((a 11), .inl (cI, 100, .inl (g_sc_D4 hm aw tk ce la sn sa sb sc sd (nI p1) (nI p2)))), ((a 12), .inl (cI, 100, .inl (g_sd_D4 hm aw tk ce la sn sa sb sc sd (nI p1) (nI p2)))), ((q 0), .inl (cI, 19, .inl (upd lb 15 ((lb 15) + 1)))), ((q 1), .inl (cI, 18, .inl (upd lp (12 + p1) (lb 14))))]) [2, 3, 4, 5, 6, 7, 8, 9, 10, 0, 1] (by decide) rfl
              -- leaf 4
              refine W.widen (k := 4) (n := 24) (Nat.le_of_ble_eq_true rfl) (Nat.le_of_ble_eq_true rfl) ?_
              exact W.zret (v := 0) (ty := .boolean) hx hb hr rfl (fun t ht hW => ⟨⟨0, ((g_la_D4 hm aw tk ce la sn sa sb sc sd (nI p1) (nI p2)), (g_sn_D4 hm aw tk ce la sn sa sb sc sd (nI p1) (nI p2)), (g_sa_D4 hm aw tk ce la sn sa sb sc sd (nI p1) (nI p2)), (g_sb_D4 hm aw tk ce la sn sa sb sc sd (nI p1) (nI p2)), (g_sc_D4 hm aw tk ce la sn sa sb sc sd (nI p1) (nI p2)), (g_sd_D4 hm aw tk ce la sn sa sb sc sd (nI p1) (nI p2)), upd lb 15 ((lb 15) + 1), upd lp (12 + p1) (lb 14)), rfl, ⟨(by rw [f_L_isShot, if_neg c_13, if_pos c_20, if_neg c_23]), rfl, rfl, rfl, rfl, rfl, rfl, (by rw [g_lb_L_isShot, if_neg c_13]), (by rw [g_lp_L_isShot, if_neg c_13])⟩, by rw [ht]; exact hP9, va_K.moved hW.alike hK, hD9⟩, hS.F ht⟩) hS.2.2 dL_isShot_182
            · refine lv_iconst (v := 1) hx hb dL_isShot_177 (by decide) ?_
              refine lv_goto (tgt := 182) hx hb dL_isShot_178 (by decide) ?_
              have hP9 := hP.sub (ws' := [((a 0), .inr (5, [.ref (a 2), .ref (a 4), .ref (a 18), .ref (a 1)])), ((a 4), .inr (2, [.int hm, .int aw, .int tk, .ref (a 5), .ref (a 6), .ref (a 7), .ref (a 8), .ref (a 13)])), ((a 5), .inl (cI, 6, .inl ce)), ((a 7), .inl (cI, 6, .inl (g_la_D4 hm aw tk ce la sn sa sb sc sd (nI p1) (nI p2)))), ((a 8), .inr (3, [.int (nI (g_sn_D4 hm aw tk ce la sn sa sb sc sd (nI p1) (nI p2))), .ref (a 9), .ref (a 10), .ref (a 11), .ref (a 12)])), ((a 9), .inl (cI, 100, .inl (g_sa_D4 hm aw tk ce la sn sa sb sc sd (nI p1) (nI p2)))), ((a 10), .inl (cI, 100, .inl (g_sb_D4 hm aw tk ce la sn sa sb sc sd (nI p1) (nI p2)))), ((a 11), .inl (cI, 100, .inl (g_sc_D4 hm aw tk ce la sn sa sb sc sd (nI p1) (nI p2)))), ((a 12), .inl (cI, 100, .inl (g_sd_D4 hm aw tk ce la sn sa sb sc sd (nI p1) (nI p2)))), ((q 0), .inl (cI, 19, .inl (upd lb 15 ((lb 15) + 1)))), ((q 1), .inl (cI, 18, .inl (upd lp (12 + p1) (lb 14))))]) [2, 3, 4, 5, 6, 7, 8, 9, 10, 0, 1] rfl
              have hD9 := hD.sub (ws' := [((a 0), .inr (5, [.ref (a 2), .ref (a 4), .ref (a 18), .ref (a 1)])), ((a 4), .inr (2, [.int hm, .int aw, .int tk, .ref (a 5), .ref (a 6), .ref (a 7), .ref (a 8), .ref (a 13)])), ((a 5), .inl (cI, 6, .inl ce)), ((a 7), .inl (cI, 6, .inl (g_la_D4 hm aw tk ce la sn sa sb sc sd (nI p1) (nI p2)))), ((a 8), .inr (3, [.int (nI (g_sn_D4 hm aw tk ce la sn sa sb sc sd (nI p1) (nI p2))), .ref (a 9), .ref (a 10), .ref (a 11), .ref (a 12)])), ((a 9), .inl (cI, 100, .inl (g_sa_D4 hm aw tk ce la sn sa sb sc sd (nI p1) (nI p2)))), ((a 10), .inl (cI, 100, .inl (g_sb_D4 hm aw tk ce la sn sa sb sc sd (nI p1) (nI p2)))), ((a 11), .inl (cI, 100, .inl (g_sc_D4 hm aw tk ce la sn sa sb sc sd (nI p1) (nI p2)))), ((a 12), .inl (cI, 100, .inl (g_sd_D4 hm aw tk ce la sn sa sb sc sd (nI p1) (nI p2)))), ((q 0), .inl (cI, 19, .inl (upd lb 15 ((lb 15) + 1)))), ((q 1), .inl (cI, 18, .inl (upd lp (12 + p1) (lb 14))))]) [2, 3, 4, 5, 6, 7, 8, 9, 10, 0, 1] (by decide) rfl
              -- leaf 5
              refine W.widen (k := 4) (n := 24) (Nat.le_of_ble_eq_true rfl) (Nat.le_of_ble_eq_true rfl) ?_
              exact W.zret (v := 1) (ty := .boolean) hx hb hr rfl (fun t ht hW => ⟨⟨1, ((g_la_D4 hm aw tk ce la sn sa sb sc sd (nI p1) (nI p2)), (g_sn_D4 hm aw tk ce la sn sa sb sc sd (nI p1) (nI p2)), (g_sa_D4 hm aw tk ce la sn sa sb sc sd (nI p1) (nI p2)), (g_sb_D4 hm aw tk ce la sn sa sb sc sd (nI p1) (nI p2)), (g_sc_D4 hm aw tk ce la sn sa sb sc sd (nI p1) (nI p2)), (g_sd_D4 hm aw tk ce la sn sa sb sc sd (nI p1) (nI p2)), upd lb 15 ((lb 15) + 1), upd lp (12 + p1) (lb 14)), rfl, ⟨(by rw [f_L_isShot, if_neg c_13, if_pos c_20, if_pos c_23]), rfl, rfl, rfl, rfl, rfl, rfl, (by rw [g_lb_L_isShot, if_neg c_13]), (by rw [g_lp_L_isShot, if_neg c_13])⟩, by rw [ht]; exact hP9, va_K.moved hW.alike hK, hD9⟩, hS.F ht⟩) hS.2.2 dL_isShot_182
