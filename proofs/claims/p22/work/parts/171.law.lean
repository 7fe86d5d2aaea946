/-- isRound: the hits of the first n players are kept -/
def rdN (lp hi : Nat → Int32) : Nat → Nat → Int32
  | 0 => lp
  | n + 1 => upd (rdN lp hi n) (6 + n) (hi n)
termination_by n => n
noncomputable def j_L_isRound_12 (lb : Nat → Int32) : Int32 := if (lb 14) < 0 then 0 else 1
theorem zj_L_isRound_12 {lb : Nat → Int32} : j_L_isRound_12 lb = 0 ∨ j_L_isRound_12 lb = 1 := by
  unfold j_L_isRound_12
  (repeat' split) <;> first | exact Or.inl rfl | exact Or.inr rfl
theorem tj_L_isRound_12 {lb : Nat → Int32} (h : ¬ j_L_isRound_12 lb = 0) : ¬ ((lb 14) < 0) := by
  unfold j_L_isRound_12 at h
  (repeat' split at h) <;> first | exact absurd rfl h | assumption
noncomputable def j_L_isRound_47 (lb : Nat → Int32) : Int32 := if (j_L_isRound_12 lb) = 0 then 0 else lb 15
noncomputable def j_L_isRound_80 (tk : Int32) (lb : Nat → Int32) (sd : Nat → Int32) (sn : Nat) : Int32 := if tk = (lb 14) then (if (flyN tk sd sn) < 0 then 0 else (if (j_L_isRound_47 lb) < (flyN tk sd sn) then 0 else 1)) else 0
theorem zj_L_isRound_80 {tk : Int32} {lb : Nat → Int32} {sd : Nat → Int32} {sn : Nat} : j_L_isRound_80 tk lb sd sn = 0 ∨ j_L_isRound_80 tk lb sd sn = 1 := by
  unfold j_L_isRound_80
  (repeat' split) <;> first | exact Or.inl rfl | exact Or.inr rfl
theorem tj_L_isRound_80 {tk : Int32} {lb : Nat → Int32} {sd : Nat → Int32} {sn : Nat} (h : ¬ j_L_isRound_80 tk lb sd sn = 0) : (tk = (lb 14)) ∧ ¬ ((flyN tk sd sn) < 0) ∧ ¬ ((j_L_isRound_47 lb) < (flyN tk sd sn)) := by
  unfold j_L_isRound_80 at h
  (repeat' split at h) <;> first | exact absurd rfl h | exact ⟨by assumption, by assumption, by assumption⟩
noncomputable def j_L_isRound_124 (lb : Nat → Int32) (e1 : Nat → Int32) (i : Nat) : Int32 := if (j_L_isRound_12 lb) = 0 then (-2) else e1 i
noncomputable def j_L_isRound_187 (ce : Nat → Int32) (i : Nat) (lb : Nat → Int32) (e1 : Nat → Int32) (hi : Nat → Int32) : Int32 := if (ce i) = (j_L_isRound_124 lb e1 i) then (if (hi i) < (-1) then 0 else (if (lb 14) < (hi i) then 0 else (if (hi i) = 0 then 0 else (if (j_L_isRound_12 lb) = 0 then (if (hi i) = (-1) then 1 else 0) else (if (e1 (6 + i)) < 0 then 1 else (if (hi i) = (e1 (6 + i)) then 1 else 0)))))) else 0
theorem zj_L_isRound_187 {ce : Nat → Int32} {i : Nat} {lb : Nat → Int32} {e1 : Nat → Int32} {hi : Nat → Int32} : j_L_isRound_187 ce i lb e1 hi = 0 ∨ j_L_isRound_187 ce i lb e1 hi = 1 := by
  unfold j_L_isRound_187
  (repeat' split) <;> first | exact Or.inl rfl | exact Or.inr rfl
theorem tj_L_isRound_187 {ce : Nat → Int32} {i : Nat} {lb : Nat → Int32} {e1 : Nat → Int32} {hi : Nat → Int32} (h : ¬ j_L_isRound_187 ce i lb e1 hi = 0) : ((ce i) = (j_L_isRound_124 lb e1 i)) ∧ ¬ ((hi i) < (-1)) ∧ ¬ ((lb 14) < (hi i)) ∧ ¬ ((hi i) = 0) := by
  unfold j_L_isRound_187 at h
  (repeat' split at h) <;> first | exact absurd rfl h | exact ⟨by assumption, by assumption, by assumption, by assumption⟩
set_option maxHeartbeats 4000000 in
set_option maxRecDepth 100000 in
theorem c_L_isRound (l : Launch) (hlt : l.stackTraces = false) (D : va_G) (cI cZ cJ cA : ClassId) (sx : Nat → Nat) (sz : Nat) (a : Nat → Nat) (q : Nat → Nat) (lb : Nat → Int32) (lp : Nat → Int32) (hm : Int32) (aw : Int32) (tk : Int32) (ce : Nat → Int32) (hi : Nat → Int32) (sn : Nat) (sd : Nat → Int32) (hsn : sn ≤ 100) (h80 : j_L_isRound_80 tk lb sd sn = 1) (h187 : ∀ i : Nat, i < 6 → j_L_isRound_187 ce i lb (rdN lp hi i) hi = 1) : Met l yL_isRound wsL_isRound ({ frames := 9, cells := 2, slots := 12, locals := 156 } : Room) (va_Pc [.ref (a 0), .ref (q 0), .ref (q 1)] (pcL (pcW D (tyL cI cZ cJ cA) [((a 0), .inr (5, [.ref (a 2), .ref (a 4), .ref (a 18), .ref (a 1)])), ((a 4), .inr (2, [.int hm, .int aw, .int tk, .ref (a 5), .ref (a 6), .ref (a 7), .ref (a 8), .ref (a 13)])), ((a 5), .inl (cI, 6, .inl ce)), ((a 6), .inl (cI, 6, .inl hi)), ((a 8), .inr (3, [.int (nI sn), .ref (a 9), .ref (a 10), .ref (a 11), .ref (a 12)])), ((a 12), .inl (cI, 100, .inl sd)), ((q 0), .inl (cI, 19, .inl lb)), ((q 1), .inl (cI, 18, .inl lp))] sz) sx (va_A [((a 0), .inr (5, [.ref (a 2), .ref (a 4), .ref (a 18), .ref (a 1)])), ((a 4), .inr (2, [.int hm, .int aw, .int tk, .ref (a 5), .ref (a 6), .ref (a 7), .ref (a 8), .ref (a 13)])), ((a 5), .inl (cI, 6, .inl ce)), ((a 6), .inl (cI, 6, .inl hi)), ((a 8), .inr (3, [.int (nI sn), .ref (a 9), .ref (a 10), .ref (a 11), .ref (a 12)])), ((a 12), .inl (cI, 100, .inl sd)), ((q 0), .inl (cI, 19, .inl lb)), ((q 1), .inl (cI, 18, .inl lp))] sz))) (va_Qi (fun (r : Int32) (u : (Nat → Int32)) => r = 1 ∧ u = rdN lp hi 6) (fun u t => bcW D (tyL cI cZ cJ cA) (va_A [((a 0), .inr (5, [.ref (a 2), .ref (a 4), .ref (a 18), .ref (a 1)])), ((a 4), .inr (2, [.int hm, .int aw, .int tk, .ref (a 5), .ref (a 6), .ref (a 7), .ref (a 8), .ref (a 13)])), ((a 5), .inl (cI, 6, .inl ce)), ((a 6), .inl (cI, 6, .inl hi)), ((a 8), .inr (3, [.int (nI sn), .ref (a 9), .ref (a 10), .ref (a 11), .ref (a 12)])), ((a 12), .inl (cI, 100, .inl sd)), ((q 0), .inl (cI, 19, .inl lb)), ((q 1), .inl (cI, 18, .inl lp))] sz) [((a 0), .inr (5, [.ref (a 2), .ref (a 4), .ref (a 18), .ref (a 1)])), ((a 4), .inr (2, [.int hm, .int aw, .int tk, .ref (a 5), .ref (a 6), .ref (a 7), .ref (a 8), .ref (a 13)])), ((a 5), .inl (cI, 6, .inl ce)), ((a 6), .inl (cI, 6, .inl hi)), ((a 8), .inr (3, [.int (nI sn), .ref (a 9), .ref (a 10), .ref (a 11), .ref (a 12)])), ((a 12), .inl (cI, 100, .inl sd)), ((q 0), .inl (cI, 19, .inl lb)), ((q 1), .inl (cI, 18, .inl u))] t) (va_A [((a 0), .inr (5, [.ref (a 2), .ref (a 4), .ref (a 18), .ref (a 1)])), ((a 4), .inr (2, [.int hm, .int aw, .int tk, .ref (a 5), .ref (a 6), .ref (a 7), .ref (a 8), .ref (a 13)])), ((a 5), .inl (cI, 6, .inl ce)), ((a 6), .inl (cI, 6, .inl hi)), ((a 8), .inr (3, [.int (nI sn), .ref (a 9), .ref (a 10), .ref (a 11), .ref (a 12)])), ((a 12), .inl (cI, 100, .inl sd)), ((q 0), .inl (cI, 19, .inl lb)), ((q 1), .inl (cI, 18, .inl lp))] sz)) 2 12 (va_A [((a 0), .inr (5, [.ref (a 2), .ref (a 4), .ref (a 18), .ref (a 1)])), ((a 4), .inr (2, [.int hm, .int aw, .int tk, .ref (a 5), .ref (a 6), .ref (a 7), .ref (a 8), .ref (a 13)])), ((a 5), .inl (cI, 6, .inl ce)), ((a 6), .inl (cI, 6, .inl hi)), ((a 8), .inr (3, [.int (nI sn), .ref (a 9), .ref (a 10), .ref (a 11), .ref (a 12)])), ((a 12), .inl (cI, 100, .inl sd)), ((q 0), .inl (cI, 19, .inl lb)), ((q 1), .inl (cI, 18, .inl lp))] sz) := by
  refine Met.ofW (cc := cL_isRound) (maxL := 7) (ret := (some .boolean)) (by decide) rfl ?_
  intro p e s m args below meth c s₁ B hml hv
  obtain ⟨rfl, ⟨⟨hsz, hP, hK, hD0⟩, hE⟩, hN⟩ := hv
  have hx := B.exec
  have hb := B.bytes
  have hr := B.returns
  have hts := atoms_spec (ws := wsL_isRound) B.pre
  have hown : s.vm.findClass RL = some m.cls := findClass_of_methodNamed B.named
  have hlocks := B.notSynchronized
  subst hsz
  have hD := hD0.self (sz := s.heap.size)
  generalize hAe : va_A [((a 0), .inr (5, [.ref (a 2), .ref (a 4), .ref (a 18), .ref (a 1)])), ((a 4), .inr (2, [.int hm, .int aw, .int tk, .ref (a 5), .ref (a 6), .ref (a 7), .ref (a 8), .ref (a 13)])), ((a 5), .inl (cI, 6, .inl ce)), ((a 6), .inl (cI, 6, .inl hi)), ((a 8), .inr (3, [.int (nI sn), .ref (a 9), .ref (a 10), .ref (a 11), .ref (a 12)])), ((a 12), .inl (cI, 100, .inl sd)), ((q 0), .inl (cI, 19, .inl lb)), ((q 1), .inl (cI, 18, .inl lp))] s.heap.size = A at hD hE ⊢
  have hA : ∀ q : Nat, s.heap.size ≤ q → A q := fun q h => by rw [← hAe]; exact Or.inr h
  have hAR : ∀ q : Nat, s.heap.size ≤ q → (fun q : Nat => s.heap.size ≤ q) q := fun _ h => h
  have hS : va_S A s.heap s.heap [] := va_S.rf
  have hP : va_P D vwCl [((a 0), .inr (5, [.ref (a 2), .ref (a 4), .ref (a 18), .ref (a 1)])), ((a 4), .inr (2, [.int hm, .int aw, .int tk, .ref (a 5), .ref (a 6), .ref (a 7), .ref (a 8), .ref (a 13)])), ((a 5), .inl (cI, 6, .inl ce)), ((a 6), .inl (cI, 6, .inl hi)), ((a 8), .inr (3, [.int (nI sn), .ref (a 9), .ref (a 10), .ref (a 11), .ref (a 12)])), ((a 12), .inl (cI, 100, .inl sd)), ((q 0), .inl (cI, 19, .inl lb)), ((q 1), .inl (cI, 18, .inl lp))] s.heap := hP
  have hl := lv_entry ([.ref (a 0), .ref (q 0), .ref (q 1)]) (n := 7) (Nat.le_of_ble_eq_true rfl)
  rw [lg_entry_eq]
  generalize (lg_sl ([.ref (a 0), .ref (q 0), .ref (q 1)]) ++ List.replicate (7 - (lg_sl ([.ref (a 0), .ref (q 0), .ref (q 1)])).length) Slot.unset).toArray = ls at hl ⊢
  have hl : lv_has ls 7 [(0, .ref (a 0)), (1, .ref (q 0)), (2, .ref (q 1))] := hl
  refine jn_w (cells2 := 0) (slots2 := 0) (fun H locs ls => va_P D vwCl [((a 0), .inr (5, [.ref (a 2), .ref (a 4), .ref (a 18), .ref (a 1)])), ((a 4), .inr (2, [.int hm, .int aw, .int tk, .ref (a 5), .ref (a 6), .ref (a 7), .ref (a 8), .ref (a 13)])), ((a 5), .inl (cI, 6, .inl ce)), ((a 6), .inl (cI, 6, .inl hi)), ((a 8), .inr (3, [.int (nI sn), .ref (a 9), .ref (a 10), .ref (a 11), .ref (a 12)])), ((a 12), .inl (cI, 100, .inl sd)), ((q 0), .inl (cI, 19, .inl lb)), ((q 1), .inl (cI, 18, .inl lp))] H ∧ va_D A [((a 0), .inr (5, [.ref (a 2), .ref (a 4), .ref (a 18), .ref (a 1)])), ((a 4), .inr (2, [.int hm, .int aw, .int tk, .ref (a 5), .ref (a 6), .ref (a 7), .ref (a 8), .ref (a 13)])), ((a 5), .inl (cI, 6, .inl ce)), ((a 6), .inl (cI, 6, .inl hi)), ((a 8), .inr (3, [.int (nI sn), .ref (a 9), .ref (a 10), .ref (a 11), .ref (a 12)])), ((a 12), .inl (cI, 100, .inl sd)), ((q 0), .inl (cI, 19, .inl lb)), ((q 1), .inl (cI, 18, .inl lp))] ∧ va_S A s.heap H locs ∧ lv_has ls 7 [(0, .ref (a 0)), (1, .ref (q 0)), (2, .ref (q 1))]) (pc2 := 12) (st2 := []) (j_L_isRound_12 lb) (fun jn_0 => ?_) ?_
  · refine lv_aload_n hx hb dL_isRound_0 rfl (lv_at hl 1 rfl) ?_
    refine lv_bipush (v := 14) hx hb dL_isRound_1 (by decide) ?_
    refine va_iald hx hb hK hP 6 0 rfl rfl (vp_in_nI (n := 14) (by decide) (by decide)) dL_isRound_3 ?_
    refine tp_eq (y := lb 14) rfl ?_
    refine lv_if_lt (tgt := 11) hx hb dL_isRound_4 (by decide) (fun c_1 => ?_) (fun c_1 => ?_)
    · refine lv_iconst (v := 0) hx hb dL_isRound_11 (by decide) ?_
      refine W.widen (k := 0) (n := 0) (Nat.le_of_ble_eq_true rfl) (Nat.le_of_ble_eq_true rfl) ?_
      refine tp_eq (y := j_L_isRound_12 lb) (by rw [j_L_isRound_12, if_pos c_1]) ?_
      exact jn_0 _ _ _ ⟨hP, hD, hS, lv_sub hl [0, 1, 2] rfl⟩
    · refine lv_iconst (v := 1) hx hb dL_isRound_7 (by decide) ?_
      refine lv_goto (tgt := 12) hx hb dL_isRound_8 (by decide) ?_
      refine W.widen (k := 0) (n := 0) (Nat.le_of_ble_eq_true rfl) (Nat.le_of_ble_eq_true rfl) ?_
      refine tp_eq (y := j_L_isRound_12 lb) (by rw [j_L_isRound_12, if_neg c_1]) ?_
      exact jn_0 _ _ _ ⟨hP, hD, hS, lv_sub hl [0, 1, 2] rfl⟩
  · intro H locs ls hI
    obtain ⟨hP, hD, hS, hl⟩ := hI
    have hl : lv_has ls 7 [(0, .ref (a 0)), (1, .ref (q 0)), (2, .ref (q 1))] := hl
    have hP : va_P D vwCl [((a 0), .inr (5, [.ref (a 2), .ref (a 4), .ref (a 18), .ref (a 1)])), ((a 4), .inr (2, [.int hm, .int aw, .int tk, .ref (a 5), .ref (a 6), .ref (a 7), .ref (a 8), .ref (a 13)])), ((a 5), .inl (cI, 6, .inl ce)), ((a 6), .inl (cI, 6, .inl hi)), ((a 8), .inr (3, [.int (nI sn), .ref (a 9), .ref (a 10), .ref (a 11), .ref (a 12)])), ((a 12), .inl (cI, 100, .inl sd)), ((q 0), .inl (cI, 19, .inl lb)), ((q 1), .inl (cI, 18, .inl lp))] H := hP
    have hD : va_D A [((a 0), .inr (5, [.ref (a 2), .ref (a 4), .ref (a 18), .ref (a 1)])), ((a 4), .inr (2, [.int hm, .int aw, .int tk, .ref (a 5), .ref (a 6), .ref (a 7), .ref (a 8), .ref (a 13)])), ((a 5), .inl (cI, 6, .inl ce)), ((a 6), .inl (cI, 6, .inl hi)), ((a 8), .inr (3, [.int (nI sn), .ref (a 9), .ref (a 10), .ref (a 11), .ref (a 12)])), ((a 12), .inl (cI, 100, .inl sd)), ((q 0), .inl (cI, 19, .inl lb)), ((q 1), .inl (cI, 18, .inl lp))] := hD
    refine lv_istore_n (lv' := [(3, .int (j_L_isRound_12 lb)), (0, .ref (a 0)), (1, .ref (q 0)), (2, .ref (q 1))]) hx hb dL_isRound_12 rfl hl (by decide) rfl (fun ls hl => ?_)
    refine jn_w (cells2 := 2) (slots2 := 12) (fun H locs ls => va_P D vwCl [((a 0), .inr (5, [.ref (a 2), .ref (a 4), .ref (a 18), .ref (a 1)])), ((a 4), .inr (2, [.int hm, .int aw, .int tk, .ref (a 5), .ref (a 6), .ref (a 7), .ref (a 8), .ref (a 13)])), ((a 5), .inl (cI, 6, .inl ce)), ((a 6), .inl (cI, 6, .inl hi)), ((a 8), .inr (3, [.int (nI sn), .ref (a 9), .ref (a 10), .ref (a 11), .ref (a 12)])), ((a 12), .inl (cI, 100, .inl sd)), ((q 0), .inl (cI, 19, .inl lb)), ((q 1), .inl (cI, 18, .inl lp))] H ∧ va_D A [((a 0), .inr (5, [.ref (a 2), .ref (a 4), .ref (a 18), .ref (a 1)])), ((a 4), .inr (2, [.int hm, .int aw, .int tk, .ref (a 5), .ref (a 6), .ref (a 7), .ref (a 8), .ref (a 13)])), ((a 5), .inl (cI, 6, .inl ce)), ((a 6), .inl (cI, 6, .inl hi)), ((a 8), .inr (3, [.int (nI sn), .ref (a 9), .ref (a 10), .ref (a 11), .ref (a 12)])), ((a 12), .inl (cI, 100, .inl sd)), ((q 0), .inl (cI, 19, .inl lb)), ((q 1), .inl (cI, 18, .inl lp))] ∧ va_S A s.heap H locs ∧ lv_has ls 7 [(3, .int (j_L_isRound_12 lb)), (0, .ref (a 0)), (1, .ref (q 0)), (2, .ref (q 1))]) (pc2 := 80) (st2 := []) (j_L_isRound_80 tk lb sd sn) (fun jn_13 => ?_) ?_
    · refine lv_aload_n hx hb dL_isRound_13 rfl (lv_at hl 1 rfl) ?_
      have hPc := hP.sub (ws' := [((a 0), .inr (5, [.ref (a 2), .ref (a 4), .ref (a 18), .ref (a 1)])), ((a 4), .inr (2, [.int hm, .int aw, .int tk, .ref (a 5), .ref (a 6), .ref (a 7), .ref (a 8), .ref (a 13)]))]) [0, 1] rfl
      refine va_calli (va_runV (As := []) (rest := []) ⟨hx, hb, hml, hown, hts⟩ (c_X5_tick l D cI cZ cJ cA H.size a hm aw tk) (cwV 0 hts gL_isRound_X5_tick rfl rfl rfl (by decide +kernel) ⟨Nat.le_of_ble_eq_true rfl, Nat.le_of_ble_eq_true rfl⟩) ⟨pcR_bl, va_recv hK hPc (ci := 5) (q0 := 0) rfl rfl, fun U hU hW => ⟨rfl, by rw [hU], by rw [hU]; exact hPc, va_K.moved hW.alike hK⟩⟩ rfl rfl hl.1 rfl (lv_room (Nat.le_of_ble_eq_true rfl)) dL_isRound_14 ⟨Nat.le_of_ble_eq_true rfl, Nat.le_of_ble_eq_true rfl⟩) hS (fun _ h1 h2 => absurd h1 (Nat.not_lt.mpr h2)) (rd_free hS hA) (fun r_2 u t H locs ht hvm hw hB hz1 hk1 hS => ?_)
      try dsimp only at hw
      have hr_2 := hw
      have hP := rd_P hP hk1
      obtain rfl := hr_2.symm
      refine W.widen (k := 0) (n := 0) (Nat.le_refl _) (Nat.le_refl _) ?_
      refine lv_aload_n hx hb dL_isRound_17 rfl (lv_at hl 2 rfl) ?_
      refine lv_bipush (v := 14) hx hb dL_isRound_18 (by decide) ?_
      refine va_iald hx hb hK hP 6 0 rfl rfl (vp_in_nI (n := 14) (by decide) (by decide)) dL_isRound_20 ?_
      refine tp_eq (y := lb 14) rfl ?_
      refine lv_icmp_ne (tgt := 79) hx hb dL_isRound_21 (by decide) (fun c_3 => ?_) (fun c_3 => ?_)
      · refine lv_iconst (v := 0) hx hb dL_isRound_79 (by decide) ?_
        refine W.widen (k := 2) (n := 12) (Nat.le_of_ble_eq_true rfl) (Nat.le_of_ble_eq_true rfl) ?_
        refine tp_eq (y := j_L_isRound_80 tk lb sd sn) (by rw [j_L_isRound_80, if_neg c_3]) ?_
        exact jn_13 _ _ _ ⟨hP, hD, hS, lv_sub hl [0, 1, 2, 3] rfl⟩
      · refine lv_aload_n hx hb dL_isRound_24 rfl (lv_at hl 1 rfl) ?_
        have hPc := hP.sub (ws' := [((a 0), .inr (5, [.ref (a 2), .ref (a 4), .ref (a 18), .ref (a 1)])), ((a 4), .inr (2, [.int hm, .int aw, .int tk, .ref (a 5), .ref (a 6), .ref (a 7), .ref (a 8), .ref (a 13)])), ((a 8), .inr (3, [.int (nI sn), .ref (a 9), .ref (a 10), .ref (a 11), .ref (a 12)])), ((a 12), .inl (cI, 100, .inl sd))]) [0, 1, 4, 5] rfl
        refine va_calli (va_runV (As := []) (rest := []) ⟨hx, hb, hml, hown, hts⟩ (c_X5_flying l D cI cZ cJ cA H.size a hm aw tk sn sd hsn) (cwV 0 hts gL_isRound_X5_flying rfl rfl rfl (by decide +kernel) ⟨Nat.le_of_ble_eq_true rfl, Nat.le_of_ble_eq_true rfl⟩) ⟨pcR_bl, va_recv hK hPc (ci := 5) (q0 := 0) rfl rfl, fun U hU hW => ⟨rfl, by rw [hU], by rw [hU]; exact hPc, va_K.moved hW.alike hK⟩⟩ rfl rfl hl.1 rfl (lv_room (Nat.le_of_ble_eq_true rfl)) dL_isRound_25 ⟨Nat.le_of_ble_eq_true rfl, Nat.le_of_ble_eq_true rfl⟩) hS (fun _ h1 h2 => absurd h1 (Nat.not_lt.mpr h2)) (rd_free hS hA) (fun r_4 u t H locs ht hvm hw hB hz1 hk1 hS => ?_)
        try dsimp only at hw
        have hr_4 := hw
        have hP := rd_P hP hk1
        obtain rfl := hr_4.symm
        refine W.widen (k := 0) (n := 0) (Nat.le_refl _) (Nat.le_refl _) ?_
        refine lv_if_lt (tgt := 79) hx hb dL_isRound_28 (by decide) (fun c_5 => ?_) (fun c_5 => ?_)
        · refine lv_iconst (v := 0) hx hb dL_isRound_79 (by decide) ?_
          refine W.widen (k := 2) (n := 12) (Nat.le_of_ble_eq_true rfl) (Nat.le_of_ble_eq_true rfl) ?_
          refine tp_eq (y := j_L_isRound_80 tk lb sd sn) (by rw [j_L_isRound_80, if_pos c_3, if_pos c_5]) ?_
          exact jn_13 _ _ _ ⟨hP, hD, hS, lv_sub hl [0, 1, 2, 3] rfl⟩
        · refine lv_aload_n hx hb dL_isRound_31 rfl (lv_at hl 1 rfl) ?_
          have hPc := hP.sub (ws' := [((a 0), .inr (5, [.ref (a 2), .ref (a 4), .ref (a 18), .ref (a 1)])), ((a 4), .inr (2, [.int hm, .int aw, .int tk, .ref (a 5), .ref (a 6), .ref (a 7), .ref (a 8), .ref (a 13)])), ((a 8), .inr (3, [.int (nI sn), .ref (a 9), .ref (a 10), .ref (a 11), .ref (a 12)])), ((a 12), .inl (cI, 100, .inl sd))]) [0, 1, 4, 5] rfl
          refine va_calli (va_runV (As := []) (rest := []) ⟨hx, hb, hml, hown, hts⟩ (c_X5_flying l D cI cZ cJ cA H.size a hm aw tk sn sd hsn) (cwV 0 hts gL_isRound_X5_flying rfl rfl rfl (by decide +kernel) ⟨Nat.le_of_ble_eq_true rfl, Nat.le_of_ble_eq_true rfl⟩) ⟨pcR_bl, va_recv hK hPc (ci := 5) (q0 := 0) rfl rfl, fun U hU hW => ⟨rfl, by rw [hU], by rw [hU]; exact hPc, va_K.moved hW.alike hK⟩⟩ rfl rfl hl.1 rfl (lv_room (Nat.le_of_ble_eq_true rfl)) dL_isRound_32 ⟨Nat.le_of_ble_eq_true rfl, Nat.le_of_ble_eq_true rfl⟩) hS (fun _ h1 h2 => absurd h1 (Nat.not_lt.mpr h2)) (rd_free hS hA) (fun r_6 u t H locs ht hvm hw hB hz1 hk1 hS => ?_)
          try dsimp only at hw
          have hr_6 := hw
          have hP := rd_P hP hk1
          obtain rfl := hr_6.symm
          refine W.widen (k := 0) (n := 0) (Nat.le_refl _) (Nat.le_refl _) ?_
          refine jn_w (cells2 := 0) (slots2 := 0) (fun H locs ls => va_P D vwCl [((a 0), .inr (5, [.ref (a 2), .ref (a 4), .ref (a 18), .ref (a 1)])), ((a 4), .inr (2, [.int hm, .int aw, .int tk, .ref (a 5), .ref (a 6), .ref (a 7), .ref (a 8), .ref (a 13)])), ((a 5), .inl (cI, 6, .inl ce)), ((a 6), .inl (cI, 6, .inl hi)), ((a 8), .inr (3, [.int (nI sn), .ref (a 9), .ref (a 10), .ref (a 11), .ref (a 12)])), ((a 12), .inl (cI, 100, .inl sd)), ((q 0), .inl (cI, 19, .inl lb)), ((q 1), .inl (cI, 18, .inl lp))] H ∧ va_D A [((a 0), .inr (5, [.ref (a 2), .ref (a 4), .ref (a 18), .ref (a 1)])), ((a 4), .inr (2, [.int hm, .int aw, .int tk, .ref (a 5), .ref (a 6), .ref (a 7), .ref (a 8), .ref (a 13)])), ((a 5), .inl (cI, 6, .inl ce)), ((a 6), .inl (cI, 6, .inl hi)), ((a 8), .inr (3, [.int (nI sn), .ref (a 9), .ref (a 10), .ref (a 11), .ref (a 12)])), ((a 12), .inl (cI, 100, .inl sd)), ((q 0), .inl (cI, 19, .inl lb)), ((q 1), .inl (cI, 18, .inl lp))] ∧ va_S A s.heap H locs ∧ lv_has ls 7 [(3, .int (j_L_isRound_12 lb)), (0, .ref (a 0)), (1, .ref (q 0)), (2, .ref (q 1))]) (pc2 := 47) (st2 := [.int (flyN tk sd sn)]) (j_L_isRound_47 lb) (fun jn_35 => ?_) ?_
          · refine lv_iload_n hx hb dL_isRound_35 rfl (lv_at hl 0 rfl) ?_
            refine lv_if_eq (tgt := 46) hx hb dL_isRound_36 (by decide) (fun c_7 => ?_) (fun c_7 => ?_)
            · refine lv_iconst (v := 0) hx hb dL_isRound_46 (by decide) ?_
              refine W.widen (k := 0) (n := 0) (Nat.le_of_ble_eq_true rfl) (Nat.le_of_ble_eq_true rfl) ?_
              refine tp_eq (y := j_L_isRound_47 lb) (by rw [j_L_isRound_47, if_pos c_7]) ?_
              exact jn_35 _ _ _ ⟨hP, hD, hS, lv_sub hl [0, 1, 2, 3] rfl⟩
            · have tc_7_0 := tj_L_isRound_12 c_7
              refine lv_aload_n hx hb dL_isRound_39 rfl (lv_at hl 2 rfl) ?_
              refine lv_bipush (v := 15) hx hb dL_isRound_40 (by decide) ?_
              refine va_iald hx hb hK hP 6 0 rfl rfl (vp_in_nI (n := 15) (by decide) (by decide)) dL_isRound_42 ?_
              refine tp_eq (y := lb 15) rfl ?_
              refine lv_goto (tgt := 47) hx hb dL_isRound_43 (by decide) ?_
              refine W.widen (k := 0) (n := 0) (Nat.le_of_ble_eq_true rfl) (Nat.le_of_ble_eq_true rfl) ?_
              refine tp_eq (y := j_L_isRound_47 lb) (by rw [j_L_isRound_47, if_neg c_7]) ?_
              exact jn_35 _ _ _ ⟨hP, hD, hS, lv_sub hl [0, 1, 2, 3] rfl⟩
          · intro H locs ls hI
            obtain ⟨hP, hD, hS, hl⟩ := hI
            have hl : lv_has ls 7 [(3, .int (j_L_isRound_12 lb)), (0, .ref (a 0)), (1, .ref (q 0)), (2, .ref (q 1))] := hl
            have hP : va_P D vwCl [((a 0), .inr (5, [.ref (a 2), .ref (a 4), .ref (a 18), .ref (a 1)])), ((a 4), .inr (2, [.int hm, .int aw, .int tk, .ref (a 5), .ref (a 6), .ref (a 7), .ref (a 8), .ref (a 13)])), ((a 5), .inl (cI, 6, .inl ce)), ((a 6), .inl (cI, 6, .inl hi)), ((a 8), .inr (3, [.int (nI sn), .ref (a 9), .ref (a 10), .ref (a 11), .ref (a 12)])), ((a 12), .inl (cI, 100, .inl sd)), ((q 0), .inl (cI, 19, .inl lb)), ((q 1), .inl (cI, 18, .inl lp))] H := hP
            have hD : va_D A [((a 0), .inr (5, [.ref (a 2), .ref (a 4), .ref (a 18), .ref (a 1)])), ((a 4), .inr (2, [.int hm, .int aw, .int tk, .ref (a 5), .ref (a 6), .ref (a 7), .ref (a 8), .ref (a 13)])), ((a 5), .inl (cI, 6, .inl ce)), ((a 6), .inl (cI, 6, .inl hi)), ((a 8), .inr (3, [.int (nI sn), .ref (a 9), .ref (a 10), .ref (a 11), .ref (a 12)])), ((a 12), .inl (cI, 100, .inl sd)), ((q 0), .inl (cI, 19, .inl lb)), ((q 1), .inl (cI, 18, .inl lp))] := hD
            refine lv_icmp_gt (tgt := 79) hx hb dL_isRound_47 (by decide) (fun c_8 => ?_) (fun c_8 => ?_)
            · refine lv_iconst (v := 0) hx hb dL_isRound_79 (by decide) ?_
              refine W.widen (k := 2) (n := 12) (Nat.le_of_ble_eq_true rfl) (Nat.le_of_ble_eq_true rfl) ?_
              refine tp_eq (y := j_L_isRound_80 tk lb sd sn) (by rw [j_L_isRound_80, if_pos c_3, if_neg c_5, if_pos c_8]) ?_
              exact jn_13 _ _ _ ⟨hP, hD, hS, lv_sub hl [0, 1, 2, 3] rfl⟩
            · refine lv_aload_n hx hb dL_isRound_50 rfl (lv_at hl 1 rfl) ?_
              refine lv_iconst (v := 2) hx hb dL_isRound_51 (by decide) ?_
              refine lv_bipush (v := 6) hx hb dL_isRound_52 (by decide) ?_
              refine lv_iconst (v := 0) hx hb dL_isRound_54 (by decide) ?_
              have hPc := hP.sub (ws' := [((a 0), .inr (5, [.ref (a 2), .ref (a 4), .ref (a 18), .ref (a 1)])), ((a 4), .inr (2, [.int hm, .int aw, .int tk, .ref (a 5), .ref (a 6), .ref (a 7), .ref (a 8), .ref (a 13)])), ((a 5), .inl (cI, 6, .inl ce))]) [0, 1, 2] rfl
              refine va_calli (vx_runSW (As := [.ref (a 0), .int 2, .int 6, .int 0]) (rest := []) ⟨hx, hb, hml, hown, hts⟩ (c_A2 l hlt D cI cZ cJ cA sx H.size a hm aw tk ce 6 0 askW) (vx_cwSW 4 hts gL_isRound_L_asks rfl rfl rfl (by decide +kernel) ⟨Nat.le_of_ble_eq_true rfl, Nat.le_of_ble_eq_true rfl⟩) ⟨pcLR_bl, fun U hU hW => ⟨rfl, ⟨⟨by rw [hU], by rw [hU]; exact hPc, va_K.moved hW.alike hK⟩, hE.call hS (rd_free hS hA) hU hW⟩, hN.moved hW.alike⟩⟩ rfl rfl hl.1 rfl (lv_room (Nat.le_of_ble_eq_true rfl)) dL_isRound_55 ⟨Nat.le_of_ble_eq_true rfl, Nat.le_of_ble_eq_true rfl⟩) hS (fun _ h1 h2 => absurd h1 (Nat.not_lt.mpr h2)) (rd_free hS hA) (fun r_9 u t H locs ht hvm hw hB hz1 hk1 hS => ?_)
              try dsimp only at hw
              have hr_9 := hw
              have hP := rd_P hP hk1
              obtain rfl := hr_9.symm
              refine W.widen (k := 1) (n := 6) (Nat.le_refl _) (Nat.le_refl _) ?_
              refine lv_bipush (v := (-30)) hx hb dL_isRound_58 (by decide) ?_
              refine lv_icmp_ne (tgt := 79) hx hb dL_isRound_60 (by decide) (fun c_10 => absurd (by decide) c_10) (fun _ => ?_)
              refine lv_aload_n hx hb dL_isRound_63 rfl (lv_at hl 1 rfl) ?_
              refine lv_iconst (v := 3) hx hb dL_isRound_64 (by decide) ?_
              refine lv_iconst (v := (-1)) hx hb dL_isRound_65 (by decide) ?_
              refine lv_iconst (v := 0) hx hb dL_isRound_66 (by decide) ?_
              have hPc := hP.sub (ws' := [((a 0), .inr (5, [.ref (a 2), .ref (a 4), .ref (a 18), .ref (a 1)])), ((a 4), .inr (2, [.int hm, .int aw, .int tk, .ref (a 5), .ref (a 6), .ref (a 7), .ref (a 8), .ref (a 13)])), ((a 6), .inl (cI, 6, .inl hi))]) [0, 1, 3] rfl
              refine va_calli (vx_runSW (As := [.ref (a 0), .int 3, .int (-1), .int 0]) (rest := []) ⟨hx, hb, hml, hown, hts⟩ (c_A3 l hlt D cI cZ cJ cA sx H.size a hm aw tk hi (-1) 0 askH) (vx_cwSW 4 hts gL_isRound_L_asks rfl rfl rfl (by decide +kernel) ⟨Nat.le_of_ble_eq_true rfl, Nat.le_of_ble_eq_true rfl⟩) ⟨pcLR_bl, fun U hU hW => ⟨rfl, ⟨⟨by rw [hU], by rw [hU]; exact hPc, va_K.moved hW.alike hK⟩, hE.call hS (rd_free hS hA) hU hW⟩, hN.moved hW.alike⟩⟩ rfl rfl hl.1 rfl (lv_room (Nat.le_of_ble_eq_true rfl)) dL_isRound_67 ⟨Nat.le_of_ble_eq_true rfl, Nat.le_of_ble_eq_true rfl⟩) hS (fun _ h1 h2 => absurd h1 (Nat.not_lt.mpr h2)) (rd_free hS hA) (fun r_11 u t H locs ht hvm hw hB hz1 hk1 hS => ?_)
              try dsimp only at hw
              have hr_11 := hw
              have hP := rd_P hP hk1
              obtain rfl := hr_11.symm
              refine W.widen (k := 2) (n := 12) (Nat.le_refl _) (Nat.le_refl _) ?_
              refine lv_bipush (v := (-30)) hx hb dL_isRound_70 (by decide) ?_
              refine lv_icmp_ne (tgt := 79) hx hb dL_isRound_72 (by decide) (fun c_12 => absurd (by decide) c_12) (fun _ => ?_)
              refine lv_iconst (v := 1) hx hb dL_isRound_75 (by decide) ?_
              refine lv_goto (tgt := 80) hx hb dL_isRound_76 (by decide) ?_
              refine W.widen (k := 2) (n := 12) (Nat.le_of_ble_eq_true rfl) (Nat.le_of_ble_eq_true rfl) ?_
              refine tp_eq (y := j_L_isRound_80 tk lb sd sn) (by rw [j_L_isRound_80, if_pos c_3, if_neg c_5, if_neg c_8]) ?_
              exact jn_13 _ _ _ ⟨hP, hD, hS, lv_sub hl [0, 1, 2, 3] rfl⟩
    · intro H locs ls hI
      obtain ⟨hP, hD, hS, hl⟩ := hI
      have hl : lv_has ls 7 [(3, .int (j_L_isRound_12 lb)), (0, .ref (a 0)), (1, .ref (q 0)), (2, .ref (q 1))] := hl
      have hP : va_P D vwCl [((a 0), .inr (5, [.ref (a 2), .ref (a 4), .ref (a 18), .ref (a 1)])), ((a 4), .inr (2, [.int hm, .int aw, .int tk, .ref (a 5), .ref (a 6), .ref (a 7), .ref (a 8), .ref (a 13)])), ((a 5), .inl (cI, 6, .inl ce)), ((a 6), .inl (cI, 6, .inl hi)), ((a 8), .inr (3, [.int (nI sn), .ref (a 9), .ref (a 10), .ref (a 11), .ref (a 12)])), ((a 12), .inl (cI, 100, .inl sd)), ((q 0), .inl (cI, 19, .inl lb)), ((q 1), .inl (cI, 18, .inl lp))] H := hP
      have hD : va_D A [((a 0), .inr (5, [.ref (a 2), .ref (a 4), .ref (a 18), .ref (a 1)])), ((a 4), .inr (2, [.int hm, .int aw, .int tk, .ref (a 5), .ref (a 6), .ref (a 7), .ref (a 8), .ref (a 13)])), ((a 5), .inl (cI, 6, .inl ce)), ((a 6), .inl (cI, 6, .inl hi)), ((a 8), .inr (3, [.int (nI sn), .ref (a 9), .ref (a 10), .ref (a 11), .ref (a 12)])), ((a 12), .inl (cI, 100, .inl sd)), ((q 0), .inl (cI, 19, .inl lb)), ((q 1), .inl (cI, 18, .inl lp))] := hD
      refine tp_eq (y := 1) (h80) ?_
      refine lv_istore (lv' := [(4, .int 1), (3, .int (j_L_isRound_12 lb)), (0, .ref (a 0)), (1, .ref (q 0)), (2, .ref (q 1))]) hx hb dL_isRound_80 hl (by decide) rfl (fun ls hl => ?_)
      refine lv_iconst (v := 0) hx hb dL_isRound_82 (by decide) ?_
      refine lv_istore (lv' := [(5, .int 0), (4, .int 1), (3, .int (j_L_isRound_12 lb)), (0, .ref (a 0)), (1, .ref (q 0)), (2, .ref (q 1))]) hx hb dL_isRound_83 hl (by decide) rfl (fun ls hl => ?_)
      refine lpW (σ := (Nat) × (Nat → Int32)) (I := fun x H locs ls => va_P D vwCl [((a 0), .inr (5, [.ref (a 2), .ref (a 4), .ref (a 18), .ref (a 1)])), ((a 4), .inr (2, [.int hm, .int aw, .int tk, .ref (a 5), .ref (a 6), .ref (a 7), .ref (a 8), .ref (a 13)])), ((a 5), .inl (cI, 6, .inl ce)), ((a 6), .inl (cI, 6, .inl hi)), ((a 8), .inr (3, [.int (nI sn), .ref (a 9), .ref (a 10), .ref (a 11), .ref (a 12)])), ((a 12), .inl (cI, 100, .inl sd)), ((q 0), .inl (cI, 19, .inl lb)), ((q 1), .inl (cI, 18, .inl x.2))] H ∧ va_D A [((a 0), .inr (5, [.ref (a 2), .ref (a 4), .ref (a 18), .ref (a 1)])), ((a 4), .inr (2, [.int hm, .int aw, .int tk, .ref (a 5), .ref (a 6), .ref (a 7), .ref (a 8), .ref (a 13)])), ((a 5), .inl (cI, 6, .inl ce)), ((a 6), .inl (cI, 6, .inl hi)), ((a 8), .inr (3, [.int (nI sn), .ref (a 9), .ref (a 10), .ref (a 11), .ref (a 12)])), ((a 12), .inl (cI, 100, .inl sd)), ((q 0), .inl (cI, 19, .inl lb)), ((q 1), .inl (cI, 18, .inl x.2))] ∧ va_S A s.heap H locs ∧ lv_has ls 7 [(0, .ref (a 0)), (1, .ref (q 0)), (2, .ref (q 1)), (3, .int (j_L_isRound_12 lb)), (4, .int 1), (5, .int (nI x.1))] ∧ (x.1 ≤ 6) ∧ (x.2 = rdN lp hi x.1)) (μ := fun x => 6 - x.1) ?_ (0, lp) ⟨hP, hD, hS, lv_sub hl [3, 4, 5, 2, 1, 0] rfl, (Nat.zero_le _), (by rw [rdN])⟩
      intro x H locs ls hI ih
      obtain ⟨i, e1⟩ := x
      obtain ⟨hP, hD, hS, hl, hq_hi1, hq_he⟩ := hI
      have ih_85 := ih
      have hl : lv_has ls 7 [(0, .ref (a 0)), (1, .ref (q 0)), (2, .ref (q 1)), (3, .int (j_L_isRound_12 lb)), (4, .int 1), (5, .int (nI i))] := hl
      have hP : va_P D vwCl [((a 0), .inr (5, [.ref (a 2), .ref (a 4), .ref (a 18), .ref (a 1)])), ((a 4), .inr (2, [.int hm, .int aw, .int tk, .ref (a 5), .ref (a 6), .ref (a 7), .ref (a 8), .ref (a 13)])), ((a 5), .inl (cI, 6, .inl ce)), ((a 6), .inl (cI, 6, .inl hi)), ((a 8), .inr (3, [.int (nI sn), .ref (a 9), .ref (a 10), .ref (a 11), .ref (a 12)])), ((a 12), .inl (cI, 100, .inl sd)), ((q 0), .inl (cI, 19, .inl lb)), ((q 1), .inl (cI, 18, .inl e1))] H := hP
      have hD : va_D A [((a 0), .inr (5, [.ref (a 2), .ref (a 4), .ref (a 18), .ref (a 1)])), ((a 4), .inr (2, [.int hm, .int aw, .int tk, .ref (a 5), .ref (a 6), .ref (a 7), .ref (a 8), .ref (a 13)])), ((a 5), .inl (cI, 6, .inl ce)), ((a 6), .inl (cI, 6, .inl hi)), ((a 8), .inr (3, [.int (nI sn), .ref (a 9), .ref (a 10), .ref (a 11), .ref (a 12)])), ((a 12), .inl (cI, 100, .inl sd)), ((q 0), .inl (cI, 19, .inl lb)), ((q 1), .inl (cI, 18, .inl e1))] := hD
      have hi1 : i ≤ 6 := hq_hi1
      have he : e1 = rdN lp hi i := hq_he
      clear hq_hi1 hq_he
      refine lv_iload hx hb dL_isRound_85 (lv_at hl 5 rfl) ?_
      refine lv_bipush (v := 6) hx hb dL_isRound_87 (by decide) ?_
      refine lv_icmp_ge (tgt := 204) hx hb dL_isRound_89 (by decide) (fun c_13 => ?_) (fun c_13 => ?_)
      · have nc_13 : 6 ≤ i := (nI_leI (a := 6) (b := i) (by omega) (by omega)).mp c_13
        have he_89 : i = 6 := bd_eq (N := 6) (by decide) hi1 c_13
        refine lv_iload hx hb dL_isRound_204 (lv_at hl 4 rfl) ?_
        have hP9 := hP.sub (ws' := [((a 0), .inr (5, [.ref (a 2), .ref (a 4), .ref (a 18), .ref (a 1)])), ((a 4), .inr (2, [.int hm, .int aw, .int tk, .ref (a 5), .ref (a 6), .ref (a 7), .ref (a 8), .ref (a 13)])), ((a 5), .inl (cI, 6, .inl ce)), ((a 6), .inl (cI, 6, .inl hi)), ((a 8), .inr (3, [.int (nI sn), .ref (a 9), .ref (a 10), .ref (a 11), .ref (a 12)])), ((a 12), .inl (cI, 100, .inl sd)), ((q 0), .inl (cI, 19, .inl lb)), ((q 1), .inl (cI, 18, .inl e1))]) [0, 1, 2, 3, 4, 5, 6, 7] rfl
        have hD9 := hD.sub (ws' := [((a 0), .inr (5, [.ref (a 2), .ref (a 4), .ref (a 18), .ref (a 1)])), ((a 4), .inr (2, [.int hm, .int aw, .int tk, .ref (a 5), .ref (a 6), .ref (a 7), .ref (a 8), .ref (a 13)])), ((a 5), .inl (cI, 6, .inl ce)), ((a 6), .inl (cI, 6, .inl hi)), ((a 8), .inr (3, [.int (nI sn), .ref (a 9), .ref (a 10), .ref (a 11), .ref (a 12)])), ((a 12), .inl (cI, 100, .inl sd)), ((q 0), .inl (cI, 19, .inl lb)), ((q 1), .inl (cI, 18, .inl e1))]) [0, 1, 2, 3, 4, 5, 6, 7] (by decide) rfl
        -- leaf 0
        refine W.widen (k := 2) (n := 12) (Nat.le_of_ble_eq_true rfl) (Nat.le_of_ble_eq_true rfl) ?_
        exact W.zret (v := 1) (ty := .boolean) hx hb hr rfl (fun t ht hW => ⟨⟨1, (e1), rfl, ⟨rfl, (by rw [he, he_89])⟩, by rw [ht]; exact hP9, va_K.moved hW.alike hK, hD9⟩, hS.F ht⟩) hS.2.2 dL_isRound_206
      · have nc_13 : ¬ 6 ≤ i := fun q => c_13 ((nI_leI (a := 6) (b := i) (by omega) (by omega)).mpr q)
        have hlt_89 : i < 6 := bd_lt (N := 6) (by decide) hi1 c_13
        refine lv_iload hx hb dL_isRound_92 (lv_at hl 4 rfl) ?_
        refine lv_if_eq (tgt := 204) hx hb dL_isRound_94 (by decide) (fun c_14 => absurd c_14 (by decide)) (fun _ => ?_)
        refine lv_aload_n hx hb dL_isRound_97 rfl (lv_at hl 0 rfl) ?_
        refine lv_iload hx hb dL_isRound_98 (lv_at hl 5 rfl) ?_
        have hPc := hP.sub (ws' := [((a 0), .inr (5, [.ref (a 2), .ref (a 4), .ref (a 18), .ref (a 1)])), ((a 4), .inr (2, [.int hm, .int aw, .int tk, .ref (a 5), .ref (a 6), .ref (a 7), .ref (a 8), .ref (a 13)])), ((a 6), .inl (cI, 6, .inl hi))]) [0, 1, 3] rfl
        refine va_calli (va_runV (As := [.int (nI i)]) (rest := []) ⟨hx, hb, hml, hown, hts⟩ (c_V_hit l D cI cZ cJ cA H.size a hm aw tk hi i (by first | assumption | omega)) (cwV 1 hts gL_isRound_X5_hit rfl rfl rfl (by decide +kernel) ⟨Nat.le_of_ble_eq_true rfl, Nat.le_of_ble_eq_true rfl⟩) ⟨pcR_bl, va_recv hK hPc (ci := 5) (q0 := 0) rfl rfl, fun U hU hW => ⟨rfl, by rw [hU], by rw [hU]; exact hPc, va_K.moved hW.alike hK⟩⟩ rfl rfl hl.1 rfl (lv_room (Nat.le_of_ble_eq_true rfl)) dL_isRound_100 ⟨Nat.le_of_ble_eq_true rfl, Nat.le_of_ble_eq_true rfl⟩) hS (fun _ h1 h2 => absurd h1 (Nat.not_lt.mpr h2)) (rd_free hS hA) (fun r_15 u t H locs ht hvm hw hB hz1 hk1 hS => ?_)
        try dsimp only at hw
        have hr_15 := hw
        have hP := rd_P hP hk1
        obtain rfl := hr_15.symm
        refine W.widen (k := 2) (n := 12) (Nat.le_refl _) (Nat.le_refl _) ?_
        refine lv_istore (lv' := [(6, .int (hi i)), (0, .ref (a 0)), (1, .ref (q 0)), (2, .ref (q 1)), (3, .int (j_L_isRound_12 lb)), (4, .int 1), (5, .int (nI i))]) hx hb dL_isRound_103 hl (by decide) rfl (fun ls hl => ?_)
        refine jn_w (cells2 := 2) (slots2 := 12) (fun H locs ls => va_P D vwCl [((a 0), .inr (5, [.ref (a 2), .ref (a 4), .ref (a 18), .ref (a 1)])), ((a 4), .inr (2, [.int hm, .int aw, .int tk, .ref (a 5), .ref (a 6), .ref (a 7), .ref (a 8), .ref (a 13)])), ((a 5), .inl (cI, 6, .inl ce)), ((a 6), .inl (cI, 6, .inl hi)), ((a 8), .inr (3, [.int (nI sn), .ref (a 9), .ref (a 10), .ref (a 11), .ref (a 12)])), ((a 12), .inl (cI, 100, .inl sd)), ((q 0), .inl (cI, 19, .inl lb)), ((q 1), .inl (cI, 18, .inl e1))] H ∧ va_D A [((a 0), .inr (5, [.ref (a 2), .ref (a 4), .ref (a 18), .ref (a 1)])), ((a 4), .inr (2, [.int hm, .int aw, .int tk, .ref (a 5), .ref (a 6), .ref (a 7), .ref (a 8), .ref (a 13)])), ((a 5), .inl (cI, 6, .inl ce)), ((a 6), .inl (cI, 6, .inl hi)), ((a 8), .inr (3, [.int (nI sn), .ref (a 9), .ref (a 10), .ref (a 11), .ref (a 12)])), ((a 12), .inl (cI, 100, .inl sd)), ((q 0), .inl (cI, 19, .inl lb)), ((q 1), .inl (cI, 18, .inl e1))] ∧ va_S A s.heap H locs ∧ lv_has ls 7 [(6, .int (hi i)), (0, .ref (a 0)), (1, .ref (q 0)), (2, .ref (q 1)), (3, .int (j_L_isRound_12 lb)), (4, .int 1), (5, .int (nI i))]) (pc2 := 187) (st2 := []) (j_L_isRound_187 ce i lb e1 hi) (fun jn_105 => ?_) ?_
        · refine lv_aload_n hx hb dL_isRound_105 rfl (lv_at hl 1 rfl) ?_
          refine lv_iload hx hb dL_isRound_106 (lv_at hl 6 rfl) ?_
          have hPc := hP.sub (ws' := [((a 0), .inr (5, [.ref (a 2), .ref (a 4), .ref (a 18), .ref (a 1)])), ((a 4), .inr (2, [.int hm, .int aw, .int tk, .ref (a 5), .ref (a 6), .ref (a 7), .ref (a 8), .ref (a 13)])), ((a 5), .inl (cI, 6, .inl ce))]) [0, 1, 2] rfl
          refine va_calli (va_runV (As := [.int (nI i)]) (rest := []) ⟨hx, hb, hml, hown, hts⟩ (c_V_where l D cI cZ cJ cA H.size a hm aw tk ce i (by first | assumption | omega)) (cwV 1 hts gL_isRound_X5_where rfl rfl rfl (by decide +kernel) ⟨Nat.le_of_ble_eq_true rfl, Nat.le_of_ble_eq_true rfl⟩) ⟨pcR_bl, va_recv hK hPc (ci := 5) (q0 := 0) rfl rfl, fun U hU hW => ⟨rfl, by rw [hU], by rw [hU]; exact hPc, va_K.moved hW.alike hK⟩⟩ rfl rfl hl.1 rfl (lv_room (Nat.le_of_ble_eq_true rfl)) dL_isRound_108 ⟨Nat.le_of_ble_eq_true rfl, Nat.le_of_ble_eq_true rfl⟩) hS (fun _ h1 h2 => absurd h1 (Nat.not_lt.mpr h2)) (rd_free hS hA) (fun r_16 u t H locs ht hvm hw hB hz1 hk1 hS => ?_)
          try dsimp only at hw
          have hr_16 := hw
          have hP := rd_P hP hk1
          obtain rfl := hr_16.symm
          refine W.widen (k := 2) (n := 12) (Nat.le_refl _) (Nat.le_refl _) ?_
          refine jn_w (cells2 := 2) (slots2 := 12) (fun H locs ls => va_P D vwCl [((a 0), .inr (5, [.ref (a 2), .ref (a 4), .ref (a 18), .ref (a 1)])), ((a 4), .inr (2, [.int hm, .int aw, .int tk, .ref (a 5), .ref (a 6), .ref (a 7), .ref (a 8), .ref (a 13)])), ((a 5), .inl (cI, 6, .inl ce)), ((a 6), .inl (cI, 6, .inl hi)), ((a 8), .inr (3, [.int (nI sn), .ref (a 9), .ref (a 10), .ref (a 11), .ref (a 12)])), ((a 12), .inl (cI, 100, .inl sd)), ((q 0), .inl (cI, 19, .inl lb)), ((q 1), .inl (cI, 18, .inl e1))] H ∧ va_D A [((a 0), .inr (5, [.ref (a 2), .ref (a 4), .ref (a 18), .ref (a 1)])), ((a 4), .inr (2, [.int hm, .int aw, .int tk, .ref (a 5), .ref (a 6), .ref (a 7), .ref (a 8), .ref (a 13)])), ((a 5), .inl (cI, 6, .inl ce)), ((a 6), .inl (cI, 6, .inl hi)), ((a 8), .inr (3, [.int (nI sn), .ref (a 9), .ref (a 10), .ref (a 11), .ref (a 12)])), ((a 12), .inl (cI, 100, .inl sd)), ((q 0), .inl (cI, 19, .inl lb)), ((q 1), .inl (cI, 18, .inl e1))] ∧ va_S A s.heap H locs ∧ lv_has ls 7 [(6, .int (hi i)), (0, .ref (a 0)), (1, .ref (q 0)), (2, .ref (q 1)), (3, .int (j_L_isRound_12 lb)), (4, .int 1), (5, .int (nI i))]) (pc2 := 124) (st2 := [.int (ce i)]) (j_L_isRound_124 lb e1 i) (fun jn_111 => ?_) ?_
          · refine lv_iload_n hx hb dL_isRound_111 rfl (lv_at hl 4 rfl) ?_
            refine lv_if_eq (tgt := 122) hx hb dL_isRound_112 (by decide) (fun c_17 => ?_) (fun c_17 => ?_)
            · refine lv_bipush (v := (-2)) hx hb dL_isRound_122 (by decide) ?_
              refine W.widen (k := 2) (n := 12) (Nat.le_of_ble_eq_true rfl) (Nat.le_of_ble_eq_true rfl) ?_
              refine tp_eq (y := j_L_isRound_124 lb e1 i) (by rw [j_L_isRound_124, if_pos c_17]) ?_
              exact jn_111 _ _ _ ⟨hP, hD, hS, lv_sub hl [0, 1, 2, 3, 4, 5, 6] rfl⟩
            · have tc_17_0 := tj_L_isRound_12 c_17
              refine lv_aload_n hx hb dL_isRound_115 rfl (lv_at hl 3 rfl) ?_
              refine lv_iload hx hb dL_isRound_116 (lv_at hl 6 rfl) ?_
              refine va_iald hx hb hK hP 7 0 rfl rfl (vp_in_nI (n := i) (by omega) (by decide)) dL_isRound_118 ?_
              refine tp_eq (y := e1 i) (by rw [nI_clamp (n := i) (by omega)]) ?_
              refine lv_goto (tgt := 124) hx hb dL_isRound_119 (by decide) ?_
              refine W.widen (k := 2) (n := 12) (Nat.le_of_ble_eq_true rfl) (Nat.le_of_ble_eq_true rfl) ?_
              refine tp_eq (y := j_L_isRound_124 lb e1 i) (by rw [j_L_isRound_124, if_neg c_17]) ?_
              exact jn_111 _ _ _ ⟨hP, hD, hS, lv_sub hl [0, 1, 2, 3, 4, 5, 6] rfl⟩
          · intro H locs ls hI
            obtain ⟨hP, hD, hS, hl⟩ := hI
            have hl : lv_has ls 7 [(6, .int (hi i)), (0, .ref (a 0)), (1, .ref (q 0)), (2, .ref (q 1)), (3, .int (j_L_isRound_12 lb)), (4, .int 1), (5, .int (nI i))] := hl
            have hP : va_P D vwCl [((a 0), .inr (5, [.ref (a 2), .ref (a 4), .ref (a 18), .ref (a 1)])), ((a 4), .inr (2, [.int hm, .int aw, .int tk, .ref (a 5), .ref (a 6), .ref (a 7), .ref (a 8), .ref (a 13)])), ((a 5), .inl (cI, 6, .inl ce)), ((a 6), .inl (cI, 6, .inl hi)), ((a 8), .inr (3, [.int (nI sn), .ref (a 9), .ref (a 10), .ref (a 11), .ref (a 12)])), ((a 12), .inl (cI, 100, .inl sd)), ((q 0), .inl (cI, 19, .inl lb)), ((q 1), .inl (cI, 18, .inl e1))] H := hP
            have hD : va_D A [((a 0), .inr (5, [.ref (a 2), .ref (a 4), .ref (a 18), .ref (a 1)])), ((a 4), .inr (2, [.int hm, .int aw, .int tk, .ref (a 5), .ref (a 6), .ref (a 7), .ref (a 8), .ref (a 13)])), ((a 5), .inl (cI, 6, .inl ce)), ((a 6), .inl (cI, 6, .inl hi)), ((a 8), .inr (3, [.int (nI sn), .ref (a 9), .ref (a 10), .ref (a 11), .ref (a 12)])), ((a 12), .inl (cI, 100, .inl sd)), ((q 0), .inl (cI, 19, .inl lb)), ((q 1), .inl (cI, 18, .inl e1))] := hD
            refine lv_icmp_ne (tgt := 186) hx hb dL_isRound_124 (by decide) (fun c_18 => ?_) (fun c_18 => ?_)
            · refine lv_iconst (v := 0) hx hb dL_isRound_186 (by decide) ?_
              refine W.widen (k := 2) (n := 12) (Nat.le_of_ble_eq_true rfl) (Nat.le_of_ble_eq_true rfl) ?_
              refine tp_eq (y := j_L_isRound_187 ce i lb e1 hi) (by rw [j_L_isRound_187, if_neg c_18]) ?_
              exact jn_105 _ _ _ ⟨hP, hD, hS, lv_sub hl [0, 1, 2, 3, 4, 5, 6] rfl⟩
            · refine lv_iload hx hb dL_isRound_127 (lv_at hl 0 rfl) ?_
              refine lv_iconst (v := (-1)) hx hb dL_isRound_129 (by decide) ?_
              refine lv_icmp_lt (tgt := 186) hx hb dL_isRound_130 (by decide) (fun c_19 => ?_) (fun c_19 => ?_)
              · refine lv_iconst (v := 0) hx hb dL_isRound_186 (by decide) ?_
                refine W.widen (k := 2) (n := 12) (Nat.le_of_ble_eq_true rfl) (Nat.le_of_ble_eq_true rfl) ?_
                refine tp_eq (y := j_L_isRound_187 ce i lb e1 hi) (by rw [j_L_isRound_187, if_pos c_18, if_pos c_19]) ?_
                exact jn_105 _ _ _ ⟨hP, hD, hS, lv_sub hl [0, 1, 2, 3, 4, 5, 6] rfl⟩
              · refine lv_iload hx hb dL_isRound_133 (lv_at hl 0 rfl) ?_
                refine lv_aload_n hx hb dL_isRound_135 rfl (lv_at hl 2 rfl) ?_
                refine lv_bipush (v := 14) hx hb dL_isRound_136 (by decide) ?_
                refine va_iald hx hb hK hP 6 0 rfl rfl (vp_in_nI (n := 14) (by decide) (by decide)) dL_isRound_138 ?_
                refine tp_eq (y := lb 14) rfl ?_
                refine lv_icmp_gt (tgt := 186) hx hb dL_isRound_139 (by decide) (fun c_20 => ?_) (fun c_20 => ?_)
                · refine lv_iconst (v := 0) hx hb dL_isRound_186 (by decide) ?_
                  refine W.widen (k := 2) (n := 12) (Nat.le_of_ble_eq_true rfl) (Nat.le_of_ble_eq_true rfl) ?_
                  refine tp_eq (y := j_L_isRound_187 ce i lb e1 hi) (by rw [j_L_isRound_187, if_pos c_18, if_neg c_19, if_pos c_20]) ?_
                  exact jn_105 _ _ _ ⟨hP, hD, hS, lv_sub hl [0, 1, 2, 3, 4, 5, 6] rfl⟩
                · refine lv_iload hx hb dL_isRound_142 (lv_at hl 0 rfl) ?_
                  refine lv_if_eq (tgt := 186) hx hb dL_isRound_144 (by decide) (fun c_21 => ?_) (fun c_21 => ?_)
                  · refine lv_iconst (v := 0) hx hb dL_isRound_186 (by decide) ?_
                    refine W.widen (k := 2) (n := 12) (Nat.le_of_ble_eq_true rfl) (Nat.le_of_ble_eq_true rfl) ?_
                    refine tp_eq (y := j_L_isRound_187 ce i lb e1 hi) (by rw [j_L_isRound_187, if_pos c_18, if_neg c_19, if_neg c_20, if_pos c_21]) ?_
                    exact jn_105 _ _ _ ⟨hP, hD, hS, lv_sub hl [0, 1, 2, 3, 4, 5, 6] rfl⟩
                  · refine lv_iload_n hx hb dL_isRound_147 rfl (lv_at hl 4 rfl) ?_
                    refine lv_if_eq (tgt := 176) hx hb dL_isRound_148 (by decide) (fun c_22 => ?_) (fun c_22 => ?_)
                    · refine lv_iload hx hb dL_isRound_176 (lv_at hl 0 rfl) ?_
                      refine lv_iconst (v := (-1)) hx hb dL_isRound_178 (by decide) ?_
                      refine lv_icmp_ne (tgt := 186) hx hb dL_isRound_179 (by decide) (fun c_23 => ?_) (fun c_23 => ?_)
                      · refine lv_iconst (v := 0) hx hb dL_isRound_186 (by decide) ?_
                        refine W.widen (k := 2) (n := 12) (Nat.le_of_ble_eq_true rfl) (Nat.le_of_ble_eq_true rfl) ?_
                        refine tp_eq (y := j_L_isRound_187 ce i lb e1 hi) (by rw [j_L_isRound_187, if_pos c_18, if_neg c_19, if_neg c_20, if_neg c_21, if_pos c_22, if_neg c_23]) ?_
                        exact jn_105 _ _ _ ⟨hP, hD, hS, lv_sub hl [0, 1, 2, 3, 4, 5, 6] rfl⟩
                      · refine lv_iconst (v := 1) hx hb dL_isRound_182 (by decide) ?_
                        refine lv_goto (tgt := 187) hx hb dL_isRound_183 (by decide) ?_
                        refine W.widen (k := 2) (n := 12) (Nat.le_of_ble_eq_true rfl) (Nat.le_of_ble_eq_true rfl) ?_
                        refine tp_eq (y := j_L_isRound_187 ce i lb e1 hi) (by rw [j_L_isRound_187, if_pos c_18, if_neg c_19, if_neg c_20, if_neg c_21, if_pos c_22, if_pos c_23]) ?_
                        exact jn_105 _ _ _ ⟨hP, hD, hS, lv_sub hl [0, 1, 2, 3, 4, 5, 6] rfl⟩
                    · have tc_22_0 := tj_L_isRound_12 c_22
                      refine lv_aload_n hx hb dL_isRound_151 rfl (lv_at hl 3 rfl) ?_
                      refine lv_bipush (v := 6) hx hb dL_isRound_152 (by decide) ?_
                      refine lv_iload hx hb dL_isRound_154 (lv_at hl 6 rfl) ?_
                      refine lv_iadd hx hb dL_isRound_156 ?_
                      refine tp_eq (y := nI (6 + i)) (nI_add 6 i) ?_
                      refine va_iald hx hb hK hP 7 0 rfl rfl (vp_in_nI (n := (6 + i)) (by omega) (by decide)) dL_isRound_157 ?_
                      refine tp_eq (y := e1 (6 + i)) (by rw [nI_clamp (n := (6 + i)) (by omega)]) ?_
                      refine lv_if_lt (tgt := 182) hx hb dL_isRound_158 (by decide) (fun c_24 => ?_) (fun c_24 => ?_)
                      · refine lv_iconst (v := 1) hx hb dL_isRound_182 (by decide) ?_
                        refine lv_goto (tgt := 187) hx hb dL_isRound_183 (by decide) ?_
                        refine W.widen (k := 2) (n := 12) (Nat.le_of_ble_eq_true rfl) (Nat.le_of_ble_eq_true rfl) ?_
                        refine tp_eq (y := j_L_isRound_187 ce i lb e1 hi) (by rw [j_L_isRound_187, if_pos c_18, if_neg c_19, if_neg c_20, if_neg c_21, if_neg c_22, if_pos c_24]) ?_
                        exact jn_105 _ _ _ ⟨hP, hD, hS, lv_sub hl [0, 1, 2, 3, 4, 5, 6] rfl⟩
                      · refine lv_iload hx hb dL_isRound_161 (lv_at hl 0 rfl) ?_
                        refine lv_aload_n hx hb dL_isRound_163 rfl (lv_at hl 3 rfl) ?_
                        refine lv_bipush (v := 6) hx hb dL_isRound_164 (by decide) ?_
                        refine lv_iload hx hb dL_isRound_166 (lv_at hl 6 rfl) ?_
                        refine lv_iadd hx hb dL_isRound_168 ?_
                        refine tp_eq (y := nI (6 + i)) (nI_add 6 i) ?_
                        refine va_iald hx hb hK hP 7 0 rfl rfl (vp_in_nI (n := (6 + i)) (by omega) (by decide)) dL_isRound_169 ?_
                        refine tp_eq (y := e1 (6 + i)) (by rw [nI_clamp (n := (6 + i)) (by omega)]) ?_
                        refine lv_icmp_ne (tgt := 186) hx hb dL_isRound_170 (by decide) (fun c_25 => ?_) (fun c_25 => ?_)
                        · refine lv_iconst (v := 0) hx hb dL_isRound_186 (by decide) ?_
                          refine W.widen (k := 2) (n := 12) (Nat.le_of_ble_eq_true rfl) (Nat.le_of_ble_eq_true rfl) ?_
                          refine tp_eq (y := j_L_isRound_187 ce i lb e1 hi) (by rw [j_L_isRound_187, if_pos c_18, if_neg c_19, if_neg c_20, if_neg c_21, if_neg c_22, if_neg c_24, if_neg c_25]) ?_
                          exact jn_105 _ _ _ ⟨hP, hD, hS, lv_sub hl [0, 1, 2, 3, 4, 5, 6] rfl⟩
                        · refine lv_goto (tgt := 182) hx hb dL_isRound_173 (by decide) ?_
                          refine lv_iconst (v := 1) hx hb dL_isRound_182 (by decide) ?_
                          refine lv_goto (tgt := 187) hx hb dL_isRound_183 (by decide) ?_
                          refine W.widen (k := 2) (n := 12) (Nat.le_of_ble_eq_true rfl) (Nat.le_of_ble_eq_true rfl) ?_
                          refine tp_eq (y := j_L_isRound_187 ce i lb e1 hi) (by rw [j_L_isRound_187, if_pos c_18, if_neg c_19, if_neg c_20, if_neg c_21, if_neg c_22, if_neg c_24, if_pos c_25]) ?_
                          exact jn_105 _ _ _ ⟨hP, hD, hS, lv_sub hl [0, 1, 2, 3, 4, 5, 6] rfl⟩
        · intro H locs ls hI
          obtain ⟨hP, hD, hS, hl⟩ := hI
          have hl : lv_has ls 7 [(6, .int (hi i)), (0, .ref (a 0)), (1, .ref (q 0)), (2, .ref (q 1)), (3, .int (j_L_isRound_12 lb)), (4, .int 1), (5, .int (nI i))] := hl
          have hP : va_P D vwCl [((a 0), .inr (5, [.ref (a 2), .ref (a 4), .ref (a 18), .ref (a 1)])), ((a 4), .inr (2, [.int hm, .int aw, .int tk, .ref (a 5), .ref (a 6), .ref (a 7), .ref (a 8), .ref (a 13)])), ((a 5), .inl (cI, 6, .inl ce)), ((a 6), .inl (cI, 6, .inl hi)), ((a 8), .inr (3, [.int (nI sn), .ref (a 9), .ref (a 10), .ref (a 11), .ref (a 12)])), ((a 12), .inl (cI, 100, .inl sd)), ((q 0), .inl (cI, 19, .inl lb)), ((q 1), .inl (cI, 18, .inl e1))] H := hP
          have hD : va_D A [((a 0), .inr (5, [.ref (a 2), .ref (a 4), .ref (a 18), .ref (a 1)])), ((a 4), .inr (2, [.int hm, .int aw, .int tk, .ref (a 5), .ref (a 6), .ref (a 7), .ref (a 8), .ref (a 13)])), ((a 5), .inl (cI, 6, .inl ce)), ((a 6), .inl (cI, 6, .inl hi)), ((a 8), .inr (3, [.int (nI sn), .ref (a 9), .ref (a 10), .ref (a 11), .ref (a 12)])), ((a 12), .inl (cI, 100, .inl sd)), ((q 0), .inl (cI, 19, .inl lb)), ((q 1), .inl (cI, 18, .inl e1))] := hD
          refine tp_eq (y := 1) (by rw [he]; exact h187 i hlt_89) ?_
          refine lv_istore (lv' := [(4, .int 1), (6, .int (hi i)), (0, .ref (a 0)), (1, .ref (q 0)), (2, .ref (q 1)), (3, .int (j_L_isRound_12 lb)), (5, .int (nI i))]) hx hb dL_isRound_187 hl (by decide) rfl (fun ls hl => ?_)
          refine lv_aload_n hx hb dL_isRound_189 rfl (lv_at hl 4 rfl) ?_
          refine lv_bipush (v := 6) hx hb dL_isRound_190 (by decide) ?_
          refine lv_iload hx hb dL_isRound_192 (lv_at hl 6 rfl) ?_
          refine lv_iadd hx hb dL_isRound_194 ?_
          refine tp_eq (y := nI (6 + i)) (nI_add 6 i) ?_
          refine lv_iload hx hb dL_isRound_195 (lv_at hl 1 rfl) ?_
          refine va_iast hx hb hK hP hD hS 7 0 rfl rfl (vp_in_nI (n := (6 + i)) (by omega) (by decide)) dL_isRound_197 (fun H locs hP hD hS => ?_)
          rw [nI_clamp (n := (6 + i)) (by omega)] at hP hD
          have hP : va_P D vwCl [((a 0), .inr (5, [.ref (a 2), .ref (a 4), .ref (a 18), .ref (a 1)])), ((a 4), .inr (2, [.int hm, .int aw, .int tk, .ref (a 5), .ref (a 6), .ref (a 7), .ref (a 8), .ref (a 13)])), ((a 5), .inl (cI, 6, .inl ce)), ((a 6), .inl (cI, 6, .inl hi)), ((a 8), .inr (3, [.int (nI sn), .ref (a 9), .ref (a 10), .ref (a 11), .ref (a 12)])), ((a 12), .inl (cI, 100, .inl sd)), ((q 0), .inl (cI, 19, .inl lb)), ((q 1), .inl (cI, 18, .inl (upd e1 (6 + i) (hi i))))] H := hP
          have hD : va_D A [((a 0), .inr (5, [.ref (a 2), .ref (a 4), .ref (a 18), .ref (a 1)])), ((a 4), .inr (2, [.int hm, .int aw, .int tk, .ref (a 5), .ref (a 6), .ref (a 7), .ref (a 8), .ref (a 13)])), ((a 5), .inl (cI, 6, .inl ce)), ((a 6), .inl (cI, 6, .inl hi)), ((a 8), .inr (3, [.int (nI sn), .ref (a 9), .ref (a 10), .ref (a 11), .ref (a 12)])), ((a 12), .inl (cI, 100, .inl sd)), ((q 0), .inl (cI, 19, .inl lb)), ((q 1), .inl (cI, 18, .inl (upd e1 (6 + i) (hi i))))] := hD
          refine lv_iinc (v := nI (i + 1)) (lv' := [(5, .int (nI (i + 1))), (4, .int 1), (6, .int (hi i)), (0, .ref (a 0)), (1, .ref (q 0)), (2, .ref (q 1)), (3, .int (j_L_isRound_12 lb))]) hx hb dL_isRound_198 hl (k := 6) rfl (nI_1 i) (by decide) rfl (fun ls hl => ?_)
          refine lv_goto (tgt := 85) hx hb dL_isRound_201 (by decide) ?_
          refine W.widen (k := 2) (n := 12) (Nat.le_refl _) (Nat.le_refl _) ?_
          exact ih_85 ((i + 1), upd e1 (6 + i) (hi i)) _ _ _ (by first | omega | (dsimp only; omega)) ⟨hP, hD, hS, lv_sub hl [3, 4, 5, 6, 1, 0] rfl, (by omega), (by rw [rdN, ← he])⟩

noncomputable def j_L_isTable_57  : Int32 := 1
theorem zj_L_isTable_57  : j_L_isTable_57 = 0 ∨ j_L_isTable_57 = 1 := by
  unfold j_L_isTable_57
  (repeat' split) <;> first | exact Or.inl rfl | exact Or.inr rfl
noncomputable def j_L_isTable_184 (lt : Nat → Int32) (k : Nat) (i : Nat) (lw : Nat → Int32) : Int32 := if 0 < ((lt (3 * k)) - (lt (3 * i))) then 1 else (if ((lt (3 * k)) - (lt (3 * i))) = 0 then (if 0 < ((lw ((6 * k) + i)) - (lw ((6 * i) + k))) then 1 else (if ((lw ((6 * k) + i)) - (lw ((6 * i) + k))) = 0 then (if 0 < ((lt ((3 * k) + 2)) - (lt ((3 * i) + 2))) then 1 else (if ((lt ((3 * k) + 2)) - (lt ((3 * i) + 2))) = 0 then (if (nI i) ≤ (nI k) then 0 else 1) else 0)) else 0)) else 0)
theorem zj_L_isTable_184 {lt : Nat → Int32} {k : Nat} {i : Nat} {lw : Nat → Int32} : j_L_isTable_184 lt k i lw = 0 ∨ j_L_isTable_184 lt k i lw = 1 := by
  unfold j_L_isTable_184
  (repeat' split) <;> first | exact Or.inl rfl | exact Or.inr rfl
noncomputable def j_L_isTable_198 (lt : Nat → Int32) (k : Nat) (i : Nat) (lw : Nat → Int32) : Int32 := if (j_L_isTable_184 lt k i lw) = 0 then 0 else 1
theorem zj_L_isTable_198 {lt : Nat → Int32} {k : Nat} {i : Nat} {lw : Nat → Int32} : j_L_isTable_198 lt k i lw = 0 ∨ j_L_isTable_198 lt k i lw = 1 := by
  unfold j_L_isTable_198
  (repeat' split) <;> first | exact Or.inl rfl | exact Or.inr rfl
theorem tj_L_isTable_198 {lt : Nat → Int32} {k : Nat} {i : Nat} {lw : Nat → Int32} (h : ¬ j_L_isTable_198 lt k i lw = 0) : ¬ ((j_L_isTable_184 lt k i lw) = 0) := by
  unfold j_L_isTable_198 at h
  (repeat' split at h) <;> first | exact absurd rfl h | assumption
/-- isTable: one and how many of the first n are ahead of k -/
noncomputable def plT (lt lw : Nat → Int32) (i : Nat) : Nat → Int32
  | 0 => 1
  | n + 1 => plT lt lw i n + j_L_isTable_198 lt n i lw
termination_by n => n
noncomputable def j_L_isTable_272 (pt : Nat → Int32) (i : Nat) (lt : Nat → Int32) (fn : Nat → Int32) (df : Nat → Int32) (wn : Nat → Nat → Int32) (lw : Nat → Int32) : Int32 := if (pt i) = (lt (3 * i)) then (if (fn i) = (lt ((3 * i) + 1)) then (if (df i) = (lt ((3 * i) + 2)) then (if (plN pt df wn (nI i) 6) = (plT lt lw i 6) then 1 else 0) else 0) else 0) else 0
theorem zj_L_isTable_272 {pt : Nat → Int32} {i : Nat} {lt : Nat → Int32} {fn : Nat → Int32} {df : Nat → Int32} {wn : Nat → Nat → Int32} {lw : Nat → Int32} : j_L_isTable_272 pt i lt fn df wn lw = 0 ∨ j_L_isTable_272 pt i lt fn df wn lw = 1 := by
  unfold j_L_isTable_272
  (repeat' split) <;> first | exact Or.inl rfl | exact Or.inr rfl
theorem tj_L_isTable_272 {pt : Nat → Int32} {i : Nat} {lt : Nat → Int32} {fn : Nat → Int32} {df : Nat → Int32} {wn : Nat → Nat → Int32} {lw : Nat → Int32} (h : ¬ j_L_isTable_272 pt i lt fn df wn lw = 0) : ((pt i) = (lt (3 * i))) ∧ ((fn i) = (lt ((3 * i) + 1))) ∧ ((df i) = (lt ((3 * i) + 2))) ∧ ((plN pt df wn (nI i) 6) = (plT lt lw i 6)) := by
  unfold j_L_isTable_272 at h
  (repeat' split at h) <;> first | exact absurd rfl h | exact ⟨by assumption, by assumption, by assumption, by assumption⟩
set_option maxHeartbeats 4000000 in
set_option maxRecDepth 100000 in
theorem c_L_isTable (l : Launch) (hlt : l.stackTraces = false) (D : va_G) (cI cZ cJ cA : ClassId) (sx : Nat → Nat) (sz : Nat) (a : Nat → Nat) (q : Nat → Nat) (lt : Nat → Int32) (lw : Nat → Int32) (pt : Nat → Int32) (fn : Nat → Int32) (df : Nat → Int32) (wn : Nat → Nat → Int32) (h57 : j_L_isTable_57 = 1) (h272 : ∀ i : Nat, i < 6 → j_L_isTable_272 pt i lt fn df wn lw = 1) : Met l yL_isTable wsL_isTable ({ frames := 9, cells := 4, slots := 24, locals := 156 } : Room) (va_Pc [.ref (a 0), .ref (q 3), .ref (q 4)] (pcL (pcR D (tyL cI cZ cJ cA) [((a 0), .inr (5, [.ref (a 2), .ref (a 4), .ref (a 18), .ref (a 1)])), ((a 18), .inr (4, [.ref (a 19), .ref (a 20), .ref (a 21), .ref (a 22)])), ((a 19), .inl (cI, 6, .inl pt)), ((a 20), .inl (cI, 6, .inl fn)), ((a 21), .inl (cI, 6, .inl df)), ((a 22), .inl (cA, 6, .inr (.inr (.inr (.inr (fun k9 => if k9 < 6 then some (a (23 + k9)) else none)))))), ((a (23 + 0)), .inl (cI, 6, .inl (wn 0))), ((a (23 + 1)), .inl (cI, 6, .inl (wn 1))), ((a (23 + 2)), .inl (cI, 6, .inl (wn 2))), ((a (23 + 3)), .inl (cI, 6, .inl (wn 3))), ((a (23 + 4)), .inl (cI, 6, .inl (wn 4))), ((a (23 + 5)), .inl (cI, 6, .inl (wn 5))), ((q 3), .inl (cI, 18, .inl lt)), ((q 4), .inl (cI, 36, .inl lw))] sz) sx (fun q : Nat => sz ≤ q))) (va_Qi (fun (r : Int32) (u : Unit) => r = 1) (fun _ _ => True) (fun q : Nat => sz ≤ q)) 4 24 (fun q : Nat => sz ≤ q) := by
  refine Met.ofW (cc := cL_isTable) (maxL := 11) (ret := (some .boolean)) (by decide) rfl ?_
  intro p e s m args below meth c s₁ B hml hv
  obtain ⟨rfl, ⟨⟨hsz, hP, hK⟩, hE⟩, hN⟩ := hv
  have hx := B.exec
  have hb := B.bytes
  have hr := B.returns
  have hts := atoms_spec (ws := wsL_isTable) B.pre
  have hown : s.vm.findClass RL = some m.cls := findClass_of_methodNamed B.named
  have hlocks := B.notSynchronized
  subst hsz
  have hA : ∀ q : Nat, s.heap.size ≤ q → (fun q : Nat => s.heap.size ≤ q) q := fun _ h => h
  have hS : va_S (fun q : Nat => s.heap.size ≤ q) s.heap s.heap [] := va_S.rf
  have hP : va_P D vwCl [((a 0), .inr (5, [.ref (a 2), .ref (a 4), .ref (a 18), .ref (a 1)])), ((a 18), .inr (4, [.ref (a 19), .ref (a 20), .ref (a 21), .ref (a 22)])), ((a 19), .inl (cI, 6, .inl pt)), ((a 20), .inl (cI, 6, .inl fn)), ((a 21), .inl (cI, 6, .inl df)), ((a 22), .inl (cA, 6, .inr (.inr (.inr (.inr (fun k9 => if k9 < 6 then some (a (23 + k9)) else none)))))), ((a (23 + 0)), .inl (cI, 6, .inl (wn 0))), ((a (23 + 1)), .inl (cI, 6, .inl (wn 1))), ((a (23 + 2)), .inl (cI, 6, .inl (wn 2))), ((a (23 + 3)), .inl (cI, 6, .inl (wn 3))), ((a (23 + 4)), .inl (cI, 6, .inl (wn 4))), ((a (23 + 5)), .inl (cI, 6, .inl (wn 5))), ((q 3), .inl (cI, 18, .inl lt)), ((q 4), .inl (cI, 36, .inl lw))] s.heap := hP
  have hl := lv_entry ([.ref (a 0), .ref (q 3), .ref (q 4)]) (n := 11) (Nat.le_of_ble_eq_true rfl)
  rw [lg_entry_eq]
  generalize (lg_sl ([.ref (a 0), .ref (q 3), .ref (q 4)]) ++ List.replicate (11 - (lg_sl ([.ref (a 0), .ref (q 3), .ref (q 4)])).length) Slot.unset).toArray = ls at hl ⊢
  have hl : lv_has ls 11 [(0, .ref (a 0)), (1, .ref (q 3)), (2, .ref (q 4))] := hl
  refine jn_w (cells2 := 4) (slots2 := 24) (fun H locs ls => va_P D vwCl [((a 0), .inr (5, [.ref (a 2), .ref (a 4), .ref (a 18), .ref (a 1)])), ((a 18), .inr (4, [.ref (a 19), .ref (a 20), .ref (a 21), .ref (a 22)])), ((a 19), .inl (cI, 6, .inl pt)), ((a 20), .inl (cI, 6, .inl fn)), ((a 21), .inl (cI, 6, .inl df)), ((a 22), .inl (cA, 6, .inr (.inr (.inr (.inr (fun k9 => if k9 < 6 then some (a (23 + k9)) else none)))))), ((a (23 + 0)), .inl (cI, 6, .inl (wn 0))), ((a (23 + 1)), .inl (cI, 6, .inl (wn 1))), ((a (23 + 2)), .inl (cI, 6, .inl (wn 2))), ((a (23 + 3)), .inl (cI, 6, .inl (wn 3))), ((a (23 + 4)), .inl (cI, 6, .inl (wn 4))), ((a (23 + 5)), .inl (cI, 6, .inl (wn 5))), ((q 3), .inl (cI, 18, .inl lt)), ((q 4), .inl (cI, 36, .inl lw))] H ∧ va_S (fun q : Nat => s.heap.size ≤ q) s.heap H locs ∧ lv_has ls 11 [(0, .ref (a 0)), (1, .ref (q 3)), (2, .ref (q 4))]) (pc2 := 57) (st2 := []) (j_L_isTable_57) (fun jn_0 => ?_) ?_
  · refine lv_aload_n hx hb dL_isTable_0 rfl (lv_at hl 0 rfl) ?_
    refine lv_iconst (v := 4) hx hb dL_isTable_1 (by decide) ?_
    refine lv_bipush (v := 6) hx hb dL_isTable_2 (by decide) ?_
    refine lv_iconst (v := 0) hx hb dL_isTable_4 (by decide) ?_
    have hPc := hP.sub (ws' := [((a 0), .inr (5, [.ref (a 2), .ref (a 4), .ref (a 18), .ref (a 1)])), ((a 18), .inr (4, [.ref (a 19), .ref (a 20), .ref (a 21), .ref (a 22)])), ((a 19), .inl (cI, 6, .inl pt))]) [0, 1, 2] rfl
    refine va_calli (vx_runSW (As := [.ref (a 0), .int 4, .int 6, .int 0]) (rest := []) ⟨hx, hb, hml, hown, hts⟩ (c_A4 l hlt D cI cZ cJ cA sx s.heap.size a pt 6 0 askP) (vx_cwSW 4 hts gL_isTable_L_asks rfl rfl rfl (by decide +kernel) ⟨Nat.le_of_ble_eq_true rfl, Nat.le_of_ble_eq_true rfl⟩) ⟨pcLR_bl, fun U hU hW => ⟨rfl, ⟨⟨by rw [hU], by rw [hU]; exact hPc, va_K.moved hW.alike hK⟩, hE.call hS (rd_free hS hA) hU hW⟩, hN.moved hW.alike⟩⟩ rfl rfl hl.1 rfl (lv_room (Nat.le_of_ble_eq_true rfl)) dL_isTable_5 ⟨Nat.le_of_ble_eq_true rfl, Nat.le_of_ble_eq_true rfl⟩) hS (fun _ h1 h2 => absurd h1 (Nat.not_lt.mpr h2)) (rd_free hS hA) (fun r_1 u t H locs ht hvm hw hB hz1 hk1 hS => ?_)
    try dsimp only at hw
    have hr_1 := hw
    have hP := rd_P hP hk1
    obtain rfl := hr_1.symm
    refine W.widen (k := 1) (n := 6) (Nat.le_refl _) (Nat.le_refl _) ?_
    refine lv_bipush (v := (-30)) hx hb dL_isTable_8 (by decide) ?_
    refine lv_icmp_ne (tgt := 56) hx hb dL_isTable_10 (by decide) (fun c_2 => absurd (by decide) c_2) (fun _ => ?_)
    refine lv_aload_n hx hb dL_isTable_13 rfl (lv_at hl 0 rfl) ?_
    refine lv_iconst (v := 5) hx hb dL_isTable_14 (by decide) ?_
    refine lv_iconst (v := (-1)) hx hb dL_isTable_15 (by decide) ?_
    refine lv_iconst (v := 0) hx hb dL_isTable_16 (by decide) ?_
    have hPc := hP.sub (ws' := [((a 0), .inr (5, [.ref (a 2), .ref (a 4), .ref (a 18), .ref (a 1)])), ((a 18), .inr (4, [.ref (a 19), .ref (a 20), .ref (a 21), .ref (a 22)])), ((a 20), .inl (cI, 6, .inl fn))]) [0, 1, 3] rfl
    refine va_calli (vx_runSW (As := [.ref (a 0), .int 5, .int (-1), .int 0]) (rest := []) ⟨hx, hb, hml, hown, hts⟩ (c_A5 l hlt D cI cZ cJ cA sx H.size a fn (-1) 0 askF) (vx_cwSW 4 hts gL_isTable_L_asks rfl rfl rfl (by decide +kernel) ⟨Nat.le_of_ble_eq_true rfl, Nat.le_of_ble_eq_true rfl⟩) ⟨pcLR_bl, fun U hU hW => ⟨rfl, ⟨⟨by rw [hU], by rw [hU]; exact hPc, va_K.moved hW.alike hK⟩, hE.call hS (rd_free hS hA) hU hW⟩, hN.moved hW.alike⟩⟩ rfl rfl hl.1 rfl (lv_room (Nat.le_of_ble_eq_true rfl)) dL_isTable_17 ⟨Nat.le_of_ble_eq_true rfl, Nat.le_of_ble_eq_true rfl⟩) hS (fun _ h1 h2 => absurd h1 (Nat.not_lt.mpr h2)) (rd_free hS hA) (fun r_3 u t H locs ht hvm hw hB hz1 hk1 hS => ?_)
    try dsimp only at hw
    have hr_3 := hw
    have hP := rd_P hP hk1
    obtain rfl := hr_3.symm
    refine W.widen (k := 2) (n := 12) (Nat.le_refl _) (Nat.le_refl _) ?_
    refine lv_bipush (v := (-30)) hx hb dL_isTable_20 (by decide) ?_
    refine lv_icmp_ne (tgt := 56) hx hb dL_isTable_22 (by decide) (fun c_4 => absurd (by decide) c_4) (fun _ => ?_)
    refine lv_aload_n hx hb dL_isTable_25 rfl (lv_at hl 0 rfl) ?_
    refine lv_bipush (v := 6) hx hb dL_isTable_26 (by decide) ?_
    refine lv_bipush (v := 6) hx hb dL_isTable_28 (by decide) ?_
    refine lv_iconst (v := 0) hx hb dL_isTable_30 (by decide) ?_
    have hPc := hP.sub (ws' := [((a 0), .inr (5, [.ref (a 2), .ref (a 4), .ref (a 18), .ref (a 1)])), ((a 18), .inr (4, [.ref (a 19), .ref (a 20), .ref (a 21), .ref (a 22)])), ((a 21), .inl (cI, 6, .inl df))]) [0, 1, 4] rfl
    refine va_calli (vx_runSW (As := [.ref (a 0), .int 6, .int 6, .int 0]) (rest := []) ⟨hx, hb, hml, hown, hts⟩ (c_A6 l hlt D cI cZ cJ cA sx H.size a df 6 0 askD) (vx_cwSW 4 hts gL_isTable_L_asks rfl rfl rfl (by decide +kernel) ⟨Nat.le_of_ble_eq_true rfl, Nat.le_of_ble_eq_true rfl⟩) ⟨pcLR_bl, fun U hU hW => ⟨rfl, ⟨⟨by rw [hU], by rw [hU]; exact hPc, va_K.moved hW.alike hK⟩, hE.call hS (rd_free hS hA) hU hW⟩, hN.moved hW.alike⟩⟩ rfl rfl hl.1 rfl (lv_room (Nat.le_of_ble_eq_true rfl)) dL_isTable_31 ⟨Nat.le_of_ble_eq_true rfl, Nat.le_of_ble_eq_true rfl⟩) hS (fun _ h1 h2 => absurd h1 (Nat.not_lt.mpr h2)) (rd_free hS hA) (fun r_5 u t H locs ht hvm hw hB hz1 hk1 hS => ?_)
    try dsimp only at hw
    have hr_5 := hw
    have hP := rd_P hP hk1
    obtain rfl := hr_5.symm
    refine W.widen (k := 3) (n := 18) (Nat.le_refl _) (Nat.le_refl _) ?_
    refine lv_bipush (v := (-30)) hx hb dL_isTable_34 (by decide) ?_
    refine lv_icmp_ne (tgt := 56) hx hb dL_isTable_36 (by decide) (fun c_6 => absurd (by decide) c_6) (fun _ => ?_)
    refine lv_aload_n hx hb dL_isTable_39 rfl (lv_at hl 0 rfl) ?_
    refine lv_bipush (v := 7) hx hb dL_isTable_40 (by decide) ?_
    refine lv_iconst (v := (-1)) hx hb dL_isTable_42 (by decide) ?_
    refine lv_iconst (v := 0) hx hb dL_isTable_43 (by decide) ?_
    have hPc := hP.sub (ws' := [((a 0), .inr (5, [.ref (a 2), .ref (a 4), .ref (a 18), .ref (a 1)])), ((a 18), .inr (4, [.ref (a 19), .ref (a 20), .ref (a 21), .ref (a 22)])), ((a 19), .inl (cI, 6, .inl pt)), ((a 21), .inl (cI, 6, .inl df)), ((a 22), .inl (cA, 6, .inr (.inr (.inr (.inr (fun k9 => if k9 < 6 then some (a (23 + k9)) else none)))))), ((a (23 + 0)), .inl (cI, 6, .inl (wn 0))), ((a (23 + 1)), .inl (cI, 6, .inl (wn 1))), ((a (23 + 2)), .inl (cI, 6, .inl (wn 2))), ((a (23 + 3)), .inl (cI, 6, .inl (wn 3))), ((a (23 + 4)), .inl (cI, 6, .inl (wn 4))), ((a (23 + 5)), .inl (cI, 6, .inl (wn 5)))]) [0, 1, 2, 4, 5, 6, 7, 8, 9, 10, 11] rfl
    refine va_calli (vx_runSW (As := [.ref (a 0), .int 7, .int (-1), .int 0]) (rest := []) ⟨hx, hb, hml, hown, hts⟩ (c_A7 l hlt D cI cZ cJ cA sx H.size a pt df wn (-1) 0 askL) (vx_cwSW 4 hts gL_isTable_L_asks rfl rfl rfl (by decide +kernel) ⟨Nat.le_of_ble_eq_true rfl, Nat.le_of_ble_eq_true rfl⟩) ⟨pcLR_bl, fun U hU hW => ⟨rfl, ⟨⟨by rw [hU], by rw [hU]; exact hPc, va_K.moved hW.alike hK⟩, hE.call hS (rd_free hS hA) hU hW⟩, hN.moved hW.alike⟩⟩ rfl rfl hl.1 rfl (lv_room (Nat.le_of_ble_eq_true rfl)) dL_isTable_44 ⟨Nat.le_of_ble_eq_true rfl, Nat.le_of_ble_eq_true rfl⟩) hS (fun _ h1 h2 => absurd h1 (Nat.not_lt.mpr h2)) (rd_free hS hA) (fun r_7 u t H locs ht hvm hw hB hz1 hk1 hS => ?_)
    try dsimp only at hw
    have hr_7 := hw
    have hP := rd_P hP hk1
    obtain rfl := hr_7.symm
    refine W.widen (k := 4) (n := 24) (Nat.le_refl _) (Nat.le_refl _) ?_
    refine lv_bipush (v := (-30)) hx hb dL_isTable_47 (by decide) ?_
    refine lv_icmp_ne (tgt := 56) hx hb dL_isTable_49 (by decide) (fun c_8 => absurd (by decide) c_8) (fun _ => ?_)
    refine lv_iconst (v := 1) hx hb dL_isTable_52 (by decide) ?_
    refine lv_goto (tgt := 57) hx hb dL_isTable_53 (by decide) ?_
    refine W.widen (k := 4) (n := 24) (Nat.le_of_ble_eq_true rfl) (Nat.le_of_ble_eq_true rfl) ?_
    refine tp_eq (y := j_L_isTable_57) (by rw [j_L_isTable_57]) ?_
    exact jn_0 _ _ _ ⟨hP, hS, lv_sub hl [0, 1, 2] rfl⟩
  · intro H locs ls hI
    obtain ⟨hP, hS, hl⟩ := hI
    have hl : lv_has ls 11 [(0, .ref (a 0)), (1, .ref (q 3)), (2, .ref (q 4))] := hl
    have hP : va_P D vwCl [((a 0), .inr (5, [.ref (a 2), .ref (a 4), .ref (a 18), .ref (a 1)])), ((a 18), .inr (4, [.ref (a 19), .ref (a 20), .ref (a 21), .ref (a 22)])), ((a 19), .inl (cI, 6, .inl pt)), ((a 20), .inl (cI, 6, .inl fn)), ((a 21), .inl (cI, 6, .inl df)), ((a 22), .inl (cA, 6, .inr (.inr (.inr (.inr (fun k9 => if k9 < 6 then some (a (23 + k9)) else none)))))), ((a (23 + 0)), .inl (cI, 6, .inl (wn 0))), ((a (23 + 1)), .inl (cI, 6, .inl (wn 1))), ((a (23 + 2)), .inl (cI, 6, .inl (wn 2))), ((a (23 + 3)), .inl (cI, 6, .inl (wn 3))), ((a (23 + 4)), .inl (cI, 6, .inl (wn 4))), ((a (23 + 5)), .inl (cI, 6, .inl (wn 5))), ((q 3), .inl (cI, 18, .inl lt)), ((q 4), .inl (cI, 36, .inl lw))] H := hP
    refine tp_eq (y := 1) (h57) ?_
    refine lv_istore_n (lv' := [(3, .int 1), (0, .ref (a 0)), (1, .ref (q 3)), (2, .ref (q 4))]) hx hb dL_isTable_57 rfl hl (by decide) rfl (fun ls hl => ?_)
    refine lv_iconst (v := 0) hx hb dL_isTable_58 (by decide) ?_
    refine lv_istore (lv' := [(4, .int 0), (3, .int 1), (0, .ref (a 0)), (1, .ref (q 3)), (2, .ref (q 4))]) hx hb dL_isTable_59 hl (by decide) rfl (fun ls hl => ?_)
    refine lpW (σ := (Nat)) (I := fun x H locs ls => va_P D vwCl [((a 0), .inr (5, [.ref (a 2), .ref (a 4), .ref (a 18), .ref (a 1)])), ((a 18), .inr (4, [.ref (a 19), .ref (a 20), .ref (a 21), .ref (a 22)])), ((a 19), .inl (cI, 6, .inl pt)), ((a 20), .inl (cI, 6, .inl fn)), ((a 21), .inl (cI, 6, .inl df)), ((a 22), .inl (cA, 6, .inr (.inr (.inr (.inr (fun k9 => if k9 < 6 then some (a (23 + k9)) else none)))))), ((a (23 + 0)), .inl (cI, 6, .inl (wn 0))), ((a (23 + 1)), .inl (cI, 6, .inl (wn 1))), ((a (23 + 2)), .inl (cI, 6, .inl (wn 2))), ((a (23 + 3)), .inl (cI, 6, .inl (wn 3))), ((a (23 + 4)), .inl (cI, 6, .inl (wn 4))), ((a (23 + 5)), .inl (cI, 6, .inl (wn 5))), ((q 3), .inl (cI, 18, .inl lt)), ((q 4), .inl (cI, 36, .inl lw))] H ∧ va_S (fun q : Nat => s.heap.size ≤ q) s.heap H locs ∧ lv_has ls 11 [(0, .ref (a 0)), (1, .ref (q 3)), (2, .ref (q 4)), (3, .int 1), (4, .int (nI x))] ∧ (x ≤ 6)) (μ := fun x => 6 - x) ?_ 0 ⟨hP, hS, lv_sub hl [2, 3, 4, 1, 0] rfl, (Nat.zero_le _)⟩
    intro x H locs ls hI ih
    obtain ⟨i, rfl⟩ : ∃ z, z = x := ⟨_, rfl⟩
    obtain ⟨hP, hS, hl, hq_hi1⟩ := hI
    have ih_61 := ih
    have hl : lv_has ls 11 [(0, .ref (a 0)), (1, .ref (q 3)), (2, .ref (q 4)), (3, .int 1), (4, .int (nI i))] := hl
    have hP : va_P D vwCl [((a 0), .inr (5, [.ref (a 2), .ref (a 4), .ref (a 18), .ref (a 1)])), ((a 18), .inr (4, [.ref (a 19), .ref (a 20), .ref (a 21), .ref (a 22)])), ((a 19), .inl (cI, 6, .inl pt)), ((a 20), .inl (cI, 6, .inl fn)), ((a 21), .inl (cI, 6, .inl df)), ((a 22), .inl (cA, 6, .inr (.inr (.inr (.inr (fun k9 => if k9 < 6 then some (a (23 + k9)) else none)))))), ((a (23 + 0)), .inl (cI, 6, .inl (wn 0))), ((a (23 + 1)), .inl (cI, 6, .inl (wn 1))), ((a (23 + 2)), .inl (cI, 6, .inl (wn 2))), ((a (23 + 3)), .inl (cI, 6, .inl (wn 3))), ((a (23 + 4)), .inl (cI, 6, .inl (wn 4))), ((a (23 + 5)), .inl (cI, 6, .inl (wn 5))), ((q 3), .inl (cI, 18, .inl lt)), ((q 4), .inl (cI, 36, .inl lw))] H := hP
    have hi1 : i ≤ 6 := hq_hi1
    clear hq_hi1
    refine lv_iload hx hb dL_isTable_61 (lv_at hl 4 rfl) ?_
    refine lv_bipush (v := 6) hx hb dL_isTable_63 (by decide) ?_
    refine lv_icmp_ge (tgt := 279) hx hb dL_isTable_65 (by decide) (fun c_9 => ?_) (fun c_9 => ?_)
    · have nc_9 : 6 ≤ i := (nI_leI (a := 6) (b := i) (by omega) (by omega)).mp c_9
      have he_65 : i = 6 := bd_eq (N := 6) (by decide) hi1 c_9
      refine lv_iload_n hx hb dL_isTable_279 rfl (lv_at hl 3 rfl) ?_
      -- leaf 0
      refine W.widen (k := 4) (n := 24) (Nat.le_of_ble_eq_true rfl) (Nat.le_of_ble_eq_true rfl) ?_
      exact W.zret (v := 1) (ty := .boolean) hx hb hr rfl (fun t ht hW => ⟨⟨1, (), rfl, rfl, trivial⟩, hS.F ht⟩) hS.2.2 dL_isTable_280
    · have nc_9 : ¬ 6 ≤ i := fun q => c_9 ((nI_leI (a := 6) (b := i) (by omega) (by omega)).mpr q)
      have hlt_65 : i < 6 := bd_lt (N := 6) (by decide) hi1 c_9
      refine lv_iload_n hx hb dL_isTable_68 rfl (lv_at hl 3 rfl) ?_
      refine lv_if_eq (tgt := 279) hx hb dL_isTable_69 (by decide) (fun c_10 => absurd c_10 (by decide)) (fun _ => ?_)
      refine lv_iconst (v := 1) hx hb dL_isTable_72 (by decide) ?_
      refine lv_istore (lv' := [(5, .int 1), (0, .ref (a 0)), (1, .ref (q 3)), (2, .ref (q 4)), (3, .int 1), (4, .int (nI i))]) hx hb dL_isTable_73 hl (by decide) rfl (fun ls hl => ?_)
      refine lv_iconst (v := 0) hx hb dL_isTable_75 (by decide) ?_
      refine lv_istore (lv' := [(6, .int 0), (5, .int 1), (0, .ref (a 0)), (1, .ref (q 3)), (2, .ref (q 4)), (3, .int 1), (4, .int (nI i))]) hx hb dL_isTable_76 hl (by decide) rfl (fun ls hl => ?_)
      refine lpW (σ := (Nat) × (Int32)) (I := fun x H locs ls => va_P D vwCl [((a 0), .inr (5, [.ref (a 2), .ref (a 4), .ref (a 18), .ref (a 1)])), ((a 18), .inr (4, [.ref (a 19), .ref (a 20), .ref (a 21), .ref (a 22)])), ((a 19), .inl (cI, 6, .inl pt)), ((a 20), .inl (cI, 6, .inl fn)), ((a 21), .inl (cI, 6, .inl df)), ((a 22), .inl (cA, 6, .inr (.inr (.inr (.inr (fun k9 => if k9 < 6 then some (a (23 + k9)) else none)))))), ((a (23 + 0)), .inl (cI, 6, .inl (wn 0))), ((a (23 + 1)), .inl (cI, 6, .inl (wn 1))), ((a (23 + 2)), .inl (cI, 6, .inl (wn 2))), ((a (23 + 3)), .inl (cI, 6, .inl (wn 3))), ((a (23 + 4)), .inl (cI, 6, .inl (wn 4))), ((a (23 + 5)), .inl (cI, 6, .inl (wn 5))), ((q 3), .inl (cI, 18, .inl lt)), ((q 4), .inl (cI, 36, .inl lw))] H ∧ va_S (fun q : Nat => s.heap.size ≤ q) s.heap H locs ∧ lv_has ls 11 [(0, .ref (a 0)), (1, .ref (q 3)), (2, .ref (q 4)), (3, .int 1), (4, .int (nI i)), (5, .int x.2), (6, .int (nI x.1))] ∧ (x.1 ≤ 6) ∧ (x.2 = plT lt lw i x.1)) (μ := fun x => 6 - x.1) ?_ (0, 1) ⟨hP, hS, lv_sub hl [2, 3, 4, 5, 6, 1, 0] rfl, (Nat.zero_le _), (by rw [plT])⟩
      intro x H locs ls hI ih
      obtain ⟨k, v⟩ := x
      obtain ⟨hP, hS, hl, hq_hk1, hq_hv⟩ := hI
      have ih_78 := ih
      have hl : lv_has ls 11 [(0, .ref (a 0)), (1, .ref (q 3)), (2, .ref (q 4)), (3, .int 1), (4, .int (nI i)), (5, .int v), (6, .int (nI k))] := hl
      have hP : va_P D vwCl [((a 0), .inr (5, [.ref (a 2), .ref (a 4), .ref (a 18), .ref (a 1)])), ((a 18), .inr (4, [.ref (a 19), .ref (a 20), .ref (a 21), .ref (a 22)])), ((a 19), .inl (cI, 6, .inl pt)), ((a 20), .inl (cI, 6, .inl fn)), ((a 21), .inl (cI, 6, .inl df)), ((a 22), .inl (cA, 6, .inr (.inr (.inr (.inr (fun k9 => if k9 < 6 then some (a (23 + k9)) else none)))))), ((a (23 + 0)), .inl (cI, 6, .inl (wn 0))), ((a (23 + 1)), .inl (cI, 6, .inl (wn 1))), ((a (23 + 2)), .inl (cI, 6, .inl (wn 2))), ((a (23 + 3)), .inl (cI, 6, .inl (wn 3))), ((a (23 + 4)), .inl (cI, 6, .inl (wn 4))), ((a (23 + 5)), .inl (cI, 6, .inl (wn 5))), ((q 3), .inl (cI, 18, .inl lt)), ((q 4), .inl (cI, 36, .inl lw))] H := hP
      have hk1 : k ≤ 6 := hq_hk1
      have hv : v = plT lt lw i k := hq_hv
      clear hq_hk1 hq_hv
      refine lv_iload hx hb dL_isTable_78 (lv_at hl 6 rfl) ?_
      refine lv_bipush (v := 6) hx hb dL_isTable_80 (by decide) ?_
      refine lv_icmp_ge (tgt := 207) hx hb dL_isTable_82 (by decide) (fun c_11 => ?_) (fun c_11 => ?_)
      · have nc_11 : 6 ≤ k := (nI_leI (a := 6) (b := k) (by omega) (by omega)).mp c_11
        have he_82 : k = 6 := bd_eq (N := 6) (by decide) hk1 c_11
        rw [hv, he_82] at hl
        have hl : lv_has ls 11 [(0, .ref (a 0)), (1, .ref (q 3)), (2, .ref (q 4)), (3, .int 1), (4, .int (nI i)), (5, .int (plT lt lw i 6)), (6, .int (nI 6))] := hl
        refine jn_w (cells2 := 4) (slots2 := 24) (fun H locs ls => va_P D vwCl [((a 0), .inr (5, [.ref (a 2), .ref (a 4), .ref (a 18), .ref (a 1)])), ((a 18), .inr (4, [.ref (a 19), .ref (a 20), .ref (a 21), .ref (a 22)])), ((a 19), .inl (cI, 6, .inl pt)), ((a 20), .inl (cI, 6, .inl fn)), ((a 21), .inl (cI, 6, .inl df)), ((a 22), .inl (cA, 6, .inr (.inr (.inr (.inr (fun k9 => if k9 < 6 then some (a (23 + k9)) else none)))))), ((a (23 + 0)), .inl (cI, 6, .inl (wn 0))), ((a (23 + 1)), .inl (cI, 6, .inl (wn 1))), ((a (23 + 2)), .inl (cI, 6, .inl (wn 2))), ((a (23 + 3)), .inl (cI, 6, .inl (wn 3))), ((a (23 + 4)), .inl (cI, 6, .inl (wn 4))), ((a (23 + 5)), .inl (cI, 6, .inl (wn 5))), ((q 3), .inl (cI, 18, .inl lt)), ((q 4), .inl (cI, 36, .inl lw))] H ∧ va_S (fun q : Nat => s.heap.size ≤ q) s.heap H locs ∧ lv_has ls 11 [(0, .ref (a 0)), (1, .ref (q 3)), (2, .ref (q 4)), (3, .int 1), (4, .int (nI i)), (5, .int (plT lt lw i 6)), (6, .int (nI 6))]) (pc2 := 272) (st2 := []) (j_L_isTable_272 pt i lt fn df wn lw) (fun jn_207 => ?_) ?_
        · refine lv_aload_n hx hb dL_isTable_207 rfl (lv_at hl 0 rfl) ?_
          refine lv_iload hx hb dL_isTable_208 (lv_at hl 4 rfl) ?_
          have hPc := hP.sub (ws' := [((a 0), .inr (5, [.ref (a 2), .ref (a 4), .ref (a 18), .ref (a 1)])), ((a 18), .inr (4, [.ref (a 19), .ref (a 20), .ref (a 21), .ref (a 22)])), ((a 19), .inl (cI, 6, .inl pt))]) [0, 1, 2] rfl
          refine va_calli (va_runV (As := [.int (nI i)]) (rest := []) ⟨hx, hb, hml, hown, hts⟩ (c_V_points l D cI cZ cJ cA H.size a pt i (by first | assumption | omega)) (cwV 1 hts gL_isTable_X5_points rfl rfl rfl (by decide +kernel) ⟨Nat.le_of_ble_eq_true rfl, Nat.le_of_ble_eq_true rfl⟩) ⟨pcR_bl, va_recv hK hPc (ci := 5) (q0 := 0) rfl rfl, fun U hU hW => ⟨rfl, by rw [hU], by rw [hU]; exact hPc, va_K.moved hW.alike hK⟩⟩ rfl rfl hl.1 rfl (lv_room (Nat.le_of_ble_eq_true rfl)) dL_isTable_210 ⟨Nat.le_of_ble_eq_true rfl, Nat.le_of_ble_eq_true rfl⟩) hS (fun _ h1 h2 => absurd h1 (Nat.not_lt.mpr h2)) (rd_free hS hA) (fun r_12 u t H locs ht hvm hw hB hz1 hk1 hS => ?_)
          try dsimp only at hw
          have hr_12 := hw
          have hP := rd_P hP hk1
          obtain rfl := hr_12.symm
          refine W.widen (k := 4) (n := 24) (Nat.le_refl _) (Nat.le_refl _) ?_
          refine lv_aload_n hx hb dL_isTable_213 rfl (lv_at hl 1 rfl) ?_
          refine lv_iconst (v := 3) hx hb dL_isTable_214 (by decide) ?_
          refine lv_iload hx hb dL_isTable_215 (lv_at hl 4 rfl) ?_
          refine lv_imul hx hb dL_isTable_217 ?_
          refine tp_eq (y := nI (3 * i)) (pk_mul 3 i) ?_
          refine va_iald hx hb hK hP 12 0 rfl rfl (vp_in_nI (n := (3 * i)) (by omega) (by decide)) dL_isTable_218 ?_
          refine tp_eq (y := lt (3 * i)) (by rw [nI_clamp (n := (3 * i)) (by omega)]) ?_
          refine lv_icmp_ne (tgt := 271) hx hb dL_isTable_219 (by decide) (fun c_13 => ?_) (fun c_13 => ?_)
          · refine lv_iconst (v := 0) hx hb dL_isTable_271 (by decide) ?_
            refine W.widen (k := 4) (n := 24) (Nat.le_of_ble_eq_true rfl) (Nat.le_of_ble_eq_true rfl) ?_
            refine tp_eq (y := j_L_isTable_272 pt i lt fn df wn lw) (by rw [j_L_isTable_272, if_neg c_13]) ?_
            exact jn_207 _ _ _ ⟨hP, hS, lv_sub hl [0, 1, 2, 3, 4, 5, 6] rfl⟩
          · refine lv_aload_n hx hb dL_isTable_222 rfl (lv_at hl 0 rfl) ?_
            refine lv_iload hx hb dL_isTable_223 (lv_at hl 4 rfl) ?_
            have hPc := hP.sub (ws' := [((a 0), .inr (5, [.ref (a 2), .ref (a 4), .ref (a 18), .ref (a 1)])), ((a 18), .inr (4, [.ref (a 19), .ref (a 20), .ref (a 21), .ref (a 22)])), ((a 20), .inl (cI, 6, .inl fn))]) [0, 1, 3] rfl
            refine va_calli (va_runV (As := [.int (nI i)]) (rest := []) ⟨hx, hb, hml, hown, hts⟩ (c_V_fines l D cI cZ cJ cA H.size a fn i (by first | assumption | omega)) (cwV 1 hts gL_isTable_X5_fines rfl rfl rfl (by decide +kernel) ⟨Nat.le_of_ble_eq_true rfl, Nat.le_of_ble_eq_true rfl⟩) ⟨pcR_bl, va_recv hK hPc (ci := 5) (q0 := 0) rfl rfl, fun U hU hW => ⟨rfl, by rw [hU], by rw [hU]; exact hPc, va_K.moved hW.alike hK⟩⟩ rfl rfl hl.1 rfl (lv_room (Nat.le_of_ble_eq_true rfl)) dL_isTable_225 ⟨Nat.le_of_ble_eq_true rfl, Nat.le_of_ble_eq_true rfl⟩) hS (fun _ h1 h2 => absurd h1 (Nat.not_lt.mpr h2)) (rd_free hS hA) (fun r_14 u t H locs ht hvm hw hB hz1 hk1 hS => ?_)
            try dsimp only at hw
            have hr_14 := hw
            have hP := rd_P hP hk1
            obtain rfl := hr_14.symm
            refine W.widen (k := 4) (n := 24) (Nat.le_refl _) (Nat.le_refl _) ?_
            refine lv_aload_n hx hb dL_isTable_228 rfl (lv_at hl 1 rfl) ?_
            refine lv_iconst (v := 3) hx hb dL_isTable_229 (by decide) ?_
            refine lv_iload hx hb dL_isTable_230 (lv_at hl 4 rfl) ?_
            refine lv_imul hx hb dL_isTable_232 ?_
            refine tp_eq (y := nI (3 * i)) (pk_mul 3 i) ?_
            refine lv_iconst (v := 1) hx hb dL_isTable_233 (by decide) ?_
            refine lv_iadd hx hb dL_isTable_234 ?_
            refine tp_eq (y := nI ((3 * i) + 1)) (nI_add (3 * i) 1) ?_
            refine va_iald hx hb hK hP 12 0 rfl rfl (vp_in_nI (n := ((3 * i) + 1)) (by omega) (by decide)) dL_isTable_235 ?_
            refine tp_eq (y := lt ((3 * i) + 1)) (by rw [nI_clamp (n := ((3 * i) + 1)) (by omega)]) ?_
            refine lv_icmp_ne (tgt := 271) hx hb dL_isTable_236 (by decide) (fun c_15 => ?_) (fun c_15 => ?_)
            · refine lv_iconst (v := 0) hx hb dL_isTable_271 (by decide) ?_
              refine W.widen (k := 4) (n := 24) (Nat.le_of_ble_eq_true rfl) (Nat.le_of_ble_eq_true rfl) ?_
              refine tp_eq (y := j_L_isTable_272 pt i lt fn df wn lw) (by rw [j_L_isTable_272, if_pos c_13, if_neg c_15]) ?_
              exact jn_207 _ _ _ ⟨hP, hS, lv_sub hl [0, 1, 2, 3, 4, 5, 6] rfl⟩
            · refine lv_aload_n hx hb dL_isTable_239 rfl (lv_at hl 0 rfl) ?_
              refine lv_iload hx hb dL_isTable_240 (lv_at hl 4 rfl) ?_
              have hPc := hP.sub (ws' := [((a 0), .inr (5, [.ref (a 2), .ref (a 4), .ref (a 18), .ref (a 1)])), ((a 18), .inr (4, [.ref (a 19), .ref (a 20), .ref (a 21), .ref (a 22)])), ((a 21), .inl (cI, 6, .inl df))]) [0, 1, 4] rfl
              refine va_calli (va_runV (As := [.int (nI i)]) (rest := []) ⟨hx, hb, hml, hown, hts⟩ (c_V_difference l D cI cZ cJ cA H.size a df i (by first | assumption | omega)) (cwV 1 hts gL_isTable_X5_difference rfl rfl rfl (by decide +kernel) ⟨Nat.le_of_ble_eq_true rfl, Nat.le_of_ble_eq_true rfl⟩) ⟨pcR_bl, va_recv hK hPc (ci := 5) (q0 := 0) rfl rfl, fun U hU hW => ⟨rfl, by rw [hU], by rw [hU]; exact hPc, va_K.moved hW.alike hK⟩⟩ rfl rfl hl.1 rfl (lv_room (Nat.le_of_ble_eq_true rfl)) dL_isTable_242 ⟨Nat.le_of_ble_eq_true rfl, Nat.le_of_ble_eq_true rfl⟩) hS (fun _ h1 h2 => absurd h1 (Nat.not_lt.mpr h2)) (rd_free hS hA) (fun r_16 u t H locs ht hvm hw hB hz1 hk1 hS => ?_)
              try dsimp only at hw
              have hr_16 := hw
              have hP := rd_P hP hk1
              obtain rfl := hr_16.symm
              refine W.widen (k := 4) (n := 24) (Nat.le_refl _) (Nat.le_refl _) ?_
              refine lv_aload_n hx hb dL_isTable_245 rfl (lv_at hl 1 rfl) ?_
              refine lv_iconst (v := 3) hx hb dL_isTable_246 (by decide) ?_
              refine lv_iload hx hb dL_isTable_247 (lv_at hl 4 rfl) ?_
              refine lv_imul hx hb dL_isTable_249 ?_
              refine tp_eq (y := nI (3 * i)) (pk_mul 3 i) ?_
              refine lv_iconst (v := 2) hx hb dL_isTable_250 (by decide) ?_
              refine lv_iadd hx hb dL_isTable_251 ?_
              refine tp_eq (y := nI ((3 * i) + 2)) (nI_add (3 * i) 2) ?_
              refine va_iald hx hb hK hP 12 0 rfl rfl (vp_in_nI (n := ((3 * i) + 2)) (by omega) (by decide)) dL_isTable_252 ?_
              refine tp_eq (y := lt ((3 * i) + 2)) (by rw [nI_clamp (n := ((3 * i) + 2)) (by omega)]) ?_
              refine lv_icmp_ne (tgt := 271) hx hb dL_isTable_253 (by decide) (fun c_17 => ?_) (fun c_17 => ?_)
              · refine lv_iconst (v := 0) hx hb dL_isTable_271 (by decide) ?_
                refine W.widen (k := 4) (n := 24) (Nat.le_of_ble_eq_true rfl) (Nat.le_of_ble_eq_true rfl) ?_
                refine tp_eq (y := j_L_isTable_272 pt i lt fn df wn lw) (by rw [j_L_isTable_272, if_pos c_13, if_pos c_15, if_neg c_17]) ?_
                exact jn_207 _ _ _ ⟨hP, hS, lv_sub hl [0, 1, 2, 3, 4, 5, 6] rfl⟩
              · refine lv_aload_n hx hb dL_isTable_256 rfl (lv_at hl 0 rfl) ?_
                refine lv_iload hx hb dL_isTable_257 (lv_at hl 4 rfl) ?_
                have hPc := hP.sub (ws' := [((a 0), .inr (5, [.ref (a 2), .ref (a 4), .ref (a 18), .ref (a 1)])), ((a 18), .inr (4, [.ref (a 19), .ref (a 20), .ref (a 21), .ref (a 22)])), ((a 19), .inl (cI, 6, .inl pt)), ((a 21), .inl (cI, 6, .inl df)), ((a 22), .inl (cA, 6, .inr (.inr (.inr (.inr (fun k9 => if k9 < 6 then some (a (23 + k9)) else none)))))), ((a (23 + 0)), .inl (cI, 6, .inl (wn 0))), ((a (23 + 1)), .inl (cI, 6, .inl (wn 1))), ((a (23 + 2)), .inl (cI, 6, .inl (wn 2))), ((a (23 + 3)), .inl (cI, 6, .inl (wn 3))), ((a (23 + 4)), .inl (cI, 6, .inl (wn 4))), ((a (23 + 5)), .inl (cI, 6, .inl (wn 5)))]) [0, 1, 2, 4, 5, 6, 7, 8, 9, 10, 11] rfl
                refine va_calli (va_runV (As := [.int (nI i)]) (rest := []) ⟨hx, hb, hml, hown, hts⟩ (c_V_place l D cI cZ cJ cA H.size a pt df wn i (by first | assumption | omega)) (cwV 1 hts gL_isTable_X5_place rfl rfl rfl (by decide +kernel) ⟨Nat.le_of_ble_eq_true rfl, Nat.le_of_ble_eq_true rfl⟩) ⟨pcR_bl, va_recv hK hPc (ci := 5) (q0 := 0) rfl rfl, fun U hU hW => ⟨rfl, by rw [hU], by rw [hU]; exact hPc, va_K.moved hW.alike hK⟩⟩ rfl rfl hl.1 rfl (lv_room (Nat.le_of_ble_eq_true rfl)) dL_isTable_259 ⟨Nat.le_of_ble_eq_true rfl, Nat.le_of_ble_eq_true rfl⟩) hS (fun _ h1 h2 => absurd h1 (Nat.not_lt.mpr h2)) (rd_free hS hA) (fun r_18 u t H locs ht hvm hw hB hz1 hk1 hS => ?_)
                try dsimp only at hw
                have hr_18 := hw
                have hP := rd_P hP hk1
                obtain rfl := hr_18.symm
                refine W.widen (k := 4) (n := 24) (Nat.le_refl _) (Nat.le_refl _) ?_
                refine lv_iload hx hb dL_isTable_262 (lv_at hl 5 rfl) ?_
                refine lv_icmp_ne (tgt := 271) hx hb dL_isTable_264 (by decide) (fun c_19 => ?_) (fun c_19 => ?_)
                · refine lv_iconst (v := 0) hx hb dL_isTable_271 (by decide) ?_
                  refine W.widen (k := 4) (n := 24) (Nat.le_of_ble_eq_true rfl) (Nat.le_of_ble_eq_true rfl) ?_
                  refine tp_eq (y := j_L_isTable_272 pt i lt fn df wn lw) (by rw [j_L_isTable_272, if_pos c_13, if_pos c_15, if_pos c_17, if_neg c_19]) ?_
                  exact jn_207 _ _ _ ⟨hP, hS, lv_sub hl [0, 1, 2, 3, 4, 5, 6] rfl⟩
                · refine lv_iconst (v := 1) hx hb dL_isTable_267 (by decide) ?_
                  refine lv_goto (tgt := 272) hx hb dL_isTable_268 (by decide) ?_
                  refine W.widen (k := 4) (n := 24) (Nat.le_of_ble_eq_true rfl) (Nat.le_of_ble_eq_true rfl) ?_
                  refine tp_eq (y := j_L_isTable_272 pt i lt fn df wn lw) (by rw [j_L_isTable_272, if_pos c_13, if_pos c_15, if_pos c_17, if_pos c_19]) ?_
                  exact jn_207 _ _ _ ⟨hP, hS, lv_sub hl [0, 1, 2, 3, 4, 5, 6] rfl⟩
        · intro H locs ls hI
          obtain ⟨hP, hS, hl⟩ := hI
          have hl : lv_has ls 11 [(0, .ref (a 0)), (1, .ref (q 3)), (2, .ref (q 4)), (3, .int 1), (4, .int (nI i)), (5, .int (plT lt lw i 6)), (6, .int (nI 6))] := hl
          have hP : va_P D vwCl [((a 0), .inr (5, [.ref (a 2), .ref (a 4), .ref (a 18), .ref (a 1)])), ((a 18), .inr (4, [.ref (a 19), .ref (a 20), .ref (a 21), .ref (a 22)])), ((a 19), .inl (cI, 6, .inl pt)), ((a 20), .inl (cI, 6, .inl fn)), ((a 21), .inl (cI, 6, .inl df)), ((a 22), .inl (cA, 6, .inr (.inr (.inr (.inr (fun k9 => if k9 < 6 then some (a (23 + k9)) else none)))))), ((a (23 + 0)), .inl (cI, 6, .inl (wn 0))), ((a (23 + 1)), .inl (cI, 6, .inl (wn 1))), ((a (23 + 2)), .inl (cI, 6, .inl (wn 2))), ((a (23 + 3)), .inl (cI, 6, .inl (wn 3))), ((a (23 + 4)), .inl (cI, 6, .inl (wn 4))), ((a (23 + 5)), .inl (cI, 6, .inl (wn 5))), ((q 3), .inl (cI, 18, .inl lt)), ((q 4), .inl (cI, 36, .inl lw))] H := hP
          refine tp_eq (y := 1) (h272 i hlt_65) ?_
          refine lv_istore_n (lv' := [(3, .int 1), (0, .ref (a 0)), (1, .ref (q 3)), (2, .ref (q 4)), (4, .int (nI i)), (5, .int (plT lt lw i 6)), (6, .int (nI 6))]) hx hb dL_isTable_272 rfl hl (by decide) rfl (fun ls hl => ?_)
          refine lv_iinc (v := nI (i + 1)) (lv' := [(4, .int (nI (i + 1))), (3, .int 1), (0, .ref (a 0)), (1, .ref (q 3)), (2, .ref (q 4)), (5, .int (plT lt lw i 6)), (6, .int (nI 6))]) hx hb dL_isTable_273 hl (k := 4) rfl (nI_1 i) (by decide) rfl (fun ls hl => ?_)
          refine lv_goto (tgt := 61) hx hb dL_isTable_276 (by decide) ?_
          refine W.widen (k := 4) (n := 24) (Nat.le_refl _) (Nat.le_refl _) ?_
          exact ih_61 (i + 1) _ _ _ (by first | omega | (dsimp only; omega)) ⟨hP, hS, lv_sub hl [2, 3, 4, 1, 0] rfl, (by omega)⟩
      · have nc_11 : ¬ 6 ≤ k := fun q => c_11 ((nI_leI (a := 6) (b := k) (by omega) (by omega)).mpr q)
        have hlt_82 : k < 6 := bd_lt (N := 6) (by decide) hk1 c_11
        refine lv_aload_n hx hb dL_isTable_85 rfl (lv_at hl 1 rfl) ?_
        refine lv_iconst (v := 3) hx hb dL_isTable_86 (by decide) ?_
        refine lv_iload hx hb dL_isTable_87 (lv_at hl 6 rfl) ?_
        refine lv_imul hx hb dL_isTable_89 ?_
        refine tp_eq (y := nI (3 * k)) (pk_mul 3 k) ?_
        refine va_iald hx hb hK hP 12 0 rfl rfl (vp_in_nI (n := (3 * k)) (by omega) (by decide)) dL_isTable_90 ?_
        refine tp_eq (y := lt (3 * k)) (by rw [nI_clamp (n := (3 * k)) (by omega)]) ?_
        refine lv_aload_n hx hb dL_isTable_91 rfl (lv_at hl 1 rfl) ?_
        refine lv_iconst (v := 3) hx hb dL_isTable_92 (by decide) ?_
        refine lv_iload hx hb dL_isTable_93 (lv_at hl 4 rfl) ?_
        refine lv_imul hx hb dL_isTable_95 ?_
        refine tp_eq (y := nI (3 * i)) (pk_mul 3 i) ?_
        refine va_iald hx hb hK hP 12 0 rfl rfl (vp_in_nI (n := (3 * i)) (by omega) (by decide)) dL_isTable_96 ?_
        refine tp_eq (y := lt (3 * i)) (by rw [nI_clamp (n := (3 * i)) (by omega)]) ?_
        refine lv_isub hx hb dL_isTable_97 ?_
        refine lv_istore (lv' := [(7, .int ((lt (3 * k)) - (lt (3 * i)))), (0, .ref (a 0)), (1, .ref (q 3)), (2, .ref (q 4)), (3, .int 1), (4, .int (nI i)), (5, .int v), (6, .int (nI k))]) hx hb dL_isTable_98 hl (by decide) rfl (fun ls hl => ?_)
        refine lv_aload_n hx hb dL_isTable_100 rfl (lv_at hl 3 rfl) ?_
        refine lv_bipush (v := 6) hx hb dL_isTable_101 (by decide) ?_
        refine lv_iload hx hb dL_isTable_103 (lv_at hl 7 rfl) ?_
        refine lv_imul hx hb dL_isTable_105 ?_
        refine tp_eq (y := nI (6 * k)) (pk_mul 6 k) ?_
        refine lv_iload hx hb dL_isTable_106 (lv_at hl 5 rfl) ?_
        refine lv_iadd hx hb dL_isTable_108 ?_
        refine tp_eq (y := nI ((6 * k) + i)) (nI_add (6 * k) i) ?_
        refine va_iald hx hb hK hP 13 0 rfl rfl (vp_in_nI (n := ((6 * k) + i)) (by omega) (by decide)) dL_isTable_109 ?_
        refine tp_eq (y := lw ((6 * k) + i)) (by rw [nI_clamp (n := ((6 * k) + i)) (by omega)]) ?_
        refine lv_aload_n hx hb dL_isTable_110 rfl (lv_at hl 3 rfl) ?_
        refine lv_bipush (v := 6) hx hb dL_isTable_111 (by decide) ?_
        refine lv_iload hx hb dL_isTable_113 (lv_at hl 5 rfl) ?_
        refine lv_imul hx hb dL_isTable_115 ?_
        refine tp_eq (y := nI (6 * i)) (pk_mul 6 i) ?_
        refine lv_iload hx hb dL_isTable_116 (lv_at hl 7 rfl) ?_
        refine lv_iadd hx hb dL_isTable_118 ?_
        refine tp_eq (y := nI ((6 * i) + k)) (nI_add (6 * i) k) ?_
        refine va_iald hx hb hK hP 13 0 rfl rfl (vp_in_nI (n := ((6 * i) + k)) (by omega) (by decide)) dL_isTable_119 ?_
        refine tp_eq (y := lw ((6 * i) + k)) (by rw [nI_clamp (n := ((6 * i) + k)) (by omega)]) ?_
        refine lv_isub hx hb dL_isTable_120 ?_
        refine lv_istore (lv' := [(8, .int ((lw ((6 * k) + i)) - (lw ((6 * i) + k)))), (7, .int ((lt (3 * k)) - (lt (3 * i)))), (0, .ref (a 0)), (1, .ref (q 3)), (2, .ref (q 4)), (3, .int 1), (4, .int (nI i)), (5, .int v), (6, .int (nI k))]) hx hb dL_isTable_121 hl (by decide) rfl (fun ls hl => ?_)
        refine lv_aload_n hx hb dL_isTable_123 rfl (lv_at hl 3 rfl) ?_
        refine lv_iconst (v := 3) hx hb dL_isTable_124 (by decide) ?_
        refine lv_iload hx hb dL_isTable_125 (lv_at hl 8 rfl) ?_
        refine lv_imul hx hb dL_isTable_127 ?_
        refine tp_eq (y := nI (3 * k)) (pk_mul 3 k) ?_
        refine lv_iconst (v := 2) hx hb dL_isTable_128 (by decide) ?_
        refine lv_iadd hx hb dL_isTable_129 ?_
        refine tp_eq (y := nI ((3 * k) + 2)) (nI_add (3 * k) 2) ?_
        refine va_iald hx hb hK hP 12 0 rfl rfl (vp_in_nI (n := ((3 * k) + 2)) (by omega) (by decide)) dL_isTable_130 ?_
        refine tp_eq (y := lt ((3 * k) + 2)) (by rw [nI_clamp (n := ((3 * k) + 2)) (by omega)]) ?_
        refine lv_aload_n hx hb dL_isTable_131 rfl (lv_at hl 3 rfl) ?_
        refine lv_iconst (v := 3) hx hb dL_isTable_132 (by decide) ?_
        refine lv_iload hx hb dL_isTable_133 (lv_at hl 6 rfl) ?_
        refine lv_imul hx hb dL_isTable_135 ?_
        refine tp_eq (y := nI (3 * i)) (pk_mul 3 i) ?_
        refine lv_iconst (v := 2) hx hb dL_isTable_136 (by decide) ?_
        refine lv_iadd hx hb dL_isTable_137 ?_
        refine tp_eq (y := nI ((3 * i) + 2)) (nI_add (3 * i) 2) ?_
        refine va_iald hx hb hK hP 12 0 rfl rfl (vp_in_nI (n := ((3 * i) + 2)) (by omega) (by decide)) dL_isTable_138 ?_
        refine tp_eq (y := lt ((3 * i) + 2)) (by rw [nI_clamp (n := ((3 * i) + 2)) (by omega)]) ?_
        refine lv_isub hx hb dL_isTable_139 ?_
        refine lv_istore (lv' := [(9, .int ((lt ((3 * k) + 2)) - (lt ((3 * i) + 2)))), (8, .int ((lw ((6 * k) + i)) - (lw ((6 * i) + k)))), (7, .int ((lt (3 * k)) - (lt (3 * i)))), (0, .ref (a 0)), (1, .ref (q 3)), (2, .ref (q 4)), (3, .int 1), (4, .int (nI i)), (5, .int v), (6, .int (nI k))]) hx hb dL_isTable_140 hl (by decide) rfl (fun ls hl => ?_)
        refine jn_w (cells2 := 4) (slots2 := 24) (fun H locs ls => va_P D vwCl [((a 0), .inr (5, [.ref (a 2), .ref (a 4), .ref (a 18), .ref (a 1)])), ((a 18), .inr (4, [.ref (a 19), .ref (a 20), .ref (a 21), .ref (a 22)])), ((a 19), .inl (cI, 6, .inl pt)), ((a 20), .inl (cI, 6, .inl fn)), ((a 21), .inl (cI, 6, .inl df)), ((a 22), .inl (cA, 6, .inr (.inr (.inr (.inr (fun k9 => if k9 < 6 then some (a (23 + k9)) else none)))))), ((a (23 + 0)), .inl (cI, 6, .inl (wn 0))), ((a (23 + 1)), .inl (cI, 6, .inl (wn 1))), ((a (23 + 2)), .inl (cI, 6, .inl (wn 2))), ((a (23 + 3)), .inl (cI, 6, .inl (wn 3))), ((a (23 + 4)), .inl (cI, 6, .inl (wn 4))), ((a (23 + 5)), .inl (cI, 6, .inl (wn 5))), ((q 3), .inl (cI, 18, .inl lt)), ((q 4), .inl (cI, 36, .inl lw))] H ∧ va_S (fun q : Nat => s.heap.size ≤ q) s.heap H locs ∧ lv_has ls 11 [(9, .int ((lt ((3 * k) + 2)) - (lt ((3 * i) + 2)))), (8, .int ((lw ((6 * k) + i)) - (lw ((6 * i) + k)))), (7, .int ((lt (3 * k)) - (lt (3 * i)))), (0, .ref (a 0)), (1, .ref (q 3)), (2, .ref (q 4)), (3, .int 1), (4, .int (nI i)), (5, .int v), (6, .int (nI k))]) (pc2 := 184) (st2 := []) (j_L_isTable_184 lt k i lw) (fun jn_142 => ?_) ?_
        · refine lv_iload hx hb dL_isTable_142 (lv_at hl 2 rfl) ?_
          refine lv_if_gt (tgt := 179) hx hb dL_isTable_144 (by decide) (fun c_20 => ?_) (fun c_20 => ?_)
          · refine lv_iconst (v := 1) hx hb dL_isTable_179 (by decide) ?_
            refine lv_goto (tgt := 184) hx hb dL_isTable_180 (by decide) ?_
            refine W.widen (k := 4) (n := 24) (Nat.le_of_ble_eq_true rfl) (Nat.le_of_ble_eq_true rfl) ?_
            refine tp_eq (y := j_L_isTable_184 lt k i lw) (by rw [j_L_isTable_184, if_pos c_20]) ?_
            exact jn_142 _ _ _ ⟨hP, hS, lv_sub hl [0, 1, 2, 3, 4, 5, 6, 7, 8, 9] rfl⟩
          · refine lv_iload hx hb dL_isTable_147 (lv_at hl 2 rfl) ?_
            refine lv_if_ne (tgt := 183) hx hb dL_isTable_149 (by decide) (fun c_21 => ?_) (fun c_21 => ?_)
            · refine lv_iconst (v := 0) hx hb dL_isTable_183 (by decide) ?_
              refine W.widen (k := 4) (n := 24) (Nat.le_of_ble_eq_true rfl) (Nat.le_of_ble_eq_true rfl) ?_
              refine tp_eq (y := j_L_isTable_184 lt k i lw) (by rw [j_L_isTable_184, if_neg c_20, if_neg c_21]) ?_
              exact jn_142 _ _ _ ⟨hP, hS, lv_sub hl [0, 1, 2, 3, 4, 5, 6, 7, 8, 9] rfl⟩
            · refine lv_iload hx hb dL_isTable_152 (lv_at hl 1 rfl) ?_
              refine lv_if_gt (tgt := 179) hx hb dL_isTable_154 (by decide) (fun c_22 => ?_) (fun c_22 => ?_)
              · refine lv_iconst (v := 1) hx hb dL_isTable_179 (by decide) ?_
                refine lv_goto (tgt := 184) hx hb dL_isTable_180 (by decide) ?_
                refine W.widen (k := 4) (n := 24) (Nat.le_of_ble_eq_true rfl) (Nat.le_of_ble_eq_true rfl) ?_
                refine tp_eq (y := j_L_isTable_184 lt k i lw) (by rw [j_L_isTable_184, if_neg c_20, if_pos c_21, if_pos c_22]) ?_
                exact jn_142 _ _ _ ⟨hP, hS, lv_sub hl [0, 1, 2, 3, 4, 5, 6, 7, 8, 9] rfl⟩
              · refine lv_iload hx hb dL_isTable_157 (lv_at hl 1 rfl) ?_
                refine lv_if_ne (tgt := 183) hx hb dL_isTable_159 (by decide) (fun c_23 => ?_) (fun c_23 => ?_)
                · refine lv_iconst (v := 0) hx hb dL_isTable_183 (by decide) ?_
                  refine W.widen (k := 4) (n := 24) (Nat.le_of_ble_eq_true rfl) (Nat.le_of_ble_eq_true rfl) ?_
                  refine tp_eq (y := j_L_isTable_184 lt k i lw) (by rw [j_L_isTable_184, if_neg c_20, if_pos c_21, if_neg c_22, if_neg c_23]) ?_
                  exact jn_142 _ _ _ ⟨hP, hS, lv_sub hl [0, 1, 2, 3, 4, 5, 6, 7, 8, 9] rfl⟩
                · refine lv_iload hx hb dL_isTable_162 (lv_at hl 0 rfl) ?_
                  refine lv_if_gt (tgt := 179) hx hb dL_isTable_164 (by decide) (fun c_24 => ?_) (fun c_24 => ?_)
                  · refine lv_iconst (v := 1) hx hb dL_isTable_179 (by decide) ?_
                    refine lv_goto (tgt := 184) hx hb dL_isTable_180 (by decide) ?_
                    refine W.widen (k := 4) (n := 24) (Nat.le_of_ble_eq_true rfl) (Nat.le_of_ble_eq_true rfl) ?_
                    refine tp_eq (y := j_L_isTable_184 lt k i lw) (by rw [j_L_isTable_184, if_neg c_20, if_pos c_21, if_neg c_22, if_pos c_23, if_pos c_24]) ?_
                    exact jn_142 _ _ _ ⟨hP, hS, lv_sub hl [0, 1, 2, 3, 4, 5, 6, 7, 8, 9] rfl⟩
                  · refine lv_iload hx hb dL_isTable_167 (lv_at hl 0 rfl) ?_
                    refine lv_if_ne (tgt := 183) hx hb dL_isTable_169 (by decide) (fun c_25 => ?_) (fun c_25 => ?_)
                    · refine lv_iconst (v := 0) hx hb dL_isTable_183 (by decide) ?_
                      refine W.widen (k := 4) (n := 24) (Nat.le_of_ble_eq_true rfl) (Nat.le_of_ble_eq_true rfl) ?_
                      refine tp_eq (y := j_L_isTable_184 lt k i lw) (by rw [j_L_isTable_184, if_neg c_20, if_pos c_21, if_neg c_22, if_pos c_23, if_neg c_24, if_neg c_25]) ?_
                      exact jn_142 _ _ _ ⟨hP, hS, lv_sub hl [0, 1, 2, 3, 4, 5, 6, 7, 8, 9] rfl⟩
                    · refine lv_iload hx hb dL_isTable_172 (lv_at hl 9 rfl) ?_
                      refine lv_iload hx hb dL_isTable_174 (lv_at hl 7 rfl) ?_
                      refine lv_icmp_ge (tgt := 183) hx hb dL_isTable_176 (by decide) (fun c_26 => ?_) (fun c_26 => ?_)
                      · have nc_26 : i ≤ k := (nI_leI (a := i) (b := k) (by omega) (by omega)).mp c_26
                        refine lv_iconst (v := 0) hx hb dL_isTable_183 (by decide) ?_
                        refine W.widen (k := 4) (n := 24) (Nat.le_of_ble_eq_true rfl) (Nat.le_of_ble_eq_true rfl) ?_
                        refine tp_eq (y := j_L_isTable_184 lt k i lw) (by rw [j_L_isTable_184, if_neg c_20, if_pos c_21, if_neg c_22, if_pos c_23, if_neg c_24, if_pos c_25, if_pos c_26]) ?_
                        exact jn_142 _ _ _ ⟨hP, hS, lv_sub hl [0, 1, 2, 3, 4, 5, 6, 7, 8, 9] rfl⟩
                      · have nc_26 : ¬ i ≤ k := fun q => c_26 ((nI_leI (a := i) (b := k) (by omega) (by omega)).mpr q)
                        refine lv_iconst (v := 1) hx hb dL_isTable_179 (by decide) ?_
                        refine lv_goto (tgt := 184) hx hb dL_isTable_180 (by decide) ?_
                        refine W.widen (k := 4) (n := 24) (Nat.le_of_ble_eq_true rfl) (Nat.le_of_ble_eq_true rfl) ?_
                        refine tp_eq (y := j_L_isTable_184 lt k i lw) (by rw [j_L_isTable_184, if_neg c_20, if_pos c_21, if_neg c_22, if_pos c_23, if_neg c_24, if_pos c_25, if_neg c_26]) ?_
                        exact jn_142 _ _ _ ⟨hP, hS, lv_sub hl [0, 1, 2, 3, 4, 5, 6, 7, 8, 9] rfl⟩
        · intro H locs ls hI
          obtain ⟨hP, hS, hl⟩ := hI
          have hl : lv_has ls 11 [(9, .int ((lt ((3 * k) + 2)) - (lt ((3 * i) + 2)))), (8, .int ((lw ((6 * k) + i)) - (lw ((6 * i) + k)))), (7, .int ((lt (3 * k)) - (lt (3 * i)))), (0, .ref (a 0)), (1, .ref (q 3)), (2, .ref (q 4)), (3, .int 1), (4, .int (nI i)), (5, .int v), (6, .int (nI k))] := hl
          have hP : va_P D vwCl [((a 0), .inr (5, [.ref (a 2), .ref (a 4), .ref (a 18), .ref (a 1)])), ((a 18), .inr (4, [.ref (a 19), .ref (a 20), .ref (a 21), .ref (a 22)])), ((a 19), .inl (cI, 6, .inl pt)), ((a 20), .inl (cI, 6, .inl fn)), ((a 21), .inl (cI, 6, .inl df)), ((a 22), .inl (cA, 6, .inr (.inr (.inr (.inr (fun k9 => if k9 < 6 then some (a (23 + k9)) else none)))))), ((a (23 + 0)), .inl (cI, 6, .inl (wn 0))), ((a (23 + 1)), .inl (cI, 6, .inl (wn 1))), ((a (23 + 2)), .inl (cI, 6, .inl (wn 2))), ((a (23 + 3)), .inl (cI, 6, .inl (wn 3))), ((a (23 + 4)), .inl (cI, 6, .inl (wn 4))), ((a (23 + 5)), .inl (cI, 6, .inl (wn 5))), ((q 3), .inl (cI, 18, .inl lt)), ((q 4), .inl (cI, 36, .inl lw))] H := hP
          refine lv_istore (lv' := [(10, .int (j_L_isTable_184 lt k i lw)), (9, .int ((lt ((3 * k) + 2)) - (lt ((3 * i) + 2)))), (8, .int ((lw ((6 * k) + i)) - (lw ((6 * i) + k)))), (7, .int ((lt (3 * k)) - (lt (3 * i)))), (0, .ref (a 0)), (1, .ref (q 3)), (2, .ref (q 4)), (3, .int 1), (4, .int (nI i)), (5, .int v), (6, .int (nI k))]) hx hb dL_isTable_184 hl (by decide) rfl (fun ls hl => ?_)
          refine lv_iload hx hb dL_isTable_186 (lv_at hl 9 rfl) ?_
          refine jn_w (cells2 := 4) (slots2 := 24) (fun H locs ls => va_P D vwCl [((a 0), .inr (5, [.ref (a 2), .ref (a 4), .ref (a 18), .ref (a 1)])), ((a 18), .inr (4, [.ref (a 19), .ref (a 20), .ref (a 21), .ref (a 22)])), ((a 19), .inl (cI, 6, .inl pt)), ((a 20), .inl (cI, 6, .inl fn)), ((a 21), .inl (cI, 6, .inl df)), ((a 22), .inl (cA, 6, .inr (.inr (.inr (.inr (fun k9 => if k9 < 6 then some (a (23 + k9)) else none)))))), ((a (23 + 0)), .inl (cI, 6, .inl (wn 0))), ((a (23 + 1)), .inl (cI, 6, .inl (wn 1))), ((a (23 + 2)), .inl (cI, 6, .inl (wn 2))), ((a (23 + 3)), .inl (cI, 6, .inl (wn 3))), ((a (23 + 4)), .inl (cI, 6, .inl (wn 4))), ((a (23 + 5)), .inl (cI, 6, .inl (wn 5))), ((q 3), .inl (cI, 18, .inl lt)), ((q 4), .inl (cI, 36, .inl lw))] H ∧ va_S (fun q : Nat => s.heap.size ≤ q) s.heap H locs ∧ lv_has ls 11 [(10, .int (j_L_isTable_184 lt k i lw)), (9, .int ((lt ((3 * k) + 2)) - (lt ((3 * i) + 2)))), (8, .int ((lw ((6 * k) + i)) - (lw ((6 * i) + k)))), (7, .int ((lt (3 * k)) - (lt (3 * i)))), (0, .ref (a 0)), (1, .ref (q 3)), (2, .ref (q 4)), (3, .int 1), (4, .int (nI i)), (5, .int v), (6, .int (nI k))]) (pc2 := 198) (st2 := [.int v]) (j_L_isTable_198 lt k i lw) (fun jn_188 => ?_) ?_
          · refine lv_iload hx hb dL_isTable_188 (lv_at hl 0 rfl) ?_
            refine lv_if_eq (tgt := 197) hx hb dL_isTable_190 (by decide) (fun c_27 => ?_) (fun c_27 => ?_)
            · refine lv_iconst (v := 0) hx hb dL_isTable_197 (by decide) ?_
              refine W.widen (k := 4) (n := 24) (Nat.le_of_ble_eq_true rfl) (Nat.le_of_ble_eq_true rfl) ?_
              refine tp_eq (y := j_L_isTable_198 lt k i lw) (by rw [j_L_isTable_198, if_pos c_27]) ?_
              exact jn_188 _ _ _ ⟨hP, hS, lv_sub hl [0, 1, 2, 3, 4, 5, 6, 7, 8, 9, 10] rfl⟩
            · refine lv_iconst (v := 1) hx hb dL_isTable_193 (by decide) ?_
              refine lv_goto (tgt := 198) hx hb dL_isTable_194 (by decide) ?_
              refine W.widen (k := 4) (n := 24) (Nat.le_of_ble_eq_true rfl) (Nat.le_of_ble_eq_true rfl) ?_
              refine tp_eq (y := j_L_isTable_198 lt k i lw) (by rw [j_L_isTable_198, if_neg c_27]) ?_
              exact jn_188 _ _ _ ⟨hP, hS, lv_sub hl [0, 1, 2, 3, 4, 5, 6, 7, 8, 9, 10] rfl⟩
          · intro H locs ls hI
            obtain ⟨hP, hS, hl⟩ := hI
            have hl : lv_has ls 11 [(10, .int (j_L_isTable_184 lt k i lw)), (9, .int ((lt ((3 * k) + 2)) - (lt ((3 * i) + 2)))), (8, .int ((lw ((6 * k) + i)) - (lw ((6 * i) + k)))), (7, .int ((lt (3 * k)) - (lt (3 * i)))), (0, .ref (a 0)), (1, .ref (q 3)), (2, .ref (q 4)), (3, .int 1), (4, .int (nI i)), (5, .int v), (6, .int (nI k))] := hl
            have hP : va_P D vwCl [((a 0), .inr (5, [.ref (a 2), .ref (a 4), .ref (a 18), .ref (a 1)])), ((a 18), .inr (4, [.ref (a 19), .ref (a 20), .ref (a 21), .ref (a 22)])), ((a 19), .inl (cI, 6, .inl pt)), ((a 20), .inl (cI, 6, .inl fn)), ((a 21), .inl (cI, 6, .inl df)), ((a 22), .inl (cA, 6, .inr (.inr (.inr (.inr (fun k9 => if k9 < 6 then some (a (23 + k9)) else none)))))), ((a (23 + 0)), .inl (cI, 6, .inl (wn 0))), ((a (23 + 1)), .inl (cI, 6, .inl (wn 1))), ((a (23 + 2)), .inl (cI, 6, .inl (wn 2))), ((a (23 + 3)), .inl (cI, 6, .inl (wn 3))), ((a (23 + 4)), .inl (cI, 6, .inl (wn 4))), ((a (23 + 5)), .inl (cI, 6, .inl (wn 5))), ((q 3), .inl (cI, 18, .inl lt)), ((q 4), .inl (cI, 36, .inl lw))] H := hP
            refine lv_iadd hx hb dL_isTable_198 ?_
            refine lv_istore (lv' := [(5, .int (v + (j_L_isTable_198 lt k i lw))), (10, .int (j_L_isTable_184 lt k i lw)), (9, .int ((lt ((3 * k) + 2)) - (lt ((3 * i) + 2)))), (8, .int ((lw ((6 * k) + i)) - (lw ((6 * i) + k)))), (7, .int ((lt (3 * k)) - (lt (3 * i)))), (0, .ref (a 0)), (1, .ref (q 3)), (2, .ref (q 4)), (3, .int 1), (4, .int (nI i)), (6, .int (nI k))]) hx hb dL_isTable_199 hl (by decide) rfl (fun ls hl => ?_)
            refine lv_iinc (v := nI (k + 1)) (lv' := [(6, .int (nI (k + 1))), (5, .int (v + (j_L_isTable_198 lt k i lw))), (10, .int (j_L_isTable_184 lt k i lw)), (9, .int ((lt ((3 * k) + 2)) - (lt ((3 * i) + 2)))), (8, .int ((lw ((6 * k) + i)) - (lw ((6 * i) + k)))), (7, .int ((lt (3 * k)) - (lt (3 * i)))), (0, .ref (a 0)), (1, .ref (q 3)), (2, .ref (q 4)), (3, .int 1), (4, .int (nI i))]) hx hb dL_isTable_201 hl (k := 10) rfl (nI_1 k) (by decide) rfl (fun ls hl => ?_)
            refine lv_goto (tgt := 78) hx hb dL_isTable_204 (by decide) ?_
            refine W.widen (k := 4) (n := 24) (Nat.le_refl _) (Nat.le_refl _) ?_
            exact ih_78 ((k + 1), v + (j_L_isTable_198 lt k i lw)) _ _ _ (by first | omega | (dsimp only; omega)) ⟨hP, hS, lv_sub hl [6, 7, 8, 9, 10, 1, 0] rfl, (by omega), (by rw [plT, ← hv])⟩
