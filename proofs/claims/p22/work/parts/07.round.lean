/-- class: behind n shots of a tick: how many struck, the hits -/
noncomputable def ntS (bk : Nat → Int32) (hm aw tk : Int32) (ce hi : Nat → Int32) (sn : Nat) (sa sb sc sd : Nat → Int32) : Nat → Int32 × (Nat → Int32)
  | 0 => (0, hi)
  | n + 1 => if sd n = tk then (if f_X2_strikes bk hm aw tk ce (ntS bk hm aw tk ce hi sn sa sb sc sd n).2 sn sa sb sc (nI n) = 0 then ((ntS bk hm aw tk ce hi sn sa sb sc sd n).1, g_hi_X2_strikes bk hm aw tk ce (ntS bk hm aw tk ce hi sn sa sb sc sd n).2 sn sa sb sc (nI n)) else ((ntS bk hm aw tk ce hi sn sa sb sc sd n).1 + 1, g_hi_X2_strikes bk hm aw tk ce (ntS bk hm aw tk ce hi sn sa sb sc sd n).2 sn sa sb sc (nI n))) else ntS bk hm aw tk ce hi sn sa sb sc sd n
termination_by n => n
set_option maxHeartbeats 4000000 in
set_option maxRecDepth 100000 in
theorem c_X2_nextTick (l : Launch) (D : va_G) (cI cZ cJ cA : ClassId) (sz : Nat) (a : Nat → Nat) (bk : Nat → Int32) (hm : Int32) (aw : Int32) (tk : Int32) (ce : Nat → Int32) (hi : Nat → Int32) (sn : Nat) (sa : Nat → Int32) (sb : Nat → Int32) (sc : Nat → Int32) (sd : Nat → Int32) (h1 : sn ≤ 100) (h2 : ∀ j : Nat, j < sn → vp_in (sb j) 144) (h3 : ∀ j : Nat, j < sn → vp_in (sc j) 144) : Met l yX2_nextTick wsX2_nextTick ({ frames := 4, cells := 0, slots := 0, locals := 101 } : Room) (va_Pc [.ref (a 4), .ref (a 2)] (pcW D (tyL cI cZ cJ cA) [((a 4), .inr (2, [.int hm, .int aw, .int tk, .ref (a 5), .ref (a 6), .ref (a 7), .ref (a 8), .ref (a 13)])), ((a 5), .inl (cI, 6, .inl ce)), ((a 6), .inl (cI, 6, .inl hi)), ((a 8), .inr (3, [.int (nI sn), .ref (a 9), .ref (a 10), .ref (a 11), .ref (a 12)])), ((a 9), .inl (cI, 100, .inl sa)), ((a 10), .inl (cI, 100, .inl sb)), ((a 11), .inl (cI, 100, .inl sc)), ((a 12), .inl (cI, 100, .inl sd)), ((a 2), .inr (1, [.ref (a 3)])), ((a 3), .inl (cZ, 144, .inl bk))] sz)) (va_Qi (fun (r : Int32) (u : (Int32) × (Nat → Int32)) => r = (ntS bk hm aw (tk + 1) ce hi sn sa sb sc sd sn).1 ∧ u.1 = tk + 1 ∧ u.2 = (ntS bk hm aw (tk + 1) ce hi sn sa sb sc sd sn).2) (fun u t => bcW D (tyL cI cZ cJ cA) (va_A [((a 4), .inr (2, [.int hm, .int aw, .int tk, .ref (a 5), .ref (a 6), .ref (a 7), .ref (a 8), .ref (a 13)])), ((a 5), .inl (cI, 6, .inl ce)), ((a 6), .inl (cI, 6, .inl hi)), ((a 8), .inr (3, [.int (nI sn), .ref (a 9), .ref (a 10), .ref (a 11), .ref (a 12)])), ((a 9), .inl (cI, 100, .inl sa)), ((a 10), .inl (cI, 100, .inl sb)), ((a 11), .inl (cI, 100, .inl sc)), ((a 12), .inl (cI, 100, .inl sd)), ((a 2), .inr (1, [.ref (a 3)])), ((a 3), .inl (cZ, 144, .inl bk))] sz) [((a 4), .inr (2, [.int hm, .int aw, .int u.1, .ref (a 5), .ref (a 6), .ref (a 7), .ref (a 8), .ref (a 13)])), ((a 5), .inl (cI, 6, .inl ce)), ((a 6), .inl (cI, 6, .inl u.2)), ((a 8), .inr (3, [.int (nI sn), .ref (a 9), .ref (a 10), .ref (a 11), .ref (a 12)])), ((a 9), .inl (cI, 100, .inl sa)), ((a 10), .inl (cI, 100, .inl sb)), ((a 11), .inl (cI, 100, .inl sc)), ((a 12), .inl (cI, 100, .inl sd)), ((a 2), .inr (1, [.ref (a 3)])), ((a 3), .inl (cZ, 144, .inl bk))] t) (va_A [((a 4), .inr (2, [.int hm, .int aw, .int tk, .ref (a 5), .ref (a 6), .ref (a 7), .ref (a 8), .ref (a 13)])), ((a 5), .inl (cI, 6, .inl ce)), ((a 6), .inl (cI, 6, .inl hi)), ((a 8), .inr (3, [.int (nI sn), .ref (a 9), .ref (a 10), .ref (a 11), .ref (a 12)])), ((a 9), .inl (cI, 100, .inl sa)), ((a 10), .inl (cI, 100, .inl sb)), ((a 11), .inl (cI, 100, .inl sc)), ((a 12), .inl (cI, 100, .inl sd)), ((a 2), .inr (1, [.ref (a 3)])), ((a 3), .inl (cZ, 144, .inl bk))] sz)) 0 0 (va_A [((a 4), .inr (2, [.int hm, .int aw, .int tk, .ref (a 5), .ref (a 6), .ref (a 7), .ref (a 8), .ref (a 13)])), ((a 5), .inl (cI, 6, .inl ce)), ((a 6), .inl (cI, 6, .inl hi)), ((a 8), .inr (3, [.int (nI sn), .ref (a 9), .ref (a 10), .ref (a 11), .ref (a 12)])), ((a 9), .inl (cI, 100, .inl sa)), ((a 10), .inl (cI, 100, .inl sb)), ((a 11), .inl (cI, 100, .inl sc)), ((a 12), .inl (cI, 100, .inl sd)), ((a 2), .inr (1, [.ref (a 3)])), ((a 3), .inl (cZ, 144, .inl bk))] sz) := by
  refine Met.ofW (cc := cX2_nextTick) (maxL := 4) (ret := (some .int)) (by decide) rfl ?_
  intro p e s m args below meth c s₁ B hml hv
  obtain ⟨rfl, hsz, hP, hK, hD0⟩ := hv
  have hx := B.exec
  have hb := B.bytes
  have hr := B.returns
  have hts := atoms_spec (ws := wsX2_nextTick) B.pre
  have hown : s.vm.findClass RX2 = some m.cls := findClass_of_methodNamed B.named
  have hlocks := B.notSynchronized
  subst hsz
  have hD := hD0.self (sz := s.heap.size)
  generalize hAe : va_A [((a 4), .inr (2, [.int hm, .int aw, .int tk, .ref (a 5), .ref (a 6), .ref (a 7), .ref (a 8), .ref (a 13)])), ((a 5), .inl (cI, 6, .inl ce)), ((a 6), .inl (cI, 6, .inl hi)), ((a 8), .inr (3, [.int (nI sn), .ref (a 9), .ref (a 10), .ref (a 11), .ref (a 12)])), ((a 9), .inl (cI, 100, .inl sa)), ((a 10), .inl (cI, 100, .inl sb)), ((a 11), .inl (cI, 100, .inl sc)), ((a 12), .inl (cI, 100, .inl sd)), ((a 2), .inr (1, [.ref (a 3)])), ((a 3), .inl (cZ, 144, .inl bk))] s.heap.size = A at hD ⊢
  have hA : ∀ q : Nat, s.heap.size ≤ q → A q := fun q h => by rw [← hAe]; exact Or.inr h
  have hAR : ∀ q : Nat, s.heap.size ≤ q → (fun q : Nat => s.heap.size ≤ q) q := fun _ h => h
  have hS : va_S A s.heap s.heap [] := va_S.rf
  have hP : va_P D vwCl [((a 4), .inr (2, [.int hm, .int aw, .int tk, .ref (a 5), .ref (a 6), .ref (a 7), .ref (a 8), .ref (a 13)])), ((a 5), .inl (cI, 6, .inl ce)), ((a 6), .inl (cI, 6, .inl hi)), ((a 8), .inr (3, [.int (nI sn), .ref (a 9), .ref (a 10), .ref (a 11), .ref (a 12)])), ((a 9), .inl (cI, 100, .inl sa)), ((a 10), .inl (cI, 100, .inl sb)), ((a 11), .inl (cI, 100, .inl sc)), ((a 12), .inl (cI, 100, .inl sd)), ((a 2), .inr (1, [.ref (a 3)])), ((a 3), .inl (cZ, 144, .inl bk))] s.heap := hP
  have hl := lv_entry ([.ref (a 4), .ref (a 2)]) (n := 4) (Nat.le_of_ble_eq_true rfl)
  rw [lg_entry_eq]
  generalize (lg_sl ([.ref (a 4), .ref (a 2)]) ++ List.replicate (4 - (lg_sl ([.ref (a 4), .ref (a 2)])).length) Slot.unset).toArray = ls at hl ⊢
  have hl : lv_has ls 4 [(0, .ref (a 4)), (1, .ref (a 2))] := hl
  have hf_9 := hts (.fieldLink RX2 9 "PaintballAtlas$Round" "tick" "I") (by decide +kernel)
  have hi_X2 : ∀ w ∈ wsX20, w ∈ wsX2_nextTick := by decide +kernel
  have hf_28 := hts (.fieldLink RX2 28 "PaintballAtlas$Round" "shots" "LPaintballAtlas$Shots;") (by decide +kernel)
  have hf_49 := hts (.fieldLink RX2 49 "PaintballAtlas$Shots" "count" "I") (by decide +kernel)
  have hi_X3 : ∀ w ∈ wsX30, w ∈ wsX2_nextTick := by decide +kernel
  have hf_63 := hts (.fieldLink RX2 63 "PaintballAtlas$Shots" "arrivals" "[I") (by decide +kernel)
  refine lv_aload_n hx hb dX2_nextTick_0 rfl (lv_at hl 0 rfl) ?_
  refine lv_dup hx hb dX2_nextTick_1 rfl ?_
  refine va_get (D := D) (ci := 2) (v := .int tk) (C := RX2) (T := TX2) (N := 8) hx hb hts hi_X2 hown hK hP 0 rfl rfl 2 (by decide) hf_9 (fun _ h9 => h9) rfl dX2_nextTick_2 ?_
  refine lv_iconst (v := 1) hx hb dX2_nextTick_5 (by decide) ?_
  refine lv_iadd hx hb dX2_nextTick_6 ?_
  refine va_put (D := D) (ci := 2) (v := .int (tk + 1)) (ty := .int) (C := RX2) (T := TX2) (N := 8) hx hb hts hi_X2 tyX2 tyX2_ok nmX2 hown hK hP hD hS 0 rfl rfl 2 (by decide) hf_9 (fun _ h9 => h9) rfl (by decide +kernel) rfl rfl (Nat.le_of_ble_eq_true rfl) dX2_nextTick_7 (fun H locs hP hD hS => ?_)
  have hP : va_P D vwCl [((a 4), .inr (2, [.int hm, .int aw, .int (tk + 1), .ref (a 5), .ref (a 6), .ref (a 7), .ref (a 8), .ref (a 13)])), ((a 5), .inl (cI, 6, .inl ce)), ((a 6), .inl (cI, 6, .inl hi)), ((a 8), .inr (3, [.int (nI sn), .ref (a 9), .ref (a 10), .ref (a 11), .ref (a 12)])), ((a 9), .inl (cI, 100, .inl sa)), ((a 10), .inl (cI, 100, .inl sb)), ((a 11), .inl (cI, 100, .inl sc)), ((a 12), .inl (cI, 100, .inl sd)), ((a 2), .inr (1, [.ref (a 3)])), ((a 3), .inl (cZ, 144, .inl bk))] H := hP
  have hD : va_D A [((a 4), .inr (2, [.int hm, .int aw, .int (tk + 1), .ref (a 5), .ref (a 6), .ref (a 7), .ref (a 8), .ref (a 13)])), ((a 5), .inl (cI, 6, .inl ce)), ((a 6), .inl (cI, 6, .inl hi)), ((a 8), .inr (3, [.int (nI sn), .ref (a 9), .ref (a 10), .ref (a 11), .ref (a 12)])), ((a 9), .inl (cI, 100, .inl sa)), ((a 10), .inl (cI, 100, .inl sb)), ((a 11), .inl (cI, 100, .inl sc)), ((a 12), .inl (cI, 100, .inl sd)), ((a 2), .inr (1, [.ref (a 3)])), ((a 3), .inl (cZ, 144, .inl bk))] := hD
  refine lv_iconst (v := 0) hx hb dX2_nextTick_10 (by decide) ?_
  refine lv_istore_n (lv' := [(2, .int 0), (0, .ref (a 4)), (1, .ref (a 2))]) hx hb dX2_nextTick_11 rfl hl (by decide) rfl (fun ls hl => ?_)
  refine lv_iconst (v := 0) hx hb dX2_nextTick_12 (by decide) ?_
  refine lv_istore_n (lv' := [(3, .int 0), (2, .int 0), (0, .ref (a 4)), (1, .ref (a 2))]) hx hb dX2_nextTick_13 rfl hl (by decide) rfl (fun ls hl => ?_)
  refine lpW (σ := (Nat) × (Int32) × (Nat → Int32)) (I := fun x H locs ls => va_P D vwCl [((a 4), .inr (2, [.int hm, .int aw, .int (tk + 1), .ref (a 5), .ref (a 6), .ref (a 7), .ref (a 8), .ref (a 13)])), ((a 5), .inl (cI, 6, .inl ce)), ((a 6), .inl (cI, 6, .inl x.2.2)), ((a 8), .inr (3, [.int (nI sn), .ref (a 9), .ref (a 10), .ref (a 11), .ref (a 12)])), ((a 9), .inl (cI, 100, .inl sa)), ((a 10), .inl (cI, 100, .inl sb)), ((a 11), .inl (cI, 100, .inl sc)), ((a 12), .inl (cI, 100, .inl sd)), ((a 2), .inr (1, [.ref (a 3)])), ((a 3), .inl (cZ, 144, .inl bk))] H ∧ va_D A [((a 4), .inr (2, [.int hm, .int aw, .int (tk + 1), .ref (a 5), .ref (a 6), .ref (a 7), .ref (a 8), .ref (a 13)])), ((a 5), .inl (cI, 6, .inl ce)), ((a 6), .inl (cI, 6, .inl x.2.2)), ((a 8), .inr (3, [.int (nI sn), .ref (a 9), .ref (a 10), .ref (a 11), .ref (a 12)])), ((a 9), .inl (cI, 100, .inl sa)), ((a 10), .inl (cI, 100, .inl sb)), ((a 11), .inl (cI, 100, .inl sc)), ((a 12), .inl (cI, 100, .inl sd)), ((a 2), .inr (1, [.ref (a 3)])), ((a 3), .inl (cZ, 144, .inl bk))] ∧ va_S A s.heap H locs ∧ lv_has ls 4 [(0, .ref (a 4)), (1, .ref (a 2)), (2, .int x.2.1), (3, .int (nI x.1))] ∧ (x.1 ≤ sn) ∧ (x.2.1 = (ntS bk hm aw (tk + 1) ce hi sn sa sb sc sd x.1).1) ∧ (x.2.2 = (ntS bk hm aw (tk + 1) ce hi sn sa sb sc sd x.1).2)) (μ := fun x => sn - x.1) ?_ (0, 0, hi) ⟨hP, hD, hS, lv_sub hl [2, 3, 1, 0] rfl, (Nat.zero_le _), (by simp only [ntS]), (by simp only [ntS])⟩
  intro x H locs ls hI ih
  obtain ⟨i, c2, e1⟩ := x
  obtain ⟨hP, hD, hS, hl, hq_hi1, hq_hc, hq_he⟩ := hI
  have ih_14 := ih
  have hl : lv_has ls 4 [(0, .ref (a 4)), (1, .ref (a 2)), (2, .int c2), (3, .int (nI i))] := hl
  have hP : va_P D vwCl [((a 4), .inr (2, [.int hm, .int aw, .int (tk + 1), .ref (a 5), .ref (a 6), .ref (a 7), .ref (a 8), .ref (a 13)])), ((a 5), .inl (cI, 6, .inl ce)), ((a 6), .inl (cI, 6, .inl e1)), ((a 8), .inr (3, [.int (nI sn), .ref (a 9), .ref (a 10), .ref (a 11), .ref (a 12)])), ((a 9), .inl (cI, 100, .inl sa)), ((a 10), .inl (cI, 100, .inl sb)), ((a 11), .inl (cI, 100, .inl sc)), ((a 12), .inl (cI, 100, .inl sd)), ((a 2), .inr (1, [.ref (a 3)])), ((a 3), .inl (cZ, 144, .inl bk))] H := hP
  have hD : va_D A [((a 4), .inr (2, [.int hm, .int aw, .int (tk + 1), .ref (a 5), .ref (a 6), .ref (a 7), .ref (a 8), .ref (a 13)])), ((a 5), .inl (cI, 6, .inl ce)), ((a 6), .inl (cI, 6, .inl e1)), ((a 8), .inr (3, [.int (nI sn), .ref (a 9), .ref (a 10), .ref (a 11), .ref (a 12)])), ((a 9), .inl (cI, 100, .inl sa)), ((a 10), .inl (cI, 100, .inl sb)), ((a 11), .inl (cI, 100, .inl sc)), ((a 12), .inl (cI, 100, .inl sd)), ((a 2), .inr (1, [.ref (a 3)])), ((a 3), .inl (cZ, 144, .inl bk))] := hD
  have hi1 : i ≤ sn := hq_hi1
  have hc : c2 = (ntS bk hm aw (tk + 1) ce hi sn sa sb sc sd i).1 := hq_hc
  have he : e1 = (ntS bk hm aw (tk + 1) ce hi sn sa sb sc sd i).2 := hq_he
  clear hq_hi1 hq_hc hq_he
  refine lv_iload_n hx hb dX2_nextTick_14 rfl (lv_at hl 3 rfl) ?_
  refine lv_aload_n hx hb dX2_nextTick_15 rfl (lv_at hl 0 rfl) ?_
  refine va_get (D := D) (ci := 2) (v := .ref (a 8)) (C := RX2) (T := TX2) (N := 8) hx hb hts hi_X2 hown hK hP 0 rfl rfl 6 (by decide) hf_28 (fun _ h9 => h9) rfl dX2_nextTick_16 ?_
  refine va_get (D := D) (ci := 3) (v := .int (nI sn)) (C := RX3) (T := TX3) (N := 5) hx hb hts hi_X3 hown hK hP 3 rfl rfl 0 (by decide) hf_49 (fun _ h9 => h9) rfl dX2_nextTick_19 ?_
  refine lv_icmp_ge (tgt := 59) hx hb dX2_nextTick_22 (by decide) (fun c_1 => ?_) (fun c_1 => ?_)
  · have he_22 : i = sn := bd_eq (N := sn) (by omega) hi1 c_1
    refine lv_iload_n hx hb dX2_nextTick_59 rfl (lv_at hl 2 rfl) ?_
    have hP9 := hP.sub (ws' := [((a 4), .inr (2, [.int hm, .int aw, .int (tk + 1), .ref (a 5), .ref (a 6), .ref (a 7), .ref (a 8), .ref (a 13)])), ((a 5), .inl (cI, 6, .inl ce)), ((a 6), .inl (cI, 6, .inl e1)), ((a 8), .inr (3, [.int (nI sn), .ref (a 9), .ref (a 10), .ref (a 11), .ref (a 12)])), ((a 9), .inl (cI, 100, .inl sa)), ((a 10), .inl (cI, 100, .inl sb)), ((a 11), .inl (cI, 100, .inl sc)), ((a 12), .inl (cI, 100, .inl sd)), ((a 2), .inr (1, [.ref (a 3)])), ((a 3), .inl (cZ, 144, .inl bk))]) [0, 1, 2, 3, 4, 5, 6, 7, 8, 9] rfl
    have hD9 := hD.sub (ws' := [((a 4), .inr (2, [.int hm, .int aw, .int (tk + 1), .ref (a 5), .ref (a 6), .ref (a 7), .ref (a 8), .ref (a 13)])), ((a 5), .inl (cI, 6, .inl ce)), ((a 6), .inl (cI, 6, .inl e1)), ((a 8), .inr (3, [.int (nI sn), .ref (a 9), .ref (a 10), .ref (a 11), .ref (a 12)])), ((a 9), .inl (cI, 100, .inl sa)), ((a 10), .inl (cI, 100, .inl sb)), ((a 11), .inl (cI, 100, .inl sc)), ((a 12), .inl (cI, 100, .inl sd)), ((a 2), .inr (1, [.ref (a 3)])), ((a 3), .inl (cZ, 144, .inl bk))]) [0, 1, 2, 3, 4, 5, 6, 7, 8, 9] (by decide) rfl
    -- leaf 0
    refine W.widen (k := 0) (n := 0) (Nat.le_refl _) (Nat.le_refl _) ?_
    exact W.iret (v := c2) hx hb hr (fun t ht hW => ⟨⟨c2, (tk + 1, e1), rfl, ⟨(by rw [hc, he_22]), rfl, (by rw [he, he_22])⟩, by rw [ht]; exact hP9, va_K.moved hW.alike hK, hD9⟩, hS.F ht⟩) hS.2.2 dX2_nextTick_60
  · have hlt_22 : i < sn := bd_lt (N := sn) (by omega) hi1 c_1
    refine lv_aload_n hx hb dX2_nextTick_25 rfl (lv_at hl 0 rfl) ?_
    refine va_get (D := D) (ci := 2) (v := .ref (a 8)) (C := RX2) (T := TX2) (N := 8) hx hb hts hi_X2 hown hK hP 0 rfl rfl 6 (by decide) hf_28 (fun _ h9 => h9) rfl dX2_nextTick_26 ?_
    refine va_get (D := D) (ci := 3) (v := .ref (a 12)) (C := RX3) (T := TX3) (N := 5) hx hb hts hi_X3 hown hK hP 3 rfl rfl 4 (by decide) hf_63 (fun _ h9 => h9) rfl dX2_nextTick_29 ?_
    refine lv_iload_n hx hb dX2_nextTick_32 rfl (lv_at hl 3 rfl) ?_
    refine va_iald hx hb hK hP 7 0 rfl rfl (vp_in_nI (n := i) (by omega) (by decide)) dX2_nextTick_33 ?_
    refine tp_eq (y := sd i) (by rw [nI_clamp (n := i) (by omega)]) ?_
    refine lv_aload_n hx hb dX2_nextTick_34 rfl (lv_at hl 0 rfl) ?_
    refine va_get (D := D) (ci := 2) (v := .int (tk + 1)) (C := RX2) (T := TX2) (N := 8) hx hb hts hi_X2 hown hK hP 0 rfl rfl 2 (by decide) hf_9 (fun _ h9 => h9) rfl dX2_nextTick_35 ?_
    refine lv_icmp_ne (tgt := 53) hx hb dX2_nextTick_38 (by decide) (fun c_2 => ?_) (fun c_2 => ?_)
    · refine lv_iinc (v := nI (i + 1)) (lv' := [(3, .int (nI (i + 1))), (0, .ref (a 4)), (1, .ref (a 2)), (2, .int c2)]) hx hb dX2_nextTick_53 hl (k := 3) rfl (nI_1 i) (by decide) rfl (fun ls hl => ?_)
      refine lv_goto (tgt := 14) hx hb dX2_nextTick_56 (by decide) ?_
      refine W.widen (k := 0) (n := 0) (Nat.le_refl _) (Nat.le_refl _) ?_
      exact ih_14 ((i + 1), c2, e1) _ _ _ (by first | omega | (dsimp only; omega)) ⟨hP, hD, hS, lv_sub hl [1, 2, 3, 0] rfl, (by omega), (by rw [ntS, if_neg c_2]; exact hc), (by rw [ntS, if_neg c_2]; exact he)⟩
    · refine lv_aload_n hx hb dX2_nextTick_41 rfl (lv_at hl 0 rfl) ?_
      refine lv_iload_n hx hb dX2_nextTick_42 rfl (lv_at hl 3 rfl) ?_
      refine lv_aload_n hx hb dX2_nextTick_43 rfl (lv_at hl 1 rfl) ?_
      have hPc := hP.sub (ws' := [((a 4), .inr (2, [.int hm, .int aw, .int (tk + 1), .ref (a 5), .ref (a 6), .ref (a 7), .ref (a 8), .ref (a 13)])), ((a 5), .inl (cI, 6, .inl ce)), ((a 6), .inl (cI, 6, .inl e1)), ((a 8), .inr (3, [.int (nI sn), .ref (a 9), .ref (a 10), .ref (a 11), .ref (a 12)])), ((a 9), .inl (cI, 100, .inl sa)), ((a 10), .inl (cI, 100, .inl sb)), ((a 11), .inl (cI, 100, .inl sc)), ((a 2), .inr (1, [.ref (a 3)])), ((a 3), .inl (cZ, 144, .inl bk))]) [0, 1, 2, 3, 4, 5, 6, 8, 9] rfl
      have hDc := hD.sub (ws' := [((a 4), .inr (2, [.int hm, .int aw, .int (tk + 1), .ref (a 5), .ref (a 6), .ref (a 7), .ref (a 8), .ref (a 13)])), ((a 5), .inl (cI, 6, .inl ce)), ((a 6), .inl (cI, 6, .inl e1)), ((a 8), .inr (3, [.int (nI sn), .ref (a 9), .ref (a 10), .ref (a 11), .ref (a 12)])), ((a 9), .inl (cI, 100, .inl sa)), ((a 10), .inl (cI, 100, .inl sb)), ((a 11), .inl (cI, 100, .inl sc)), ((a 2), .inr (1, [.ref (a 3)])), ((a 3), .inl (cZ, 144, .inl bk))]) [0, 1, 2, 3, 4, 5, 6, 8, 9] (by decide) rfl
      have hFc := va_free (wc := [((a 4), .inr (2, [.int hm, .int aw, .int (tk + 1), .ref (a 5), .ref (a 6), .ref (a 7), .ref (a 8), .ref (a 13)])), ((a 5), .inl (cI, 6, .inl ce)), ((a 6), .inl (cI, 6, .inl e1)), ((a 8), .inr (3, [.int (nI sn), .ref (a 9), .ref (a 10), .ref (a 11), .ref (a 12)])), ((a 9), .inl (cI, 100, .inl sa)), ((a 10), .inl (cI, 100, .inl sb)), ((a 11), .inl (cI, 100, .inl sc)), ((a 2), .inr (1, [.ref (a 3)])), ((a 3), .inl (cZ, 144, .inl bk))]) hD hS hA [0, 1, 2, 3, 4, 5, 6, 8, 9] rfl
      refine va_calli (va_runV (As := [.int (nI i), .ref (a 2)]) (rest := []) ⟨hx, hb, hml, hown, hts⟩ (c_X2_strikes l D cI cZ cJ cA H.size a bk hm aw (tk + 1) ce e1 sn sa sb sc (nI i) (vp_in_nI (n := i) (by omega) (by decide)) (by rw [nI_clamp (n := i) (by omega)]; exact h2 i hlt_22) (by rw [nI_clamp (n := i) (by omega)]; exact h3 i hlt_22)) (cwV 2 hts gX2_nextTick_X2_strikes rfl rfl rfl (by decide +kernel) ⟨Nat.le_of_ble_eq_true rfl, Nat.le_of_ble_eq_true rfl⟩) ⟨pcW_bl, va_recv hK hPc (ci := 2) (q0 := 0) rfl rfl, fun U hU hW => ⟨rfl, by rw [hU], by rw [hU]; exact hPc, va_K.moved hW.alike hK, hDc.weaken (fun _ _ _ _ => trivial)⟩⟩ rfl rfl hl.1 rfl (lv_room (Nat.le_of_ble_eq_true rfl)) dX2_nextTick_44 ⟨Nat.le_of_ble_eq_true rfl, Nat.le_of_ble_eq_true rfl⟩) hS (fun q _ h => hFc q h) hFc (fun r_3 u t H locs ht hvm hw hB hz1 hk1 hS => ?_)
      try dsimp only at hw
      obtain ⟨u0_3, rfl⟩ : ∃ z, z = u := ⟨_, rfl⟩
      obtain ⟨hr_3, hu0_3⟩ := hw
      obtain ⟨hP1, hK1, hD1⟩ := hB
      rw [ht] at hP1
      obtain ⟨hP, hD⟩ := va_join (wr := [((a 12), .inl (cI, 100, .inl sd))]) (w1 := [((a 4), .inr (2, [.int hm, .int aw, .int (tk + 1), .ref (a 5), .ref (a 6), .ref (a 7), .ref (a 8), .ref (a 13)])), ((a 5), .inl (cI, 6, .inl ce)), ((a 6), .inl (cI, 6, .inl u0_3)), ((a 8), .inr (3, [.int (nI sn), .ref (a 9), .ref (a 10), .ref (a 11), .ref (a 12)])), ((a 9), .inl (cI, 100, .inl sa)), ((a 10), .inl (cI, 100, .inl sb)), ((a 11), .inl (cI, 100, .inl sc)), ((a 2), .inr (1, [.ref (a 3)])), ((a 3), .inl (cZ, 144, .inl bk))]) hP hD [0, 1, 2, 3, 4, 5, 6, 8, 9] [7] rfl rfl (by decide) (by decide) hk1 hFc hP1 hD1
      obtain rfl := hu0_3.symm
      have hP : va_P D vwCl [((a 12), .inl (cI, 100, .inl sd)), ((a 4), .inr (2, [.int hm, .int aw, .int (tk + 1), .ref (a 5), .ref (a 6), .ref (a 7), .ref (a 8), .ref (a 13)])), ((a 5), .inl (cI, 6, .inl ce)), ((a 6), .inl (cI, 6, .inl (g_hi_X2_strikes bk hm aw (tk + 1) ce e1 sn sa sb sc (nI i)))), ((a 8), .inr (3, [.int (nI sn), .ref (a 9), .ref (a 10), .ref (a 11), .ref (a 12)])), ((a 9), .inl (cI, 100, .inl sa)), ((a 10), .inl (cI, 100, .inl sb)), ((a 11), .inl (cI, 100, .inl sc)), ((a 2), .inr (1, [.ref (a 3)])), ((a 3), .inl (cZ, 144, .inl bk))] H := hP
      have hD : va_D A [((a 12), .inl (cI, 100, .inl sd)), ((a 4), .inr (2, [.int hm, .int aw, .int (tk + 1), .ref (a 5), .ref (a 6), .ref (a 7), .ref (a 8), .ref (a 13)])), ((a 5), .inl (cI, 6, .inl ce)), ((a 6), .inl (cI, 6, .inl (g_hi_X2_strikes bk hm aw (tk + 1) ce e1 sn sa sb sc (nI i)))), ((a 8), .inr (3, [.int (nI sn), .ref (a 9), .ref (a 10), .ref (a 11), .ref (a 12)])), ((a 9), .inl (cI, 100, .inl sa)), ((a 10), .inl (cI, 100, .inl sb)), ((a 11), .inl (cI, 100, .inl sc)), ((a 2), .inr (1, [.ref (a 3)])), ((a 3), .inl (cZ, 144, .inl bk))] := hD
      obtain rfl := hr_3.symm
      refine W.widen (k := 0) (n := 0) (Nat.le_refl _) (Nat.le_refl _) ?_
      refine lv_if_eq (tgt := 53) hx hb dX2_nextTick_47 (by decide) (fun c_4 => ?_) (fun c_4 => ?_)
      · refine lv_iinc (v := nI (i + 1)) (lv' := [(3, .int (nI (i + 1))), (0, .ref (a 4)), (1, .ref (a 2)), (2, .int c2)]) hx hb dX2_nextTick_53 hl (k := 3) rfl (nI_1 i) (by decide) rfl (fun ls hl => ?_)
        refine lv_goto (tgt := 14) hx hb dX2_nextTick_56 (by decide) ?_
        refine W.widen (k := 0) (n := 0) (Nat.le_refl _) (Nat.le_refl _) ?_
        exact ih_14 ((i + 1), c2, (g_hi_X2_strikes bk hm aw (tk + 1) ce e1 sn sa sb sc (nI i))) _ _ _ (by first | omega | (dsimp only; omega)) ⟨hP.sub [1, 2, 3, 4, 5, 6, 7, 0, 8, 9] rfl, hD.sub [1, 2, 3, 4, 5, 6, 7, 0, 8, 9] (by decide) rfl, hS, lv_sub hl [1, 2, 3, 0] rfl, (by omega), (by rw [ntS, if_pos c_2, ← he, if_pos c_4]; dsimp only; rw [hc]), (by rw [ntS, if_pos c_2, ← he, if_pos c_4])⟩
      · refine lv_iinc (v := c2 + 1) (lv' := [(2, .int (c2 + 1)), (0, .ref (a 4)), (1, .ref (a 2)), (3, .int (nI i))]) hx hb dX2_nextTick_50 hl (k := 2) rfl rfl (by decide) rfl (fun ls hl => ?_)
        refine lv_iinc (v := nI (i + 1)) (lv' := [(3, .int (nI (i + 1))), (2, .int (c2 + 1)), (0, .ref (a 4)), (1, .ref (a 2))]) hx hb dX2_nextTick_53 hl (k := 3) rfl (nI_1 i) (by decide) rfl (fun ls hl => ?_)
        refine lv_goto (tgt := 14) hx hb dX2_nextTick_56 (by decide) ?_
        refine W.widen (k := 0) (n := 0) (Nat.le_refl _) (Nat.le_refl _) ?_
        exact ih_14 ((i + 1), c2 + 1, (g_hi_X2_strikes bk hm aw (tk + 1) ce e1 sn sa sb sc (nI i))) _ _ _ (by first | omega | (dsimp only; omega)) ⟨hP.sub [1, 2, 3, 4, 5, 6, 7, 0, 8, 9] rfl, hD.sub [1, 2, 3, 4, 5, 6, 7, 0, 8, 9] (by decide) rfl, hS, lv_sub hl [2, 3, 1, 0] rfl, (by omega), (by rw [ntS, if_pos c_2, ← he, if_neg c_4]; dsimp only; rw [hc]), (by rw [ntS, if_pos c_2, ← he, if_neg c_4])⟩

set_option maxHeartbeats 4000000 in
set_option maxRecDepth 100000 in
theorem c_X2_callOut (l : Launch) (D : va_G) (cI cZ cJ cA : ClassId) (sz : Nat) (a : Nat → Nat) (hm : Int32) (aw : Int32) (tk : Int32) (ce : Nat → Int32) (kn : Nat) (ka : Nat → Int32) (kb : Nat → Int32) (kc : Nat → Int32) (kd : Nat → Int32) (p1 : Int32) (h1 : vp_in p1 6) (h2 : kn < 512) : Met l yX2_callOut wsX2_callOut ({ frames := 1, cells := 0, slots := 0, locals := 23 } : Room) (va_Pc [.ref (a 4), .int p1] (pcW D (tyL cI cZ cJ cA) [((a 4), .inr (2, [.int hm, .int aw, .int tk, .ref (a 5), .ref (a 6), .ref (a 7), .ref (a 8), .ref (a 13)])), ((a 5), .inl (cI, 6, .inl ce)), ((a 13), .inr (0, [.int (nI kn), .ref (a 14), .ref (a 15), .ref (a 16), .ref (a 17)])), ((a 14), .inl (cI, 512, .inl ka)), ((a 15), .inl (cI, 512, .inl kb)), ((a 16), .inl (cI, 512, .inl kc)), ((a 17), .inl (cZ, 512, .inl kd))] sz)) (va_Qi (fun (r : Int32) (u : (Nat → Int32) × (Nat) × (Nat → Int32) × (Nat → Int32) × (Nat → Int32) × (Nat → Int32)) => r = nI kn ∧ u.1 = upd ce p1.toNatClampNeg (-2) ∧ u.2.1 = (kn + 1) ∧ u.2.2.1 = (upd ka kn p1) ∧ u.2.2.2.1 = (upd kb kn (ce p1.toNatClampNeg)) ∧ u.2.2.2.2.1 = (upd kc kn tk) ∧ u.2.2.2.2.2 = (upd kd kn 0)) (fun u t => bcW D (tyL cI cZ cJ cA) (va_A [((a 4), .inr (2, [.int hm, .int aw, .int tk, .ref (a 5), .ref (a 6), .ref (a 7), .ref (a 8), .ref (a 13)])), ((a 5), .inl (cI, 6, .inl ce)), ((a 13), .inr (0, [.int (nI kn), .ref (a 14), .ref (a 15), .ref (a 16), .ref (a 17)])), ((a 14), .inl (cI, 512, .inl ka)), ((a 15), .inl (cI, 512, .inl kb)), ((a 16), .inl (cI, 512, .inl kc)), ((a 17), .inl (cZ, 512, .inl kd))] sz) [((a 4), .inr (2, [.int hm, .int aw, .int tk, .ref (a 5), .ref (a 6), .ref (a 7), .ref (a 8), .ref (a 13)])), ((a 5), .inl (cI, 6, .inl u.1)), ((a 13), .inr (0, [.int (nI u.2.1), .ref (a 14), .ref (a 15), .ref (a 16), .ref (a 17)])), ((a 14), .inl (cI, 512, .inl u.2.2.1)), ((a 15), .inl (cI, 512, .inl u.2.2.2.1)), ((a 16), .inl (cI, 512, .inl u.2.2.2.2.1)), ((a 17), .inl (cZ, 512, .inl u.2.2.2.2.2))] t) (va_A [((a 4), .inr (2, [.int hm, .int aw, .int tk, .ref (a 5), .ref (a 6), .ref (a 7), .ref (a 8), .ref (a 13)])), ((a 5), .inl (cI, 6, .inl ce)), ((a 13), .inr (0, [.int (nI kn), .ref (a 14), .ref (a 15), .ref (a 16), .ref (a 17)])), ((a 14), .inl (cI, 512, .inl ka)), ((a 15), .inl (cI, 512, .inl kb)), ((a 16), .inl (cI, 512, .inl kc)), ((a 17), .inl (cZ, 512, .inl kd))] sz)) 0 0 (va_A [((a 4), .inr (2, [.int hm, .int aw, .int tk, .ref (a 5), .ref (a 6), .ref (a 7), .ref (a 8), .ref (a 13)])), ((a 5), .inl (cI, 6, .inl ce)), ((a 13), .inr (0, [.int (nI kn), .ref (a 14), .ref (a 15), .ref (a 16), .ref (a 17)])), ((a 14), .inl (cI, 512, .inl ka)), ((a 15), .inl (cI, 512, .inl kb)), ((a 16), .inl (cI, 512, .inl kc)), ((a 17), .inl (cZ, 512, .inl kd))] sz) := by
  refine Met.ofW (cc := cX2_callOut) (maxL := 3) (ret := (some .int)) (by decide) rfl ?_
  intro p e s m args below meth c s₁ B hml hv
  obtain ⟨rfl, hsz, hP, hK, hD0⟩ := hv
  have hx := B.exec
  have hb := B.bytes
  have hr := B.returns
  have hts := atoms_spec (ws := wsX2_callOut) B.pre
  have hown : s.vm.findClass RX2 = some m.cls := findClass_of_methodNamed B.named
  have hlocks := B.notSynchronized
  subst hsz
  have hD := hD0.self (sz := s.heap.size)
  generalize hAe : va_A [((a 4), .inr (2, [.int hm, .int aw, .int tk, .ref (a 5), .ref (a 6), .ref (a 7), .ref (a 8), .ref (a 13)])), ((a 5), .inl (cI, 6, .inl ce)), ((a 13), .inr (0, [.int (nI kn), .ref (a 14), .ref (a 15), .ref (a 16), .ref (a 17)])), ((a 14), .inl (cI, 512, .inl ka)), ((a 15), .inl (cI, 512, .inl kb)), ((a 16), .inl (cI, 512, .inl kc)), ((a 17), .inl (cZ, 512, .inl kd))] s.heap.size = A at hD ⊢
  have hA : ∀ q : Nat, s.heap.size ≤ q → A q := fun q h => by rw [← hAe]; exact Or.inr h
  have hAR : ∀ q : Nat, s.heap.size ≤ q → (fun q : Nat => s.heap.size ≤ q) q := fun _ h => h
  have hS : va_S A s.heap s.heap [] := va_S.rf
  have hP : va_P D vwCl [((a 4), .inr (2, [.int hm, .int aw, .int tk, .ref (a 5), .ref (a 6), .ref (a 7), .ref (a 8), .ref (a 13)])), ((a 5), .inl (cI, 6, .inl ce)), ((a 13), .inr (0, [.int (nI kn), .ref (a 14), .ref (a 15), .ref (a 16), .ref (a 17)])), ((a 14), .inl (cI, 512, .inl ka)), ((a 15), .inl (cI, 512, .inl kb)), ((a 16), .inl (cI, 512, .inl kc)), ((a 17), .inl (cZ, 512, .inl kd))] s.heap := hP
  have hl := lv_entry ([.ref (a 4), .int p1]) (n := 3) (Nat.le_of_ble_eq_true rfl)
  rw [lg_entry_eq]
  generalize (lg_sl ([.ref (a 4), .int p1]) ++ List.replicate (3 - (lg_sl ([.ref (a 4), .int p1])).length) Slot.unset).toArray = ls at hl ⊢
  have hl : lv_has ls 3 [(0, .ref (a 4)), (1, .int p1)] := hl
  have hf_35 := hts (.fieldLink RX2 35 "PaintballAtlas$Round" "calls" "LPaintballAtlas$Calls;") (by decide +kernel)
  have hi_X2 : ∀ w ∈ wsX20, w ∈ wsX2_callOut := by decide +kernel
  have hf_15 := hts (.fieldLink RX2 15 "PaintballAtlas$Round" "cells" "[I") (by decide +kernel)
  have hf_9 := hts (.fieldLink RX2 9 "PaintballAtlas$Round" "tick" "I") (by decide +kernel)
  refine lv_aload_n hx hb dX2_callOut_0 rfl (lv_at hl 0 rfl) ?_
  refine va_get (D := D) (ci := 2) (v := .ref (a 13)) (C := RX2) (T := TX2) (N := 8) hx hb hts hi_X2 hown hK hP 0 rfl rfl 7 (by decide) hf_35 (fun _ h9 => h9) rfl dX2_callOut_1 ?_
  refine lv_iload_n hx hb dX2_callOut_4 rfl (lv_at hl 1 rfl) ?_
  refine lv_aload_n hx hb dX2_callOut_5 rfl (lv_at hl 0 rfl) ?_
  refine va_get (D := D) (ci := 2) (v := .ref (a 5)) (C := RX2) (T := TX2) (N := 8) hx hb hts hi_X2 hown hK hP 0 rfl rfl 3 (by decide) hf_15 (fun _ h9 => h9) rfl dX2_callOut_6 ?_
  refine lv_iload_n hx hb dX2_callOut_9 rfl (lv_at hl 1 rfl) ?_
  refine va_iald hx hb hK hP 1 0 rfl rfl (by assumption) dX2_callOut_10 ?_
  refine lv_aload_n hx hb dX2_callOut_11 rfl (lv_at hl 0 rfl) ?_
  refine va_get (D := D) (ci := 2) (v := .int tk) (C := RX2) (T := TX2) (N := 8) hx hb hts hi_X2 hown hK hP 0 rfl rfl 2 (by decide) hf_9 (fun _ h9 => h9) rfl dX2_callOut_12 ?_
  have hPc := hP.sub (ws' := [((a 13), .inr (0, [.int (nI kn), .ref (a 14), .ref (a 15), .ref (a 16), .ref (a 17)])), ((a 14), .inl (cI, 512, .inl ka)), ((a 15), .inl (cI, 512, .inl kb)), ((a 16), .inl (cI, 512, .inl kc)), ((a 17), .inl (cZ, 512, .inl kd))]) [2, 3, 4, 5, 6] rfl
  have hDc := hD.sub (ws' := [((a 13), .inr (0, [.int (nI kn), .ref (a 14), .ref (a 15), .ref (a 16), .ref (a 17)])), ((a 14), .inl (cI, 512, .inl ka)), ((a 15), .inl (cI, 512, .inl kb)), ((a 16), .inl (cI, 512, .inl kc)), ((a 17), .inl (cZ, 512, .inl kd))]) [2, 3, 4, 5, 6] (by decide) rfl
  have hFc := va_free (wc := [((a 13), .inr (0, [.int (nI kn), .ref (a 14), .ref (a 15), .ref (a 16), .ref (a 17)])), ((a 14), .inl (cI, 512, .inl ka)), ((a 15), .inl (cI, 512, .inl kb)), ((a 16), .inl (cI, 512, .inl kc)), ((a 17), .inl (cZ, 512, .inl kd))]) hD hS hA [2, 3, 4, 5, 6] rfl
  refine va_calli (va_runV (As := [.int p1, .int (ce p1.toNatClampNeg), .int tk]) (rest := []) ⟨hx, hb, hml, hown, hts⟩ (c_X0_add l D cI cZ cJ cA s.heap.size a kn ka kb kc kd p1 (ce p1.toNatClampNeg) tk (by first | assumption | omega)) (cwV 3 hts gX2_callOut_X0_add rfl rfl rfl (by decide +kernel) ⟨Nat.le_of_ble_eq_true rfl, Nat.le_of_ble_eq_true rfl⟩) ⟨pcW_bl, va_recv hK hPc (ci := 0) (q0 := 0) rfl rfl, fun U hU hW => ⟨rfl, by rw [hU], by rw [hU]; exact hPc, va_K.moved hW.alike hK, hDc.weaken (fun _ _ _ _ => trivial)⟩⟩ rfl rfl hl.1 rfl (lv_room (Nat.le_of_ble_eq_true rfl)) dX2_callOut_15 ⟨Nat.le_of_ble_eq_true rfl, Nat.le_of_ble_eq_true rfl⟩) hS (fun q _ h => hFc q h) hFc (fun r_1 u t H locs ht hvm hw hB hz1 hk1 hS => ?_)
  try dsimp only at hw
  obtain ⟨u0_1, u1_1, u2_1, u3_1, u4_1⟩ := u
  try dsimp only at hw
  obtain ⟨hr_1, hu0_1, hu1_1, hu2_1, hu3_1, hu4_1⟩ := hw
  obtain ⟨hP1, hK1, hD1⟩ := hB
  rw [ht] at hP1
  obtain ⟨hP, hD⟩ := va_join (wr := [((a 4), .inr (2, [.int hm, .int aw, .int tk, .ref (a 5), .ref (a 6), .ref (a 7), .ref (a 8), .ref (a 13)])), ((a 5), .inl (cI, 6, .inl ce))]) (w1 := [((a 13), .inr (0, [.int (nI u0_1), .ref (a 14), .ref (a 15), .ref (a 16), .ref (a 17)])), ((a 14), .inl (cI, 512, .inl u1_1)), ((a 15), .inl (cI, 512, .inl u2_1)), ((a 16), .inl (cI, 512, .inl u3_1)), ((a 17), .inl (cZ, 512, .inl u4_1))]) hP hD [2, 3, 4, 5, 6] [0, 1] rfl rfl (by decide) (by decide) hk1 hFc hP1 hD1
  obtain rfl := hu0_1.symm
  obtain rfl := hu1_1.symm
  obtain rfl := hu2_1.symm
  obtain rfl := hu3_1.symm
  obtain rfl := hu4_1.symm
  have hP : va_P D vwCl [((a 4), .inr (2, [.int hm, .int aw, .int tk, .ref (a 5), .ref (a 6), .ref (a 7), .ref (a 8), .ref (a 13)])), ((a 5), .inl (cI, 6, .inl ce)), ((a 13), .inr (0, [.int (nI (kn + 1)), .ref (a 14), .ref (a 15), .ref (a 16), .ref (a 17)])), ((a 14), .inl (cI, 512, .inl (upd ka kn p1))), ((a 15), .inl (cI, 512, .inl (upd kb kn (ce p1.toNatClampNeg)))), ((a 16), .inl (cI, 512, .inl (upd kc kn tk))), ((a 17), .inl (cZ, 512, .inl (upd kd kn 0)))] H := hP
  have hD : va_D A [((a 4), .inr (2, [.int hm, .int aw, .int tk, .ref (a 5), .ref (a 6), .ref (a 7), .ref (a 8), .ref (a 13)])), ((a 5), .inl (cI, 6, .inl ce)), ((a 13), .inr (0, [.int (nI (kn + 1)), .ref (a 14), .ref (a 15), .ref (a 16), .ref (a 17)])), ((a 14), .inl (cI, 512, .inl (upd ka kn p1))), ((a 15), .inl (cI, 512, .inl (upd kb kn (ce p1.toNatClampNeg)))), ((a 16), .inl (cI, 512, .inl (upd kc kn tk))), ((a 17), .inl (cZ, 512, .inl (upd kd kn 0)))] := hD
  obtain rfl := hr_1.symm
  refine W.widen (k := 0) (n := 0) (Nat.le_refl _) (Nat.le_refl _) ?_
  refine lv_istore_n (lv' := [(2, .int (nI kn)), (0, .ref (a 4)), (1, .int p1)]) hx hb dX2_callOut_18 rfl hl (by decide) rfl (fun ls hl => ?_)
  refine lv_aload_n hx hb dX2_callOut_19 rfl (lv_at hl 1 rfl) ?_
  refine va_get (D := D) (ci := 2) (v := .ref (a 5)) (C := RX2) (T := TX2) (N := 8) hx hb hts hi_X2 hown hK hP 0 rfl rfl 3 (by decide) hf_15 (fun _ h9 => h9) rfl dX2_callOut_20 ?_
  refine lv_iload_n hx hb dX2_callOut_23 rfl (lv_at hl 2 rfl) ?_
  refine lv_bipush (v := (-2)) hx hb dX2_callOut_24 (by decide) ?_
  refine va_iast hx hb hK hP hD hS 1 0 rfl rfl (by assumption) dX2_callOut_26 (fun H locs hP hD hS => ?_)
  have hP : va_P D vwCl [((a 4), .inr (2, [.int hm, .int aw, .int tk, .ref (a 5), .ref (a 6), .ref (a 7), .ref (a 8), .ref (a 13)])), ((a 5), .inl (cI, 6, .inl (upd ce p1.toNatClampNeg (-2)))), ((a 13), .inr (0, [.int (nI (kn + 1)), .ref (a 14), .ref (a 15), .ref (a 16), .ref (a 17)])), ((a 14), .inl (cI, 512, .inl (upd ka kn p1))), ((a 15), .inl (cI, 512, .inl (upd kb kn (ce p1.toNatClampNeg)))), ((a 16), .inl (cI, 512, .inl (upd kc kn tk))), ((a 17), .inl (cZ, 512, .inl (upd kd kn 0)))] H := hP
  have hD : va_D A [((a 4), .inr (2, [.int hm, .int aw, .int tk, .ref (a 5), .ref (a 6), .ref (a 7), .ref (a 8), .ref (a 13)])), ((a 5), .inl (cI, 6, .inl (upd ce p1.toNatClampNeg (-2)))), ((a 13), .inr (0, [.int (nI (kn + 1)), .ref (a 14), .ref (a 15), .ref (a 16), .ref (a 17)])), ((a 14), .inl (cI, 512, .inl (upd ka kn p1))), ((a 15), .inl (cI, 512, .inl (upd kb kn (ce p1.toNatClampNeg)))), ((a 16), .inl (cI, 512, .inl (upd kc kn tk))), ((a 17), .inl (cZ, 512, .inl (upd kd kn 0)))] := hD
  refine lv_iload_n hx hb dX2_callOut_27 rfl (lv_at hl 0 rfl) ?_
  have hP9 := hP.sub (ws' := [((a 4), .inr (2, [.int hm, .int aw, .int tk, .ref (a 5), .ref (a 6), .ref (a 7), .ref (a 8), .ref (a 13)])), ((a 5), .inl (cI, 6, .inl (upd ce p1.toNatClampNeg (-2)))), ((a 13), .inr (0, [.int (nI (kn + 1)), .ref (a 14), .ref (a 15), .ref (a 16), .ref (a 17)])), ((a 14), .inl (cI, 512, .inl (upd ka kn p1))), ((a 15), .inl (cI, 512, .inl (upd kb kn (ce p1.toNatClampNeg)))), ((a 16), .inl (cI, 512, .inl (upd kc kn tk))), ((a 17), .inl (cZ, 512, .inl (upd kd kn 0)))]) [0, 1, 2, 3, 4, 5, 6] rfl
  have hD9 := hD.sub (ws' := [((a 4), .inr (2, [.int hm, .int aw, .int tk, .ref (a 5), .ref (a 6), .ref (a 7), .ref (a 8), .ref (a 13)])), ((a 5), .inl (cI, 6, .inl (upd ce p1.toNatClampNeg (-2)))), ((a 13), .inr (0, [.int (nI (kn + 1)), .ref (a 14), .ref (a 15), .ref (a 16), .ref (a 17)])), ((a 14), .inl (cI, 512, .inl (upd ka kn p1))), ((a 15), .inl (cI, 512, .inl (upd kb kn (ce p1.toNatClampNeg)))), ((a 16), .inl (cI, 512, .inl (upd kc kn tk))), ((a 17), .inl (cZ, 512, .inl (upd kd kn 0)))]) [0, 1, 2, 3, 4, 5, 6] (by decide) rfl
  -- leaf 0
  refine W.widen (k := 0) (n := 0) (Nat.le_refl _) (Nat.le_refl _) ?_
  exact W.iret (v := nI kn) hx hb hr (fun t ht hW => ⟨⟨nI kn, (upd ce p1.toNatClampNeg (-2), (kn + 1), (upd ka kn p1), (upd kb kn (ce p1.toNatClampNeg)), (upd kc kn tk), (upd kd kn 0)), rfl, ⟨rfl, rfl, rfl, rfl, rfl, rfl, rfl⟩, by rw [ht]; exact hP9, va_K.moved hW.alike hK, hD9⟩, hS.F ht⟩) hS.2.2 dX2_callOut_28

noncomputable def f_X2_judge (hm : Int32) (aw : Int32) (tk : Int32) (ce : Nat → Int32) (hi : Nat → Int32) (kn : Nat) (ka : Nat → Int32) (kb : Nat → Int32) (kc : Nat → Int32) (kd : Nat → Int32) (p1 : Int32) : Int32 := if (hi (ka p1.toNatClampNeg).toNatClampNeg) = (-1) then 0 else (if (kc p1.toNatClampNeg) < (hi (ka p1.toNatClampNeg).toNatClampNeg) then 0 else 1)
noncomputable def g_ce_X2_judge (hm : Int32) (aw : Int32) (tk : Int32) (ce : Nat → Int32) (hi : Nat → Int32) (kn : Nat) (ka : Nat → Int32) (kb : Nat → Int32) (kc : Nat → Int32) (kd : Nat → Int32) (p1 : Int32) : Nat → Int32 := if (hi (ka p1.toNatClampNeg).toNatClampNeg) = (-1) then (if (pOn ce (kb p1.toNatClampNeg)) = (-1) then upd ce ((ka p1.toNatClampNeg).toNatClampNeg) (kb p1.toNatClampNeg) else upd ce ((ka p1.toNatClampNeg).toNatClampNeg) (-1)) else (if (kc p1.toNatClampNeg) < (hi (ka p1.toNatClampNeg).toNatClampNeg) then (if (pOn ce (kb p1.toNatClampNeg)) = (-1) then upd ce ((ka p1.toNatClampNeg).toNatClampNeg) (kb p1.toNatClampNeg) else upd ce ((ka p1.toNatClampNeg).toNatClampNeg) (-1)) else ce)
set_option maxHeartbeats 4000000 in
set_option maxRecDepth 100000 in
theorem c_X2_judge (l : Launch) (D : va_G) (cI cZ cJ cA : ClassId) (sz : Nat) (a : Nat → Nat) (hm : Int32) (aw : Int32) (tk : Int32) (ce : Nat → Int32) (hi : Nat → Int32) (kn : Nat) (ka : Nat → Int32) (kb : Nat → Int32) (kc : Nat → Int32) (kd : Nat → Int32) (p1 : Int32) (h1 : vp_in p1 512) (h2 : vp_in (ka p1.toNatClampNeg) 6) : Met l yX2_judge wsX2_judge ({ frames := 1, cells := 0, slots := 0, locals := 22 } : Room) (va_Pc [.ref (a 4), .int p1] (pcW D (tyL cI cZ cJ cA) [((a 4), .inr (2, [.int hm, .int aw, .int tk, .ref (a 5), .ref (a 6), .ref (a 7), .ref (a 8), .ref (a 13)])), ((a 5), .inl (cI, 6, .inl ce)), ((a 6), .inl (cI, 6, .inl hi)), ((a 13), .inr (0, [.int (nI kn), .ref (a 14), .ref (a 15), .ref (a 16), .ref (a 17)])), ((a 14), .inl (cI, 512, .inl ka)), ((a 15), .inl (cI, 512, .inl kb)), ((a 16), .inl (cI, 512, .inl kc)), ((a 17), .inl (cZ, 512, .inl kd))] sz)) (va_Qi (fun (r : Int32) (u : (Nat → Int32) × (Nat → Int32)) => r = f_X2_judge hm aw tk ce hi kn ka kb kc kd p1 ∧ u.1 = g_ce_X2_judge hm aw tk ce hi kn ka kb kc kd p1 ∧ u.2 = upd kd p1.toNatClampNeg 1) (fun u t => bcW D (tyL cI cZ cJ cA) (va_A [((a 4), .inr (2, [.int hm, .int aw, .int tk, .ref (a 5), .ref (a 6), .ref (a 7), .ref (a 8), .ref (a 13)])), ((a 5), .inl (cI, 6, .inl ce)), ((a 6), .inl (cI, 6, .inl hi)), ((a 13), .inr (0, [.int (nI kn), .ref (a 14), .ref (a 15), .ref (a 16), .ref (a 17)])), ((a 14), .inl (cI, 512, .inl ka)), ((a 15), .inl (cI, 512, .inl kb)), ((a 16), .inl (cI, 512, .inl kc)), ((a 17), .inl (cZ, 512, .inl kd))] sz) [((a 4), .inr (2, [.int hm, .int aw, .int tk, .ref (a 5), .ref (a 6), .ref (a 7), .ref (a 8), .ref (a 13)])), ((a 5), .inl (cI, 6, .inl u.1)), ((a 6), .inl (cI, 6, .inl hi)), ((a 13), .inr (0, [.int (nI kn), .ref (a 14), .ref (a 15), .ref (a 16), .ref (a 17)])), ((a 14), .inl (cI, 512, .inl ka)), ((a 15), .inl (cI, 512, .inl kb)), ((a 16), .inl (cI, 512, .inl kc)), ((a 17), .inl (cZ, 512, .inl u.2))] t) (va_A [((a 4), .inr (2, [.int hm, .int aw, .int tk, .ref (a 5), .ref (a 6), .ref (a 7), .ref (a 8), .ref (a 13)])), ((a 5), .inl (cI, 6, .inl ce)), ((a 6), .inl (cI, 6, .inl hi)), ((a 13), .inr (0, [.int (nI kn), .ref (a 14), .ref (a 15), .ref (a 16), .ref (a 17)])), ((a 14), .inl (cI, 512, .inl ka)), ((a 15), .inl (cI, 512, .inl kb)), ((a 16), .inl (cI, 512, .inl kc)), ((a 17), .inl (cZ, 512, .inl kd))] sz)) 0 0 (va_A [((a 4), .inr (2, [.int hm, .int aw, .int tk, .ref (a 5), .ref (a 6), .ref (a 7), .ref (a 8), .ref (a 13)])), ((a 5), .inl (cI, 6, .inl ce)), ((a 6), .inl (cI, 6, .inl hi)), ((a 13), .inr (0, [.int (nI kn), .ref (a 14), .ref (a 15), .ref (a 16), .ref (a 17)])), ((a 14), .inl (cI, 512, .inl ka)), ((a 15), .inl (cI, 512, .inl kb)), ((a 16), .inl (cI, 512, .inl kc)), ((a 17), .inl (cZ, 512, .inl kd))] sz) := by
  refine Met.ofW (cc := cX2_judge) (maxL := 4) (ret := (some .boolean)) (by decide) rfl ?_
  intro p e s m args below meth c s₁ B hml hv
  obtain ⟨rfl, hsz, hP, hK, hD0⟩ := hv
  have hx := B.exec
  have hb := B.bytes
  have hr := B.returns
  have hts := atoms_spec (ws := wsX2_judge) B.pre
  have hown : s.vm.findClass RX2 = some m.cls := findClass_of_methodNamed B.named
  have hlocks := B.notSynchronized
  subst hsz
  have hD := hD0.self (sz := s.heap.size)
  generalize hAe : va_A [((a 4), .inr (2, [.int hm, .int aw, .int tk, .ref (a 5), .ref (a 6), .ref (a 7), .ref (a 8), .ref (a 13)])), ((a 5), .inl (cI, 6, .inl ce)), ((a 6), .inl (cI, 6, .inl hi)), ((a 13), .inr (0, [.int (nI kn), .ref (a 14), .ref (a 15), .ref (a 16), .ref (a 17)])), ((a 14), .inl (cI, 512, .inl ka)), ((a 15), .inl (cI, 512, .inl kb)), ((a 16), .inl (cI, 512, .inl kc)), ((a 17), .inl (cZ, 512, .inl kd))] s.heap.size = A at hD ⊢
  have hA : ∀ q : Nat, s.heap.size ≤ q → A q := fun q h => by rw [← hAe]; exact Or.inr h
  have hAR : ∀ q : Nat, s.heap.size ≤ q → (fun q : Nat => s.heap.size ≤ q) q := fun _ h => h
  have hS : va_S A s.heap s.heap [] := va_S.rf
  have hP : va_P D vwCl [((a 4), .inr (2, [.int hm, .int aw, .int tk, .ref (a 5), .ref (a 6), .ref (a 7), .ref (a 8), .ref (a 13)])), ((a 5), .inl (cI, 6, .inl ce)), ((a 6), .inl (cI, 6, .inl hi)), ((a 13), .inr (0, [.int (nI kn), .ref (a 14), .ref (a 15), .ref (a 16), .ref (a 17)])), ((a 14), .inl (cI, 512, .inl ka)), ((a 15), .inl (cI, 512, .inl kb)), ((a 16), .inl (cI, 512, .inl kc)), ((a 17), .inl (cZ, 512, .inl kd))] s.heap := hP
  have hl := lv_entry ([.ref (a 4), .int p1]) (n := 4) (Nat.le_of_ble_eq_true rfl)
  rw [lg_entry_eq]
  generalize (lg_sl ([.ref (a 4), .int p1]) ++ List.replicate (4 - (lg_sl ([.ref (a 4), .int p1])).length) Slot.unset).toArray = ls at hl ⊢
  have hl : lv_has ls 4 [(0, .ref (a 4)), (1, .int p1)] := hl
  have hf_35 := hts (.fieldLink RX2 35 "PaintballAtlas$Round" "calls" "LPaintballAtlas$Calls;") (by decide +kernel)
  have hi_X2 : ∀ w ∈ wsX20, w ∈ wsX2_judge := by decide +kernel
  have hf_94 := hts (.fieldLink RX2 94 "PaintballAtlas$Calls" "players" "[I") (by decide +kernel)
  have hi_X0 : ∀ w ∈ wsX00, w ∈ wsX2_judge := by decide +kernel
  have hf_90 := hts (.fieldLink RX2 90 "PaintballAtlas$Calls" "disputed" "[Z") (by decide +kernel)
  have hf_19 := hts (.fieldLink RX2 19 "PaintballAtlas$Round" "hits" "[I") (by decide +kernel)
  have hf_100 := hts (.fieldLink RX2 100 "PaintballAtlas$Calls" "cells" "[I") (by decide +kernel)
  have hf_15 := hts (.fieldLink RX2 15 "PaintballAtlas$Round" "cells" "[I") (by decide +kernel)
  have hf_97 := hts (.fieldLink RX2 97 "PaintballAtlas$Calls" "ticks" "[I") (by decide +kernel)
  refine lv_aload_n hx hb dX2_judge_0 rfl (lv_at hl 0 rfl) ?_
  refine va_get (D := D) (ci := 2) (v := .ref (a 13)) (C := RX2) (T := TX2) (N := 8) hx hb hts hi_X2 hown hK hP 0 rfl rfl 7 (by decide) hf_35 (fun _ h9 => h9) rfl dX2_judge_1 ?_
  refine va_get (D := D) (ci := 0) (v := .ref (a 14)) (C := RX0) (T := TX0) (N := 5) hx hb hts hi_X0 hown hK hP 3 rfl rfl 1 (by decide) hf_94 (fun _ h9 => h9) rfl dX2_judge_4 ?_
  refine lv_iload_n hx hb dX2_judge_7 rfl (lv_at hl 1 rfl) ?_
  refine va_iald hx hb hK hP 4 0 rfl rfl (by assumption) dX2_judge_8 ?_
  refine lv_istore_n (lv' := [(2, .int (ka p1.toNatClampNeg)), (0, .ref (a 4)), (1, .int p1)]) hx hb dX2_judge_9 rfl hl (by decide) rfl (fun ls hl => ?_)
  refine lv_aload_n hx hb dX2_judge_10 rfl (lv_at hl 1 rfl) ?_
  refine va_get (D := D) (ci := 2) (v := .ref (a 13)) (C := RX2) (T := TX2) (N := 8) hx hb hts hi_X2 hown hK hP 0 rfl rfl 7 (by decide) hf_35 (fun _ h9 => h9) rfl dX2_judge_11 ?_
  refine va_get (D := D) (ci := 0) (v := .ref (a 17)) (C := RX0) (T := TX0) (N := 5) hx hb hts hi_X0 hown hK hP 3 rfl rfl 4 (by decide) hf_90 (fun _ h9 => h9) rfl dX2_judge_14 ?_
  refine lv_iload_n hx hb dX2_judge_17 rfl (lv_at hl 2 rfl) ?_
  refine lv_iconst (v := 1) hx hb dX2_judge_18 (by decide) ?_
  refine va_zast hx hb hK hP hD hS 7 1 rfl rfl (by assumption) dX2_judge_19 (fun H locs hP hD hS => ?_)
  have hP : va_P D vwCl [((a 4), .inr (2, [.int hm, .int aw, .int tk, .ref (a 5), .ref (a 6), .ref (a 7), .ref (a 8), .ref (a 13)])), ((a 5), .inl (cI, 6, .inl ce)), ((a 6), .inl (cI, 6, .inl hi)), ((a 13), .inr (0, [.int (nI kn), .ref (a 14), .ref (a 15), .ref (a 16), .ref (a 17)])), ((a 14), .inl (cI, 512, .inl ka)), ((a 15), .inl (cI, 512, .inl kb)), ((a 16), .inl (cI, 512, .inl kc)), ((a 17), .inl (cZ, 512, .inl (upd kd p1.toNatClampNeg 1)))] H := hP
  have hD : va_D A [((a 4), .inr (2, [.int hm, .int aw, .int tk, .ref (a 5), .ref (a 6), .ref (a 7), .ref (a 8), .ref (a 13)])), ((a 5), .inl (cI, 6, .inl ce)), ((a 6), .inl (cI, 6, .inl hi)), ((a 13), .inr (0, [.int (nI kn), .ref (a 14), .ref (a 15), .ref (a 16), .ref (a 17)])), ((a 14), .inl (cI, 512, .inl ka)), ((a 15), .inl (cI, 512, .inl kb)), ((a 16), .inl (cI, 512, .inl kc)), ((a 17), .inl (cZ, 512, .inl (upd kd p1.toNatClampNeg 1)))] := hD
  refine lv_aload_n hx hb dX2_judge_20 rfl (lv_at hl 1 rfl) ?_
  refine va_get (D := D) (ci := 2) (v := .ref (a 6)) (C := RX2) (T := TX2) (N := 8) hx hb hts hi_X2 hown hK hP 0 rfl rfl 4 (by decide) hf_19 (fun _ h9 => h9) rfl dX2_judge_21 ?_
  refine lv_iload_n hx hb dX2_judge_24 rfl (lv_at hl 0 rfl) ?_
  refine va_iald hx hb hK hP 2 0 rfl rfl (by assumption) dX2_judge_25 ?_
  refine lv_iconst (v := (-1)) hx hb dX2_judge_26 (by decide) ?_
  refine lv_icmp_eq (tgt := 50) hx hb dX2_judge_27 (by decide) (fun c_1 => ?_) (fun c_1 => ?_)
  · refine lv_aload_n hx hb dX2_judge_50 rfl (lv_at hl 1 rfl) ?_
    refine va_get (D := D) (ci := 2) (v := .ref (a 13)) (C := RX2) (T := TX2) (N := 8) hx hb hts hi_X2 hown hK hP 0 rfl rfl 7 (by decide) hf_35 (fun _ h9 => h9) rfl dX2_judge_51 ?_
    refine va_get (D := D) (ci := 0) (v := .ref (a 15)) (C := RX0) (T := TX0) (N := 5) hx hb hts hi_X0 hown hK hP 3 rfl rfl 2 (by decide) hf_100 (fun _ h9 => h9) rfl dX2_judge_54 ?_
    refine lv_iload_n hx hb dX2_judge_57 rfl (lv_at hl 2 rfl) ?_
    refine va_iald hx hb hK hP 5 0 rfl rfl (by assumption) dX2_judge_58 ?_
    refine lv_istore_n (lv' := [(3, .int (kb p1.toNatClampNeg)), (2, .int (ka p1.toNatClampNeg)), (0, .ref (a 4)), (1, .int p1)]) hx hb dX2_judge_59 rfl hl (by decide) rfl (fun ls hl => ?_)
    refine lv_aload_n hx hb dX2_judge_60 rfl (lv_at hl 2 rfl) ?_
    refine va_get (D := D) (ci := 2) (v := .ref (a 5)) (C := RX2) (T := TX2) (N := 8) hx hb hts hi_X2 hown hK hP 0 rfl rfl 3 (by decide) hf_15 (fun _ h9 => h9) rfl dX2_judge_61 ?_
    refine lv_iload_n hx hb dX2_judge_64 rfl (lv_at hl 1 rfl) ?_
    refine lv_aload_n hx hb dX2_judge_65 rfl (lv_at hl 2 rfl) ?_
    refine lv_iload_n hx hb dX2_judge_66 rfl (lv_at hl 0 rfl) ?_
    have hPc := hP.sub (ws' := [((a 4), .inr (2, [.int hm, .int aw, .int tk, .ref (a 5), .ref (a 6), .ref (a 7), .ref (a 8), .ref (a 13)])), ((a 5), .inl (cI, 6, .inl ce))]) [0, 1] rfl
    refine va_calli (va_runV (As := [.int (kb p1.toNatClampNeg)]) (rest := [.int (ka p1.toNatClampNeg), .ref (a 5)]) ⟨hx, hb, hml, hown, hts⟩ (c_X2_playerOn l D cI cZ cJ cA H.size a hm aw tk ce (kb p1.toNatClampNeg)) (cwV 1 hts gX2_judge_X2_playerOn rfl rfl rfl (by decide +kernel) ⟨Nat.le_of_ble_eq_true rfl, Nat.le_of_ble_eq_true rfl⟩) ⟨pcR_bl, va_recv hK hPc (ci := 2) (q0 := 0) rfl rfl, fun U hU hW => ⟨rfl, by rw [hU], by rw [hU]; exact hPc, va_K.moved hW.alike hK⟩⟩ rfl rfl hl.1 rfl (lv_room (Nat.le_of_ble_eq_true rfl)) dX2_judge_67 ⟨Nat.le_of_ble_eq_true rfl, Nat.le_of_ble_eq_true rfl⟩) hS (fun _ h1 h2 => absurd h1 (Nat.not_lt.mpr h2)) (rd_free hS hA) (fun r_2 u t H locs ht hvm hw hB hz1 hk1 hS => ?_)
    try dsimp only at hw
    have hr_2 := hw
    have hP := rd_P hP hk1
    obtain rfl := hr_2.symm
    refine W.widen (k := 0) (n := 0) (Nat.le_refl _) (Nat.le_refl _) ?_
    refine lv_iconst (v := (-1)) hx hb dX2_judge_70 (by decide) ?_
    refine lv_icmp_ne (tgt := 78) hx hb dX2_judge_71 (by decide) (fun c_3 => ?_) (fun c_3 => ?_)
    · refine lv_iconst (v := (-1)) hx hb dX2_judge_78 (by decide) ?_
      refine va_iast hx hb hK hP hD hS 1 0 rfl rfl (by assumption) dX2_judge_79 (fun H locs hP hD hS => ?_)
      have hP : va_P D vwCl [((a 4), .inr (2, [.int hm, .int aw, .int tk, .ref (a 5), .ref (a 6), .ref (a 7), .ref (a 8), .ref (a 13)])), ((a 5), .inl (cI, 6, .inl (upd ce ((ka p1.toNatClampNeg).toNatClampNeg) (-1)))), ((a 6), .inl (cI, 6, .inl hi)), ((a 13), .inr (0, [.int (nI kn), .ref (a 14), .ref (a 15), .ref (a 16), .ref (a 17)])), ((a 14), .inl (cI, 512, .inl ka)), ((a 15), .inl (cI, 512, .inl kb)), ((a 16), .inl (cI, 512, .inl kc)), ((a 17), .inl (cZ, 512, .inl (upd kd p1.toNatClampNeg 1)))] H := hP
      have hD : va_D A [((a 4), .inr (2, [.int hm, .int aw, .int tk, .ref (a 5), .ref (a 6), .ref (a 7), .ref (a 8), .ref (a 13)])), ((a 5), .inl (cI, 6, .inl (upd ce ((ka p1.toNatClampNeg).toNatClampNeg) (-1)))), ((a 6), .inl (cI, 6, .inl hi)), ((a 13), .inr (0, [.int (nI kn), .ref (a 14), .ref (a 15), .ref (a 16), .ref (a 17)])), ((a 14), .inl (cI, 512, .inl ka)), ((a 15), .inl (cI, 512, .inl kb)), ((a 16), .inl (cI, 512, .inl kc)), ((a 17), .inl (cZ, 512, .inl (upd kd p1.toNatClampNeg 1)))] := hD
      refine lv_iconst (v := 0) hx hb dX2_judge_80 (by decide) ?_
      have hP9 := hP.sub (ws' := [((a 4), .inr (2, [.int hm, .int aw, .int tk, .ref (a 5), .ref (a 6), .ref (a 7), .ref (a 8), .ref (a 13)])), ((a 5), .inl (cI, 6, .inl (upd ce ((ka p1.toNatClampNeg).toNatClampNeg) (-1)))), ((a 6), .inl (cI, 6, .inl hi)), ((a 13), .inr (0, [.int (nI kn), .ref (a 14), .ref (a 15), .ref (a 16), .ref (a 17)])), ((a 14), .inl (cI, 512, .inl ka)), ((a 15), .inl (cI, 512, .inl kb)), ((a 16), .inl (cI, 512, .inl kc)), ((a 17), .inl (cZ, 512, .inl (upd kd p1.toNatClampNeg 1)))]) [0, 1, 2, 3, 4, 5, 6, 7] rfl
      have hD9 := hD.sub (ws' := [((a 4), .inr (2, [.int hm, .int aw, .int tk, .ref (a 5), .ref (a 6), .ref (a 7), .ref (a 8), .ref (a 13)])), ((a 5), .inl (cI, 6, .inl (upd ce ((ka p1.toNatClampNeg).toNatClampNeg) (-1)))), ((a 6), .inl (cI, 6, .inl hi)), ((a 13), .inr (0, [.int (nI kn), .ref (a 14), .ref (a 15), .ref (a 16), .ref (a 17)])), ((a 14), .inl (cI, 512, .inl ka)), ((a 15), .inl (cI, 512, .inl kb)), ((a 16), .inl (cI, 512, .inl kc)), ((a 17), .inl (cZ, 512, .inl (upd kd p1.toNatClampNeg 1)))]) [0, 1, 2, 3, 4, 5, 6, 7] (by decide) rfl
      -- leaf 0
      refine W.widen (k := 0) (n := 0) (Nat.le_refl _) (Nat.le_refl _) ?_
      exact W.zret (v := 0) (ty := .boolean) hx hb hr rfl (fun t ht hW => ⟨⟨0, (upd ce ((ka p1.toNatClampNeg).toNatClampNeg) (-1), upd kd p1.toNatClampNeg 1), rfl, ⟨(by rw [f_X2_judge, if_pos c_1]), (by rw [g_ce_X2_judge, if_pos c_1, if_neg c_3]), rfl⟩, by rw [ht]; exact hP9, va_K.moved hW.alike hK, hD9⟩, hS.F ht⟩) hS.2.2 dX2_judge_81
    · refine lv_iload_n hx hb dX2_judge_74 rfl (lv_at hl 0 rfl) ?_
      refine lv_goto (tgt := 79) hx hb dX2_judge_75 (by decide) ?_
      refine va_iast hx hb hK hP hD hS 1 0 rfl rfl (by assumption) dX2_judge_79 (fun H locs hP hD hS => ?_)
      have hP : va_P D vwCl [((a 4), .inr (2, [.int hm, .int aw, .int tk, .ref (a 5), .ref (a 6), .ref (a 7), .ref (a 8), .ref (a 13)])), ((a 5), .inl (cI, 6, .inl (upd ce ((ka p1.toNatClampNeg).toNatClampNeg) (kb p1.toNatClampNeg)))), ((a 6), .inl (cI, 6, .inl hi)), ((a 13), .inr (0, [.int (nI kn), .ref (a 14), .ref (a 15), .ref (a 16), .ref (a 17)])), ((a 14), .inl (cI, 512, .inl ka)), ((a 15), .inl (cI, 512, .inl kb)), ((a 16), .inl (cI, 512, .inl kc)), ((a 17), .inl (cZ, 512, .inl (upd kd p1.toNatClampNeg 1)))] H := hP
      have hD : va_D A [((a 4), .inr (2, [.int hm, .int aw, .int tk, .ref (a 5), .ref (a 6), .ref (a 7), .ref (a 8), .ref (a 13)])), ((a 5), .inl (cI, 6, .inl (upd ce ((ka p1.toNatClampNeg).toNatClampNeg) (kb p1.toNatClampNeg)))), ((a 6), .inl (cI, 6, .inl hi)), ((a 13), .inr (0, [.int (nI kn), .ref (a 14), .ref (a 15), .ref (a 16), .ref (a 17)])), ((a 14), .inl (cI, 512, .inl ka)), ((a 15), .inl (cI, 512, .inl kb)), ((a 16), .inl (cI, 512, .inl kc)), ((a 17), .inl (cZ, 512, .inl (upd kd p1.toNatClampNeg 1)))] := hD
      refine lv_iconst (v := 0) hx hb dX2_judge_80 (by decide) ?_
      have hP9 := hP.sub (ws' := [((a 4), .inr (2, [.int hm, .int aw, .int tk, .ref (a 5), .ref (a 6), .ref (a 7), .ref (a 8), .ref (a 13)])), ((a 5), .inl (cI, 6, .inl (upd ce ((ka p1.toNatClampNeg).toNatClampNeg) (kb p1.toNatClampNeg)))), ((a 6), .inl (cI, 6, .inl hi)), ((a 13), .inr (0, [.int (nI kn), .ref (a 14), .ref (a 15), .ref (a 16), .ref (a 17)])), ((a 14), .inl (cI, 512, .inl ka)), ((a 15), .inl (cI, 512, .inl kb)), ((a 16), .inl (cI, 512, .inl kc)), ((a 17), .inl (cZ, 512, .inl (upd kd p1.toNatClampNeg 1)))]) [0, 1, 2, 3, 4, 5, 6, 7] rfl
      have hD9 := hD.sub (ws' := [((a 4), .inr (2, [.int hm, .int aw, .int tk, .ref (a 5), .ref (a 6), .ref (a 7), .ref (a 8), .ref (a 13)])), ((a 5), .inl (cI, 6, .inl (upd ce ((ka p1.toNatClampNeg).toNatClampNeg) (kb p1.toNatClampNeg)))), ((a 6), .inl (cI, 6, .inl hi)), ((a 13), .inr (0, [.int (nI kn), .ref (a 14), .ref (a 15), .ref (a 16), .ref (a 17)])), ((a 14), .inl (cI, 512, .inl ka)), ((a 15), .inl (cI, 512, .inl kb)), ((a 16), .inl (cI, 512, .inl kc)), ((a 17), .inl (cZ, 512, .inl (upd kd p1.toNatClampNeg 1)))]) [0, 1, 2, 3, 4, 5, 6, 7] (by decide) rfl
      -- leaf 1
      refine W.widen (k := 0) (n := 0) (Nat.le_refl _) (Nat.le_refl _) ?_
      exact W.zret (v := 0) (ty := .boolean) hx hb hr rfl (fun t ht hW => ⟨⟨0, (upd ce ((ka p1.toNatClampNeg).toNatClampNeg) (kb p1.toNatClampNeg), upd kd p1.toNatClampNeg 1), rfl, ⟨(by rw [f_X2_judge, if_pos c_1]), (by rw [g_ce_X2_judge, if_pos c_1, if_pos c_3]), rfl⟩, by rw [ht]; exact hP9, va_K.moved hW.alike hK, hD9⟩, hS.F ht⟩) hS.2.2 dX2_judge_81
  · refine lv_aload_n hx hb dX2_judge_30 rfl (lv_at hl 1 rfl) ?_
    refine va_get (D := D) (ci := 2) (v := .ref (a 6)) (C := RX2) (T := TX2) (N := 8) hx hb hts hi_X2 hown hK hP 0 rfl rfl 4 (by decide) hf_19 (fun _ h9 => h9) rfl dX2_judge_31 ?_
    refine lv_iload_n hx hb dX2_judge_34 rfl (lv_at hl 0 rfl) ?_
    refine va_iald hx hb hK hP 2 0 rfl rfl (by assumption) dX2_judge_35 ?_
    refine lv_aload_n hx hb dX2_judge_36 rfl (lv_at hl 1 rfl) ?_
    refine va_get (D := D) (ci := 2) (v := .ref (a 13)) (C := RX2) (T := TX2) (N := 8) hx hb hts hi_X2 hown hK hP 0 rfl rfl 7 (by decide) hf_35 (fun _ h9 => h9) rfl dX2_judge_37 ?_
    refine va_get (D := D) (ci := 0) (v := .ref (a 16)) (C := RX0) (T := TX0) (N := 5) hx hb hts hi_X0 hown hK hP 3 rfl rfl 3 (by decide) hf_97 (fun _ h9 => h9) rfl dX2_judge_40 ?_
    refine lv_iload_n hx hb dX2_judge_43 rfl (lv_at hl 2 rfl) ?_
    refine va_iald hx hb hK hP 6 0 rfl rfl (by assumption) dX2_judge_44 ?_
    refine lv_icmp_gt (tgt := 50) hx hb dX2_judge_45 (by decide) (fun c_4 => ?_) (fun c_4 => ?_)
    · refine lv_aload_n hx hb dX2_judge_50 rfl (lv_at hl 1 rfl) ?_
      refine va_get (D := D) (ci := 2) (v := .ref (a 13)) (C := RX2) (T := TX2) (N := 8) hx hb hts hi_X2 hown hK hP 0 rfl rfl 7 (by decide) hf_35 (fun _ h9 => h9) rfl dX2_judge_51 ?_
      refine va_get (D := D) (ci := 0) (v := .ref (a 15)) (C := RX0) (T := TX0) (N := 5) hx hb hts hi_X0 hown hK hP 3 rfl rfl 2 (by decide) hf_100 (fun _ h9 => h9) rfl dX2_judge_54 ?_
      refine lv_iload_n hx hb dX2_judge_57 rfl (lv_at hl 2 rfl) ?_
      refine va_iald hx hb hK hP 5 0 rfl rfl (by assumption) dX2_judge_58 ?_
      refine lv_istore_n (lv' := [(3, .int (kb p1.toNatClampNeg)), (2, .int (ka p1.toNatClampNeg)), (0, .ref (a 4)), (1, .int p1)]) hx hb dX2_judge_59 rfl hl (by decide) rfl (fun ls hl => ?_)
      refine lv_aload_n hx hb dX2_judge_60 rfl (lv_at hl 2 rfl) ?_
      refine va_get (D := D) (ci := 2) (v := .ref (a 5)) (C := RX2) (T := TX2) (N := 8) hx hb hts hi_X2 hown hK hP 0 rfl rfl 3 (by decide) hf_15 (fun _ h9 => h9) rfl dX2_judge_61 ?_
      refine lv_iload_n hx hb dX2_judge_64 rfl (lv_at hl 1 rfl) ?_
      refine lv_aload_n hx hb dX2_judge_65 rfl (lv_at hl 2 rfl) ?_
      refine lv_iload_n hx hb dX2_judge_66 rfl (lv_at hl 0 rfl) ?_
      have hPc := hP.sub (ws' := [((a 4), .inr (2, [.int hm, .int aw, .int tk, .ref (a 5), .ref (a 6), .ref (a 7), .ref (a 8), .ref (a 13)])), ((a 5), .inl (cI, 6, .inl ce))]) [0, 1] rfl
      refine va_calli (va_runV (As := [.int (kb p1.toNatClampNeg)]) (rest := [.int (ka p1.toNatClampNeg), .ref (a 5)]) ⟨hx, hb, hml, hown, hts⟩ (c_X2_playerOn l D cI cZ cJ cA H.size a hm aw tk ce (kb p1.toNatClampNeg)) (cwV 1 hts gX2_judge_X2_playerOn rfl rfl rfl (by decide +kernel) ⟨Nat.le_of_ble_eq_true rfl, Nat.le_of_ble_eq_true rfl⟩) ⟨pcR_bl, va_recv hK hPc (ci := 2) (q0 := 0) rfl rfl, fun U hU hW => ⟨rfl, by rw [hU], by rw [hU]; exact hPc, va_K.moved hW.alike hK⟩⟩ rfl rfl hl.1 rfl (lv_room (Nat.le_of_ble_eq_true rfl)) dX2_judge_67 ⟨Nat.le_of_ble_eq_true rfl, Nat.le_of_ble_eq_true rfl⟩) hS (fun _ h1 h2 => absurd h1 (Nat.not_lt.mpr h2)) (rd_free hS hA) (fun r_5 u t H locs ht hvm hw hB hz1 hk1 hS => ?_)
      try dsimp only at hw
      have hr_5 := hw
      have hP := rd_P hP hk1
      obtain rfl := hr_5.symm
      refine W.widen (k := 0) (n := 0) (Nat.le_refl _) (Nat.le_refl _) ?_
      refine lv_iconst (v := (-1)) hx hb dX2_judge_70 (by decide) ?_
      refine lv_icmp_ne (tgt := 78) hx hb dX2_judge_71 (by decide) (fun c_6 => ?_) (fun c_6 => ?_)
      · refine lv_iconst (v := (-1)) hx hb dX2_judge_78 (by decide) ?_
        refine va_iast hx hb hK hP hD hS 1 0 rfl rfl (by assumption) dX2_judge_79 (fun H locs hP hD hS => ?_)
        have hP : va_P D vwCl [((a 4), .inr (2, [.int hm, .int aw, .int tk, .ref (a 5), .ref (a 6), .ref (a 7), .ref (a 8), .ref (a 13)])), ((a 5), .inl (cI, 6, .inl (upd ce ((ka p1.toNatClampNeg).toNatClampNeg) (-1)))), ((a 6), .inl (cI, 6, .inl hi)), ((a 13), .inr (0, [.int (nI kn), .ref (a 14), .ref (a 15), .ref (a 16), .ref (a 17)])), ((a 14), .inl (cI, 512, .inl ka)), ((a 15), .inl (cI, 512, .inl kb)), ((a 16), .inl (cI, 512, .inl kc)), ((a 17), .inl (cZ, 512, .inl (upd kd p1.toNatClampNeg 1)))] H := hP
        have hD : va_D A [((a 4), .inr (2, [.int hm, .int aw, .int tk, .ref (a 5), .ref (a 6), .ref (a 7), .ref (a 8), .ref (a 13)])), ((a 5), .inl (cI, 6, .inl (upd ce ((ka p1.toNatClampNeg).toNatClampNeg) (-1)))), ((a 6), .inl (cI, 6, .inl hi)), ((a 13), .inr (0, [.int (nI kn), .ref (a 14), .ref (a 15), .ref (a 16), .ref (a 17)])), ((a 14), .inl (cI, 512, .inl ka)), ((a 15), .inl (cI, 512, .inl kb)), ((a 16), .inl (cI, 512, .inl kc)), ((a 17), .inl (cZ, 512, .inl (upd kd p1.toNatClampNeg 1)))] := hD
        refine lv_iconst (v := 0) hx hb dX2_judge_80 (by decide) ?_
        have hP9 := hP.sub (ws' := [((a 4), .inr (2, [.int hm, .int aw, .int tk, .ref (a 5), .ref (a 6), .ref (a 7), .ref (a 8), .ref (a 13)])), ((a 5), .inl (cI, 6, .inl (upd ce ((ka p1.toNatClampNeg).toNatClampNeg) (-1)))), ((a 6), .inl (cI, 6, .inl hi)), ((a 13), .inr (0, [.int (nI kn), .ref (a 14), .ref (a 15), .ref (a 16), .ref (a 17)])), ((a 14), .inl (cI, 512, .inl ka)), ((a 15), .inl (cI, 512, .inl kb)), ((a 16), .inl (cI, 512, .inl kc)), ((a 17), .inl (cZ, 512, .inl (upd kd p1.toNatClampNeg 1)))]) [0, 1, 2, 3, 4, 5, 6, 7] rfl
        have hD9 := hD.sub (ws' := [((a 4), .inr (2, [.int hm, .int aw, .int tk, .ref (a 5), .ref (a 6), .ref (a 7), .ref (a 8), .ref (a 13)])), ((a 5), .inl (cI, 6, .inl (upd ce ((ka p1.toNatClampNeg).toNatClampNeg) (-1)))), ((a 6), .inl (cI, 6, .inl hi)), ((a 13), .inr (0, [.int (nI kn), .ref (a 14), .ref (a 15), .ref (a 16), .ref (a 17)])), ((a 14), .inl (cI, 512, .inl ka)), ((a 15), .inl (cI, 512, .inl kb)), ((a 16), .inl (cI, 512, .inl kc)), ((a 17), .inl (cZ, 512, .inl (upd kd p1.toNatClampNeg 1)))]) [0, 1, 2, 3, 4, 5, 6, 7] (by decide) rfl
        -- leaf 2
        refine W.widen (k := 0) (n := 0) (Nat.le_refl _) (Nat.le_refl _) ?_
        exact W.zret (v := 0) (ty := .boolean) hx hb hr rfl (fun t ht hW => ⟨⟨0, (upd ce ((ka p1.toNatClampNeg).toNatClampNeg) (-1), upd kd p1.toNatClampNeg 1), rfl, ⟨(by rw [f_X2_judge, if_neg c_1, if_pos c_4]), (by rw [g_ce_X2_judge, if_neg c_1, if_pos c_4, if_neg c_6]), rfl⟩, by rw [ht]; exact hP9, va_K.moved hW.alike hK, hD9⟩, hS.F ht⟩) hS.2.2 dX2_judge_81
      · refine lv_iload_n hx hb dX2_judge_74 rfl (lv_at hl 0 rfl) ?_
        refine lv_goto (tgt := 79) hx hb dX2_judge_75 (by decide) ?_
        refine va_iast hx hb hK hP hD hS 1 0 rfl rfl (by assumption) dX2_judge_79 (fun H locs hP hD hS => ?_)
        have hP : va_P D vwCl [((a 4), .inr (2, [.int hm, .int aw, .int tk, .ref (a 5), .ref (a 6), .ref (a 7), .ref (a 8), .ref (a 13)])), ((a 5), .inl (cI, 6, .inl (upd ce ((ka p1.toNatClampNeg).toNatClampNeg) (kb p1.toNatClampNeg)))), ((a 6), .inl (cI, 6, .inl hi)), ((a 13), .inr (0, [.int (nI kn), .ref (a 14), .ref (a 15), .ref (a 16), .ref (a 17)])), ((a 14), .inl (cI, 512, .inl ka)), ((a 15), .inl (cI, 512, .inl kb)), ((a 16), .inl (cI, 512, .inl kc)), ((a 17), .inl (cZ, 512, .inl (upd kd p1.toNatClampNeg 1)))] H := hP
        have hD : va_D A [((a 4), .inr (2, [.int hm, .int aw, .int tk, .ref (a 5), .ref (a 6), .ref (a 7), .ref (a 8), .ref (a 13)])), ((a 5), .inl (cI, 6, .inl (upd ce ((ka p1.toNatClampNeg).toNatClampNeg) (kb p1.toNatClampNeg)))), ((a 6), .inl (cI, 6, .inl hi)), ((a 13), .inr (0, [.int (nI kn), .ref (a 14), .ref (a 15), .ref (a 16), .ref (a 17)])), ((a 14), .inl (cI, 512, .inl ka)), ((a 15), .inl (cI, 512, .inl kb)), ((a 16), .inl (cI, 512, .inl kc)), ((a 17), .inl (cZ, 512, .inl (upd kd p1.toNatClampNeg 1)))] := hD
        refine lv_iconst (v := 0) hx hb dX2_judge_80 (by decide) ?_
        have hP9 := hP.sub (ws' := [((a 4), .inr (2, [.int hm, .int aw, .int tk, .ref (a 5), .ref (a 6), .ref (a 7), .ref (a 8), .ref (a 13)])), ((a 5), .inl (cI, 6, .inl (upd ce ((ka p1.toNatClampNeg).toNatClampNeg) (kb p1.toNatClampNeg)))), ((a 6), .inl (cI, 6, .inl hi)), ((a 13), .inr (0, [.int (nI kn), .ref (a 14), .ref (a 15), .ref (a 16), .ref (a 17)])), ((a 14), .inl (cI, 512, .inl ka)), ((a 15), .inl (cI, 512, .inl kb)), ((a 16), .inl (cI, 512, .inl kc)), ((a 17), .inl (cZ, 512, .inl (upd kd p1.toNatClampNeg 1)))]) [0, 1, 2, 3, 4, 5, 6, 7] rfl
        have hD9 := hD.sub (ws' := [((a 4), .inr (2, [.int hm, .int aw, .int tk, .ref (a 5), .ref (a 6), .ref (a 7), .ref (a 8), .ref (a 13)])), ((a 5), .inl (cI, 6, .inl (upd ce ((ka p1.toNatClampNeg).toNatClampNeg) (kb p1.toNatClampNeg)))), ((a 6), .inl (cI, 6, .inl hi)), ((a 13), .inr (0, [.int (nI kn), .ref (a 14), .ref (a 15), .ref (a 16), .ref (a 17)])), ((a 14), .inl (cI, 512, .inl ka)), ((a 15), .inl (cI, 512, .inl kb)), ((a 16), .inl (cI, 512, .inl kc)), ((a 17), .inl (cZ, 512, .inl (upd kd p1.toNatClampNeg 1)))]) [0, 1, 2, 3, 4, 5, 6, 7] (by decide) rfl
        -- leaf 3
        refine W.widen (k := 0) (n := 0) (Nat.le_refl _) (Nat.le_refl _) ?_
        exact W.zret (v := 0) (ty := .boolean) hx hb hr rfl (fun t ht hW => ⟨⟨0, (upd ce ((ka p1.toNatClampNeg).toNatClampNeg) (kb p1.toNatClampNeg), upd kd p1.toNatClampNeg 1), rfl, ⟨(by rw [f_X2_judge, if_neg c_1, if_pos c_4]), (by rw [g_ce_X2_judge, if_neg c_1, if_pos c_4, if_pos c_6]), rfl⟩, by rw [ht]; exact hP9, va_K.moved hW.alike hK, hD9⟩, hS.F ht⟩) hS.2.2 dX2_judge_81
    · refine lv_iconst (v := 1) hx hb dX2_judge_48 (by decide) ?_
      have hP9 := hP.sub (ws' := [((a 4), .inr (2, [.int hm, .int aw, .int tk, .ref (a 5), .ref (a 6), .ref (a 7), .ref (a 8), .ref (a 13)])), ((a 5), .inl (cI, 6, .inl ce)), ((a 6), .inl (cI, 6, .inl hi)), ((a 13), .inr (0, [.int (nI kn), .ref (a 14), .ref (a 15), .ref (a 16), .ref (a 17)])), ((a 14), .inl (cI, 512, .inl ka)), ((a 15), .inl (cI, 512, .inl kb)), ((a 16), .inl (cI, 512, .inl kc)), ((a 17), .inl (cZ, 512, .inl (upd kd p1.toNatClampNeg 1)))]) [0, 1, 2, 3, 4, 5, 6, 7] rfl
      have hD9 := hD.sub (ws' := [((a 4), .inr (2, [.int hm, .int aw, .int tk, .ref (a 5), .ref (a 6), .ref (a 7), .ref (a 8), .ref (a 13)])), ((a 5), .inl (cI, 6, .inl ce)), ((a 6), .inl (cI, 6, .inl hi)), ((a 13), .inr (0, [.int (nI kn), .ref (a 14), .ref (a 15), .ref (a 16), .ref (a 17)])), ((a 14), .inl (cI, 512, .inl ka)), ((a 15), .inl (cI, 512, .inl kb)), ((a 16), .inl (cI, 512, .inl kc)), ((a 17), .inl (cZ, 512, .inl (upd kd p1.toNatClampNeg 1)))]) [0, 1, 2, 3, 4, 5, 6, 7] (by decide) rfl
      -- leaf 4
      exact W.zret (v := 1) (ty := .boolean) hx hb hr rfl (fun t ht hW => ⟨⟨1, (ce, upd kd p1.toNatClampNeg 1), rfl, ⟨(by rw [f_X2_judge, if_neg c_1, if_neg c_4]), (by rw [g_ce_X2_judge, if_neg c_1, if_neg c_4]), rfl⟩, by rw [ht]; exact hP9, va_K.moved hW.alike hK, hD9⟩, hS.F ht⟩) hS.2.2 dX2_judge_49

noncomputable def mgN (ce hi : Nat → Int32) : Nat → Int32
  | 0 => 0
  | n + 1 => if ce n = (-2) then mgN ce hi n else if hi n = (-1) then (if 3 ≤ nI n then mgN ce hi n + (-1) else mgN ce hi n + 1) else mgN ce hi n
termination_by n => n
set_option maxHeartbeats 4000000 in
set_option maxRecDepth 100000 in
theorem c_X2_margin (l : Launch) (D : va_G) (cI cZ cJ cA : ClassId) (sz : Nat) (a : Nat → Nat) (hm : Int32) (aw : Int32) (tk : Int32) (ce : Nat → Int32) (hi : Nat → Int32) : Met l yX2_margin wsX2_margin ({ frames := 0, cells := 0, slots := 0, locals := 0 } : Room) (va_Pc [.ref (a 4)] (pcR D (tyL cI cZ cJ cA) [((a 4), .inr (2, [.int hm, .int aw, .int tk, .ref (a 5), .ref (a 6), .ref (a 7), .ref (a 8), .ref (a 13)])), ((a 5), .inl (cI, 6, .inl ce)), ((a 6), .inl (cI, 6, .inl hi))] sz)) (va_Qi (fun (r : Int32) (u : Unit) => r = mgN ce hi 6) (fun _ _ => True) (fun q : Nat => sz ≤ q)) 0 0 (fun q : Nat => sz ≤ q) := by
  refine Met.ofW (cc := cX2_margin) (maxL := 3) (ret := (some .int)) (by decide) rfl ?_
  intro p e s m args below meth c s₁ B hml hv
  obtain ⟨rfl, hsz, hP, hK⟩ := hv
  have hx := B.exec
  have hb := B.bytes
  have hr := B.returns
  have hts := atoms_spec (ws := wsX2_margin) B.pre
  have hown : s.vm.findClass RX2 = some m.cls := findClass_of_methodNamed B.named
  have hlocks := B.notSynchronized
  subst hsz
  have hA : ∀ q : Nat, s.heap.size ≤ q → (fun q : Nat => s.heap.size ≤ q) q := fun _ h => h
  have hS : va_S (fun q : Nat => s.heap.size ≤ q) s.heap s.heap [] := va_S.rf
  have hP : va_P D vwCl [((a 4), .inr (2, [.int hm, .int aw, .int tk, .ref (a 5), .ref (a 6), .ref (a 7), .ref (a 8), .ref (a 13)])), ((a 5), .inl (cI, 6, .inl ce)), ((a 6), .inl (cI, 6, .inl hi))] s.heap := hP
  have hl := lv_entry ([.ref (a 4)]) (n := 3) (Nat.le_of_ble_eq_true rfl)
  rw [lg_entry_eq]
  generalize (lg_sl ([.ref (a 4)]) ++ List.replicate (3 - (lg_sl ([.ref (a 4)])).length) Slot.unset).toArray = ls at hl ⊢
  have hl : lv_has ls 3 [(0, .ref (a 4))] := hl
  have hf_15 := hts (.fieldLink RX2 15 "PaintballAtlas$Round" "cells" "[I") (by decide +kernel)
  have hi_X2 : ∀ w ∈ wsX20, w ∈ wsX2_margin := by decide +kernel
  have hf_19 := hts (.fieldLink RX2 19 "PaintballAtlas$Round" "hits" "[I") (by decide +kernel)
  refine lv_iconst (v := 0) hx hb dX2_margin_0 (by decide) ?_
  refine lv_istore_n (lv' := [(1, .int 0), (0, .ref (a 4))]) hx hb dX2_margin_1 rfl hl (by decide) rfl (fun ls hl => ?_)
  refine lv_iconst (v := 0) hx hb dX2_margin_2 (by decide) ?_
  refine lv_istore_n (lv' := [(2, .int 0), (1, .int 0), (0, .ref (a 4))]) hx hb dX2_margin_3 rfl hl (by decide) rfl (fun ls hl => ?_)
  refine lpW (σ := (Nat) × (Int32)) (I := fun x H locs ls => va_P D vwCl [((a 4), .inr (2, [.int hm, .int aw, .int tk, .ref (a 5), .ref (a 6), .ref (a 7), .ref (a 8), .ref (a 13)])), ((a 5), .inl (cI, 6, .inl ce)), ((a 6), .inl (cI, 6, .inl hi))] H ∧ va_S (fun q : Nat => s.heap.size ≤ q) s.heap H locs ∧ lv_has ls 3 [(0, .ref (a 4)), (1, .int x.2), (2, .int (nI x.1))] ∧ (x.1 ≤ 6) ∧ (x.2 = mgN ce hi x.1)) (μ := fun x => 6 - x.1) ?_ (0, 0) ⟨hP, hS, lv_sub hl [2, 1, 0] rfl, (Nat.zero_le _), (by simp only [mgN])⟩
  intro x H locs ls hI ih
  obtain ⟨i, c2⟩ := x
  obtain ⟨hP, hS, hl, hq_hi1, hq_hc⟩ := hI
  have ih_4 := ih
  have hl : lv_has ls 3 [(0, .ref (a 4)), (1, .int c2), (2, .int (nI i))] := hl
  have hP : va_P D vwCl [((a 4), .inr (2, [.int hm, .int aw, .int tk, .ref (a 5), .ref (a 6), .ref (a 7), .ref (a 8), .ref (a 13)])), ((a 5), .inl (cI, 6, .inl ce)), ((a 6), .inl (cI, 6, .inl hi))] H := hP
  have hi1 : i ≤ 6 := hq_hi1
  have hc : c2 = mgN ce hi i := hq_hc
  clear hq_hi1 hq_hc
  refine lv_iload_n hx hb dX2_margin_4 rfl (lv_at hl 2 rfl) ?_
  refine lv_bipush (v := 6) hx hb dX2_margin_5 (by decide) ?_
  refine lv_icmp_ge (tgt := 50) hx hb dX2_margin_7 (by decide) (fun c_1 => ?_) (fun c_1 => ?_)
  · have he_7 : i = 6 := bd_eq (N := 6) (by decide) hi1 c_1
    refine lv_iload_n hx hb dX2_margin_50 rfl (lv_at hl 1 rfl) ?_
    -- leaf 0
    refine W.widen (k := 0) (n := 0) (Nat.le_refl _) (Nat.le_refl _) ?_
    exact W.iret (v := c2) hx hb hr (fun t ht hW => ⟨⟨c2, (), rfl, (by rw [hc, he_7]), trivial⟩, hS.F ht⟩) hS.2.2 dX2_margin_51
  · have hlt_7 : i < 6 := bd_lt (N := 6) (by decide) hi1 c_1
    refine lv_aload_n hx hb dX2_margin_10 rfl (lv_at hl 0 rfl) ?_
    refine va_get (D := D) (ci := 2) (v := .ref (a 5)) (C := RX2) (T := TX2) (N := 8) hx hb hts hi_X2 hown hK hP 0 rfl rfl 3 (by decide) hf_15 (fun _ h9 => h9) rfl dX2_margin_11 ?_
    refine lv_iload_n hx hb dX2_margin_14 rfl (lv_at hl 2 rfl) ?_
    refine va_iald hx hb hK hP 1 0 rfl rfl (vp_in_nI (n := i) (by omega) (by decide)) dX2_margin_15 ?_
    refine tp_eq (y := ce i) (by rw [nI_clamp (n := i) (by omega)]) ?_
    refine lv_bipush (v := (-2)) hx hb dX2_margin_16 (by decide) ?_
    refine lv_icmp_eq (tgt := 44) hx hb dX2_margin_18 (by decide) (fun c_2 => ?_) (fun c_2 => ?_)
    · refine lv_iinc (v := nI (i + 1)) (lv' := [(2, .int (nI (i + 1))), (0, .ref (a 4)), (1, .int c2)]) hx hb dX2_margin_44 hl (k := 2) rfl (nI_1 i) (by decide) rfl (fun ls hl => ?_)
      refine lv_goto (tgt := 4) hx hb dX2_margin_47 (by decide) ?_
      refine W.widen (k := 0) (n := 0) (Nat.le_refl _) (Nat.le_refl _) ?_
      exact ih_4 ((i + 1), c2) _ _ _ (by first | omega | (dsimp only; omega)) ⟨hP, hS, lv_sub hl [1, 2, 0] rfl, (by omega), (by rw [mgN, if_pos c_2, ← hc])⟩
    · refine lv_aload_n hx hb dX2_margin_21 rfl (lv_at hl 0 rfl) ?_
      refine va_get (D := D) (ci := 2) (v := .ref (a 6)) (C := RX2) (T := TX2) (N := 8) hx hb hts hi_X2 hown hK hP 0 rfl rfl 4 (by decide) hf_19 (fun _ h9 => h9) rfl dX2_margin_22 ?_
      refine lv_iload_n hx hb dX2_margin_25 rfl (lv_at hl 2 rfl) ?_
      refine va_iald hx hb hK hP 2 0 rfl rfl (vp_in_nI (n := i) (by omega) (by decide)) dX2_margin_26 ?_
      refine tp_eq (y := hi i) (by rw [nI_clamp (n := i) (by omega)]) ?_
      refine lv_iconst (v := (-1)) hx hb dX2_margin_27 (by decide) ?_
      refine lv_icmp_ne (tgt := 44) hx hb dX2_margin_28 (by decide) (fun c_3 => ?_) (fun c_3 => ?_)
      · refine lv_iinc (v := nI (i + 1)) (lv' := [(2, .int (nI (i + 1))), (0, .ref (a 4)), (1, .int c2)]) hx hb dX2_margin_44 hl (k := 2) rfl (nI_1 i) (by decide) rfl (fun ls hl => ?_)
        refine lv_goto (tgt := 4) hx hb dX2_margin_47 (by decide) ?_
        refine W.widen (k := 0) (n := 0) (Nat.le_refl _) (Nat.le_refl _) ?_
        exact ih_4 ((i + 1), c2) _ _ _ (by first | omega | (dsimp only; omega)) ⟨hP, hS, lv_sub hl [1, 2, 0] rfl, (by omega), (by rw [mgN, if_neg c_2, if_neg c_3, ← hc])⟩
      · refine lv_iload_n hx hb dX2_margin_31 rfl (lv_at hl 1 rfl) ?_
        refine lv_iload_n hx hb dX2_margin_32 rfl (lv_at hl 2 rfl) ?_
        refine lv_iconst (v := 3) hx hb dX2_margin_33 (by decide) ?_
        refine lv_icmp_ge (tgt := 41) hx hb dX2_margin_34 (by decide) (fun c_4 => ?_) (fun c_4 => ?_)
        · refine lv_iconst (v := (-1)) hx hb dX2_margin_41 (by decide) ?_
          refine lv_iadd hx hb dX2_margin_42 ?_
          refine lv_istore_n (lv' := [(1, .int (c2 + (-1))), (0, .ref (a 4)), (2, .int (nI i))]) hx hb dX2_margin_43 rfl hl (by decide) rfl (fun ls hl => ?_)
          refine lv_iinc (v := nI (i + 1)) (lv' := [(2, .int (nI (i + 1))), (1, .int (c2 + (-1))), (0, .ref (a 4))]) hx hb dX2_margin_44 hl (k := 2) rfl (nI_1 i) (by decide) rfl (fun ls hl => ?_)
          refine lv_goto (tgt := 4) hx hb dX2_margin_47 (by decide) ?_
          refine W.widen (k := 0) (n := 0) (Nat.le_refl _) (Nat.le_refl _) ?_
          exact ih_4 ((i + 1), c2 + (-1)) _ _ _ (by first | omega | (dsimp only; omega)) ⟨hP, hS, lv_sub hl [2, 1, 0] rfl, (by omega), (by rw [mgN, if_neg c_2, if_pos c_3, if_pos c_4, ← hc])⟩
        · refine lv_iconst (v := 1) hx hb dX2_margin_37 (by decide) ?_
          refine lv_goto (tgt := 42) hx hb dX2_margin_38 (by decide) ?_
          refine lv_iadd hx hb dX2_margin_42 ?_
          refine lv_istore_n (lv' := [(1, .int (c2 + 1)), (0, .ref (a 4)), (2, .int (nI i))]) hx hb dX2_margin_43 rfl hl (by decide) rfl (fun ls hl => ?_)
          refine lv_iinc (v := nI (i + 1)) (lv' := [(2, .int (nI (i + 1))), (1, .int (c2 + 1)), (0, .ref (a 4))]) hx hb dX2_margin_44 hl (k := 2) rfl (nI_1 i) (by decide) rfl (fun ls hl => ?_)
          refine lv_goto (tgt := 4) hx hb dX2_margin_47 (by decide) ?_
          refine W.widen (k := 0) (n := 0) (Nat.le_refl _) (Nat.le_refl _) ?_
          exact ih_4 ((i + 1), c2 + 1) _ _ _ (by first | omega | (dsimp only; omega)) ⟨hP, hS, lv_sub hl [2, 1, 0] rfl, (by omega), (by rw [mgN, if_neg c_2, if_pos c_3, if_neg c_4, ← hc])⟩
