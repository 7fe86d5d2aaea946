noncomputable def flK (tk : Int32) (sd : Nat → Int32) : Nat → Int32
  | 0 => 0
  | n + 1 => if sd n ≤ tk then flK tk sd n + 0 else flK tk sd n + 1
termination_by n => n
noncomputable def flM (on tk : Int32) (sd : Nat → Int32) (sn : Nat) : Int32 := if sn = 0 then 0 else if on = 0 then 0 else flK tk sd sn
set_option maxHeartbeats 4000000 in
set_option maxRecDepth 100000 in
theorem c_X6_flying (l : Launch) (D : va_G) (cI cZ cJ cA : ClassId) (sz : Nat) (q : Nat → Nat) (on : Int32) (hm : Int32) (aw : Int32) (tk : Int32) (sn : Nat) (sd : Nat → Int32) (kn : Nat) (th : Int32) (h1 : sn ≤ 100) : Met l yX6_flying wsX6_flying ({ frames := 0, cells := 0, slots := 0, locals := 0 } : Room) (va_Pc [.ref (q 0)] (pcW D (tyL cI cZ cJ cA) [((q 0), .inr (6, [.ref (q 1), .ref (q 2), .int on, .int hm, .int aw, .int tk, .ref (q 3), .ref (q 4), .ref (q 5), .int (nI sn), .ref (q 6), .ref (q 7), .ref (q 8), .ref (q 9), .int (nI kn), .ref (q 10), .ref (q 11), .ref (q 12), .ref (q 13), .ref (q 14), .ref (q 15), .ref (q 16), .ref (q 17), .int th])), ((q 9), .inl (cI, 100, .inl sd))] sz)) (va_Qi (fun (r : Int32) (u : (Int32)) => r = flM on tk sd sn ∧ u = 0) (fun u t => bcW D (tyL cI cZ cJ cA) (va_A [((q 0), .inr (6, [.ref (q 1), .ref (q 2), .int on, .int hm, .int aw, .int tk, .ref (q 3), .ref (q 4), .ref (q 5), .int (nI sn), .ref (q 6), .ref (q 7), .ref (q 8), .ref (q 9), .int (nI kn), .ref (q 10), .ref (q 11), .ref (q 12), .ref (q 13), .ref (q 14), .ref (q 15), .ref (q 16), .ref (q 17), .int th])), ((q 9), .inl (cI, 100, .inl sd))] sz) [((q 0), .inr (6, [.ref (q 1), .ref (q 2), .int on, .int hm, .int aw, .int tk, .ref (q 3), .ref (q 4), .ref (q 5), .int (nI sn), .ref (q 6), .ref (q 7), .ref (q 8), .ref (q 9), .int (nI kn), .ref (q 10), .ref (q 11), .ref (q 12), .ref (q 13), .ref (q 14), .ref (q 15), .ref (q 16), .ref (q 17), .int u])), ((q 9), .inl (cI, 100, .inl sd))] t) (va_A [((q 0), .inr (6, [.ref (q 1), .ref (q 2), .int on, .int hm, .int aw, .int tk, .ref (q 3), .ref (q 4), .ref (q 5), .int (nI sn), .ref (q 6), .ref (q 7), .ref (q 8), .ref (q 9), .int (nI kn), .ref (q 10), .ref (q 11), .ref (q 12), .ref (q 13), .ref (q 14), .ref (q 15), .ref (q 16), .ref (q 17), .int th])), ((q 9), .inl (cI, 100, .inl sd))] sz)) 0 0 (va_A [((q 0), .inr (6, [.ref (q 1), .ref (q 2), .int on, .int hm, .int aw, .int tk, .ref (q 3), .ref (q 4), .ref (q 5), .int (nI sn), .ref (q 6), .ref (q 7), .ref (q 8), .ref (q 9), .int (nI kn), .ref (q 10), .ref (q 11), .ref (q 12), .ref (q 13), .ref (q 14), .ref (q 15), .ref (q 16), .ref (q 17), .int th])), ((q 9), .inl (cI, 100, .inl sd))] sz) := by
  refine Met.ofW (cc := cX6_flying) (maxL := 3) (ret := (some .int)) (by decide) rfl ?_
  intro p e s m args below meth c s₁ B hml hv
  obtain ⟨rfl, hsz, hP, hK, hD0⟩ := hv
  have hx := B.exec
  have hb := B.bytes
  have hr := B.returns
  have hts := atoms_spec (ws := wsX6_flying) B.pre
  have hown : s.vm.findClass RX6 = some m.cls := findClass_of_methodNamed B.named
  have hlocks := B.notSynchronized
  subst hsz
  have hD := hD0.self (sz := s.heap.size)
  generalize hAe : va_A [((q 0), .inr (6, [.ref (q 1), .ref (q 2), .int on, .int hm, .int aw, .int tk, .ref (q 3), .ref (q 4), .ref (q 5), .int (nI sn), .ref (q 6), .ref (q 7), .ref (q 8), .ref (q 9), .int (nI kn), .ref (q 10), .ref (q 11), .ref (q 12), .ref (q 13), .ref (q 14), .ref (q 15), .ref (q 16), .ref (q 17), .int th])), ((q 9), .inl (cI, 100, .inl sd))] s.heap.size = A at hD ⊢
  have hA : ∀ q : Nat, s.heap.size ≤ q → A q := fun q h => by rw [← hAe]; exact Or.inr h
  have hAR : ∀ q : Nat, s.heap.size ≤ q → (fun q : Nat => s.heap.size ≤ q) q := fun _ h => h
  have hS : va_S A s.heap s.heap [] := va_S.rf
  have hP : va_P D vwCl [((q 0), .inr (6, [.ref (q 1), .ref (q 2), .int on, .int hm, .int aw, .int tk, .ref (q 3), .ref (q 4), .ref (q 5), .int (nI sn), .ref (q 6), .ref (q 7), .ref (q 8), .ref (q 9), .int (nI kn), .ref (q 10), .ref (q 11), .ref (q 12), .ref (q 13), .ref (q 14), .ref (q 15), .ref (q 16), .ref (q 17), .int th])), ((q 9), .inl (cI, 100, .inl sd))] s.heap := hP
  have hl := lv_entry ([.ref (q 0)]) (n := 3) (Nat.le_of_ble_eq_true rfl)
  rw [lg_entry_eq]
  generalize (lg_sl ([.ref (q 0)]) ++ List.replicate (3 - (lg_sl ([.ref (q 0)])).length) Slot.unset).toArray = ls at hl ⊢
  have hl : lv_has ls 3 [(0, .ref (q 0))] := hl
  have hf_62 := hts (.fieldLink RX6 62 "PaintballAtlasModel" "thrown" "I") (by decide +kernel)
  have hi_X6 : ∀ w ∈ wsX60, w ∈ wsX6_flying := by decide +kernel
  have hf_110 := hts (.fieldLink RX6 110 "PaintballAtlasModel" "shots" "I") (by decide +kernel)
  have hf_84 := hts (.fieldLink RX6 84 "PaintballAtlasModel" "isOn" "Z") (by decide +kernel)
  have hf_35 := hts (.fieldLink RX6 35 "PaintballAtlasModel" "comes" "[I") (by decide +kernel)
  have hf_107 := hts (.fieldLink RX6 107 "PaintballAtlasModel" "tick" "I") (by decide +kernel)
  refine lv_aload_n hx hb dX6_flying_0 rfl (lv_at hl 0 rfl) ?_
  refine lv_iconst (v := 0) hx hb dX6_flying_1 (by decide) ?_
  refine va_put (D := D) (ci := 6) (v := .int 0) (ty := .int) (C := RX6) (T := TX6) (N := 24) hx hb hts hi_X6 tyX6 tyX6_ok nmX6 hown hK hP hD hS 0 rfl rfl 23 (by decide) hf_62 (fun _ h9 => h9) rfl (by decide +kernel) rfl rfl (Nat.le_of_ble_eq_true rfl) dX6_flying_2 (fun H locs hP hD hS => ?_)
  have hP : va_P D vwCl [((q 0), .inr (6, [.ref (q 1), .ref (q 2), .int on, .int hm, .int aw, .int tk, .ref (q 3), .ref (q 4), .ref (q 5), .int (nI sn), .ref (q 6), .ref (q 7), .ref (q 8), .ref (q 9), .int (nI kn), .ref (q 10), .ref (q 11), .ref (q 12), .ref (q 13), .ref (q 14), .ref (q 15), .ref (q 16), .ref (q 17), .int 0])), ((q 9), .inl (cI, 100, .inl sd))] H := hP
  have hD : va_D A [((q 0), .inr (6, [.ref (q 1), .ref (q 2), .int on, .int hm, .int aw, .int tk, .ref (q 3), .ref (q 4), .ref (q 5), .int (nI sn), .ref (q 6), .ref (q 7), .ref (q 8), .ref (q 9), .int (nI kn), .ref (q 10), .ref (q 11), .ref (q 12), .ref (q 13), .ref (q 14), .ref (q 15), .ref (q 16), .ref (q 17), .int 0])), ((q 9), .inl (cI, 100, .inl sd))] := hD
  refine lv_iconst (v := 0) hx hb dX6_flying_5 (by decide) ?_
  refine lv_istore_n (lv' := [(1, .int 0), (0, .ref (q 0))]) hx hb dX6_flying_6 rfl hl (by decide) rfl (fun ls hl => ?_)
  refine lv_iconst (v := 0) hx hb dX6_flying_7 (by decide) ?_
  refine lv_istore_n (lv' := [(2, .int 0), (1, .int 0), (0, .ref (q 0))]) hx hb dX6_flying_8 rfl hl (by decide) rfl (fun ls hl => ?_)
  refine lpW (σ := (Nat) × (Int32)) (I := fun x H locs ls => va_P D vwCl [((q 0), .inr (6, [.ref (q 1), .ref (q 2), .int on, .int hm, .int aw, .int tk, .ref (q 3), .ref (q 4), .ref (q 5), .int (nI sn), .ref (q 6), .ref (q 7), .ref (q 8), .ref (q 9), .int (nI kn), .ref (q 10), .ref (q 11), .ref (q 12), .ref (q 13), .ref (q 14), .ref (q 15), .ref (q 16), .ref (q 17), .int 0])), ((q 9), .inl (cI, 100, .inl sd))] H ∧ va_D A [((q 0), .inr (6, [.ref (q 1), .ref (q 2), .int on, .int hm, .int aw, .int tk, .ref (q 3), .ref (q 4), .ref (q 5), .int (nI sn), .ref (q 6), .ref (q 7), .ref (q 8), .ref (q 9), .int (nI kn), .ref (q 10), .ref (q 11), .ref (q 12), .ref (q 13), .ref (q 14), .ref (q 15), .ref (q 16), .ref (q 17), .int 0])), ((q 9), .inl (cI, 100, .inl sd))] ∧ va_S A s.heap H locs ∧ lv_has ls 3 [(0, .ref (q 0)), (1, .int x.2), (2, .int (nI x.1))] ∧ (x.1 ≤ sn) ∧ (x.2 = flK tk sd x.1) ∧ (0 < x.1 → ¬ on = 0)) (μ := fun x => sn - x.1) ?_ (0, 0) ⟨hP, hD, hS, lv_sub hl [2, 1, 0] rfl, (Nat.zero_le _), (by simp only [flK]), (fun h => absurd h (Nat.lt_irrefl _))⟩
  intro x H locs ls hI ih
  obtain ⟨i, c1⟩ := x
  obtain ⟨hP, hD, hS, hl, hq_hi1, hq_hc, hq_ho⟩ := hI
  have ih_9 := ih
  have hl : lv_has ls 3 [(0, .ref (q 0)), (1, .int c1), (2, .int (nI i))] := hl
  have hP : va_P D vwCl [((q 0), .inr (6, [.ref (q 1), .ref (q 2), .int on, .int hm, .int aw, .int tk, .ref (q 3), .ref (q 4), .ref (q 5), .int (nI sn), .ref (q 6), .ref (q 7), .ref (q 8), .ref (q 9), .int (nI kn), .ref (q 10), .ref (q 11), .ref (q 12), .ref (q 13), .ref (q 14), .ref (q 15), .ref (q 16), .ref (q 17), .int 0])), ((q 9), .inl (cI, 100, .inl sd))] H := hP
  have hD : va_D A [((q 0), .inr (6, [.ref (q 1), .ref (q 2), .int on, .int hm, .int aw, .int tk, .ref (q 3), .ref (q 4), .ref (q 5), .int (nI sn), .ref (q 6), .ref (q 7), .ref (q 8), .ref (q 9), .int (nI kn), .ref (q 10), .ref (q 11), .ref (q 12), .ref (q 13), .ref (q 14), .ref (q 15), .ref (q 16), .ref (q 17), .int 0])), ((q 9), .inl (cI, 100, .inl sd))] := hD
  have hi1 : i ≤ sn := hq_hi1
  have hc : c1 = flK tk sd i := hq_hc
  have ho : 0 < i → ¬ on = 0 := hq_ho
  clear hq_hi1 hq_hc hq_ho
  refine lv_iload_n hx hb dX6_flying_9 rfl (lv_at hl 2 rfl) ?_
  refine lv_aload_n hx hb dX6_flying_10 rfl (lv_at hl 0 rfl) ?_
  refine va_get (D := D) (ci := 6) (v := .int (nI sn)) (C := RX6) (T := TX6) (N := 24) hx hb hts hi_X6 hown hK hP 0 rfl rfl 9 (by decide) hf_110 (fun _ h9 => h9) rfl dX6_flying_11 ?_
  refine lv_icmp_ge (tgt := 51) hx hb dX6_flying_14 (by decide) (fun c_1 => ?_) (fun c_1 => ?_)
  · have he_14 : i = sn := bd_eq (N := sn) (by omega) hi1 c_1
    refine lv_iload_n hx hb dX6_flying_51 rfl (lv_at hl 1 rfl) ?_
    have hP9 := hP.sub (ws' := [((q 0), .inr (6, [.ref (q 1), .ref (q 2), .int on, .int hm, .int aw, .int tk, .ref (q 3), .ref (q 4), .ref (q 5), .int (nI sn), .ref (q 6), .ref (q 7), .ref (q 8), .ref (q 9), .int (nI kn), .ref (q 10), .ref (q 11), .ref (q 12), .ref (q 13), .ref (q 14), .ref (q 15), .ref (q 16), .ref (q 17), .int 0])), ((q 9), .inl (cI, 100, .inl sd))]) [0, 1] rfl
    have hD9 := hD.sub (ws' := [((q 0), .inr (6, [.ref (q 1), .ref (q 2), .int on, .int hm, .int aw, .int tk, .ref (q 3), .ref (q 4), .ref (q 5), .int (nI sn), .ref (q 6), .ref (q 7), .ref (q 8), .ref (q 9), .int (nI kn), .ref (q 10), .ref (q 11), .ref (q 12), .ref (q 13), .ref (q 14), .ref (q 15), .ref (q 16), .ref (q 17), .int 0])), ((q 9), .inl (cI, 100, .inl sd))]) [0, 1] (by decide) rfl
    -- leaf 0
    refine W.widen (k := 0) (n := 0) (Nat.le_refl _) (Nat.le_refl _) ?_
    exact W.iret (v := c1) hx hb hr (fun t ht hW => ⟨⟨c1, (0), rfl, ⟨(by rw [flM]; rcases Nat.eq_zero_or_pos sn with q | q; (rw [if_pos q, hc, he_14, q, flK]); (rw [if_neg (by omega), if_neg (ho (by omega)), hc, he_14])), rfl⟩, by rw [ht]; exact hP9, va_K.moved hW.alike hK, hD9⟩, hS.F ht⟩) hS.2.2 dX6_flying_52
  · have hlt_14 : i < sn := bd_lt (N := sn) (by omega) hi1 c_1
    refine lv_aload_n hx hb dX6_flying_17 rfl (lv_at hl 0 rfl) ?_
    refine va_get (D := D) (ci := 6) (v := .int on) (C := RX6) (T := TX6) (N := 24) hx hb hts hi_X6 hown hK hP 0 rfl rfl 2 (by decide) hf_84 (fun _ h9 => h9) rfl dX6_flying_18 ?_
    refine lv_if_eq (tgt := 51) hx hb dX6_flying_21 (by decide) (fun c_2 => ?_) (fun c_2 => ?_)
    · refine lv_iload_n hx hb dX6_flying_51 rfl (lv_at hl 1 rfl) ?_
      have hP9 := hP.sub (ws' := [((q 0), .inr (6, [.ref (q 1), .ref (q 2), .int on, .int hm, .int aw, .int tk, .ref (q 3), .ref (q 4), .ref (q 5), .int (nI sn), .ref (q 6), .ref (q 7), .ref (q 8), .ref (q 9), .int (nI kn), .ref (q 10), .ref (q 11), .ref (q 12), .ref (q 13), .ref (q 14), .ref (q 15), .ref (q 16), .ref (q 17), .int 0])), ((q 9), .inl (cI, 100, .inl sd))]) [0, 1] rfl
      have hD9 := hD.sub (ws' := [((q 0), .inr (6, [.ref (q 1), .ref (q 2), .int on, .int hm, .int aw, .int tk, .ref (q 3), .ref (q 4), .ref (q 5), .int (nI sn), .ref (q 6), .ref (q 7), .ref (q 8), .ref (q 9), .int (nI kn), .ref (q 10), .ref (q 11), .ref (q 12), .ref (q 13), .ref (q 14), .ref (q 15), .ref (q 16), .ref (q 17), .int 0])), ((q 9), .inl (cI, 100, .inl sd))]) [0, 1] (by decide) rfl
      -- leaf 1
      refine W.widen (k := 0) (n := 0) (Nat.le_refl _) (Nat.le_refl _) ?_
      exact W.iret (v := c1) hx hb hr (fun t ht hW => ⟨⟨c1, (0), rfl, ⟨(by rw [flM, if_neg (by omega), if_pos c_2, hc, show i = 0 from Nat.eq_zero_of_not_pos (fun q => ho q c_2), flK]), rfl⟩, by rw [ht]; exact hP9, va_K.moved hW.alike hK, hD9⟩, hS.F ht⟩) hS.2.2 dX6_flying_52
    · refine lv_iload_n hx hb dX6_flying_24 rfl (lv_at hl 1 rfl) ?_
      refine lv_aload_n hx hb dX6_flying_25 rfl (lv_at hl 0 rfl) ?_
      refine va_get (D := D) (ci := 6) (v := .ref (q 9)) (C := RX6) (T := TX6) (N := 24) hx hb hts hi_X6 hown hK hP 0 rfl rfl 13 (by decide) hf_35 (fun _ h9 => h9) rfl dX6_flying_26 ?_
      refine lv_iload_n hx hb dX6_flying_29 rfl (lv_at hl 2 rfl) ?_
      refine va_iald hx hb hK hP 1 0 rfl rfl (vp_in_nI (n := i) (by omega) (by decide)) dX6_flying_30 ?_
      refine tp_eq (y := sd i) (by rw [nI_clamp (n := i) (by omega)]) ?_
      refine lv_aload_n hx hb dX6_flying_31 rfl (lv_at hl 0 rfl) ?_
      refine va_get (D := D) (ci := 6) (v := .int tk) (C := RX6) (T := TX6) (N := 24) hx hb hts hi_X6 hown hK hP 0 rfl rfl 5 (by decide) hf_107 (fun _ h9 => h9) rfl dX6_flying_32 ?_
      refine lv_icmp_le (tgt := 42) hx hb dX6_flying_35 (by decide) (fun c_3 => ?_) (fun c_3 => ?_)
      · refine lv_iconst (v := 0) hx hb dX6_flying_42 (by decide) ?_
        refine lv_iadd hx hb dX6_flying_43 ?_
        refine lv_istore_n (lv' := [(1, .int (c1 + 0)), (0, .ref (q 0)), (2, .int (nI i))]) hx hb dX6_flying_44 rfl hl (by decide) rfl (fun ls hl => ?_)
        refine lv_iinc (v := nI (i + 1)) (lv' := [(2, .int (nI (i + 1))), (1, .int (c1 + 0)), (0, .ref (q 0))]) hx hb dX6_flying_45 hl (k := 2) rfl (nI_1 i) (by decide) rfl (fun ls hl => ?_)
        refine lv_goto (tgt := 9) hx hb dX6_flying_48 (by decide) ?_
        refine W.widen (k := 0) (n := 0) (Nat.le_refl _) (Nat.le_refl _) ?_
        exact ih_9 ((i + 1), c1 + 0) _ _ _ (by first | omega | (dsimp only; omega)) ⟨hP, hD, hS, lv_sub hl [2, 1, 0] rfl, (by omega), (by rw [flK, if_pos c_3, ← hc]), (fun _ => c_2)⟩
      · refine lv_iconst (v := 1) hx hb dX6_flying_38 (by decide) ?_
        refine lv_goto (tgt := 43) hx hb dX6_flying_39 (by decide) ?_
        refine lv_iadd hx hb dX6_flying_43 ?_
        refine lv_istore_n (lv' := [(1, .int (c1 + 1)), (0, .ref (q 0)), (2, .int (nI i))]) hx hb dX6_flying_44 rfl hl (by decide) rfl (fun ls hl => ?_)
        refine lv_iinc (v := nI (i + 1)) (lv' := [(2, .int (nI (i + 1))), (1, .int (c1 + 1)), (0, .ref (q 0))]) hx hb dX6_flying_45 hl (k := 2) rfl (nI_1 i) (by decide) rfl (fun ls hl => ?_)
        refine lv_goto (tgt := 9) hx hb dX6_flying_48 (by decide) ?_
        refine W.widen (k := 0) (n := 0) (Nat.le_refl _) (Nat.le_refl _) ?_
        exact ih_9 ((i + 1), c1 + 1) _ _ _ (by first | omega | (dsimp only; omega)) ⟨hP, hD, hS, lv_sub hl [2, 1, 0] rfl, (by omega), (by rw [flK, if_neg c_3, ← hc]), (fun _ => c_2)⟩

noncomputable def f_X6_of (on : Int32) (hm : Int32) (aw : Int32) (tk : Int32) (sn : Nat) (kn : Nat) (th : Int32) (rw : Nat → Int32) (p1 : Int32) : Int32 := if (f_X6_isIn p1 0 5) = 0 then 0 else rw p1.toNatClampNeg
noncomputable def g_th_X6_of (on : Int32) (hm : Int32) (aw : Int32) (tk : Int32) (sn : Nat) (kn : Nat) (th : Int32) (rw : Nat → Int32) (p1 : Int32) : Int32 := if (f_X6_isIn p1 0 5) = 0 then 1 else 0
set_option maxHeartbeats 4000000 in
set_option maxRecDepth 100000 in
theorem c_X6_of (l : Launch) (D : va_G) (cI cZ cJ cA : ClassId) (sz : Nat) (q : Nat → Nat) (ro : Nat) (on : Int32) (hm : Int32) (aw : Int32) (tk : Int32) (sn : Nat) (kn : Nat) (th : Int32) (rw : Nat → Int32) (p1 : Int32) : Met l yX6_of wsX6_of ({ frames := 2, cells := 0, slots := 0, locals := 42 } : Room) (va_Pc [.ref (q 0), .ref ro, .int p1] (pcW D (tyL cI cZ cJ cA) [((q 0), .inr (6, [.ref (q 1), .ref (q 2), .int on, .int hm, .int aw, .int tk, .ref (q 3), .ref (q 4), .ref (q 5), .int (nI sn), .ref (q 6), .ref (q 7), .ref (q 8), .ref (q 9), .int (nI kn), .ref (q 10), .ref (q 11), .ref (q 12), .ref (q 13), .ref (q 14), .ref (q 15), .ref (q 16), .ref (q 17), .int th])), (ro, .inl (cI, 6, .inl rw))] sz)) (va_Qi (fun (r : Int32) (u : (Int32)) => r = f_X6_of on hm aw tk sn kn th rw p1 ∧ u = g_th_X6_of on hm aw tk sn kn th rw p1) (fun u t => bcW D (tyL cI cZ cJ cA) (va_A [((q 0), .inr (6, [.ref (q 1), .ref (q 2), .int on, .int hm, .int aw, .int tk, .ref (q 3), .ref (q 4), .ref (q 5), .int (nI sn), .ref (q 6), .ref (q 7), .ref (q 8), .ref (q 9), .int (nI kn), .ref (q 10), .ref (q 11), .ref (q 12), .ref (q 13), .ref (q 14), .ref (q 15), .ref (q 16), .ref (q 17), .int th])), (ro, .inl (cI, 6, .inl rw))] sz) [((q 0), .inr (6, [.ref (q 1), .ref (q 2), .int on, .int hm, .int aw, .int tk, .ref (q 3), .ref (q 4), .ref (q 5), .int (nI sn), .ref (q 6), .ref (q 7), .ref (q 8), .ref (q 9), .int (nI kn), .ref (q 10), .ref (q 11), .ref (q 12), .ref (q 13), .ref (q 14), .ref (q 15), .ref (q 16), .ref (q 17), .int u])), (ro, .inl (cI, 6, .inl rw))] t) (va_A [((q 0), .inr (6, [.ref (q 1), .ref (q 2), .int on, .int hm, .int aw, .int tk, .ref (q 3), .ref (q 4), .ref (q 5), .int (nI sn), .ref (q 6), .ref (q 7), .ref (q 8), .ref (q 9), .int (nI kn), .ref (q 10), .ref (q 11), .ref (q 12), .ref (q 13), .ref (q 14), .ref (q 15), .ref (q 16), .ref (q 17), .int th])), (ro, .inl (cI, 6, .inl rw))] sz)) 0 0 (va_A [((q 0), .inr (6, [.ref (q 1), .ref (q 2), .int on, .int hm, .int aw, .int tk, .ref (q 3), .ref (q 4), .ref (q 5), .int (nI sn), .ref (q 6), .ref (q 7), .ref (q 8), .ref (q 9), .int (nI kn), .ref (q 10), .ref (q 11), .ref (q 12), .ref (q 13), .ref (q 14), .ref (q 15), .ref (q 16), .ref (q 17), .int th])), (ro, .inl (cI, 6, .inl rw))] sz) := by
  refine Met.ofW (cc := cX6_of) (maxL := 3) (ret := (some .int)) (by decide) rfl ?_
  intro p e s m args below meth c s₁ B hml hv
  obtain ⟨rfl, hsz, hP, hK, hD0⟩ := hv
  have hx := B.exec
  have hb := B.bytes
  have hr := B.returns
  have hts := atoms_spec (ws := wsX6_of) B.pre
  have hown : s.vm.findClass RX6 = some m.cls := findClass_of_methodNamed B.named
  have hlocks := B.notSynchronized
  subst hsz
  have hD := hD0.self (sz := s.heap.size)
  generalize hAe : va_A [((q 0), .inr (6, [.ref (q 1), .ref (q 2), .int on, .int hm, .int aw, .int tk, .ref (q 3), .ref (q 4), .ref (q 5), .int (nI sn), .ref (q 6), .ref (q 7), .ref (q 8), .ref (q 9), .int (nI kn), .ref (q 10), .ref (q 11), .ref (q 12), .ref (q 13), .ref (q 14), .ref (q 15), .ref (q 16), .ref (q 17), .int th])), (ro, .inl (cI, 6, .inl rw))] s.heap.size = A at hD ⊢
  have hA : ∀ q : Nat, s.heap.size ≤ q → A q := fun q h => by rw [← hAe]; exact Or.inr h
  have hAR : ∀ q : Nat, s.heap.size ≤ q → (fun q : Nat => s.heap.size ≤ q) q := fun _ h => h
  have hS : va_S A s.heap s.heap [] := va_S.rf
  have hP : va_P D vwCl [((q 0), .inr (6, [.ref (q 1), .ref (q 2), .int on, .int hm, .int aw, .int tk, .ref (q 3), .ref (q 4), .ref (q 5), .int (nI sn), .ref (q 6), .ref (q 7), .ref (q 8), .ref (q 9), .int (nI kn), .ref (q 10), .ref (q 11), .ref (q 12), .ref (q 13), .ref (q 14), .ref (q 15), .ref (q 16), .ref (q 17), .int th])), (ro, .inl (cI, 6, .inl rw))] s.heap := hP
  have hl := lv_entry ([.ref (q 0), .ref ro, .int p1]) (n := 3) (Nat.le_of_ble_eq_true rfl)
  rw [lg_entry_eq]
  generalize (lg_sl ([.ref (q 0), .ref ro, .int p1]) ++ List.replicate (3 - (lg_sl ([.ref (q 0), .ref ro, .int p1])).length) Slot.unset).toArray = ls at hl ⊢
  have hl : lv_has ls 3 [(0, .ref (q 0)), (1, .ref ro), (2, .int p1)] := hl
  refine lv_aload_n hx hb dX6_of_0 rfl (lv_at hl 0 rfl) ?_
  refine lv_iload_n hx hb dX6_of_1 rfl (lv_at hl 2 rfl) ?_
  have hPc := hP.sub (ws' := []) [] rfl
  refine va_calli (va_runS (As := [.int p1]) (rest := [.ref (q 0)]) ⟨hx, hb, hml, hown, hts⟩ (c_X6_isTeam l D cI cZ cJ cA s.heap.size p1) (va_cwS 1 hts gX6_of_X6_isTeam rfl rfl rfl (by decide +kernel) ⟨Nat.le_of_ble_eq_true rfl, Nat.le_of_ble_eq_true rfl⟩) ⟨pcR_bl, fun U hU hW => ⟨rfl, by rw [hU], by rw [hU]; exact hPc, va_K.moved hW.alike hK⟩⟩ rfl rfl hl.1 rfl (lv_room (Nat.le_of_ble_eq_true rfl)) dX6_of_2 ⟨Nat.le_of_ble_eq_true rfl, Nat.le_of_ble_eq_true rfl⟩) hS (fun _ h1 h2 => absurd h1 (Nat.not_lt.mpr h2)) (rd_free hS hA) (fun r_1 u t H locs ht hvm hw hB hz1 hk1 hS => ?_)
  try dsimp only at hw
  have hr_1 := hw
  have hP := rd_P hP hk1
  obtain rfl := hr_1.symm
  refine W.widen (k := 0) (n := 0) (Nat.le_refl _) (Nat.le_refl _) ?_
  refine lv_if_eq (tgt := 12) hx hb dX6_of_5 (by decide) (fun c_2 => ?_) (fun c_2 => ?_)
  · refine lv_iconst (v := 1) hx hb dX6_of_12 (by decide) ?_
    have hPc := hP.sub (ws' := [((q 0), .inr (6, [.ref (q 1), .ref (q 2), .int on, .int hm, .int aw, .int tk, .ref (q 3), .ref (q 4), .ref (q 5), .int (nI sn), .ref (q 6), .ref (q 7), .ref (q 8), .ref (q 9), .int (nI kn), .ref (q 10), .ref (q 11), .ref (q 12), .ref (q 13), .ref (q 14), .ref (q 15), .ref (q 16), .ref (q 17), .int th]))]) [0] rfl
    have hDc := hD.sub (ws' := [((q 0), .inr (6, [.ref (q 1), .ref (q 2), .int on, .int hm, .int aw, .int tk, .ref (q 3), .ref (q 4), .ref (q 5), .int (nI sn), .ref (q 6), .ref (q 7), .ref (q 8), .ref (q 9), .int (nI kn), .ref (q 10), .ref (q 11), .ref (q 12), .ref (q 13), .ref (q 14), .ref (q 15), .ref (q 16), .ref (q 17), .int th]))]) [0] (by decide) rfl
    have hFc := va_free (wc := [((q 0), .inr (6, [.ref (q 1), .ref (q 2), .int on, .int hm, .int aw, .int tk, .ref (q 3), .ref (q 4), .ref (q 5), .int (nI sn), .ref (q 6), .ref (q 7), .ref (q 8), .ref (q 9), .int (nI kn), .ref (q 10), .ref (q 11), .ref (q 12), .ref (q 13), .ref (q 14), .ref (q 15), .ref (q 16), .ref (q 17), .int th]))]) hD hS hA [0] rfl
    refine va_calli (va_runV (As := [.int 1]) (rest := []) ⟨hx, hb, hml, hown, hts⟩ (c_X6_fails l D cI cZ cJ cA H.size q on hm aw tk sn kn th 1) (cwV 1 hts gX6_of_X6_fails rfl rfl rfl (by decide +kernel) ⟨Nat.le_of_ble_eq_true rfl, Nat.le_of_ble_eq_true rfl⟩) ⟨pcW_bl, va_recv hK hPc (ci := 6) (q0 := 0) rfl rfl, fun U hU hW => ⟨rfl, by rw [hU], by rw [hU]; exact hPc, va_K.moved hW.alike hK, hDc.weaken (fun _ _ _ _ => trivial)⟩⟩ rfl rfl hl.1 rfl (lv_room (Nat.le_of_ble_eq_true rfl)) dX6_of_13 ⟨Nat.le_of_ble_eq_true rfl, Nat.le_of_ble_eq_true rfl⟩) hS (fun q _ h => hFc q h) hFc (fun r_3 u t H locs ht hvm hw hB hz1 hk1 hS => ?_)
    try dsimp only at hw
    obtain ⟨u0_3, rfl⟩ : ∃ z, z = u := ⟨_, rfl⟩
    obtain ⟨hr_3, hu0_3⟩ := hw
    obtain ⟨hP1, hK1, hD1⟩ := hB
    rw [ht] at hP1
    obtain ⟨hP, hD⟩ := va_join (wr := [(ro, .inl (cI, 6, .inl rw))]) (w1 := [((q 0), .inr (6, [.ref (q 1), .ref (q 2), .int on, .int hm, .int aw, .int tk, .ref (q 3), .ref (q 4), .ref (q 5), .int (nI sn), .ref (q 6), .ref (q 7), .ref (q 8), .ref (q 9), .int (nI kn), .ref (q 10), .ref (q 11), .ref (q 12), .ref (q 13), .ref (q 14), .ref (q 15), .ref (q 16), .ref (q 17), .int u0_3]))]) hP hD [0] [1] rfl rfl (by decide) (by decide) hk1 hFc hP1 hD1
    obtain rfl := hu0_3.symm
    have hP : va_P D vwCl [(ro, .inl (cI, 6, .inl rw)), ((q 0), .inr (6, [.ref (q 1), .ref (q 2), .int on, .int hm, .int aw, .int tk, .ref (q 3), .ref (q 4), .ref (q 5), .int (nI sn), .ref (q 6), .ref (q 7), .ref (q 8), .ref (q 9), .int (nI kn), .ref (q 10), .ref (q 11), .ref (q 12), .ref (q 13), .ref (q 14), .ref (q 15), .ref (q 16), .ref (q 17), .int 1]))] H := hP
    have hD : va_D A [(ro, .inl (cI, 6, .inl rw)), ((q 0), .inr (6, [.ref (q 1), .ref (q 2), .int on, .int hm, .int aw, .int tk, .ref (q 3), .ref (q 4), .ref (q 5), .int (nI sn), .ref (q 6), .ref (q 7), .ref (q 8), .ref (q 9), .int (nI kn), .ref (q 10), .ref (q 11), .ref (q 12), .ref (q 13), .ref (q 14), .ref (q 15), .ref (q 16), .ref (q 17), .int 1]))] := hD
    obtain rfl := hr_3.symm
    refine W.widen (k := 0) (n := 0) (Nat.le_refl _) (Nat.le_refl _) ?_
    refine tp_eq (y := 1) rfl ?_
    refine lv_if_eq (tgt := 23) hx hb dX6_of_16 (by decide) (fun c_4 => absurd c_4 (by decide)) (fun _ => ?_)
    refine lv_iconst (v := 0) hx hb dX6_of_19 (by decide) ?_
    refine lv_goto (tgt := 26) hx hb dX6_of_20 (by decide) ?_
    have hP9 := hP.sub (ws' := [((q 0), .inr (6, [.ref (q 1), .ref (q 2), .int on, .int hm, .int aw, .int tk, .ref (q 3), .ref (q 4), .ref (q 5), .int (nI sn), .ref (q 6), .ref (q 7), .ref (q 8), .ref (q 9), .int (nI kn), .ref (q 10), .ref (q 11), .ref (q 12), .ref (q 13), .ref (q 14), .ref (q 15), .ref (q 16), .ref (q 17), .int 1])), (ro, .inl (cI, 6, .inl rw))]) [1, 0] rfl
    have hD9 := hD.sub (ws' := [((q 0), .inr (6, [.ref (q 1), .ref (q 2), .int on, .int hm, .int aw, .int tk, .ref (q 3), .ref (q 4), .ref (q 5), .int (nI sn), .ref (q 6), .ref (q 7), .ref (q 8), .ref (q 9), .int (nI kn), .ref (q 10), .ref (q 11), .ref (q 12), .ref (q 13), .ref (q 14), .ref (q 15), .ref (q 16), .ref (q 17), .int 1])), (ro, .inl (cI, 6, .inl rw))]) [1, 0] (by decide) rfl
    -- leaf 0
    refine W.widen (k := 0) (n := 0) (Nat.le_refl _) (Nat.le_refl _) ?_
    exact W.iret (v := 0) hx hb hr (fun t ht hW => ⟨⟨0, (1), rfl, ⟨(by rw [f_X6_of, if_pos c_2]), (by rw [g_th_X6_of, if_pos c_2])⟩, by rw [ht]; exact hP9, va_K.moved hW.alike hK, hD9⟩, hS.F ht⟩) hS.2.2 dX6_of_26
  · have hvc_2 : vp_in p1 6 := isIn_vp (N := 6) c_2
    refine lv_iconst (v := 0) hx hb dX6_of_8 (by decide) ?_
    refine lv_goto (tgt := 13) hx hb dX6_of_9 (by decide) ?_
    have hPc := hP.sub (ws' := [((q 0), .inr (6, [.ref (q 1), .ref (q 2), .int on, .int hm, .int aw, .int tk, .ref (q 3), .ref (q 4), .ref (q 5), .int (nI sn), .ref (q 6), .ref (q 7), .ref (q 8), .ref (q 9), .int (nI kn), .ref (q 10), .ref (q 11), .ref (q 12), .ref (q 13), .ref (q 14), .ref (q 15), .ref (q 16), .ref (q 17), .int th]))]) [0] rfl
    have hDc := hD.sub (ws' := [((q 0), .inr (6, [.ref (q 1), .ref (q 2), .int on, .int hm, .int aw, .int tk, .ref (q 3), .ref (q 4), .ref (q 5), .int (nI sn), .ref (q 6), .ref (q 7), .ref (q 8), .ref (q 9), .int (nI kn), .ref (q 10), .ref (q 11), .ref (q 12), .ref (q 13), .ref (q 14), .ref (q 15), .ref (q 16), .ref (q 17), .int th]))]) [0] (by decide) rfl
    have hFc := va_free (wc := [((q 0), .inr (6, [.ref (q 1), .ref (q 2), .int on, .int hm, .int aw, .int tk, .ref (q 3), .ref (q 4), .ref (q 5), .int (nI sn), .ref (q 6), .ref (q 7), .ref (q 8), .ref (q 9), .int (nI kn), .ref (q 10), .ref (q 11), .ref (q 12), .ref (q 13), .ref (q 14), .ref (q 15), .ref (q 16), .ref (q 17), .int th]))]) hD hS hA [0] rfl
    refine va_calli (va_runV (As := [.int 0]) (rest := []) ⟨hx, hb, hml, hown, hts⟩ (c_X6_fails l D cI cZ cJ cA H.size q on hm aw tk sn kn th 0) (cwV 1 hts gX6_of_X6_fails rfl rfl rfl (by decide +kernel) ⟨Nat.le_of_ble_eq_true rfl, Nat.le_of_ble_eq_true rfl⟩) ⟨pcW_bl, va_recv hK hPc (ci := 6) (q0 := 0) rfl rfl, fun U hU hW => ⟨rfl, by rw [hU], by rw [hU]; exact hPc, va_K.moved hW.alike hK, hDc.weaken (fun _ _ _ _ => trivial)⟩⟩ rfl rfl hl.1 rfl (lv_room (Nat.le_of_ble_eq_true rfl)) dX6_of_13 ⟨Nat.le_of_ble_eq_true rfl, Nat.le_of_ble_eq_true rfl⟩) hS (fun q _ h => hFc q h) hFc (fun r_5 u t H locs ht hvm hw hB hz1 hk1 hS => ?_)
    try dsimp only at hw
    obtain ⟨u0_5, rfl⟩ : ∃ z, z = u := ⟨_, rfl⟩
    obtain ⟨hr_5, hu0_5⟩ := hw
    obtain ⟨hP1, hK1, hD1⟩ := hB
    rw [ht] at hP1
    obtain ⟨hP, hD⟩ := va_join (wr := [(ro, .inl (cI, 6, .inl rw))]) (w1 := [((q 0), .inr (6, [.ref (q 1), .ref (q 2), .int on, .int hm, .int aw, .int tk, .ref (q 3), .ref (q 4), .ref (q 5), .int (nI sn), .ref (q 6), .ref (q 7), .ref (q 8), .ref (q 9), .int (nI kn), .ref (q 10), .ref (q 11), .ref (q 12), .ref (q 13), .ref (q 14), .ref (q 15), .ref (q 16), .ref (q 17), .int u0_5]))]) hP hD [0] [1] rfl rfl (by decide) (by decide) hk1 hFc hP1 hD1
    obtain rfl := hu0_5.symm
    have hP : va_P D vwCl [(ro, .inl (cI, 6, .inl rw)), ((q 0), .inr (6, [.ref (q 1), .ref (q 2), .int on, .int hm, .int aw, .int tk, .ref (q 3), .ref (q 4), .ref (q 5), .int (nI sn), .ref (q 6), .ref (q 7), .ref (q 8), .ref (q 9), .int (nI kn), .ref (q 10), .ref (q 11), .ref (q 12), .ref (q 13), .ref (q 14), .ref (q 15), .ref (q 16), .ref (q 17), .int 0]))] H := hP
    have hD : va_D A [(ro, .inl (cI, 6, .inl rw)), ((q 0), .inr (6, [.ref (q 1), .ref (q 2), .int on, .int hm, .int aw, .int tk, .ref (q 3), .ref (q 4), .ref (q 5), .int (nI sn), .ref (q 6), .ref (q 7), .ref (q 8), .ref (q 9), .int (nI kn), .ref (q 10), .ref (q 11), .ref (q 12), .ref (q 13), .ref (q 14), .ref (q 15), .ref (q 16), .ref (q 17), .int 0]))] := hD
    obtain rfl := hr_5.symm
    refine W.widen (k := 0) (n := 0) (Nat.le_refl _) (Nat.le_refl _) ?_
    refine tp_eq (y := 0) rfl ?_
    refine lv_if_eq (tgt := 23) hx hb dX6_of_16 (by decide) (fun _ => ?_) (fun c_6 => absurd (by decide) c_6)
    refine lv_aload_n hx hb dX6_of_23 rfl (lv_at hl 1 rfl) ?_
    refine lv_iload_n hx hb dX6_of_24 rfl (lv_at hl 2 rfl) ?_
    refine va_iald hx hb hK hP 0 0 rfl rfl (by assumption) dX6_of_25 ?_
    have hP9 := hP.sub (ws' := [((q 0), .inr (6, [.ref (q 1), .ref (q 2), .int on, .int hm, .int aw, .int tk, .ref (q 3), .ref (q 4), .ref (q 5), .int (nI sn), .ref (q 6), .ref (q 7), .ref (q 8), .ref (q 9), .int (nI kn), .ref (q 10), .ref (q 11), .ref (q 12), .ref (q 13), .ref (q 14), .ref (q 15), .ref (q 16), .ref (q 17), .int 0])), (ro, .inl (cI, 6, .inl rw))]) [1, 0] rfl
    have hD9 := hD.sub (ws' := [((q 0), .inr (6, [.ref (q 1), .ref (q 2), .int on, .int hm, .int aw, .int tk, .ref (q 3), .ref (q 4), .ref (q 5), .int (nI sn), .ref (q 6), .ref (q 7), .ref (q 8), .ref (q 9), .int (nI kn), .ref (q 10), .ref (q 11), .ref (q 12), .ref (q 13), .ref (q 14), .ref (q 15), .ref (q 16), .ref (q 17), .int 0])), (ro, .inl (cI, 6, .inl rw))]) [1, 0] (by decide) rfl
    -- leaf 1
    refine W.widen (k := 0) (n := 0) (Nat.le_refl _) (Nat.le_refl _) ?_
    exact W.iret (v := rw p1.toNatClampNeg) hx hb hr (fun t ht hW => ⟨⟨rw p1.toNatClampNeg, (0), rfl, ⟨(by rw [f_X6_of, if_neg c_2]), (by rw [g_th_X6_of, if_neg c_2])⟩, by rw [ht]; exact hP9, va_K.moved hW.alike hK, hD9⟩, hS.F ht⟩) hS.2.2 dX6_of_26

set_option maxHeartbeats 4000000 in
set_option maxRecDepth 100000 in
theorem c_X6_points (l : Launch) (D : va_G) (cI cZ cJ cA : ClassId) (sz : Nat) (q : Nat → Nat) (on : Int32) (hm : Int32) (aw : Int32) (tk : Int32) (sn : Nat) (kn : Nat) (pt : Nat → Int32) (th : Int32) (p1 : Int32) : Met l yX6_points wsX6_points ({ frames := 3, cells := 0, slots := 0, locals := 64 } : Room) (va_Pc [.ref (q 0), .int p1] (pcW D (tyL cI cZ cJ cA) [((q 0), .inr (6, [.ref (q 1), .ref (q 2), .int on, .int hm, .int aw, .int tk, .ref (q 3), .ref (q 4), .ref (q 5), .int (nI sn), .ref (q 6), .ref (q 7), .ref (q 8), .ref (q 9), .int (nI kn), .ref (q 10), .ref (q 11), .ref (q 12), .ref (q 13), .ref (q 14), .ref (q 15), .ref (q 16), .ref (q 17), .int th])), ((q 14), .inl (cI, 6, .inl pt))] sz)) (va_Qi (fun (r : Int32) (u : (Int32)) => r = f_X6_of on hm aw tk sn kn th pt p1 ∧ u = (g_th_X6_of on hm aw tk sn kn th pt p1)) (fun u t => bcW D (tyL cI cZ cJ cA) (va_A [((q 0), .inr (6, [.ref (q 1), .ref (q 2), .int on, .int hm, .int aw, .int tk, .ref (q 3), .ref (q 4), .ref (q 5), .int (nI sn), .ref (q 6), .ref (q 7), .ref (q 8), .ref (q 9), .int (nI kn), .ref (q 10), .ref (q 11), .ref (q 12), .ref (q 13), .ref (q 14), .ref (q 15), .ref (q 16), .ref (q 17), .int th])), ((q 14), .inl (cI, 6, .inl pt))] sz) [((q 0), .inr (6, [.ref (q 1), .ref (q 2), .int on, .int hm, .int aw, .int tk, .ref (q 3), .ref (q 4), .ref (q 5), .int (nI sn), .ref (q 6), .ref (q 7), .ref (q 8), .ref (q 9), .int (nI kn), .ref (q 10), .ref (q 11), .ref (q 12), .ref (q 13), .ref (q 14), .ref (q 15), .ref (q 16), .ref (q 17), .int u])), ((q 14), .inl (cI, 6, .inl pt))] t) (va_A [((q 0), .inr (6, [.ref (q 1), .ref (q 2), .int on, .int hm, .int aw, .int tk, .ref (q 3), .ref (q 4), .ref (q 5), .int (nI sn), .ref (q 6), .ref (q 7), .ref (q 8), .ref (q 9), .int (nI kn), .ref (q 10), .ref (q 11), .ref (q 12), .ref (q 13), .ref (q 14), .ref (q 15), .ref (q 16), .ref (q 17), .int th])), ((q 14), .inl (cI, 6, .inl pt))] sz)) 0 0 (va_A [((q 0), .inr (6, [.ref (q 1), .ref (q 2), .int on, .int hm, .int aw, .int tk, .ref (q 3), .ref (q 4), .ref (q 5), .int (nI sn), .ref (q 6), .ref (q 7), .ref (q 8), .ref (q 9), .int (nI kn), .ref (q 10), .ref (q 11), .ref (q 12), .ref (q 13), .ref (q 14), .ref (q 15), .ref (q 16), .ref (q 17), .int th])), ((q 14), .inl (cI, 6, .inl pt))] sz) := by
  refine Met.ofW (cc := cX6_points) (maxL := 2) (ret := (some .int)) (by decide) rfl ?_
  intro p e s m args below meth c s₁ B hml hv
  obtain ⟨rfl, hsz, hP, hK, hD0⟩ := hv
  have hx := B.exec
  have hb := B.bytes
  have hr := B.returns
  have hts := atoms_spec (ws := wsX6_points) B.pre
  have hown : s.vm.findClass RX6 = some m.cls := findClass_of_methodNamed B.named
  have hlocks := B.notSynchronized
  subst hsz
  have hD := hD0.self (sz := s.heap.size)
  generalize hAe : va_A [((q 0), .inr (6, [.ref (q 1), .ref (q 2), .int on, .int hm, .int aw, .int tk, .ref (q 3), .ref (q 4), .ref (q 5), .int (nI sn), .ref (q 6), .ref (q 7), .ref (q 8), .ref (q 9), .int (nI kn), .ref (q 10), .ref (q 11), .ref (q 12), .ref (q 13), .ref (q 14), .ref (q 15), .ref (q 16), .ref (q 17), .int th])), ((q 14), .inl (cI, 6, .inl pt))] s.heap.size = A at hD ⊢
  have hA : ∀ q : Nat, s.heap.size ≤ q → A q := fun q h => by rw [← hAe]; exact Or.inr h
  have hAR : ∀ q : Nat, s.heap.size ≤ q → (fun q : Nat => s.heap.size ≤ q) q := fun _ h => h
  have hS : va_S A s.heap s.heap [] := va_S.rf
  have hP : va_P D vwCl [((q 0), .inr (6, [.ref (q 1), .ref (q 2), .int on, .int hm, .int aw, .int tk, .ref (q 3), .ref (q 4), .ref (q 5), .int (nI sn), .ref (q 6), .ref (q 7), .ref (q 8), .ref (q 9), .int (nI kn), .ref (q 10), .ref (q 11), .ref (q 12), .ref (q 13), .ref (q 14), .ref (q 15), .ref (q 16), .ref (q 17), .int th])), ((q 14), .inl (cI, 6, .inl pt))] s.heap := hP
  have hl := lv_entry ([.ref (q 0), .int p1]) (n := 2) (Nat.le_of_ble_eq_true rfl)
  rw [lg_entry_eq]
  generalize (lg_sl ([.ref (q 0), .int p1]) ++ List.replicate (2 - (lg_sl ([.ref (q 0), .int p1])).length) Slot.unset).toArray = ls at hl ⊢
  have hl : lv_has ls 2 [(0, .ref (q 0)), (1, .int p1)] := hl
  have hf_50 := hts (.fieldLink RX6 50 "PaintballAtlasModel" "points" "[I") (by decide +kernel)
  have hi_X6 : ∀ w ∈ wsX60, w ∈ wsX6_points := by decide +kernel
  refine lv_aload_n hx hb dX6_points_0 rfl (lv_at hl 0 rfl) ?_
  refine lv_aload_n hx hb dX6_points_1 rfl (lv_at hl 0 rfl) ?_
  refine va_get (D := D) (ci := 6) (v := .ref (q 14)) (C := RX6) (T := TX6) (N := 24) hx hb hts hi_X6 hown hK hP 0 rfl rfl 19 (by decide) hf_50 (fun _ h9 => h9) rfl dX6_points_2 ?_
  refine lv_iload_n hx hb dX6_points_5 rfl (lv_at hl 1 rfl) ?_
  have hPc := hP
  have hDc := hD.sub (ws' := [((q 0), .inr (6, [.ref (q 1), .ref (q 2), .int on, .int hm, .int aw, .int tk, .ref (q 3), .ref (q 4), .ref (q 5), .int (nI sn), .ref (q 6), .ref (q 7), .ref (q 8), .ref (q 9), .int (nI kn), .ref (q 10), .ref (q 11), .ref (q 12), .ref (q 13), .ref (q 14), .ref (q 15), .ref (q 16), .ref (q 17), .int th])), ((q 14), .inl (cI, 6, .inl pt))]) [0, 1] (by decide) rfl
  have hFc := va_free (wc := [((q 0), .inr (6, [.ref (q 1), .ref (q 2), .int on, .int hm, .int aw, .int tk, .ref (q 3), .ref (q 4), .ref (q 5), .int (nI sn), .ref (q 6), .ref (q 7), .ref (q 8), .ref (q 9), .int (nI kn), .ref (q 10), .ref (q 11), .ref (q 12), .ref (q 13), .ref (q 14), .ref (q 15), .ref (q 16), .ref (q 17), .int th])), ((q 14), .inl (cI, 6, .inl pt))]) hD hS hA [0, 1] rfl
  refine va_calli (va_runV (As := [.ref (q 14), .int p1]) (rest := []) ⟨hx, hb, hml, hown, hts⟩ (c_X6_of l D cI cZ cJ cA s.heap.size q (q 14) on hm aw tk sn kn th pt p1) (cwV 2 hts gX6_points_X6_of rfl rfl rfl (by decide +kernel) ⟨Nat.le_of_ble_eq_true rfl, Nat.le_of_ble_eq_true rfl⟩) ⟨pcW_bl, va_recv hK hPc (ci := 6) (q0 := 0) rfl rfl, fun U hU hW => ⟨rfl, by rw [hU], by rw [hU]; exact hPc, va_K.moved hW.alike hK, hDc.weaken (fun _ _ _ _ => trivial)⟩⟩ rfl rfl hl.1 rfl (lv_room (Nat.le_of_ble_eq_true rfl)) dX6_points_6 ⟨Nat.le_of_ble_eq_true rfl, Nat.le_of_ble_eq_true rfl⟩) hS (fun q _ h => hFc q h) hFc (fun r_1 u t H locs ht hvm hw hB hz1 hk1 hS => ?_)
  try dsimp only at hw
  obtain ⟨u0_1, rfl⟩ : ∃ z, z = u := ⟨_, rfl⟩
  obtain ⟨hr_1, hu0_1⟩ := hw
  obtain ⟨hP1, hK1, hD1⟩ := hB
  rw [ht] at hP1
  obtain ⟨hP, hD⟩ := va_join (wr := []) (w1 := [((q 0), .inr (6, [.ref (q 1), .ref (q 2), .int on, .int hm, .int aw, .int tk, .ref (q 3), .ref (q 4), .ref (q 5), .int (nI sn), .ref (q 6), .ref (q 7), .ref (q 8), .ref (q 9), .int (nI kn), .ref (q 10), .ref (q 11), .ref (q 12), .ref (q 13), .ref (q 14), .ref (q 15), .ref (q 16), .ref (q 17), .int u0_1])), ((q 14), .inl (cI, 6, .inl pt))]) hP hD [0, 1] [] rfl rfl (by decide) (by decide) hk1 hFc hP1 hD1
  obtain rfl := hu0_1.symm
  have hP : va_P D vwCl [((q 0), .inr (6, [.ref (q 1), .ref (q 2), .int on, .int hm, .int aw, .int tk, .ref (q 3), .ref (q 4), .ref (q 5), .int (nI sn), .ref (q 6), .ref (q 7), .ref (q 8), .ref (q 9), .int (nI kn), .ref (q 10), .ref (q 11), .ref (q 12), .ref (q 13), .ref (q 14), .ref (q 15), .ref (q 16), .ref (q 17), .int (g_th_X6_of on hm aw tk sn kn th pt p1)])), ((q 14), .inl (cI, 6, .inl pt))] H := hP
  have hD : va_D A [((q 0), .inr (6, [.ref (q 1), .ref (q 2), .int on, .int hm, .int aw, .int tk, .ref (q 3), .ref (q 4), .ref (q 5), .int (nI sn), .ref (q 6), .ref (q 7), .ref (q 8), .ref (q 9), .int (nI kn), .ref (q 10), .ref (q 11), .ref (q 12), .ref (q 13), .ref (q 14), .ref (q 15), .ref (q 16), .ref (q 17), .int (g_th_X6_of on hm aw tk sn kn th pt p1)])), ((q 14), .inl (cI, 6, .inl pt))] := hD
  obtain rfl := hr_1.symm
  refine W.widen (k := 0) (n := 0) (Nat.le_refl _) (Nat.le_refl _) ?_
  have hP9 := hP.sub (ws' := [((q 0), .inr (6, [.ref (q 1), .ref (q 2), .int on, .int hm, .int aw, .int tk, .ref (q 3), .ref (q 4), .ref (q 5), .int (nI sn), .ref (q 6), .ref (q 7), .ref (q 8), .ref (q 9), .int (nI kn), .ref (q 10), .ref (q 11), .ref (q 12), .ref (q 13), .ref (q 14), .ref (q 15), .ref (q 16), .ref (q 17), .int (g_th_X6_of on hm aw tk sn kn th pt p1)])), ((q 14), .inl (cI, 6, .inl pt))]) [0, 1] rfl
  have hD9 := hD.sub (ws' := [((q 0), .inr (6, [.ref (q 1), .ref (q 2), .int on, .int hm, .int aw, .int tk, .ref (q 3), .ref (q 4), .ref (q 5), .int (nI sn), .ref (q 6), .ref (q 7), .ref (q 8), .ref (q 9), .int (nI kn), .ref (q 10), .ref (q 11), .ref (q 12), .ref (q 13), .ref (q 14), .ref (q 15), .ref (q 16), .ref (q 17), .int (g_th_X6_of on hm aw tk sn kn th pt p1)])), ((q 14), .inl (cI, 6, .inl pt))]) [0, 1] (by decide) rfl
  -- leaf 0
  refine W.widen (k := 0) (n := 0) (Nat.le_refl _) (Nat.le_refl _) ?_
  exact W.iret (v := f_X6_of on hm aw tk sn kn th pt p1) hx hb hr (fun t ht hW => ⟨⟨f_X6_of on hm aw tk sn kn th pt p1, ((g_th_X6_of on hm aw tk sn kn th pt p1)), rfl, ⟨rfl, rfl⟩, by rw [ht]; exact hP9, va_K.moved hW.alike hK, hD9⟩, hS.F ht⟩) hS.2.2 dX6_points_9

set_option maxHeartbeats 4000000 in
set_option maxRecDepth 100000 in
theorem c_X6_fines (l : Launch) (D : va_G) (cI cZ cJ cA : ClassId) (sz : Nat) (q : Nat → Nat) (on : Int32) (hm : Int32) (aw : Int32) (tk : Int32) (sn : Nat) (kn : Nat) (fn : Nat → Int32) (th : Int32) (p1 : Int32) : Met l yX6_fines wsX6_fines ({ frames := 3, cells := 0, slots := 0, locals := 64 } : Room) (va_Pc [.ref (q 0), .int p1] (pcW D (tyL cI cZ cJ cA) [((q 0), .inr (6, [.ref (q 1), .ref (q 2), .int on, .int hm, .int aw, .int tk, .ref (q 3), .ref (q 4), .ref (q 5), .int (nI sn), .ref (q 6), .ref (q 7), .ref (q 8), .ref (q 9), .int (nI kn), .ref (q 10), .ref (q 11), .ref (q 12), .ref (q 13), .ref (q 14), .ref (q 15), .ref (q 16), .ref (q 17), .int th])), ((q 15), .inl (cI, 6, .inl fn))] sz)) (va_Qi (fun (r : Int32) (u : (Int32)) => r = f_X6_of on hm aw tk sn kn th fn p1 ∧ u = (g_th_X6_of on hm aw tk sn kn th fn p1)) (fun u t => bcW D (tyL cI cZ cJ cA) (va_A [((q 0), .inr (6, [.ref (q 1), .ref (q 2), .int on, .int hm, .int aw, .int tk, .ref (q 3), .ref (q 4), .ref (q 5), .int (nI sn), .ref (q 6), .ref (q 7), .ref (q 8), .ref (q 9), .int (nI kn), .ref (q 10), .ref (q 11), .ref (q 12), .ref (q 13), .ref (q 14), .ref (q 15), .ref (q 16), .ref (q 17), .int th])), ((q 15), .inl (cI, 6, .inl fn))] sz) [((q 0), .inr (6, [.ref (q 1), .ref (q 2), .int on, .int hm, .int aw, .int tk, .ref (q 3), .ref (q 4), .ref (q 5), .int (nI sn), .ref (q 6), .ref (q 7), .ref (q 8), .ref (q 9), .int (nI kn), .ref (q 10), .ref (q 11), .ref (q 12), .ref (q 13), .ref (q 14), .ref (q 15), .ref (q 16), .ref (q 17), .int u])), ((q 15), .inl (cI, 6, .inl fn))] t) (va_A [((q 0), .inr (6, [.ref (q 1), .ref (q 2), .int on, .int hm, .int aw, .int tk, .ref (q 3), .ref (q 4), .ref (q 5), .int (nI sn), .ref (q 6), .ref (q 7), .ref (q 8), .ref (q 9), .int (nI kn), .ref (q 10), .ref (q 11), .ref (q 12), .ref (q 13), .ref (q 14), .ref (q 15), .ref (q 16), .ref (q 17), .int th])), ((q 15), .inl (cI, 6, .inl fn))] sz)) 0 0 (va_A [((q 0), .inr (6, [.ref (q 1), .ref (q 2), .int on, .int hm, .int aw, .int tk, .ref (q 3), .ref (q 4), .ref (q 5), .int (nI sn), .ref (q 6), .ref (q 7), .ref (q 8), .ref (q 9), .int (nI kn), .ref (q 10), .ref (q 11), .ref (q 12), .ref (q 13), .ref (q 14), .ref (q 15), .ref (q 16), .ref (q 17), .int th])), ((q 15), .inl (cI, 6, .inl fn))] sz) := by
  refine Met.ofW (cc := cX6_fines) (maxL := 2) (ret := (some .int)) (by decide) rfl ?_
  intro p e s m args below meth c s₁ B hml hv
  obtain ⟨rfl, hsz, hP, hK, hD0⟩ := hv
  have hx := B.exec
  have hb := B.bytes
  have hr := B.returns
  have hts := atoms_spec (ws := wsX6_fines) B.pre
  have hown : s.vm.findClass RX6 = some m.cls := findClass_of_methodNamed B.named
  have hlocks := B.notSynchronized
  subst hsz
  have hD := hD0.self (sz := s.heap.size)
  generalize hAe : va_A [((q 0), .inr (6, [.ref (q 1), .ref (q 2), .int on, .int hm, .int aw, .int tk, .ref (q 3), .ref (q 4), .ref (q 5), .int (nI sn), .ref (q 6), .ref (q 7), .ref (q 8), .ref (q 9), .int (nI kn), .ref (q 10), .ref (q 11), .ref (q 12), .ref (q 13), .ref (q 14), .ref (q 15), .ref (q 16), .ref (q 17), .int th])), ((q 15), .inl (cI, 6, .inl fn))] s.heap.size = A at hD ⊢
  have hA : ∀ q : Nat, s.heap.size ≤ q → A q := fun q h => by rw [← hAe]; exact Or.inr h
  have hAR : ∀ q : Nat, s.heap.size ≤ q → (fun q : Nat => s.heap.size ≤ q) q := fun _ h => h
  have hS : va_S A s.heap s.heap [] := va_S.rf
  have hP : va_P D vwCl [((q 0), .inr (6, [.ref (q 1), .ref (q 2), .int on, .int hm, .int aw, .int tk, .ref (q 3), .ref (q 4), .ref (q 5), .int (nI sn), .ref (q 6), .ref (q 7), .ref (q 8), .ref (q 9), .int (nI kn), .ref (q 10), .ref (q 11), .ref (q 12), .ref (q 13), .ref (q 14), .ref (q 15), .ref (q 16), .ref (q 17), .int th])), ((q 15), .inl (cI, 6, .inl fn))] s.heap := hP
  have hl := lv_entry ([.ref (q 0), .int p1]) (n := 2) (Nat.le_of_ble_eq_true rfl)
  rw [lg_entry_eq]
  generalize (lg_sl ([.ref (q 0), .int p1]) ++ List.replicate (2 - (lg_sl ([.ref (q 0), .int p1])).length) Slot.unset).toArray = ls at hl ⊢
  have hl : lv_has ls 2 [(0, .ref (q 0)), (1, .int p1)] := hl
  have hf_53 := hts (.fieldLink RX6 53 "PaintballAtlasModel" "fines" "[I") (by decide +kernel)
  have hi_X6 : ∀ w ∈ wsX60, w ∈ wsX6_fines := by decide +kernel
  refine lv_aload_n hx hb dX6_fines_0 rfl (lv_at hl 0 rfl) ?_
  refine lv_aload_n hx hb dX6_fines_1 rfl (lv_at hl 0 rfl) ?_
  refine va_get (D := D) (ci := 6) (v := .ref (q 15)) (C := RX6) (T := TX6) (N := 24) hx hb hts hi_X6 hown hK hP 0 rfl rfl 20 (by decide) hf_53 (fun _ h9 => h9) rfl dX6_fines_2 ?_
  refine lv_iload_n hx hb dX6_fines_5 rfl (lv_at hl 1 rfl) ?_
  have hPc := hP
  have hDc := hD.sub (ws' := [((q 0), .inr (6, [.ref (q 1), .ref (q 2), .int on, .int hm, .int aw, .int tk, .ref (q 3), .ref (q 4), .ref (q 5), .int (nI sn), .ref (q 6), .ref (q 7), .ref (q 8), .ref (q 9), .int (nI kn), .ref (q 10), .ref (q 11), .ref (q 12), .ref (q 13), .ref (q 14), .ref (q 15), .ref (q 16), .ref (q 17), .int th])), ((q 15), .inl (cI, 6, .inl fn))]) [0, 1] (by decide) rfl
  have hFc := va_free (wc := [((q 0), .inr (6, [.ref (q 1), .ref (q 2), .int on, .int hm, .int aw, .int tk, .ref (q 3), .ref (q 4), .ref (q 5), .int (nI sn), .ref (q 6), .ref (q 7), .ref (q 8), .ref (q 9), .int (nI kn), .ref (q 10), .ref (q 11), .ref (q 12), .ref (q 13), .ref (q 14), .ref (q 15), .ref (q 16), .ref (q 17), .int th])), ((q 15), .inl (cI, 6, .inl fn))]) hD hS hA [0, 1] rfl
  refine va_calli (va_runV (As := [.ref (q 15), .int p1]) (rest := []) ⟨hx, hb, hml, hown, hts⟩ (c_X6_of l D cI cZ cJ cA s.heap.size q (q 15) on hm aw tk sn kn th fn p1) (cwV 2 hts gX6_fines_X6_of rfl rfl rfl (by decide +kernel) ⟨Nat.le_of_ble_eq_true rfl, Nat.le_of_ble_eq_true rfl⟩) ⟨pcW_bl, va_recv hK hPc (ci := 6) (q0 := 0) rfl rfl, fun U hU hW => ⟨rfl, by rw [hU], by rw [hU]; exact hPc, va_K.moved hW.alike hK, hDc.weaken (fun _ _ _ _ => trivial)⟩⟩ rfl rfl hl.1 rfl (lv_room (Nat.le_of_ble_eq_true rfl)) dX6_fines_6 ⟨Nat.le_of_ble_eq_true rfl, Nat.le_of_ble_eq_true rfl⟩) hS (fun q _ h => hFc q h) hFc (fun r_1 u t H locs ht hvm hw hB hz1 hk1 hS => ?_)
  try dsimp only at hw
  obtain ⟨u0_1, rfl⟩ : ∃ z, z = u := ⟨_, rfl⟩
  obtain ⟨hr_1, hu0_1⟩ := hw
  obtain ⟨hP1, hK1, hD1⟩ := hB
  rw [ht] at hP1
  obtain ⟨hP, hD⟩ := va_join (wr := []) (w1 := [((q 0), .inr (6, [.ref (q 1), .ref (q 2), .int on, .int hm, .int aw, .int tk, .ref (q 3), .ref (q 4), .ref (q 5), .int (nI sn), .ref (q 6), .ref (q 7), .ref (q 8), .ref (q 9), .int (nI kn), .ref (q 10), .ref (q 11), .ref (q 12), .ref (q 13), .ref (q 14), .ref (q 15), .ref (q 16), .ref (q 17), .int u0_1])), ((q 15), .inl (cI, 6, .inl fn))]) hP hD [0, 1] [] rfl rfl (by decide) (by decide) hk1 hFc hP1 hD1
  obtain rfl := hu0_1.symm
  have hP : va_P D vwCl [((q 0), .inr (6, [.ref (q 1), .ref (q 2), .int on, .int hm, .int aw, .int tk, .ref (q 3), .ref (q 4), .ref (q 5), .int (nI sn), .ref (q 6), .ref (q 7), .ref (q 8), .ref (q 9), .int (nI kn), .ref (q 10), .ref (q 11), .ref (q 12), .ref (q 13), .ref (q 14), .ref (q 15), .ref (q 16), .ref (q 17), .int (g_th_X6_of on hm aw tk sn kn th fn p1)])), ((q 15), .inl (cI, 6, .inl fn))] H := hP
  have hD : va_D A [((q 0), .inr (6, [.ref (q 1), .ref (q 2), .int on, .int hm, .int aw, .int tk, .ref (q 3), .ref (q 4), .ref (q 5), .int (nI sn), .ref (q 6), .ref (q 7), .ref (q 8), .ref (q 9), .int (nI kn), .ref (q 10), .ref (q 11), .ref (q 12), .ref (q 13), .ref (q 14), .ref (q 15), .ref (q 16), .ref (q 17), .int (g_th_X6_of on hm aw tk sn kn th fn p1)])), ((q 15), .inl (cI, 6, .inl fn))] := hD
  obtain rfl := hr_1.symm
  refine W.widen (k := 0) (n := 0) (Nat.le_refl _) (Nat.le_refl _) ?_
  have hP9 := hP.sub (ws' := [((q 0), .inr (6, [.ref (q 1), .ref (q 2), .int on, .int hm, .int aw, .int tk, .ref (q 3), .ref (q 4), .ref (q 5), .int (nI sn), .ref (q 6), .ref (q 7), .ref (q 8), .ref (q 9), .int (nI kn), .ref (q 10), .ref (q 11), .ref (q 12), .ref (q 13), .ref (q 14), .ref (q 15), .ref (q 16), .ref (q 17), .int (g_th_X6_of on hm aw tk sn kn th fn p1)])), ((q 15), .inl (cI, 6, .inl fn))]) [0, 1] rfl
  have hD9 := hD.sub (ws' := [((q 0), .inr (6, [.ref (q 1), .ref (q 2), .int on, .int hm, .int aw, .int tk, .ref (q 3), .ref (q 4), .ref (q 5), .int (nI sn), .ref (q 6), .ref (q 7), .ref (q 8), .ref (q 9), .int (nI kn), .ref (q 10), .ref (q 11), .ref (q 12), .ref (q 13), .ref (q 14), .ref (q 15), .ref (q 16), .ref (q 17), .int (g_th_X6_of on hm aw tk sn kn th fn p1)])), ((q 15), .inl (cI, 6, .inl fn))]) [0, 1] (by decide) rfl
  -- leaf 0
  refine W.widen (k := 0) (n := 0) (Nat.le_refl _) (Nat.le_refl _) ?_
  exact W.iret (v := f_X6_of on hm aw tk sn kn th fn p1) hx hb hr (fun t ht hW => ⟨⟨f_X6_of on hm aw tk sn kn th fn p1, ((g_th_X6_of on hm aw tk sn kn th fn p1)), rfl, ⟨rfl, rfl⟩, by rw [ht]; exact hP9, va_K.moved hW.alike hK, hD9⟩, hS.F ht⟩) hS.2.2 dX6_fines_9

set_option maxHeartbeats 4000000 in
set_option maxRecDepth 100000 in
theorem c_X6_difference (l : Launch) (D : va_G) (cI cZ cJ cA : ClassId) (sz : Nat) (q : Nat → Nat) (on : Int32) (hm : Int32) (aw : Int32) (tk : Int32) (sn : Nat) (kn : Nat) (df : Nat → Int32) (th : Int32) (p1 : Int32) : Met l yX6_difference wsX6_difference ({ frames := 3, cells := 0, slots := 0, locals := 64 } : Room) (va_Pc [.ref (q 0), .int p1] (pcW D (tyL cI cZ cJ cA) [((q 0), .inr (6, [.ref (q 1), .ref (q 2), .int on, .int hm, .int aw, .int tk, .ref (q 3), .ref (q 4), .ref (q 5), .int (nI sn), .ref (q 6), .ref (q 7), .ref (q 8), .ref (q 9), .int (nI kn), .ref (q 10), .ref (q 11), .ref (q 12), .ref (q 13), .ref (q 14), .ref (q 15), .ref (q 16), .ref (q 17), .int th])), ((q 16), .inl (cI, 6, .inl df))] sz)) (va_Qi (fun (r : Int32) (u : (Int32)) => r = f_X6_of on hm aw tk sn kn th df p1 ∧ u = (g_th_X6_of on hm aw tk sn kn th df p1)) (fun u t => bcW D (tyL cI cZ cJ cA) (va_A [((q 0), .inr (6, [.ref (q 1), .ref (q 2), .int on, .int hm, .int aw, .int tk, .ref (q 3), .ref (q 4), .ref (q 5), .int (nI sn), .ref (q 6), .ref (q 7), .ref (q 8), .ref (q 9), .int (nI kn), .ref (q 10), .ref (q 11), .ref (q 12), .ref (q 13), .ref (q 14), .ref (q 15), .ref (q 16), .ref (q 17), .int th])), ((q 16), .inl (cI, 6, .inl df))] sz) [((q 0), .inr (6, [.ref (q 1), .ref (q 2), .int on, .int hm, .int aw, .int tk, .ref (q 3), .ref (q 4), .ref (q 5), .int (nI sn), .ref (q 6), .ref (q 7), .ref (q 8), .ref (q 9), .int (nI kn), .ref (q 10), .ref (q 11), .ref (q 12), .ref (q 13), .ref (q 14), .ref (q 15), .ref (q 16), .ref (q 17), .int u])), ((q 16), .inl (cI, 6, .inl df))] t) (va_A [((q 0), .inr (6, [.ref (q 1), .ref (q 2), .int on, .int hm, .int aw, .int tk, .ref (q 3), .ref (q 4), .ref (q 5), .int (nI sn), .ref (q 6), .ref (q 7), .ref (q 8), .ref (q 9), .int (nI kn), .ref (q 10), .ref (q 11), .ref (q 12), .ref (q 13), .ref (q 14), .ref (q 15), .ref (q 16), .ref (q 17), .int th])), ((q 16), .inl (cI, 6, .inl df))] sz)) 0 0 (va_A [((q 0), .inr (6, [.ref (q 1), .ref (q 2), .int on, .int hm, .int aw, .int tk, .ref (q 3), .ref (q 4), .ref (q 5), .int (nI sn), .ref (q 6), .ref (q 7), .ref (q 8), .ref (q 9), .int (nI kn), .ref (q 10), .ref (q 11), .ref (q 12), .ref (q 13), .ref (q 14), .ref (q 15), .ref (q 16), .ref (q 17), .int th])), ((q 16), .inl (cI, 6, .inl df))] sz) := by
  refine Met.ofW (cc := cX6_difference) (maxL := 2) (ret := (some .int)) (by decide) rfl ?_
  intro p e s m args below meth c s₁ B hml hv
  obtain ⟨rfl, hsz, hP, hK, hD0⟩ := hv
  have hx := B.exec
  have hb := B.bytes
  have hr := B.returns
  have hts := atoms_spec (ws := wsX6_difference) B.pre
  have hown : s.vm.findClass RX6 = some m.cls := findClass_of_methodNamed B.named
  have hlocks := B.notSynchronized
  subst hsz
  have hD := hD0.self (sz := s.heap.size)
  generalize hAe : va_A [((q 0), .inr (6, [.ref (q 1), .ref (q 2), .int on, .int hm, .int aw, .int tk, .ref (q 3), .ref (q 4), .ref (q 5), .int (nI sn), .ref (q 6), .ref (q 7), .ref (q 8), .ref (q 9), .int (nI kn), .ref (q 10), .ref (q 11), .ref (q 12), .ref (q 13), .ref (q 14), .ref (q 15), .ref (q 16), .ref (q 17), .int th])), ((q 16), .inl (cI, 6, .inl df))] s.heap.size = A at hD ⊢
  have hA : ∀ q : Nat, s.heap.size ≤ q → A q := fun q h => by rw [← hAe]; exact Or.inr h
  have hAR : ∀ q : Nat, s.heap.size ≤ q → (fun q : Nat => s.heap.size ≤ q) q := fun _ h => h
  have hS : va_S A s.heap s.heap [] := va_S.rf
  have hP : va_P D vwCl [((q 0), .inr (6, [.ref (q 1), .ref (q 2), .int on, .int hm, .int aw, .int tk, .ref (q 3), .ref (q 4), .ref (q 5), .int (nI sn), .ref (q 6), .ref (q 7), .ref (q 8), .ref (q 9), .int (nI kn), .ref (q 10), .ref (q 11), .ref (q 12), .ref (q 13), .ref (q 14), .ref (q 15), .ref (q 16), .ref (q 17), .int th])), ((q 16), .inl (cI, 6, .inl df))] s.heap := hP
  have hl := lv_entry ([.ref (q 0), .int p1]) (n := 2) (Nat.le_of_ble_eq_true rfl)
  rw [lg_entry_eq]
  generalize (lg_sl ([.ref (q 0), .int p1]) ++ List.replicate (2 - (lg_sl ([.ref (q 0), .int p1])).length) Slot.unset).toArray = ls at hl ⊢
  have hl : lv_has ls 2 [(0, .ref (q 0)), (1, .int p1)] := hl
  have hf_56 := hts (.fieldLink RX6 56 "PaintballAtlasModel" "difference" "[I") (by decide +kernel)
  have hi_X6 : ∀ w ∈ wsX60, w ∈ wsX6_difference := by decide +kernel
  refine lv_aload_n hx hb dX6_difference_0 rfl (lv_at hl 0 rfl) ?_
  refine lv_aload_n hx hb dX6_difference_1 rfl (lv_at hl 0 rfl) ?_
  refine va_get (D := D) (ci := 6) (v := .ref (q 16)) (C := RX6) (T := TX6) (N := 24) hx hb hts hi_X6 hown hK hP 0 rfl rfl 21 (by decide) hf_56 (fun _ h9 => h9) rfl dX6_difference_2 ?_
  refine lv_iload_n hx hb dX6_difference_5 rfl (lv_at hl 1 rfl) ?_
  have hPc := hP
  have hDc := hD.sub (ws' := [((q 0), .inr (6, [.ref (q 1), .ref (q 2), .int on, .int hm, .int aw, .int tk, .ref (q 3), .ref (q 4), .ref (q 5), .int (nI sn), .ref (q 6), .ref (q 7), .ref (q 8), .ref (q 9), .int (nI kn), .ref (q 10), .ref (q 11), .ref (q 12), .ref (q 13), .ref (q 14), .ref (q 15), .ref (q 16), .ref (q 17), .int th])), ((q 16), .inl (cI, 6, .inl df))]) [0, 1] (by decide) rfl
  have hFc := va_free (wc := [((q 0), .inr (6, [.ref (q 1), .ref (q 2), .int on, .int hm, .int aw, .int tk, .ref (q 3), .ref (q 4), .ref (q 5), .int (nI sn), .ref (q 6), .ref (q 7), .ref (q 8), .ref (q 9), .int (nI kn), .ref (q 10), .ref (q 11), .ref (q 12), .ref (q 13), .ref (q 14), .ref (q 15), .ref (q 16), .ref (q 17), .int th])), ((q 16), .inl (cI, 6, .inl df))]) hD hS hA [0, 1] rfl
  refine va_calli (va_runV (As := [.ref (q 16), .int p1]) (rest := []) ⟨hx, hb, hml, hown, hts⟩ (c_X6_of l D cI cZ cJ cA s.heap.size q (q 16) on hm aw tk sn kn th df p1) (cwV 2 hts gX6_difference_X6_of rfl rfl rfl (by decide +kernel) ⟨Nat.le_of_ble_eq_true rfl, Nat.le_of_ble_eq_true rfl⟩) ⟨pcW_bl, va_recv hK hPc (ci := 6) (q0 := 0) rfl rfl, fun U hU hW => ⟨rfl, by rw [hU], by rw [hU]; exact hPc, va_K.moved hW.alike hK, hDc.weaken (fun _ _ _ _ => trivial)⟩⟩ rfl rfl hl.1 rfl (lv_room (Nat.le_of_ble_eq_true rfl)) dX6_difference_6 ⟨Nat.le_of_ble_eq_true rfl, Nat.le_of_ble_eq_true rfl⟩) hS (fun q _ h => hFc q h) hFc (fun r_1 u t H locs ht hvm hw hB hz1 hk1 hS => ?_)
  try dsimp only at hw
  obtain ⟨u0_1, rfl⟩ : ∃ z, z = u := ⟨_, rfl⟩
  obtain ⟨hr_1, hu0_1⟩ := hw
  obtain ⟨hP1, hK1, hD1⟩ := hB
  rw [ht] at hP1
  obtain ⟨hP, hD⟩ := va_join (wr := []) (w1 := [((q 0), .inr (6, [.ref (q 1), .ref (q 2), .int on, .int hm, .int aw, .int tk, .ref (q 3), .ref (q 4), .ref (q 5), .int (nI sn), .ref (q 6), .ref (q 7), .ref (q 8), .ref (q 9), .int (nI kn), .ref (q 10), .ref (q 11), .ref (q 12), .ref (q 13), .ref (q 14), .ref (q 15), .ref (q 16), .ref (q 17), .int u0_1])), ((q 16), .inl (cI, 6, .inl df))]) hP hD [0, 1] [] rfl rfl (by decide) (by decide) hk1 hFc hP1 hD1
  obtain rfl := hu0_1.symm
  have hP : va_P D vwCl [((q 0), .inr (6, [.ref (q 1), .ref (q 2), .int on, .int hm, .int aw, .int tk, .ref (q 3), .ref (q 4), .ref (q 5), .int (nI sn), .ref (q 6), .ref (q 7), .ref (q 8), .ref (q 9), .int (nI kn), .ref (q 10), .ref (q 11), .ref (q 12), .ref (q 13), .ref (q 14), .ref (q 15), .ref (q 16), .ref (q 17), .int (g_th_X6_of on hm aw tk sn kn th df p1)])), ((q 16), .inl (cI, 6, .inl df))] H := hP
  have hD : va_D A [((q 0), .inr (6, [.ref (q 1), .ref (q 2), .int on, .int hm, .int aw, .int tk, .ref (q 3), .ref (q 4), .ref (q 5), .int (nI sn), .ref (q 6), .ref (q 7), .ref (q 8), .ref (q 9), .int (nI kn), .ref (q 10), .ref (q 11), .ref (q 12), .ref (q 13), .ref (q 14), .ref (q 15), .ref (q 16), .ref (q 17), .int (g_th_X6_of on hm aw tk sn kn th df p1)])), ((q 16), .inl (cI, 6, .inl df))] := hD
  obtain rfl := hr_1.symm
  refine W.widen (k := 0) (n := 0) (Nat.le_refl _) (Nat.le_refl _) ?_
  have hP9 := hP.sub (ws' := [((q 0), .inr (6, [.ref (q 1), .ref (q 2), .int on, .int hm, .int aw, .int tk, .ref (q 3), .ref (q 4), .ref (q 5), .int (nI sn), .ref (q 6), .ref (q 7), .ref (q 8), .ref (q 9), .int (nI kn), .ref (q 10), .ref (q 11), .ref (q 12), .ref (q 13), .ref (q 14), .ref (q 15), .ref (q 16), .ref (q 17), .int (g_th_X6_of on hm aw tk sn kn th df p1)])), ((q 16), .inl (cI, 6, .inl df))]) [0, 1] rfl
  have hD9 := hD.sub (ws' := [((q 0), .inr (6, [.ref (q 1), .ref (q 2), .int on, .int hm, .int aw, .int tk, .ref (q 3), .ref (q 4), .ref (q 5), .int (nI sn), .ref (q 6), .ref (q 7), .ref (q 8), .ref (q 9), .int (nI kn), .ref (q 10), .ref (q 11), .ref (q 12), .ref (q 13), .ref (q 14), .ref (q 15), .ref (q 16), .ref (q 17), .int (g_th_X6_of on hm aw tk sn kn th df p1)])), ((q 16), .inl (cI, 6, .inl df))]) [0, 1] (by decide) rfl
  -- leaf 0
  refine W.widen (k := 0) (n := 0) (Nat.le_refl _) (Nat.le_refl _) ?_
  exact W.iret (v := f_X6_of on hm aw tk sn kn th df p1) hx hb hr (fun t ht hW => ⟨⟨f_X6_of on hm aw tk sn kn th df p1, ((g_th_X6_of on hm aw tk sn kn th df p1)), rfl, ⟨rfl, rfl⟩, by rw [ht]; exact hP9, va_K.moved hW.alike hK, hD9⟩, hS.F ht⟩) hS.2.2 dX6_difference_9

noncomputable def plM (on hm aw tk : Int32) (sn kn : Nat) (pt df wv : Nat → Int32) (p1 : Int32) : Nat → Int32
  | 0 => 1
  | n + 1 => if nI n = p1 then plM on hm aw tk sn kn pt df wv p1 n + 0 else if f_X6_isAhead on hm aw tk sn kn pt df wv 0 (nI n) p1 = 0 then plM on hm aw tk sn kn pt df wv p1 n + 0 else plM on hm aw tk sn kn pt df wv p1 n + 1
termination_by n => n
noncomputable def f_X6_place (on : Int32) (hm : Int32) (aw : Int32) (tk : Int32) (sn : Nat) (kn : Nat) (pt : Nat → Int32) (df : Nat → Int32) (wv : Nat → Int32) (th : Int32) (p1 : Int32) : Int32 := if (f_X6_isIn p1 0 5) = 0 then 0 else (plM on hm aw tk sn kn pt df wv p1 6)
noncomputable def g_th_X6_place (on : Int32) (hm : Int32) (aw : Int32) (tk : Int32) (sn : Nat) (kn : Nat) (pt : Nat → Int32) (df : Nat → Int32) (wv : Nat → Int32) (th : Int32) (p1 : Int32) : Int32 := if (f_X6_isIn p1 0 5) = 0 then 1 else 0
set_option maxHeartbeats 4000000 in
set_option maxRecDepth 100000 in
theorem c_X6_place (l : Launch) (D : va_G) (cI cZ cJ cA : ClassId) (sz : Nat) (q : Nat → Nat) (on : Int32) (hm : Int32) (aw : Int32) (tk : Int32) (sn : Nat) (kn : Nat) (pt : Nat → Int32) (df : Nat → Int32) (wv : Nat → Int32) (th : Int32) (p1 : Int32) : Met l yX6_place wsX6_place ({ frames := 2, cells := 0, slots := 0, locals := 42 } : Room) (va_Pc [.ref (q 0), .int p1] (pcW D (tyL cI cZ cJ cA) [((q 0), .inr (6, [.ref (q 1), .ref (q 2), .int on, .int hm, .int aw, .int tk, .ref (q 3), .ref (q 4), .ref (q 5), .int (nI sn), .ref (q 6), .ref (q 7), .ref (q 8), .ref (q 9), .int (nI kn), .ref (q 10), .ref (q 11), .ref (q 12), .ref (q 13), .ref (q 14), .ref (q 15), .ref (q 16), .ref (q 17), .int th])), ((q 14), .inl (cI, 6, .inl pt)), ((q 16), .inl (cI, 6, .inl df)), ((q 17), .inl (cI, 36, .inl wv))] sz)) (va_Qi (fun (r : Int32) (u : (Int32)) => r = f_X6_place on hm aw tk sn kn pt df wv th p1 ∧ u = g_th_X6_place on hm aw tk sn kn pt df wv th p1) (fun u t => bcW D (tyL cI cZ cJ cA) (va_A [((q 0), .inr (6, [.ref (q 1), .ref (q 2), .int on, .int hm, .int aw, .int tk, .ref (q 3), .ref (q 4), .ref (q 5), .int (nI sn), .ref (q 6), .ref (q 7), .ref (q 8), .ref (q 9), .int (nI kn), .ref (q 10), .ref (q 11), .ref (q 12), .ref (q 13), .ref (q 14), .ref (q 15), .ref (q 16), .ref (q 17), .int th])), ((q 14), .inl (cI, 6, .inl pt)), ((q 16), .inl (cI, 6, .inl df)), ((q 17), .inl (cI, 36, .inl wv))] sz) [((q 0), .inr (6, [.ref (q 1), .ref (q 2), .int on, .int hm, .int aw, .int tk, .ref (q 3), .ref (q 4), .ref (q 5), .int (nI sn), .ref (q 6), .ref (q 7), .ref (q 8), .ref (q 9), .int (nI kn), .ref (q 10), .ref (q 11), .ref (q 12), .ref (q 13), .ref (q 14), .ref (q 15), .ref (q 16), .ref (q 17), .int u])), ((q 14), .inl (cI, 6, .inl pt)), ((q 16), .inl (cI, 6, .inl df)), ((q 17), .inl (cI, 36, .inl wv))] t) (va_A [((q 0), .inr (6, [.ref (q 1), .ref (q 2), .int on, .int hm, .int aw, .int tk, .ref (q 3), .ref (q 4), .ref (q 5), .int (nI sn), .ref (q 6), .ref (q 7), .ref (q 8), .ref (q 9), .int (nI kn), .ref (q 10), .ref (q 11), .ref (q 12), .ref (q 13), .ref (q 14), .ref (q 15), .ref (q 16), .ref (q 17), .int th])), ((q 14), .inl (cI, 6, .inl pt)), ((q 16), .inl (cI, 6, .inl df)), ((q 17), .inl (cI, 36, .inl wv))] sz)) 0 0 (va_A [((q 0), .inr (6, [.ref (q 1), .ref (q 2), .int on, .int hm, .int aw, .int tk, .ref (q 3), .ref (q 4), .ref (q 5), .int (nI sn), .ref (q 6), .ref (q 7), .ref (q 8), .ref (q 9), .int (nI kn), .ref (q 10), .ref (q 11), .ref (q 12), .ref (q 13), .ref (q 14), .ref (q 15), .ref (q 16), .ref (q 17), .int th])), ((q 14), .inl (cI, 6, .inl pt)), ((q 16), .inl (cI, 6, .inl df)), ((q 17), .inl (cI, 36, .inl wv))] sz) := by
  refine Met.ofW (cc := cX6_place) (maxL := 4) (ret := (some .int)) (by decide) rfl ?_
  intro p e s m args below meth c s₁ B hml hv
  obtain ⟨rfl, hsz, hP, hK, hD0⟩ := hv
  have hx := B.exec
  have hb := B.bytes
  have hr := B.returns
  have hts := atoms_spec (ws := wsX6_place) B.pre
  have hown : s.vm.findClass RX6 = some m.cls := findClass_of_methodNamed B.named
  have hlocks := B.notSynchronized
  subst hsz
  have hD := hD0.self (sz := s.heap.size)
  generalize hAe : va_A [((q 0), .inr (6, [.ref (q 1), .ref (q 2), .int on, .int hm, .int aw, .int tk, .ref (q 3), .ref (q 4), .ref (q 5), .int (nI sn), .ref (q 6), .ref (q 7), .ref (q 8), .ref (q 9), .int (nI kn), .ref (q 10), .ref (q 11), .ref (q 12), .ref (q 13), .ref (q 14), .ref (q 15), .ref (q 16), .ref (q 17), .int th])), ((q 14), .inl (cI, 6, .inl pt)), ((q 16), .inl (cI, 6, .inl df)), ((q 17), .inl (cI, 36, .inl wv))] s.heap.size = A at hD ⊢
  have hA : ∀ q : Nat, s.heap.size ≤ q → A q := fun q h => by rw [← hAe]; exact Or.inr h
  have hAR : ∀ q : Nat, s.heap.size ≤ q → (fun q : Nat => s.heap.size ≤ q) q := fun _ h => h
  have hS : va_S A s.heap s.heap [] := va_S.rf
  have hP : va_P D vwCl [((q 0), .inr (6, [.ref (q 1), .ref (q 2), .int on, .int hm, .int aw, .int tk, .ref (q 3), .ref (q 4), .ref (q 5), .int (nI sn), .ref (q 6), .ref (q 7), .ref (q 8), .ref (q 9), .int (nI kn), .ref (q 10), .ref (q 11), .ref (q 12), .ref (q 13), .ref (q 14), .ref (q 15), .ref (q 16), .ref (q 17), .int th])), ((q 14), .inl (cI, 6, .inl pt)), ((q 16), .inl (cI, 6, .inl df)), ((q 17), .inl (cI, 36, .inl wv))] s.heap := hP
  have hl := lv_entry ([.ref (q 0), .int p1]) (n := 4) (Nat.le_of_ble_eq_true rfl)
  rw [lg_entry_eq]
  generalize (lg_sl ([.ref (q 0), .int p1]) ++ List.replicate (4 - (lg_sl ([.ref (q 0), .int p1])).length) Slot.unset).toArray = ls at hl ⊢
  have hl : lv_has ls 4 [(0, .ref (q 0)), (1, .int p1)] := hl
  refine lv_aload_n hx hb dX6_place_0 rfl (lv_at hl 0 rfl) ?_
  refine lv_iload_n hx hb dX6_place_1 rfl (lv_at hl 1 rfl) ?_
  have hPc := hP.sub (ws' := []) [] rfl
  refine va_calli (va_runS (As := [.int p1]) (rest := [.ref (q 0)]) ⟨hx, hb, hml, hown, hts⟩ (c_X6_isTeam l D cI cZ cJ cA s.heap.size p1) (va_cwS 1 hts gX6_place_X6_isTeam rfl rfl rfl (by decide +kernel) ⟨Nat.le_of_ble_eq_true rfl, Nat.le_of_ble_eq_true rfl⟩) ⟨pcR_bl, fun U hU hW => ⟨rfl, by rw [hU], by rw [hU]; exact hPc, va_K.moved hW.alike hK⟩⟩ rfl rfl hl.1 rfl (lv_room (Nat.le_of_ble_eq_true rfl)) dX6_place_2 ⟨Nat.le_of_ble_eq_true rfl, Nat.le_of_ble_eq_true rfl⟩) hS (fun _ h1 h2 => absurd h1 (Nat.not_lt.mpr h2)) (rd_free hS hA) (fun r_1 u t H locs ht hvm hw hB hz1 hk1 hS => ?_)
  try dsimp only at hw
  have hr_1 := hw
  have hP := rd_P hP hk1
  obtain rfl := hr_1.symm
  refine W.widen (k := 0) (n := 0) (Nat.le_refl _) (Nat.le_refl _) ?_
  refine lv_if_eq (tgt := 12) hx hb dX6_place_5 (by decide) (fun c_2 => ?_) (fun c_2 => ?_)
  · refine lv_iconst (v := 1) hx hb dX6_place_12 (by decide) ?_
    have hPc := hP.sub (ws' := [((q 0), .inr (6, [.ref (q 1), .ref (q 2), .int on, .int hm, .int aw, .int tk, .ref (q 3), .ref (q 4), .ref (q 5), .int (nI sn), .ref (q 6), .ref (q 7), .ref (q 8), .ref (q 9), .int (nI kn), .ref (q 10), .ref (q 11), .ref (q 12), .ref (q 13), .ref (q 14), .ref (q 15), .ref (q 16), .ref (q 17), .int th]))]) [0] rfl
    have hDc := hD.sub (ws' := [((q 0), .inr (6, [.ref (q 1), .ref (q 2), .int on, .int hm, .int aw, .int tk, .ref (q 3), .ref (q 4), .ref (q 5), .int (nI sn), .ref (q 6), .ref (q 7), .ref (q 8), .ref (q 9), .int (nI kn), .ref (q 10), .ref (q 11), .ref (q 12), .ref (q 13), .ref (q 14), .ref (q 15), .ref (q 16), .ref (q 17), .int th]))]) [0] (by decide) rfl
    have hFc := va_free (wc := [((q 0), .inr (6, [.ref (q 1), .ref (q 2), .int on, .int hm, .int aw, .int tk, .ref (q 3), .ref (q 4), .ref (q 5), .int (nI sn), .ref (q 6), .ref (q 7), .ref (q 8), .ref (q 9), .int (nI kn), .ref (q 10), .ref (q 11), .ref (q 12), .ref (q 13), .ref (q 14), .ref (q 15), .ref (q 16), .ref (q 17), .int th]))]) hD hS hA [0] rfl
    refine va_calli (va_runV (As := [.int 1]) (rest := []) ⟨hx, hb, hml, hown, hts⟩ (c_X6_fails l D cI cZ cJ cA H.size q on hm aw tk sn kn th 1) (cwV 1 hts gX6_place_X6_fails rfl rfl rfl (by decide +kernel) ⟨Nat.le_of_ble_eq_true rfl, Nat.le_of_ble_eq_true rfl⟩) ⟨pcW_bl, va_recv hK hPc (ci := 6) (q0 := 0) rfl rfl, fun U hU hW => ⟨rfl, by rw [hU], by rw [hU]; exact hPc, va_K.moved hW.alike hK, hDc.weaken (fun _ _ _ _ => trivial)⟩⟩ rfl rfl hl.1 rfl (lv_room (Nat.le_of_ble_eq_true rfl)) dX6_place_13 ⟨Nat.le_of_ble_eq_true rfl, Nat.le_of_ble_eq_true rfl⟩) hS (fun q _ h => hFc q h) hFc (fun r_3 u t H locs ht hvm hw hB hz1 hk1 hS => ?_)
    try dsimp only at hw
    obtain ⟨u0_3, rfl⟩ : ∃ z, z = u := ⟨_, rfl⟩
    obtain ⟨hr_3, hu0_3⟩ := hw
    obtain ⟨hP1, hK1, hD1⟩ := hB
    rw [ht] at hP1
    obtain ⟨hP, hD⟩ := va_join (wr := [((q 14), .inl (cI, 6, .inl pt)), ((q 16), .inl (cI, 6, .inl df)), ((q 17), .inl (cI, 36, .inl wv))]) (w1 := [((q 0), .inr (6, [.ref (q 1), .ref (q 2), .int on, .int hm, .int aw, .int tk, .ref (q 3), .ref (q 4), .ref (q 5), .int (nI sn), .ref (q 6), .ref (q 7), .ref (q 8), .ref (q 9), .int (nI kn), .ref (q 10), .ref (q 11), .ref (q 12), .ref (q 13), .ref (q 14), .ref (q 15), .ref (q 16), .ref (q 17), .int u0_3]))]) hP hD [0] [1, 2, 3] rfl rfl (by decide) (by decide) hk1 hFc hP1 hD1
    obtain rfl := hu0_3.symm
    have hP : va_P D vwCl [((q 14), .inl (cI, 6, .inl pt)), ((q 16), .inl (cI, 6, .inl df)), ((q 17), .inl (cI, 36, .inl wv)), ((q 0), .inr (6, [.ref (q 1), .ref (q 2), .int on, .int hm, .int aw, .int tk, .ref (q 3), .ref (q 4), .ref (q 5), .int (nI sn), .ref (q 6), .ref (q 7), .ref (q 8), .ref (q 9), .int (nI kn), .ref (q 10), .ref (q 11), .ref (q 12), .ref (q 13), .ref (q 14), .ref (q 15), .ref (q 16), .ref (q 17), .int 1]))] H := hP
    have hD : va_D A [((q 14), .inl (cI, 6, .inl pt)), ((q 16), .inl (cI, 6, .inl df)), ((q 17), .inl (cI, 36, .inl wv)), ((q 0), .inr (6, [.ref (q 1), .ref (q 2), .int on, .int hm, .int aw, .int tk, .ref (q 3), .ref (q 4), .ref (q 5), .int (nI sn), .ref (q 6), .ref (q 7), .ref (q 8), .ref (q 9), .int (nI kn), .ref (q 10), .ref (q 11), .ref (q 12), .ref (q 13), .ref (q 14), .ref (q 15), .ref (q 16), .ref (q 17), .int 1]))] := hD
    obtain rfl := hr_3.symm
    refine W.widen (k := 0) (n := 0) (Nat.le_refl _) (Nat.le_refl _) ?_
    refine tp_eq (y := 1) rfl ?_
    refine lv_if_eq (tgt := 21) hx hb dX6_place_16 (by decide) (fun c_4 => absurd c_4 (by decide)) (fun _ => ?_)
    refine lv_iconst (v := 0) hx hb dX6_place_19 (by decide) ?_
    have hP9 := hP.sub (ws' := [((q 0), .inr (6, [.ref (q 1), .ref (q 2), .int on, .int hm, .int aw, .int tk, .ref (q 3), .ref (q 4), .ref (q 5), .int (nI sn), .ref (q 6), .ref (q 7), .ref (q 8), .ref (q 9), .int (nI kn), .ref (q 10), .ref (q 11), .ref (q 12), .ref (q 13), .ref (q 14), .ref (q 15), .ref (q 16), .ref (q 17), .int 1])), ((q 14), .inl (cI, 6, .inl pt)), ((q 16), .inl (cI, 6, .inl df)), ((q 17), .inl (cI, 36, .inl wv))]) [3, 0, 1, 2] rfl
    have hD9 := hD.sub (ws' := [((q 0), .inr (6, [.ref (q 1), .ref (q 2), .int on, .int hm, .int aw, .int tk, .ref (q 3), .ref (q 4), .ref (q 5), .int (nI sn), .ref (q 6), .ref (q 7), .ref (q 8), .ref (q 9), .int (nI kn), .ref (q 10), .ref (q 11), .ref (q 12), .ref (q 13), .ref (q 14), .ref (q 15), .ref (q 16), .ref (q 17), .int 1])), ((q 14), .inl (cI, 6, .inl pt)), ((q 16), .inl (cI, 6, .inl df)), ((q 17), .inl (cI, 36, .inl wv))]) [3, 0, 1, 2] (by decide) rfl
    -- leaf 0
    refine W.widen (k := 0) (n := 0) (Nat.le_refl _) (Nat.le_refl _) ?_
    exact W.iret (v := 0) hx hb hr (fun t ht hW => ⟨⟨0, (1), rfl, ⟨(by rw [f_X6_place, if_pos c_2]), (by rw [g_th_X6_place, if_pos c_2])⟩, by rw [ht]; exact hP9, va_K.moved hW.alike hK, hD9⟩, hS.F ht⟩) hS.2.2 dX6_place_20
  · have hvc_2 : vp_in p1 6 := isIn_vp (N := 6) c_2
    refine lv_iconst (v := 0) hx hb dX6_place_8 (by decide) ?_
    refine lv_goto (tgt := 13) hx hb dX6_place_9 (by decide) ?_
    have hPc := hP.sub (ws' := [((q 0), .inr (6, [.ref (q 1), .ref (q 2), .int on, .int hm, .int aw, .int tk, .ref (q 3), .ref (q 4), .ref (q 5), .int (nI sn), .ref (q 6), .ref (q 7), .ref (q 8), .ref (q 9), .int (nI kn), .ref (q 10), .ref (q 11), .ref (q 12), .ref (q 13), .ref (q 14), .ref (q 15), .ref (q 16), .ref (q 17), .int th]))]) [0] rfl
    have hDc := hD.sub (ws' := [((q 0), .inr (6, [.ref (q 1), .ref (q 2), .int on, .int hm, .int aw, .int tk, .ref (q 3), .ref (q 4), .ref (q 5), .int (nI sn), .ref (q 6), .ref (q 7), .ref (q 8), .ref (q 9), .int (nI kn), .ref (q 10), .ref (q 11), .ref (q 12), .ref (q 13), .ref (q 14), .ref (q 15), .ref (q 16), .ref (q 17), .int th]))]) [0] (by decide) rfl
    have hFc := va_free (wc := [((q 0), .inr (6, [.ref (q 1), .ref (q 2), .int on, .int hm, .int aw, .int tk, .ref (q 3), .ref (q 4), .ref (q 5), .int (nI sn), .ref (q 6), .ref (q 7), .ref (q 8), .ref (q 9), .int (nI kn), .ref (q 10), .ref (q 11), .ref (q 12), .ref (q 13), .ref (q 14), .ref (q 15), .ref (q 16), .ref (q 17), .int th]))]) hD hS hA [0] rfl
    refine va_calli (va_runV (As := [.int 0]) (rest := []) ⟨hx, hb, hml, hown, hts⟩ (c_X6_fails l D cI cZ cJ cA H.size q on hm aw tk sn kn th 0) (cwV 1 hts gX6_place_X6_fails rfl rfl rfl (by decide +kernel) ⟨Nat.le_of_ble_eq_true rfl, Nat.le_of_ble_eq_true rfl⟩) ⟨pcW_bl, va_recv hK hPc (ci := 6) (q0 := 0) rfl rfl, fun U hU hW => ⟨rfl, by rw [hU], by rw [hU]; exact hPc, va_K.moved hW.alike hK, hDc.weaken (fun _ _ _ _ => trivial)⟩⟩ rfl rfl hl.1 rfl (lv_room (Nat.le_of_ble_eq_true rfl)) dX6_place_13 ⟨Nat.le_of_ble_eq_true rfl, Nat.le_of_ble_eq_true rfl⟩) hS (fun q _ h => hFc q h) hFc (fun r_5 u t H locs ht hvm hw hB hz1 hk1 hS => ?_)
    try dsimp only at hw
    obtain ⟨u0_5, rfl⟩ : ∃ z, z = u := ⟨_, rfl⟩
    obtain ⟨hr_5, hu0_5⟩ := hw
    obtain ⟨hP1, hK1, hD1⟩ := hB
    rw [ht] at hP1
    obtain ⟨hP, hD⟩ := va_join (wr := [((q 14), .inl (cI, 6, .inl pt)), ((q 16), .inl (cI, 6, .inl df)), ((q 17), .inl (cI, 36, .inl wv))]) (w1 := [((q 0), .inr (6, [.ref (q 1), .ref (q 2), .int on, .int hm, .int aw, .int tk, .ref (q 3), .ref (q 4), .ref (q 5), .int (nI sn), .ref (q 6), .ref (q 7), .ref (q 8), .ref (q 9), .int (nI kn), .ref (q 10), .ref (q 11), .ref (q 12), .ref (q 13), .ref (q 14), .ref (q 15), .ref (q 16), .ref (q 17), .int u0_5]))]) hP hD [0] [1, 2, 3] rfl rfl (by decide) (by decide) hk1 hFc hP1 hD1
    obtain rfl := hu0_5.symm
    have hP : va_P D vwCl [((q 14), .inl (cI, 6, .inl pt)), ((q 16), .inl (cI, 6, .inl df)), ((q 17), .inl (cI, 36, .inl wv)), ((q 0), .inr (6, [.ref (q 1), .ref (q 2), .int on, .int hm, .int aw, .int tk, .ref (q 3), .ref (q 4), .ref (q 5), .int (nI sn), .ref (q 6), .ref (q 7), .ref (q 8), .ref (q 9), .int (nI kn), .ref (q 10), .ref (q 11), .ref (q 12), .ref (q 13), .ref (q 14), .ref (q 15), .ref (q 16), .ref (q 17), .int 0]))] H := hP
    have hD : va_D A [((q 14), .inl (cI, 6, .inl pt)), ((q 16), .inl (cI, 6, .inl df)), ((q 17), .inl (cI, 36, .inl wv)), ((q 0), .inr (6, [.ref (q 1), .ref (q 2), .int on, .int hm, .int aw, .int tk, .ref (q 3), .ref (q 4), .ref (q 5), .int (nI sn), .ref (q 6), .ref (q 7), .ref (q 8), .ref (q 9), .int (nI kn), .ref (q 10), .ref (q 11), .ref (q 12), .ref (q 13), .ref (q 14), .ref (q 15), .ref (q 16), .ref (q 17), .int 0]))] := hD
    obtain rfl := hr_5.symm
    refine W.widen (k := 0) (n := 0) (Nat.le_refl _) (Nat.le_refl _) ?_
    refine tp_eq (y := 0) rfl ?_
    refine lv_if_eq (tgt := 21) hx hb dX6_place_16 (by decide) (fun _ => ?_) (fun c_6 => absurd (by decide) c_6)
    refine lv_iconst (v := 1) hx hb dX6_place_21 (by decide) ?_
    refine lv_istore_n (lv' := [(2, .int 1), (0, .ref (q 0)), (1, .int p1)]) hx hb dX6_place_22 rfl hl (by decide) rfl (fun ls hl => ?_)
    refine lv_iconst (v := 0) hx hb dX6_place_23 (by decide) ?_
    refine lv_istore_n (lv' := [(3, .int 0), (2, .int 1), (0, .ref (q 0)), (1, .int p1)]) hx hb dX6_place_24 rfl hl (by decide) rfl (fun ls hl => ?_)
    refine lpW (σ := (Nat) × (Int32)) (I := fun x H locs ls => va_P D vwCl [((q 14), .inl (cI, 6, .inl pt)), ((q 16), .inl (cI, 6, .inl df)), ((q 17), .inl (cI, 36, .inl wv)), ((q 0), .inr (6, [.ref (q 1), .ref (q 2), .int on, .int hm, .int aw, .int tk, .ref (q 3), .ref (q 4), .ref (q 5), .int (nI sn), .ref (q 6), .ref (q 7), .ref (q 8), .ref (q 9), .int (nI kn), .ref (q 10), .ref (q 11), .ref (q 12), .ref (q 13), .ref (q 14), .ref (q 15), .ref (q 16), .ref (q 17), .int 0]))] H ∧ va_D A [((q 14), .inl (cI, 6, .inl pt)), ((q 16), .inl (cI, 6, .inl df)), ((q 17), .inl (cI, 36, .inl wv)), ((q 0), .inr (6, [.ref (q 1), .ref (q 2), .int on, .int hm, .int aw, .int tk, .ref (q 3), .ref (q 4), .ref (q 5), .int (nI sn), .ref (q 6), .ref (q 7), .ref (q 8), .ref (q 9), .int (nI kn), .ref (q 10), .ref (q 11), .ref (q 12), .ref (q 13), .ref (q 14), .ref (q 15), .ref (q 16), .ref (q 17), .int 0]))] ∧ va_S A s.heap H locs ∧ lv_has ls 4 [(0, .ref (q 0)), (1, .int p1), (2, .int x.2), (3, .int (nI x.1))] ∧ (x.1 ≤ 6) ∧ (x.2 = plM on hm aw tk sn kn pt df wv p1 x.1)) (μ := fun x => 6 - x.1) ?_ (0, 1) ⟨hP, hD, hS, lv_sub hl [2, 3, 1, 0] rfl, (Nat.zero_le _), (by simp only [plM])⟩
    intro x H locs ls hI ih
    obtain ⟨i, c2⟩ := x
    obtain ⟨hP, hD, hS, hl, hq_hi1, hq_hc⟩ := hI
    have ih_25 := ih
    have hl : lv_has ls 4 [(0, .ref (q 0)), (1, .int p1), (2, .int c2), (3, .int (nI i))] := hl
    have hP : va_P D vwCl [((q 14), .inl (cI, 6, .inl pt)), ((q 16), .inl (cI, 6, .inl df)), ((q 17), .inl (cI, 36, .inl wv)), ((q 0), .inr (6, [.ref (q 1), .ref (q 2), .int on, .int hm, .int aw, .int tk, .ref (q 3), .ref (q 4), .ref (q 5), .int (nI sn), .ref (q 6), .ref (q 7), .ref (q 8), .ref (q 9), .int (nI kn), .ref (q 10), .ref (q 11), .ref (q 12), .ref (q 13), .ref (q 14), .ref (q 15), .ref (q 16), .ref (q 17), .int 0]))] H := hP
    have hD : va_D A [((q 14), .inl (cI, 6, .inl pt)), ((q 16), .inl (cI, 6, .inl df)), ((q 17), .inl (cI, 36, .inl wv)), ((q 0), .inr (6, [.ref (q 1), .ref (q 2), .int on, .int hm, .int aw, .int tk, .ref (q 3), .ref (q 4), .ref (q 5), .int (nI sn), .ref (q 6), .ref (q 7), .ref (q 8), .ref (q 9), .int (nI kn), .ref (q 10), .ref (q 11), .ref (q 12), .ref (q 13), .ref (q 14), .ref (q 15), .ref (q 16), .ref (q 17), .int 0]))] := hD
    have hi1 : i ≤ 6 := hq_hi1
    have hc : c2 = plM on hm aw tk sn kn pt df wv p1 i := hq_hc
    clear hq_hi1 hq_hc
    refine lv_iload_n hx hb dX6_place_25 rfl (lv_at hl 3 rfl) ?_
    refine lv_bipush (v := 6) hx hb dX6_place_26 (by decide) ?_
    refine lv_icmp_ge (tgt := 59) hx hb dX6_place_28 (by decide) (fun c_7 => ?_) (fun c_7 => ?_)
    · have he_28 : i = 6 := bd_eq (N := 6) (by decide) hi1 c_7
      rw [he_28] at hc
      obtain rfl := hc.symm
      refine lv_iload_n hx hb dX6_place_59 rfl (lv_at hl 2 rfl) ?_
      have hP9 := hP.sub (ws' := [((q 0), .inr (6, [.ref (q 1), .ref (q 2), .int on, .int hm, .int aw, .int tk, .ref (q 3), .ref (q 4), .ref (q 5), .int (nI sn), .ref (q 6), .ref (q 7), .ref (q 8), .ref (q 9), .int (nI kn), .ref (q 10), .ref (q 11), .ref (q 12), .ref (q 13), .ref (q 14), .ref (q 15), .ref (q 16), .ref (q 17), .int 0])), ((q 14), .inl (cI, 6, .inl pt)), ((q 16), .inl (cI, 6, .inl df)), ((q 17), .inl (cI, 36, .inl wv))]) [3, 0, 1, 2] rfl
      have hD9 := hD.sub (ws' := [((q 0), .inr (6, [.ref (q 1), .ref (q 2), .int on, .int hm, .int aw, .int tk, .ref (q 3), .ref (q 4), .ref (q 5), .int (nI sn), .ref (q 6), .ref (q 7), .ref (q 8), .ref (q 9), .int (nI kn), .ref (q 10), .ref (q 11), .ref (q 12), .ref (q 13), .ref (q 14), .ref (q 15), .ref (q 16), .ref (q 17), .int 0])), ((q 14), .inl (cI, 6, .inl pt)), ((q 16), .inl (cI, 6, .inl df)), ((q 17), .inl (cI, 36, .inl wv))]) [3, 0, 1, 2] (by decide) rfl
      -- leaf 1
      refine W.widen (k := 0) (n := 0) (Nat.le_refl _) (Nat.le_refl _) ?_
      exact W.iret (v := (plM on hm aw tk sn kn pt df wv p1 6)) hx hb hr (fun t ht hW => ⟨⟨(plM on hm aw tk sn kn pt df wv p1 6), (0), rfl, ⟨(by rw [f_X6_place, if_neg c_2]), (by rw [g_th_X6_place, if_neg c_2])⟩, by rw [ht]; exact hP9, va_K.moved hW.alike hK, hD9⟩, hS.F ht⟩) hS.2.2 dX6_place_60
    · have hlt_28 : i < 6 := bd_lt (N := 6) (by decide) hi1 c_7
      refine lv_iload_n hx hb dX6_place_31 rfl (lv_at hl 2 rfl) ?_
      refine lv_iload_n hx hb dX6_place_32 rfl (lv_at hl 3 rfl) ?_
      refine lv_iload_n hx hb dX6_place_33 rfl (lv_at hl 1 rfl) ?_
      refine lv_icmp_eq (tgt := 50) hx hb dX6_place_34 (by decide) (fun c_8 => ?_) (fun c_8 => ?_)
      · refine lv_iconst (v := 0) hx hb dX6_place_50 (by decide) ?_
        refine lv_iadd hx hb dX6_place_51 ?_
        refine lv_istore_n (lv' := [(2, .int (c2 + 0)), (0, .ref (q 0)), (1, .int p1), (3, .int (nI i))]) hx hb dX6_place_52 rfl hl (by decide) rfl (fun ls hl => ?_)
        refine lv_iinc (v := nI (i + 1)) (lv' := [(3, .int (nI (i + 1))), (2, .int (c2 + 0)), (0, .ref (q 0)), (1, .int p1)]) hx hb dX6_place_53 hl (k := 3) rfl (nI_1 i) (by decide) rfl (fun ls hl => ?_)
        refine lv_goto (tgt := 25) hx hb dX6_place_56 (by decide) ?_
        refine W.widen (k := 0) (n := 0) (Nat.le_refl _) (Nat.le_refl _) ?_
        exact ih_25 ((i + 1), c2 + 0) _ _ _ (by first | omega | (dsimp only; omega)) ⟨hP, hD, hS, lv_sub hl [2, 3, 1, 0] rfl, (by omega), (by rw [plM, if_pos c_8, ← hc])⟩
      · refine lv_aload_n hx hb dX6_place_37 rfl (lv_at hl 0 rfl) ?_
        refine lv_iload_n hx hb dX6_place_38 rfl (lv_at hl 3 rfl) ?_
        refine lv_iload_n hx hb dX6_place_39 rfl (lv_at hl 1 rfl) ?_
        have hPc := hP.sub (ws' := [((q 0), .inr (6, [.ref (q 1), .ref (q 2), .int on, .int hm, .int aw, .int tk, .ref (q 3), .ref (q 4), .ref (q 5), .int (nI sn), .ref (q 6), .ref (q 7), .ref (q 8), .ref (q 9), .int (nI kn), .ref (q 10), .ref (q 11), .ref (q 12), .ref (q 13), .ref (q 14), .ref (q 15), .ref (q 16), .ref (q 17), .int 0])), ((q 14), .inl (cI, 6, .inl pt)), ((q 16), .inl (cI, 6, .inl df)), ((q 17), .inl (cI, 36, .inl wv))]) [3, 0, 1, 2] rfl
        refine va_calli (va_runV (As := [.int (nI i), .int p1]) (rest := [.int c2]) ⟨hx, hb, hml, hown, hts⟩ (c_X6_isAhead l D cI cZ cJ cA H.size q on hm aw tk sn kn pt df wv 0 (nI i) p1 (vp_in_nI (n := i) (by omega) (by decide)) (by assumption)) (cwV 2 hts gX6_place_X6_isAhead rfl rfl rfl (by decide +kernel) ⟨Nat.le_of_ble_eq_true rfl, Nat.le_of_ble_eq_true rfl⟩) ⟨pcR_bl, va_recv hK hPc (ci := 6) (q0 := 0) rfl rfl, fun U hU hW => ⟨rfl, by rw [hU], by rw [hU]; exact hPc, va_K.moved hW.alike hK⟩⟩ rfl rfl hl.1 rfl (lv_room (Nat.le_of_ble_eq_true rfl)) dX6_place_40 ⟨Nat.le_of_ble_eq_true rfl, Nat.le_of_ble_eq_true rfl⟩) hS (fun _ h1 h2 => absurd h1 (Nat.not_lt.mpr h2)) (rd_free hS hA) (fun r_9 u t H locs ht hvm hw hB hz1 hk1 hS => ?_)
        try dsimp only at hw
        have hr_9 := hw
        have hP := rd_P hP hk1
        obtain rfl := hr_9.symm
        refine W.widen (k := 0) (n := 0) (Nat.le_refl _) (Nat.le_refl _) ?_
        refine lv_if_eq (tgt := 50) hx hb dX6_place_43 (by decide) (fun c_10 => ?_) (fun c_10 => ?_)
        · refine lv_iconst (v := 0) hx hb dX6_place_50 (by decide) ?_
          refine lv_iadd hx hb dX6_place_51 ?_
          refine lv_istore_n (lv' := [(2, .int (c2 + 0)), (0, .ref (q 0)), (1, .int p1), (3, .int (nI i))]) hx hb dX6_place_52 rfl hl (by decide) rfl (fun ls hl => ?_)
          refine lv_iinc (v := nI (i + 1)) (lv' := [(3, .int (nI (i + 1))), (2, .int (c2 + 0)), (0, .ref (q 0)), (1, .int p1)]) hx hb dX6_place_53 hl (k := 3) rfl (nI_1 i) (by decide) rfl (fun ls hl => ?_)
          refine lv_goto (tgt := 25) hx hb dX6_place_56 (by decide) ?_
          refine W.widen (k := 0) (n := 0) (Nat.le_refl _) (Nat.le_refl _) ?_
          exact ih_25 ((i + 1), c2 + 0) _ _ _ (by first | omega | (dsimp only; omega)) ⟨hP, hD, hS, lv_sub hl [2, 3, 1, 0] rfl, (by omega), (by rw [plM, if_neg c_8, if_pos c_10, ← hc])⟩
        · refine lv_iconst (v := 1) hx hb dX6_place_46 (by decide) ?_
          refine lv_goto (tgt := 51) hx hb dX6_place_47 (by decide) ?_
          refine lv_iadd hx hb dX6_place_51 ?_
          refine lv_istore_n (lv' := [(2, .int (c2 + 1)), (0, .ref (q 0)), (1, .int p1), (3, .int (nI i))]) hx hb dX6_place_52 rfl hl (by decide) rfl (fun ls hl => ?_)
          refine lv_iinc (v := nI (i + 1)) (lv' := [(3, .int (nI (i + 1))), (2, .int (c2 + 1)), (0, .ref (q 0)), (1, .int p1)]) hx hb dX6_place_53 hl (k := 3) rfl (nI_1 i) (by decide) rfl (fun ls hl => ?_)
          refine lv_goto (tgt := 25) hx hb dX6_place_56 (by decide) ?_
          refine W.widen (k := 0) (n := 0) (Nat.le_refl _) (Nat.le_refl _) ?_
          exact ih_25 ((i + 1), c2 + 1) _ _ _ (by first | omega | (dsimp only; omega)) ⟨hP, hD, hS, lv_sub hl [2, 3, 1, 0] rfl, (by omega), (by rw [plM, if_neg c_8, if_neg c_10, ← hc])⟩
