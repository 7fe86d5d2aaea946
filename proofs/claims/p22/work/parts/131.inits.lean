set_option maxHeartbeats 4000000 in
set_option maxRecDepth 100000 in
theorem c_X2_init (l : Launch) (D : va_G) (cI cZ cJ cA : ClassId) (sz : Nat) (h0 : Nat) : Met l yX2_init wsX2_init ({ frames := 2, cells := 13, slots := 2476, locals := 40 } : Room) (va_Pc [.ref h0] (pcN (pcW D (tyL cI cZ cJ cA) [(h0, .inr (2, [.int 0, .int 0, .int 0, .null, .null, .null, .null, .null]))] sz) eR)) (va_Qv (fun _ : Unit => True) (fun _ t => ∃ b1 : Nat, ∃ b2 : Nat, ∃ b3 : Nat, ∃ b4 : Nat, ∃ b5 : Nat, ∃ b6 : Nat, ∃ b7 : Nat, ∃ b8 : Nat, ∃ b9 : Nat, ∃ b10 : Nat, ∃ b11 : Nat, ∃ b12 : Nat, ∃ b13 : Nat, bcW D (tyL cI cZ cJ cA) (va_A [(h0, .inr (2, [.int 0, .int 0, .int 0, .null, .null, .null, .null, .null]))] sz) [(h0, .inr (2, [.int 0, .int 0, .int (-1), .ref b1, .ref b2, .ref b3, .ref b4, .ref b9])), (b1, .inl (cI, 6, .inl (fillN (fun _ => 0) (-2) 6))), (b2, .inl (cI, 6, .inl (fillN (fun _ => 0) (-1) 6))), (b3, .inl (cI, 6, .inl (fillN (fun _ => 0) (-1) 6))), (b4, .inr (3, [.int (nI 0), .ref b5, .ref b6, .ref b7, .ref b8])), (b5, .inl (cI, 100, .inl (fun _ => 0))), (b6, .inl (cI, 100, .inl (fun _ => 0))), (b7, .inl (cI, 100, .inl (fun _ => 0))), (b8, .inl (cI, 100, .inl (fun _ => 0))), (b9, .inr (0, [.int (nI 0), .ref b10, .ref b11, .ref b12, .ref b13])), (b10, .inl (cI, 512, .inl (fun _ => 0))), (b11, .inl (cI, 512, .inl (fun _ => 0))), (b12, .inl (cI, 512, .inl (fun _ => 0))), (b13, .inl (cZ, 512, .inl (fun _ => 0)))] t) (va_A [(h0, .inr (2, [.int 0, .int 0, .int 0, .null, .null, .null, .null, .null]))] sz)) 13 2476 (va_A [(h0, .inr (2, [.int 0, .int 0, .int 0, .null, .null, .null, .null, .null]))] sz) := by
  refine Met.ofW (cc := cX2_init) (maxL := 1) (ret := none) (by decide) rfl ?_
  intro p e s m args below meth c s₁ B hml hv
  obtain ⟨rfl, ⟨hsz, hP, hK, hD0⟩, hE⟩ := hv
  have hx := B.exec
  have hb := B.bytes
  have hr := B.returns
  have hts := atoms_spec (ws := wsX2_init) B.pre
  have hown : s.vm.findClass RX2 = some m.cls := findClass_of_methodNamed B.named
  have hlocks := B.notSynchronized
  have hin : meth.name = "<init>" := (name_of_methodNamed B.named B.method).1
  subst hsz
  have hD := hD0.self (sz := s.heap.size)
  generalize hAe : va_A [(h0, .inr (2, [.int 0, .int 0, .int 0, .null, .null, .null, .null, .null]))] s.heap.size = A at hD ⊢
  have hA : ∀ q : Nat, s.heap.size ≤ q → A q := fun q h => by rw [← hAe]; exact Or.inr h
  have hS : va_S A s.heap s.heap [] := va_S.rf
  have hP : va_P D vwCl [(h0, .inr (2, [.int 0, .int 0, .int 0, .null, .null, .null, .null, .null]))] s.heap := hP
  have hl := lv_entry ([.ref h0]) (n := 1) (Nat.le_of_ble_eq_true rfl)
  rw [lg_entry_eq]
  generalize (lg_sl ([.ref h0]) ++ List.replicate (1 - (lg_sl ([.ref h0])).length) Slot.unset).toArray = ls at hl ⊢
  have hl : lv_has ls 1 [(0, .ref h0)] := hl
  have ho_1 := hts (.methodLink RX2 3 objectInit) (by decide +kernel)
  have ho_2 := hts (.instanceMethod objectInit) (by decide +kernel)
  have ho_3 := hts (.code objectInit ⟨#[0xb1]⟩ 1 none) (by decide +kernel)
  have hf_9 := hts (.fieldLink RX2 9 "PaintballAtlas$Round" "tick" "I") (by decide +kernel)
  have hi_X2 : ∀ w ∈ wsX20, w ∈ wsX2_init := by decide +kernel
  have hac_I := hts (.arrayClass .int) (by decide +kernel)
  have hf_15 := hts (.fieldLink RX2 15 "PaintballAtlas$Round" "cells" "[I") (by decide +kernel)
  have hf_19 := hts (.fieldLink RX2 19 "PaintballAtlas$Round" "hits" "[I") (by decide +kernel)
  have hf_22 := hts (.fieldLink RX2 22 "PaintballAtlas$Round" "lastShots" "[I") (by decide +kernel)
  have hcn_X3 := hts (.classLink RX2 25 RX3) (by decide +kernel)
  have hcm_X3 := hts (.instantiable RX3 5) (by decide +kernel)
  have hini_RX3 := hts (.initialized RX3) (by decide +kernel)
  have hi_X3 : ∀ w ∈ wsX30, w ∈ wsX2_init := by decide +kernel
  have hinst_X3_init := hts (.instanceMethod yX3_init) (by decide +kernel)
  have hf_28 := hts (.fieldLink RX2 28 "PaintballAtlas$Round" "shots" "LPaintballAtlas$Shots;") (by decide +kernel)
  have hcn_X0 := hts (.classLink RX2 32 RX0) (by decide +kernel)
  have hcm_X0 := hts (.instantiable RX0 5) (by decide +kernel)
  have hini_RX0 := hts (.initialized RX0) (by decide +kernel)
  have hi_X0 : ∀ w ∈ wsX00, w ∈ wsX2_init := by decide +kernel
  have hinst_X0_init := hts (.instanceMethod yX0_init) (by decide +kernel)
  have hf_35 := hts (.fieldLink RX2 35 "PaintballAtlas$Round" "calls" "LPaintballAtlas$Calls;") (by decide +kernel)
  refine lv_aload_n hx hb dX2_init_0 rfl (lv_at hl 0 rfl) ?_
  refine W.objInit hx hb hown ho_1 ho_2 ho_3 rfl (by rw [hml]; exact hl.1) rfl dX2_init_1 (Nat.le_of_ble_eq_true rfl) (Nat.le_of_ble_eq_true rfl) ?_
  refine W.eq (g2 := F0 m 4 ls []) rfl ?_
  refine lv_aload_n hx hb dX2_init_4 rfl (lv_at hl 0 rfl) ?_
  refine lv_iconst (v := (-1)) hx hb dX2_init_5 (by decide) ?_
  refine va_put (D := D) (ci := 2) (v := .int (-1)) (ty := .int) (C := RX2) (T := TX2) (N := 8) hx hb hts hi_X2 tyX2 tyX2_ok nmX2 hown hK hP hD hS 0 rfl rfl 2 (by decide) hf_9 (fun _ h9 => h9) rfl (by decide +kernel) rfl rfl (Nat.le_of_ble_eq_true rfl) dX2_init_6 (fun H locs hP hD hS => ?_)
  have hP : va_P D vwCl [(h0, .inr (2, [.int 0, .int 0, .int (-1), .null, .null, .null, .null, .null]))] H := hP
  have hD : va_D A [(h0, .inr (2, [.int 0, .int 0, .int (-1), .null, .null, .null, .null, .null]))] := hD
  refine lv_aload_n hx hb dX2_init_9 rfl (lv_at hl 0 rfl) ?_
  refine lv_bipush (v := 6) hx hb dX2_init_10 (by decide) ?_
  refine va_newa (atype := .int) hx hb hac_I rfl hK hP hD hS hA (n := 6) (N' := 6) (a0 := (6, .inl (fun _ => 0))) (fun _ => rfl) (by decide) rfl (Nat.le_of_ble_eq_true rfl) (Nat.le_of_ble_eq_true rfl) (Nat.le_of_ble_eq_true rfl) dX2_init_12 (fun q1 cK H hK1 hP hD hS => ?_)
  obtain rfl := k_same hK hK1 0 rfl ra_int
  clear hK1
  have hP : va_P D vwCl [(h0, .inr (2, [.int 0, .int 0, .int (-1), .null, .null, .null, .null, .null])), (q1, .inl (cI, 6, .inl (fun _ => 0)))] H := hP
  have hD : va_D A [(h0, .inr (2, [.int 0, .int 0, .int (-1), .null, .null, .null, .null, .null])), (q1, .inl (cI, 6, .inl (fun _ => 0)))] := hD
  refine W.widen (k := 1) (n := 6) (Nat.le_refl _) (Nat.le_refl _) ?_
  refine va_putF (D := D) (ci := 2) (v := .ref q1) (ty := (.array .int)) (C := RX2) (T := TX2) (N := 8) hx hb hts hi_X2 tyX2 tyX2_ok nmX2 hown hK hP hD hS 0 rfl rfl 3 (by decide) hf_15 (fun _ h9 => h9) rfl hin rfl (by decide +kernel) rfl rfl (Nat.le_of_ble_eq_true rfl) dX2_init_14 (fun H locs hP hD hS => ?_)
  have hP : va_P D vwCl [(h0, .inr (2, [.int 0, .int 0, .int (-1), .ref q1, .null, .null, .null, .null])), (q1, .inl (cI, 6, .inl (fun _ => 0)))] H := hP
  have hD : va_D A [(h0, .inr (2, [.int 0, .int 0, .int (-1), .ref q1, .null, .null, .null, .null])), (q1, .inl (cI, 6, .inl (fun _ => 0)))] := hD
  refine lv_aload_n hx hb dX2_init_17 rfl (lv_at hl 0 rfl) ?_
  refine lv_bipush (v := 6) hx hb dX2_init_18 (by decide) ?_
  refine va_newa (atype := .int) hx hb hac_I rfl hK hP hD hS hA (n := 6) (N' := 6) (a0 := (6, .inl (fun _ => 0))) (fun _ => rfl) (by decide) rfl (Nat.le_of_ble_eq_true rfl) (Nat.le_of_ble_eq_true rfl) (Nat.le_of_ble_eq_true rfl) dX2_init_20 (fun q2 cK H hK1 hP hD hS => ?_)
  obtain rfl := k_same hK hK1 0 rfl ra_int
  clear hK1
  have hP : va_P D vwCl [(h0, .inr (2, [.int 0, .int 0, .int (-1), .ref q1, .null, .null, .null, .null])), (q1, .inl (cI, 6, .inl (fun _ => 0))), (q2, .inl (cI, 6, .inl (fun _ => 0)))] H := hP
  have hD : va_D A [(h0, .inr (2, [.int 0, .int 0, .int (-1), .ref q1, .null, .null, .null, .null])), (q1, .inl (cI, 6, .inl (fun _ => 0))), (q2, .inl (cI, 6, .inl (fun _ => 0)))] := hD
  refine W.widen (k := 2) (n := 12) (Nat.le_refl _) (Nat.le_refl _) ?_
  refine va_putF (D := D) (ci := 2) (v := .ref q2) (ty := (.array .int)) (C := RX2) (T := TX2) (N := 8) hx hb hts hi_X2 tyX2 tyX2_ok nmX2 hown hK hP hD hS 0 rfl rfl 4 (by decide) hf_19 (fun _ h9 => h9) rfl hin rfl (by decide +kernel) rfl rfl (Nat.le_of_ble_eq_true rfl) dX2_init_22 (fun H locs hP hD hS => ?_)
  have hP : va_P D vwCl [(h0, .inr (2, [.int 0, .int 0, .int (-1), .ref q1, .ref q2, .null, .null, .null])), (q1, .inl (cI, 6, .inl (fun _ => 0))), (q2, .inl (cI, 6, .inl (fun _ => 0)))] H := hP
  have hD : va_D A [(h0, .inr (2, [.int 0, .int 0, .int (-1), .ref q1, .ref q2, .null, .null, .null])), (q1, .inl (cI, 6, .inl (fun _ => 0))), (q2, .inl (cI, 6, .inl (fun _ => 0)))] := hD
  refine lv_aload_n hx hb dX2_init_25 rfl (lv_at hl 0 rfl) ?_
  refine lv_bipush (v := 6) hx hb dX2_init_26 (by decide) ?_
  refine va_newa (atype := .int) hx hb hac_I rfl hK hP hD hS hA (n := 6) (N' := 6) (a0 := (6, .inl (fun _ => 0))) (fun _ => rfl) (by decide) rfl (Nat.le_of_ble_eq_true rfl) (Nat.le_of_ble_eq_true rfl) (Nat.le_of_ble_eq_true rfl) dX2_init_28 (fun q3 cK H hK1 hP hD hS => ?_)
  obtain rfl := k_same hK hK1 0 rfl ra_int
  clear hK1
  have hP : va_P D vwCl [(h0, .inr (2, [.int 0, .int 0, .int (-1), .ref q1, .ref q2, .null, .null, .null])), (q1, .inl (cI, 6, .inl (fun _ => 0))), (q2, .inl (cI, 6, .inl (fun _ => 0))), (q3, .inl (cI, 6, .inl (fun _ => 0)))] H := hP
  have hD : va_D A [(h0, .inr (2, [.int 0, .int 0, .int (-1), .ref q1, .ref q2, .null, .null, .null])), (q1, .inl (cI, 6, .inl (fun _ => 0))), (q2, .inl (cI, 6, .inl (fun _ => 0))), (q3, .inl (cI, 6, .inl (fun _ => 0)))] := hD
  refine W.widen (k := 3) (n := 18) (Nat.le_refl _) (Nat.le_refl _) ?_
  refine va_putF (D := D) (ci := 2) (v := .ref q3) (ty := (.array .int)) (C := RX2) (T := TX2) (N := 8) hx hb hts hi_X2 tyX2 tyX2_ok nmX2 hown hK hP hD hS 0 rfl rfl 5 (by decide) hf_22 (fun _ h9 => h9) rfl hin rfl (by decide +kernel) rfl rfl (Nat.le_of_ble_eq_true rfl) dX2_init_30 (fun H locs hP hD hS => ?_)
  have hP : va_P D vwCl [(h0, .inr (2, [.int 0, .int 0, .int (-1), .ref q1, .ref q2, .ref q3, .null, .null])), (q1, .inl (cI, 6, .inl (fun _ => 0))), (q2, .inl (cI, 6, .inl (fun _ => 0))), (q3, .inl (cI, 6, .inl (fun _ => 0)))] H := hP
  have hD : va_D A [(h0, .inr (2, [.int 0, .int 0, .int (-1), .ref q1, .ref q2, .ref q3, .null, .null])), (q1, .inl (cI, 6, .inl (fun _ => 0))), (q2, .inl (cI, 6, .inl (fun _ => 0))), (q3, .inl (cI, 6, .inl (fun _ => 0)))] := hD
  refine lv_aload_n hx hb dX2_init_33 rfl (lv_at hl 0 rfl) ?_
  refine va_new (ci := 3) (fs := [.int 0, .null, .null, .null, .null]) (C := RX3) (T := TX3) (N := 5) hx hb hts hi_X3 tyX3 tyX3_ok hown hcn_X3 hcm_X3 hini_RX3 hK hP hD hS hA rfl (fun j hj => by rcases (show j = 0 ∨ j = 1 ∨ j = 2 ∨ j = 3 ∨ j = 4 by omega) with rfl | rfl | rfl | rfl | rfl <;> rfl) (Nat.le_of_ble_eq_true rfl) (Nat.le_of_ble_eq_true rfl) dX2_init_34 (fun q4 H hP hD hS => ?_)
  have hP : va_P D vwCl [(h0, .inr (2, [.int 0, .int 0, .int (-1), .ref q1, .ref q2, .ref q3, .null, .null])), (q1, .inl (cI, 6, .inl (fun _ => 0))), (q2, .inl (cI, 6, .inl (fun _ => 0))), (q3, .inl (cI, 6, .inl (fun _ => 0))), (q4, .inr (3, [.int 0, .null, .null, .null, .null]))] H := hP
  have hD : va_D A [(h0, .inr (2, [.int 0, .int 0, .int (-1), .ref q1, .ref q2, .ref q3, .null, .null])), (q1, .inl (cI, 6, .inl (fun _ => 0))), (q2, .inl (cI, 6, .inl (fun _ => 0))), (q3, .inl (cI, 6, .inl (fun _ => 0))), (q4, .inr (3, [.int 0, .null, .null, .null, .null]))] := hD
  refine W.widen (k := 4) (n := 23) (Nat.le_refl _) (Nat.le_refl _) ?_
  refine lv_dup hx hb dX2_init_37 rfl ?_
  have hPc := hP.sub (ws' := [(q4, .inr (3, [.int 0, .null, .null, .null, .null]))]) [4] rfl
  have hDc := hD.sub (ws' := [(q4, .inr (3, [.int 0, .null, .null, .null, .null]))]) [4] (by decide) rfl
  have hFc := va_free (wc := [(q4, .inr (3, [.int 0, .null, .null, .null, .null]))]) hD hS hA [4] rfl
  refine va_callv (va_runIN (As := []) (rest := [.ref q4, .ref h0]) ⟨hx, hb, hml, hown, hts⟩ (c_X3_init l D cI cZ cJ cA H.size q4) ⟨va_cnB (host := "PaintballAtlas") 0 hts gX2_init_X3_init_n27 rfl rfl rfl hE.1 hini_RX3 (by decide +kernel) ⟨Nat.le_of_ble_eq_true rfl, Nat.le_of_ble_eq_true rfl⟩, rfl, hinst_X3_init⟩ ⟨pcN_bl eN.same, fun U hU hW => ⟨rfl, ⟨by rw [hU], by rw [hU]; exact hPc, va_K.moved hW.alike hK, hDc.weaken (fun _ _ _ _ => trivial)⟩, trivial⟩⟩ rfl rfl hl.1 rfl (lv_room (Nat.le_of_ble_eq_true rfl)) dX2_init_38 ⟨Nat.le_of_ble_eq_true rfl, Nat.le_of_ble_eq_true rfl⟩) hS (fun q9 _ h => hFc q9 h) hFc (fun u t H locs ht hvm hw hB hz1 hk1 hS => ?_)
  obtain ⟨b1_5, b2_5, b3_5, b4_5, hP1, hK1, hD1⟩ := hB
  rw [ht] at hP1
  obtain ⟨hP, hD⟩ := va_join (wr := [(h0, .inr (2, [.int 0, .int 0, .int (-1), .ref q1, .ref q2, .ref q3, .null, .null])), (q1, .inl (cI, 6, .inl (fun _ => 0))), (q2, .inl (cI, 6, .inl (fun _ => 0))), (q3, .inl (cI, 6, .inl (fun _ => 0)))]) (w1 := [(q4, .inr (3, [.int 0, .ref b1_5, .ref b2_5, .ref b3_5, .ref b4_5])), (b1_5, .inl (cI, 100, .inl (fun _ => 0))), (b2_5, .inl (cI, 100, .inl (fun _ => 0))), (b3_5, .inl (cI, 100, .inl (fun _ => 0))), (b4_5, .inl (cI, 100, .inl (fun _ => 0)))]) hP hD [4] [0, 1, 2, 3] rfl rfl (by decide) (by decide) hk1 hFc hP1 hD1
  have hP : va_P D vwCl [(h0, .inr (2, [.int 0, .int 0, .int (-1), .ref q1, .ref q2, .ref q3, .null, .null])), (q1, .inl (cI, 6, .inl (fun _ => 0))), (q2, .inl (cI, 6, .inl (fun _ => 0))), (q3, .inl (cI, 6, .inl (fun _ => 0))), (q4, .inr (3, [.int 0, .ref b1_5, .ref b2_5, .ref b3_5, .ref b4_5])), (b1_5, .inl (cI, 100, .inl (fun _ => 0))), (b2_5, .inl (cI, 100, .inl (fun _ => 0))), (b3_5, .inl (cI, 100, .inl (fun _ => 0))), (b4_5, .inl (cI, 100, .inl (fun _ => 0)))] H := hP
  have hD : va_D A [(h0, .inr (2, [.int 0, .int 0, .int (-1), .ref q1, .ref q2, .ref q3, .null, .null])), (q1, .inl (cI, 6, .inl (fun _ => 0))), (q2, .inl (cI, 6, .inl (fun _ => 0))), (q3, .inl (cI, 6, .inl (fun _ => 0))), (q4, .inr (3, [.int 0, .ref b1_5, .ref b2_5, .ref b3_5, .ref b4_5])), (b1_5, .inl (cI, 100, .inl (fun _ => 0))), (b2_5, .inl (cI, 100, .inl (fun _ => 0))), (b3_5, .inl (cI, 100, .inl (fun _ => 0))), (b4_5, .inl (cI, 100, .inl (fun _ => 0)))] := hD
  refine W.widen (k := 8) (n := 423) (Nat.le_refl _) (Nat.le_refl _) ?_
  refine va_putF (D := D) (ci := 2) (v := .ref q4) (ty := (.object "PaintballAtlas$Shots")) (C := RX2) (T := TX2) (N := 8) hx hb hts hi_X2 tyX2 tyX2_ok nmX2 hown hK hP hD hS 0 rfl rfl 6 (by decide) hf_28 (fun _ h9 => h9) rfl hin rfl (by decide +kernel) rfl rfl (Nat.le_of_ble_eq_true rfl) dX2_init_41 (fun H locs hP hD hS => ?_)
  have hP : va_P D vwCl [(h0, .inr (2, [.int 0, .int 0, .int (-1), .ref q1, .ref q2, .ref q3, .ref q4, .null])), (q1, .inl (cI, 6, .inl (fun _ => 0))), (q2, .inl (cI, 6, .inl (fun _ => 0))), (q3, .inl (cI, 6, .inl (fun _ => 0))), (q4, .inr (3, [.int 0, .ref b1_5, .ref b2_5, .ref b3_5, .ref b4_5])), (b1_5, .inl (cI, 100, .inl (fun _ => 0))), (b2_5, .inl (cI, 100, .inl (fun _ => 0))), (b3_5, .inl (cI, 100, .inl (fun _ => 0))), (b4_5, .inl (cI, 100, .inl (fun _ => 0)))] H := hP
  have hD : va_D A [(h0, .inr (2, [.int 0, .int 0, .int (-1), .ref q1, .ref q2, .ref q3, .ref q4, .null])), (q1, .inl (cI, 6, .inl (fun _ => 0))), (q2, .inl (cI, 6, .inl (fun _ => 0))), (q3, .inl (cI, 6, .inl (fun _ => 0))), (q4, .inr (3, [.int 0, .ref b1_5, .ref b2_5, .ref b3_5, .ref b4_5])), (b1_5, .inl (cI, 100, .inl (fun _ => 0))), (b2_5, .inl (cI, 100, .inl (fun _ => 0))), (b3_5, .inl (cI, 100, .inl (fun _ => 0))), (b4_5, .inl (cI, 100, .inl (fun _ => 0)))] := hD
  refine lv_aload_n hx hb dX2_init_44 rfl (lv_at hl 0 rfl) ?_
  refine va_new (ci := 0) (fs := [.int 0, .null, .null, .null, .null]) (C := RX0) (T := TX0) (N := 5) hx hb hts hi_X0 tyX0 tyX0_ok hown hcn_X0 hcm_X0 hini_RX0 hK hP hD hS hA rfl (fun j hj => by rcases (show j = 0 ∨ j = 1 ∨ j = 2 ∨ j = 3 ∨ j = 4 by omega) with rfl | rfl | rfl | rfl | rfl <;> rfl) (Nat.le_of_ble_eq_true rfl) (Nat.le_of_ble_eq_true rfl) dX2_init_45 (fun q6 H hP hD hS => ?_)
  have hP : va_P D vwCl [(h0, .inr (2, [.int 0, .int 0, .int (-1), .ref q1, .ref q2, .ref q3, .ref q4, .null])), (q1, .inl (cI, 6, .inl (fun _ => 0))), (q2, .inl (cI, 6, .inl (fun _ => 0))), (q3, .inl (cI, 6, .inl (fun _ => 0))), (q4, .inr (3, [.int 0, .ref b1_5, .ref b2_5, .ref b3_5, .ref b4_5])), (b1_5, .inl (cI, 100, .inl (fun _ => 0))), (b2_5, .inl (cI, 100, .inl (fun _ => 0))), (b3_5, .inl (cI, 100, .inl (fun _ => 0))), (b4_5, .inl (cI, 100, .inl (fun _ => 0))), (q6, .inr (0, [.int 0, .null, .null, .null, .null]))] H := hP
  have hD : va_D A [(h0, .inr (2, [.int 0, .int 0, .int (-1), .ref q1, .ref q2, .ref q3, .ref q4, .null])), (q1, .inl (cI, 6, .inl (fun _ => 0))), (q2, .inl (cI, 6, .inl (fun _ => 0))), (q3, .inl (cI, 6, .inl (fun _ => 0))), (q4, .inr (3, [.int 0, .ref b1_5, .ref b2_5, .ref b3_5, .ref b4_5])), (b1_5, .inl (cI, 100, .inl (fun _ => 0))), (b2_5, .inl (cI, 100, .inl (fun _ => 0))), (b3_5, .inl (cI, 100, .inl (fun _ => 0))), (b4_5, .inl (cI, 100, .inl (fun _ => 0))), (q6, .inr (0, [.int 0, .null, .null, .null, .null]))] := hD
  refine W.widen (k := 9) (n := 428) (Nat.le_refl _) (Nat.le_refl _) ?_
  refine lv_dup hx hb dX2_init_48 rfl ?_
  have hPc := hP.sub (ws' := [(q6, .inr (0, [.int 0, .null, .null, .null, .null]))]) [9] rfl
  have hDc := hD.sub (ws' := [(q6, .inr (0, [.int 0, .null, .null, .null, .null]))]) [9] (by decide) rfl
  have hFc := va_free (wc := [(q6, .inr (0, [.int 0, .null, .null, .null, .null]))]) hD hS hA [9] rfl
  refine va_callv (va_runIN (As := []) (rest := [.ref q6, .ref h0]) ⟨hx, hb, hml, hown, hts⟩ (c_X0_init l D cI cZ cJ cA H.size q6) ⟨va_cnB (host := "PaintballAtlas") 0 hts gX2_init_X0_init_n34 rfl rfl rfl hE.2 hini_RX0 (by decide +kernel) ⟨Nat.le_of_ble_eq_true rfl, Nat.le_of_ble_eq_true rfl⟩, rfl, hinst_X0_init⟩ ⟨pcN_bl eN.same, fun U hU hW => ⟨rfl, ⟨by rw [hU], by rw [hU]; exact hPc, va_K.moved hW.alike hK, hDc.weaken (fun _ _ _ _ => trivial)⟩, trivial⟩⟩ rfl rfl hl.1 rfl (lv_room (Nat.le_of_ble_eq_true rfl)) dX2_init_49 ⟨Nat.le_of_ble_eq_true rfl, Nat.le_of_ble_eq_true rfl⟩) hS (fun q9 _ h => hFc q9 h) hFc (fun u t H locs ht hvm hw hB hz1 hk1 hS => ?_)
  obtain ⟨b1_7, b2_7, b3_7, b4_7, hP1, hK1, hD1⟩ := hB
  rw [ht] at hP1
  obtain ⟨hP, hD⟩ := va_join (wr := [(h0, .inr (2, [.int 0, .int 0, .int (-1), .ref q1, .ref q2, .ref q3, .ref q4, .null])), (q1, .inl (cI, 6, .inl (fun _ => 0))), (q2, .inl (cI, 6, .inl (fun _ => 0))), (q3, .inl (cI, 6, .inl (fun _ => 0))), (q4, .inr (3, [.int 0, .ref b1_5, .ref b2_5, .ref b3_5, .ref b4_5])), (b1_5, .inl (cI, 100, .inl (fun _ => 0))), (b2_5, .inl (cI, 100, .inl (fun _ => 0))), (b3_5, .inl (cI, 100, .inl (fun _ => 0))), (b4_5, .inl (cI, 100, .inl (fun _ => 0)))]) (w1 := [(q6, .inr (0, [.int 0, .ref b1_7, .ref b2_7, .ref b3_7, .ref b4_7])), (b1_7, .inl (cI, 512, .inl (fun _ => 0))), (b2_7, .inl (cI, 512, .inl (fun _ => 0))), (b3_7, .inl (cI, 512, .inl (fun _ => 0))), (b4_7, .inl (cZ, 512, .inl (fun _ => 0)))]) hP hD [9] [0, 1, 2, 3, 4, 5, 6, 7, 8] rfl rfl (by decide) (by decide) hk1 hFc hP1 hD1
  have hP : va_P D vwCl [(h0, .inr (2, [.int 0, .int 0, .int (-1), .ref q1, .ref q2, .ref q3, .ref q4, .null])), (q1, .inl (cI, 6, .inl (fun _ => 0))), (q2, .inl (cI, 6, .inl (fun _ => 0))), (q3, .inl (cI, 6, .inl (fun _ => 0))), (q4, .inr (3, [.int 0, .ref b1_5, .ref b2_5, .ref b3_5, .ref b4_5])), (b1_5, .inl (cI, 100, .inl (fun _ => 0))), (b2_5, .inl (cI, 100, .inl (fun _ => 0))), (b3_5, .inl (cI, 100, .inl (fun _ => 0))), (b4_5, .inl (cI, 100, .inl (fun _ => 0))), (q6, .inr (0, [.int 0, .ref b1_7, .ref b2_7, .ref b3_7, .ref b4_7])), (b1_7, .inl (cI, 512, .inl (fun _ => 0))), (b2_7, .inl (cI, 512, .inl (fun _ => 0))), (b3_7, .inl (cI, 512, .inl (fun _ => 0))), (b4_7, .inl (cZ, 512, .inl (fun _ => 0)))] H := hP
  have hD : va_D A [(h0, .inr (2, [.int 0, .int 0, .int (-1), .ref q1, .ref q2, .ref q3, .ref q4, .null])), (q1, .inl (cI, 6, .inl (fun _ => 0))), (q2, .inl (cI, 6, .inl (fun _ => 0))), (q3, .inl (cI, 6, .inl (fun _ => 0))), (q4, .inr (3, [.int 0, .ref b1_5, .ref b2_5, .ref b3_5, .ref b4_5])), (b1_5, .inl (cI, 100, .inl (fun _ => 0))), (b2_5, .inl (cI, 100, .inl (fun _ => 0))), (b3_5, .inl (cI, 100, .inl (fun _ => 0))), (b4_5, .inl (cI, 100, .inl (fun _ => 0))), (q6, .inr (0, [.int 0, .ref b1_7, .ref b2_7, .ref b3_7, .ref b4_7])), (b1_7, .inl (cI, 512, .inl (fun _ => 0))), (b2_7, .inl (cI, 512, .inl (fun _ => 0))), (b3_7, .inl (cI, 512, .inl (fun _ => 0))), (b4_7, .inl (cZ, 512, .inl (fun _ => 0)))] := hD
  refine W.widen (k := 13) (n := 2476) (Nat.le_refl _) (Nat.le_refl _) ?_
  refine va_putF (D := D) (ci := 2) (v := .ref q6) (ty := (.object "PaintballAtlas$Calls")) (C := RX2) (T := TX2) (N := 8) hx hb hts hi_X2 tyX2 tyX2_ok nmX2 hown hK hP hD hS 0 rfl rfl 7 (by decide) hf_35 (fun _ h9 => h9) rfl hin rfl (by decide +kernel) rfl rfl (Nat.le_of_ble_eq_true rfl) dX2_init_52 (fun H locs hP hD hS => ?_)
  have hP : va_P D vwCl [(h0, .inr (2, [.int 0, .int 0, .int (-1), .ref q1, .ref q2, .ref q3, .ref q4, .ref q6])), (q1, .inl (cI, 6, .inl (fun _ => 0))), (q2, .inl (cI, 6, .inl (fun _ => 0))), (q3, .inl (cI, 6, .inl (fun _ => 0))), (q4, .inr (3, [.int 0, .ref b1_5, .ref b2_5, .ref b3_5, .ref b4_5])), (b1_5, .inl (cI, 100, .inl (fun _ => 0))), (b2_5, .inl (cI, 100, .inl (fun _ => 0))), (b3_5, .inl (cI, 100, .inl (fun _ => 0))), (b4_5, .inl (cI, 100, .inl (fun _ => 0))), (q6, .inr (0, [.int 0, .ref b1_7, .ref b2_7, .ref b3_7, .ref b4_7])), (b1_7, .inl (cI, 512, .inl (fun _ => 0))), (b2_7, .inl (cI, 512, .inl (fun _ => 0))), (b3_7, .inl (cI, 512, .inl (fun _ => 0))), (b4_7, .inl (cZ, 512, .inl (fun _ => 0)))] H := hP
  have hD : va_D A [(h0, .inr (2, [.int 0, .int 0, .int (-1), .ref q1, .ref q2, .ref q3, .ref q4, .ref q6])), (q1, .inl (cI, 6, .inl (fun _ => 0))), (q2, .inl (cI, 6, .inl (fun _ => 0))), (q3, .inl (cI, 6, .inl (fun _ => 0))), (q4, .inr (3, [.int 0, .ref b1_5, .ref b2_5, .ref b3_5, .ref b4_5])), (b1_5, .inl (cI, 100, .inl (fun _ => 0))), (b2_5, .inl (cI, 100, .inl (fun _ => 0))), (b3_5, .inl (cI, 100, .inl (fun _ => 0))), (b4_5, .inl (cI, 100, .inl (fun _ => 0))), (q6, .inr (0, [.int 0, .ref b1_7, .ref b2_7, .ref b3_7, .ref b4_7])), (b1_7, .inl (cI, 512, .inl (fun _ => 0))), (b2_7, .inl (cI, 512, .inl (fun _ => 0))), (b3_7, .inl (cI, 512, .inl (fun _ => 0))), (b4_7, .inl (cZ, 512, .inl (fun _ => 0)))] := hD
  refine lv_aload_n hx hb dX2_init_55 rfl (lv_at hl 0 rfl) ?_
  refine lv_bipush (v := (-2)) hx hb dX2_init_56 (by decide) ?_
  have hPc := hP.sub (ws' := [(h0, .inr (2, [.int 0, .int 0, .int (-1), .ref q1, .ref q2, .ref q3, .ref q4, .ref q6])), (q1, .inl (cI, 6, .inl (fun _ => 0))), (q2, .inl (cI, 6, .inl (fun _ => 0))), (q3, .inl (cI, 6, .inl (fun _ => 0))), (q4, .inr (3, [.int 0, .ref b1_5, .ref b2_5, .ref b3_5, .ref b4_5])), (q6, .inr (0, [.int 0, .ref b1_7, .ref b2_7, .ref b3_7, .ref b4_7]))]) [0, 1, 2, 3, 4, 9] rfl
  have hDc := hD.sub (ws' := [(h0, .inr (2, [.int 0, .int 0, .int (-1), .ref q1, .ref q2, .ref q3, .ref q4, .ref q6])), (q1, .inl (cI, 6, .inl (fun _ => 0))), (q2, .inl (cI, 6, .inl (fun _ => 0))), (q3, .inl (cI, 6, .inl (fun _ => 0))), (q4, .inr (3, [.int 0, .ref b1_5, .ref b2_5, .ref b3_5, .ref b4_5])), (q6, .inr (0, [.int 0, .ref b1_7, .ref b2_7, .ref b3_7, .ref b4_7]))]) [0, 1, 2, 3, 4, 9] (by decide) rfl
  have hFc := va_free (wc := [(h0, .inr (2, [.int 0, .int 0, .int (-1), .ref q1, .ref q2, .ref q3, .ref q4, .ref q6])), (q1, .inl (cI, 6, .inl (fun _ => 0))), (q2, .inl (cI, 6, .inl (fun _ => 0))), (q3, .inl (cI, 6, .inl (fun _ => 0))), (q4, .inr (3, [.int 0, .ref b1_5, .ref b2_5, .ref b3_5, .ref b4_5])), (q6, .inr (0, [.int 0, .ref b1_7, .ref b2_7, .ref b3_7, .ref b4_7]))]) hD hS hA [0, 1, 2, 3, 4, 9] rfl
  refine va_callv (va_runV (As := [.int (-2)]) (rest := []) ⟨hx, hb, hml, hown, hts⟩ (c_X2_reset l D cI cZ cJ cA H.size (fun k9 => ([0, 0, 0, 0, h0, q1, q2, q3, q4, b1_5, b2_5, b3_5, b4_5, q6, b1_7, b2_7, b3_7, b4_7] : List Nat).getD k9 0) 0 0 (-1) (fun _ => 0) (fun _ => 0) (fun _ => 0) 0 0 (-2)) (cwV 1 hts gX2_init_X2_reset rfl rfl rfl (by decide +kernel) ⟨Nat.le_of_ble_eq_true rfl, Nat.le_of_ble_eq_true rfl⟩) ⟨pcW_bl, va_recv hK hPc (ci := 2) (q0 := 0) rfl rfl, fun U hU hW => ⟨rfl, by rw [hU], by rw [hU]; exact hPc, va_K.moved hW.alike hK, hDc.weaken (fun _ _ _ _ => trivial)⟩⟩ rfl rfl hl.1 rfl (lv_room (Nat.le_of_ble_eq_true rfl)) dX2_init_58 ⟨Nat.le_of_ble_eq_true rfl, Nat.le_of_ble_eq_true rfl⟩) hS (fun q _ h => hFc q h) hFc (fun u t H locs ht hvm hw hB hz1 hk1 hS => ?_)
  try dsimp only at hw
  obtain ⟨u0_8, u1_8, u2_8, u3_8, u4_8⟩ := u
  try dsimp only at hw
  obtain ⟨hu0_8, hu1_8, hu2_8, hu3_8, hu4_8⟩ := hw
  obtain ⟨hP1, hK1, hD1⟩ := hB
  rw [ht] at hP1
  obtain ⟨hP, hD⟩ := va_join (wr := [(b1_5, .inl (cI, 100, .inl (fun _ => 0))), (b2_5, .inl (cI, 100, .inl (fun _ => 0))), (b3_5, .inl (cI, 100, .inl (fun _ => 0))), (b4_5, .inl (cI, 100, .inl (fun _ => 0))), (b1_7, .inl (cI, 512, .inl (fun _ => 0))), (b2_7, .inl (cI, 512, .inl (fun _ => 0))), (b3_7, .inl (cI, 512, .inl (fun _ => 0))), (b4_7, .inl (cZ, 512, .inl (fun _ => 0)))]) (w1 := [(h0, .inr (2, [.int 0, .int 0, .int (-1), .ref q1, .ref q2, .ref q3, .ref q4, .ref q6])), (q1, .inl (cI, 6, .inl u0_8)), (q2, .inl (cI, 6, .inl u1_8)), (q3, .inl (cI, 6, .inl u2_8)), (q4, .inr (3, [.int (nI u3_8), .ref b1_5, .ref b2_5, .ref b3_5, .ref b4_5])), (q6, .inr (0, [.int (nI u4_8), .ref b1_7, .ref b2_7, .ref b3_7, .ref b4_7]))]) hP hD [0, 1, 2, 3, 4, 9] [5, 6, 7, 8, 10, 11, 12, 13] rfl rfl (by decide) (by decide) hk1 hFc hP1 hD1
  obtain rfl := hu0_8.symm
  obtain rfl := hu1_8.symm
  obtain rfl := hu2_8.symm
  obtain rfl := hu3_8.symm
  obtain rfl := hu4_8.symm
  have hP : va_P D vwCl [(b1_5, .inl (cI, 100, .inl (fun _ => 0))), (b2_5, .inl (cI, 100, .inl (fun _ => 0))), (b3_5, .inl (cI, 100, .inl (fun _ => 0))), (b4_5, .inl (cI, 100, .inl (fun _ => 0))), (b1_7, .inl (cI, 512, .inl (fun _ => 0))), (b2_7, .inl (cI, 512, .inl (fun _ => 0))), (b3_7, .inl (cI, 512, .inl (fun _ => 0))), (b4_7, .inl (cZ, 512, .inl (fun _ => 0))), (h0, .inr (2, [.int 0, .int 0, .int (-1), .ref q1, .ref q2, .ref q3, .ref q4, .ref q6])), (q1, .inl (cI, 6, .inl (fillN (fun _ => 0) (-2) 6))), (q2, .inl (cI, 6, .inl (fillN (fun _ => 0) (-1) 6))), (q3, .inl (cI, 6, .inl (fillN (fun _ => 0) (-1) 6))), (q4, .inr (3, [.int (nI 0), .ref b1_5, .ref b2_5, .ref b3_5, .ref b4_5])), (q6, .inr (0, [.int (nI 0), .ref b1_7, .ref b2_7, .ref b3_7, .ref b4_7]))] H := hP
  have hD : va_D A [(b1_5, .inl (cI, 100, .inl (fun _ => 0))), (b2_5, .inl (cI, 100, .inl (fun _ => 0))), (b3_5, .inl (cI, 100, .inl (fun _ => 0))), (b4_5, .inl (cI, 100, .inl (fun _ => 0))), (b1_7, .inl (cI, 512, .inl (fun _ => 0))), (b2_7, .inl (cI, 512, .inl (fun _ => 0))), (b3_7, .inl (cI, 512, .inl (fun _ => 0))), (b4_7, .inl (cZ, 512, .inl (fun _ => 0))), (h0, .inr (2, [.int 0, .int 0, .int (-1), .ref q1, .ref q2, .ref q3, .ref q4, .ref q6])), (q1, .inl (cI, 6, .inl (fillN (fun _ => 0) (-2) 6))), (q2, .inl (cI, 6, .inl (fillN (fun _ => 0) (-1) 6))), (q3, .inl (cI, 6, .inl (fillN (fun _ => 0) (-1) 6))), (q4, .inr (3, [.int (nI 0), .ref b1_5, .ref b2_5, .ref b3_5, .ref b4_5])), (q6, .inr (0, [.int (nI 0), .ref b1_7, .ref b2_7, .ref b3_7, .ref b4_7]))] := hD
  refine W.widen (k := 13) (n := 2476) (Nat.le_refl _) (Nat.le_refl _) ?_
  have hP9 := hP.sub (ws' := [(h0, .inr (2, [.int 0, .int 0, .int (-1), .ref q1, .ref q2, .ref q3, .ref q4, .ref q6])), (q1, .inl (cI, 6, .inl (fillN (fun _ => 0) (-2) 6))), (q2, .inl (cI, 6, .inl (fillN (fun _ => 0) (-1) 6))), (q3, .inl (cI, 6, .inl (fillN (fun _ => 0) (-1) 6))), (q4, .inr (3, [.int (nI 0), .ref b1_5, .ref b2_5, .ref b3_5, .ref b4_5])), (b1_5, .inl (cI, 100, .inl (fun _ => 0))), (b2_5, .inl (cI, 100, .inl (fun _ => 0))), (b3_5, .inl (cI, 100, .inl (fun _ => 0))), (b4_5, .inl (cI, 100, .inl (fun _ => 0))), (q6, .inr (0, [.int (nI 0), .ref b1_7, .ref b2_7, .ref b3_7, .ref b4_7])), (b1_7, .inl (cI, 512, .inl (fun _ => 0))), (b2_7, .inl (cI, 512, .inl (fun _ => 0))), (b3_7, .inl (cI, 512, .inl (fun _ => 0))), (b4_7, .inl (cZ, 512, .inl (fun _ => 0)))]) [8, 9, 10, 11, 12, 0, 1, 2, 3, 13, 4, 5, 6, 7] rfl
  have hD9 := hD.sub (ws' := [(h0, .inr (2, [.int 0, .int 0, .int (-1), .ref q1, .ref q2, .ref q3, .ref q4, .ref q6])), (q1, .inl (cI, 6, .inl (fillN (fun _ => 0) (-2) 6))), (q2, .inl (cI, 6, .inl (fillN (fun _ => 0) (-1) 6))), (q3, .inl (cI, 6, .inl (fillN (fun _ => 0) (-1) 6))), (q4, .inr (3, [.int (nI 0), .ref b1_5, .ref b2_5, .ref b3_5, .ref b4_5])), (b1_5, .inl (cI, 100, .inl (fun _ => 0))), (b2_5, .inl (cI, 100, .inl (fun _ => 0))), (b3_5, .inl (cI, 100, .inl (fun _ => 0))), (b4_5, .inl (cI, 100, .inl (fun _ => 0))), (q6, .inr (0, [.int (nI 0), .ref b1_7, .ref b2_7, .ref b3_7, .ref b4_7])), (b1_7, .inl (cI, 512, .inl (fun _ => 0))), (b2_7, .inl (cI, 512, .inl (fun _ => 0))), (b3_7, .inl (cI, 512, .inl (fun _ => 0))), (b4_7, .inl (cZ, 512, .inl (fun _ => 0)))]) [8, 9, 10, 11, 12, 0, 1, 2, 3, 13, 4, 5, 6, 7] (by decide) rfl
  refine W.widen (k := 13) (n := 2476) (Nat.le_of_ble_eq_true rfl) (Nat.le_of_ble_eq_true rfl) ?_
  exact W.vret hx hb hr (fun t ht hW => ⟨⟨(), rfl, trivial, q1, q2, q3, q4, b1_5, b2_5, b3_5, b4_5, q6, b1_7, b2_7, b3_7, b4_7, by rw [ht]; exact hP9, va_K.moved hW.alike hK, hD9⟩, hS.F ht⟩) hS.2.2 dX2_init_61
