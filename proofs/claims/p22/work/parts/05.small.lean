noncomputable def f_X1_distance (p1 : Int32) (p2 : Int32) : Int32 := z_max (z_abs ((p1 / 12) - (p2 / 12))) (z_abs ((p1 - p1 / 12 * 12) - (p2 - p2 / 12 * 12)))
set_option maxHeartbeats 4000000 in
set_option maxRecDepth 100000 in
theorem c_X1_distance (l : Launch) (D : va_G) (cI cZ cJ cA : ClassId) (sz : Nat) (p1 : Int32) (p2 : Int32) : Met l yX1_distance wsX1_distance ({ frames := 1, cells := 0, slots := 0, locals := 21 } : Room) (va_Pc [.int p1, .int p2] (pcR D (tyL cI cZ cJ cA) [] sz)) (va_Qi (fun (r : Int32) (u : Unit) => r = f_X1_distance p1 p2) (fun _ _ => True) (fun q : Nat => sz ≤ q)) 0 0 (fun q : Nat => sz ≤ q) := by
  refine Met.ofW (cc := cX1_distance) (maxL := 4) (ret := (some .int)) (by decide) rfl ?_
  intro p e s m args below meth c s₁ B hml hv
  obtain ⟨rfl, hsz, hP, hK⟩ := hv
  have hx := B.exec
  have hb := B.bytes
  have hr := B.returns
  have hts := atoms_spec (ws := wsX1_distance) B.pre
  have hown : s.vm.findClass RX1 = some m.cls := findClass_of_methodNamed B.named
  have hlocks := B.notSynchronized
  subst hsz
  have hA : ∀ q : Nat, s.heap.size ≤ q → (fun q : Nat => s.heap.size ≤ q) q := fun _ h => h
  have hS : va_S (fun q : Nat => s.heap.size ≤ q) s.heap s.heap [] := va_S.rf
  have hP : va_P D vwCl [] s.heap := hP
  have hl := lv_entry ([.int p1, .int p2]) (n := 4) (Nat.le_of_ble_eq_true rfl)
  rw [lg_entry_eq]
  generalize (lg_sl ([.int p1, .int p2]) ++ List.replicate (4 - (lg_sl ([.int p1, .int p2])).length) Slot.unset).toArray = ls at hl ⊢
  have hl : lv_has ls 4 [(0, .int p1), (1, .int p2)] := hl
  have hm_abs_1 := hts (.methodLink RX1 15 Lib.Math.abs.name) (by decide +kernel)
  have hm_abs_2 := hts (.static Lib.Math.abs.name) (by decide +kernel)
  have hm_3 := hts (.initialized "java/lang/Math") (by decide +kernel)
  have hm_abs_4 := hts (.code Lib.Math.abs.name Lib.Math.abs.code 1 (some .int)) (by decide +kernel)
  have hm_max_1 := hts (.methodLink RX1 21 Lib.Math.max.name) (by decide +kernel)
  have hm_max_2 := hts (.static Lib.Math.max.name) (by decide +kernel)
  have hm_max_4 := hts (.code Lib.Math.max.name Lib.Math.max.code 2 (some .int)) (by decide +kernel)
  refine lv_iload_n hx hb dX1_distance_0 rfl (lv_at hl 0 rfl) ?_
  refine lv_bipush (v := 12) hx hb dX1_distance_1 (by decide) ?_
  refine lv_idiv hx hb dX1_distance_3 (by decide) ?_
  refine lv_iload_n hx hb dX1_distance_4 rfl (lv_at hl 1 rfl) ?_
  refine lv_bipush (v := 12) hx hb dX1_distance_5 (by decide) ?_
  refine lv_idiv hx hb dX1_distance_7 (by decide) ?_
  refine lv_isub hx hb dX1_distance_8 ?_
  refine va_mabs hx hb (hml.trans hl.1.symm) hown hm_abs_1 hm_abs_2 hm_3 hm_abs_4 (Nat.le_of_ble_eq_true rfl) (Nat.le_of_ble_eq_true rfl) (Nat.le_of_ble_eq_true rfl) (Nat.le_of_ble_eq_true rfl) dX1_distance_9 ?_
  refine tp_eq (y := z_abs ((p1 / 12) - (p2 / 12))) rfl ?_
  refine lv_istore_n (lv' := [(2, .int (z_abs ((p1 / 12) - (p2 / 12)))), (0, .int p1), (1, .int p2)]) hx hb dX1_distance_12 rfl hl (by decide) rfl (fun ls hl => ?_)
  refine lv_iload_n hx hb dX1_distance_13 rfl (lv_at hl 1 rfl) ?_
  refine lv_bipush (v := 12) hx hb dX1_distance_14 (by decide) ?_
  refine lv_irem hx hb dX1_distance_16 (by decide) ?_
  refine lv_iload_n hx hb dX1_distance_17 rfl (lv_at hl 2 rfl) ?_
  refine lv_bipush (v := 12) hx hb dX1_distance_18 (by decide) ?_
  refine lv_irem hx hb dX1_distance_20 (by decide) ?_
  refine lv_isub hx hb dX1_distance_21 ?_
  refine va_mabs hx hb (hml.trans hl.1.symm) hown hm_abs_1 hm_abs_2 hm_3 hm_abs_4 (Nat.le_of_ble_eq_true rfl) (Nat.le_of_ble_eq_true rfl) (Nat.le_of_ble_eq_true rfl) (Nat.le_of_ble_eq_true rfl) dX1_distance_22 ?_
  refine tp_eq (y := z_abs ((p1 - p1 / 12 * 12) - (p2 - p2 / 12 * 12))) rfl ?_
  refine lv_istore_n (lv' := [(3, .int (z_abs ((p1 - p1 / 12 * 12) - (p2 - p2 / 12 * 12)))), (2, .int (z_abs ((p1 / 12) - (p2 / 12)))), (0, .int p1), (1, .int p2)]) hx hb dX1_distance_25 rfl hl (by decide) rfl (fun ls hl => ?_)
  refine lv_iload_n hx hb dX1_distance_26 rfl (lv_at hl 1 rfl) ?_
  refine lv_iload_n hx hb dX1_distance_27 rfl (lv_at hl 0 rfl) ?_
  refine va_mmax hx hb (hml.trans hl.1.symm) hown hm_max_1 hm_max_2 hm_3 hm_max_4 (Nat.le_of_ble_eq_true rfl) (Nat.le_of_ble_eq_true rfl) (Nat.le_of_ble_eq_true rfl) (Nat.le_of_ble_eq_true rfl) dX1_distance_28 ?_
  refine tp_eq (y := z_max (z_abs ((p1 / 12) - (p2 / 12))) (z_abs ((p1 - p1 / 12 * 12) - (p2 - p2 / 12 * 12)))) rfl ?_
  -- leaf 0
  exact W.iret (v := z_max (z_abs ((p1 / 12) - (p2 / 12))) (z_abs ((p1 - p1 / 12 * 12) - (p2 - p2 / 12 * 12)))) hx hb hr (fun t ht hW => ⟨⟨z_max (z_abs ((p1 / 12) - (p2 / 12))) (z_abs ((p1 - p1 / 12 * 12) - (p2 - p2 / 12 * 12))), (), rfl, rfl, trivial⟩, hS.F ht⟩) hS.2.2 dX1_distance_31

noncomputable def f_X1_lineEnters (p1 : Int32) (p2 : Int32) (p3 : Int32) : Int32 := if ((z_abs ((p2 / 12) - (p1 / 12))) + (z_abs ((p2 - p2 / 12 * 12) - (p1 - p1 / 12 * 12)))) ≤ (2 * (z_abs ((((p2 / 12) - (p1 / 12)) * ((p3 - p3 / 12 * 12) - (p1 - p1 / 12 * 12))) - (((p2 - p2 / 12 * 12) - (p1 - p1 / 12 * 12)) * ((p3 / 12) - (p1 / 12)))))) then 0 else 1
set_option maxHeartbeats 4000000 in
set_option maxRecDepth 100000 in
theorem c_X1_lineEnters (l : Launch) (D : va_G) (cI cZ cJ cA : ClassId) (sz : Nat) (p1 : Int32) (p2 : Int32) (p3 : Int32) : Met l yX1_lineEnters wsX1_lineEnters ({ frames := 1, cells := 0, slots := 0, locals := 21 } : Room) (va_Pc [.int p1, .int p2, .int p3] (pcR D (tyL cI cZ cJ cA) [] sz)) (va_Qi (fun (r : Int32) (u : Unit) => r = f_X1_lineEnters p1 p2 p3) (fun _ _ => True) (fun q : Nat => sz ≤ q)) 0 0 (fun q : Nat => sz ≤ q) := by
  refine Met.ofW (cc := cX1_lineEnters) (maxL := 8) (ret := (some .boolean)) (by decide) rfl ?_
  intro p e s m args below meth c s₁ B hml hv
  obtain ⟨rfl, hsz, hP, hK⟩ := hv
  have hx := B.exec
  have hb := B.bytes
  have hr := B.returns
  have hts := atoms_spec (ws := wsX1_lineEnters) B.pre
  have hown : s.vm.findClass RX1 = some m.cls := findClass_of_methodNamed B.named
  have hlocks := B.notSynchronized
  subst hsz
  have hA : ∀ q : Nat, s.heap.size ≤ q → (fun q : Nat => s.heap.size ≤ q) q := fun _ h => h
  have hS : va_S (fun q : Nat => s.heap.size ≤ q) s.heap s.heap [] := va_S.rf
  have hP : va_P D vwCl [] s.heap := hP
  have hl := lv_entry ([.int p1, .int p2, .int p3]) (n := 8) (Nat.le_of_ble_eq_true rfl)
  rw [lg_entry_eq]
  generalize (lg_sl ([.int p1, .int p2, .int p3]) ++ List.replicate (8 - (lg_sl ([.int p1, .int p2, .int p3])).length) Slot.unset).toArray = ls at hl ⊢
  have hl : lv_has ls 8 [(0, .int p1), (1, .int p2), (2, .int p3)] := hl
  have hm_abs_1 := hts (.methodLink RX1 15 Lib.Math.abs.name) (by decide +kernel)
  have hm_abs_2 := hts (.static Lib.Math.abs.name) (by decide +kernel)
  have hm_3 := hts (.initialized "java/lang/Math") (by decide +kernel)
  have hm_abs_4 := hts (.code Lib.Math.abs.name Lib.Math.abs.code 1 (some .int)) (by decide +kernel)
  refine lv_iload_n hx hb dX1_lineEnters_0 rfl (lv_at hl 1 rfl) ?_
  refine lv_bipush (v := 12) hx hb dX1_lineEnters_1 (by decide) ?_
  refine lv_idiv hx hb dX1_lineEnters_3 (by decide) ?_
  refine lv_iload_n hx hb dX1_lineEnters_4 rfl (lv_at hl 0 rfl) ?_
  refine lv_bipush (v := 12) hx hb dX1_lineEnters_5 (by decide) ?_
  refine lv_idiv hx hb dX1_lineEnters_7 (by decide) ?_
  refine lv_isub hx hb dX1_lineEnters_8 ?_
  refine lv_istore_n (lv' := [(3, .int ((p2 / 12) - (p1 / 12))), (0, .int p1), (1, .int p2), (2, .int p3)]) hx hb dX1_lineEnters_9 rfl hl (by decide) rfl (fun ls hl => ?_)
  refine lv_iload_n hx hb dX1_lineEnters_10 rfl (lv_at hl 2 rfl) ?_
  refine lv_bipush (v := 12) hx hb dX1_lineEnters_11 (by decide) ?_
  refine lv_irem hx hb dX1_lineEnters_13 (by decide) ?_
  refine lv_iload_n hx hb dX1_lineEnters_14 rfl (lv_at hl 1 rfl) ?_
  refine lv_bipush (v := 12) hx hb dX1_lineEnters_15 (by decide) ?_
  refine lv_irem hx hb dX1_lineEnters_17 (by decide) ?_
  refine lv_isub hx hb dX1_lineEnters_18 ?_
  refine lv_istore (lv' := [(4, .int ((p2 - p2 / 12 * 12) - (p1 - p1 / 12 * 12))), (3, .int ((p2 / 12) - (p1 / 12))), (0, .int p1), (1, .int p2), (2, .int p3)]) hx hb dX1_lineEnters_19 hl (by decide) rfl (fun ls hl => ?_)
  refine lv_iload_n hx hb dX1_lineEnters_21 rfl (lv_at hl 4 rfl) ?_
  refine lv_bipush (v := 12) hx hb dX1_lineEnters_22 (by decide) ?_
  refine lv_idiv hx hb dX1_lineEnters_24 (by decide) ?_
  refine lv_iload_n hx hb dX1_lineEnters_25 rfl (lv_at hl 2 rfl) ?_
  refine lv_bipush (v := 12) hx hb dX1_lineEnters_26 (by decide) ?_
  refine lv_idiv hx hb dX1_lineEnters_28 (by decide) ?_
  refine lv_isub hx hb dX1_lineEnters_29 ?_
  refine lv_istore (lv' := [(5, .int ((p3 / 12) - (p1 / 12))), (4, .int ((p2 - p2 / 12 * 12) - (p1 - p1 / 12 * 12))), (3, .int ((p2 / 12) - (p1 / 12))), (0, .int p1), (1, .int p2), (2, .int p3)]) hx hb dX1_lineEnters_30 hl (by decide) rfl (fun ls hl => ?_)
  refine lv_iload_n hx hb dX1_lineEnters_32 rfl (lv_at hl 5 rfl) ?_
  refine lv_bipush (v := 12) hx hb dX1_lineEnters_33 (by decide) ?_
  refine lv_irem hx hb dX1_lineEnters_35 (by decide) ?_
  refine lv_iload_n hx hb dX1_lineEnters_36 rfl (lv_at hl 3 rfl) ?_
  refine lv_bipush (v := 12) hx hb dX1_lineEnters_37 (by decide) ?_
  refine lv_irem hx hb dX1_lineEnters_39 (by decide) ?_
  refine lv_isub hx hb dX1_lineEnters_40 ?_
  refine lv_istore (lv' := [(6, .int ((p3 - p3 / 12 * 12) - (p1 - p1 / 12 * 12))), (5, .int ((p3 / 12) - (p1 / 12))), (4, .int ((p2 - p2 / 12 * 12) - (p1 - p1 / 12 * 12))), (3, .int ((p2 / 12) - (p1 / 12))), (0, .int p1), (1, .int p2), (2, .int p3)]) hx hb dX1_lineEnters_41 hl (by decide) rfl (fun ls hl => ?_)
  refine lv_iload_n hx hb dX1_lineEnters_43 rfl (lv_at hl 3 rfl) ?_
  refine lv_iload hx hb dX1_lineEnters_44 (lv_at hl 0 rfl) ?_
  refine lv_imul hx hb dX1_lineEnters_46 ?_
  refine lv_iload hx hb dX1_lineEnters_47 (lv_at hl 2 rfl) ?_
  refine lv_iload hx hb dX1_lineEnters_49 (lv_at hl 1 rfl) ?_
  refine lv_imul hx hb dX1_lineEnters_51 ?_
  refine lv_isub hx hb dX1_lineEnters_52 ?_
  refine lv_istore (lv' := [(7, .int ((((p2 / 12) - (p1 / 12)) * ((p3 - p3 / 12 * 12) - (p1 - p1 / 12 * 12))) - (((p2 - p2 / 12 * 12) - (p1 - p1 / 12 * 12)) * ((p3 / 12) - (p1 / 12))))), (6, .int ((p3 - p3 / 12 * 12) - (p1 - p1 / 12 * 12))), (5, .int ((p3 / 12) - (p1 / 12))), (4, .int ((p2 - p2 / 12 * 12) - (p1 - p1 / 12 * 12))), (3, .int ((p2 / 12) - (p1 / 12))), (0, .int p1), (1, .int p2), (2, .int p3)]) hx hb dX1_lineEnters_53 hl (by decide) rfl (fun ls hl => ?_)
  refine lv_iconst (v := 2) hx hb dX1_lineEnters_55 (by decide) ?_
  refine lv_iload hx hb dX1_lineEnters_56 (lv_at hl 0 rfl) ?_
  refine va_mabs hx hb (hml.trans hl.1.symm) hown hm_abs_1 hm_abs_2 hm_3 hm_abs_4 (Nat.le_of_ble_eq_true rfl) (Nat.le_of_ble_eq_true rfl) (Nat.le_of_ble_eq_true rfl) (Nat.le_of_ble_eq_true rfl) dX1_lineEnters_58 ?_
  refine tp_eq (y := z_abs ((((p2 / 12) - (p1 / 12)) * ((p3 - p3 / 12 * 12) - (p1 - p1 / 12 * 12))) - (((p2 - p2 / 12 * 12) - (p1 - p1 / 12 * 12)) * ((p3 / 12) - (p1 / 12))))) rfl ?_
  refine lv_imul hx hb dX1_lineEnters_61 ?_
  refine lv_iload_n hx hb dX1_lineEnters_62 rfl (lv_at hl 4 rfl) ?_
  refine va_mabs hx hb (hml.trans hl.1.symm) hown hm_abs_1 hm_abs_2 hm_3 hm_abs_4 (Nat.le_of_ble_eq_true rfl) (Nat.le_of_ble_eq_true rfl) (Nat.le_of_ble_eq_true rfl) (Nat.le_of_ble_eq_true rfl) dX1_lineEnters_63 ?_
  refine tp_eq (y := z_abs ((p2 / 12) - (p1 / 12))) rfl ?_
  refine lv_iload hx hb dX1_lineEnters_66 (lv_at hl 3 rfl) ?_
  refine va_mabs hx hb (hml.trans hl.1.symm) hown hm_abs_1 hm_abs_2 hm_3 hm_abs_4 (Nat.le_of_ble_eq_true rfl) (Nat.le_of_ble_eq_true rfl) (Nat.le_of_ble_eq_true rfl) (Nat.le_of_ble_eq_true rfl) dX1_lineEnters_68 ?_
  refine tp_eq (y := z_abs ((p2 - p2 / 12 * 12) - (p1 - p1 / 12 * 12))) rfl ?_
  refine lv_iadd hx hb dX1_lineEnters_71 ?_
  refine lv_icmp_ge (tgt := 79) hx hb dX1_lineEnters_72 (by decide) (fun c_1 => ?_) (fun c_1 => ?_)
  · refine lv_iconst (v := 0) hx hb dX1_lineEnters_79 (by decide) ?_
    -- leaf 0
    exact W.zret (v := 0) (ty := .boolean) hx hb hr rfl (fun t ht hW => ⟨⟨0, (), rfl, (by rw [f_X1_lineEnters, if_pos c_1]), trivial⟩, hS.F ht⟩) hS.2.2 dX1_lineEnters_80
  · refine lv_iconst (v := 1) hx hb dX1_lineEnters_75 (by decide) ?_
    refine lv_goto (tgt := 80) hx hb dX1_lineEnters_76 (by decide) ?_
    -- leaf 1
    exact W.zret (v := 1) (ty := .boolean) hx hb hr rfl (fun t ht hW => ⟨⟨1, (), rfl, (by rw [f_X1_lineEnters, if_neg c_1]), trivial⟩, hS.F ht⟩) hS.2.2 dX1_lineEnters_80

set_option maxHeartbeats 4000000 in
set_option maxRecDepth 100000 in
theorem c_X1_hasBunker (l : Launch) (D : va_G) (cI cZ cJ cA : ClassId) (sz : Nat) (a : Nat → Nat) (bk : Nat → Int32) (p1 : Int32) (h1 : vp_in p1 144) (hz : ∀ j : Nat, bk j = 0 ∨ bk j = 1) : Met l yX1_hasBunker wsX1_hasBunker ({ frames := 0, cells := 0, slots := 0, locals := 0 } : Room) (va_Pc [.ref (a 2), .int p1] (pcR D (tyL cI cZ cJ cA) [((a 2), .inr (1, [.ref (a 3)])), ((a 3), .inl (cZ, 144, .inl bk))] sz)) (va_Qi (fun (r : Int32) (u : Unit) => r = bk p1.toNatClampNeg) (fun _ _ => True) (fun q : Nat => sz ≤ q)) 0 0 (fun q : Nat => sz ≤ q) := by
  refine Met.ofW (cc := cX1_hasBunker) (maxL := 2) (ret := (some .boolean)) (by decide) rfl ?_
  intro p e s m args below meth c s₁ B hml hv
  obtain ⟨rfl, hsz, hP, hK⟩ := hv
  have hx := B.exec
  have hb := B.bytes
  have hr := B.returns
  have hts := atoms_spec (ws := wsX1_hasBunker) B.pre
  have hown : s.vm.findClass RX1 = some m.cls := findClass_of_methodNamed B.named
  have hlocks := B.notSynchronized
  subst hsz
  have hA : ∀ q : Nat, s.heap.size ≤ q → (fun q : Nat => s.heap.size ≤ q) q := fun _ h => h
  have hS : va_S (fun q : Nat => s.heap.size ≤ q) s.heap s.heap [] := va_S.rf
  have hP : va_P D vwCl [((a 2), .inr (1, [.ref (a 3)])), ((a 3), .inl (cZ, 144, .inl bk))] s.heap := hP
  have hl := lv_entry ([.ref (a 2), .int p1]) (n := 2) (Nat.le_of_ble_eq_true rfl)
  rw [lg_entry_eq]
  generalize (lg_sl ([.ref (a 2), .int p1]) ++ List.replicate (2 - (lg_sl ([.ref (a 2), .int p1])).length) Slot.unset).toArray = ls at hl ⊢
  have hl : lv_has ls 2 [(0, .ref (a 2)), (1, .int p1)] := hl
  have hf_9 := hts (.fieldLink RX1 9 "PaintballAtlas$Field" "bunkers" "[Z") (by decide +kernel)
  have hi_X1 : ∀ w ∈ wsX10, w ∈ wsX1_hasBunker := by decide +kernel
  refine lv_aload_n hx hb dX1_hasBunker_0 rfl (lv_at hl 0 rfl) ?_
  refine va_get (D := D) (ci := 1) (v := .ref (a 3)) (C := RX1) (T := TX1) (N := 1) hx hb hts hi_X1 hown hK hP 0 rfl rfl 0 (by decide) hf_9 (fun _ h9 => h9) rfl dX1_hasBunker_1 ?_
  refine lv_iload_n hx hb dX1_hasBunker_4 rfl (lv_at hl 1 rfl) ?_
  refine va_zald hx hb hK hP 1 1 rfl rfl (by assumption) dX1_hasBunker_5 ?_
  -- leaf 0
  exact W.zret (v := bk p1.toNatClampNeg) (ty := .boolean) hx hb hr (nz01 (hz _)) (fun t ht hW => ⟨⟨bk p1.toNatClampNeg, (), rfl, rfl, trivial⟩, hS.F ht⟩) hS.2.2 dX1_hasBunker_6

noncomputable def f_X1_turnBunker (bk : Nat → Int32) (p1 : Int32) : Int32 := if (bk p1.toNatClampNeg) = 0 then (upd bk p1.toNatClampNeg 1) p1.toNatClampNeg else (upd bk p1.toNatClampNeg 0) p1.toNatClampNeg
noncomputable def g_bk_X1_turnBunker (bk : Nat → Int32) (p1 : Int32) : Nat → Int32 := if (bk p1.toNatClampNeg) = 0 then upd bk p1.toNatClampNeg 1 else upd bk p1.toNatClampNeg 0
set_option maxHeartbeats 4000000 in
set_option maxRecDepth 100000 in
theorem c_X1_turnBunker (l : Launch) (D : va_G) (cI cZ cJ cA : ClassId) (sz : Nat) (a : Nat → Nat) (bk : Nat → Int32) (p1 : Int32) (h1 : vp_in p1 144) : Met l yX1_turnBunker wsX1_turnBunker ({ frames := 0, cells := 0, slots := 0, locals := 0 } : Room) (va_Pc [.ref (a 2), .int p1] (pcW D (tyL cI cZ cJ cA) [((a 2), .inr (1, [.ref (a 3)])), ((a 3), .inl (cZ, 144, .inl bk))] sz)) (va_Qi (fun (r : Int32) (u : (Nat → Int32)) => r = f_X1_turnBunker bk p1 ∧ u = g_bk_X1_turnBunker bk p1) (fun u t => bcW D (tyL cI cZ cJ cA) (va_A [((a 2), .inr (1, [.ref (a 3)])), ((a 3), .inl (cZ, 144, .inl bk))] sz) [((a 2), .inr (1, [.ref (a 3)])), ((a 3), .inl (cZ, 144, .inl u))] t) (va_A [((a 2), .inr (1, [.ref (a 3)])), ((a 3), .inl (cZ, 144, .inl bk))] sz)) 0 0 (va_A [((a 2), .inr (1, [.ref (a 3)])), ((a 3), .inl (cZ, 144, .inl bk))] sz) := by
  refine Met.ofW (cc := cX1_turnBunker) (maxL := 2) (ret := (some .boolean)) (by decide) rfl ?_
  intro p e s m args below meth c s₁ B hml hv
  obtain ⟨rfl, hsz, hP, hK, hD0⟩ := hv
  have hx := B.exec
  have hb := B.bytes
  have hr := B.returns
  have hts := atoms_spec (ws := wsX1_turnBunker) B.pre
  have hown : s.vm.findClass RX1 = some m.cls := findClass_of_methodNamed B.named
  have hlocks := B.notSynchronized
  subst hsz
  have hD := hD0.self (sz := s.heap.size)
  generalize hAe : va_A [((a 2), .inr (1, [.ref (a 3)])), ((a 3), .inl (cZ, 144, .inl bk))] s.heap.size = A at hD ⊢
  have hA : ∀ q : Nat, s.heap.size ≤ q → A q := fun q h => by rw [← hAe]; exact Or.inr h
  have hAR : ∀ q : Nat, s.heap.size ≤ q → (fun q : Nat => s.heap.size ≤ q) q := fun _ h => h
  have hS : va_S A s.heap s.heap [] := va_S.rf
  have hP : va_P D vwCl [((a 2), .inr (1, [.ref (a 3)])), ((a 3), .inl (cZ, 144, .inl bk))] s.heap := hP
  have hl := lv_entry ([.ref (a 2), .int p1]) (n := 2) (Nat.le_of_ble_eq_true rfl)
  rw [lg_entry_eq]
  generalize (lg_sl ([.ref (a 2), .int p1]) ++ List.replicate (2 - (lg_sl ([.ref (a 2), .int p1])).length) Slot.unset).toArray = ls at hl ⊢
  have hl : lv_has ls 2 [(0, .ref (a 2)), (1, .int p1)] := hl
  have hf_9 := hts (.fieldLink RX1 9 "PaintballAtlas$Field" "bunkers" "[Z") (by decide +kernel)
  have hi_X1 : ∀ w ∈ wsX10, w ∈ wsX1_turnBunker := by decide +kernel
  refine lv_aload_n hx hb dX1_turnBunker_0 rfl (lv_at hl 0 rfl) ?_
  refine va_get (D := D) (ci := 1) (v := .ref (a 3)) (C := RX1) (T := TX1) (N := 1) hx hb hts hi_X1 hown hK hP 0 rfl rfl 0 (by decide) hf_9 (fun _ h9 => h9) rfl dX1_turnBunker_1 ?_
  refine lv_iload_n hx hb dX1_turnBunker_4 rfl (lv_at hl 1 rfl) ?_
  refine lv_aload_n hx hb dX1_turnBunker_5 rfl (lv_at hl 0 rfl) ?_
  refine va_get (D := D) (ci := 1) (v := .ref (a 3)) (C := RX1) (T := TX1) (N := 1) hx hb hts hi_X1 hown hK hP 0 rfl rfl 0 (by decide) hf_9 (fun _ h9 => h9) rfl dX1_turnBunker_6 ?_
  refine lv_iload_n hx hb dX1_turnBunker_9 rfl (lv_at hl 1 rfl) ?_
  refine va_zald hx hb hK hP 1 1 rfl rfl (by assumption) dX1_turnBunker_10 ?_
  refine lv_if_ne (tgt := 18) hx hb dX1_turnBunker_11 (by decide) (fun c_1 => ?_) (fun c_1 => ?_)
  · refine lv_iconst (v := 0) hx hb dX1_turnBunker_18 (by decide) ?_
    refine va_zast hx hb hK hP hD hS 1 1 rfl rfl (by assumption) dX1_turnBunker_19 (fun H locs hP hD hS => ?_)
    have hP : va_P D vwCl [((a 2), .inr (1, [.ref (a 3)])), ((a 3), .inl (cZ, 144, .inl (upd bk p1.toNatClampNeg 0)))] H := hP
    have hD : va_D A [((a 2), .inr (1, [.ref (a 3)])), ((a 3), .inl (cZ, 144, .inl (upd bk p1.toNatClampNeg 0)))] := hD
    refine lv_aload_n hx hb dX1_turnBunker_20 rfl (lv_at hl 0 rfl) ?_
    refine va_get (D := D) (ci := 1) (v := .ref (a 3)) (C := RX1) (T := TX1) (N := 1) hx hb hts hi_X1 hown hK hP 0 rfl rfl 0 (by decide) hf_9 (fun _ h9 => h9) rfl dX1_turnBunker_21 ?_
    refine lv_iload_n hx hb dX1_turnBunker_24 rfl (lv_at hl 1 rfl) ?_
    refine va_zald hx hb hK hP 1 1 rfl rfl (by assumption) dX1_turnBunker_25 ?_
    have hP9 := hP.sub (ws' := [((a 2), .inr (1, [.ref (a 3)])), ((a 3), .inl (cZ, 144, .inl (upd bk p1.toNatClampNeg 0)))]) [0, 1] rfl
    have hD9 := hD.sub (ws' := [((a 2), .inr (1, [.ref (a 3)])), ((a 3), .inl (cZ, 144, .inl (upd bk p1.toNatClampNeg 0)))]) [0, 1] (by decide) rfl
    -- leaf 0
    exact W.zret (v := (upd bk p1.toNatClampNeg 0) p1.toNatClampNeg) (ty := .boolean) hx hb hr (nz01 (by simp [upd])) (fun t ht hW => ⟨⟨(upd bk p1.toNatClampNeg 0) p1.toNatClampNeg, (upd bk p1.toNatClampNeg 0), rfl, ⟨(by rw [f_X1_turnBunker, if_neg c_1]), (by rw [g_bk_X1_turnBunker, if_neg c_1])⟩, by rw [ht]; exact hP9, va_K.moved hW.alike hK, hD9⟩, hS.F ht⟩) hS.2.2 dX1_turnBunker_26
  · refine lv_iconst (v := 1) hx hb dX1_turnBunker_14 (by decide) ?_
    refine lv_goto (tgt := 19) hx hb dX1_turnBunker_15 (by decide) ?_
    refine va_zast hx hb hK hP hD hS 1 1 rfl rfl (by assumption) dX1_turnBunker_19 (fun H locs hP hD hS => ?_)
    have hP : va_P D vwCl [((a 2), .inr (1, [.ref (a 3)])), ((a 3), .inl (cZ, 144, .inl (upd bk p1.toNatClampNeg 1)))] H := hP
    have hD : va_D A [((a 2), .inr (1, [.ref (a 3)])), ((a 3), .inl (cZ, 144, .inl (upd bk p1.toNatClampNeg 1)))] := hD
    refine lv_aload_n hx hb dX1_turnBunker_20 rfl (lv_at hl 0 rfl) ?_
    refine va_get (D := D) (ci := 1) (v := .ref (a 3)) (C := RX1) (T := TX1) (N := 1) hx hb hts hi_X1 hown hK hP 0 rfl rfl 0 (by decide) hf_9 (fun _ h9 => h9) rfl dX1_turnBunker_21 ?_
    refine lv_iload_n hx hb dX1_turnBunker_24 rfl (lv_at hl 1 rfl) ?_
    refine va_zald hx hb hK hP 1 1 rfl rfl (by assumption) dX1_turnBunker_25 ?_
    have hP9 := hP.sub (ws' := [((a 2), .inr (1, [.ref (a 3)])), ((a 3), .inl (cZ, 144, .inl (upd bk p1.toNatClampNeg 1)))]) [0, 1] rfl
    have hD9 := hD.sub (ws' := [((a 2), .inr (1, [.ref (a 3)])), ((a 3), .inl (cZ, 144, .inl (upd bk p1.toNatClampNeg 1)))]) [0, 1] (by decide) rfl
    -- leaf 1
    exact W.zret (v := (upd bk p1.toNatClampNeg 1) p1.toNatClampNeg) (ty := .boolean) hx hb hr (nz01 (by simp [upd])) (fun t ht hW => ⟨⟨(upd bk p1.toNatClampNeg 1) p1.toNatClampNeg, (upd bk p1.toNatClampNeg 1), rfl, ⟨(by rw [f_X1_turnBunker, if_pos c_1]), (by rw [g_bk_X1_turnBunker, if_pos c_1])⟩, by rw [ht]; exact hP9, va_K.moved hW.alike hK, hD9⟩, hS.F ht⟩) hS.2.2 dX1_turnBunker_26

noncomputable def f_X2_isPlayed (hm : Int32) (aw : Int32) (tk : Int32) : Int32 := if tk = (-1) then 0 else 1
set_option maxHeartbeats 4000000 in
set_option maxRecDepth 100000 in
theorem c_X2_isPlayed (l : Launch) (D : va_G) (cI cZ cJ cA : ClassId) (sz : Nat) (a : Nat → Nat) (hm : Int32) (aw : Int32) (tk : Int32) : Met l yX2_isPlayed wsX2_isPlayed ({ frames := 0, cells := 0, slots := 0, locals := 0 } : Room) (va_Pc [.ref (a 4)] (pcR D (tyL cI cZ cJ cA) [((a 4), .inr (2, [.int hm, .int aw, .int tk, .ref (a 5), .ref (a 6), .ref (a 7), .ref (a 8), .ref (a 13)]))] sz)) (va_Qi (fun (r : Int32) (u : Unit) => r = f_X2_isPlayed hm aw tk) (fun _ _ => True) (fun q : Nat => sz ≤ q)) 0 0 (fun q : Nat => sz ≤ q) := by
  refine Met.ofW (cc := cX2_isPlayed) (maxL := 1) (ret := (some .boolean)) (by decide) rfl ?_
  intro p e s m args below meth c s₁ B hml hv
  obtain ⟨rfl, hsz, hP, hK⟩ := hv
  have hx := B.exec
  have hb := B.bytes
  have hr := B.returns
  have hts := atoms_spec (ws := wsX2_isPlayed) B.pre
  have hown : s.vm.findClass RX2 = some m.cls := findClass_of_methodNamed B.named
  have hlocks := B.notSynchronized
  subst hsz
  have hA : ∀ q : Nat, s.heap.size ≤ q → (fun q : Nat => s.heap.size ≤ q) q := fun _ h => h
  have hS : va_S (fun q : Nat => s.heap.size ≤ q) s.heap s.heap [] := va_S.rf
  have hP : va_P D vwCl [((a 4), .inr (2, [.int hm, .int aw, .int tk, .ref (a 5), .ref (a 6), .ref (a 7), .ref (a 8), .ref (a 13)]))] s.heap := hP
  have hl := lv_entry ([.ref (a 4)]) (n := 1) (Nat.le_of_ble_eq_true rfl)
  rw [lg_entry_eq]
  generalize (lg_sl ([.ref (a 4)]) ++ List.replicate (1 - (lg_sl ([.ref (a 4)])).length) Slot.unset).toArray = ls at hl ⊢
  have hl : lv_has ls 1 [(0, .ref (a 4))] := hl
  have hf_9 := hts (.fieldLink RX2 9 "PaintballAtlas$Round" "tick" "I") (by decide +kernel)
  have hi_X2 : ∀ w ∈ wsX20, w ∈ wsX2_isPlayed := by decide +kernel
  refine lv_aload_n hx hb dX2_isPlayed_0 rfl (lv_at hl 0 rfl) ?_
  refine va_get (D := D) (ci := 2) (v := .int tk) (C := RX2) (T := TX2) (N := 8) hx hb hts hi_X2 hown hK hP 0 rfl rfl 2 (by decide) hf_9 (fun _ h9 => h9) rfl dX2_isPlayed_1 ?_
  refine lv_iconst (v := (-1)) hx hb dX2_isPlayed_4 (by decide) ?_
  refine lv_icmp_eq (tgt := 12) hx hb dX2_isPlayed_5 (by decide) (fun c_1 => ?_) (fun c_1 => ?_)
  · refine lv_iconst (v := 0) hx hb dX2_isPlayed_12 (by decide) ?_
    -- leaf 0
    exact W.zret (v := 0) (ty := .boolean) hx hb hr rfl (fun t ht hW => ⟨⟨0, (), rfl, (by rw [f_X2_isPlayed, if_pos c_1]), trivial⟩, hS.F ht⟩) hS.2.2 dX2_isPlayed_13
  · refine lv_iconst (v := 1) hx hb dX2_isPlayed_8 (by decide) ?_
    refine lv_goto (tgt := 13) hx hb dX2_isPlayed_9 (by decide) ?_
    -- leaf 1
    exact W.zret (v := 1) (ty := .boolean) hx hb hr rfl (fun t ht hW => ⟨⟨1, (), rfl, (by rw [f_X2_isPlayed, if_neg c_1]), trivial⟩, hS.F ht⟩) hS.2.2 dX2_isPlayed_13

set_option maxHeartbeats 4000000 in
set_option maxRecDepth 100000 in
theorem c_X2_time (l : Launch) (D : va_G) (cI cZ cJ cA : ClassId) (sz : Nat) (a : Nat → Nat) (hm : Int32) (aw : Int32) (tk : Int32) : Met l yX2_time wsX2_time ({ frames := 0, cells := 0, slots := 0, locals := 0 } : Room) (va_Pc [.ref (a 4)] (pcR D (tyL cI cZ cJ cA) [((a 4), .inr (2, [.int hm, .int aw, .int tk, .ref (a 5), .ref (a 6), .ref (a 7), .ref (a 8), .ref (a 13)]))] sz)) (va_Qi (fun (r : Int32) (u : Unit) => r = tk) (fun _ _ => True) (fun q : Nat => sz ≤ q)) 0 0 (fun q : Nat => sz ≤ q) := by
  refine Met.ofW (cc := cX2_time) (maxL := 1) (ret := (some .int)) (by decide) rfl ?_
  intro p e s m args below meth c s₁ B hml hv
  obtain ⟨rfl, hsz, hP, hK⟩ := hv
  have hx := B.exec
  have hb := B.bytes
  have hr := B.returns
  have hts := atoms_spec (ws := wsX2_time) B.pre
  have hown : s.vm.findClass RX2 = some m.cls := findClass_of_methodNamed B.named
  have hlocks := B.notSynchronized
  subst hsz
  have hA : ∀ q : Nat, s.heap.size ≤ q → (fun q : Nat => s.heap.size ≤ q) q := fun _ h => h
  have hS : va_S (fun q : Nat => s.heap.size ≤ q) s.heap s.heap [] := va_S.rf
  have hP : va_P D vwCl [((a 4), .inr (2, [.int hm, .int aw, .int tk, .ref (a 5), .ref (a 6), .ref (a 7), .ref (a 8), .ref (a 13)]))] s.heap := hP
  have hl := lv_entry ([.ref (a 4)]) (n := 1) (Nat.le_of_ble_eq_true rfl)
  rw [lg_entry_eq]
  generalize (lg_sl ([.ref (a 4)]) ++ List.replicate (1 - (lg_sl ([.ref (a 4)])).length) Slot.unset).toArray = ls at hl ⊢
  have hl : lv_has ls 1 [(0, .ref (a 4))] := hl
  have hf_9 := hts (.fieldLink RX2 9 "PaintballAtlas$Round" "tick" "I") (by decide +kernel)
  have hi_X2 : ∀ w ∈ wsX20, w ∈ wsX2_time := by decide +kernel
  refine lv_aload_n hx hb dX2_time_0 rfl (lv_at hl 0 rfl) ?_
  refine va_get (D := D) (ci := 2) (v := .int tk) (C := RX2) (T := TX2) (N := 8) hx hb hts hi_X2 hown hK hP 0 rfl rfl 2 (by decide) hf_9 (fun _ h9 => h9) rfl dX2_time_1 ?_
  -- leaf 0
  exact W.iret (v := tk) hx hb hr (fun t ht hW => ⟨⟨tk, (), rfl, rfl, trivial⟩, hS.F ht⟩) hS.2.2 dX2_time_4

set_option maxHeartbeats 4000000 in
set_option maxRecDepth 100000 in
theorem c_X2_homeTeam (l : Launch) (D : va_G) (cI cZ cJ cA : ClassId) (sz : Nat) (a : Nat → Nat) (hm : Int32) (aw : Int32) (tk : Int32) : Met l yX2_homeTeam wsX2_homeTeam ({ frames := 0, cells := 0, slots := 0, locals := 0 } : Room) (va_Pc [.ref (a 4)] (pcR D (tyL cI cZ cJ cA) [((a 4), .inr (2, [.int hm, .int aw, .int tk, .ref (a 5), .ref (a 6), .ref (a 7), .ref (a 8), .ref (a 13)]))] sz)) (va_Qi (fun (r : Int32) (u : Unit) => r = hm) (fun _ _ => True) (fun q : Nat => sz ≤ q)) 0 0 (fun q : Nat => sz ≤ q) := by
  refine Met.ofW (cc := cX2_homeTeam) (maxL := 1) (ret := (some .int)) (by decide) rfl ?_
  intro p e s m args below meth c s₁ B hml hv
  obtain ⟨rfl, hsz, hP, hK⟩ := hv
  have hx := B.exec
  have hb := B.bytes
  have hr := B.returns
  have hts := atoms_spec (ws := wsX2_homeTeam) B.pre
  have hown : s.vm.findClass RX2 = some m.cls := findClass_of_methodNamed B.named
  have hlocks := B.notSynchronized
  subst hsz
  have hA : ∀ q : Nat, s.heap.size ≤ q → (fun q : Nat => s.heap.size ≤ q) q := fun _ h => h
  have hS : va_S (fun q : Nat => s.heap.size ≤ q) s.heap s.heap [] := va_S.rf
  have hP : va_P D vwCl [((a 4), .inr (2, [.int hm, .int aw, .int tk, .ref (a 5), .ref (a 6), .ref (a 7), .ref (a 8), .ref (a 13)]))] s.heap := hP
  have hl := lv_entry ([.ref (a 4)]) (n := 1) (Nat.le_of_ble_eq_true rfl)
  rw [lg_entry_eq]
  generalize (lg_sl ([.ref (a 4)]) ++ List.replicate (1 - (lg_sl ([.ref (a 4)])).length) Slot.unset).toArray = ls at hl ⊢
  have hl : lv_has ls 1 [(0, .ref (a 4))] := hl
  have hf_43 := hts (.fieldLink RX2 43 "PaintballAtlas$Round" "home" "I") (by decide +kernel)
  have hi_X2 : ∀ w ∈ wsX20, w ∈ wsX2_homeTeam := by decide +kernel
  refine lv_aload_n hx hb dX2_homeTeam_0 rfl (lv_at hl 0 rfl) ?_
  refine va_get (D := D) (ci := 2) (v := .int hm) (C := RX2) (T := TX2) (N := 8) hx hb hts hi_X2 hown hK hP 0 rfl rfl 0 (by decide) hf_43 (fun _ h9 => h9) rfl dX2_homeTeam_1 ?_
  -- leaf 0
  exact W.iret (v := hm) hx hb hr (fun t ht hW => ⟨⟨hm, (), rfl, rfl, trivial⟩, hS.F ht⟩) hS.2.2 dX2_homeTeam_4

set_option maxHeartbeats 4000000 in
set_option maxRecDepth 100000 in
theorem c_X2_awayTeam (l : Launch) (D : va_G) (cI cZ cJ cA : ClassId) (sz : Nat) (a : Nat → Nat) (hm : Int32) (aw : Int32) (tk : Int32) : Met l yX2_awayTeam wsX2_awayTeam ({ frames := 0, cells := 0, slots := 0, locals := 0 } : Room) (va_Pc [.ref (a 4)] (pcR D (tyL cI cZ cJ cA) [((a 4), .inr (2, [.int hm, .int aw, .int tk, .ref (a 5), .ref (a 6), .ref (a 7), .ref (a 8), .ref (a 13)]))] sz)) (va_Qi (fun (r : Int32) (u : Unit) => r = aw) (fun _ _ => True) (fun q : Nat => sz ≤ q)) 0 0 (fun q : Nat => sz ≤ q) := by
  refine Met.ofW (cc := cX2_awayTeam) (maxL := 1) (ret := (some .int)) (by decide) rfl ?_
  intro p e s m args below meth c s₁ B hml hv
  obtain ⟨rfl, hsz, hP, hK⟩ := hv
  have hx := B.exec
  have hb := B.bytes
  have hr := B.returns
  have hts := atoms_spec (ws := wsX2_awayTeam) B.pre
  have hown : s.vm.findClass RX2 = some m.cls := findClass_of_methodNamed B.named
  have hlocks := B.notSynchronized
  subst hsz
  have hA : ∀ q : Nat, s.heap.size ≤ q → (fun q : Nat => s.heap.size ≤ q) q := fun _ h => h
  have hS : va_S (fun q : Nat => s.heap.size ≤ q) s.heap s.heap [] := va_S.rf
  have hP : va_P D vwCl [((a 4), .inr (2, [.int hm, .int aw, .int tk, .ref (a 5), .ref (a 6), .ref (a 7), .ref (a 8), .ref (a 13)]))] s.heap := hP
  have hl := lv_entry ([.ref (a 4)]) (n := 1) (Nat.le_of_ble_eq_true rfl)
  rw [lg_entry_eq]
  generalize (lg_sl ([.ref (a 4)]) ++ List.replicate (1 - (lg_sl ([.ref (a 4)])).length) Slot.unset).toArray = ls at hl ⊢
  have hl : lv_has ls 1 [(0, .ref (a 4))] := hl
  have hf_46 := hts (.fieldLink RX2 46 "PaintballAtlas$Round" "away" "I") (by decide +kernel)
  have hi_X2 : ∀ w ∈ wsX20, w ∈ wsX2_awayTeam := by decide +kernel
  refine lv_aload_n hx hb dX2_awayTeam_0 rfl (lv_at hl 0 rfl) ?_
  refine va_get (D := D) (ci := 2) (v := .int aw) (C := RX2) (T := TX2) (N := 8) hx hb hts hi_X2 hown hK hP 0 rfl rfl 1 (by decide) hf_46 (fun _ h9 => h9) rfl dX2_awayTeam_1 ?_
  -- leaf 0
  exact W.iret (v := aw) hx hb hr (fun t ht hW => ⟨⟨aw, (), rfl, rfl, trivial⟩, hS.F ht⟩) hS.2.2 dX2_awayTeam_4

set_option maxHeartbeats 4000000 in
set_option maxRecDepth 100000 in
theorem c_X2_cellOf (l : Launch) (D : va_G) (cI cZ cJ cA : ClassId) (sz : Nat) (a : Nat → Nat) (hm : Int32) (aw : Int32) (tk : Int32) (ce : Nat → Int32) (p1 : Int32) (h1 : vp_in p1 6) : Met l yX2_cellOf wsX2_cellOf ({ frames := 0, cells := 0, slots := 0, locals := 0 } : Room) (va_Pc [.ref (a 4), .int p1] (pcR D (tyL cI cZ cJ cA) [((a 4), .inr (2, [.int hm, .int aw, .int tk, .ref (a 5), .ref (a 6), .ref (a 7), .ref (a 8), .ref (a 13)])), ((a 5), .inl (cI, 6, .inl ce))] sz)) (va_Qi (fun (r : Int32) (u : Unit) => r = ce p1.toNatClampNeg) (fun _ _ => True) (fun q : Nat => sz ≤ q)) 0 0 (fun q : Nat => sz ≤ q) := by
  refine Met.ofW (cc := cX2_cellOf) (maxL := 2) (ret := (some .int)) (by decide) rfl ?_
  intro p e s m args below meth c s₁ B hml hv
  obtain ⟨rfl, hsz, hP, hK⟩ := hv
  have hx := B.exec
  have hb := B.bytes
  have hr := B.returns
  have hts := atoms_spec (ws := wsX2_cellOf) B.pre
  have hown : s.vm.findClass RX2 = some m.cls := findClass_of_methodNamed B.named
  have hlocks := B.notSynchronized
  subst hsz
  have hA : ∀ q : Nat, s.heap.size ≤ q → (fun q : Nat => s.heap.size ≤ q) q := fun _ h => h
  have hS : va_S (fun q : Nat => s.heap.size ≤ q) s.heap s.heap [] := va_S.rf
  have hP : va_P D vwCl [((a 4), .inr (2, [.int hm, .int aw, .int tk, .ref (a 5), .ref (a 6), .ref (a 7), .ref (a 8), .ref (a 13)])), ((a 5), .inl (cI, 6, .inl ce))] s.heap := hP
  have hl := lv_entry ([.ref (a 4), .int p1]) (n := 2) (Nat.le_of_ble_eq_true rfl)
  rw [lg_entry_eq]
  generalize (lg_sl ([.ref (a 4), .int p1]) ++ List.replicate (2 - (lg_sl ([.ref (a 4), .int p1])).length) Slot.unset).toArray = ls at hl ⊢
  have hl : lv_has ls 2 [(0, .ref (a 4)), (1, .int p1)] := hl
  have hf_15 := hts (.fieldLink RX2 15 "PaintballAtlas$Round" "cells" "[I") (by decide +kernel)
  have hi_X2 : ∀ w ∈ wsX20, w ∈ wsX2_cellOf := by decide +kernel
  refine lv_aload_n hx hb dX2_cellOf_0 rfl (lv_at hl 0 rfl) ?_
  refine va_get (D := D) (ci := 2) (v := .ref (a 5)) (C := RX2) (T := TX2) (N := 8) hx hb hts hi_X2 hown hK hP 0 rfl rfl 3 (by decide) hf_15 (fun _ h9 => h9) rfl dX2_cellOf_1 ?_
  refine lv_iload_n hx hb dX2_cellOf_4 rfl (lv_at hl 1 rfl) ?_
  refine va_iald hx hb hK hP 1 0 rfl rfl (by assumption) dX2_cellOf_5 ?_
  -- leaf 0
  exact W.iret (v := ce p1.toNatClampNeg) hx hb hr (fun t ht hW => ⟨⟨ce p1.toNatClampNeg, (), rfl, rfl, trivial⟩, hS.F ht⟩) hS.2.2 dX2_cellOf_6

set_option maxHeartbeats 4000000 in
set_option maxRecDepth 100000 in
theorem c_X2_hitOf (l : Launch) (D : va_G) (cI cZ cJ cA : ClassId) (sz : Nat) (a : Nat → Nat) (hm : Int32) (aw : Int32) (tk : Int32) (hi : Nat → Int32) (p1 : Int32) (h1 : vp_in p1 6) : Met l yX2_hitOf wsX2_hitOf ({ frames := 0, cells := 0, slots := 0, locals := 0 } : Room) (va_Pc [.ref (a 4), .int p1] (pcR D (tyL cI cZ cJ cA) [((a 4), .inr (2, [.int hm, .int aw, .int tk, .ref (a 5), .ref (a 6), .ref (a 7), .ref (a 8), .ref (a 13)])), ((a 6), .inl (cI, 6, .inl hi))] sz)) (va_Qi (fun (r : Int32) (u : Unit) => r = hi p1.toNatClampNeg) (fun _ _ => True) (fun q : Nat => sz ≤ q)) 0 0 (fun q : Nat => sz ≤ q) := by
  refine Met.ofW (cc := cX2_hitOf) (maxL := 2) (ret := (some .int)) (by decide) rfl ?_
  intro p e s m args below meth c s₁ B hml hv
  obtain ⟨rfl, hsz, hP, hK⟩ := hv
  have hx := B.exec
  have hb := B.bytes
  have hr := B.returns
  have hts := atoms_spec (ws := wsX2_hitOf) B.pre
  have hown : s.vm.findClass RX2 = some m.cls := findClass_of_methodNamed B.named
  have hlocks := B.notSynchronized
  subst hsz
  have hA : ∀ q : Nat, s.heap.size ≤ q → (fun q : Nat => s.heap.size ≤ q) q := fun _ h => h
  have hS : va_S (fun q : Nat => s.heap.size ≤ q) s.heap s.heap [] := va_S.rf
  have hP : va_P D vwCl [((a 4), .inr (2, [.int hm, .int aw, .int tk, .ref (a 5), .ref (a 6), .ref (a 7), .ref (a 8), .ref (a 13)])), ((a 6), .inl (cI, 6, .inl hi))] s.heap := hP
  have hl := lv_entry ([.ref (a 4), .int p1]) (n := 2) (Nat.le_of_ble_eq_true rfl)
  rw [lg_entry_eq]
  generalize (lg_sl ([.ref (a 4), .int p1]) ++ List.replicate (2 - (lg_sl ([.ref (a 4), .int p1])).length) Slot.unset).toArray = ls at hl ⊢
  have hl : lv_has ls 2 [(0, .ref (a 4)), (1, .int p1)] := hl
  have hf_19 := hts (.fieldLink RX2 19 "PaintballAtlas$Round" "hits" "[I") (by decide +kernel)
  have hi_X2 : ∀ w ∈ wsX20, w ∈ wsX2_hitOf := by decide +kernel
  refine lv_aload_n hx hb dX2_hitOf_0 rfl (lv_at hl 0 rfl) ?_
  refine va_get (D := D) (ci := 2) (v := .ref (a 6)) (C := RX2) (T := TX2) (N := 8) hx hb hts hi_X2 hown hK hP 0 rfl rfl 4 (by decide) hf_19 (fun _ h9 => h9) rfl dX2_hitOf_1 ?_
  refine lv_iload_n hx hb dX2_hitOf_4 rfl (lv_at hl 1 rfl) ?_
  refine va_iald hx hb hK hP 1 0 rfl rfl (by assumption) dX2_hitOf_5 ?_
  -- leaf 0
  exact W.iret (v := hi p1.toNatClampNeg) hx hb hr (fun t ht hW => ⟨⟨hi p1.toNatClampNeg, (), rfl, rfl, trivial⟩, hS.F ht⟩) hS.2.2 dX2_hitOf_6

set_option maxHeartbeats 4000000 in
set_option maxRecDepth 100000 in
theorem c_X2_put (l : Launch) (D : va_G) (cI cZ cJ cA : ClassId) (sz : Nat) (a : Nat → Nat) (hm : Int32) (aw : Int32) (tk : Int32) (ce : Nat → Int32) (p1 : Int32) (p2 : Int32) (h1 : vp_in p1 6) : Met l yX2_put wsX2_put ({ frames := 0, cells := 0, slots := 0, locals := 0 } : Room) (va_Pc [.ref (a 4), .int p1, .int p2] (pcW D (tyL cI cZ cJ cA) [((a 4), .inr (2, [.int hm, .int aw, .int tk, .ref (a 5), .ref (a 6), .ref (a 7), .ref (a 8), .ref (a 13)])), ((a 5), .inl (cI, 6, .inl ce))] sz)) (va_Qv (fun (u : (Nat → Int32)) => u = upd ce p1.toNatClampNeg p2) (fun u t => bcW D (tyL cI cZ cJ cA) (va_A [((a 4), .inr (2, [.int hm, .int aw, .int tk, .ref (a 5), .ref (a 6), .ref (a 7), .ref (a 8), .ref (a 13)])), ((a 5), .inl (cI, 6, .inl ce))] sz) [((a 4), .inr (2, [.int hm, .int aw, .int tk, .ref (a 5), .ref (a 6), .ref (a 7), .ref (a 8), .ref (a 13)])), ((a 5), .inl (cI, 6, .inl u))] t) (va_A [((a 4), .inr (2, [.int hm, .int aw, .int tk, .ref (a 5), .ref (a 6), .ref (a 7), .ref (a 8), .ref (a 13)])), ((a 5), .inl (cI, 6, .inl ce))] sz)) 0 0 (va_A [((a 4), .inr (2, [.int hm, .int aw, .int tk, .ref (a 5), .ref (a 6), .ref (a 7), .ref (a 8), .ref (a 13)])), ((a 5), .inl (cI, 6, .inl ce))] sz) := by
  refine Met.ofW (cc := cX2_put) (maxL := 3) (ret := none) (by decide) rfl ?_
  intro p e s m args below meth c s₁ B hml hv
  obtain ⟨rfl, hsz, hP, hK, hD0⟩ := hv
  have hx := B.exec
  have hb := B.bytes
  have hr := B.returns
  have hts := atoms_spec (ws := wsX2_put) B.pre
  have hown : s.vm.findClass RX2 = some m.cls := findClass_of_methodNamed B.named
  have hlocks := B.notSynchronized
  subst hsz
  have hD := hD0.self (sz := s.heap.size)
  generalize hAe : va_A [((a 4), .inr (2, [.int hm, .int aw, .int tk, .ref (a 5), .ref (a 6), .ref (a 7), .ref (a 8), .ref (a 13)])), ((a 5), .inl (cI, 6, .inl ce))] s.heap.size = A at hD ⊢
  have hA : ∀ q : Nat, s.heap.size ≤ q → A q := fun q h => by rw [← hAe]; exact Or.inr h
  have hAR : ∀ q : Nat, s.heap.size ≤ q → (fun q : Nat => s.heap.size ≤ q) q := fun _ h => h
  have hS : va_S A s.heap s.heap [] := va_S.rf
  have hP : va_P D vwCl [((a 4), .inr (2, [.int hm, .int aw, .int tk, .ref (a 5), .ref (a 6), .ref (a 7), .ref (a 8), .ref (a 13)])), ((a 5), .inl (cI, 6, .inl ce))] s.heap := hP
  have hl := lv_entry ([.ref (a 4), .int p1, .int p2]) (n := 3) (Nat.le_of_ble_eq_true rfl)
  rw [lg_entry_eq]
  generalize (lg_sl ([.ref (a 4), .int p1, .int p2]) ++ List.replicate (3 - (lg_sl ([.ref (a 4), .int p1, .int p2])).length) Slot.unset).toArray = ls at hl ⊢
  have hl : lv_has ls 3 [(0, .ref (a 4)), (1, .int p1), (2, .int p2)] := hl
  have hf_15 := hts (.fieldLink RX2 15 "PaintballAtlas$Round" "cells" "[I") (by decide +kernel)
  have hi_X2 : ∀ w ∈ wsX20, w ∈ wsX2_put := by decide +kernel
  refine lv_aload_n hx hb dX2_put_0 rfl (lv_at hl 0 rfl) ?_
  refine va_get (D := D) (ci := 2) (v := .ref (a 5)) (C := RX2) (T := TX2) (N := 8) hx hb hts hi_X2 hown hK hP 0 rfl rfl 3 (by decide) hf_15 (fun _ h9 => h9) rfl dX2_put_1 ?_
  refine lv_iload_n hx hb dX2_put_4 rfl (lv_at hl 1 rfl) ?_
  refine lv_iload_n hx hb dX2_put_5 rfl (lv_at hl 2 rfl) ?_
  refine va_iast hx hb hK hP hD hS 1 0 rfl rfl (by assumption) dX2_put_6 (fun H locs hP hD hS => ?_)
  have hP : va_P D vwCl [((a 4), .inr (2, [.int hm, .int aw, .int tk, .ref (a 5), .ref (a 6), .ref (a 7), .ref (a 8), .ref (a 13)])), ((a 5), .inl (cI, 6, .inl (upd ce p1.toNatClampNeg p2)))] H := hP
  have hD : va_D A [((a 4), .inr (2, [.int hm, .int aw, .int tk, .ref (a 5), .ref (a 6), .ref (a 7), .ref (a 8), .ref (a 13)])), ((a 5), .inl (cI, 6, .inl (upd ce p1.toNatClampNeg p2)))] := hD
  have hP9 := hP.sub (ws' := [((a 4), .inr (2, [.int hm, .int aw, .int tk, .ref (a 5), .ref (a 6), .ref (a 7), .ref (a 8), .ref (a 13)])), ((a 5), .inl (cI, 6, .inl (upd ce p1.toNatClampNeg p2)))]) [0, 1] rfl
  have hD9 := hD.sub (ws' := [((a 4), .inr (2, [.int hm, .int aw, .int tk, .ref (a 5), .ref (a 6), .ref (a 7), .ref (a 8), .ref (a 13)])), ((a 5), .inl (cI, 6, .inl (upd ce p1.toNatClampNeg p2)))]) [0, 1] (by decide) rfl
  -- leaf 0
  exact W.vret hx hb hr (fun t ht hW => ⟨⟨(upd ce p1.toNatClampNeg p2), rfl, rfl, by rw [ht]; exact hP9, va_K.moved hW.alike hK, hD9⟩, hS.F ht⟩) hS.2.2 dX2_put_7

noncomputable def f_X2_mayFire (hm : Int32) (aw : Int32) (tk : Int32) (la : Nat → Int32) (sn : Nat) (p1 : Int32) : Int32 := if (la p1.toNatClampNeg) = tk then 0 else (if 100 ≤ (nI sn) then 0 else 1)
set_option maxHeartbeats 4000000 in
set_option maxRecDepth 100000 in
theorem c_X2_mayFire (l : Launch) (D : va_G) (cI cZ cJ cA : ClassId) (sz : Nat) (a : Nat → Nat) (hm : Int32) (aw : Int32) (tk : Int32) (la : Nat → Int32) (sn : Nat) (p1 : Int32) (h1 : vp_in p1 6) : Met l yX2_mayFire wsX2_mayFire ({ frames := 0, cells := 0, slots := 0, locals := 0 } : Room) (va_Pc [.ref (a 4), .int p1] (pcR D (tyL cI cZ cJ cA) [((a 4), .inr (2, [.int hm, .int aw, .int tk, .ref (a 5), .ref (a 6), .ref (a 7), .ref (a 8), .ref (a 13)])), ((a 7), .inl (cI, 6, .inl la)), ((a 8), .inr (3, [.int (nI sn), .ref (a 9), .ref (a 10), .ref (a 11), .ref (a 12)]))] sz)) (va_Qi (fun (r : Int32) (u : Unit) => r = f_X2_mayFire hm aw tk la sn p1) (fun _ _ => True) (fun q : Nat => sz ≤ q)) 0 0 (fun q : Nat => sz ≤ q) := by
  refine Met.ofW (cc := cX2_mayFire) (maxL := 2) (ret := (some .boolean)) (by decide) rfl ?_
  intro p e s m args below meth c s₁ B hml hv
  obtain ⟨rfl, hsz, hP, hK⟩ := hv
  have hx := B.exec
  have hb := B.bytes
  have hr := B.returns
  have hts := atoms_spec (ws := wsX2_mayFire) B.pre
  have hown : s.vm.findClass RX2 = some m.cls := findClass_of_methodNamed B.named
  have hlocks := B.notSynchronized
  subst hsz
  have hA : ∀ q : Nat, s.heap.size ≤ q → (fun q : Nat => s.heap.size ≤ q) q := fun _ h => h
  have hS : va_S (fun q : Nat => s.heap.size ≤ q) s.heap s.heap [] := va_S.rf
  have hP : va_P D vwCl [((a 4), .inr (2, [.int hm, .int aw, .int tk, .ref (a 5), .ref (a 6), .ref (a 7), .ref (a 8), .ref (a 13)])), ((a 7), .inl (cI, 6, .inl la)), ((a 8), .inr (3, [.int (nI sn), .ref (a 9), .ref (a 10), .ref (a 11), .ref (a 12)]))] s.heap := hP
  have hl := lv_entry ([.ref (a 4), .int p1]) (n := 2) (Nat.le_of_ble_eq_true rfl)
  rw [lg_entry_eq]
  generalize (lg_sl ([.ref (a 4), .int p1]) ++ List.replicate (2 - (lg_sl ([.ref (a 4), .int p1])).length) Slot.unset).toArray = ls at hl ⊢
  have hl : lv_has ls 2 [(0, .ref (a 4)), (1, .int p1)] := hl
  have hf_22 := hts (.fieldLink RX2 22 "PaintballAtlas$Round" "lastShots" "[I") (by decide +kernel)
  have hi_X2 : ∀ w ∈ wsX20, w ∈ wsX2_mayFire := by decide +kernel
  have hf_9 := hts (.fieldLink RX2 9 "PaintballAtlas$Round" "tick" "I") (by decide +kernel)
  have hf_28 := hts (.fieldLink RX2 28 "PaintballAtlas$Round" "shots" "LPaintballAtlas$Shots;") (by decide +kernel)
  have hf_49 := hts (.fieldLink RX2 49 "PaintballAtlas$Shots" "count" "I") (by decide +kernel)
  have hi_X3 : ∀ w ∈ wsX30, w ∈ wsX2_mayFire := by decide +kernel
  refine lv_aload_n hx hb dX2_mayFire_0 rfl (lv_at hl 0 rfl) ?_
  refine va_get (D := D) (ci := 2) (v := .ref (a 7)) (C := RX2) (T := TX2) (N := 8) hx hb hts hi_X2 hown hK hP 0 rfl rfl 5 (by decide) hf_22 (fun _ h9 => h9) rfl dX2_mayFire_1 ?_
  refine lv_iload_n hx hb dX2_mayFire_4 rfl (lv_at hl 1 rfl) ?_
  refine va_iald hx hb hK hP 1 0 rfl rfl (by assumption) dX2_mayFire_5 ?_
  refine lv_aload_n hx hb dX2_mayFire_6 rfl (lv_at hl 0 rfl) ?_
  refine va_get (D := D) (ci := 2) (v := .int tk) (C := RX2) (T := TX2) (N := 8) hx hb hts hi_X2 hown hK hP 0 rfl rfl 2 (by decide) hf_9 (fun _ h9 => h9) rfl dX2_mayFire_7 ?_
  refine lv_icmp_eq (tgt := 29) hx hb dX2_mayFire_10 (by decide) (fun c_1 => ?_) (fun c_1 => ?_)
  · refine lv_iconst (v := 0) hx hb dX2_mayFire_29 (by decide) ?_
    -- leaf 0
    exact W.zret (v := 0) (ty := .boolean) hx hb hr rfl (fun t ht hW => ⟨⟨0, (), rfl, (by rw [f_X2_mayFire, if_pos c_1]), trivial⟩, hS.F ht⟩) hS.2.2 dX2_mayFire_30
  · refine lv_aload_n hx hb dX2_mayFire_13 rfl (lv_at hl 0 rfl) ?_
    refine va_get (D := D) (ci := 2) (v := .ref (a 8)) (C := RX2) (T := TX2) (N := 8) hx hb hts hi_X2 hown hK hP 0 rfl rfl 6 (by decide) hf_28 (fun _ h9 => h9) rfl dX2_mayFire_14 ?_
    refine va_get (D := D) (ci := 3) (v := .int (nI sn)) (C := RX3) (T := TX3) (N := 5) hx hb hts hi_X3 hown hK hP 2 rfl rfl 0 (by decide) hf_49 (fun _ h9 => h9) rfl dX2_mayFire_17 ?_
    refine lv_bipush (v := 100) hx hb dX2_mayFire_20 (by decide) ?_
    refine lv_icmp_ge (tgt := 29) hx hb dX2_mayFire_22 (by decide) (fun c_2 => ?_) (fun c_2 => ?_)
    · refine lv_iconst (v := 0) hx hb dX2_mayFire_29 (by decide) ?_
      -- leaf 1
      exact W.zret (v := 0) (ty := .boolean) hx hb hr rfl (fun t ht hW => ⟨⟨0, (), rfl, (by rw [f_X2_mayFire, if_neg c_1, if_pos c_2]), trivial⟩, hS.F ht⟩) hS.2.2 dX2_mayFire_30
    · refine lv_iconst (v := 1) hx hb dX2_mayFire_25 (by decide) ?_
      refine lv_goto (tgt := 30) hx hb dX2_mayFire_26 (by decide) ?_
      -- leaf 2
      exact W.zret (v := 1) (ty := .boolean) hx hb hr rfl (fun t ht hW => ⟨⟨1, (), rfl, (by rw [f_X2_mayFire, if_neg c_1, if_neg c_2]), trivial⟩, hS.F ht⟩) hS.2.2 dX2_mayFire_30

set_option maxHeartbeats 4000000 in
set_option maxRecDepth 100000 in
theorem c_X3_add (l : Launch) (D : va_G) (cI cZ cJ cA : ClassId) (sz : Nat) (a : Nat → Nat) (sn : Nat) (sa : Nat → Int32) (sb : Nat → Int32) (sc : Nat → Int32) (sd : Nat → Int32) (p1 : Int32) (p2 : Int32) (p3 : Int32) (p4 : Int32) (h1 : sn < 100) : Met l yX3_add wsX3_add ({ frames := 0, cells := 0, slots := 0, locals := 0 } : Room) (va_Pc [.ref (a 8), .int p1, .int p2, .int p3, .int p4] (pcW D (tyL cI cZ cJ cA) [((a 8), .inr (3, [.int (nI sn), .ref (a 9), .ref (a 10), .ref (a 11), .ref (a 12)])), ((a 9), .inl (cI, 100, .inl sa)), ((a 10), .inl (cI, 100, .inl sb)), ((a 11), .inl (cI, 100, .inl sc)), ((a 12), .inl (cI, 100, .inl sd))] sz)) (va_Qv (fun (u : (Nat) × (Nat → Int32) × (Nat → Int32) × (Nat → Int32) × (Nat → Int32)) => u.1 = (sn + 1) ∧ u.2.1 = upd sa sn p1 ∧ u.2.2.1 = upd sb sn p2 ∧ u.2.2.2.1 = upd sc sn p3 ∧ u.2.2.2.2 = upd sd sn p4) (fun u t => bcW D (tyL cI cZ cJ cA) (va_A [((a 8), .inr (3, [.int (nI sn), .ref (a 9), .ref (a 10), .ref (a 11), .ref (a 12)])), ((a 9), .inl (cI, 100, .inl sa)), ((a 10), .inl (cI, 100, .inl sb)), ((a 11), .inl (cI, 100, .inl sc)), ((a 12), .inl (cI, 100, .inl sd))] sz) [((a 8), .inr (3, [.int (nI u.1), .ref (a 9), .ref (a 10), .ref (a 11), .ref (a 12)])), ((a 9), .inl (cI, 100, .inl u.2.1)), ((a 10), .inl (cI, 100, .inl u.2.2.1)), ((a 11), .inl (cI, 100, .inl u.2.2.2.1)), ((a 12), .inl (cI, 100, .inl u.2.2.2.2))] t) (va_A [((a 8), .inr (3, [.int (nI sn), .ref (a 9), .ref (a 10), .ref (a 11), .ref (a 12)])), ((a 9), .inl (cI, 100, .inl sa)), ((a 10), .inl (cI, 100, .inl sb)), ((a 11), .inl (cI, 100, .inl sc)), ((a 12), .inl (cI, 100, .inl sd))] sz)) 0 0 (va_A [((a 8), .inr (3, [.int (nI sn), .ref (a 9), .ref (a 10), .ref (a 11), .ref (a 12)])), ((a 9), .inl (cI, 100, .inl sa)), ((a 10), .inl (cI, 100, .inl sb)), ((a 11), .inl (cI, 100, .inl sc)), ((a 12), .inl (cI, 100, .inl sd))] sz) := by
  refine Met.ofW (cc := cX3_add) (maxL := 5) (ret := none) (by decide) rfl ?_
  intro p e s m args below meth c s₁ B hml hv
  obtain ⟨rfl, hsz, hP, hK, hD0⟩ := hv
  have hx := B.exec
  have hb := B.bytes
  have hr := B.returns
  have hts := atoms_spec (ws := wsX3_add) B.pre
  have hown : s.vm.findClass RX3 = some m.cls := findClass_of_methodNamed B.named
  have hlocks := B.notSynchronized
  subst hsz
  have hD := hD0.self (sz := s.heap.size)
  generalize hAe : va_A [((a 8), .inr (3, [.int (nI sn), .ref (a 9), .ref (a 10), .ref (a 11), .ref (a 12)])), ((a 9), .inl (cI, 100, .inl sa)), ((a 10), .inl (cI, 100, .inl sb)), ((a 11), .inl (cI, 100, .inl sc)), ((a 12), .inl (cI, 100, .inl sd))] s.heap.size = A at hD ⊢
  have hA : ∀ q : Nat, s.heap.size ≤ q → A q := fun q h => by rw [← hAe]; exact Or.inr h
  have hAR : ∀ q : Nat, s.heap.size ≤ q → (fun q : Nat => s.heap.size ≤ q) q := fun _ h => h
  have hS : va_S A s.heap s.heap [] := va_S.rf
  have hP : va_P D vwCl [((a 8), .inr (3, [.int (nI sn), .ref (a 9), .ref (a 10), .ref (a 11), .ref (a 12)])), ((a 9), .inl (cI, 100, .inl sa)), ((a 10), .inl (cI, 100, .inl sb)), ((a 11), .inl (cI, 100, .inl sc)), ((a 12), .inl (cI, 100, .inl sd))] s.heap := hP
  have hl := lv_entry ([.ref (a 8), .int p1, .int p2, .int p3, .int p4]) (n := 5) (Nat.le_of_ble_eq_true rfl)
  rw [lg_entry_eq]
  generalize (lg_sl ([.ref (a 8), .int p1, .int p2, .int p3, .int p4]) ++ List.replicate (5 - (lg_sl ([.ref (a 8), .int p1, .int p2, .int p3, .int p4])).length) Slot.unset).toArray = ls at hl ⊢
  have hl : lv_has ls 5 [(0, .ref (a 8)), (1, .int p1), (2, .int p2), (3, .int p3), (4, .int p4)] := hl
  have hf_9 := hts (.fieldLink RX3 9 "PaintballAtlas$Shots" "shooters" "[I") (by decide +kernel)
  have hi_X3 : ∀ w ∈ wsX30, w ∈ wsX3_add := by decide +kernel
  have hf_24 := hts (.fieldLink RX3 24 "PaintballAtlas$Shots" "count" "I") (by decide +kernel)
  have hf_15 := hts (.fieldLink RX3 15 "PaintballAtlas$Shots" "origins" "[I") (by decide +kernel)
  have hf_18 := hts (.fieldLink RX3 18 "PaintballAtlas$Shots" "targets" "[I") (by decide +kernel)
  have hf_21 := hts (.fieldLink RX3 21 "PaintballAtlas$Shots" "arrivals" "[I") (by decide +kernel)
  refine lv_aload_n hx hb dX3_add_0 rfl (lv_at hl 0 rfl) ?_
  refine va_get (D := D) (ci := 3) (v := .ref (a 9)) (C := RX3) (T := TX3) (N := 5) hx hb hts hi_X3 hown hK hP 0 rfl rfl 1 (by decide) hf_9 (fun _ h9 => h9) rfl dX3_add_1 ?_
  refine lv_aload_n hx hb dX3_add_4 rfl (lv_at hl 0 rfl) ?_
  refine va_get (D := D) (ci := 3) (v := .int (nI sn)) (C := RX3) (T := TX3) (N := 5) hx hb hts hi_X3 hown hK hP 0 rfl rfl 0 (by decide) hf_24 (fun _ h9 => h9) rfl dX3_add_5 ?_
  refine lv_iload_n hx hb dX3_add_8 rfl (lv_at hl 1 rfl) ?_
  refine va_iast hx hb hK hP hD hS 1 0 rfl rfl (vp_in_nI (n := sn) (by omega) (by decide)) dX3_add_9 (fun H locs hP hD hS => ?_)
  rw [nI_clamp (n := sn) (by omega)] at hP hD
  have hP : va_P D vwCl [((a 8), .inr (3, [.int (nI sn), .ref (a 9), .ref (a 10), .ref (a 11), .ref (a 12)])), ((a 9), .inl (cI, 100, .inl (upd sa sn p1))), ((a 10), .inl (cI, 100, .inl sb)), ((a 11), .inl (cI, 100, .inl sc)), ((a 12), .inl (cI, 100, .inl sd))] H := hP
  have hD : va_D A [((a 8), .inr (3, [.int (nI sn), .ref (a 9), .ref (a 10), .ref (a 11), .ref (a 12)])), ((a 9), .inl (cI, 100, .inl (upd sa sn p1))), ((a 10), .inl (cI, 100, .inl sb)), ((a 11), .inl (cI, 100, .inl sc)), ((a 12), .inl (cI, 100, .inl sd))] := hD
  refine lv_aload_n hx hb dX3_add_10 rfl (lv_at hl 0 rfl) ?_
  refine va_get (D := D) (ci := 3) (v := .ref (a 10)) (C := RX3) (T := TX3) (N := 5) hx hb hts hi_X3 hown hK hP 0 rfl rfl 2 (by decide) hf_15 (fun _ h9 => h9) rfl dX3_add_11 ?_
  refine lv_aload_n hx hb dX3_add_14 rfl (lv_at hl 0 rfl) ?_
  refine va_get (D := D) (ci := 3) (v := .int (nI sn)) (C := RX3) (T := TX3) (N := 5) hx hb hts hi_X3 hown hK hP 0 rfl rfl 0 (by decide) hf_24 (fun _ h9 => h9) rfl dX3_add_15 ?_
  refine lv_iload_n hx hb dX3_add_18 rfl (lv_at hl 2 rfl) ?_
  refine va_iast hx hb hK hP hD hS 2 0 rfl rfl (vp_in_nI (n := sn) (by omega) (by decide)) dX3_add_19 (fun H locs hP hD hS => ?_)
  rw [nI_clamp (n := sn) (by omega)] at hP hD
  have hP : va_P D vwCl [((a 8), .inr (3, [.int (nI sn), .ref (a 9), .ref (a 10), .ref (a 11), .ref (a 12)])), ((a 9), .inl (cI, 100, .inl (upd sa sn p1))), ((a 10), .inl (cI, 100, .inl (upd sb sn p2))), ((a 11), .inl (cI, 100, .inl sc)), ((a 12), .inl (cI, 100, .inl sd))] H := hP
  have hD : va_D A [((a 8), .inr (3, [.int (nI sn), .ref (a 9), .ref (a 10), .ref (a 11), .ref (a 12)])), ((a 9), .inl (cI, 100, .inl (upd sa sn p1))), ((a 10), .inl (cI, 100, .inl (upd sb sn p2))), ((a 11), .inl (cI, 100, .inl sc)), ((a 12), .inl (cI, 100, .inl sd))] := hD
  refine lv_aload_n hx hb dX3_add_20 rfl (lv_at hl 0 rfl) ?_
  refine va_get (D := D) (ci := 3) (v := .ref (a 11)) (C := RX3) (T := TX3) (N := 5) hx hb hts hi_X3 hown hK hP 0 rfl rfl 3 (by decide) hf_18 (fun _ h9 => h9) rfl dX3_add_21 ?_
  refine lv_aload_n hx hb dX3_add_24 rfl (lv_at hl 0 rfl) ?_
  refine va_get (D := D) (ci := 3) (v := .int (nI sn)) (C := RX3) (T := TX3) (N := 5) hx hb hts hi_X3 hown hK hP 0 rfl rfl 0 (by decide) hf_24 (fun _ h9 => h9) rfl dX3_add_25 ?_
  refine lv_iload_n hx hb dX3_add_28 rfl (lv_at hl 3 rfl) ?_
  refine va_iast hx hb hK hP hD hS 3 0 rfl rfl (vp_in_nI (n := sn) (by omega) (by decide)) dX3_add_29 (fun H locs hP hD hS => ?_)
  rw [nI_clamp (n := sn) (by omega)] at hP hD
  have hP : va_P D vwCl [((a 8), .inr (3, [.int (nI sn), .ref (a 9), .ref (a 10), .ref (a 11), .ref (a 12)])), ((a 9), .inl (cI, 100, .inl (upd sa sn p1))), ((a 10), .inl (cI, 100, .inl (upd sb sn p2))), ((a 11), .inl (cI, 100, .inl (upd sc sn p3))), ((a 12), .inl (cI, 100, .inl sd))] H := hP
  have hD : va_D A [((a 8), .inr (3, [.int (nI sn), .ref (a 9), .ref (a 10), .ref (a 11), .ref (a 12)])), ((a 9), .inl (cI, 100, .inl (upd sa sn p1))), ((a 10), .inl (cI, 100, .inl (upd sb sn p2))), ((a 11), .inl (cI, 100, .inl (upd sc sn p3))), ((a 12), .inl (cI, 100, .inl sd))] := hD
  refine lv_aload_n hx hb dX3_add_30 rfl (lv_at hl 0 rfl) ?_
  refine va_get (D := D) (ci := 3) (v := .ref (a 12)) (C := RX3) (T := TX3) (N := 5) hx hb hts hi_X3 hown hK hP 0 rfl rfl 4 (by decide) hf_21 (fun _ h9 => h9) rfl dX3_add_31 ?_
  refine lv_aload_n hx hb dX3_add_34 rfl (lv_at hl 0 rfl) ?_
  refine va_get (D := D) (ci := 3) (v := .int (nI sn)) (C := RX3) (T := TX3) (N := 5) hx hb hts hi_X3 hown hK hP 0 rfl rfl 0 (by decide) hf_24 (fun _ h9 => h9) rfl dX3_add_35 ?_
  refine lv_iload hx hb dX3_add_38 (lv_at hl 4 rfl) ?_
  refine va_iast hx hb hK hP hD hS 4 0 rfl rfl (vp_in_nI (n := sn) (by omega) (by decide)) dX3_add_40 (fun H locs hP hD hS => ?_)
  rw [nI_clamp (n := sn) (by omega)] at hP hD
  have hP : va_P D vwCl [((a 8), .inr (3, [.int (nI sn), .ref (a 9), .ref (a 10), .ref (a 11), .ref (a 12)])), ((a 9), .inl (cI, 100, .inl (upd sa sn p1))), ((a 10), .inl (cI, 100, .inl (upd sb sn p2))), ((a 11), .inl (cI, 100, .inl (upd sc sn p3))), ((a 12), .inl (cI, 100, .inl (upd sd sn p4)))] H := hP
  have hD : va_D A [((a 8), .inr (3, [.int (nI sn), .ref (a 9), .ref (a 10), .ref (a 11), .ref (a 12)])), ((a 9), .inl (cI, 100, .inl (upd sa sn p1))), ((a 10), .inl (cI, 100, .inl (upd sb sn p2))), ((a 11), .inl (cI, 100, .inl (upd sc sn p3))), ((a 12), .inl (cI, 100, .inl (upd sd sn p4)))] := hD
  refine lv_aload_n hx hb dX3_add_41 rfl (lv_at hl 0 rfl) ?_
  refine lv_dup hx hb dX3_add_42 rfl ?_
  refine va_get (D := D) (ci := 3) (v := .int (nI sn)) (C := RX3) (T := TX3) (N := 5) hx hb hts hi_X3 hown hK hP 0 rfl rfl 0 (by decide) hf_24 (fun _ h9 => h9) rfl dX3_add_43 ?_
  refine lv_iconst (v := 1) hx hb dX3_add_46 (by decide) ?_
  refine lv_iadd hx hb dX3_add_47 ?_
  refine tp_eq (y := nI (sn + 1)) (nI_1 sn) ?_
  refine va_put (D := D) (ci := 3) (v := .int (nI (sn + 1))) (ty := .int) (C := RX3) (T := TX3) (N := 5) hx hb hts hi_X3 tyX3 tyX3_ok nmX3 hown hK hP hD hS 0 rfl rfl 0 (by decide) hf_24 (fun _ h9 => h9) rfl (by decide +kernel) rfl rfl (Nat.le_of_ble_eq_true rfl) dX3_add_48 (fun H locs hP hD hS => ?_)
  have hP : va_P D vwCl [((a 8), .inr (3, [.int (nI (sn + 1)), .ref (a 9), .ref (a 10), .ref (a 11), .ref (a 12)])), ((a 9), .inl (cI, 100, .inl (upd sa sn p1))), ((a 10), .inl (cI, 100, .inl (upd sb sn p2))), ((a 11), .inl (cI, 100, .inl (upd sc sn p3))), ((a 12), .inl (cI, 100, .inl (upd sd sn p4)))] H := hP
  have hD : va_D A [((a 8), .inr (3, [.int (nI (sn + 1)), .ref (a 9), .ref (a 10), .ref (a 11), .ref (a 12)])), ((a 9), .inl (cI, 100, .inl (upd sa sn p1))), ((a 10), .inl (cI, 100, .inl (upd sb sn p2))), ((a 11), .inl (cI, 100, .inl (upd sc sn p3))), ((a 12), .inl (cI, 100, .inl (upd sd sn p4)))] := hD
  have hP9 := hP.sub (ws' := [((a 8), .inr (3, [.int (nI (sn + 1)), .ref (a 9), .ref (a 10), .ref (a 11), .ref (a 12)])), ((a 9), .inl (cI, 100, .inl (upd sa sn p1))), ((a 10), .inl (cI, 100, .inl (upd sb sn p2))), ((a 11), .inl (cI, 100, .inl (upd sc sn p3))), ((a 12), .inl (cI, 100, .inl (upd sd sn p4)))]) [0, 1, 2, 3, 4] rfl
  have hD9 := hD.sub (ws' := [((a 8), .inr (3, [.int (nI (sn + 1)), .ref (a 9), .ref (a 10), .ref (a 11), .ref (a 12)])), ((a 9), .inl (cI, 100, .inl (upd sa sn p1))), ((a 10), .inl (cI, 100, .inl (upd sb sn p2))), ((a 11), .inl (cI, 100, .inl (upd sc sn p3))), ((a 12), .inl (cI, 100, .inl (upd sd sn p4)))]) [0, 1, 2, 3, 4] (by decide) rfl
  -- leaf 0
  exact W.vret hx hb hr (fun t ht hW => ⟨⟨((sn + 1), upd sa sn p1, upd sb sn p2, upd sc sn p3, upd sd sn p4), rfl, ⟨rfl, rfl, rfl, rfl, rfl⟩, by rw [ht]; exact hP9, va_K.moved hW.alike hK, hD9⟩, hS.F ht⟩) hS.2.2 dX3_add_51

set_option maxHeartbeats 4000000 in
set_option maxRecDepth 100000 in
theorem c_X0_add (l : Launch) (D : va_G) (cI cZ cJ cA : ClassId) (sz : Nat) (a : Nat → Nat) (kn : Nat) (ka : Nat → Int32) (kb : Nat → Int32) (kc : Nat → Int32) (kd : Nat → Int32) (p1 : Int32) (p2 : Int32) (p3 : Int32) (h1 : kn < 512) : Met l yX0_add wsX0_add ({ frames := 0, cells := 0, slots := 0, locals := 0 } : Room) (va_Pc [.ref (a 13), .int p1, .int p2, .int p3] (pcW D (tyL cI cZ cJ cA) [((a 13), .inr (0, [.int (nI kn), .ref (a 14), .ref (a 15), .ref (a 16), .ref (a 17)])), ((a 14), .inl (cI, 512, .inl ka)), ((a 15), .inl (cI, 512, .inl kb)), ((a 16), .inl (cI, 512, .inl kc)), ((a 17), .inl (cZ, 512, .inl kd))] sz)) (va_Qi (fun (r : Int32) (u : (Nat) × (Nat → Int32) × (Nat → Int32) × (Nat → Int32) × (Nat → Int32)) => r = nI kn ∧ u.1 = (kn + 1) ∧ u.2.1 = upd ka kn p1 ∧ u.2.2.1 = upd kb kn p2 ∧ u.2.2.2.1 = upd kc kn p3 ∧ u.2.2.2.2 = upd kd kn 0) (fun u t => bcW D (tyL cI cZ cJ cA) (va_A [((a 13), .inr (0, [.int (nI kn), .ref (a 14), .ref (a 15), .ref (a 16), .ref (a 17)])), ((a 14), .inl (cI, 512, .inl ka)), ((a 15), .inl (cI, 512, .inl kb)), ((a 16), .inl (cI, 512, .inl kc)), ((a 17), .inl (cZ, 512, .inl kd))] sz) [((a 13), .inr (0, [.int (nI u.1), .ref (a 14), .ref (a 15), .ref (a 16), .ref (a 17)])), ((a 14), .inl (cI, 512, .inl u.2.1)), ((a 15), .inl (cI, 512, .inl u.2.2.1)), ((a 16), .inl (cI, 512, .inl u.2.2.2.1)), ((a 17), .inl (cZ, 512, .inl u.2.2.2.2))] t) (va_A [((a 13), .inr (0, [.int (nI kn), .ref (a 14), .ref (a 15), .ref (a 16), .ref (a 17)])), ((a 14), .inl (cI, 512, .inl ka)), ((a 15), .inl (cI, 512, .inl kb)), ((a 16), .inl (cI, 512, .inl kc)), ((a 17), .inl (cZ, 512, .inl kd))] sz)) 0 0 (va_A [((a 13), .inr (0, [.int (nI kn), .ref (a 14), .ref (a 15), .ref (a 16), .ref (a 17)])), ((a 14), .inl (cI, 512, .inl ka)), ((a 15), .inl (cI, 512, .inl kb)), ((a 16), .inl (cI, 512, .inl kc)), ((a 17), .inl (cZ, 512, .inl kd))] sz) := by
  refine Met.ofW (cc := cX0_add) (maxL := 4) (ret := (some .int)) (by decide) rfl ?_
  intro p e s m args below meth c s₁ B hml hv
  obtain ⟨rfl, hsz, hP, hK, hD0⟩ := hv
  have hx := B.exec
  have hb := B.bytes
  have hr := B.returns
  have hts := atoms_spec (ws := wsX0_add) B.pre
  have hown : s.vm.findClass RX0 = some m.cls := findClass_of_methodNamed B.named
  have hlocks := B.notSynchronized
  subst hsz
  have hD := hD0.self (sz := s.heap.size)
  generalize hAe : va_A [((a 13), .inr (0, [.int (nI kn), .ref (a 14), .ref (a 15), .ref (a 16), .ref (a 17)])), ((a 14), .inl (cI, 512, .inl ka)), ((a 15), .inl (cI, 512, .inl kb)), ((a 16), .inl (cI, 512, .inl kc)), ((a 17), .inl (cZ, 512, .inl kd))] s.heap.size = A at hD ⊢
  have hA : ∀ q : Nat, s.heap.size ≤ q → A q := fun q h => by rw [← hAe]; exact Or.inr h
  have hAR : ∀ q : Nat, s.heap.size ≤ q → (fun q : Nat => s.heap.size ≤ q) q := fun _ h => h
  have hS : va_S A s.heap s.heap [] := va_S.rf
  have hP : va_P D vwCl [((a 13), .inr (0, [.int (nI kn), .ref (a 14), .ref (a 15), .ref (a 16), .ref (a 17)])), ((a 14), .inl (cI, 512, .inl ka)), ((a 15), .inl (cI, 512, .inl kb)), ((a 16), .inl (cI, 512, .inl kc)), ((a 17), .inl (cZ, 512, .inl kd))] s.heap := hP
  have hl := lv_entry ([.ref (a 13), .int p1, .int p2, .int p3]) (n := 4) (Nat.le_of_ble_eq_true rfl)
  rw [lg_entry_eq]
  generalize (lg_sl ([.ref (a 13), .int p1, .int p2, .int p3]) ++ List.replicate (4 - (lg_sl ([.ref (a 13), .int p1, .int p2, .int p3])).length) Slot.unset).toArray = ls at hl ⊢
  have hl : lv_has ls 4 [(0, .ref (a 13)), (1, .int p1), (2, .int p2), (3, .int p3)] := hl
  have hf_9 := hts (.fieldLink RX0 9 "PaintballAtlas$Calls" "players" "[I") (by decide +kernel)
  have hi_X0 : ∀ w ∈ wsX00, w ∈ wsX0_add := by decide +kernel
  have hf_25 := hts (.fieldLink RX0 25 "PaintballAtlas$Calls" "count" "I") (by decide +kernel)
  have hf_15 := hts (.fieldLink RX0 15 "PaintballAtlas$Calls" "cells" "[I") (by decide +kernel)
  have hf_18 := hts (.fieldLink RX0 18 "PaintballAtlas$Calls" "ticks" "[I") (by decide +kernel)
  have hf_21 := hts (.fieldLink RX0 21 "PaintballAtlas$Calls" "disputed" "[Z") (by decide +kernel)
  refine lv_aload_n hx hb dX0_add_0 rfl (lv_at hl 0 rfl) ?_
  refine va_get (D := D) (ci := 0) (v := .ref (a 14)) (C := RX0) (T := TX0) (N := 5) hx hb hts hi_X0 hown hK hP 0 rfl rfl 1 (by decide) hf_9 (fun _ h9 => h9) rfl dX0_add_1 ?_
  refine lv_aload_n hx hb dX0_add_4 rfl (lv_at hl 0 rfl) ?_
  refine va_get (D := D) (ci := 0) (v := .int (nI kn)) (C := RX0) (T := TX0) (N := 5) hx hb hts hi_X0 hown hK hP 0 rfl rfl 0 (by decide) hf_25 (fun _ h9 => h9) rfl dX0_add_5 ?_
  refine lv_iload_n hx hb dX0_add_8 rfl (lv_at hl 1 rfl) ?_
  refine va_iast hx hb hK hP hD hS 1 0 rfl rfl (vp_in_nI (n := kn) (by omega) (by decide)) dX0_add_9 (fun H locs hP hD hS => ?_)
  rw [nI_clamp (n := kn) (by omega)] at hP hD
  have hP : va_P D vwCl [((a 13), .inr (0, [.int (nI kn), .ref (a 14), .ref (a 15), .ref (a 16), .ref (a 17)])), ((a 14), .inl (cI, 512, .inl (upd ka kn p1))), ((a 15), .inl (cI, 512, .inl kb)), ((a 16), .inl (cI, 512, .inl kc)), ((a 17), .inl (cZ, 512, .inl kd))] H := hP
  have hD : va_D A [((a 13), .inr (0, [.int (nI kn), .ref (a 14), .ref (a 15), .ref (a 16), .ref (a 17)])), ((a 14), .inl (cI, 512, .inl (upd ka kn p1))), ((a 15), .inl (cI, 512, .inl kb)), ((a 16), .inl (cI, 512, .inl kc)), ((a 17), .inl (cZ, 512, .inl kd))] := hD
  refine lv_aload_n hx hb dX0_add_10 rfl (lv_at hl 0 rfl) ?_
  refine va_get (D := D) (ci := 0) (v := .ref (a 15)) (C := RX0) (T := TX0) (N := 5) hx hb hts hi_X0 hown hK hP 0 rfl rfl 2 (by decide) hf_15 (fun _ h9 => h9) rfl dX0_add_11 ?_
  refine lv_aload_n hx hb dX0_add_14 rfl (lv_at hl 0 rfl) ?_
  refine va_get (D := D) (ci := 0) (v := .int (nI kn)) (C := RX0) (T := TX0) (N := 5) hx hb hts hi_X0 hown hK hP 0 rfl rfl 0 (by decide) hf_25 (fun _ h9 => h9) rfl dX0_add_15 ?_
  refine lv_iload_n hx hb dX0_add_18 rfl (lv_at hl 2 rfl) ?_
  refine va_iast hx hb hK hP hD hS 2 0 rfl rfl (vp_in_nI (n := kn) (by omega) (by decide)) dX0_add_19 (fun H locs hP hD hS => ?_)
  rw [nI_clamp (n := kn) (by omega)] at hP hD
  have hP : va_P D vwCl [((a 13), .inr (0, [.int (nI kn), .ref (a 14), .ref (a 15), .ref (a 16), .ref (a 17)])), ((a 14), .inl (cI, 512, .inl (upd ka kn p1))), ((a 15), .inl (cI, 512, .inl (upd kb kn p2))), ((a 16), .inl (cI, 512, .inl kc)), ((a 17), .inl (cZ, 512, .inl kd))] H := hP
  have hD : va_D A [((a 13), .inr (0, [.int (nI kn), .ref (a 14), .ref (a 15), .ref (a 16), .ref (a 17)])), ((a 14), .inl (cI, 512, .inl (upd ka kn p1))), ((a 15), .inl (cI, 512, .inl (upd kb kn p2))), ((a 16), .inl (cI, 512, .inl kc)), ((a 17), .inl (cZ, 512, .inl kd))] := hD
  refine lv_aload_n hx hb dX0_add_20 rfl (lv_at hl 0 rfl) ?_
  refine va_get (D := D) (ci := 0) (v := .ref (a 16)) (C := RX0) (T := TX0) (N := 5) hx hb hts hi_X0 hown hK hP 0 rfl rfl 3 (by decide) hf_18 (fun _ h9 => h9) rfl dX0_add_21 ?_
  refine lv_aload_n hx hb dX0_add_24 rfl (lv_at hl 0 rfl) ?_
  refine va_get (D := D) (ci := 0) (v := .int (nI kn)) (C := RX0) (T := TX0) (N := 5) hx hb hts hi_X0 hown hK hP 0 rfl rfl 0 (by decide) hf_25 (fun _ h9 => h9) rfl dX0_add_25 ?_
  refine lv_iload_n hx hb dX0_add_28 rfl (lv_at hl 3 rfl) ?_
  refine va_iast hx hb hK hP hD hS 3 0 rfl rfl (vp_in_nI (n := kn) (by omega) (by decide)) dX0_add_29 (fun H locs hP hD hS => ?_)
  rw [nI_clamp (n := kn) (by omega)] at hP hD
  have hP : va_P D vwCl [((a 13), .inr (0, [.int (nI kn), .ref (a 14), .ref (a 15), .ref (a 16), .ref (a 17)])), ((a 14), .inl (cI, 512, .inl (upd ka kn p1))), ((a 15), .inl (cI, 512, .inl (upd kb kn p2))), ((a 16), .inl (cI, 512, .inl (upd kc kn p3))), ((a 17), .inl (cZ, 512, .inl kd))] H := hP
  have hD : va_D A [((a 13), .inr (0, [.int (nI kn), .ref (a 14), .ref (a 15), .ref (a 16), .ref (a 17)])), ((a 14), .inl (cI, 512, .inl (upd ka kn p1))), ((a 15), .inl (cI, 512, .inl (upd kb kn p2))), ((a 16), .inl (cI, 512, .inl (upd kc kn p3))), ((a 17), .inl (cZ, 512, .inl kd))] := hD
  refine lv_aload_n hx hb dX0_add_30 rfl (lv_at hl 0 rfl) ?_
  refine va_get (D := D) (ci := 0) (v := .ref (a 17)) (C := RX0) (T := TX0) (N := 5) hx hb hts hi_X0 hown hK hP 0 rfl rfl 4 (by decide) hf_21 (fun _ h9 => h9) rfl dX0_add_31 ?_
  refine lv_aload_n hx hb dX0_add_34 rfl (lv_at hl 0 rfl) ?_
  refine va_get (D := D) (ci := 0) (v := .int (nI kn)) (C := RX0) (T := TX0) (N := 5) hx hb hts hi_X0 hown hK hP 0 rfl rfl 0 (by decide) hf_25 (fun _ h9 => h9) rfl dX0_add_35 ?_
  refine lv_iconst (v := 0) hx hb dX0_add_38 (by decide) ?_
  refine va_zast hx hb hK hP hD hS 4 1 rfl rfl (vp_in_nI (n := kn) (by omega) (by decide)) dX0_add_39 (fun H locs hP hD hS => ?_)
  rw [nI_clamp (n := kn) (by omega)] at hP hD
  have hP : va_P D vwCl [((a 13), .inr (0, [.int (nI kn), .ref (a 14), .ref (a 15), .ref (a 16), .ref (a 17)])), ((a 14), .inl (cI, 512, .inl (upd ka kn p1))), ((a 15), .inl (cI, 512, .inl (upd kb kn p2))), ((a 16), .inl (cI, 512, .inl (upd kc kn p3))), ((a 17), .inl (cZ, 512, .inl (upd kd kn 0)))] H := hP
  have hD : va_D A [((a 13), .inr (0, [.int (nI kn), .ref (a 14), .ref (a 15), .ref (a 16), .ref (a 17)])), ((a 14), .inl (cI, 512, .inl (upd ka kn p1))), ((a 15), .inl (cI, 512, .inl (upd kb kn p2))), ((a 16), .inl (cI, 512, .inl (upd kc kn p3))), ((a 17), .inl (cZ, 512, .inl (upd kd kn 0)))] := hD
  refine lv_aload_n hx hb dX0_add_40 rfl (lv_at hl 0 rfl) ?_
  refine lv_dup hx hb dX0_add_41 rfl ?_
  refine va_get (D := D) (ci := 0) (v := .int (nI kn)) (C := RX0) (T := TX0) (N := 5) hx hb hts hi_X0 hown hK hP 0 rfl rfl 0 (by decide) hf_25 (fun _ h9 => h9) rfl dX0_add_42 ?_
  refine lv_iconst (v := 1) hx hb dX0_add_45 (by decide) ?_
  refine lv_iadd hx hb dX0_add_46 ?_
  refine tp_eq (y := nI (kn + 1)) (nI_1 kn) ?_
  refine va_put (D := D) (ci := 0) (v := .int (nI (kn + 1))) (ty := .int) (C := RX0) (T := TX0) (N := 5) hx hb hts hi_X0 tyX0 tyX0_ok nmX0 hown hK hP hD hS 0 rfl rfl 0 (by decide) hf_25 (fun _ h9 => h9) rfl (by decide +kernel) rfl rfl (Nat.le_of_ble_eq_true rfl) dX0_add_47 (fun H locs hP hD hS => ?_)
  have hP : va_P D vwCl [((a 13), .inr (0, [.int (nI (kn + 1)), .ref (a 14), .ref (a 15), .ref (a 16), .ref (a 17)])), ((a 14), .inl (cI, 512, .inl (upd ka kn p1))), ((a 15), .inl (cI, 512, .inl (upd kb kn p2))), ((a 16), .inl (cI, 512, .inl (upd kc kn p3))), ((a 17), .inl (cZ, 512, .inl (upd kd kn 0)))] H := hP
  have hD : va_D A [((a 13), .inr (0, [.int (nI (kn + 1)), .ref (a 14), .ref (a 15), .ref (a 16), .ref (a 17)])), ((a 14), .inl (cI, 512, .inl (upd ka kn p1))), ((a 15), .inl (cI, 512, .inl (upd kb kn p2))), ((a 16), .inl (cI, 512, .inl (upd kc kn p3))), ((a 17), .inl (cZ, 512, .inl (upd kd kn 0)))] := hD
  refine lv_aload_n hx hb dX0_add_50 rfl (lv_at hl 0 rfl) ?_
  refine va_get (D := D) (ci := 0) (v := .int (nI (kn + 1))) (C := RX0) (T := TX0) (N := 5) hx hb hts hi_X0 hown hK hP 0 rfl rfl 0 (by decide) hf_25 (fun _ h9 => h9) rfl dX0_add_51 ?_
  refine lv_iconst (v := 1) hx hb dX0_add_54 (by decide) ?_
  refine lv_isub hx hb dX0_add_55 ?_
  refine tp_eq (y := nI kn) (nI_pred kn) ?_
  have hP9 := hP.sub (ws' := [((a 13), .inr (0, [.int (nI (kn + 1)), .ref (a 14), .ref (a 15), .ref (a 16), .ref (a 17)])), ((a 14), .inl (cI, 512, .inl (upd ka kn p1))), ((a 15), .inl (cI, 512, .inl (upd kb kn p2))), ((a 16), .inl (cI, 512, .inl (upd kc kn p3))), ((a 17), .inl (cZ, 512, .inl (upd kd kn 0)))]) [0, 1, 2, 3, 4] rfl
  have hD9 := hD.sub (ws' := [((a 13), .inr (0, [.int (nI (kn + 1)), .ref (a 14), .ref (a 15), .ref (a 16), .ref (a 17)])), ((a 14), .inl (cI, 512, .inl (upd ka kn p1))), ((a 15), .inl (cI, 512, .inl (upd kb kn p2))), ((a 16), .inl (cI, 512, .inl (upd kc kn p3))), ((a 17), .inl (cZ, 512, .inl (upd kd kn 0)))]) [0, 1, 2, 3, 4] (by decide) rfl
  -- leaf 0
  exact W.iret (v := nI kn) hx hb hr (fun t ht hW => ⟨⟨nI kn, ((kn + 1), upd ka kn p1, upd kb kn p2, upd kc kn p3, upd kd kn 0), rfl, ⟨rfl, rfl, rfl, rfl, rfl, rfl⟩, by rw [ht]; exact hP9, va_K.moved hW.alike hK, hD9⟩, hS.F ht⟩) hS.2.2 dX0_add_56

noncomputable def f_X2_mayCall (hm : Int32) (aw : Int32) (tk : Int32) (kn : Nat) : Int32 := if 512 ≤ (nI kn) then 0 else 1
set_option maxHeartbeats 4000000 in
set_option maxRecDepth 100000 in
theorem c_X2_mayCall (l : Launch) (D : va_G) (cI cZ cJ cA : ClassId) (sz : Nat) (a : Nat → Nat) (hm : Int32) (aw : Int32) (tk : Int32) (kn : Nat) : Met l yX2_mayCall wsX2_mayCall ({ frames := 0, cells := 0, slots := 0, locals := 0 } : Room) (va_Pc [.ref (a 4)] (pcR D (tyL cI cZ cJ cA) [((a 4), .inr (2, [.int hm, .int aw, .int tk, .ref (a 5), .ref (a 6), .ref (a 7), .ref (a 8), .ref (a 13)])), ((a 13), .inr (0, [.int (nI kn), .ref (a 14), .ref (a 15), .ref (a 16), .ref (a 17)]))] sz)) (va_Qi (fun (r : Int32) (u : Unit) => r = f_X2_mayCall hm aw tk kn) (fun _ _ => True) (fun q : Nat => sz ≤ q)) 0 0 (fun q : Nat => sz ≤ q) := by
  refine Met.ofW (cc := cX2_mayCall) (maxL := 1) (ret := (some .boolean)) (by decide) rfl ?_
  intro p e s m args below meth c s₁ B hml hv
  obtain ⟨rfl, hsz, hP, hK⟩ := hv
  have hx := B.exec
  have hb := B.bytes
  have hr := B.returns
  have hts := atoms_spec (ws := wsX2_mayCall) B.pre
  have hown : s.vm.findClass RX2 = some m.cls := findClass_of_methodNamed B.named
  have hlocks := B.notSynchronized
  subst hsz
  have hA : ∀ q : Nat, s.heap.size ≤ q → (fun q : Nat => s.heap.size ≤ q) q := fun _ h => h
  have hS : va_S (fun q : Nat => s.heap.size ≤ q) s.heap s.heap [] := va_S.rf
  have hP : va_P D vwCl [((a 4), .inr (2, [.int hm, .int aw, .int tk, .ref (a 5), .ref (a 6), .ref (a 7), .ref (a 8), .ref (a 13)])), ((a 13), .inr (0, [.int (nI kn), .ref (a 14), .ref (a 15), .ref (a 16), .ref (a 17)]))] s.heap := hP
  have hl := lv_entry ([.ref (a 4)]) (n := 1) (Nat.le_of_ble_eq_true rfl)
  rw [lg_entry_eq]
  generalize (lg_sl ([.ref (a 4)]) ++ List.replicate (1 - (lg_sl ([.ref (a 4)])).length) Slot.unset).toArray = ls at hl ⊢
  have hl : lv_has ls 1 [(0, .ref (a 4))] := hl
  have hf_35 := hts (.fieldLink RX2 35 "PaintballAtlas$Round" "calls" "LPaintballAtlas$Calls;") (by decide +kernel)
  have hi_X2 : ∀ w ∈ wsX20, w ∈ wsX2_mayCall := by decide +kernel
  have hf_52 := hts (.fieldLink RX2 52 "PaintballAtlas$Calls" "count" "I") (by decide +kernel)
  have hi_X0 : ∀ w ∈ wsX00, w ∈ wsX2_mayCall := by decide +kernel
  refine lv_aload_n hx hb dX2_mayCall_0 rfl (lv_at hl 0 rfl) ?_
  refine va_get (D := D) (ci := 2) (v := .ref (a 13)) (C := RX2) (T := TX2) (N := 8) hx hb hts hi_X2 hown hK hP 0 rfl rfl 7 (by decide) hf_35 (fun _ h9 => h9) rfl dX2_mayCall_1 ?_
  refine va_get (D := D) (ci := 0) (v := .int (nI kn)) (C := RX0) (T := TX0) (N := 5) hx hb hts hi_X0 hown hK hP 1 rfl rfl 0 (by decide) hf_52 (fun _ h9 => h9) rfl dX2_mayCall_4 ?_
  refine lv_sipush (v := 512) hx hb dX2_mayCall_7 (by decide) ?_
  refine lv_icmp_ge (tgt := 17) hx hb dX2_mayCall_10 (by decide) (fun c_1 => ?_) (fun c_1 => ?_)
  · refine lv_iconst (v := 0) hx hb dX2_mayCall_17 (by decide) ?_
    -- leaf 0
    exact W.zret (v := 0) (ty := .boolean) hx hb hr rfl (fun t ht hW => ⟨⟨0, (), rfl, (by rw [f_X2_mayCall, if_pos c_1]), trivial⟩, hS.F ht⟩) hS.2.2 dX2_mayCall_18
  · refine lv_iconst (v := 1) hx hb dX2_mayCall_13 (by decide) ?_
    refine lv_goto (tgt := 18) hx hb dX2_mayCall_14 (by decide) ?_
    -- leaf 1
    exact W.zret (v := 1) (ty := .boolean) hx hb hr rfl (fun t ht hW => ⟨⟨1, (), rfl, (by rw [f_X2_mayCall, if_neg c_1]), trivial⟩, hS.F ht⟩) hS.2.2 dX2_mayCall_18

noncomputable def f_X2_hasCall (hm : Int32) (aw : Int32) (tk : Int32) (kn : Nat) (p1 : Int32) : Int32 := if p1 < 0 then 0 else (if (nI kn) ≤ p1 then 0 else 1)
set_option maxHeartbeats 4000000 in
set_option maxRecDepth 100000 in
theorem c_X2_hasCall (l : Launch) (D : va_G) (cI cZ cJ cA : ClassId) (sz : Nat) (a : Nat → Nat) (hm : Int32) (aw : Int32) (tk : Int32) (kn : Nat) (p1 : Int32) : Met l yX2_hasCall wsX2_hasCall ({ frames := 0, cells := 0, slots := 0, locals := 0 } : Room) (va_Pc [.ref (a 4), .int p1] (pcR D (tyL cI cZ cJ cA) [((a 4), .inr (2, [.int hm, .int aw, .int tk, .ref (a 5), .ref (a 6), .ref (a 7), .ref (a 8), .ref (a 13)])), ((a 13), .inr (0, [.int (nI kn), .ref (a 14), .ref (a 15), .ref (a 16), .ref (a 17)]))] sz)) (va_Qi (fun (r : Int32) (u : Unit) => r = f_X2_hasCall hm aw tk kn p1) (fun _ _ => True) (fun q : Nat => sz ≤ q)) 0 0 (fun q : Nat => sz ≤ q) := by
  refine Met.ofW (cc := cX2_hasCall) (maxL := 2) (ret := (some .boolean)) (by decide) rfl ?_
  intro p e s m args below meth c s₁ B hml hv
  obtain ⟨rfl, hsz, hP, hK⟩ := hv
  have hx := B.exec
  have hb := B.bytes
  have hr := B.returns
  have hts := atoms_spec (ws := wsX2_hasCall) B.pre
  have hown : s.vm.findClass RX2 = some m.cls := findClass_of_methodNamed B.named
  have hlocks := B.notSynchronized
  subst hsz
  have hA : ∀ q : Nat, s.heap.size ≤ q → (fun q : Nat => s.heap.size ≤ q) q := fun _ h => h
  have hS : va_S (fun q : Nat => s.heap.size ≤ q) s.heap s.heap [] := va_S.rf
  have hP : va_P D vwCl [((a 4), .inr (2, [.int hm, .int aw, .int tk, .ref (a 5), .ref (a 6), .ref (a 7), .ref (a 8), .ref (a 13)])), ((a 13), .inr (0, [.int (nI kn), .ref (a 14), .ref (a 15), .ref (a 16), .ref (a 17)]))] s.heap := hP
  have hl := lv_entry ([.ref (a 4), .int p1]) (n := 2) (Nat.le_of_ble_eq_true rfl)
  rw [lg_entry_eq]
  generalize (lg_sl ([.ref (a 4), .int p1]) ++ List.replicate (2 - (lg_sl ([.ref (a 4), .int p1])).length) Slot.unset).toArray = ls at hl ⊢
  have hl : lv_has ls 2 [(0, .ref (a 4)), (1, .int p1)] := hl
  have hf_35 := hts (.fieldLink RX2 35 "PaintballAtlas$Round" "calls" "LPaintballAtlas$Calls;") (by decide +kernel)
  have hi_X2 : ∀ w ∈ wsX20, w ∈ wsX2_hasCall := by decide +kernel
  have hf_52 := hts (.fieldLink RX2 52 "PaintballAtlas$Calls" "count" "I") (by decide +kernel)
  have hi_X0 : ∀ w ∈ wsX00, w ∈ wsX2_hasCall := by decide +kernel
  refine lv_iload_n hx hb dX2_hasCall_0 rfl (lv_at hl 1 rfl) ?_
  refine lv_if_lt (tgt := 19) hx hb dX2_hasCall_1 (by decide) (fun c_1 => ?_) (fun c_1 => ?_)
  · refine lv_iconst (v := 0) hx hb dX2_hasCall_19 (by decide) ?_
    -- leaf 0
    exact W.zret (v := 0) (ty := .boolean) hx hb hr rfl (fun t ht hW => ⟨⟨0, (), rfl, (by rw [f_X2_hasCall, if_pos c_1]), trivial⟩, hS.F ht⟩) hS.2.2 dX2_hasCall_20
  · refine lv_iload_n hx hb dX2_hasCall_4 rfl (lv_at hl 1 rfl) ?_
    refine lv_aload_n hx hb dX2_hasCall_5 rfl (lv_at hl 0 rfl) ?_
    refine va_get (D := D) (ci := 2) (v := .ref (a 13)) (C := RX2) (T := TX2) (N := 8) hx hb hts hi_X2 hown hK hP 0 rfl rfl 7 (by decide) hf_35 (fun _ h9 => h9) rfl dX2_hasCall_6 ?_
    refine va_get (D := D) (ci := 0) (v := .int (nI kn)) (C := RX0) (T := TX0) (N := 5) hx hb hts hi_X0 hown hK hP 1 rfl rfl 0 (by decide) hf_52 (fun _ h9 => h9) rfl dX2_hasCall_9 ?_
    refine lv_icmp_ge (tgt := 19) hx hb dX2_hasCall_12 (by decide) (fun c_2 => ?_) (fun c_2 => ?_)
    · refine lv_iconst (v := 0) hx hb dX2_hasCall_19 (by decide) ?_
      -- leaf 1
      exact W.zret (v := 0) (ty := .boolean) hx hb hr rfl (fun t ht hW => ⟨⟨0, (), rfl, (by rw [f_X2_hasCall, if_neg c_1, if_pos c_2]), trivial⟩, hS.F ht⟩) hS.2.2 dX2_hasCall_20
    · refine lv_iconst (v := 1) hx hb dX2_hasCall_15 (by decide) ?_
      refine lv_goto (tgt := 20) hx hb dX2_hasCall_16 (by decide) ?_
      -- leaf 2
      exact W.zret (v := 1) (ty := .boolean) hx hb hr rfl (fun t ht hW => ⟨⟨1, (), rfl, (by rw [f_X2_hasCall, if_neg c_1, if_neg c_2]), trivial⟩, hS.F ht⟩) hS.2.2 dX2_hasCall_20

set_option maxHeartbeats 4000000 in
set_option maxRecDepth 100000 in
theorem c_X2_isDisputed (l : Launch) (D : va_G) (cI cZ cJ cA : ClassId) (sz : Nat) (a : Nat → Nat) (hm : Int32) (aw : Int32) (tk : Int32) (kn : Nat) (kd : Nat → Int32) (p1 : Int32) (h1 : vp_in p1 512) (hz : ∀ j : Nat, kd j = 0 ∨ kd j = 1) : Met l yX2_isDisputed wsX2_isDisputed ({ frames := 0, cells := 0, slots := 0, locals := 0 } : Room) (va_Pc [.ref (a 4), .int p1] (pcR D (tyL cI cZ cJ cA) [((a 4), .inr (2, [.int hm, .int aw, .int tk, .ref (a 5), .ref (a 6), .ref (a 7), .ref (a 8), .ref (a 13)])), ((a 13), .inr (0, [.int (nI kn), .ref (a 14), .ref (a 15), .ref (a 16), .ref (a 17)])), ((a 17), .inl (cZ, 512, .inl kd))] sz)) (va_Qi (fun (r : Int32) (u : Unit) => r = kd p1.toNatClampNeg) (fun _ _ => True) (fun q : Nat => sz ≤ q)) 0 0 (fun q : Nat => sz ≤ q) := by
  refine Met.ofW (cc := cX2_isDisputed) (maxL := 2) (ret := (some .boolean)) (by decide) rfl ?_
  intro p e s m args below meth c s₁ B hml hv
  obtain ⟨rfl, hsz, hP, hK⟩ := hv
  have hx := B.exec
  have hb := B.bytes
  have hr := B.returns
  have hts := atoms_spec (ws := wsX2_isDisputed) B.pre
  have hown : s.vm.findClass RX2 = some m.cls := findClass_of_methodNamed B.named
  have hlocks := B.notSynchronized
  subst hsz
  have hA : ∀ q : Nat, s.heap.size ≤ q → (fun q : Nat => s.heap.size ≤ q) q := fun _ h => h
  have hS : va_S (fun q : Nat => s.heap.size ≤ q) s.heap s.heap [] := va_S.rf
  have hP : va_P D vwCl [((a 4), .inr (2, [.int hm, .int aw, .int tk, .ref (a 5), .ref (a 6), .ref (a 7), .ref (a 8), .ref (a 13)])), ((a 13), .inr (0, [.int (nI kn), .ref (a 14), .ref (a 15), .ref (a 16), .ref (a 17)])), ((a 17), .inl (cZ, 512, .inl kd))] s.heap := hP
  have hl := lv_entry ([.ref (a 4), .int p1]) (n := 2) (Nat.le_of_ble_eq_true rfl)
  rw [lg_entry_eq]
  generalize (lg_sl ([.ref (a 4), .int p1]) ++ List.replicate (2 - (lg_sl ([.ref (a 4), .int p1])).length) Slot.unset).toArray = ls at hl ⊢
  have hl : lv_has ls 2 [(0, .ref (a 4)), (1, .int p1)] := hl
  have hf_35 := hts (.fieldLink RX2 35 "PaintballAtlas$Round" "calls" "LPaintballAtlas$Calls;") (by decide +kernel)
  have hi_X2 : ∀ w ∈ wsX20, w ∈ wsX2_isDisputed := by decide +kernel
  have hf_90 := hts (.fieldLink RX2 90 "PaintballAtlas$Calls" "disputed" "[Z") (by decide +kernel)
  have hi_X0 : ∀ w ∈ wsX00, w ∈ wsX2_isDisputed := by decide +kernel
  refine lv_aload_n hx hb dX2_isDisputed_0 rfl (lv_at hl 0 rfl) ?_
  refine va_get (D := D) (ci := 2) (v := .ref (a 13)) (C := RX2) (T := TX2) (N := 8) hx hb hts hi_X2 hown hK hP 0 rfl rfl 7 (by decide) hf_35 (fun _ h9 => h9) rfl dX2_isDisputed_1 ?_
  refine va_get (D := D) (ci := 0) (v := .ref (a 17)) (C := RX0) (T := TX0) (N := 5) hx hb hts hi_X0 hown hK hP 1 rfl rfl 4 (by decide) hf_90 (fun _ h9 => h9) rfl dX2_isDisputed_4 ?_
  refine lv_iload_n hx hb dX2_isDisputed_7 rfl (lv_at hl 1 rfl) ?_
  refine va_zald hx hb hK hP 2 1 rfl rfl (by assumption) dX2_isDisputed_8 ?_
  -- leaf 0
  exact W.zret (v := kd p1.toNatClampNeg) (ty := .boolean) hx hb hr (nz01 (hz _)) (fun t ht hW => ⟨⟨kd p1.toNatClampNeg, (), rfl, rfl, trivial⟩, hS.F ht⟩) hS.2.2 dX2_isDisputed_9

noncomputable def f_X2_teamCalled (hm : Int32) (aw : Int32) (tk : Int32) (kn : Nat) (ka : Nat → Int32) (p1 : Int32) : Int32 := if 3 ≤ (ka p1.toNatClampNeg) then aw else hm
set_option maxHeartbeats 4000000 in
set_option maxRecDepth 100000 in
theorem c_X2_teamCalled (l : Launch) (D : va_G) (cI cZ cJ cA : ClassId) (sz : Nat) (a : Nat → Nat) (hm : Int32) (aw : Int32) (tk : Int32) (kn : Nat) (ka : Nat → Int32) (p1 : Int32) (h1 : vp_in p1 512) : Met l yX2_teamCalled wsX2_teamCalled ({ frames := 0, cells := 0, slots := 0, locals := 0 } : Room) (va_Pc [.ref (a 4), .int p1] (pcR D (tyL cI cZ cJ cA) [((a 4), .inr (2, [.int hm, .int aw, .int tk, .ref (a 5), .ref (a 6), .ref (a 7), .ref (a 8), .ref (a 13)])), ((a 13), .inr (0, [.int (nI kn), .ref (a 14), .ref (a 15), .ref (a 16), .ref (a 17)])), ((a 14), .inl (cI, 512, .inl ka))] sz)) (va_Qi (fun (r : Int32) (u : Unit) => r = f_X2_teamCalled hm aw tk kn ka p1) (fun _ _ => True) (fun q : Nat => sz ≤ q)) 0 0 (fun q : Nat => sz ≤ q) := by
  refine Met.ofW (cc := cX2_teamCalled) (maxL := 2) (ret := (some .int)) (by decide) rfl ?_
  intro p e s m args below meth c s₁ B hml hv
  obtain ⟨rfl, hsz, hP, hK⟩ := hv
  have hx := B.exec
  have hb := B.bytes
  have hr := B.returns
  have hts := atoms_spec (ws := wsX2_teamCalled) B.pre
  have hown : s.vm.findClass RX2 = some m.cls := findClass_of_methodNamed B.named
  have hlocks := B.notSynchronized
  subst hsz
  have hA : ∀ q : Nat, s.heap.size ≤ q → (fun q : Nat => s.heap.size ≤ q) q := fun _ h => h
  have hS : va_S (fun q : Nat => s.heap.size ≤ q) s.heap s.heap [] := va_S.rf
  have hP : va_P D vwCl [((a 4), .inr (2, [.int hm, .int aw, .int tk, .ref (a 5), .ref (a 6), .ref (a 7), .ref (a 8), .ref (a 13)])), ((a 13), .inr (0, [.int (nI kn), .ref (a 14), .ref (a 15), .ref (a 16), .ref (a 17)])), ((a 14), .inl (cI, 512, .inl ka))] s.heap := hP
  have hl := lv_entry ([.ref (a 4), .int p1]) (n := 2) (Nat.le_of_ble_eq_true rfl)
  rw [lg_entry_eq]
  generalize (lg_sl ([.ref (a 4), .int p1]) ++ List.replicate (2 - (lg_sl ([.ref (a 4), .int p1])).length) Slot.unset).toArray = ls at hl ⊢
  have hl : lv_has ls 2 [(0, .ref (a 4)), (1, .int p1)] := hl
  have hf_35 := hts (.fieldLink RX2 35 "PaintballAtlas$Round" "calls" "LPaintballAtlas$Calls;") (by decide +kernel)
  have hi_X2 : ∀ w ∈ wsX20, w ∈ wsX2_teamCalled := by decide +kernel
  have hf_94 := hts (.fieldLink RX2 94 "PaintballAtlas$Calls" "players" "[I") (by decide +kernel)
  have hi_X0 : ∀ w ∈ wsX00, w ∈ wsX2_teamCalled := by decide +kernel
  have hf_46 := hts (.fieldLink RX2 46 "PaintballAtlas$Round" "away" "I") (by decide +kernel)
  have hf_43 := hts (.fieldLink RX2 43 "PaintballAtlas$Round" "home" "I") (by decide +kernel)
  refine lv_aload_n hx hb dX2_teamCalled_0 rfl (lv_at hl 0 rfl) ?_
  refine va_get (D := D) (ci := 2) (v := .ref (a 13)) (C := RX2) (T := TX2) (N := 8) hx hb hts hi_X2 hown hK hP 0 rfl rfl 7 (by decide) hf_35 (fun _ h9 => h9) rfl dX2_teamCalled_1 ?_
  refine va_get (D := D) (ci := 0) (v := .ref (a 14)) (C := RX0) (T := TX0) (N := 5) hx hb hts hi_X0 hown hK hP 1 rfl rfl 1 (by decide) hf_94 (fun _ h9 => h9) rfl dX2_teamCalled_4 ?_
  refine lv_iload_n hx hb dX2_teamCalled_7 rfl (lv_at hl 1 rfl) ?_
  refine va_iald hx hb hK hP 2 0 rfl rfl (by assumption) dX2_teamCalled_8 ?_
  refine lv_iconst (v := 3) hx hb dX2_teamCalled_9 (by decide) ?_
  refine lv_icmp_ge (tgt := 20) hx hb dX2_teamCalled_10 (by decide) (fun c_1 => ?_) (fun c_1 => ?_)
  · refine lv_aload_n hx hb dX2_teamCalled_20 rfl (lv_at hl 0 rfl) ?_
    refine va_get (D := D) (ci := 2) (v := .int aw) (C := RX2) (T := TX2) (N := 8) hx hb hts hi_X2 hown hK hP 0 rfl rfl 1 (by decide) hf_46 (fun _ h9 => h9) rfl dX2_teamCalled_21 ?_
    -- leaf 0
    exact W.iret (v := aw) hx hb hr (fun t ht hW => ⟨⟨aw, (), rfl, (by rw [f_X2_teamCalled, if_pos c_1]), trivial⟩, hS.F ht⟩) hS.2.2 dX2_teamCalled_24
  · refine lv_aload_n hx hb dX2_teamCalled_13 rfl (lv_at hl 0 rfl) ?_
    refine va_get (D := D) (ci := 2) (v := .int hm) (C := RX2) (T := TX2) (N := 8) hx hb hts hi_X2 hown hK hP 0 rfl rfl 0 (by decide) hf_43 (fun _ h9 => h9) rfl dX2_teamCalled_14 ?_
    refine lv_goto (tgt := 24) hx hb dX2_teamCalled_17 (by decide) ?_
    -- leaf 1
    exact W.iret (v := hm) hx hb hr (fun t ht hW => ⟨⟨hm, (), rfl, (by rw [f_X2_teamCalled, if_neg c_1]), trivial⟩, hS.F ht⟩) hS.2.2 dX2_teamCalled_24
