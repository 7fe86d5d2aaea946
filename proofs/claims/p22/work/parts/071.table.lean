set_option maxHeartbeats 4000000 in
set_option maxRecDepth 100000 in
theorem c_X4_pointsOf (l : Launch) (D : va_G) (cI cZ cJ cA : ClassId) (sz : Nat) (a : Nat → Nat) (pt : Nat → Int32) (p1 : Int32) (h1 : vp_in p1 6) : Met l yX4_pointsOf wsX4_pointsOf ({ frames := 0, cells := 0, slots := 0, locals := 0 } : Room) (va_Pc [.ref (a 18), .int p1] (pcR D (tyL cI cZ cJ cA) [((a 18), .inr (4, [.ref (a 19), .ref (a 20), .ref (a 21), .ref (a 22)])), ((a 19), .inl (cI, 6, .inl pt))] sz)) (va_Qi (fun (r : Int32) (u : Unit) => r = pt p1.toNatClampNeg) (fun _ _ => True) (fun q : Nat => sz ≤ q)) 0 0 (fun q : Nat => sz ≤ q) := by
  refine Met.ofW (cc := cX4_pointsOf) (maxL := 2) (ret := (some .int)) (by decide) rfl ?_
  intro p e s m args below meth c s₁ B hml hv
  obtain ⟨rfl, hsz, hP, hK⟩ := hv
  have hx := B.exec
  have hb := B.bytes
  have hr := B.returns
  have hts := atoms_spec (ws := wsX4_pointsOf) B.pre
  have hown : s.vm.findClass RX4 = some m.cls := findClass_of_methodNamed B.named
  have hlocks := B.notSynchronized
  subst hsz
  have hA : ∀ q : Nat, s.heap.size ≤ q → (fun q : Nat => s.heap.size ≤ q) q := fun _ h => h
  have hS : va_S (fun q : Nat => s.heap.size ≤ q) s.heap s.heap [] := va_S.rf
  have hP : va_P D vwCl [((a 18), .inr (4, [.ref (a 19), .ref (a 20), .ref (a 21), .ref (a 22)])), ((a 19), .inl (cI, 6, .inl pt))] s.heap := hP
  have hl := lv_entry ([.ref (a 18), .int p1]) (n := 2) (Nat.le_of_ble_eq_true rfl)
  rw [lg_entry_eq]
  generalize (lg_sl ([.ref (a 18), .int p1]) ++ List.replicate (2 - (lg_sl ([.ref (a 18), .int p1])).length) Slot.unset).toArray = ls at hl ⊢
  have hl : lv_has ls 2 [(0, .ref (a 18)), (1, .int p1)] := hl
  have hf_9 := hts (.fieldLink RX4 9 "PaintballAtlas$Table" "points" "[I") (by decide +kernel)
  have hi_X4 : ∀ w ∈ wsX40, w ∈ wsX4_pointsOf := by decide +kernel
  refine lv_aload_n hx hb dX4_pointsOf_0 rfl (lv_at hl 0 rfl) ?_
  refine va_get (D := D) (ci := 4) (v := .ref (a 19)) (C := RX4) (T := TX4) (N := 4) hx hb hts hi_X4 hown hK hP 0 rfl rfl 0 (by decide) hf_9 (fun _ h9 => h9) rfl dX4_pointsOf_1 ?_
  refine lv_iload_n hx hb dX4_pointsOf_4 rfl (lv_at hl 1 rfl) ?_
  refine va_iald hx hb hK hP 1 0 rfl rfl (by assumption) dX4_pointsOf_5 ?_
  -- leaf 0
  exact W.iret (v := pt p1.toNatClampNeg) hx hb hr (fun t ht hW => ⟨⟨pt p1.toNatClampNeg, (), rfl, rfl, trivial⟩, hS.F ht⟩) hS.2.2 dX4_pointsOf_6

set_option maxHeartbeats 4000000 in
set_option maxRecDepth 100000 in
theorem c_X4_finesOf (l : Launch) (D : va_G) (cI cZ cJ cA : ClassId) (sz : Nat) (a : Nat → Nat) (fn : Nat → Int32) (p1 : Int32) (h1 : vp_in p1 6) : Met l yX4_finesOf wsX4_finesOf ({ frames := 0, cells := 0, slots := 0, locals := 0 } : Room) (va_Pc [.ref (a 18), .int p1] (pcR D (tyL cI cZ cJ cA) [((a 18), .inr (4, [.ref (a 19), .ref (a 20), .ref (a 21), .ref (a 22)])), ((a 20), .inl (cI, 6, .inl fn))] sz)) (va_Qi (fun (r : Int32) (u : Unit) => r = fn p1.toNatClampNeg) (fun _ _ => True) (fun q : Nat => sz ≤ q)) 0 0 (fun q : Nat => sz ≤ q) := by
  refine Met.ofW (cc := cX4_finesOf) (maxL := 2) (ret := (some .int)) (by decide) rfl ?_
  intro p e s m args below meth c s₁ B hml hv
  obtain ⟨rfl, hsz, hP, hK⟩ := hv
  have hx := B.exec
  have hb := B.bytes
  have hr := B.returns
  have hts := atoms_spec (ws := wsX4_finesOf) B.pre
  have hown : s.vm.findClass RX4 = some m.cls := findClass_of_methodNamed B.named
  have hlocks := B.notSynchronized
  subst hsz
  have hA : ∀ q : Nat, s.heap.size ≤ q → (fun q : Nat => s.heap.size ≤ q) q := fun _ h => h
  have hS : va_S (fun q : Nat => s.heap.size ≤ q) s.heap s.heap [] := va_S.rf
  have hP : va_P D vwCl [((a 18), .inr (4, [.ref (a 19), .ref (a 20), .ref (a 21), .ref (a 22)])), ((a 20), .inl (cI, 6, .inl fn))] s.heap := hP
  have hl := lv_entry ([.ref (a 18), .int p1]) (n := 2) (Nat.le_of_ble_eq_true rfl)
  rw [lg_entry_eq]
  generalize (lg_sl ([.ref (a 18), .int p1]) ++ List.replicate (2 - (lg_sl ([.ref (a 18), .int p1])).length) Slot.unset).toArray = ls at hl ⊢
  have hl : lv_has ls 2 [(0, .ref (a 18)), (1, .int p1)] := hl
  have hf_15 := hts (.fieldLink RX4 15 "PaintballAtlas$Table" "fines" "[I") (by decide +kernel)
  have hi_X4 : ∀ w ∈ wsX40, w ∈ wsX4_finesOf := by decide +kernel
  refine lv_aload_n hx hb dX4_finesOf_0 rfl (lv_at hl 0 rfl) ?_
  refine va_get (D := D) (ci := 4) (v := .ref (a 20)) (C := RX4) (T := TX4) (N := 4) hx hb hts hi_X4 hown hK hP 0 rfl rfl 1 (by decide) hf_15 (fun _ h9 => h9) rfl dX4_finesOf_1 ?_
  refine lv_iload_n hx hb dX4_finesOf_4 rfl (lv_at hl 1 rfl) ?_
  refine va_iald hx hb hK hP 1 0 rfl rfl (by assumption) dX4_finesOf_5 ?_
  -- leaf 0
  exact W.iret (v := fn p1.toNatClampNeg) hx hb hr (fun t ht hW => ⟨⟨fn p1.toNatClampNeg, (), rfl, rfl, trivial⟩, hS.F ht⟩) hS.2.2 dX4_finesOf_6

set_option maxHeartbeats 4000000 in
set_option maxRecDepth 100000 in
theorem c_X4_differenceOf (l : Launch) (D : va_G) (cI cZ cJ cA : ClassId) (sz : Nat) (a : Nat → Nat) (df : Nat → Int32) (p1 : Int32) (h1 : vp_in p1 6) : Met l yX4_differenceOf wsX4_differenceOf ({ frames := 0, cells := 0, slots := 0, locals := 0 } : Room) (va_Pc [.ref (a 18), .int p1] (pcR D (tyL cI cZ cJ cA) [((a 18), .inr (4, [.ref (a 19), .ref (a 20), .ref (a 21), .ref (a 22)])), ((a 21), .inl (cI, 6, .inl df))] sz)) (va_Qi (fun (r : Int32) (u : Unit) => r = df p1.toNatClampNeg) (fun _ _ => True) (fun q : Nat => sz ≤ q)) 0 0 (fun q : Nat => sz ≤ q) := by
  refine Met.ofW (cc := cX4_differenceOf) (maxL := 2) (ret := (some .int)) (by decide) rfl ?_
  intro p e s m args below meth c s₁ B hml hv
  obtain ⟨rfl, hsz, hP, hK⟩ := hv
  have hx := B.exec
  have hb := B.bytes
  have hr := B.returns
  have hts := atoms_spec (ws := wsX4_differenceOf) B.pre
  have hown : s.vm.findClass RX4 = some m.cls := findClass_of_methodNamed B.named
  have hlocks := B.notSynchronized
  subst hsz
  have hA : ∀ q : Nat, s.heap.size ≤ q → (fun q : Nat => s.heap.size ≤ q) q := fun _ h => h
  have hS : va_S (fun q : Nat => s.heap.size ≤ q) s.heap s.heap [] := va_S.rf
  have hP : va_P D vwCl [((a 18), .inr (4, [.ref (a 19), .ref (a 20), .ref (a 21), .ref (a 22)])), ((a 21), .inl (cI, 6, .inl df))] s.heap := hP
  have hl := lv_entry ([.ref (a 18), .int p1]) (n := 2) (Nat.le_of_ble_eq_true rfl)
  rw [lg_entry_eq]
  generalize (lg_sl ([.ref (a 18), .int p1]) ++ List.replicate (2 - (lg_sl ([.ref (a 18), .int p1])).length) Slot.unset).toArray = ls at hl ⊢
  have hl : lv_has ls 2 [(0, .ref (a 18)), (1, .int p1)] := hl
  have hf_18 := hts (.fieldLink RX4 18 "PaintballAtlas$Table" "differences" "[I") (by decide +kernel)
  have hi_X4 : ∀ w ∈ wsX40, w ∈ wsX4_differenceOf := by decide +kernel
  refine lv_aload_n hx hb dX4_differenceOf_0 rfl (lv_at hl 0 rfl) ?_
  refine va_get (D := D) (ci := 4) (v := .ref (a 21)) (C := RX4) (T := TX4) (N := 4) hx hb hts hi_X4 hown hK hP 0 rfl rfl 2 (by decide) hf_18 (fun _ h9 => h9) rfl dX4_differenceOf_1 ?_
  refine lv_iload_n hx hb dX4_differenceOf_4 rfl (lv_at hl 1 rfl) ?_
  refine va_iald hx hb hK hP 1 0 rfl rfl (by assumption) dX4_differenceOf_5 ?_
  -- leaf 0
  exact W.iret (v := df p1.toNatClampNeg) hx hb hr (fun t ht hW => ⟨⟨df p1.toNatClampNeg, (), rfl, rfl, trivial⟩, hS.F ht⟩) hS.2.2 dX4_differenceOf_6

set_option maxHeartbeats 4000000 in
set_option maxRecDepth 100000 in
theorem c_X4_fine (l : Launch) (D : va_G) (cI cZ cJ cA : ClassId) (sz : Nat) (a : Nat → Nat) (fn : Nat → Int32) (p1 : Int32) (h1 : vp_in p1 6) : Met l yX4_fine wsX4_fine ({ frames := 0, cells := 0, slots := 0, locals := 0 } : Room) (va_Pc [.ref (a 18), .int p1] (pcW D (tyL cI cZ cJ cA) [((a 18), .inr (4, [.ref (a 19), .ref (a 20), .ref (a 21), .ref (a 22)])), ((a 20), .inl (cI, 6, .inl fn))] sz)) (va_Qv (fun (u : (Nat → Int32)) => u = upd fn p1.toNatClampNeg ((fn p1.toNatClampNeg) + 1)) (fun u t => bcW D (tyL cI cZ cJ cA) (va_A [((a 18), .inr (4, [.ref (a 19), .ref (a 20), .ref (a 21), .ref (a 22)])), ((a 20), .inl (cI, 6, .inl fn))] sz) [((a 18), .inr (4, [.ref (a 19), .ref (a 20), .ref (a 21), .ref (a 22)])), ((a 20), .inl (cI, 6, .inl u))] t) (va_A [((a 18), .inr (4, [.ref (a 19), .ref (a 20), .ref (a 21), .ref (a 22)])), ((a 20), .inl (cI, 6, .inl fn))] sz)) 0 0 (va_A [((a 18), .inr (4, [.ref (a 19), .ref (a 20), .ref (a 21), .ref (a 22)])), ((a 20), .inl (cI, 6, .inl fn))] sz) := by
  refine Met.ofW (cc := cX4_fine) (maxL := 2) (ret := none) (by decide) rfl ?_
  intro p e s m args below meth c s₁ B hml hv
  obtain ⟨rfl, hsz, hP, hK, hD0⟩ := hv
  have hx := B.exec
  have hb := B.bytes
  have hr := B.returns
  have hts := atoms_spec (ws := wsX4_fine) B.pre
  have hown : s.vm.findClass RX4 = some m.cls := findClass_of_methodNamed B.named
  have hlocks := B.notSynchronized
  subst hsz
  have hD := hD0.self (sz := s.heap.size)
  generalize hAe : va_A [((a 18), .inr (4, [.ref (a 19), .ref (a 20), .ref (a 21), .ref (a 22)])), ((a 20), .inl (cI, 6, .inl fn))] s.heap.size = A at hD ⊢
  have hA : ∀ q : Nat, s.heap.size ≤ q → A q := fun q h => by rw [← hAe]; exact Or.inr h
  have hAR : ∀ q : Nat, s.heap.size ≤ q → (fun q : Nat => s.heap.size ≤ q) q := fun _ h => h
  have hS : va_S A s.heap s.heap [] := va_S.rf
  have hP : va_P D vwCl [((a 18), .inr (4, [.ref (a 19), .ref (a 20), .ref (a 21), .ref (a 22)])), ((a 20), .inl (cI, 6, .inl fn))] s.heap := hP
  have hl := lv_entry ([.ref (a 18), .int p1]) (n := 2) (Nat.le_of_ble_eq_true rfl)
  rw [lg_entry_eq]
  generalize (lg_sl ([.ref (a 18), .int p1]) ++ List.replicate (2 - (lg_sl ([.ref (a 18), .int p1])).length) Slot.unset).toArray = ls at hl ⊢
  have hl : lv_has ls 2 [(0, .ref (a 18)), (1, .int p1)] := hl
  have hf_15 := hts (.fieldLink RX4 15 "PaintballAtlas$Table" "fines" "[I") (by decide +kernel)
  have hi_X4 : ∀ w ∈ wsX40, w ∈ wsX4_fine := by decide +kernel
  refine lv_aload_n hx hb dX4_fine_0 rfl (lv_at hl 0 rfl) ?_
  refine va_get (D := D) (ci := 4) (v := .ref (a 20)) (C := RX4) (T := TX4) (N := 4) hx hb hts hi_X4 hown hK hP 0 rfl rfl 1 (by decide) hf_15 (fun _ h9 => h9) rfl dX4_fine_1 ?_
  refine lv_iload_n hx hb dX4_fine_4 rfl (lv_at hl 1 rfl) ?_
  refine lv_dup2_11 hx hb dX4_fine_5 rfl rfl ?_
  refine va_iald hx hb hK hP 1 0 rfl rfl (by assumption) dX4_fine_6 ?_
  refine lv_iconst (v := 1) hx hb dX4_fine_7 (by decide) ?_
  refine lv_iadd hx hb dX4_fine_8 ?_
  refine va_iast hx hb hK hP hD hS 1 0 rfl rfl (by assumption) dX4_fine_9 (fun H locs hP hD hS => ?_)
  have hP : va_P D vwCl [((a 18), .inr (4, [.ref (a 19), .ref (a 20), .ref (a 21), .ref (a 22)])), ((a 20), .inl (cI, 6, .inl (upd fn p1.toNatClampNeg ((fn p1.toNatClampNeg) + 1))))] H := hP
  have hD : va_D A [((a 18), .inr (4, [.ref (a 19), .ref (a 20), .ref (a 21), .ref (a 22)])), ((a 20), .inl (cI, 6, .inl (upd fn p1.toNatClampNeg ((fn p1.toNatClampNeg) + 1))))] := hD
  have hP9 := hP.sub (ws' := [((a 18), .inr (4, [.ref (a 19), .ref (a 20), .ref (a 21), .ref (a 22)])), ((a 20), .inl (cI, 6, .inl (upd fn p1.toNatClampNeg ((fn p1.toNatClampNeg) + 1))))]) [0, 1] rfl
  have hD9 := hD.sub (ws' := [((a 18), .inr (4, [.ref (a 19), .ref (a 20), .ref (a 21), .ref (a 22)])), ((a 20), .inl (cI, 6, .inl (upd fn p1.toNatClampNeg ((fn p1.toNatClampNeg) + 1))))]) [0, 1] (by decide) rfl
  -- leaf 0
  exact W.vret hx hb hr (fun t ht hW => ⟨⟨(upd fn p1.toNatClampNeg ((fn p1.toNatClampNeg) + 1)), rfl, rfl, by rw [ht]; exact hP9, va_K.moved hW.alike hK, hD9⟩, hS.F ht⟩) hS.2.2 dX4_fine_10

noncomputable def g_wn_X4_enterWin (pt : Nat → Int32) (wn : Nat → Nat → Int32) (p1 : Int32) (p2 : Int32) : Nat → Nat → Int32 := (va_up wn p1.toNatClampNeg (upd (wn p1.toNatClampNeg) p2.toNatClampNeg ((wn p1.toNatClampNeg p2.toNatClampNeg) + 1)))
set_option maxHeartbeats 4000000 in
set_option maxRecDepth 100000 in
theorem c_X4_enterWin (l : Launch) (D : va_G) (cI cZ cJ cA : ClassId) (sz : Nat) (a : Nat → Nat) (pt : Nat → Int32) (wn : Nat → Nat → Int32) (p1 : Int32) (p2 : Int32) (h1 : vp_in p1 6) (h2 : vp_in p2 6) : Met l yX4_enterWin wsX4_enterWin ({ frames := 0, cells := 0, slots := 0, locals := 0 } : Room) (va_Pc [.ref (a 18), .int p1, .int p2] (pcW D (tyL cI cZ cJ cA) [((a 18), .inr (4, [.ref (a 19), .ref (a 20), .ref (a 21), .ref (a 22)])), ((a 19), .inl (cI, 6, .inl pt)), ((a 22), .inl (cA, 6, .inr (.inr (.inr (.inr (fun k9 => if k9 < 6 then some (a (23 + k9)) else none)))))), ((a (23 + 0)), .inl (cI, 6, .inl (wn 0))), ((a (23 + 1)), .inl (cI, 6, .inl (wn 1))), ((a (23 + 2)), .inl (cI, 6, .inl (wn 2))), ((a (23 + 3)), .inl (cI, 6, .inl (wn 3))), ((a (23 + 4)), .inl (cI, 6, .inl (wn 4))), ((a (23 + 5)), .inl (cI, 6, .inl (wn 5)))] sz)) (va_Qv (fun (u : (Nat → Int32) × (Nat → Nat → Int32)) => u.1 = upd pt p1.toNatClampNeg ((pt p1.toNatClampNeg) + 3) ∧ u.2 = g_wn_X4_enterWin pt wn p1 p2) (fun u t => bcW D (tyL cI cZ cJ cA) (va_A [((a 18), .inr (4, [.ref (a 19), .ref (a 20), .ref (a 21), .ref (a 22)])), ((a 19), .inl (cI, 6, .inl pt)), ((a 22), .inl (cA, 6, .inr (.inr (.inr (.inr (fun k9 => if k9 < 6 then some (a (23 + k9)) else none)))))), ((a (23 + 0)), .inl (cI, 6, .inl (wn 0))), ((a (23 + 1)), .inl (cI, 6, .inl (wn 1))), ((a (23 + 2)), .inl (cI, 6, .inl (wn 2))), ((a (23 + 3)), .inl (cI, 6, .inl (wn 3))), ((a (23 + 4)), .inl (cI, 6, .inl (wn 4))), ((a (23 + 5)), .inl (cI, 6, .inl (wn 5)))] sz) [((a 18), .inr (4, [.ref (a 19), .ref (a 20), .ref (a 21), .ref (a 22)])), ((a 19), .inl (cI, 6, .inl u.1)), ((a 22), .inl (cA, 6, .inr (.inr (.inr (.inr (fun k9 => if k9 < 6 then some (a (23 + k9)) else none)))))), ((a (23 + 0)), .inl (cI, 6, .inl (u.2 0))), ((a (23 + 1)), .inl (cI, 6, .inl (u.2 1))), ((a (23 + 2)), .inl (cI, 6, .inl (u.2 2))), ((a (23 + 3)), .inl (cI, 6, .inl (u.2 3))), ((a (23 + 4)), .inl (cI, 6, .inl (u.2 4))), ((a (23 + 5)), .inl (cI, 6, .inl (u.2 5)))] t) (va_A [((a 18), .inr (4, [.ref (a 19), .ref (a 20), .ref (a 21), .ref (a 22)])), ((a 19), .inl (cI, 6, .inl pt)), ((a 22), .inl (cA, 6, .inr (.inr (.inr (.inr (fun k9 => if k9 < 6 then some (a (23 + k9)) else none)))))), ((a (23 + 0)), .inl (cI, 6, .inl (wn 0))), ((a (23 + 1)), .inl (cI, 6, .inl (wn 1))), ((a (23 + 2)), .inl (cI, 6, .inl (wn 2))), ((a (23 + 3)), .inl (cI, 6, .inl (wn 3))), ((a (23 + 4)), .inl (cI, 6, .inl (wn 4))), ((a (23 + 5)), .inl (cI, 6, .inl (wn 5)))] sz)) 0 0 (va_A [((a 18), .inr (4, [.ref (a 19), .ref (a 20), .ref (a 21), .ref (a 22)])), ((a 19), .inl (cI, 6, .inl pt)), ((a 22), .inl (cA, 6, .inr (.inr (.inr (.inr (fun k9 => if k9 < 6 then some (a (23 + k9)) else none)))))), ((a (23 + 0)), .inl (cI, 6, .inl (wn 0))), ((a (23 + 1)), .inl (cI, 6, .inl (wn 1))), ((a (23 + 2)), .inl (cI, 6, .inl (wn 2))), ((a (23 + 3)), .inl (cI, 6, .inl (wn 3))), ((a (23 + 4)), .inl (cI, 6, .inl (wn 4))), ((a (23 + 5)), .inl (cI, 6, .inl (wn 5)))] sz) := by
  refine Met.ofW (cc := cX4_enterWin) (maxL := 3) (ret := none) (by decide) rfl ?_
  intro p e s m args below meth c s₁ B hml hv
  obtain ⟨rfl, hsz, hP, hK, hD0⟩ := hv
  have hx := B.exec
  have hb := B.bytes
  have hr := B.returns
  have hts := atoms_spec (ws := wsX4_enterWin) B.pre
  have hown : s.vm.findClass RX4 = some m.cls := findClass_of_methodNamed B.named
  have hlocks := B.notSynchronized
  subst hsz
  have hD := hD0.self (sz := s.heap.size)
  generalize hAe : va_A [((a 18), .inr (4, [.ref (a 19), .ref (a 20), .ref (a 21), .ref (a 22)])), ((a 19), .inl (cI, 6, .inl pt)), ((a 22), .inl (cA, 6, .inr (.inr (.inr (.inr (fun k9 => if k9 < 6 then some (a (23 + k9)) else none)))))), ((a (23 + 0)), .inl (cI, 6, .inl (wn 0))), ((a (23 + 1)), .inl (cI, 6, .inl (wn 1))), ((a (23 + 2)), .inl (cI, 6, .inl (wn 2))), ((a (23 + 3)), .inl (cI, 6, .inl (wn 3))), ((a (23 + 4)), .inl (cI, 6, .inl (wn 4))), ((a (23 + 5)), .inl (cI, 6, .inl (wn 5)))] s.heap.size = A at hD ⊢
  have hA : ∀ q : Nat, s.heap.size ≤ q → A q := fun q h => by rw [← hAe]; exact Or.inr h
  have hAR : ∀ q : Nat, s.heap.size ≤ q → (fun q : Nat => s.heap.size ≤ q) q := fun _ h => h
  have hS : va_S A s.heap s.heap [] := va_S.rf
  have hP : va_P D vwCl [((a 18), .inr (4, [.ref (a 19), .ref (a 20), .ref (a 21), .ref (a 22)])), ((a 19), .inl (cI, 6, .inl pt)), ((a 22), .inl (cA, 6, .inr (.inr (.inr (.inr (fun k9 => if k9 < 6 then some (a (23 + k9)) else none)))))), ((a (23 + 0)), .inl (cI, 6, .inl (wn 0))), ((a (23 + 1)), .inl (cI, 6, .inl (wn 1))), ((a (23 + 2)), .inl (cI, 6, .inl (wn 2))), ((a (23 + 3)), .inl (cI, 6, .inl (wn 3))), ((a (23 + 4)), .inl (cI, 6, .inl (wn 4))), ((a (23 + 5)), .inl (cI, 6, .inl (wn 5)))] s.heap := hP
  have hl := lv_entry ([.ref (a 18), .int p1, .int p2]) (n := 3) (Nat.le_of_ble_eq_true rfl)
  rw [lg_entry_eq]
  generalize (lg_sl ([.ref (a 18), .int p1, .int p2]) ++ List.replicate (3 - (lg_sl ([.ref (a 18), .int p1, .int p2])).length) Slot.unset).toArray = ls at hl ⊢
  have hl : lv_has ls 3 [(0, .ref (a 18)), (1, .int p1), (2, .int p2)] := hl
  have hf_9 := hts (.fieldLink RX4 9 "PaintballAtlas$Table" "points" "[I") (by decide +kernel)
  have hi_X4 : ∀ w ∈ wsX40, w ∈ wsX4_enterWin := by decide +kernel
  have hf_23 := hts (.fieldLink RX4 23 "PaintballAtlas$Table" "wins" "[[I") (by decide +kernel)
  have hj1 : p1.toNatClampNeg < 6 := in_cl h1
  have hj2 : p2.toNatClampNeg < 6 := in_cl h2
  refine lv_aload_n hx hb dX4_enterWin_0 rfl (lv_at hl 0 rfl) ?_
  refine va_get (D := D) (ci := 4) (v := .ref (a 19)) (C := RX4) (T := TX4) (N := 4) hx hb hts hi_X4 hown hK hP 0 rfl rfl 0 (by decide) hf_9 (fun _ h9 => h9) rfl dX4_enterWin_1 ?_
  refine lv_iload_n hx hb dX4_enterWin_4 rfl (lv_at hl 1 rfl) ?_
  refine lv_dup2_11 hx hb dX4_enterWin_5 rfl rfl ?_
  refine va_iald hx hb hK hP 1 0 rfl rfl (by assumption) dX4_enterWin_6 ?_
  refine lv_iconst (v := 3) hx hb dX4_enterWin_7 (by decide) ?_
  refine lv_iadd hx hb dX4_enterWin_8 ?_
  refine va_iast hx hb hK hP hD hS 1 0 rfl rfl (by assumption) dX4_enterWin_9 (fun H locs hP hD hS => ?_)
  have hP : va_P D vwCl [((a 18), .inr (4, [.ref (a 19), .ref (a 20), .ref (a 21), .ref (a 22)])), ((a 19), .inl (cI, 6, .inl (upd pt p1.toNatClampNeg ((pt p1.toNatClampNeg) + 3)))), ((a 22), .inl (cA, 6, .inr (.inr (.inr (.inr (fun k9 => if k9 < 6 then some (a (23 + k9)) else none)))))), ((a (23 + 0)), .inl (cI, 6, .inl (wn 0))), ((a (23 + 1)), .inl (cI, 6, .inl (wn 1))), ((a (23 + 2)), .inl (cI, 6, .inl (wn 2))), ((a (23 + 3)), .inl (cI, 6, .inl (wn 3))), ((a (23 + 4)), .inl (cI, 6, .inl (wn 4))), ((a (23 + 5)), .inl (cI, 6, .inl (wn 5)))] H := hP
  have hD : va_D A [((a 18), .inr (4, [.ref (a 19), .ref (a 20), .ref (a 21), .ref (a 22)])), ((a 19), .inl (cI, 6, .inl (upd pt p1.toNatClampNeg ((pt p1.toNatClampNeg) + 3)))), ((a 22), .inl (cA, 6, .inr (.inr (.inr (.inr (fun k9 => if k9 < 6 then some (a (23 + k9)) else none)))))), ((a (23 + 0)), .inl (cI, 6, .inl (wn 0))), ((a (23 + 1)), .inl (cI, 6, .inl (wn 1))), ((a (23 + 2)), .inl (cI, 6, .inl (wn 2))), ((a (23 + 3)), .inl (cI, 6, .inl (wn 3))), ((a (23 + 4)), .inl (cI, 6, .inl (wn 4))), ((a (23 + 5)), .inl (cI, 6, .inl (wn 5)))] := hD
  refine lv_aload_n hx hb dX4_enterWin_10 rfl (lv_at hl 0 rfl) ?_
  refine va_get (D := D) (ci := 4) (v := .ref (a 22)) (C := RX4) (T := TX4) (N := 4) hx hb hts hi_X4 hown hK hP 0 rfl rfl 3 (by decide) hf_23 (fun _ h9 => h9) rfl dX4_enterWin_11 ?_
  refine lv_iload_n hx hb dX4_enterWin_14 rfl (lv_at hl 1 rfl) ?_
  refine ald2 hx hb hK hP 2 3 rfl rfl (by assumption) dX4_enterWin_15 ?_
  refine tp_eqv (y := .ref (a (23 + p1.toNatClampNeg))) (wo_at (by assumption)) ?_
  refine lv_iload_n hx hb dX4_enterWin_16 rfl (lv_at hl 2 rfl) ?_
  refine lv_dup2_11 hx hb dX4_enterWin_17 rfl rfl ?_
  refine va_iald hx hb hK hP (3 + p1.toNatClampNeg) 0 (cA := cI) (n := 6) (f := wn p1.toNatClampNeg) (by generalize p1.toNatClampNeg = j at *; rcases (show j = 0 ∨ j = 1 ∨ j = 2 ∨ j = 3 ∨ j = 4 ∨ j = 5 by omega) with h | h | h | h | h | h <;> subst h <;> rfl) rfl (by assumption) dX4_enterWin_18 ?_
  refine lv_iconst (v := 1) hx hb dX4_enterWin_19 (by decide) ?_
  refine lv_iadd hx hb dX4_enterWin_20 ?_
  refine va_iast hx hb hK hP hD hS (3 + p1.toNatClampNeg) 0 (cA := cI) (n := 6) (f := wn p1.toNatClampNeg) (by generalize p1.toNatClampNeg = j at *; rcases (show j = 0 ∨ j = 1 ∨ j = 2 ∨ j = 3 ∨ j = 4 ∨ j = 5 by omega) with h | h | h | h | h | h <;> subst h <;> rfl) rfl (by assumption) dX4_enterWin_21 (fun H locs hP hD hS => ?_)
  have hP : va_P D vwCl [((a 18), .inr (4, [.ref (a 19), .ref (a 20), .ref (a 21), .ref (a 22)])), ((a 19), .inl (cI, 6, .inl (upd pt p1.toNatClampNeg ((pt p1.toNatClampNeg) + 3)))), ((a 22), .inl (cA, 6, .inr (.inr (.inr (.inr (fun k9 => if k9 < 6 then some (a (23 + k9)) else none)))))), ((a (23 + 0)), .inl (cI, 6, .inl ((va_up wn p1.toNatClampNeg (upd (wn p1.toNatClampNeg) p2.toNatClampNeg ((wn p1.toNatClampNeg p2.toNatClampNeg) + 1))) 0))), ((a (23 + 1)), .inl (cI, 6, .inl ((va_up wn p1.toNatClampNeg (upd (wn p1.toNatClampNeg) p2.toNatClampNeg ((wn p1.toNatClampNeg p2.toNatClampNeg) + 1))) 1))), ((a (23 + 2)), .inl (cI, 6, .inl ((va_up wn p1.toNatClampNeg (upd (wn p1.toNatClampNeg) p2.toNatClampNeg ((wn p1.toNatClampNeg p2.toNatClampNeg) + 1))) 2))), ((a (23 + 3)), .inl (cI, 6, .inl ((va_up wn p1.toNatClampNeg (upd (wn p1.toNatClampNeg) p2.toNatClampNeg ((wn p1.toNatClampNeg p2.toNatClampNeg) + 1))) 3))), ((a (23 + 4)), .inl (cI, 6, .inl ((va_up wn p1.toNatClampNeg (upd (wn p1.toNatClampNeg) p2.toNatClampNeg ((wn p1.toNatClampNeg p2.toNatClampNeg) + 1))) 4))), ((a (23 + 5)), .inl (cI, 6, .inl ((va_up wn p1.toNatClampNeg (upd (wn p1.toNatClampNeg) p2.toNatClampNeg ((wn p1.toNatClampNeg p2.toNatClampNeg) + 1))) 5)))] H := by
    generalize p1.toNatClampNeg = j at *
    rcases (show j = 0 ∨ j = 1 ∨ j = 2 ∨ j = 3 ∨ j = 4 ∨ j = 5 by omega) with h | h | h | h | h | h <;> subst h <;> exact hP
  have hD : va_D A [((a 18), .inr (4, [.ref (a 19), .ref (a 20), .ref (a 21), .ref (a 22)])), ((a 19), .inl (cI, 6, .inl (upd pt p1.toNatClampNeg ((pt p1.toNatClampNeg) + 3)))), ((a 22), .inl (cA, 6, .inr (.inr (.inr (.inr (fun k9 => if k9 < 6 then some (a (23 + k9)) else none)))))), ((a (23 + 0)), .inl (cI, 6, .inl ((va_up wn p1.toNatClampNeg (upd (wn p1.toNatClampNeg) p2.toNatClampNeg ((wn p1.toNatClampNeg p2.toNatClampNeg) + 1))) 0))), ((a (23 + 1)), .inl (cI, 6, .inl ((va_up wn p1.toNatClampNeg (upd (wn p1.toNatClampNeg) p2.toNatClampNeg ((wn p1.toNatClampNeg p2.toNatClampNeg) + 1))) 1))), ((a (23 + 2)), .inl (cI, 6, .inl ((va_up wn p1.toNatClampNeg (upd (wn p1.toNatClampNeg) p2.toNatClampNeg ((wn p1.toNatClampNeg p2.toNatClampNeg) + 1))) 2))), ((a (23 + 3)), .inl (cI, 6, .inl ((va_up wn p1.toNatClampNeg (upd (wn p1.toNatClampNeg) p2.toNatClampNeg ((wn p1.toNatClampNeg p2.toNatClampNeg) + 1))) 3))), ((a (23 + 4)), .inl (cI, 6, .inl ((va_up wn p1.toNatClampNeg (upd (wn p1.toNatClampNeg) p2.toNatClampNeg ((wn p1.toNatClampNeg p2.toNatClampNeg) + 1))) 4))), ((a (23 + 5)), .inl (cI, 6, .inl ((va_up wn p1.toNatClampNeg (upd (wn p1.toNatClampNeg) p2.toNatClampNeg ((wn p1.toNatClampNeg p2.toNatClampNeg) + 1))) 5)))] := by
    generalize p1.toNatClampNeg = j at *
    rcases (show j = 0 ∨ j = 1 ∨ j = 2 ∨ j = 3 ∨ j = 4 ∨ j = 5 by omega) with h | h | h | h | h | h <;> subst h <;> exact hD
  have hP9 := hP.sub (ws' := [((a 18), .inr (4, [.ref (a 19), .ref (a 20), .ref (a 21), .ref (a 22)])), ((a 19), .inl (cI, 6, .inl (upd pt p1.toNatClampNeg ((pt p1.toNatClampNeg) + 3)))), ((a 22), .inl (cA, 6, .inr (.inr (.inr (.inr (fun k9 => if k9 < 6 then some (a (23 + k9)) else none)))))), ((a (23 + 0)), .inl (cI, 6, .inl ((va_up wn p1.toNatClampNeg (upd (wn p1.toNatClampNeg) p2.toNatClampNeg ((wn p1.toNatClampNeg p2.toNatClampNeg) + 1))) 0))), ((a (23 + 1)), .inl (cI, 6, .inl ((va_up wn p1.toNatClampNeg (upd (wn p1.toNatClampNeg) p2.toNatClampNeg ((wn p1.toNatClampNeg p2.toNatClampNeg) + 1))) 1))), ((a (23 + 2)), .inl (cI, 6, .inl ((va_up wn p1.toNatClampNeg (upd (wn p1.toNatClampNeg) p2.toNatClampNeg ((wn p1.toNatClampNeg p2.toNatClampNeg) + 1))) 2))), ((a (23 + 3)), .inl (cI, 6, .inl ((va_up wn p1.toNatClampNeg (upd (wn p1.toNatClampNeg) p2.toNatClampNeg ((wn p1.toNatClampNeg p2.toNatClampNeg) + 1))) 3))), ((a (23 + 4)), .inl (cI, 6, .inl ((va_up wn p1.toNatClampNeg (upd (wn p1.toNatClampNeg) p2.toNatClampNeg ((wn p1.toNatClampNeg p2.toNatClampNeg) + 1))) 4))), ((a (23 + 5)), .inl (cI, 6, .inl ((va_up wn p1.toNatClampNeg (upd (wn p1.toNatClampNeg) p2.toNatClampNeg ((wn p1.toNatClampNeg p2.toNatClampNeg) + 1))) 5)))]) [0, 1, 2, 3, 4, 5, 6, 7, 8] rfl
  have hD9 := hD.sub (ws' := [((a 18), .inr (4, [.ref (a 19), .ref (a 20), .ref (a 21), .ref (a 22)])), ((a 19), .inl (cI, 6, .inl (upd pt p1.toNatClampNeg ((pt p1.toNatClampNeg) + 3)))), ((a 22), .inl (cA, 6, .inr (.inr (.inr (.inr (fun k9 => if k9 < 6 then some (a (23 + k9)) else none)))))), ((a (23 + 0)), .inl (cI, 6, .inl ((va_up wn p1.toNatClampNeg (upd (wn p1.toNatClampNeg) p2.toNatClampNeg ((wn p1.toNatClampNeg p2.toNatClampNeg) + 1))) 0))), ((a (23 + 1)), .inl (cI, 6, .inl ((va_up wn p1.toNatClampNeg (upd (wn p1.toNatClampNeg) p2.toNatClampNeg ((wn p1.toNatClampNeg p2.toNatClampNeg) + 1))) 1))), ((a (23 + 2)), .inl (cI, 6, .inl ((va_up wn p1.toNatClampNeg (upd (wn p1.toNatClampNeg) p2.toNatClampNeg ((wn p1.toNatClampNeg p2.toNatClampNeg) + 1))) 2))), ((a (23 + 3)), .inl (cI, 6, .inl ((va_up wn p1.toNatClampNeg (upd (wn p1.toNatClampNeg) p2.toNatClampNeg ((wn p1.toNatClampNeg p2.toNatClampNeg) + 1))) 3))), ((a (23 + 4)), .inl (cI, 6, .inl ((va_up wn p1.toNatClampNeg (upd (wn p1.toNatClampNeg) p2.toNatClampNeg ((wn p1.toNatClampNeg p2.toNatClampNeg) + 1))) 4))), ((a (23 + 5)), .inl (cI, 6, .inl ((va_up wn p1.toNatClampNeg (upd (wn p1.toNatClampNeg) p2.toNatClampNeg ((wn p1.toNatClampNeg p2.toNatClampNeg) + 1))) 5)))]) [0, 1, 2, 3, 4, 5, 6, 7, 8] (by decide) rfl
  -- leaf 0
  exact W.vret hx hb hr (fun t ht hW => ⟨⟨(upd pt p1.toNatClampNeg ((pt p1.toNatClampNeg) + 3), (va_up wn p1.toNatClampNeg (upd (wn p1.toNatClampNeg) p2.toNatClampNeg ((wn p1.toNatClampNeg p2.toNatClampNeg) + 1)))), rfl, ⟨rfl, rfl⟩, by rw [ht]; exact hP9, va_K.moved hW.alike hK, hD9⟩, hS.F ht⟩) hS.2.2 dX4_enterWin_22

noncomputable def f_X4_isAhead (pt : Nat → Int32) (df : Nat → Int32) (wn : Nat → Nat → Int32) (p1 : Int32) (p2 : Int32) : Int32 := if (pt p1.toNatClampNeg) = (pt p2.toNatClampNeg) then (if (wn p1.toNatClampNeg p2.toNatClampNeg) = (wn p2.toNatClampNeg p1.toNatClampNeg) then (if (df p1.toNatClampNeg) = (df p2.toNatClampNeg) then (if p2 ≤ p1 then 0 else 1) else (if (df p1.toNatClampNeg) ≤ (df p2.toNatClampNeg) then 0 else 1)) else (if (wn p1.toNatClampNeg p2.toNatClampNeg) ≤ (wn p2.toNatClampNeg p1.toNatClampNeg) then 0 else 1)) else (if (pt p1.toNatClampNeg) ≤ (pt p2.toNatClampNeg) then 0 else 1)
set_option maxHeartbeats 4000000 in
set_option maxRecDepth 100000 in
theorem c_X4_isAhead (l : Launch) (D : va_G) (cI cZ cJ cA : ClassId) (sz : Nat) (a : Nat → Nat) (pt : Nat → Int32) (df : Nat → Int32) (wn : Nat → Nat → Int32) (p1 : Int32) (p2 : Int32) (h1 : vp_in p1 6) (h2 : vp_in p2 6) : Met l yX4_isAhead wsX4_isAhead ({ frames := 0, cells := 0, slots := 0, locals := 0 } : Room) (va_Pc [.ref (a 18), .int p1, .int p2] (pcR D (tyL cI cZ cJ cA) [((a 18), .inr (4, [.ref (a 19), .ref (a 20), .ref (a 21), .ref (a 22)])), ((a 19), .inl (cI, 6, .inl pt)), ((a 21), .inl (cI, 6, .inl df)), ((a 22), .inl (cA, 6, .inr (.inr (.inr (.inr (fun k9 => if k9 < 6 then some (a (23 + k9)) else none)))))), ((a (23 + 0)), .inl (cI, 6, .inl (wn 0))), ((a (23 + 1)), .inl (cI, 6, .inl (wn 1))), ((a (23 + 2)), .inl (cI, 6, .inl (wn 2))), ((a (23 + 3)), .inl (cI, 6, .inl (wn 3))), ((a (23 + 4)), .inl (cI, 6, .inl (wn 4))), ((a (23 + 5)), .inl (cI, 6, .inl (wn 5)))] sz)) (va_Qi (fun (r : Int32) (u : Unit) => r = f_X4_isAhead pt df wn p1 p2) (fun _ _ => True) (fun q : Nat => sz ≤ q)) 0 0 (fun q : Nat => sz ≤ q) := by
  refine Met.ofW (cc := cX4_isAhead) (maxL := 3) (ret := (some .boolean)) (by decide) rfl ?_
  intro p e s m args below meth c s₁ B hml hv
  obtain ⟨rfl, hsz, hP, hK⟩ := hv
  have hx := B.exec
  have hb := B.bytes
  have hr := B.returns
  have hts := atoms_spec (ws := wsX4_isAhead) B.pre
  have hown : s.vm.findClass RX4 = some m.cls := findClass_of_methodNamed B.named
  have hlocks := B.notSynchronized
  subst hsz
  have hA : ∀ q : Nat, s.heap.size ≤ q → (fun q : Nat => s.heap.size ≤ q) q := fun _ h => h
  have hS : va_S (fun q : Nat => s.heap.size ≤ q) s.heap s.heap [] := va_S.rf
  have hP : va_P D vwCl [((a 18), .inr (4, [.ref (a 19), .ref (a 20), .ref (a 21), .ref (a 22)])), ((a 19), .inl (cI, 6, .inl pt)), ((a 21), .inl (cI, 6, .inl df)), ((a 22), .inl (cA, 6, .inr (.inr (.inr (.inr (fun k9 => if k9 < 6 then some (a (23 + k9)) else none)))))), ((a (23 + 0)), .inl (cI, 6, .inl (wn 0))), ((a (23 + 1)), .inl (cI, 6, .inl (wn 1))), ((a (23 + 2)), .inl (cI, 6, .inl (wn 2))), ((a (23 + 3)), .inl (cI, 6, .inl (wn 3))), ((a (23 + 4)), .inl (cI, 6, .inl (wn 4))), ((a (23 + 5)), .inl (cI, 6, .inl (wn 5)))] s.heap := hP
  have hl := lv_entry ([.ref (a 18), .int p1, .int p2]) (n := 3) (Nat.le_of_ble_eq_true rfl)
  rw [lg_entry_eq]
  generalize (lg_sl ([.ref (a 18), .int p1, .int p2]) ++ List.replicate (3 - (lg_sl ([.ref (a 18), .int p1, .int p2])).length) Slot.unset).toArray = ls at hl ⊢
  have hl : lv_has ls 3 [(0, .ref (a 18)), (1, .int p1), (2, .int p2)] := hl
  have hf_9 := hts (.fieldLink RX4 9 "PaintballAtlas$Table" "points" "[I") (by decide +kernel)
  have hi_X4 : ∀ w ∈ wsX40, w ∈ wsX4_isAhead := by decide +kernel
  have hf_23 := hts (.fieldLink RX4 23 "PaintballAtlas$Table" "wins" "[[I") (by decide +kernel)
  have hf_18 := hts (.fieldLink RX4 18 "PaintballAtlas$Table" "differences" "[I") (by decide +kernel)
  have hj1 : p1.toNatClampNeg < 6 := in_cl h1
  have hj2 : p2.toNatClampNeg < 6 := in_cl h2
  refine lv_aload_n hx hb dX4_isAhead_0 rfl (lv_at hl 0 rfl) ?_
  refine va_get (D := D) (ci := 4) (v := .ref (a 19)) (C := RX4) (T := TX4) (N := 4) hx hb hts hi_X4 hown hK hP 0 rfl rfl 0 (by decide) hf_9 (fun _ h9 => h9) rfl dX4_isAhead_1 ?_
  refine lv_iload_n hx hb dX4_isAhead_4 rfl (lv_at hl 1 rfl) ?_
  refine va_iald hx hb hK hP 1 0 rfl rfl (by assumption) dX4_isAhead_5 ?_
  refine lv_aload_n hx hb dX4_isAhead_6 rfl (lv_at hl 0 rfl) ?_
  refine va_get (D := D) (ci := 4) (v := .ref (a 19)) (C := RX4) (T := TX4) (N := 4) hx hb hts hi_X4 hown hK hP 0 rfl rfl 0 (by decide) hf_9 (fun _ h9 => h9) rfl dX4_isAhead_7 ?_
  refine lv_iload_n hx hb dX4_isAhead_10 rfl (lv_at hl 2 rfl) ?_
  refine va_iald hx hb hK hP 1 0 rfl rfl (by assumption) dX4_isAhead_11 ?_
  refine lv_icmp_eq (tgt := 36) hx hb dX4_isAhead_12 (by decide) (fun c_1 => ?_) (fun c_1 => ?_)
  · refine lv_aload_n hx hb dX4_isAhead_36 rfl (lv_at hl 0 rfl) ?_
    refine va_get (D := D) (ci := 4) (v := .ref (a 22)) (C := RX4) (T := TX4) (N := 4) hx hb hts hi_X4 hown hK hP 0 rfl rfl 3 (by decide) hf_23 (fun _ h9 => h9) rfl dX4_isAhead_37 ?_
    refine lv_iload_n hx hb dX4_isAhead_40 rfl (lv_at hl 1 rfl) ?_
    refine ald2 hx hb hK hP 3 3 rfl rfl (by assumption) dX4_isAhead_41 ?_
    refine tp_eqv (y := .ref (a (23 + p1.toNatClampNeg))) (wo_at (by assumption)) ?_
    refine lv_iload_n hx hb dX4_isAhead_42 rfl (lv_at hl 2 rfl) ?_
    refine va_iald hx hb hK hP (4 + p1.toNatClampNeg) 0 (cA := cI) (n := 6) (f := wn p1.toNatClampNeg) (by generalize p1.toNatClampNeg = j at *; rcases (show j = 0 ∨ j = 1 ∨ j = 2 ∨ j = 3 ∨ j = 4 ∨ j = 5 by omega) with h | h | h | h | h | h <;> subst h <;> rfl) rfl (by assumption) dX4_isAhead_43 ?_
    refine lv_aload_n hx hb dX4_isAhead_44 rfl (lv_at hl 0 rfl) ?_
    refine va_get (D := D) (ci := 4) (v := .ref (a 22)) (C := RX4) (T := TX4) (N := 4) hx hb hts hi_X4 hown hK hP 0 rfl rfl 3 (by decide) hf_23 (fun _ h9 => h9) rfl dX4_isAhead_45 ?_
    refine lv_iload_n hx hb dX4_isAhead_48 rfl (lv_at hl 2 rfl) ?_
    refine ald2 hx hb hK hP 3 3 rfl rfl (by assumption) dX4_isAhead_49 ?_
    refine tp_eqv (y := .ref (a (23 + p2.toNatClampNeg))) (wo_at (by assumption)) ?_
    refine lv_iload_n hx hb dX4_isAhead_50 rfl (lv_at hl 1 rfl) ?_
    refine va_iald hx hb hK hP (4 + p2.toNatClampNeg) 0 (cA := cI) (n := 6) (f := wn p2.toNatClampNeg) (by generalize p2.toNatClampNeg = j at *; rcases (show j = 0 ∨ j = 1 ∨ j = 2 ∨ j = 3 ∨ j = 4 ∨ j = 5 by omega) with h | h | h | h | h | h <;> subst h <;> rfl) rfl (by assumption) dX4_isAhead_51 ?_
    refine lv_icmp_eq (tgt := 80) hx hb dX4_isAhead_52 (by decide) (fun c_2 => ?_) (fun c_2 => ?_)
    · refine lv_aload_n hx hb dX4_isAhead_80 rfl (lv_at hl 0 rfl) ?_
      refine va_get (D := D) (ci := 4) (v := .ref (a 21)) (C := RX4) (T := TX4) (N := 4) hx hb hts hi_X4 hown hK hP 0 rfl rfl 2 (by decide) hf_18 (fun _ h9 => h9) rfl dX4_isAhead_81 ?_
      refine lv_iload_n hx hb dX4_isAhead_84 rfl (lv_at hl 1 rfl) ?_
      refine va_iald hx hb hK hP 2 0 rfl rfl (by assumption) dX4_isAhead_85 ?_
      refine lv_aload_n hx hb dX4_isAhead_86 rfl (lv_at hl 0 rfl) ?_
      refine va_get (D := D) (ci := 4) (v := .ref (a 21)) (C := RX4) (T := TX4) (N := 4) hx hb hts hi_X4 hown hK hP 0 rfl rfl 2 (by decide) hf_18 (fun _ h9 => h9) rfl dX4_isAhead_87 ?_
      refine lv_iload_n hx hb dX4_isAhead_90 rfl (lv_at hl 2 rfl) ?_
      refine va_iald hx hb hK hP 2 0 rfl rfl (by assumption) dX4_isAhead_91 ?_
      refine lv_icmp_eq (tgt := 116) hx hb dX4_isAhead_92 (by decide) (fun c_3 => ?_) (fun c_3 => ?_)
      · refine lv_iload_n hx hb dX4_isAhead_116 rfl (lv_at hl 1 rfl) ?_
        refine lv_iload_n hx hb dX4_isAhead_117 rfl (lv_at hl 2 rfl) ?_
        refine lv_icmp_ge (tgt := 125) hx hb dX4_isAhead_118 (by decide) (fun c_4 => ?_) (fun c_4 => ?_)
        · refine lv_iconst (v := 0) hx hb dX4_isAhead_125 (by decide) ?_
          -- leaf 0
          exact W.zret (v := 0) (ty := .boolean) hx hb hr rfl (fun t ht hW => ⟨⟨0, (), rfl, (by rw [f_X4_isAhead, if_pos c_1, if_pos c_2, if_pos c_3, if_pos c_4]), trivial⟩, hS.F ht⟩) hS.2.2 dX4_isAhead_126
        · refine lv_iconst (v := 1) hx hb dX4_isAhead_121 (by decide) ?_
          refine lv_goto (tgt := 126) hx hb dX4_isAhead_122 (by decide) ?_
          -- leaf 1
          exact W.zret (v := 1) (ty := .boolean) hx hb hr rfl (fun t ht hW => ⟨⟨1, (), rfl, (by rw [f_X4_isAhead, if_pos c_1, if_pos c_2, if_pos c_3, if_neg c_4]), trivial⟩, hS.F ht⟩) hS.2.2 dX4_isAhead_126
      · refine lv_aload_n hx hb dX4_isAhead_95 rfl (lv_at hl 0 rfl) ?_
        refine va_get (D := D) (ci := 4) (v := .ref (a 21)) (C := RX4) (T := TX4) (N := 4) hx hb hts hi_X4 hown hK hP 0 rfl rfl 2 (by decide) hf_18 (fun _ h9 => h9) rfl dX4_isAhead_96 ?_
        refine lv_iload_n hx hb dX4_isAhead_99 rfl (lv_at hl 1 rfl) ?_
        refine va_iald hx hb hK hP 2 0 rfl rfl (by assumption) dX4_isAhead_100 ?_
        refine lv_aload_n hx hb dX4_isAhead_101 rfl (lv_at hl 0 rfl) ?_
        refine va_get (D := D) (ci := 4) (v := .ref (a 21)) (C := RX4) (T := TX4) (N := 4) hx hb hts hi_X4 hown hK hP 0 rfl rfl 2 (by decide) hf_18 (fun _ h9 => h9) rfl dX4_isAhead_102 ?_
        refine lv_iload_n hx hb dX4_isAhead_105 rfl (lv_at hl 2 rfl) ?_
        refine va_iald hx hb hK hP 2 0 rfl rfl (by assumption) dX4_isAhead_106 ?_
        refine lv_icmp_le (tgt := 114) hx hb dX4_isAhead_107 (by decide) (fun c_5 => ?_) (fun c_5 => ?_)
        · refine lv_iconst (v := 0) hx hb dX4_isAhead_114 (by decide) ?_
          -- leaf 2
          exact W.zret (v := 0) (ty := .boolean) hx hb hr rfl (fun t ht hW => ⟨⟨0, (), rfl, (by rw [f_X4_isAhead, if_pos c_1, if_pos c_2, if_neg c_3, if_pos c_5]), trivial⟩, hS.F ht⟩) hS.2.2 dX4_isAhead_115
        · refine lv_iconst (v := 1) hx hb dX4_isAhead_110 (by decide) ?_
          refine lv_goto (tgt := 115) hx hb dX4_isAhead_111 (by decide) ?_
          -- leaf 3
          exact W.zret (v := 1) (ty := .boolean) hx hb hr rfl (fun t ht hW => ⟨⟨1, (), rfl, (by rw [f_X4_isAhead, if_pos c_1, if_pos c_2, if_neg c_3, if_neg c_5]), trivial⟩, hS.F ht⟩) hS.2.2 dX4_isAhead_115
    · refine lv_aload_n hx hb dX4_isAhead_55 rfl (lv_at hl 0 rfl) ?_
      refine va_get (D := D) (ci := 4) (v := .ref (a 22)) (C := RX4) (T := TX4) (N := 4) hx hb hts hi_X4 hown hK hP 0 rfl rfl 3 (by decide) hf_23 (fun _ h9 => h9) rfl dX4_isAhead_56 ?_
      refine lv_iload_n hx hb dX4_isAhead_59 rfl (lv_at hl 1 rfl) ?_
      refine ald2 hx hb hK hP 3 3 rfl rfl (by assumption) dX4_isAhead_60 ?_
      refine tp_eqv (y := .ref (a (23 + p1.toNatClampNeg))) (wo_at (by assumption)) ?_
      refine lv_iload_n hx hb dX4_isAhead_61 rfl (lv_at hl 2 rfl) ?_
      refine va_iald hx hb hK hP (4 + p1.toNatClampNeg) 0 (cA := cI) (n := 6) (f := wn p1.toNatClampNeg) (by generalize p1.toNatClampNeg = j at *; rcases (show j = 0 ∨ j = 1 ∨ j = 2 ∨ j = 3 ∨ j = 4 ∨ j = 5 by omega) with h | h | h | h | h | h <;> subst h <;> rfl) rfl (by assumption) dX4_isAhead_62 ?_
      refine lv_aload_n hx hb dX4_isAhead_63 rfl (lv_at hl 0 rfl) ?_
      refine va_get (D := D) (ci := 4) (v := .ref (a 22)) (C := RX4) (T := TX4) (N := 4) hx hb hts hi_X4 hown hK hP 0 rfl rfl 3 (by decide) hf_23 (fun _ h9 => h9) rfl dX4_isAhead_64 ?_
      refine lv_iload_n hx hb dX4_isAhead_67 rfl (lv_at hl 2 rfl) ?_
      refine ald2 hx hb hK hP 3 3 rfl rfl (by assumption) dX4_isAhead_68 ?_
      refine tp_eqv (y := .ref (a (23 + p2.toNatClampNeg))) (wo_at (by assumption)) ?_
      refine lv_iload_n hx hb dX4_isAhead_69 rfl (lv_at hl 1 rfl) ?_
      refine va_iald hx hb hK hP (4 + p2.toNatClampNeg) 0 (cA := cI) (n := 6) (f := wn p2.toNatClampNeg) (by generalize p2.toNatClampNeg = j at *; rcases (show j = 0 ∨ j = 1 ∨ j = 2 ∨ j = 3 ∨ j = 4 ∨ j = 5 by omega) with h | h | h | h | h | h <;> subst h <;> rfl) rfl (by assumption) dX4_isAhead_70 ?_
      refine lv_icmp_le (tgt := 78) hx hb dX4_isAhead_71 (by decide) (fun c_6 => ?_) (fun c_6 => ?_)
      · refine lv_iconst (v := 0) hx hb dX4_isAhead_78 (by decide) ?_
        -- leaf 4
        exact W.zret (v := 0) (ty := .boolean) hx hb hr rfl (fun t ht hW => ⟨⟨0, (), rfl, (by rw [f_X4_isAhead, if_pos c_1, if_neg c_2, if_pos c_6]), trivial⟩, hS.F ht⟩) hS.2.2 dX4_isAhead_79
      · refine lv_iconst (v := 1) hx hb dX4_isAhead_74 (by decide) ?_
        refine lv_goto (tgt := 79) hx hb dX4_isAhead_75 (by decide) ?_
        -- leaf 5
        exact W.zret (v := 1) (ty := .boolean) hx hb hr rfl (fun t ht hW => ⟨⟨1, (), rfl, (by rw [f_X4_isAhead, if_pos c_1, if_neg c_2, if_neg c_6]), trivial⟩, hS.F ht⟩) hS.2.2 dX4_isAhead_79
  · refine lv_aload_n hx hb dX4_isAhead_15 rfl (lv_at hl 0 rfl) ?_
    refine va_get (D := D) (ci := 4) (v := .ref (a 19)) (C := RX4) (T := TX4) (N := 4) hx hb hts hi_X4 hown hK hP 0 rfl rfl 0 (by decide) hf_9 (fun _ h9 => h9) rfl dX4_isAhead_16 ?_
    refine lv_iload_n hx hb dX4_isAhead_19 rfl (lv_at hl 1 rfl) ?_
    refine va_iald hx hb hK hP 1 0 rfl rfl (by assumption) dX4_isAhead_20 ?_
    refine lv_aload_n hx hb dX4_isAhead_21 rfl (lv_at hl 0 rfl) ?_
    refine va_get (D := D) (ci := 4) (v := .ref (a 19)) (C := RX4) (T := TX4) (N := 4) hx hb hts hi_X4 hown hK hP 0 rfl rfl 0 (by decide) hf_9 (fun _ h9 => h9) rfl dX4_isAhead_22 ?_
    refine lv_iload_n hx hb dX4_isAhead_25 rfl (lv_at hl 2 rfl) ?_
    refine va_iald hx hb hK hP 1 0 rfl rfl (by assumption) dX4_isAhead_26 ?_
    refine lv_icmp_le (tgt := 34) hx hb dX4_isAhead_27 (by decide) (fun c_7 => ?_) (fun c_7 => ?_)
    · refine lv_iconst (v := 0) hx hb dX4_isAhead_34 (by decide) ?_
      -- leaf 6
      exact W.zret (v := 0) (ty := .boolean) hx hb hr rfl (fun t ht hW => ⟨⟨0, (), rfl, (by rw [f_X4_isAhead, if_neg c_1, if_pos c_7]), trivial⟩, hS.F ht⟩) hS.2.2 dX4_isAhead_35
    · refine lv_iconst (v := 1) hx hb dX4_isAhead_30 (by decide) ?_
      refine lv_goto (tgt := 35) hx hb dX4_isAhead_31 (by decide) ?_
      -- leaf 7
      exact W.zret (v := 1) (ty := .boolean) hx hb hr rfl (fun t ht hW => ⟨⟨1, (), rfl, (by rw [f_X4_isAhead, if_neg c_1, if_neg c_7]), trivial⟩, hS.F ht⟩) hS.2.2 dX4_isAhead_35

noncomputable def tpN (pt fn : Nat → Int32) : Nat → (Nat → Int32) × (Nat → Int32)
  | 0 => (pt, fn)
  | n + 1 => if (tpN pt fn n).2 n < 2 then tpN pt fn n else (upd (tpN pt fn n).1 n ((tpN pt fn n).1 n - 1), upd (tpN pt fn n).2 n ((tpN pt fn n).2 n - 2))
termination_by n => n
set_option maxHeartbeats 4000000 in
set_option maxRecDepth 100000 in
theorem c_X4_takePenalties (l : Launch) (D : va_G) (cI cZ cJ cA : ClassId) (sz : Nat) (a : Nat → Nat) (pt : Nat → Int32) (fn : Nat → Int32) : Met l yX4_takePenalties wsX4_takePenalties ({ frames := 0, cells := 0, slots := 0, locals := 0 } : Room) (va_Pc [.ref (a 18)] (pcW D (tyL cI cZ cJ cA) [((a 18), .inr (4, [.ref (a 19), .ref (a 20), .ref (a 21), .ref (a 22)])), ((a 19), .inl (cI, 6, .inl pt)), ((a 20), .inl (cI, 6, .inl fn))] sz)) (va_Qv (fun (u : (Nat → Int32) × (Nat → Int32)) => u.1 = (tpN pt fn 6).1 ∧ u.2 = (tpN pt fn 6).2) (fun u t => bcW D (tyL cI cZ cJ cA) (va_A [((a 18), .inr (4, [.ref (a 19), .ref (a 20), .ref (a 21), .ref (a 22)])), ((a 19), .inl (cI, 6, .inl pt)), ((a 20), .inl (cI, 6, .inl fn))] sz) [((a 18), .inr (4, [.ref (a 19), .ref (a 20), .ref (a 21), .ref (a 22)])), ((a 19), .inl (cI, 6, .inl u.1)), ((a 20), .inl (cI, 6, .inl u.2))] t) (va_A [((a 18), .inr (4, [.ref (a 19), .ref (a 20), .ref (a 21), .ref (a 22)])), ((a 19), .inl (cI, 6, .inl pt)), ((a 20), .inl (cI, 6, .inl fn))] sz)) 0 0 (va_A [((a 18), .inr (4, [.ref (a 19), .ref (a 20), .ref (a 21), .ref (a 22)])), ((a 19), .inl (cI, 6, .inl pt)), ((a 20), .inl (cI, 6, .inl fn))] sz) := by
  refine Met.ofW (cc := cX4_takePenalties) (maxL := 2) (ret := none) (by decide) rfl ?_
  intro p e s m args below meth c s₁ B hml hv
  obtain ⟨rfl, hsz, hP, hK, hD0⟩ := hv
  have hx := B.exec
  have hb := B.bytes
  have hr := B.returns
  have hts := atoms_spec (ws := wsX4_takePenalties) B.pre
  have hown : s.vm.findClass RX4 = some m.cls := findClass_of_methodNamed B.named
  have hlocks := B.notSynchronized
  subst hsz
  have hD := hD0.self (sz := s.heap.size)
  generalize hAe : va_A [((a 18), .inr (4, [.ref (a 19), .ref (a 20), .ref (a 21), .ref (a 22)])), ((a 19), .inl (cI, 6, .inl pt)), ((a 20), .inl (cI, 6, .inl fn))] s.heap.size = A at hD ⊢
  have hA : ∀ q : Nat, s.heap.size ≤ q → A q := fun q h => by rw [← hAe]; exact Or.inr h
  have hAR : ∀ q : Nat, s.heap.size ≤ q → (fun q : Nat => s.heap.size ≤ q) q := fun _ h => h
  have hS : va_S A s.heap s.heap [] := va_S.rf
  have hP : va_P D vwCl [((a 18), .inr (4, [.ref (a 19), .ref (a 20), .ref (a 21), .ref (a 22)])), ((a 19), .inl (cI, 6, .inl pt)), ((a 20), .inl (cI, 6, .inl fn))] s.heap := hP
  have hl := lv_entry ([.ref (a 18)]) (n := 2) (Nat.le_of_ble_eq_true rfl)
  rw [lg_entry_eq]
  generalize (lg_sl ([.ref (a 18)]) ++ List.replicate (2 - (lg_sl ([.ref (a 18)])).length) Slot.unset).toArray = ls at hl ⊢
  have hl : lv_has ls 2 [(0, .ref (a 18))] := hl
  have hf_15 := hts (.fieldLink RX4 15 "PaintballAtlas$Table" "fines" "[I") (by decide +kernel)
  have hi_X4 : ∀ w ∈ wsX40, w ∈ wsX4_takePenalties := by decide +kernel
  have hf_9 := hts (.fieldLink RX4 9 "PaintballAtlas$Table" "points" "[I") (by decide +kernel)
  refine lv_iconst (v := 0) hx hb dX4_takePenalties_0 (by decide) ?_
  refine lv_istore_n (lv' := [(1, .int 0), (0, .ref (a 18))]) hx hb dX4_takePenalties_1 rfl hl (by decide) rfl (fun ls hl => ?_)
  refine lpW (σ := (Nat) × (Nat → Int32) × (Nat → Int32)) (I := fun x H locs ls => va_P D vwCl [((a 18), .inr (4, [.ref (a 19), .ref (a 20), .ref (a 21), .ref (a 22)])), ((a 19), .inl (cI, 6, .inl x.2.1)), ((a 20), .inl (cI, 6, .inl x.2.2))] H ∧ va_D A [((a 18), .inr (4, [.ref (a 19), .ref (a 20), .ref (a 21), .ref (a 22)])), ((a 19), .inl (cI, 6, .inl x.2.1)), ((a 20), .inl (cI, 6, .inl x.2.2))] ∧ va_S A s.heap H locs ∧ lv_has ls 2 [(0, .ref (a 18)), (1, .int (nI x.1))] ∧ (x.1 ≤ 6) ∧ ((x.2.1, x.2.2) = tpN pt fn x.1)) (μ := fun x => 6 - x.1) ?_ (0, pt, fn) ⟨hP, hD, hS, lv_sub hl [1, 0] rfl, (Nat.zero_le _), (by simp only [tpN])⟩
  intro x H locs ls hI ih
  obtain ⟨i, e1, e2⟩ := x
  obtain ⟨hP, hD, hS, hl, hq_hi1, hq_he⟩ := hI
  have ih_2 := ih
  have hl : lv_has ls 2 [(0, .ref (a 18)), (1, .int (nI i))] := hl
  have hP : va_P D vwCl [((a 18), .inr (4, [.ref (a 19), .ref (a 20), .ref (a 21), .ref (a 22)])), ((a 19), .inl (cI, 6, .inl e1)), ((a 20), .inl (cI, 6, .inl e2))] H := hP
  have hD : va_D A [((a 18), .inr (4, [.ref (a 19), .ref (a 20), .ref (a 21), .ref (a 22)])), ((a 19), .inl (cI, 6, .inl e1)), ((a 20), .inl (cI, 6, .inl e2))] := hD
  have hi1 : i ≤ 6 := hq_hi1
  have he : (e1, e2) = tpN pt fn i := hq_he
  clear hq_hi1 hq_he
  refine lv_iload_n hx hb dX4_takePenalties_2 rfl (lv_at hl 1 rfl) ?_
  refine lv_bipush (v := 6) hx hb dX4_takePenalties_3 (by decide) ?_
  refine lv_icmp_ge (tgt := 44) hx hb dX4_takePenalties_5 (by decide) (fun c_1 => ?_) (fun c_1 => ?_)
  · have he_5 : i = 6 := bd_eq (N := 6) (by decide) hi1 c_1
    have hP9 := hP.sub (ws' := [((a 18), .inr (4, [.ref (a 19), .ref (a 20), .ref (a 21), .ref (a 22)])), ((a 19), .inl (cI, 6, .inl e1)), ((a 20), .inl (cI, 6, .inl e2))]) [0, 1, 2] rfl
    have hD9 := hD.sub (ws' := [((a 18), .inr (4, [.ref (a 19), .ref (a 20), .ref (a 21), .ref (a 22)])), ((a 19), .inl (cI, 6, .inl e1)), ((a 20), .inl (cI, 6, .inl e2))]) [0, 1, 2] (by decide) rfl
    -- leaf 0
    refine W.widen (k := 0) (n := 0) (Nat.le_refl _) (Nat.le_refl _) ?_
    exact W.vret hx hb hr (fun t ht hW => ⟨⟨(e1, e2), rfl, ⟨(by rw [← he_5, ← he]), (by rw [← he_5, ← he])⟩, by rw [ht]; exact hP9, va_K.moved hW.alike hK, hD9⟩, hS.F ht⟩) hS.2.2 dX4_takePenalties_44
  · have hlt_5 : i < 6 := bd_lt (N := 6) (by decide) hi1 c_1
    refine lv_aload_n hx hb dX4_takePenalties_8 rfl (lv_at hl 0 rfl) ?_
    refine va_get (D := D) (ci := 4) (v := .ref (a 20)) (C := RX4) (T := TX4) (N := 4) hx hb hts hi_X4 hown hK hP 0 rfl rfl 1 (by decide) hf_15 (fun _ h9 => h9) rfl dX4_takePenalties_9 ?_
    refine lv_iload_n hx hb dX4_takePenalties_12 rfl (lv_at hl 1 rfl) ?_
    refine va_iald hx hb hK hP 2 0 rfl rfl (vp_in_nI (n := i) (by omega) (by decide)) dX4_takePenalties_13 ?_
    refine tp_eq (y := e2 i) (by rw [nI_clamp (n := i) (by omega)]) ?_
    refine lv_iconst (v := 2) hx hb dX4_takePenalties_14 (by decide) ?_
    refine lv_icmp_lt (tgt := 38) hx hb dX4_takePenalties_15 (by decide) (fun c_2 => ?_) (fun c_2 => ?_)
    · refine lv_iinc (v := nI (i + 1)) (lv' := [(1, .int (nI (i + 1))), (0, .ref (a 18))]) hx hb dX4_takePenalties_38 hl (k := 1) rfl (nI_1 i) (by decide) rfl (fun ls hl => ?_)
      refine lv_goto (tgt := 2) hx hb dX4_takePenalties_41 (by decide) ?_
      refine W.widen (k := 0) (n := 0) (Nat.le_refl _) (Nat.le_refl _) ?_
      exact ih_2 ((i + 1), e1, e2) _ _ _ (by first | omega | (dsimp only; omega)) ⟨hP, hD, hS, lv_sub hl [1, 0] rfl, (by omega), (by rw [tpN, ← he]; dsimp only; rw [if_pos c_2])⟩
    · refine lv_aload_n hx hb dX4_takePenalties_18 rfl (lv_at hl 0 rfl) ?_
      refine va_get (D := D) (ci := 4) (v := .ref (a 19)) (C := RX4) (T := TX4) (N := 4) hx hb hts hi_X4 hown hK hP 0 rfl rfl 0 (by decide) hf_9 (fun _ h9 => h9) rfl dX4_takePenalties_19 ?_
      refine lv_iload_n hx hb dX4_takePenalties_22 rfl (lv_at hl 1 rfl) ?_
      refine lv_dup2_11 hx hb dX4_takePenalties_23 rfl rfl ?_
      refine va_iald hx hb hK hP 1 0 rfl rfl (vp_in_nI (n := i) (by omega) (by decide)) dX4_takePenalties_24 ?_
      refine tp_eq (y := e1 i) (by rw [nI_clamp (n := i) (by omega)]) ?_
      refine lv_iconst (v := 1) hx hb dX4_takePenalties_25 (by decide) ?_
      refine lv_isub hx hb dX4_takePenalties_26 ?_
      refine va_iast hx hb hK hP hD hS 1 0 rfl rfl (vp_in_nI (n := i) (by omega) (by decide)) dX4_takePenalties_27 (fun H locs hP hD hS => ?_)
      rw [nI_clamp (n := i) (by omega)] at hP hD
      have hP : va_P D vwCl [((a 18), .inr (4, [.ref (a 19), .ref (a 20), .ref (a 21), .ref (a 22)])), ((a 19), .inl (cI, 6, .inl (upd e1 i ((e1 i) - 1)))), ((a 20), .inl (cI, 6, .inl e2))] H := hP
      have hD : va_D A [((a 18), .inr (4, [.ref (a 19), .ref (a 20), .ref (a 21), .ref (a 22)])), ((a 19), .inl (cI, 6, .inl (upd e1 i ((e1 i) - 1)))), ((a 20), .inl (cI, 6, .inl e2))] := hD
      refine lv_aload_n hx hb dX4_takePenalties_28 rfl (lv_at hl 0 rfl) ?_
      refine va_get (D := D) (ci := 4) (v := .ref (a 20)) (C := RX4) (T := TX4) (N := 4) hx hb hts hi_X4 hown hK hP 0 rfl rfl 1 (by decide) hf_15 (fun _ h9 => h9) rfl dX4_takePenalties_29 ?_
      refine lv_iload_n hx hb dX4_takePenalties_32 rfl (lv_at hl 1 rfl) ?_
      refine lv_dup2_11 hx hb dX4_takePenalties_33 rfl rfl ?_
      refine va_iald hx hb hK hP 2 0 rfl rfl (vp_in_nI (n := i) (by omega) (by decide)) dX4_takePenalties_34 ?_
      refine tp_eq (y := e2 i) (by rw [nI_clamp (n := i) (by omega)]) ?_
      refine lv_iconst (v := 2) hx hb dX4_takePenalties_35 (by decide) ?_
      refine lv_isub hx hb dX4_takePenalties_36 ?_
      refine va_iast hx hb hK hP hD hS 2 0 rfl rfl (vp_in_nI (n := i) (by omega) (by decide)) dX4_takePenalties_37 (fun H locs hP hD hS => ?_)
      rw [nI_clamp (n := i) (by omega)] at hP hD
      have hP : va_P D vwCl [((a 18), .inr (4, [.ref (a 19), .ref (a 20), .ref (a 21), .ref (a 22)])), ((a 19), .inl (cI, 6, .inl (upd e1 i ((e1 i) - 1)))), ((a 20), .inl (cI, 6, .inl (upd e2 i ((e2 i) - 2))))] H := hP
      have hD : va_D A [((a 18), .inr (4, [.ref (a 19), .ref (a 20), .ref (a 21), .ref (a 22)])), ((a 19), .inl (cI, 6, .inl (upd e1 i ((e1 i) - 1)))), ((a 20), .inl (cI, 6, .inl (upd e2 i ((e2 i) - 2))))] := hD
      refine lv_iinc (v := nI (i + 1)) (lv' := [(1, .int (nI (i + 1))), (0, .ref (a 18))]) hx hb dX4_takePenalties_38 hl (k := 1) rfl (nI_1 i) (by decide) rfl (fun ls hl => ?_)
      refine lv_goto (tgt := 2) hx hb dX4_takePenalties_41 (by decide) ?_
      refine W.widen (k := 0) (n := 0) (Nat.le_refl _) (Nat.le_refl _) ?_
      exact ih_2 ((i + 1), upd e1 i ((e1 i) - 1), upd e2 i ((e2 i) - 2)) _ _ _ (by first | omega | (dsimp only; omega)) ⟨hP, hD, hS, lv_sub hl [1, 0] rfl, (by omega), (by rw [tpN, ← he]; dsimp only; rw [if_neg c_2])⟩

noncomputable def plN (pt df : Nat → Int32) (wn : Nat → Nat → Int32) (p1 : Int32) : Nat → Int32
  | 0 => 1
  | n + 1 => if nI n = p1 then plN pt df wn p1 n else if f_X4_isAhead pt df wn (nI n) p1 = 0 then plN pt df wn p1 n else plN pt df wn p1 n + 1
termination_by n => n
set_option maxHeartbeats 4000000 in
set_option maxRecDepth 100000 in
theorem c_X4_placeOf (l : Launch) (D : va_G) (cI cZ cJ cA : ClassId) (sz : Nat) (a : Nat → Nat) (pt : Nat → Int32) (df : Nat → Int32) (wn : Nat → Nat → Int32) (p1 : Int32) (h1 : vp_in p1 6) : Met l yX4_placeOf wsX4_placeOf ({ frames := 1, cells := 0, slots := 0, locals := 22 } : Room) (va_Pc [.ref (a 18), .int p1] (pcR D (tyL cI cZ cJ cA) [((a 18), .inr (4, [.ref (a 19), .ref (a 20), .ref (a 21), .ref (a 22)])), ((a 19), .inl (cI, 6, .inl pt)), ((a 21), .inl (cI, 6, .inl df)), ((a 22), .inl (cA, 6, .inr (.inr (.inr (.inr (fun k9 => if k9 < 6 then some (a (23 + k9)) else none)))))), ((a (23 + 0)), .inl (cI, 6, .inl (wn 0))), ((a (23 + 1)), .inl (cI, 6, .inl (wn 1))), ((a (23 + 2)), .inl (cI, 6, .inl (wn 2))), ((a (23 + 3)), .inl (cI, 6, .inl (wn 3))), ((a (23 + 4)), .inl (cI, 6, .inl (wn 4))), ((a (23 + 5)), .inl (cI, 6, .inl (wn 5)))] sz)) (va_Qi (fun (r : Int32) (u : Unit) => r = plN pt df wn p1 6) (fun _ _ => True) (fun q : Nat => sz ≤ q)) 0 0 (fun q : Nat => sz ≤ q) := by
  refine Met.ofW (cc := cX4_placeOf) (maxL := 4) (ret := (some .int)) (by decide) rfl ?_
  intro p e s m args below meth c s₁ B hml hv
  obtain ⟨rfl, hsz, hP, hK⟩ := hv
  have hx := B.exec
  have hb := B.bytes
  have hr := B.returns
  have hts := atoms_spec (ws := wsX4_placeOf) B.pre
  have hown : s.vm.findClass RX4 = some m.cls := findClass_of_methodNamed B.named
  have hlocks := B.notSynchronized
  subst hsz
  have hA : ∀ q : Nat, s.heap.size ≤ q → (fun q : Nat => s.heap.size ≤ q) q := fun _ h => h
  have hS : va_S (fun q : Nat => s.heap.size ≤ q) s.heap s.heap [] := va_S.rf
  have hP : va_P D vwCl [((a 18), .inr (4, [.ref (a 19), .ref (a 20), .ref (a 21), .ref (a 22)])), ((a 19), .inl (cI, 6, .inl pt)), ((a 21), .inl (cI, 6, .inl df)), ((a 22), .inl (cA, 6, .inr (.inr (.inr (.inr (fun k9 => if k9 < 6 then some (a (23 + k9)) else none)))))), ((a (23 + 0)), .inl (cI, 6, .inl (wn 0))), ((a (23 + 1)), .inl (cI, 6, .inl (wn 1))), ((a (23 + 2)), .inl (cI, 6, .inl (wn 2))), ((a (23 + 3)), .inl (cI, 6, .inl (wn 3))), ((a (23 + 4)), .inl (cI, 6, .inl (wn 4))), ((a (23 + 5)), .inl (cI, 6, .inl (wn 5)))] s.heap := hP
  have hl := lv_entry ([.ref (a 18), .int p1]) (n := 4) (Nat.le_of_ble_eq_true rfl)
  rw [lg_entry_eq]
  generalize (lg_sl ([.ref (a 18), .int p1]) ++ List.replicate (4 - (lg_sl ([.ref (a 18), .int p1])).length) Slot.unset).toArray = ls at hl ⊢
  have hl : lv_has ls 4 [(0, .ref (a 18)), (1, .int p1)] := hl
  refine lv_iconst (v := 1) hx hb dX4_placeOf_0 (by decide) ?_
  refine lv_istore_n (lv' := [(2, .int 1), (0, .ref (a 18)), (1, .int p1)]) hx hb dX4_placeOf_1 rfl hl (by decide) rfl (fun ls hl => ?_)
  refine lv_iconst (v := 0) hx hb dX4_placeOf_2 (by decide) ?_
  refine lv_istore_n (lv' := [(3, .int 0), (2, .int 1), (0, .ref (a 18)), (1, .int p1)]) hx hb dX4_placeOf_3 rfl hl (by decide) rfl (fun ls hl => ?_)
  refine lpW (σ := (Nat) × (Int32)) (I := fun x H locs ls => va_P D vwCl [((a 18), .inr (4, [.ref (a 19), .ref (a 20), .ref (a 21), .ref (a 22)])), ((a 19), .inl (cI, 6, .inl pt)), ((a 21), .inl (cI, 6, .inl df)), ((a 22), .inl (cA, 6, .inr (.inr (.inr (.inr (fun k9 => if k9 < 6 then some (a (23 + k9)) else none)))))), ((a (23 + 0)), .inl (cI, 6, .inl (wn 0))), ((a (23 + 1)), .inl (cI, 6, .inl (wn 1))), ((a (23 + 2)), .inl (cI, 6, .inl (wn 2))), ((a (23 + 3)), .inl (cI, 6, .inl (wn 3))), ((a (23 + 4)), .inl (cI, 6, .inl (wn 4))), ((a (23 + 5)), .inl (cI, 6, .inl (wn 5)))] H ∧ va_S (fun q : Nat => s.heap.size ≤ q) s.heap H locs ∧ lv_has ls 4 [(0, .ref (a 18)), (1, .int p1), (2, .int x.2), (3, .int (nI x.1))] ∧ (x.1 ≤ 6) ∧ (x.2 = plN pt df wn p1 x.1)) (μ := fun x => 6 - x.1) ?_ (0, 1) ⟨hP, hS, lv_sub hl [2, 3, 1, 0] rfl, (Nat.zero_le _), (by simp only [plN])⟩
  intro x H locs ls hI ih
  obtain ⟨i, c2⟩ := x
  obtain ⟨hP, hS, hl, hq_hi1, hq_hc⟩ := hI
  have ih_4 := ih
  have hl : lv_has ls 4 [(0, .ref (a 18)), (1, .int p1), (2, .int c2), (3, .int (nI i))] := hl
  have hP : va_P D vwCl [((a 18), .inr (4, [.ref (a 19), .ref (a 20), .ref (a 21), .ref (a 22)])), ((a 19), .inl (cI, 6, .inl pt)), ((a 21), .inl (cI, 6, .inl df)), ((a 22), .inl (cA, 6, .inr (.inr (.inr (.inr (fun k9 => if k9 < 6 then some (a (23 + k9)) else none)))))), ((a (23 + 0)), .inl (cI, 6, .inl (wn 0))), ((a (23 + 1)), .inl (cI, 6, .inl (wn 1))), ((a (23 + 2)), .inl (cI, 6, .inl (wn 2))), ((a (23 + 3)), .inl (cI, 6, .inl (wn 3))), ((a (23 + 4)), .inl (cI, 6, .inl (wn 4))), ((a (23 + 5)), .inl (cI, 6, .inl (wn 5)))] H := hP
  have hi1 : i ≤ 6 := hq_hi1
  have hc : c2 = plN pt df wn p1 i := hq_hc
  clear hq_hi1 hq_hc
  refine lv_iload_n hx hb dX4_placeOf_4 rfl (lv_at hl 3 rfl) ?_
  refine lv_bipush (v := 6) hx hb dX4_placeOf_5 (by decide) ?_
  refine lv_icmp_ge (tgt := 33) hx hb dX4_placeOf_7 (by decide) (fun c_1 => ?_) (fun c_1 => ?_)
  · have he_7 : i = 6 := bd_eq (N := 6) (by decide) hi1 c_1
    refine lv_iload_n hx hb dX4_placeOf_33 rfl (lv_at hl 2 rfl) ?_
    -- leaf 0
    refine W.widen (k := 0) (n := 0) (Nat.le_refl _) (Nat.le_refl _) ?_
    exact W.iret (v := c2) hx hb hr (fun t ht hW => ⟨⟨c2, (), rfl, (by rw [hc, he_7]), trivial⟩, hS.F ht⟩) hS.2.2 dX4_placeOf_34
  · have hlt_7 : i < 6 := bd_lt (N := 6) (by decide) hi1 c_1
    refine lv_iload_n hx hb dX4_placeOf_10 rfl (lv_at hl 3 rfl) ?_
    refine lv_iload_n hx hb dX4_placeOf_11 rfl (lv_at hl 1 rfl) ?_
    refine lv_icmp_eq (tgt := 27) hx hb dX4_placeOf_12 (by decide) (fun c_2 => ?_) (fun c_2 => ?_)
    · refine lv_iinc (v := nI (i + 1)) (lv' := [(3, .int (nI (i + 1))), (0, .ref (a 18)), (1, .int p1), (2, .int c2)]) hx hb dX4_placeOf_27 hl (k := 3) rfl (nI_1 i) (by decide) rfl (fun ls hl => ?_)
      refine lv_goto (tgt := 4) hx hb dX4_placeOf_30 (by decide) ?_
      refine W.widen (k := 0) (n := 0) (Nat.le_refl _) (Nat.le_refl _) ?_
      exact ih_4 ((i + 1), c2) _ _ _ (by first | omega | (dsimp only; omega)) ⟨hP, hS, lv_sub hl [1, 2, 3, 0] rfl, (by omega), (by rw [plN, if_pos c_2, ← hc])⟩
    · refine lv_aload_n hx hb dX4_placeOf_15 rfl (lv_at hl 0 rfl) ?_
      refine lv_iload_n hx hb dX4_placeOf_16 rfl (lv_at hl 3 rfl) ?_
      refine lv_iload_n hx hb dX4_placeOf_17 rfl (lv_at hl 1 rfl) ?_
      have hPc := hP
      refine va_calli (va_runV (As := [.int (nI i), .int p1]) (rest := []) ⟨hx, hb, hml, hown, hts⟩ (c_X4_isAhead l D cI cZ cJ cA H.size a pt df wn (nI i) p1 (vp_in_nI (n := i) (by omega) (by decide)) (by assumption)) (cwV 2 hts gX4_placeOf_X4_isAhead rfl rfl rfl (by decide +kernel) ⟨Nat.le_of_ble_eq_true rfl, Nat.le_of_ble_eq_true rfl⟩) ⟨pcR_bl, va_recv hK hPc (ci := 4) (q0 := 0) rfl rfl, fun U hU hW => ⟨rfl, by rw [hU], by rw [hU]; exact hPc, va_K.moved hW.alike hK⟩⟩ rfl rfl hl.1 rfl (lv_room (Nat.le_of_ble_eq_true rfl)) dX4_placeOf_18 ⟨Nat.le_of_ble_eq_true rfl, Nat.le_of_ble_eq_true rfl⟩) hS (fun _ h1 h2 => absurd h1 (Nat.not_lt.mpr h2)) (rd_free hS hA) (fun r_3 u t H locs ht hvm hw hB hz1 hk1 hS => ?_)
      try dsimp only at hw
      have hr_3 := hw
      have hP := rd_P hP hk1
      obtain rfl := hr_3.symm
      refine W.widen (k := 0) (n := 0) (Nat.le_refl _) (Nat.le_refl _) ?_
      refine lv_if_eq (tgt := 27) hx hb dX4_placeOf_21 (by decide) (fun c_4 => ?_) (fun c_4 => ?_)
      · refine lv_iinc (v := nI (i + 1)) (lv' := [(3, .int (nI (i + 1))), (0, .ref (a 18)), (1, .int p1), (2, .int c2)]) hx hb dX4_placeOf_27 hl (k := 3) rfl (nI_1 i) (by decide) rfl (fun ls hl => ?_)
        refine lv_goto (tgt := 4) hx hb dX4_placeOf_30 (by decide) ?_
        refine W.widen (k := 0) (n := 0) (Nat.le_refl _) (Nat.le_refl _) ?_
        exact ih_4 ((i + 1), c2) _ _ _ (by first | omega | (dsimp only; omega)) ⟨hP, hS, lv_sub hl [1, 2, 3, 0] rfl, (by omega), (by rw [plN, if_neg c_2, if_pos c_4, ← hc])⟩
      · refine lv_iinc (v := c2 + 1) (lv' := [(2, .int (c2 + 1)), (0, .ref (a 18)), (1, .int p1), (3, .int (nI i))]) hx hb dX4_placeOf_24 hl (k := 2) rfl rfl (by decide) rfl (fun ls hl => ?_)
        refine lv_iinc (v := nI (i + 1)) (lv' := [(3, .int (nI (i + 1))), (2, .int (c2 + 1)), (0, .ref (a 18)), (1, .int p1)]) hx hb dX4_placeOf_27 hl (k := 3) rfl (nI_1 i) (by decide) rfl (fun ls hl => ?_)
        refine lv_goto (tgt := 4) hx hb dX4_placeOf_30 (by decide) ?_
        refine W.widen (k := 0) (n := 0) (Nat.le_refl _) (Nat.le_refl _) ?_
        exact ih_4 ((i + 1), c2 + 1) _ _ _ (by first | omega | (dsimp only; omega)) ⟨hP, hS, lv_sub hl [2, 3, 1, 0] rfl, (by omega), (by rw [plN, if_neg c_2, if_neg c_4, ← hc])⟩
