set_option maxHeartbeats 4000000 in
set_option maxRecDepth 100000 in
theorem c_X6_thrown (l : Launch) (D : va_G) (cI cZ cJ cA : ClassId) (sz : Nat) (q : Nat → Nat) (on : Int32) (hm : Int32) (aw : Int32) (tk : Int32) (sn : Nat) (kn : Nat) (th : Int32) : Met l yX6_thrown wsX6_thrown ({ frames := 0, cells := 0, slots := 0, locals := 0 } : Room) (va_Pc [.ref (q 0)] (pcR D (tyL cI cZ cJ cA) [((q 0), .inr (6, [.ref (q 1), .ref (q 2), .int on, .int hm, .int aw, .int tk, .ref (q 3), .ref (q 4), .ref (q 5), .int (nI sn), .ref (q 6), .ref (q 7), .ref (q 8), .ref (q 9), .int (nI kn), .ref (q 10), .ref (q 11), .ref (q 12), .ref (q 13), .ref (q 14), .ref (q 15), .ref (q 16), .ref (q 17), .int th]))] sz)) (va_Qi (fun (r : Int32) (u : Unit) => r = th) (fun _ _ => True) (fun q : Nat => sz ≤ q)) 0 0 (fun q : Nat => sz ≤ q) := by
  refine Met.ofW (cc := cX6_thrown) (maxL := 1) (ret := (some .int)) (by decide) rfl ?_
  intro p e s m args below meth c s₁ B hml hv
  obtain ⟨rfl, hsz, hP, hK⟩ := hv
  have hx := B.exec
  have hb := B.bytes
  have hr := B.returns
  have hts := atoms_spec (ws := wsX6_thrown) B.pre
  have hown : s.vm.findClass RX6 = some m.cls := findClass_of_methodNamed B.named
  have hlocks := B.notSynchronized
  subst hsz
  have hA : ∀ q : Nat, s.heap.size ≤ q → (fun q : Nat => s.heap.size ≤ q) q := fun _ h => h
  have hS : va_S (fun q : Nat => s.heap.size ≤ q) s.heap s.heap [] := va_S.rf
  have hP : va_P D vwCl [((q 0), .inr (6, [.ref (q 1), .ref (q 2), .int on, .int hm, .int aw, .int tk, .ref (q 3), .ref (q 4), .ref (q 5), .int (nI sn), .ref (q 6), .ref (q 7), .ref (q 8), .ref (q 9), .int (nI kn), .ref (q 10), .ref (q 11), .ref (q 12), .ref (q 13), .ref (q 14), .ref (q 15), .ref (q 16), .ref (q 17), .int th]))] s.heap := hP
  have hl := lv_entry ([.ref (q 0)]) (n := 1) (Nat.le_of_ble_eq_true rfl)
  rw [lg_entry_eq]
  generalize (lg_sl ([.ref (q 0)]) ++ List.replicate (1 - (lg_sl ([.ref (q 0)])).length) Slot.unset).toArray = ls at hl ⊢
  have hl : lv_has ls 1 [(0, .ref (q 0))] := hl
  have hf_62 := hts (.fieldLink RX6 62 "PaintballAtlasModel" "thrown" "I") (by decide +kernel)
  have hi_X6 : ∀ w ∈ wsX60, w ∈ wsX6_thrown := by decide +kernel
  refine lv_aload_n hx hb dX6_thrown_0 rfl (lv_at hl 0 rfl) ?_
  refine va_get (D := D) (ci := 6) (v := .int th) (C := RX6) (T := TX6) (N := 24) hx hb hts hi_X6 hown hK hP 0 rfl rfl 23 (by decide) hf_62 (fun _ h9 => h9) rfl dX6_thrown_1 ?_
  -- leaf 0
  exact W.iret (v := th) hx hb hr (fun t ht hW => ⟨⟨th, (), rfl, rfl, trivial⟩, hS.F ht⟩) hS.2.2 dX6_thrown_4

def zfail (p : Int32) : Int32 := if p ≤ 0 then 0 else 1
set_option maxHeartbeats 4000000 in
set_option maxRecDepth 100000 in
theorem c_X6_fails (l : Launch) (D : va_G) (cI cZ cJ cA : ClassId) (sz : Nat) (q : Nat → Nat) (on : Int32) (hm : Int32) (aw : Int32) (tk : Int32) (sn : Nat) (kn : Nat) (th : Int32) (p1 : Int32) : Met l yX6_fails wsX6_fails ({ frames := 0, cells := 0, slots := 0, locals := 0 } : Room) (va_Pc [.ref (q 0), .int p1] (pcW D (tyL cI cZ cJ cA) [((q 0), .inr (6, [.ref (q 1), .ref (q 2), .int on, .int hm, .int aw, .int tk, .ref (q 3), .ref (q 4), .ref (q 5), .int (nI sn), .ref (q 6), .ref (q 7), .ref (q 8), .ref (q 9), .int (nI kn), .ref (q 10), .ref (q 11), .ref (q 12), .ref (q 13), .ref (q 14), .ref (q 15), .ref (q 16), .ref (q 17), .int th]))] sz)) (va_Qi (fun (r : Int32) (u : (Int32)) => r = zfail p1 ∧ u = p1) (fun u t => bcW D (tyL cI cZ cJ cA) (va_A [((q 0), .inr (6, [.ref (q 1), .ref (q 2), .int on, .int hm, .int aw, .int tk, .ref (q 3), .ref (q 4), .ref (q 5), .int (nI sn), .ref (q 6), .ref (q 7), .ref (q 8), .ref (q 9), .int (nI kn), .ref (q 10), .ref (q 11), .ref (q 12), .ref (q 13), .ref (q 14), .ref (q 15), .ref (q 16), .ref (q 17), .int th]))] sz) [((q 0), .inr (6, [.ref (q 1), .ref (q 2), .int on, .int hm, .int aw, .int tk, .ref (q 3), .ref (q 4), .ref (q 5), .int (nI sn), .ref (q 6), .ref (q 7), .ref (q 8), .ref (q 9), .int (nI kn), .ref (q 10), .ref (q 11), .ref (q 12), .ref (q 13), .ref (q 14), .ref (q 15), .ref (q 16), .ref (q 17), .int u]))] t) (va_A [((q 0), .inr (6, [.ref (q 1), .ref (q 2), .int on, .int hm, .int aw, .int tk, .ref (q 3), .ref (q 4), .ref (q 5), .int (nI sn), .ref (q 6), .ref (q 7), .ref (q 8), .ref (q 9), .int (nI kn), .ref (q 10), .ref (q 11), .ref (q 12), .ref (q 13), .ref (q 14), .ref (q 15), .ref (q 16), .ref (q 17), .int th]))] sz)) 0 0 (va_A [((q 0), .inr (6, [.ref (q 1), .ref (q 2), .int on, .int hm, .int aw, .int tk, .ref (q 3), .ref (q 4), .ref (q 5), .int (nI sn), .ref (q 6), .ref (q 7), .ref (q 8), .ref (q 9), .int (nI kn), .ref (q 10), .ref (q 11), .ref (q 12), .ref (q 13), .ref (q 14), .ref (q 15), .ref (q 16), .ref (q 17), .int th]))] sz) := by
  refine Met.ofW (cc := cX6_fails) (maxL := 2) (ret := (some .boolean)) (by decide) rfl ?_
  intro p e s m args below meth c s₁ B hml hv
  obtain ⟨rfl, hsz, hP, hK, hD0⟩ := hv
  have hx := B.exec
  have hb := B.bytes
  have hr := B.returns
  have hts := atoms_spec (ws := wsX6_fails) B.pre
  have hown : s.vm.findClass RX6 = some m.cls := findClass_of_methodNamed B.named
  have hlocks := B.notSynchronized
  subst hsz
  have hD := hD0.self (sz := s.heap.size)
  generalize hAe : va_A [((q 0), .inr (6, [.ref (q 1), .ref (q 2), .int on, .int hm, .int aw, .int tk, .ref (q 3), .ref (q 4), .ref (q 5), .int (nI sn), .ref (q 6), .ref (q 7), .ref (q 8), .ref (q 9), .int (nI kn), .ref (q 10), .ref (q 11), .ref (q 12), .ref (q 13), .ref (q 14), .ref (q 15), .ref (q 16), .ref (q 17), .int th]))] s.heap.size = A at hD ⊢
  have hA : ∀ q : Nat, s.heap.size ≤ q → A q := fun q h => by rw [← hAe]; exact Or.inr h
  have hAR : ∀ q : Nat, s.heap.size ≤ q → (fun q : Nat => s.heap.size ≤ q) q := fun _ h => h
  have hS : va_S A s.heap s.heap [] := va_S.rf
  have hP : va_P D vwCl [((q 0), .inr (6, [.ref (q 1), .ref (q 2), .int on, .int hm, .int aw, .int tk, .ref (q 3), .ref (q 4), .ref (q 5), .int (nI sn), .ref (q 6), .ref (q 7), .ref (q 8), .ref (q 9), .int (nI kn), .ref (q 10), .ref (q 11), .ref (q 12), .ref (q 13), .ref (q 14), .ref (q 15), .ref (q 16), .ref (q 17), .int th]))] s.heap := hP
  have hl := lv_entry ([.ref (q 0), .int p1]) (n := 2) (Nat.le_of_ble_eq_true rfl)
  rw [lg_entry_eq]
  generalize (lg_sl ([.ref (q 0), .int p1]) ++ List.replicate (2 - (lg_sl ([.ref (q 0), .int p1])).length) Slot.unset).toArray = ls at hl ⊢
  have hl : lv_has ls 2 [(0, .ref (q 0)), (1, .int p1)] := hl
  have hf_62 := hts (.fieldLink RX6 62 "PaintballAtlasModel" "thrown" "I") (by decide +kernel)
  have hi_X6 : ∀ w ∈ wsX60, w ∈ wsX6_fails := by decide +kernel
  refine lv_aload_n hx hb dX6_fails_0 rfl (lv_at hl 0 rfl) ?_
  refine lv_iload_n hx hb dX6_fails_1 rfl (lv_at hl 1 rfl) ?_
  refine va_put (D := D) (ci := 6) (v := .int p1) (ty := .int) (C := RX6) (T := TX6) (N := 24) hx hb hts hi_X6 tyX6 tyX6_ok nmX6 hown hK hP hD hS 0 rfl rfl 23 (by decide) hf_62 (fun _ h9 => h9) rfl (by decide +kernel) rfl rfl (Nat.le_of_ble_eq_true rfl) dX6_fails_2 (fun H locs hP hD hS => ?_)
  have hP : va_P D vwCl [((q 0), .inr (6, [.ref (q 1), .ref (q 2), .int on, .int hm, .int aw, .int tk, .ref (q 3), .ref (q 4), .ref (q 5), .int (nI sn), .ref (q 6), .ref (q 7), .ref (q 8), .ref (q 9), .int (nI kn), .ref (q 10), .ref (q 11), .ref (q 12), .ref (q 13), .ref (q 14), .ref (q 15), .ref (q 16), .ref (q 17), .int p1]))] H := hP
  have hD : va_D A [((q 0), .inr (6, [.ref (q 1), .ref (q 2), .int on, .int hm, .int aw, .int tk, .ref (q 3), .ref (q 4), .ref (q 5), .int (nI sn), .ref (q 6), .ref (q 7), .ref (q 8), .ref (q 9), .int (nI kn), .ref (q 10), .ref (q 11), .ref (q 12), .ref (q 13), .ref (q 14), .ref (q 15), .ref (q 16), .ref (q 17), .int p1]))] := hD
  refine lv_iload_n hx hb dX6_fails_5 rfl (lv_at hl 1 rfl) ?_
  refine lv_if_le (tgt := 13) hx hb dX6_fails_6 (by decide) (fun c_1 => ?_) (fun c_1 => ?_)
  · refine lv_iconst (v := 0) hx hb dX6_fails_13 (by decide) ?_
    have hP9 := hP.sub (ws' := [((q 0), .inr (6, [.ref (q 1), .ref (q 2), .int on, .int hm, .int aw, .int tk, .ref (q 3), .ref (q 4), .ref (q 5), .int (nI sn), .ref (q 6), .ref (q 7), .ref (q 8), .ref (q 9), .int (nI kn), .ref (q 10), .ref (q 11), .ref (q 12), .ref (q 13), .ref (q 14), .ref (q 15), .ref (q 16), .ref (q 17), .int p1]))]) [0] rfl
    have hD9 := hD.sub (ws' := [((q 0), .inr (6, [.ref (q 1), .ref (q 2), .int on, .int hm, .int aw, .int tk, .ref (q 3), .ref (q 4), .ref (q 5), .int (nI sn), .ref (q 6), .ref (q 7), .ref (q 8), .ref (q 9), .int (nI kn), .ref (q 10), .ref (q 11), .ref (q 12), .ref (q 13), .ref (q 14), .ref (q 15), .ref (q 16), .ref (q 17), .int p1]))]) [0] (by decide) rfl
    -- leaf 0
    exact W.zret (v := 0) (ty := .boolean) hx hb hr rfl (fun t ht hW => ⟨⟨0, (p1), rfl, ⟨(by rw [zfail, if_pos c_1]), rfl⟩, by rw [ht]; exact hP9, va_K.moved hW.alike hK, hD9⟩, hS.F ht⟩) hS.2.2 dX6_fails_14
  · refine lv_iconst (v := 1) hx hb dX6_fails_9 (by decide) ?_
    refine lv_goto (tgt := 14) hx hb dX6_fails_10 (by decide) ?_
    have hP9 := hP.sub (ws' := [((q 0), .inr (6, [.ref (q 1), .ref (q 2), .int on, .int hm, .int aw, .int tk, .ref (q 3), .ref (q 4), .ref (q 5), .int (nI sn), .ref (q 6), .ref (q 7), .ref (q 8), .ref (q 9), .int (nI kn), .ref (q 10), .ref (q 11), .ref (q 12), .ref (q 13), .ref (q 14), .ref (q 15), .ref (q 16), .ref (q 17), .int p1]))]) [0] rfl
    have hD9 := hD.sub (ws' := [((q 0), .inr (6, [.ref (q 1), .ref (q 2), .int on, .int hm, .int aw, .int tk, .ref (q 3), .ref (q 4), .ref (q 5), .int (nI sn), .ref (q 6), .ref (q 7), .ref (q 8), .ref (q 9), .int (nI kn), .ref (q 10), .ref (q 11), .ref (q 12), .ref (q 13), .ref (q 14), .ref (q 15), .ref (q 16), .ref (q 17), .int p1]))]) [0] (by decide) rfl
    -- leaf 1
    exact W.zret (v := 1) (ty := .boolean) hx hb hr rfl (fun t ht hW => ⟨⟨1, (p1), rfl, ⟨(by rw [zfail, if_neg c_1]), rfl⟩, by rw [ht]; exact hP9, va_K.moved hW.alike hK, hD9⟩, hS.F ht⟩) hS.2.2 dX6_fails_14

noncomputable def f_X6_isIn (p1 : Int32) (p2 : Int32) (p3 : Int32) : Int32 := if p1 < p2 then 0 else (if p3 < p1 then 0 else 1)
set_option maxHeartbeats 4000000 in
set_option maxRecDepth 100000 in
theorem c_X6_isIn (l : Launch) (D : va_G) (cI cZ cJ cA : ClassId) (sz : Nat) (p1 : Int32) (p2 : Int32) (p3 : Int32) : Met l yX6_isIn wsX6_isIn ({ frames := 0, cells := 0, slots := 0, locals := 0 } : Room) (va_Pc [.int p1, .int p2, .int p3] (pcR D (tyL cI cZ cJ cA) [] sz)) (va_Qi (fun (r : Int32) (u : Unit) => r = f_X6_isIn p1 p2 p3) (fun _ _ => True) (fun q : Nat => sz ≤ q)) 0 0 (fun q : Nat => sz ≤ q) := by
  refine Met.ofW (cc := cX6_isIn) (maxL := 3) (ret := (some .boolean)) (by decide) rfl ?_
  intro p e s m args below meth c s₁ B hml hv
  obtain ⟨rfl, hsz, hP, hK⟩ := hv
  have hx := B.exec
  have hb := B.bytes
  have hr := B.returns
  have hts := atoms_spec (ws := wsX6_isIn) B.pre
  have hown : s.vm.findClass RX6 = some m.cls := findClass_of_methodNamed B.named
  have hlocks := B.notSynchronized
  subst hsz
  have hA : ∀ q : Nat, s.heap.size ≤ q → (fun q : Nat => s.heap.size ≤ q) q := fun _ h => h
  have hS : va_S (fun q : Nat => s.heap.size ≤ q) s.heap s.heap [] := va_S.rf
  have hP : va_P D vwCl [] s.heap := hP
  have hl := lv_entry ([.int p1, .int p2, .int p3]) (n := 3) (Nat.le_of_ble_eq_true rfl)
  rw [lg_entry_eq]
  generalize (lg_sl ([.int p1, .int p2, .int p3]) ++ List.replicate (3 - (lg_sl ([.int p1, .int p2, .int p3])).length) Slot.unset).toArray = ls at hl ⊢
  have hl : lv_has ls 3 [(0, .int p1), (1, .int p2), (2, .int p3)] := hl
  refine lv_iload_n hx hb dX6_isIn_0 rfl (lv_at hl 0 rfl) ?_
  refine lv_iload_n hx hb dX6_isIn_1 rfl (lv_at hl 1 rfl) ?_
  refine lv_icmp_lt (tgt := 14) hx hb dX6_isIn_2 (by decide) (fun c_1 => ?_) (fun c_1 => ?_)
  · refine lv_iconst (v := 0) hx hb dX6_isIn_14 (by decide) ?_
    -- leaf 0
    exact W.zret (v := 0) (ty := .boolean) hx hb hr rfl (fun t ht hW => ⟨⟨0, (), rfl, (by rw [f_X6_isIn, if_pos c_1]), trivial⟩, hS.F ht⟩) hS.2.2 dX6_isIn_15
  · refine lv_iload_n hx hb dX6_isIn_5 rfl (lv_at hl 0 rfl) ?_
    refine lv_iload_n hx hb dX6_isIn_6 rfl (lv_at hl 2 rfl) ?_
    refine lv_icmp_gt (tgt := 14) hx hb dX6_isIn_7 (by decide) (fun c_2 => ?_) (fun c_2 => ?_)
    · refine lv_iconst (v := 0) hx hb dX6_isIn_14 (by decide) ?_
      -- leaf 1
      exact W.zret (v := 0) (ty := .boolean) hx hb hr rfl (fun t ht hW => ⟨⟨0, (), rfl, (by rw [f_X6_isIn, if_neg c_1, if_pos c_2]), trivial⟩, hS.F ht⟩) hS.2.2 dX6_isIn_15
    · refine lv_iconst (v := 1) hx hb dX6_isIn_10 (by decide) ?_
      refine lv_goto (tgt := 15) hx hb dX6_isIn_11 (by decide) ?_
      -- leaf 2
      exact W.zret (v := 1) (ty := .boolean) hx hb hr rfl (fun t ht hW => ⟨⟨1, (), rfl, (by rw [f_X6_isIn, if_neg c_1, if_neg c_2]), trivial⟩, hS.F ht⟩) hS.2.2 dX6_isIn_15
theorem isIn_01 (a b c : Int32) : f_X6_isIn a b c = 0 ∨ f_X6_isIn a b c = 1 := by
  unfold f_X6_isIn
  (repeat' split) <;> first | exact Or.inl rfl | exact Or.inr rfl
theorem isIn_vp {p : Int32} {N : Nat} {c : Int32} (h : ¬ f_X6_isIn p 0 c = 0) (hc : c + 1 = nI N ∧ c = nI (N - 1) ∧ 0 < N ∧ N < 2 ^ 31 := by decide) : vp_in p N := by
  unfold f_X6_isIn at h
  split at h
  · exact absurd rfl h
  · split at h
    · exact absurd rfl h
    · rename_i h1 h2
      obtain ⟨-, rfl, h3, h4⟩ := hc
      obtain ⟨j, hj, rfl⟩ := nI_of h1
      have h5 := bd_le (by omega) hj h2
      exact vp_in_nI (by omega) h4
theorem isIn_kn {p : Int32} {kn : Nat} (h : ¬ f_X6_isIn p 0 (nI kn - 1) = 0) (hk : kn ≤ 4096) : vp_in p kn := by
  unfold f_X6_isIn at h
  split at h
  · exact absurd rfl h
  · split at h
    · exact absurd rfl h
    · rename_i h1 h2
      obtain ⟨j, hj, rfl⟩ := nI_of h1
      rcases Nat.eq_zero_or_pos kn with rfl | h0
      · exact absurd (show nI 0 - 1 < nI j from Int32.lt_of_lt_of_le (show (nI 0 - 1 : Int32) < 0 by decide) (nI_pos' hj)) h2
      · rw [show kn = (kn - 1) + 1 by omega, nI_pred] at h2
        have h5 := bd_le (by omega) hj h2
        exact vp_in_nI (by omega) (by omega)

set_option maxHeartbeats 4000000 in
set_option maxRecDepth 100000 in
theorem c_X6_isCell (l : Launch) (D : va_G) (cI cZ cJ cA : ClassId) (sz : Nat) (p1 : Int32) : Met l yX6_isCell wsX6_isCell ({ frames := 1, cells := 0, slots := 0, locals := 22 } : Room) (va_Pc [.int p1] (pcR D (tyL cI cZ cJ cA) [] sz)) (va_Qi (fun (r : Int32) (u : Unit) => r = f_X6_isIn p1 0 143) (fun _ _ => True) (fun q : Nat => sz ≤ q)) 0 0 (fun q : Nat => sz ≤ q) := by
  refine Met.ofW (cc := cX6_isCell) (maxL := 1) (ret := (some .boolean)) (by decide) rfl ?_
  intro p e s m args below meth c s₁ B hml hv
  obtain ⟨rfl, hsz, hP, hK⟩ := hv
  have hx := B.exec
  have hb := B.bytes
  have hr := B.returns
  have hts := atoms_spec (ws := wsX6_isCell) B.pre
  have hown : s.vm.findClass RX6 = some m.cls := findClass_of_methodNamed B.named
  have hlocks := B.notSynchronized
  subst hsz
  have hA : ∀ q : Nat, s.heap.size ≤ q → (fun q : Nat => s.heap.size ≤ q) q := fun _ h => h
  have hS : va_S (fun q : Nat => s.heap.size ≤ q) s.heap s.heap [] := va_S.rf
  have hP : va_P D vwCl [] s.heap := hP
  have hl := lv_entry ([.int p1]) (n := 1) (Nat.le_of_ble_eq_true rfl)
  rw [lg_entry_eq]
  generalize (lg_sl ([.int p1]) ++ List.replicate (1 - (lg_sl ([.int p1])).length) Slot.unset).toArray = ls at hl ⊢
  have hl : lv_has ls 1 [(0, .int p1)] := hl
  refine lv_iload_n hx hb dX6_isCell_0 rfl (lv_at hl 0 rfl) ?_
  refine lv_iconst (v := 0) hx hb dX6_isCell_1 (by decide) ?_
  refine lv_sipush (v := 143) hx hb dX6_isCell_2 (by decide) ?_
  have hPc := hP.sub (ws' := []) [] rfl
  refine va_calli (va_runS (As := [.int p1, .int 0, .int 143]) (rest := []) ⟨hx, hb, hml, hown, hts⟩ (c_X6_isIn l D cI cZ cJ cA s.heap.size p1 0 143) (va_cwS 3 hts gX6_isCell_X6_isIn rfl rfl rfl (by decide +kernel) ⟨Nat.le_of_ble_eq_true rfl, Nat.le_of_ble_eq_true rfl⟩) ⟨pcR_bl, fun U hU hW => ⟨rfl, by rw [hU], by rw [hU]; exact hPc, va_K.moved hW.alike hK⟩⟩ rfl rfl hl.1 rfl (lv_room (Nat.le_of_ble_eq_true rfl)) dX6_isCell_5 ⟨Nat.le_of_ble_eq_true rfl, Nat.le_of_ble_eq_true rfl⟩) hS (fun _ h1 h2 => absurd h1 (Nat.not_lt.mpr h2)) (rd_free hS hA) (fun r_1 u t H locs ht hvm hw hB hz1 hk1 hS => ?_)
  try dsimp only at hw
  have hr_1 := hw
  have hP := rd_P hP hk1
  obtain rfl := hr_1.symm
  refine W.widen (k := 0) (n := 0) (Nat.le_refl _) (Nat.le_refl _) ?_
  -- leaf 0
  refine W.widen (k := 0) (n := 0) (Nat.le_refl _) (Nat.le_refl _) ?_
  exact W.zret (v := f_X6_isIn p1 0 143) (ty := .boolean) hx hb hr (nz01 (isIn_01 _ _ _)) (fun t ht hW => ⟨⟨f_X6_isIn p1 0 143, (), rfl, rfl, trivial⟩, hS.F ht⟩) hS.2.2 dX6_isCell_8

set_option maxHeartbeats 4000000 in
set_option maxRecDepth 100000 in
theorem c_X6_isTeam (l : Launch) (D : va_G) (cI cZ cJ cA : ClassId) (sz : Nat) (p1 : Int32) : Met l yX6_isTeam wsX6_isTeam ({ frames := 1, cells := 0, slots := 0, locals := 22 } : Room) (va_Pc [.int p1] (pcR D (tyL cI cZ cJ cA) [] sz)) (va_Qi (fun (r : Int32) (u : Unit) => r = f_X6_isIn p1 0 5) (fun _ _ => True) (fun q : Nat => sz ≤ q)) 0 0 (fun q : Nat => sz ≤ q) := by
  refine Met.ofW (cc := cX6_isTeam) (maxL := 1) (ret := (some .boolean)) (by decide) rfl ?_
  intro p e s m args below meth c s₁ B hml hv
  obtain ⟨rfl, hsz, hP, hK⟩ := hv
  have hx := B.exec
  have hb := B.bytes
  have hr := B.returns
  have hts := atoms_spec (ws := wsX6_isTeam) B.pre
  have hown : s.vm.findClass RX6 = some m.cls := findClass_of_methodNamed B.named
  have hlocks := B.notSynchronized
  subst hsz
  have hA : ∀ q : Nat, s.heap.size ≤ q → (fun q : Nat => s.heap.size ≤ q) q := fun _ h => h
  have hS : va_S (fun q : Nat => s.heap.size ≤ q) s.heap s.heap [] := va_S.rf
  have hP : va_P D vwCl [] s.heap := hP
  have hl := lv_entry ([.int p1]) (n := 1) (Nat.le_of_ble_eq_true rfl)
  rw [lg_entry_eq]
  generalize (lg_sl ([.int p1]) ++ List.replicate (1 - (lg_sl ([.int p1])).length) Slot.unset).toArray = ls at hl ⊢
  have hl : lv_has ls 1 [(0, .int p1)] := hl
  refine lv_iload_n hx hb dX6_isTeam_0 rfl (lv_at hl 0 rfl) ?_
  refine lv_iconst (v := 0) hx hb dX6_isTeam_1 (by decide) ?_
  refine lv_iconst (v := 5) hx hb dX6_isTeam_2 (by decide) ?_
  have hPc := hP.sub (ws' := []) [] rfl
  refine va_calli (va_runS (As := [.int p1, .int 0, .int 5]) (rest := []) ⟨hx, hb, hml, hown, hts⟩ (c_X6_isIn l D cI cZ cJ cA s.heap.size p1 0 5) (va_cwS 3 hts gX6_isTeam_X6_isIn rfl rfl rfl (by decide +kernel) ⟨Nat.le_of_ble_eq_true rfl, Nat.le_of_ble_eq_true rfl⟩) ⟨pcR_bl, fun U hU hW => ⟨rfl, by rw [hU], by rw [hU]; exact hPc, va_K.moved hW.alike hK⟩⟩ rfl rfl hl.1 rfl (lv_room (Nat.le_of_ble_eq_true rfl)) dX6_isTeam_3 ⟨Nat.le_of_ble_eq_true rfl, Nat.le_of_ble_eq_true rfl⟩) hS (fun _ h1 h2 => absurd h1 (Nat.not_lt.mpr h2)) (rd_free hS hA) (fun r_1 u t H locs ht hvm hw hB hz1 hk1 hS => ?_)
  try dsimp only at hw
  have hr_1 := hw
  have hP := rd_P hP hk1
  obtain rfl := hr_1.symm
  refine W.widen (k := 0) (n := 0) (Nat.le_refl _) (Nat.le_refl _) ?_
  -- leaf 0
  refine W.widen (k := 0) (n := 0) (Nat.le_refl _) (Nat.le_refl _) ?_
  exact W.zret (v := f_X6_isIn p1 0 5) (ty := .boolean) hx hb hr (nz01 (isIn_01 _ _ _)) (fun t ht hW => ⟨⟨f_X6_isIn p1 0 5, (), rfl, rfl, trivial⟩, hS.F ht⟩) hS.2.2 dX6_isTeam_6

set_option maxHeartbeats 4000000 in
set_option maxRecDepth 100000 in
theorem c_X6_isPlayer (l : Launch) (D : va_G) (cI cZ cJ cA : ClassId) (sz : Nat) (p1 : Int32) : Met l yX6_isPlayer wsX6_isPlayer ({ frames := 1, cells := 0, slots := 0, locals := 22 } : Room) (va_Pc [.int p1] (pcR D (tyL cI cZ cJ cA) [] sz)) (va_Qi (fun (r : Int32) (u : Unit) => r = f_X6_isIn p1 0 5) (fun _ _ => True) (fun q : Nat => sz ≤ q)) 0 0 (fun q : Nat => sz ≤ q) := by
  refine Met.ofW (cc := cX6_isPlayer) (maxL := 1) (ret := (some .boolean)) (by decide) rfl ?_
  intro p e s m args below meth c s₁ B hml hv
  obtain ⟨rfl, hsz, hP, hK⟩ := hv
  have hx := B.exec
  have hb := B.bytes
  have hr := B.returns
  have hts := atoms_spec (ws := wsX6_isPlayer) B.pre
  have hown : s.vm.findClass RX6 = some m.cls := findClass_of_methodNamed B.named
  have hlocks := B.notSynchronized
  subst hsz
  have hA : ∀ q : Nat, s.heap.size ≤ q → (fun q : Nat => s.heap.size ≤ q) q := fun _ h => h
  have hS : va_S (fun q : Nat => s.heap.size ≤ q) s.heap s.heap [] := va_S.rf
  have hP : va_P D vwCl [] s.heap := hP
  have hl := lv_entry ([.int p1]) (n := 1) (Nat.le_of_ble_eq_true rfl)
  rw [lg_entry_eq]
  generalize (lg_sl ([.int p1]) ++ List.replicate (1 - (lg_sl ([.int p1])).length) Slot.unset).toArray = ls at hl ⊢
  have hl : lv_has ls 1 [(0, .int p1)] := hl
  refine lv_iload_n hx hb dX6_isPlayer_0 rfl (lv_at hl 0 rfl) ?_
  refine lv_iconst (v := 0) hx hb dX6_isPlayer_1 (by decide) ?_
  refine lv_iconst (v := 5) hx hb dX6_isPlayer_2 (by decide) ?_
  have hPc := hP.sub (ws' := []) [] rfl
  refine va_calli (va_runS (As := [.int p1, .int 0, .int 5]) (rest := []) ⟨hx, hb, hml, hown, hts⟩ (c_X6_isIn l D cI cZ cJ cA s.heap.size p1 0 5) (va_cwS 3 hts gX6_isPlayer_X6_isIn rfl rfl rfl (by decide +kernel) ⟨Nat.le_of_ble_eq_true rfl, Nat.le_of_ble_eq_true rfl⟩) ⟨pcR_bl, fun U hU hW => ⟨rfl, by rw [hU], by rw [hU]; exact hPc, va_K.moved hW.alike hK⟩⟩ rfl rfl hl.1 rfl (lv_room (Nat.le_of_ble_eq_true rfl)) dX6_isPlayer_3 ⟨Nat.le_of_ble_eq_true rfl, Nat.le_of_ble_eq_true rfl⟩) hS (fun _ h1 h2 => absurd h1 (Nat.not_lt.mpr h2)) (rd_free hS hA) (fun r_1 u t H locs ht hvm hw hB hz1 hk1 hS => ?_)
  try dsimp only at hw
  have hr_1 := hw
  have hP := rd_P hP hk1
  obtain rfl := hr_1.symm
  refine W.widen (k := 0) (n := 0) (Nat.le_refl _) (Nat.le_refl _) ?_
  -- leaf 0
  refine W.widen (k := 0) (n := 0) (Nat.le_refl _) (Nat.le_refl _) ?_
  exact W.zret (v := f_X6_isIn p1 0 5) (ty := .boolean) hx hb hr (nz01 (isIn_01 _ _ _)) (fun t ht hW => ⟨⟨f_X6_isIn p1 0 5, (), rfl, rfl, trivial⟩, hS.F ht⟩) hS.2.2 dX6_isPlayer_6

set_option maxHeartbeats 4000000 in
set_option maxRecDepth 100000 in
theorem c_X6_isReferee (l : Launch) (D : va_G) (cI cZ cJ cA : ClassId) (sz : Nat) (p1 : Int32) : Met l yX6_isReferee wsX6_isReferee ({ frames := 1, cells := 0, slots := 0, locals := 22 } : Room) (va_Pc [.int p1] (pcR D (tyL cI cZ cJ cA) [] sz)) (va_Qi (fun (r : Int32) (u : Unit) => r = f_X6_isIn p1 0 1) (fun _ _ => True) (fun q : Nat => sz ≤ q)) 0 0 (fun q : Nat => sz ≤ q) := by
  refine Met.ofW (cc := cX6_isReferee) (maxL := 1) (ret := (some .boolean)) (by decide) rfl ?_
  intro p e s m args below meth c s₁ B hml hv
  obtain ⟨rfl, hsz, hP, hK⟩ := hv
  have hx := B.exec
  have hb := B.bytes
  have hr := B.returns
  have hts := atoms_spec (ws := wsX6_isReferee) B.pre
  have hown : s.vm.findClass RX6 = some m.cls := findClass_of_methodNamed B.named
  have hlocks := B.notSynchronized
  subst hsz
  have hA : ∀ q : Nat, s.heap.size ≤ q → (fun q : Nat => s.heap.size ≤ q) q := fun _ h => h
  have hS : va_S (fun q : Nat => s.heap.size ≤ q) s.heap s.heap [] := va_S.rf
  have hP : va_P D vwCl [] s.heap := hP
  have hl := lv_entry ([.int p1]) (n := 1) (Nat.le_of_ble_eq_true rfl)
  rw [lg_entry_eq]
  generalize (lg_sl ([.int p1]) ++ List.replicate (1 - (lg_sl ([.int p1])).length) Slot.unset).toArray = ls at hl ⊢
  have hl : lv_has ls 1 [(0, .int p1)] := hl
  refine lv_iload_n hx hb dX6_isReferee_0 rfl (lv_at hl 0 rfl) ?_
  refine lv_iconst (v := 0) hx hb dX6_isReferee_1 (by decide) ?_
  refine lv_iconst (v := 1) hx hb dX6_isReferee_2 (by decide) ?_
  have hPc := hP.sub (ws' := []) [] rfl
  refine va_calli (va_runS (As := [.int p1, .int 0, .int 1]) (rest := []) ⟨hx, hb, hml, hown, hts⟩ (c_X6_isIn l D cI cZ cJ cA s.heap.size p1 0 1) (va_cwS 3 hts gX6_isReferee_X6_isIn rfl rfl rfl (by decide +kernel) ⟨Nat.le_of_ble_eq_true rfl, Nat.le_of_ble_eq_true rfl⟩) ⟨pcR_bl, fun U hU hW => ⟨rfl, by rw [hU], by rw [hU]; exact hPc, va_K.moved hW.alike hK⟩⟩ rfl rfl hl.1 rfl (lv_room (Nat.le_of_ble_eq_true rfl)) dX6_isReferee_3 ⟨Nat.le_of_ble_eq_true rfl, Nat.le_of_ble_eq_true rfl⟩) hS (fun _ h1 h2 => absurd h1 (Nat.not_lt.mpr h2)) (rd_free hS hA) (fun r_1 u t H locs ht hvm hw hB hz1 hk1 hS => ?_)
  try dsimp only at hw
  have hr_1 := hw
  have hP := rd_P hP hk1
  obtain rfl := hr_1.symm
  refine W.widen (k := 0) (n := 0) (Nat.le_refl _) (Nat.le_refl _) ?_
  -- leaf 0
  refine W.widen (k := 0) (n := 0) (Nat.le_refl _) (Nat.le_refl _) ?_
  exact W.zret (v := f_X6_isIn p1 0 1) (ty := .boolean) hx hb hr (nz01 (isIn_01 _ _ _)) (fun t ht hW => ⟨⟨f_X6_isIn p1 0 1, (), rfl, rfl, trivial⟩, hS.F ht⟩) hS.2.2 dX6_isReferee_6

noncomputable def f_X6_size (p1 : Int32) : Int32 := if 0 ≤ p1 then p1 else -p1
set_option maxHeartbeats 4000000 in
set_option maxRecDepth 100000 in
theorem c_X6_size (l : Launch) (D : va_G) (cI cZ cJ cA : ClassId) (sz : Nat) (p1 : Int32) : Met l yX6_size wsX6_size ({ frames := 0, cells := 0, slots := 0, locals := 0 } : Room) (va_Pc [.int p1] (pcR D (tyL cI cZ cJ cA) [] sz)) (va_Qi (fun (r : Int32) (u : Unit) => r = f_X6_size p1) (fun _ _ => True) (fun q : Nat => sz ≤ q)) 0 0 (fun q : Nat => sz ≤ q) := by
  refine Met.ofW (cc := cX6_size) (maxL := 1) (ret := (some .int)) (by decide) rfl ?_
  intro p e s m args below meth c s₁ B hml hv
  obtain ⟨rfl, hsz, hP, hK⟩ := hv
  have hx := B.exec
  have hb := B.bytes
  have hr := B.returns
  have hts := atoms_spec (ws := wsX6_size) B.pre
  have hown : s.vm.findClass RX6 = some m.cls := findClass_of_methodNamed B.named
  have hlocks := B.notSynchronized
  subst hsz
  have hA : ∀ q : Nat, s.heap.size ≤ q → (fun q : Nat => s.heap.size ≤ q) q := fun _ h => h
  have hS : va_S (fun q : Nat => s.heap.size ≤ q) s.heap s.heap [] := va_S.rf
  have hP : va_P D vwCl [] s.heap := hP
  have hl := lv_entry ([.int p1]) (n := 1) (Nat.le_of_ble_eq_true rfl)
  rw [lg_entry_eq]
  generalize (lg_sl ([.int p1]) ++ List.replicate (1 - (lg_sl ([.int p1])).length) Slot.unset).toArray = ls at hl ⊢
  have hl : lv_has ls 1 [(0, .int p1)] := hl
  refine lv_iload_n hx hb dX6_size_0 rfl (lv_at hl 0 rfl) ?_
  refine lv_if_ge (tgt := 9) hx hb dX6_size_1 (by decide) (fun c_1 => ?_) (fun c_1 => ?_)
  · refine lv_iload_n hx hb dX6_size_9 rfl (lv_at hl 0 rfl) ?_
    -- leaf 0
    exact W.iret (v := p1) hx hb hr (fun t ht hW => ⟨⟨p1, (), rfl, (by rw [f_X6_size, if_pos c_1]), trivial⟩, hS.F ht⟩) hS.2.2 dX6_size_10
  · refine lv_iload_n hx hb dX6_size_4 rfl (lv_at hl 0 rfl) ?_
    refine lv_ineg hx hb dX6_size_5 ?_
    refine lv_goto (tgt := 10) hx hb dX6_size_6 (by decide) ?_
    -- leaf 1
    exact W.iret (v := -p1) hx hb hr (fun t ht hW => ⟨⟨-p1, (), rfl, (by rw [f_X6_size, if_neg c_1]), trivial⟩, hS.F ht⟩) hS.2.2 dX6_size_10

noncomputable def f_X6_apart (p1 : Int32) (p2 : Int32) : Int32 := if (f_X6_size ((p1 / 12) - (p2 / 12))) ≤ (f_X6_size ((p1 - p1 / 12 * 12) - (p2 - p2 / 12 * 12))) then f_X6_size ((p1 - p1 / 12 * 12) - (p2 - p2 / 12 * 12)) else f_X6_size ((p1 / 12) - (p2 / 12))
set_option maxHeartbeats 4000000 in
set_option maxRecDepth 100000 in
theorem c_X6_apart (l : Launch) (D : va_G) (cI cZ cJ cA : ClassId) (sz : Nat) (p1 : Int32) (p2 : Int32) : Met l yX6_apart wsX6_apart ({ frames := 1, cells := 0, slots := 0, locals := 20 } : Room) (va_Pc [.int p1, .int p2] (pcR D (tyL cI cZ cJ cA) [] sz)) (va_Qi (fun (r : Int32) (u : Unit) => r = f_X6_apart p1 p2) (fun _ _ => True) (fun q : Nat => sz ≤ q)) 0 0 (fun q : Nat => sz ≤ q) := by
  refine Met.ofW (cc := cX6_apart) (maxL := 4) (ret := (some .int)) (by decide) rfl ?_
  intro p e s m args below meth c s₁ B hml hv
  obtain ⟨rfl, hsz, hP, hK⟩ := hv
  have hx := B.exec
  have hb := B.bytes
  have hr := B.returns
  have hts := atoms_spec (ws := wsX6_apart) B.pre
  have hown : s.vm.findClass RX6 = some m.cls := findClass_of_methodNamed B.named
  have hlocks := B.notSynchronized
  subst hsz
  have hA : ∀ q : Nat, s.heap.size ≤ q → (fun q : Nat => s.heap.size ≤ q) q := fun _ h => h
  have hS : va_S (fun q : Nat => s.heap.size ≤ q) s.heap s.heap [] := va_S.rf
  have hP : va_P D vwCl [] s.heap := hP
  have hl := lv_entry ([.int p1, .int p2]) (n := 4) (Nat.le_of_ble_eq_true rfl)
  rw [lg_entry_eq]
  generalize (lg_sl ([.int p1, .int p2]) ++ List.replicate (4 - (lg_sl ([.int p1, .int p2])).length) Slot.unset).toArray = ls at hl ⊢
  have hl : lv_has ls 4 [(0, .int p1), (1, .int p2)] := hl
  refine lv_iload_n hx hb dX6_apart_0 rfl (lv_at hl 0 rfl) ?_
  refine lv_bipush (v := 12) hx hb dX6_apart_1 (by decide) ?_
  refine lv_idiv hx hb dX6_apart_3 (by decide) ?_
  refine lv_iload_n hx hb dX6_apart_4 rfl (lv_at hl 1 rfl) ?_
  refine lv_bipush (v := 12) hx hb dX6_apart_5 (by decide) ?_
  refine lv_idiv hx hb dX6_apart_7 (by decide) ?_
  refine lv_isub hx hb dX6_apart_8 ?_
  have hPc := hP.sub (ws' := []) [] rfl
  refine va_calli (va_runS (As := [.int ((p1 / 12) - (p2 / 12))]) (rest := []) ⟨hx, hb, hml, hown, hts⟩ (c_X6_size l D cI cZ cJ cA s.heap.size ((p1 / 12) - (p2 / 12))) (va_cwS 1 hts gX6_apart_X6_size rfl rfl rfl (by decide +kernel) ⟨Nat.le_of_ble_eq_true rfl, Nat.le_of_ble_eq_true rfl⟩) ⟨pcR_bl, fun U hU hW => ⟨rfl, by rw [hU], by rw [hU]; exact hPc, va_K.moved hW.alike hK⟩⟩ rfl rfl hl.1 rfl (lv_room (Nat.le_of_ble_eq_true rfl)) dX6_apart_9 ⟨Nat.le_of_ble_eq_true rfl, Nat.le_of_ble_eq_true rfl⟩) hS (fun _ h1 h2 => absurd h1 (Nat.not_lt.mpr h2)) (rd_free hS hA) (fun r_1 u t H locs ht hvm hw hB hz1 hk1 hS => ?_)
  try dsimp only at hw
  have hr_1 := hw
  have hP := rd_P hP hk1
  obtain rfl := hr_1.symm
  refine W.widen (k := 0) (n := 0) (Nat.le_refl _) (Nat.le_refl _) ?_
  refine lv_istore_n (lv' := [(2, .int (f_X6_size ((p1 / 12) - (p2 / 12)))), (0, .int p1), (1, .int p2)]) hx hb dX6_apart_12 rfl hl (by decide) rfl (fun ls hl => ?_)
  refine lv_iload_n hx hb dX6_apart_13 rfl (lv_at hl 1 rfl) ?_
  refine lv_bipush (v := 12) hx hb dX6_apart_14 (by decide) ?_
  refine lv_irem hx hb dX6_apart_16 (by decide) ?_
  refine lv_iload_n hx hb dX6_apart_17 rfl (lv_at hl 2 rfl) ?_
  refine lv_bipush (v := 12) hx hb dX6_apart_18 (by decide) ?_
  refine lv_irem hx hb dX6_apart_20 (by decide) ?_
  refine lv_isub hx hb dX6_apart_21 ?_
  have hPc := hP.sub (ws' := []) [] rfl
  refine va_calli (va_runS (As := [.int ((p1 - p1 / 12 * 12) - (p2 - p2 / 12 * 12))]) (rest := []) ⟨hx, hb, hml, hown, hts⟩ (c_X6_size l D cI cZ cJ cA H.size ((p1 - p1 / 12 * 12) - (p2 - p2 / 12 * 12))) (va_cwS 1 hts gX6_apart_X6_size rfl rfl rfl (by decide +kernel) ⟨Nat.le_of_ble_eq_true rfl, Nat.le_of_ble_eq_true rfl⟩) ⟨pcR_bl, fun U hU hW => ⟨rfl, by rw [hU], by rw [hU]; exact hPc, va_K.moved hW.alike hK⟩⟩ rfl rfl hl.1 rfl (lv_room (Nat.le_of_ble_eq_true rfl)) dX6_apart_22 ⟨Nat.le_of_ble_eq_true rfl, Nat.le_of_ble_eq_true rfl⟩) hS (fun _ h1 h2 => absurd h1 (Nat.not_lt.mpr h2)) (rd_free hS hA) (fun r_2 u t H locs ht hvm hw hB hz1 hk1 hS => ?_)
  try dsimp only at hw
  have hr_2 := hw
  have hP := rd_P hP hk1
  obtain rfl := hr_2.symm
  refine W.widen (k := 0) (n := 0) (Nat.le_refl _) (Nat.le_refl _) ?_
  refine lv_istore_n (lv' := [(3, .int (f_X6_size ((p1 - p1 / 12 * 12) - (p2 - p2 / 12 * 12)))), (2, .int (f_X6_size ((p1 / 12) - (p2 / 12)))), (0, .int p1), (1, .int p2)]) hx hb dX6_apart_25 rfl hl (by decide) rfl (fun ls hl => ?_)
  refine lv_iload_n hx hb dX6_apart_26 rfl (lv_at hl 1 rfl) ?_
  refine lv_iload_n hx hb dX6_apart_27 rfl (lv_at hl 0 rfl) ?_
  refine lv_icmp_le (tgt := 35) hx hb dX6_apart_28 (by decide) (fun c_3 => ?_) (fun c_3 => ?_)
  · refine lv_iload_n hx hb dX6_apart_35 rfl (lv_at hl 0 rfl) ?_
    -- leaf 0
    refine W.widen (k := 0) (n := 0) (Nat.le_refl _) (Nat.le_refl _) ?_
    exact W.iret (v := f_X6_size ((p1 - p1 / 12 * 12) - (p2 - p2 / 12 * 12))) hx hb hr (fun t ht hW => ⟨⟨f_X6_size ((p1 - p1 / 12 * 12) - (p2 - p2 / 12 * 12)), (), rfl, (by rw [f_X6_apart, if_pos c_3]), trivial⟩, hS.F ht⟩) hS.2.2 dX6_apart_36
  · refine lv_iload_n hx hb dX6_apart_31 rfl (lv_at hl 1 rfl) ?_
    refine lv_goto (tgt := 36) hx hb dX6_apart_32 (by decide) ?_
    -- leaf 1
    refine W.widen (k := 0) (n := 0) (Nat.le_refl _) (Nat.le_refl _) ?_
    exact W.iret (v := f_X6_size ((p1 / 12) - (p2 / 12))) hx hb hr (fun t ht hW => ⟨⟨f_X6_size ((p1 / 12) - (p2 / 12)), (), rfl, (by rw [f_X6_apart, if_neg c_3]), trivial⟩, hS.F ht⟩) hS.2.2 dX6_apart_36

noncomputable def f_X6_side (p1 : Int32) (p2 : Int32) (p3 : Int32) (p4 : Int32) : Int32 := if 0 ≤ (((((2 * (p2 - p2 / 12 * 12)) + 1) - ((2 * (p1 - p1 / 12 * 12)) + 1)) * (p4 - ((2 * (p1 / 12)) + 1))) - ((((2 * (p2 / 12)) + 1) - ((2 * (p1 / 12)) + 1)) * (p3 - ((2 * (p1 - p1 / 12 * 12)) + 1)))) then (if (((((2 * (p2 - p2 / 12 * 12)) + 1) - ((2 * (p1 - p1 / 12 * 12)) + 1)) * (p4 - ((2 * (p1 / 12)) + 1))) - ((((2 * (p2 / 12)) + 1) - ((2 * (p1 / 12)) + 1)) * (p3 - ((2 * (p1 - p1 / 12 * 12)) + 1)))) ≤ 0 then 0 else 1) else (-1)
set_option maxHeartbeats 4000000 in
set_option maxRecDepth 100000 in
theorem c_X6_side (l : Launch) (D : va_G) (cI cZ cJ cA : ClassId) (sz : Nat) (p1 : Int32) (p2 : Int32) (p3 : Int32) (p4 : Int32) : Met l yX6_side wsX6_side ({ frames := 0, cells := 0, slots := 0, locals := 0 } : Room) (va_Pc [.int p1, .int p2, .int p3, .int p4] (pcR D (tyL cI cZ cJ cA) [] sz)) (va_Qi (fun (r : Int32) (u : Unit) => r = f_X6_side p1 p2 p3 p4) (fun _ _ => True) (fun q : Nat => sz ≤ q)) 0 0 (fun q : Nat => sz ≤ q) := by
  refine Met.ofW (cc := cX6_side) (maxL := 9) (ret := (some .int)) (by decide) rfl ?_
  intro p e s m args below meth c s₁ B hml hv
  obtain ⟨rfl, hsz, hP, hK⟩ := hv
  have hx := B.exec
  have hb := B.bytes
  have hr := B.returns
  have hts := atoms_spec (ws := wsX6_side) B.pre
  have hown : s.vm.findClass RX6 = some m.cls := findClass_of_methodNamed B.named
  have hlocks := B.notSynchronized
  subst hsz
  have hA : ∀ q : Nat, s.heap.size ≤ q → (fun q : Nat => s.heap.size ≤ q) q := fun _ h => h
  have hS : va_S (fun q : Nat => s.heap.size ≤ q) s.heap s.heap [] := va_S.rf
  have hP : va_P D vwCl [] s.heap := hP
  have hl := lv_entry ([.int p1, .int p2, .int p3, .int p4]) (n := 9) (Nat.le_of_ble_eq_true rfl)
  rw [lg_entry_eq]
  generalize (lg_sl ([.int p1, .int p2, .int p3, .int p4]) ++ List.replicate (9 - (lg_sl ([.int p1, .int p2, .int p3, .int p4])).length) Slot.unset).toArray = ls at hl ⊢
  have hl : lv_has ls 9 [(0, .int p1), (1, .int p2), (2, .int p3), (3, .int p4)] := hl
  refine lv_iconst (v := 2) hx hb dX6_side_0 (by decide) ?_
  refine lv_iload_n hx hb dX6_side_1 rfl (lv_at hl 0 rfl) ?_
  refine lv_bipush (v := 12) hx hb dX6_side_2 (by decide) ?_
  refine lv_irem hx hb dX6_side_4 (by decide) ?_
  refine lv_imul hx hb dX6_side_5 ?_
  refine lv_iconst (v := 1) hx hb dX6_side_6 (by decide) ?_
  refine lv_iadd hx hb dX6_side_7 ?_
  refine lv_istore (lv' := [(4, .int ((2 * (p1 - p1 / 12 * 12)) + 1)), (0, .int p1), (1, .int p2), (2, .int p3), (3, .int p4)]) hx hb dX6_side_8 hl (by decide) rfl (fun ls hl => ?_)
  refine lv_iconst (v := 2) hx hb dX6_side_10 (by decide) ?_
  refine lv_iload_n hx hb dX6_side_11 rfl (lv_at hl 1 rfl) ?_
  refine lv_bipush (v := 12) hx hb dX6_side_12 (by decide) ?_
  refine lv_idiv hx hb dX6_side_14 (by decide) ?_
  refine lv_imul hx hb dX6_side_15 ?_
  refine lv_iconst (v := 1) hx hb dX6_side_16 (by decide) ?_
  refine lv_iadd hx hb dX6_side_17 ?_
  refine lv_istore (lv' := [(5, .int ((2 * (p1 / 12)) + 1)), (4, .int ((2 * (p1 - p1 / 12 * 12)) + 1)), (0, .int p1), (1, .int p2), (2, .int p3), (3, .int p4)]) hx hb dX6_side_18 hl (by decide) rfl (fun ls hl => ?_)
  refine lv_iconst (v := 2) hx hb dX6_side_20 (by decide) ?_
  refine lv_iload_n hx hb dX6_side_21 rfl (lv_at hl 3 rfl) ?_
  refine lv_bipush (v := 12) hx hb dX6_side_22 (by decide) ?_
  refine lv_irem hx hb dX6_side_24 (by decide) ?_
  refine lv_imul hx hb dX6_side_25 ?_
  refine lv_iconst (v := 1) hx hb dX6_side_26 (by decide) ?_
  refine lv_iadd hx hb dX6_side_27 ?_
  refine lv_iload hx hb dX6_side_28 (lv_at hl 1 rfl) ?_
  refine lv_isub hx hb dX6_side_30 ?_
  refine lv_istore (lv' := [(6, .int (((2 * (p2 - p2 / 12 * 12)) + 1) - ((2 * (p1 - p1 / 12 * 12)) + 1))), (5, .int ((2 * (p1 / 12)) + 1)), (4, .int ((2 * (p1 - p1 / 12 * 12)) + 1)), (0, .int p1), (1, .int p2), (2, .int p3), (3, .int p4)]) hx hb dX6_side_31 hl (by decide) rfl (fun ls hl => ?_)
  refine lv_iconst (v := 2) hx hb dX6_side_33 (by decide) ?_
  refine lv_iload_n hx hb dX6_side_34 rfl (lv_at hl 4 rfl) ?_
  refine lv_bipush (v := 12) hx hb dX6_side_35 (by decide) ?_
  refine lv_idiv hx hb dX6_side_37 (by decide) ?_
  refine lv_imul hx hb dX6_side_38 ?_
  refine lv_iconst (v := 1) hx hb dX6_side_39 (by decide) ?_
  refine lv_iadd hx hb dX6_side_40 ?_
  refine lv_iload hx hb dX6_side_41 (lv_at hl 1 rfl) ?_
  refine lv_isub hx hb dX6_side_43 ?_
  refine lv_istore (lv' := [(7, .int (((2 * (p2 / 12)) + 1) - ((2 * (p1 / 12)) + 1))), (6, .int (((2 * (p2 - p2 / 12 * 12)) + 1) - ((2 * (p1 - p1 / 12 * 12)) + 1))), (5, .int ((2 * (p1 / 12)) + 1)), (4, .int ((2 * (p1 - p1 / 12 * 12)) + 1)), (0, .int p1), (1, .int p2), (2, .int p3), (3, .int p4)]) hx hb dX6_side_44 hl (by decide) rfl (fun ls hl => ?_)
  refine lv_iload hx hb dX6_side_46 (lv_at hl 1 rfl) ?_
  refine lv_iload_n hx hb dX6_side_48 rfl (lv_at hl 7 rfl) ?_
  refine lv_iload hx hb dX6_side_49 (lv_at hl 2 rfl) ?_
  refine lv_isub hx hb dX6_side_51 ?_
  refine lv_imul hx hb dX6_side_52 ?_
  refine lv_iload hx hb dX6_side_53 (lv_at hl 0 rfl) ?_
  refine lv_iload_n hx hb dX6_side_55 rfl (lv_at hl 6 rfl) ?_
  refine lv_iload hx hb dX6_side_56 (lv_at hl 3 rfl) ?_
  refine lv_isub hx hb dX6_side_58 ?_
  refine lv_imul hx hb dX6_side_59 ?_
  refine lv_isub hx hb dX6_side_60 ?_
  refine lv_istore (lv' := [(8, .int (((((2 * (p2 - p2 / 12 * 12)) + 1) - ((2 * (p1 - p1 / 12 * 12)) + 1)) * (p4 - ((2 * (p1 / 12)) + 1))) - ((((2 * (p2 / 12)) + 1) - ((2 * (p1 / 12)) + 1)) * (p3 - ((2 * (p1 - p1 / 12 * 12)) + 1))))), (7, .int (((2 * (p2 / 12)) + 1) - ((2 * (p1 / 12)) + 1))), (6, .int (((2 * (p2 - p2 / 12 * 12)) + 1) - ((2 * (p1 - p1 / 12 * 12)) + 1))), (5, .int ((2 * (p1 / 12)) + 1)), (4, .int ((2 * (p1 - p1 / 12 * 12)) + 1)), (0, .int p1), (1, .int p2), (2, .int p3), (3, .int p4)]) hx hb dX6_side_61 hl (by decide) rfl (fun ls hl => ?_)
  refine lv_iload hx hb dX6_side_63 (lv_at hl 0 rfl) ?_
  refine lv_if_ge (tgt := 72) hx hb dX6_side_65 (by decide) (fun c_1 => ?_) (fun c_1 => ?_)
  · refine lv_iload hx hb dX6_side_72 (lv_at hl 0 rfl) ?_
    refine lv_if_le (tgt := 81) hx hb dX6_side_74 (by decide) (fun c_2 => ?_) (fun c_2 => ?_)
    · refine lv_iconst (v := 0) hx hb dX6_side_81 (by decide) ?_
      -- leaf 0
      exact W.iret (v := 0) hx hb hr (fun t ht hW => ⟨⟨0, (), rfl, (by rw [f_X6_side, if_pos c_1, if_pos c_2]), trivial⟩, hS.F ht⟩) hS.2.2 dX6_side_82
    · refine lv_iconst (v := 1) hx hb dX6_side_77 (by decide) ?_
      refine lv_goto (tgt := 82) hx hb dX6_side_78 (by decide) ?_
      -- leaf 1
      exact W.iret (v := 1) hx hb hr (fun t ht hW => ⟨⟨1, (), rfl, (by rw [f_X6_side, if_pos c_1, if_neg c_2]), trivial⟩, hS.F ht⟩) hS.2.2 dX6_side_82
  · refine lv_iconst (v := (-1)) hx hb dX6_side_68 (by decide) ?_
    refine lv_goto (tgt := 82) hx hb dX6_side_69 (by decide) ?_
    -- leaf 2
    exact W.iret (v := (-1)) hx hb hr (fun t ht hW => ⟨⟨(-1), (), rfl, (by rw [f_X6_side, if_neg c_1]), trivial⟩, hS.F ht⟩) hS.2.2 dX6_side_82

noncomputable def f_X6_isBetween (p1 : Int32) (p2 : Int32) (p3 : Int32) : Int32 := if p2 ≤ p1 then f_X6_isIn p3 p2 p1 else f_X6_isIn p3 p1 p2
set_option maxHeartbeats 4000000 in
set_option maxRecDepth 100000 in
theorem c_X6_isBetween (l : Launch) (D : va_G) (cI cZ cJ cA : ClassId) (sz : Nat) (p1 : Int32) (p2 : Int32) (p3 : Int32) : Met l yX6_isBetween wsX6_isBetween ({ frames := 1, cells := 0, slots := 0, locals := 22 } : Room) (va_Pc [.int p1, .int p2, .int p3] (pcR D (tyL cI cZ cJ cA) [] sz)) (va_Qi (fun (r : Int32) (u : Unit) => r = f_X6_isBetween p1 p2 p3) (fun _ _ => True) (fun q : Nat => sz ≤ q)) 0 0 (fun q : Nat => sz ≤ q) := by
  refine Met.ofW (cc := cX6_isBetween) (maxL := 3) (ret := (some .boolean)) (by decide) rfl ?_
  intro p e s m args below meth c s₁ B hml hv
  obtain ⟨rfl, hsz, hP, hK⟩ := hv
  have hx := B.exec
  have hb := B.bytes
  have hr := B.returns
  have hts := atoms_spec (ws := wsX6_isBetween) B.pre
  have hown : s.vm.findClass RX6 = some m.cls := findClass_of_methodNamed B.named
  have hlocks := B.notSynchronized
  subst hsz
  have hA : ∀ q : Nat, s.heap.size ≤ q → (fun q : Nat => s.heap.size ≤ q) q := fun _ h => h
  have hS : va_S (fun q : Nat => s.heap.size ≤ q) s.heap s.heap [] := va_S.rf
  have hP : va_P D vwCl [] s.heap := hP
  have hl := lv_entry ([.int p1, .int p2, .int p3]) (n := 3) (Nat.le_of_ble_eq_true rfl)
  rw [lg_entry_eq]
  generalize (lg_sl ([.int p1, .int p2, .int p3]) ++ List.replicate (3 - (lg_sl ([.int p1, .int p2, .int p3])).length) Slot.unset).toArray = ls at hl ⊢
  have hl : lv_has ls 3 [(0, .int p1), (1, .int p2), (2, .int p3)] := hl
  refine lv_iload_n hx hb dX6_isBetween_0 rfl (lv_at hl 0 rfl) ?_
  refine lv_iload_n hx hb dX6_isBetween_1 rfl (lv_at hl 1 rfl) ?_
  refine lv_icmp_ge (tgt := 14) hx hb dX6_isBetween_2 (by decide) (fun c_1 => ?_) (fun c_1 => ?_)
  · refine lv_iload_n hx hb dX6_isBetween_14 rfl (lv_at hl 2 rfl) ?_
    refine lv_iload_n hx hb dX6_isBetween_15 rfl (lv_at hl 1 rfl) ?_
    refine lv_iload_n hx hb dX6_isBetween_16 rfl (lv_at hl 0 rfl) ?_
    have hPc := hP.sub (ws' := []) [] rfl
    refine va_calli (va_runS (As := [.int p3, .int p2, .int p1]) (rest := []) ⟨hx, hb, hml, hown, hts⟩ (c_X6_isIn l D cI cZ cJ cA s.heap.size p3 p2 p1) (va_cwS 3 hts gX6_isBetween_X6_isIn rfl rfl rfl (by decide +kernel) ⟨Nat.le_of_ble_eq_true rfl, Nat.le_of_ble_eq_true rfl⟩) ⟨pcR_bl, fun U hU hW => ⟨rfl, by rw [hU], by rw [hU]; exact hPc, va_K.moved hW.alike hK⟩⟩ rfl rfl hl.1 rfl (lv_room (Nat.le_of_ble_eq_true rfl)) dX6_isBetween_17 ⟨Nat.le_of_ble_eq_true rfl, Nat.le_of_ble_eq_true rfl⟩) hS (fun _ h1 h2 => absurd h1 (Nat.not_lt.mpr h2)) (rd_free hS hA) (fun r_2 u t H locs ht hvm hw hB hz1 hk1 hS => ?_)
    try dsimp only at hw
    have hr_2 := hw
    have hP := rd_P hP hk1
    obtain rfl := hr_2.symm
    refine W.widen (k := 0) (n := 0) (Nat.le_refl _) (Nat.le_refl _) ?_
    -- leaf 0
    refine W.widen (k := 0) (n := 0) (Nat.le_refl _) (Nat.le_refl _) ?_
    exact W.zret (v := f_X6_isIn p3 p2 p1) (ty := .boolean) hx hb hr (nz01 (isIn_01 _ _ _)) (fun t ht hW => ⟨⟨f_X6_isIn p3 p2 p1, (), rfl, (by rw [f_X6_isBetween, if_pos c_1]), trivial⟩, hS.F ht⟩) hS.2.2 dX6_isBetween_20
  · refine lv_iload_n hx hb dX6_isBetween_5 rfl (lv_at hl 2 rfl) ?_
    refine lv_iload_n hx hb dX6_isBetween_6 rfl (lv_at hl 0 rfl) ?_
    refine lv_iload_n hx hb dX6_isBetween_7 rfl (lv_at hl 1 rfl) ?_
    have hPc := hP.sub (ws' := []) [] rfl
    refine va_calli (va_runS (As := [.int p3, .int p1, .int p2]) (rest := []) ⟨hx, hb, hml, hown, hts⟩ (c_X6_isIn l D cI cZ cJ cA s.heap.size p3 p1 p2) (va_cwS 3 hts gX6_isBetween_X6_isIn rfl rfl rfl (by decide +kernel) ⟨Nat.le_of_ble_eq_true rfl, Nat.le_of_ble_eq_true rfl⟩) ⟨pcR_bl, fun U hU hW => ⟨rfl, by rw [hU], by rw [hU]; exact hPc, va_K.moved hW.alike hK⟩⟩ rfl rfl hl.1 rfl (lv_room (Nat.le_of_ble_eq_true rfl)) dX6_isBetween_8 ⟨Nat.le_of_ble_eq_true rfl, Nat.le_of_ble_eq_true rfl⟩) hS (fun _ h1 h2 => absurd h1 (Nat.not_lt.mpr h2)) (rd_free hS hA) (fun r_3 u t H locs ht hvm hw hB hz1 hk1 hS => ?_)
    try dsimp only at hw
    have hr_3 := hw
    have hP := rd_P hP hk1
    obtain rfl := hr_3.symm
    refine W.widen (k := 0) (n := 0) (Nat.le_refl _) (Nat.le_refl _) ?_
    refine lv_goto (tgt := 20) hx hb dX6_isBetween_11 (by decide) ?_
    -- leaf 1
    refine W.widen (k := 0) (n := 0) (Nat.le_refl _) (Nat.le_refl _) ?_
    exact W.zret (v := f_X6_isIn p3 p1 p2) (ty := .boolean) hx hb hr (nz01 (isIn_01 _ _ _)) (fun t ht hW => ⟨⟨f_X6_isIn p3 p1 p2, (), rfl, (by rw [f_X6_isBetween, if_neg c_1]), trivial⟩, hS.F ht⟩) hS.2.2 dX6_isBetween_20

noncomputable def ldN (p1 p2 p3 : Int32) : Nat → Int32 × Int32
  | 0 => (0, 0)
  | n + 1 => (if (ldN p1 p2 p3 n).1 = 0 then (if f_X6_side p1 p2 (2 * (p3 - p3 / 12 * 12) + 2 * (nI n - nI n / 2 * 2)) (2 * (p3 / 12) + 2 * (nI n / 2)) ≤ 0 then 0 else 1) else 1, if (ldN p1 p2 p3 n).2 = 0 then (if 0 ≤ f_X6_side p1 p2 (2 * (p3 - p3 / 12 * 12) + 2 * (nI n - nI n / 2 * 2)) (2 * (p3 / 12) + 2 * (nI n / 2)) then 0 else 1) else 1)
termination_by n => n
noncomputable def ldR (p1 p2 p3 : Int32) : Int32 := if p3 = p1 then 1 else if p3 = p2 then 1 else if f_X6_isBetween (p1 - p1 / 12 * 12) (p2 - p2 / 12 * 12) (p3 - p3 / 12 * 12) = 0 then 0 else if f_X6_isBetween (p1 / 12) (p2 / 12) (p3 / 12) = 0 then 0 else if (ldN p1 p2 p3 4).1 = 0 then 0 else if (ldN p1 p2 p3 4).2 = 0 then 0 else 1
set_option maxHeartbeats 4000000 in
set_option maxRecDepth 100000 in
theorem c_X6_leads (l : Launch) (D : va_G) (cI cZ cJ cA : ClassId) (sz : Nat) (p1 : Int32) (p2 : Int32) (p3 : Int32) : Met l yX6_leads wsX6_leads ({ frames := 2, cells := 0, slots := 0, locals := 44 } : Room) (va_Pc [.int p1, .int p2, .int p3] (pcR D (tyL cI cZ cJ cA) [] sz)) (va_Qi (fun (r : Int32) (u : Unit) => r = ldR p1 p2 p3) (fun _ _ => True) (fun q : Nat => sz ≤ q)) 0 0 (fun q : Nat => sz ≤ q) := by
  refine Met.ofW (cc := cX6_leads) (maxL := 7) (ret := (some .boolean)) (by decide) rfl ?_
  intro p e s m args below meth c s₁ B hml hv
  obtain ⟨rfl, hsz, hP, hK⟩ := hv
  have hx := B.exec
  have hb := B.bytes
  have hr := B.returns
  have hts := atoms_spec (ws := wsX6_leads) B.pre
  have hown : s.vm.findClass RX6 = some m.cls := findClass_of_methodNamed B.named
  have hlocks := B.notSynchronized
  subst hsz
  have hA : ∀ q : Nat, s.heap.size ≤ q → (fun q : Nat => s.heap.size ≤ q) q := fun _ h => h
  have hS : va_S (fun q : Nat => s.heap.size ≤ q) s.heap s.heap [] := va_S.rf
  have hP : va_P D vwCl [] s.heap := hP
  have hl := lv_entry ([.int p1, .int p2, .int p3]) (n := 7) (Nat.le_of_ble_eq_true rfl)
  rw [lg_entry_eq]
  generalize (lg_sl ([.int p1, .int p2, .int p3]) ++ List.replicate (7 - (lg_sl ([.int p1, .int p2, .int p3])).length) Slot.unset).toArray = ls at hl ⊢
  have hl : lv_has ls 7 [(0, .int p1), (1, .int p2), (2, .int p3)] := hl
  refine lv_iload_n hx hb dX6_leads_0 rfl (lv_at hl 2 rfl) ?_
  refine lv_iload_n hx hb dX6_leads_1 rfl (lv_at hl 0 rfl) ?_
  refine lv_icmp_eq (tgt := 10) hx hb dX6_leads_2 (by decide) (fun c_1 => ?_) (fun c_1 => ?_)
  · refine lv_iconst (v := 1) hx hb dX6_leads_10 (by decide) ?_
    -- leaf 0
    exact W.zret (v := 1) (ty := .boolean) hx hb hr rfl (fun t ht hW => ⟨⟨1, (), rfl, (by rw [ldR, if_pos c_1]), trivial⟩, hS.F ht⟩) hS.2.2 dX6_leads_11
  · refine lv_iload_n hx hb dX6_leads_5 rfl (lv_at hl 2 rfl) ?_
    refine lv_iload_n hx hb dX6_leads_6 rfl (lv_at hl 1 rfl) ?_
    refine lv_icmp_ne (tgt := 12) hx hb dX6_leads_7 (by decide) (fun c_2 => ?_) (fun c_2 => ?_)
    · refine lv_iload_n hx hb dX6_leads_12 rfl (lv_at hl 0 rfl) ?_
      refine lv_bipush (v := 12) hx hb dX6_leads_13 (by decide) ?_
      refine lv_irem hx hb dX6_leads_15 (by decide) ?_
      refine lv_iload_n hx hb dX6_leads_16 rfl (lv_at hl 1 rfl) ?_
      refine lv_bipush (v := 12) hx hb dX6_leads_17 (by decide) ?_
      refine lv_irem hx hb dX6_leads_19 (by decide) ?_
      refine lv_iload_n hx hb dX6_leads_20 rfl (lv_at hl 2 rfl) ?_
      refine lv_bipush (v := 12) hx hb dX6_leads_21 (by decide) ?_
      refine lv_irem hx hb dX6_leads_23 (by decide) ?_
      have hPc := hP.sub (ws' := []) [] rfl
      refine va_calli (va_runS (As := [.int (p1 - p1 / 12 * 12), .int (p2 - p2 / 12 * 12), .int (p3 - p3 / 12 * 12)]) (rest := []) ⟨hx, hb, hml, hown, hts⟩ (c_X6_isBetween l D cI cZ cJ cA s.heap.size (p1 - p1 / 12 * 12) (p2 - p2 / 12 * 12) (p3 - p3 / 12 * 12)) (va_cwS 3 hts gX6_leads_X6_isBetween rfl rfl rfl (by decide +kernel) ⟨Nat.le_of_ble_eq_true rfl, Nat.le_of_ble_eq_true rfl⟩) ⟨pcR_bl, fun U hU hW => ⟨rfl, by rw [hU], by rw [hU]; exact hPc, va_K.moved hW.alike hK⟩⟩ rfl rfl hl.1 rfl (lv_room (Nat.le_of_ble_eq_true rfl)) dX6_leads_24 ⟨Nat.le_of_ble_eq_true rfl, Nat.le_of_ble_eq_true rfl⟩) hS (fun _ h1 h2 => absurd h1 (Nat.not_lt.mpr h2)) (rd_free hS hA) (fun r_3 u t H locs ht hvm hw hB hz1 hk1 hS => ?_)
      try dsimp only at hw
      have hr_3 := hw
      have hP := rd_P hP hk1
      obtain rfl := hr_3.symm
      refine W.widen (k := 0) (n := 0) (Nat.le_refl _) (Nat.le_refl _) ?_
      refine lv_if_eq (tgt := 48) hx hb dX6_leads_27 (by decide) (fun c_4 => ?_) (fun c_4 => ?_)
      · refine lv_iconst (v := 0) hx hb dX6_leads_48 (by decide) ?_
        -- leaf 1
        refine W.widen (k := 0) (n := 0) (Nat.le_refl _) (Nat.le_refl _) ?_
        exact W.zret (v := 0) (ty := .boolean) hx hb hr rfl (fun t ht hW => ⟨⟨0, (), rfl, (by rw [ldR, if_neg c_1, if_neg c_2, if_pos c_4]), trivial⟩, hS.F ht⟩) hS.2.2 dX6_leads_49
      · refine lv_iload_n hx hb dX6_leads_30 rfl (lv_at hl 0 rfl) ?_
        refine lv_bipush (v := 12) hx hb dX6_leads_31 (by decide) ?_
        refine lv_idiv hx hb dX6_leads_33 (by decide) ?_
        refine lv_iload_n hx hb dX6_leads_34 rfl (lv_at hl 1 rfl) ?_
        refine lv_bipush (v := 12) hx hb dX6_leads_35 (by decide) ?_
        refine lv_idiv hx hb dX6_leads_37 (by decide) ?_
        refine lv_iload_n hx hb dX6_leads_38 rfl (lv_at hl 2 rfl) ?_
        refine lv_bipush (v := 12) hx hb dX6_leads_39 (by decide) ?_
        refine lv_idiv hx hb dX6_leads_41 (by decide) ?_
        have hPc := hP.sub (ws' := []) [] rfl
        refine va_calli (va_runS (As := [.int (p1 / 12), .int (p2 / 12), .int (p3 / 12)]) (rest := []) ⟨hx, hb, hml, hown, hts⟩ (c_X6_isBetween l D cI cZ cJ cA H.size (p1 / 12) (p2 / 12) (p3 / 12)) (va_cwS 3 hts gX6_leads_X6_isBetween rfl rfl rfl (by decide +kernel) ⟨Nat.le_of_ble_eq_true rfl, Nat.le_of_ble_eq_true rfl⟩) ⟨pcR_bl, fun U hU hW => ⟨rfl, by rw [hU], by rw [hU]; exact hPc, va_K.moved hW.alike hK⟩⟩ rfl rfl hl.1 rfl (lv_room (Nat.le_of_ble_eq_true rfl)) dX6_leads_42 ⟨Nat.le_of_ble_eq_true rfl, Nat.le_of_ble_eq_true rfl⟩) hS (fun _ h1 h2 => absurd h1 (Nat.not_lt.mpr h2)) (rd_free hS hA) (fun r_5 u t H locs ht hvm hw hB hz1 hk1 hS => ?_)
        try dsimp only at hw
        have hr_5 := hw
        have hP := rd_P hP hk1
        obtain rfl := hr_5.symm
        refine W.widen (k := 0) (n := 0) (Nat.le_refl _) (Nat.le_refl _) ?_
        refine lv_if_ne (tgt := 50) hx hb dX6_leads_45 (by decide) (fun c_6 => ?_) (fun c_6 => ?_)
        · refine lv_iconst (v := 0) hx hb dX6_leads_50 (by decide) ?_
          refine lv_istore_n (lv' := [(3, .int 0), (0, .int p1), (1, .int p2), (2, .int p3)]) hx hb dX6_leads_51 rfl hl (by decide) rfl (fun ls hl => ?_)
          refine lv_iconst (v := 0) hx hb dX6_leads_52 (by decide) ?_
          refine lv_istore (lv' := [(4, .int 0), (3, .int 0), (0, .int p1), (1, .int p2), (2, .int p3)]) hx hb dX6_leads_53 hl (by decide) rfl (fun ls hl => ?_)
          refine lv_iconst (v := 0) hx hb dX6_leads_55 (by decide) ?_
          refine lv_istore (lv' := [(5, .int 0), (4, .int 0), (3, .int 0), (0, .int p1), (1, .int p2), (2, .int p3)]) hx hb dX6_leads_56 hl (by decide) rfl (fun ls hl => ?_)
          refine lpW (σ := (Nat) × (Int32) × (Int32)) (I := fun x H locs ls => va_P D vwCl [] H ∧ va_S (fun q : Nat => s.heap.size ≤ q) s.heap H locs ∧ lv_has ls 7 [(0, .int p1), (1, .int p2), (2, .int p3), (3, .int x.2.1), (4, .int x.2.2), (5, .int (nI x.1))] ∧ (x.1 ≤ 4) ∧ (x.2.1 = (ldN p1 p2 p3 x.1).1) ∧ (x.2.2 = (ldN p1 p2 p3 x.1).2)) (μ := fun x => 4 - x.1) ?_ (0, 0, 0) ⟨hP, hS, lv_sub hl [3, 4, 5, 2, 1, 0] rfl, (Nat.zero_le _), (by simp only [ldN]), (by simp only [ldN])⟩
          intro x H locs ls hI ih
          obtain ⟨i, c3, c4⟩ := x
          obtain ⟨hP, hS, hl, hq_hi1, hq_hc3, hq_hc4⟩ := hI
          have ih_58 := ih
          have hl : lv_has ls 7 [(0, .int p1), (1, .int p2), (2, .int p3), (3, .int c3), (4, .int c4), (5, .int (nI i))] := hl
          have hP : va_P D vwCl [] H := hP
          have hi1 : i ≤ 4 := hq_hi1
          have hc3 : c3 = (ldN p1 p2 p3 i).1 := hq_hc3
          have hc4 : c4 = (ldN p1 p2 p3 i).2 := hq_hc4
          clear hq_hi1 hq_hc3 hq_hc4
          refine lv_iload hx hb dX6_leads_58 (lv_at hl 5 rfl) ?_
          refine lv_iconst (v := 4) hx hb dX6_leads_60 (by decide) ?_
          refine lv_icmp_ge (tgt := 135) hx hb dX6_leads_61 (by decide) (fun c_7 => ?_) (fun c_7 => ?_)
          · have he_61 : i = 4 := bd_eq (N := 4) (by decide) hi1 c_7
            rw [he_61] at hc3 hc4
            refine lv_iload_n hx hb dX6_leads_135 rfl (lv_at hl 3 rfl) ?_
            refine lv_if_eq (tgt := 148) hx hb dX6_leads_136 (by decide) (fun c_8 => ?_) (fun c_8 => ?_)
            · refine lv_iconst (v := 0) hx hb dX6_leads_148 (by decide) ?_
              -- leaf 2
              refine W.widen (k := 0) (n := 0) (Nat.le_refl _) (Nat.le_refl _) ?_
              exact W.zret (v := 0) (ty := .boolean) hx hb hr rfl (fun t ht hW => ⟨⟨0, (), rfl, (by rw [ldR, if_neg c_1, if_neg c_2, if_neg c_4, if_neg c_6, ← hc3, if_pos c_8]), trivial⟩, hS.F ht⟩) hS.2.2 dX6_leads_149
            · refine lv_iload hx hb dX6_leads_139 (lv_at hl 4 rfl) ?_
              refine lv_if_eq (tgt := 148) hx hb dX6_leads_141 (by decide) (fun c_9 => ?_) (fun c_9 => ?_)
              · refine lv_iconst (v := 0) hx hb dX6_leads_148 (by decide) ?_
                -- leaf 3
                refine W.widen (k := 0) (n := 0) (Nat.le_refl _) (Nat.le_refl _) ?_
                exact W.zret (v := 0) (ty := .boolean) hx hb hr rfl (fun t ht hW => ⟨⟨0, (), rfl, (by rw [ldR, if_neg c_1, if_neg c_2, if_neg c_4, if_neg c_6, ← hc3, if_neg c_8, ← hc4, if_pos c_9]), trivial⟩, hS.F ht⟩) hS.2.2 dX6_leads_149
              · refine lv_iconst (v := 1) hx hb dX6_leads_144 (by decide) ?_
                refine lv_goto (tgt := 149) hx hb dX6_leads_145 (by decide) ?_
                -- leaf 4
                refine W.widen (k := 0) (n := 0) (Nat.le_refl _) (Nat.le_refl _) ?_
                exact W.zret (v := 1) (ty := .boolean) hx hb hr rfl (fun t ht hW => ⟨⟨1, (), rfl, (by rw [ldR, if_neg c_1, if_neg c_2, if_neg c_4, if_neg c_6, ← hc3, if_neg c_8, ← hc4, if_neg c_9]), trivial⟩, hS.F ht⟩) hS.2.2 dX6_leads_149
          · have hlt_61 : i < 4 := bd_lt (N := 4) (by decide) hi1 c_7
            refine lv_iload_n hx hb dX6_leads_64 rfl (lv_at hl 0 rfl) ?_
            refine lv_iload_n hx hb dX6_leads_65 rfl (lv_at hl 1 rfl) ?_
            refine lv_iconst (v := 2) hx hb dX6_leads_66 (by decide) ?_
            refine lv_iload_n hx hb dX6_leads_67 rfl (lv_at hl 2 rfl) ?_
            refine lv_bipush (v := 12) hx hb dX6_leads_68 (by decide) ?_
            refine lv_irem hx hb dX6_leads_70 (by decide) ?_
            refine lv_imul hx hb dX6_leads_71 ?_
            refine lv_iconst (v := 2) hx hb dX6_leads_72 (by decide) ?_
            refine lv_iload hx hb dX6_leads_73 (lv_at hl 5 rfl) ?_
            refine lv_iconst (v := 2) hx hb dX6_leads_75 (by decide) ?_
            refine lv_irem hx hb dX6_leads_76 (by decide) ?_
            refine lv_imul hx hb dX6_leads_77 ?_
            refine lv_iadd hx hb dX6_leads_78 ?_
            refine lv_iconst (v := 2) hx hb dX6_leads_79 (by decide) ?_
            refine lv_iload_n hx hb dX6_leads_80 rfl (lv_at hl 2 rfl) ?_
            refine lv_bipush (v := 12) hx hb dX6_leads_81 (by decide) ?_
            refine lv_idiv hx hb dX6_leads_83 (by decide) ?_
            refine lv_imul hx hb dX6_leads_84 ?_
            refine lv_iconst (v := 2) hx hb dX6_leads_85 (by decide) ?_
            refine lv_iload hx hb dX6_leads_86 (lv_at hl 5 rfl) ?_
            refine lv_iconst (v := 2) hx hb dX6_leads_88 (by decide) ?_
            refine lv_idiv hx hb dX6_leads_89 (by decide) ?_
            refine lv_imul hx hb dX6_leads_90 ?_
            refine lv_iadd hx hb dX6_leads_91 ?_
            have hPc := hP.sub (ws' := []) [] rfl
            refine va_calli (va_runS (As := [.int p1, .int p2, .int ((2 * (p3 - p3 / 12 * 12)) + (2 * ((nI i) - (nI i) / 2 * 2))), .int ((2 * (p3 / 12)) + (2 * ((nI i) / 2)))]) (rest := []) ⟨hx, hb, hml, hown, hts⟩ (c_X6_side l D cI cZ cJ cA H.size p1 p2 ((2 * (p3 - p3 / 12 * 12)) + (2 * ((nI i) - (nI i) / 2 * 2))) ((2 * (p3 / 12)) + (2 * ((nI i) / 2)))) (va_cwS 4 hts gX6_leads_X6_side rfl rfl rfl (by decide +kernel) ⟨Nat.le_of_ble_eq_true rfl, Nat.le_of_ble_eq_true rfl⟩) ⟨pcR_bl, fun U hU hW => ⟨rfl, by rw [hU], by rw [hU]; exact hPc, va_K.moved hW.alike hK⟩⟩ rfl rfl hl.1 rfl (lv_room (Nat.le_of_ble_eq_true rfl)) dX6_leads_92 ⟨Nat.le_of_ble_eq_true rfl, Nat.le_of_ble_eq_true rfl⟩) hS (fun _ h1 h2 => absurd h1 (Nat.not_lt.mpr h2)) (rd_free hS hA) (fun r_10 u t H locs ht hvm hw hB hz1 hk1 hS => ?_)
            try dsimp only at hw
            have hr_10 := hw
            have hP := rd_P hP hk1
            obtain rfl := hr_10.symm
            refine W.widen (k := 0) (n := 0) (Nat.le_refl _) (Nat.le_refl _) ?_
            refine lv_istore (lv' := [(6, .int (f_X6_side p1 p2 ((2 * (p3 - p3 / 12 * 12)) + (2 * ((nI i) - (nI i) / 2 * 2))) ((2 * (p3 / 12)) + (2 * ((nI i) / 2))))), (0, .int p1), (1, .int p2), (2, .int p3), (3, .int c3), (4, .int c4), (5, .int (nI i))]) hx hb dX6_leads_95 hl (by decide) rfl (fun ls hl => ?_)
            refine lv_iload_n hx hb dX6_leads_97 rfl (lv_at hl 4 rfl) ?_
            refine lv_if_ne (tgt := 106) hx hb dX6_leads_98 (by decide) (fun c_11 => ?_) (fun c_11 => ?_)
            · refine lv_iconst (v := 1) hx hb dX6_leads_106 (by decide) ?_
              refine lv_goto (tgt := 111) hx hb dX6_leads_107 (by decide) ?_
              refine lv_istore_n (lv' := [(3, .int 1), (6, .int (f_X6_side p1 p2 ((2 * (p3 - p3 / 12 * 12)) + (2 * ((nI i) - (nI i) / 2 * 2))) ((2 * (p3 / 12)) + (2 * ((nI i) / 2))))), (0, .int p1), (1, .int p2), (2, .int p3), (4, .int c4), (5, .int (nI i))]) hx hb dX6_leads_111 rfl hl (by decide) rfl (fun ls hl => ?_)
              refine lv_iload hx hb dX6_leads_112 (lv_at hl 5 rfl) ?_
              refine lv_if_ne (tgt := 122) hx hb dX6_leads_114 (by decide) (fun c_12 => ?_) (fun c_12 => ?_)
              · refine lv_iconst (v := 1) hx hb dX6_leads_122 (by decide) ?_
                refine lv_goto (tgt := 127) hx hb dX6_leads_123 (by decide) ?_
                refine lv_istore (lv' := [(4, .int 1), (3, .int 1), (6, .int (f_X6_side p1 p2 ((2 * (p3 - p3 / 12 * 12)) + (2 * ((nI i) - (nI i) / 2 * 2))) ((2 * (p3 / 12)) + (2 * ((nI i) / 2))))), (0, .int p1), (1, .int p2), (2, .int p3), (5, .int (nI i))]) hx hb dX6_leads_127 hl (by decide) rfl (fun ls hl => ?_)
                refine lv_iinc (v := nI (i + 1)) (lv' := [(5, .int (nI (i + 1))), (4, .int 1), (3, .int 1), (6, .int (f_X6_side p1 p2 ((2 * (p3 - p3 / 12 * 12)) + (2 * ((nI i) - (nI i) / 2 * 2))) ((2 * (p3 / 12)) + (2 * ((nI i) / 2))))), (0, .int p1), (1, .int p2), (2, .int p3)]) hx hb dX6_leads_129 hl (k := 6) rfl (nI_1 i) (by decide) rfl (fun ls hl => ?_)
                refine lv_goto (tgt := 58) hx hb dX6_leads_132 (by decide) ?_
                refine W.widen (k := 0) (n := 0) (Nat.le_refl _) (Nat.le_refl _) ?_
                exact ih_58 ((i + 1), 1, 1) _ _ _ (by first | omega | (dsimp only; omega)) ⟨hP, hS, lv_sub hl [4, 5, 6, 2, 1, 0] rfl, (by omega), (by rw [ldN]; dsimp only; rw [← hc3, if_neg c_11]), (by rw [ldN]; dsimp only; rw [← hc4, if_neg c_12])⟩
              · refine lv_iload hx hb dX6_leads_117 (lv_at hl 1 rfl) ?_
                refine lv_if_ge (tgt := 126) hx hb dX6_leads_119 (by decide) (fun c_13 => ?_) (fun c_13 => ?_)
                · refine lv_iconst (v := 0) hx hb dX6_leads_126 (by decide) ?_
                  refine lv_istore (lv' := [(4, .int 0), (3, .int 1), (6, .int (f_X6_side p1 p2 ((2 * (p3 - p3 / 12 * 12)) + (2 * ((nI i) - (nI i) / 2 * 2))) ((2 * (p3 / 12)) + (2 * ((nI i) / 2))))), (0, .int p1), (1, .int p2), (2, .int p3), (5, .int (nI i))]) hx hb dX6_leads_127 hl (by decide) rfl (fun ls hl => ?_)
                  refine lv_iinc (v := nI (i + 1)) (lv' := [(5, .int (nI (i + 1))), (4, .int 0), (3, .int 1), (6, .int (f_X6_side p1 p2 ((2 * (p3 - p3 / 12 * 12)) + (2 * ((nI i) - (nI i) / 2 * 2))) ((2 * (p3 / 12)) + (2 * ((nI i) / 2))))), (0, .int p1), (1, .int p2), (2, .int p3)]) hx hb dX6_leads_129 hl (k := 6) rfl (nI_1 i) (by decide) rfl (fun ls hl => ?_)
                  refine lv_goto (tgt := 58) hx hb dX6_leads_132 (by decide) ?_
                  refine W.widen (k := 0) (n := 0) (Nat.le_refl _) (Nat.le_refl _) ?_
                  exact ih_58 ((i + 1), 1, 0) _ _ _ (by first | omega | (dsimp only; omega)) ⟨hP, hS, lv_sub hl [4, 5, 6, 2, 1, 0] rfl, (by omega), (by rw [ldN]; dsimp only; rw [← hc3, if_neg c_11]), (by rw [ldN]; dsimp only; rw [← hc4, if_pos c_12, if_pos c_13])⟩
                · refine lv_iconst (v := 1) hx hb dX6_leads_122 (by decide) ?_
                  refine lv_goto (tgt := 127) hx hb dX6_leads_123 (by decide) ?_
                  refine lv_istore (lv' := [(4, .int 1), (3, .int 1), (6, .int (f_X6_side p1 p2 ((2 * (p3 - p3 / 12 * 12)) + (2 * ((nI i) - (nI i) / 2 * 2))) ((2 * (p3 / 12)) + (2 * ((nI i) / 2))))), (0, .int p1), (1, .int p2), (2, .int p3), (5, .int (nI i))]) hx hb dX6_leads_127 hl (by decide) rfl (fun ls hl => ?_)
                  refine lv_iinc (v := nI (i + 1)) (lv' := [(5, .int (nI (i + 1))), (4, .int 1), (3, .int 1), (6, .int (f_X6_side p1 p2 ((2 * (p3 - p3 / 12 * 12)) + (2 * ((nI i) - (nI i) / 2 * 2))) ((2 * (p3 / 12)) + (2 * ((nI i) / 2))))), (0, .int p1), (1, .int p2), (2, .int p3)]) hx hb dX6_leads_129 hl (k := 6) rfl (nI_1 i) (by decide) rfl (fun ls hl => ?_)
                  refine lv_goto (tgt := 58) hx hb dX6_leads_132 (by decide) ?_
                  refine W.widen (k := 0) (n := 0) (Nat.le_refl _) (Nat.le_refl _) ?_
                  exact ih_58 ((i + 1), 1, 1) _ _ _ (by first | omega | (dsimp only; omega)) ⟨hP, hS, lv_sub hl [4, 5, 6, 2, 1, 0] rfl, (by omega), (by rw [ldN]; dsimp only; rw [← hc3, if_neg c_11]), (by rw [ldN]; dsimp only; rw [← hc4, if_pos c_12, if_neg c_13])⟩
            · refine lv_iload hx hb dX6_leads_101 (lv_at hl 0 rfl) ?_
              refine lv_if_le (tgt := 110) hx hb dX6_leads_103 (by decide) (fun c_14 => ?_) (fun c_14 => ?_)
              · refine lv_iconst (v := 0) hx hb dX6_leads_110 (by decide) ?_
                refine lv_istore_n (lv' := [(3, .int 0), (6, .int (f_X6_side p1 p2 ((2 * (p3 - p3 / 12 * 12)) + (2 * ((nI i) - (nI i) / 2 * 2))) ((2 * (p3 / 12)) + (2 * ((nI i) / 2))))), (0, .int p1), (1, .int p2), (2, .int p3), (4, .int c4), (5, .int (nI i))]) hx hb dX6_leads_111 rfl hl (by decide) rfl (fun ls hl => ?_)
                refine lv_iload hx hb dX6_leads_112 (lv_at hl 5 rfl) ?_
                refine lv_if_ne (tgt := 122) hx hb dX6_leads_114 (by decide) (fun c_15 => ?_) (fun c_15 => ?_)
                · refine lv_iconst (v := 1) hx hb dX6_leads_122 (by decide) ?_
                  refine lv_goto (tgt := 127) hx hb dX6_leads_123 (by decide) ?_
                  refine lv_istore (lv' := [(4, .int 1), (3, .int 0), (6, .int (f_X6_side p1 p2 ((2 * (p3 - p3 / 12 * 12)) + (2 * ((nI i) - (nI i) / 2 * 2))) ((2 * (p3 / 12)) + (2 * ((nI i) / 2))))), (0, .int p1), (1, .int p2), (2, .int p3), (5, .int (nI i))]) hx hb dX6_leads_127 hl (by decide) rfl (fun ls hl => ?_)
                  refine lv_iinc (v := nI (i + 1)) (lv' := [(5, .int (nI (i + 1))), (4, .int 1), (3, .int 0), (6, .int (f_X6_side p1 p2 ((2 * (p3 - p3 / 12 * 12)) + (2 * ((nI i) - (nI i) / 2 * 2))) ((2 * (p3 / 12)) + (2 * ((nI i) / 2))))), (0, .int p1), (1, .int p2), (2, .int p3)]) hx hb dX6_leads_129 hl (k := 6) rfl (nI_1 i) (by decide) rfl (fun ls hl => ?_)
                  refine lv_goto (tgt := 58) hx hb dX6_leads_132 (by decide) ?_
                  refine W.widen (k := 0) (n := 0) (Nat.le_refl _) (Nat.le_refl _) ?_
                  exact ih_58 ((i + 1), 0, 1) _ _ _ (by first | omega | (dsimp only; omega)) ⟨hP, hS, lv_sub hl [4, 5, 6, 2, 1, 0] rfl, (by omega), (by rw [ldN]; dsimp only; rw [← hc3, if_pos c_11, if_pos c_14]), (by rw [ldN]; dsimp only; rw [← hc4, if_neg c_15])⟩
                · refine lv_iload hx hb dX6_leads_117 (lv_at hl 1 rfl) ?_
                  refine lv_if_ge (tgt := 126) hx hb dX6_leads_119 (by decide) (fun c_16 => ?_) (fun c_16 => ?_)
                  · refine lv_iconst (v := 0) hx hb dX6_leads_126 (by decide) ?_
                    refine lv_istore (lv' := [(4, .int 0), (3, .int 0), (6, .int (f_X6_side p1 p2 ((2 * (p3 - p3 / 12 * 12)) + (2 * ((nI i) - (nI i) / 2 * 2))) ((2 * (p3 / 12)) + (2 * ((nI i) / 2))))), (0, .int p1), (1, .int p2), (2, .int p3), (5, .int (nI i))]) hx hb dX6_leads_127 hl (by decide) rfl (fun ls hl => ?_)
                    refine lv_iinc (v := nI (i + 1)) (lv' := [(5, .int (nI (i + 1))), (4, .int 0), (3, .int 0), (6, .int (f_X6_side p1 p2 ((2 * (p3 - p3 / 12 * 12)) + (2 * ((nI i) - (nI i) / 2 * 2))) ((2 * (p3 / 12)) + (2 * ((nI i) / 2))))), (0, .int p1), (1, .int p2), (2, .int p3)]) hx hb dX6_leads_129 hl (k := 6) rfl (nI_1 i) (by decide) rfl (fun ls hl => ?_)
                    refine lv_goto (tgt := 58) hx hb dX6_leads_132 (by decide) ?_
                    refine W.widen (k := 0) (n := 0) (Nat.le_refl _) (Nat.le_refl _) ?_
                    exact ih_58 ((i + 1), 0, 0) _ _ _ (by first | omega | (dsimp only; omega)) ⟨hP, hS, lv_sub hl [4, 5, 6, 2, 1, 0] rfl, (by omega), (by rw [ldN]; dsimp only; rw [← hc3, if_pos c_11, if_pos c_14]), (by rw [ldN]; dsimp only; rw [← hc4, if_pos c_15, if_pos c_16])⟩
                  · refine lv_iconst (v := 1) hx hb dX6_leads_122 (by decide) ?_
                    refine lv_goto (tgt := 127) hx hb dX6_leads_123 (by decide) ?_
                    refine lv_istore (lv' := [(4, .int 1), (3, .int 0), (6, .int (f_X6_side p1 p2 ((2 * (p3 - p3 / 12 * 12)) + (2 * ((nI i) - (nI i) / 2 * 2))) ((2 * (p3 / 12)) + (2 * ((nI i) / 2))))), (0, .int p1), (1, .int p2), (2, .int p3), (5, .int (nI i))]) hx hb dX6_leads_127 hl (by decide) rfl (fun ls hl => ?_)
                    refine lv_iinc (v := nI (i + 1)) (lv' := [(5, .int (nI (i + 1))), (4, .int 1), (3, .int 0), (6, .int (f_X6_side p1 p2 ((2 * (p3 - p3 / 12 * 12)) + (2 * ((nI i) - (nI i) / 2 * 2))) ((2 * (p3 / 12)) + (2 * ((nI i) / 2))))), (0, .int p1), (1, .int p2), (2, .int p3)]) hx hb dX6_leads_129 hl (k := 6) rfl (nI_1 i) (by decide) rfl (fun ls hl => ?_)
                    refine lv_goto (tgt := 58) hx hb dX6_leads_132 (by decide) ?_
                    refine W.widen (k := 0) (n := 0) (Nat.le_refl _) (Nat.le_refl _) ?_
                    exact ih_58 ((i + 1), 0, 1) _ _ _ (by first | omega | (dsimp only; omega)) ⟨hP, hS, lv_sub hl [4, 5, 6, 2, 1, 0] rfl, (by omega), (by rw [ldN]; dsimp only; rw [← hc3, if_pos c_11, if_pos c_14]), (by rw [ldN]; dsimp only; rw [← hc4, if_pos c_15, if_neg c_16])⟩
              · refine lv_iconst (v := 1) hx hb dX6_leads_106 (by decide) ?_
                refine lv_goto (tgt := 111) hx hb dX6_leads_107 (by decide) ?_
                refine lv_istore_n (lv' := [(3, .int 1), (6, .int (f_X6_side p1 p2 ((2 * (p3 - p3 / 12 * 12)) + (2 * ((nI i) - (nI i) / 2 * 2))) ((2 * (p3 / 12)) + (2 * ((nI i) / 2))))), (0, .int p1), (1, .int p2), (2, .int p3), (4, .int c4), (5, .int (nI i))]) hx hb dX6_leads_111 rfl hl (by decide) rfl (fun ls hl => ?_)
                refine lv_iload hx hb dX6_leads_112 (lv_at hl 5 rfl) ?_
                refine lv_if_ne (tgt := 122) hx hb dX6_leads_114 (by decide) (fun c_17 => ?_) (fun c_17 => ?_)
                · refine lv_iconst (v := 1) hx hb dX6_leads_122 (by decide) ?_
                  refine lv_goto (tgt := 127) hx hb dX6_leads_123 (by decide) ?_
                  refine lv_istore (lv' := [(4, .int 1), (3, .int 1), (6, .int (f_X6_side p1 p2 ((2 * (p3 - p3 / 12 * 12)) + (2 * ((nI i) - (nI i) / 2 * 2))) ((2 * (p3 / 12)) + (2 * ((nI i) / 2))))), (0, .int p1), (1, .int p2), (2, .int p3), (5, .int (nI i))]) hx hb dX6_leads_127 hl (by decide) rfl (fun ls hl => ?_)
                  refine lv_iinc (v := nI (i + 1)) (lv' := [(5, .int (nI (i + 1))), (4, .int 1), (3, .int 1), (6, .int (f_X6_side p1 p2 ((2 * (p3 - p3 / 12 * 12)) + (2 * ((nI i) - (nI i) / 2 * 2))) ((2 * (p3 / 12)) + (2 * ((nI i) / 2))))), (0, .int p1), (1, .int p2), (2, .int p3)]) hx hb dX6_leads_129 hl (k := 6) rfl (nI_1 i) (by decide) rfl (fun ls hl => ?_)
                  refine lv_goto (tgt := 58) hx hb dX6_leads_132 (by decide) ?_
                  refine W.widen (k := 0) (n := 0) (Nat.le_refl _) (Nat.le_refl _) ?_
                  exact ih_58 ((i + 1), 1, 1) _ _ _ (by first | omega | (dsimp only; omega)) ⟨hP, hS, lv_sub hl [4, 5, 6, 2, 1, 0] rfl, (by omega), (by rw [ldN]; dsimp only; rw [← hc3, if_pos c_11, if_neg c_14]), (by rw [ldN]; dsimp only; rw [← hc4, if_neg c_17])⟩
                · refine lv_iload hx hb dX6_leads_117 (lv_at hl 1 rfl) ?_
                  refine lv_if_ge (tgt := 126) hx hb dX6_leads_119 (by decide) (fun c_18 => ?_) (fun c_18 => ?_)
                  · refine lv_iconst (v := 0) hx hb dX6_leads_126 (by decide) ?_
                    refine lv_istore (lv' := [(4, .int 0), (3, .int 1), (6, .int (f_X6_side p1 p2 ((2 * (p3 - p3 / 12 * 12)) + (2 * ((nI i) - (nI i) / 2 * 2))) ((2 * (p3 / 12)) + (2 * ((nI i) / 2))))), (0, .int p1), (1, .int p2), (2, .int p3), (5, .int (nI i))]) hx hb dX6_leads_127 hl (by decide) rfl (fun ls hl => ?_)
                    refine lv_iinc (v := nI (i + 1)) (lv' := [(5, .int (nI (i + 1))), (4, .int 0), (3, .int 1), (6, .int (f_X6_side p1 p2 ((2 * (p3 - p3 / 12 * 12)) + (2 * ((nI i) - (nI i) / 2 * 2))) ((2 * (p3 / 12)) + (2 * ((nI i) / 2))))), (0, .int p1), (1, .int p2), (2, .int p3)]) hx hb dX6_leads_129 hl (k := 6) rfl (nI_1 i) (by decide) rfl (fun ls hl => ?_)
                    refine lv_goto (tgt := 58) hx hb dX6_leads_132 (by decide) ?_
                    refine W.widen (k := 0) (n := 0) (Nat.le_refl _) (Nat.le_refl _) ?_
                    exact ih_58 ((i + 1), 1, 0) _ _ _ (by first | omega | (dsimp only; omega)) ⟨hP, hS, lv_sub hl [4, 5, 6, 2, 1, 0] rfl, (by omega), (by rw [ldN]; dsimp only; rw [← hc3, if_pos c_11, if_neg c_14]), (by rw [ldN]; dsimp only; rw [← hc4, if_pos c_17, if_pos c_18])⟩
                  · refine lv_iconst (v := 1) hx hb dX6_leads_122 (by decide) ?_
                    refine lv_goto (tgt := 127) hx hb dX6_leads_123 (by decide) ?_
                    refine lv_istore (lv' := [(4, .int 1), (3, .int 1), (6, .int (f_X6_side p1 p2 ((2 * (p3 - p3 / 12 * 12)) + (2 * ((nI i) - (nI i) / 2 * 2))) ((2 * (p3 / 12)) + (2 * ((nI i) / 2))))), (0, .int p1), (1, .int p2), (2, .int p3), (5, .int (nI i))]) hx hb dX6_leads_127 hl (by decide) rfl (fun ls hl => ?_)
                    refine lv_iinc (v := nI (i + 1)) (lv' := [(5, .int (nI (i + 1))), (4, .int 1), (3, .int 1), (6, .int (f_X6_side p1 p2 ((2 * (p3 - p3 / 12 * 12)) + (2 * ((nI i) - (nI i) / 2 * 2))) ((2 * (p3 / 12)) + (2 * ((nI i) / 2))))), (0, .int p1), (1, .int p2), (2, .int p3)]) hx hb dX6_leads_129 hl (k := 6) rfl (nI_1 i) (by decide) rfl (fun ls hl => ?_)
                    refine lv_goto (tgt := 58) hx hb dX6_leads_132 (by decide) ?_
                    refine W.widen (k := 0) (n := 0) (Nat.le_refl _) (Nat.le_refl _) ?_
                    exact ih_58 ((i + 1), 1, 1) _ _ _ (by first | omega | (dsimp only; omega)) ⟨hP, hS, lv_sub hl [4, 5, 6, 2, 1, 0] rfl, (by omega), (by rw [ldN]; dsimp only; rw [← hc3, if_pos c_11, if_neg c_14]), (by rw [ldN]; dsimp only; rw [← hc4, if_pos c_17, if_neg c_18])⟩
        · refine lv_iconst (v := 0) hx hb dX6_leads_48 (by decide) ?_
          -- leaf 5
          refine W.widen (k := 0) (n := 0) (Nat.le_refl _) (Nat.le_refl _) ?_
          exact W.zret (v := 0) (ty := .boolean) hx hb hr rfl (fun t ht hW => ⟨⟨0, (), rfl, (by rw [ldR, if_neg c_1, if_neg c_2, if_neg c_4, if_pos c_6]), trivial⟩, hS.F ht⟩) hS.2.2 dX6_leads_49
    · refine lv_iconst (v := 1) hx hb dX6_leads_10 (by decide) ?_
      -- leaf 6
      exact W.zret (v := 1) (ty := .boolean) hx hb hr rfl (fun t ht hW => ⟨⟨1, (), rfl, (by rw [ldR, if_neg c_1, if_pos c_2]), trivial⟩, hS.F ht⟩) hS.2.2 dX6_leads_11

noncomputable def seeN (bk : Nat → Int32) (p1 p2 : Int32) : Nat → Int32
  | 0 => 1
  | n + 1 => if seeN bk p1 p2 n = 0 then 0 else if bk n = 0 then 1 else if ldR p1 p2 (nI n) = 0 then 1 else 0
termination_by n => n
theorem seeN_01 (bk : Nat → Int32) (p1 p2 : Int32) (n : Nat) : seeN bk p1 p2 n = 0 ∨ seeN bk p1 p2 n = 1 := by
  cases n with
  | zero => rw [seeN]; exact Or.inr rfl
  | succ n =>
    rw [seeN]
    (repeat' split) <;> first | exact Or.inl rfl | exact Or.inr rfl
set_option maxHeartbeats 4000000 in
set_option maxRecDepth 100000 in
theorem c_X6_see (l : Launch) (D : va_G) (cI cZ cJ cA : ClassId) (sz : Nat) (q : Nat → Nat) (bk : Nat → Int32) (on : Int32) (hm : Int32) (aw : Int32) (tk : Int32) (sn : Nat) (kn : Nat) (th : Int32) (p1 : Int32) (p2 : Int32) : Met l yX6_see wsX6_see ({ frames := 3, cells := 0, slots := 0, locals := 70 } : Room) (va_Pc [.ref (q 0), .int p1, .int p2] (pcR D (tyL cI cZ cJ cA) [((q 0), .inr (6, [.ref (q 1), .ref (q 2), .int on, .int hm, .int aw, .int tk, .ref (q 3), .ref (q 4), .ref (q 5), .int (nI sn), .ref (q 6), .ref (q 7), .ref (q 8), .ref (q 9), .int (nI kn), .ref (q 10), .ref (q 11), .ref (q 12), .ref (q 13), .ref (q 14), .ref (q 15), .ref (q 16), .ref (q 17), .int th])), ((q 1), .inl (cZ, 144, .inl bk))] sz)) (va_Qi (fun (r : Int32) (u : Unit) => r = seeN bk p1 p2 144) (fun _ _ => True) (fun q : Nat => sz ≤ q)) 0 0 (fun q : Nat => sz ≤ q) := by
  refine Met.ofW (cc := cX6_see) (maxL := 5) (ret := (some .boolean)) (by decide) rfl ?_
  intro p e s m args below meth c s₁ B hml hv
  obtain ⟨rfl, hsz, hP, hK⟩ := hv
  have hx := B.exec
  have hb := B.bytes
  have hr := B.returns
  have hts := atoms_spec (ws := wsX6_see) B.pre
  have hown : s.vm.findClass RX6 = some m.cls := findClass_of_methodNamed B.named
  have hlocks := B.notSynchronized
  subst hsz
  have hA : ∀ q : Nat, s.heap.size ≤ q → (fun q : Nat => s.heap.size ≤ q) q := fun _ h => h
  have hS : va_S (fun q : Nat => s.heap.size ≤ q) s.heap s.heap [] := va_S.rf
  have hP : va_P D vwCl [((q 0), .inr (6, [.ref (q 1), .ref (q 2), .int on, .int hm, .int aw, .int tk, .ref (q 3), .ref (q 4), .ref (q 5), .int (nI sn), .ref (q 6), .ref (q 7), .ref (q 8), .ref (q 9), .int (nI kn), .ref (q 10), .ref (q 11), .ref (q 12), .ref (q 13), .ref (q 14), .ref (q 15), .ref (q 16), .ref (q 17), .int th])), ((q 1), .inl (cZ, 144, .inl bk))] s.heap := hP
  have hl := lv_entry ([.ref (q 0), .int p1, .int p2]) (n := 5) (Nat.le_of_ble_eq_true rfl)
  rw [lg_entry_eq]
  generalize (lg_sl ([.ref (q 0), .int p1, .int p2]) ++ List.replicate (5 - (lg_sl ([.ref (q 0), .int p1, .int p2])).length) Slot.unset).toArray = ls at hl ⊢
  have hl : lv_has ls 5 [(0, .ref (q 0)), (1, .int p1), (2, .int p2)] := hl
  have hf_7 := hts (.fieldLink RX6 7 "PaintballAtlasModel" "isBunker" "[Z") (by decide +kernel)
  have hi_X6 : ∀ w ∈ wsX60, w ∈ wsX6_see := by decide +kernel
  refine lv_iconst (v := 1) hx hb dX6_see_0 (by decide) ?_
  refine lv_istore_n (lv' := [(3, .int 1), (0, .ref (q 0)), (1, .int p1), (2, .int p2)]) hx hb dX6_see_1 rfl hl (by decide) rfl (fun ls hl => ?_)
  refine lv_iconst (v := 0) hx hb dX6_see_2 (by decide) ?_
  refine lv_istore (lv' := [(4, .int 0), (3, .int 1), (0, .ref (q 0)), (1, .int p1), (2, .int p2)]) hx hb dX6_see_3 hl (by decide) rfl (fun ls hl => ?_)
  refine lpW (σ := (Nat) × (Int32)) (I := fun x H locs ls => va_P D vwCl [((q 0), .inr (6, [.ref (q 1), .ref (q 2), .int on, .int hm, .int aw, .int tk, .ref (q 3), .ref (q 4), .ref (q 5), .int (nI sn), .ref (q 6), .ref (q 7), .ref (q 8), .ref (q 9), .int (nI kn), .ref (q 10), .ref (q 11), .ref (q 12), .ref (q 13), .ref (q 14), .ref (q 15), .ref (q 16), .ref (q 17), .int th])), ((q 1), .inl (cZ, 144, .inl bk))] H ∧ va_S (fun q : Nat => s.heap.size ≤ q) s.heap H locs ∧ lv_has ls 5 [(0, .ref (q 0)), (1, .int p1), (2, .int p2), (3, .int x.2), (4, .int (nI x.1))] ∧ (x.1 ≤ 144) ∧ (x.2 = seeN bk p1 p2 x.1)) (μ := fun x => 144 - x.1) ?_ (0, 1) ⟨hP, hS, lv_sub hl [2, 3, 4, 1, 0] rfl, (Nat.zero_le _), (by simp only [seeN])⟩
  intro x H locs ls hI ih
  obtain ⟨i, c3⟩ := x
  obtain ⟨hP, hS, hl, hq_hi1, hq_hc⟩ := hI
  have ih_5 := ih
  have hl : lv_has ls 5 [(0, .ref (q 0)), (1, .int p1), (2, .int p2), (3, .int c3), (4, .int (nI i))] := hl
  have hP : va_P D vwCl [((q 0), .inr (6, [.ref (q 1), .ref (q 2), .int on, .int hm, .int aw, .int tk, .ref (q 3), .ref (q 4), .ref (q 5), .int (nI sn), .ref (q 6), .ref (q 7), .ref (q 8), .ref (q 9), .int (nI kn), .ref (q 10), .ref (q 11), .ref (q 12), .ref (q 13), .ref (q 14), .ref (q 15), .ref (q 16), .ref (q 17), .int th])), ((q 1), .inl (cZ, 144, .inl bk))] H := hP
  have hi1 : i ≤ 144 := hq_hi1
  have hc : c3 = seeN bk p1 p2 i := hq_hc
  clear hq_hi1 hq_hc
  refine lv_iload hx hb dX6_see_5 (lv_at hl 4 rfl) ?_
  refine lv_sipush (v := 144) hx hb dX6_see_7 (by decide) ?_
  refine lv_icmp_ge (tgt := 49) hx hb dX6_see_10 (by decide) (fun c_1 => ?_) (fun c_1 => ?_)
  · have he_10 : i = 144 := bd_eq (N := 144) (by decide) hi1 c_1
    refine lv_iload_n hx hb dX6_see_49 rfl (lv_at hl 3 rfl) ?_
    -- leaf 0
    refine W.widen (k := 0) (n := 0) (Nat.le_refl _) (Nat.le_refl _) ?_
    exact W.zret (v := c3) (ty := .boolean) hx hb hr (nz01 (hc ▸ seeN_01 bk p1 p2 i)) (fun t ht hW => ⟨⟨c3, (), rfl, (by rw [hc, he_10]), trivial⟩, hS.F ht⟩) hS.2.2 dX6_see_50
  · have hlt_10 : i < 144 := bd_lt (N := 144) (by decide) hi1 c_1
    refine lv_iload_n hx hb dX6_see_13 rfl (lv_at hl 3 rfl) ?_
    refine lv_if_eq (tgt := 41) hx hb dX6_see_14 (by decide) (fun c_2 => ?_) (fun c_2 => ?_)
    · refine lv_iconst (v := 0) hx hb dX6_see_41 (by decide) ?_
      refine lv_istore_n (lv' := [(3, .int 0), (0, .ref (q 0)), (1, .int p1), (2, .int p2), (4, .int (nI i))]) hx hb dX6_see_42 rfl hl (by decide) rfl (fun ls hl => ?_)
      refine lv_iinc (v := nI (i + 1)) (lv' := [(4, .int (nI (i + 1))), (3, .int 0), (0, .ref (q 0)), (1, .int p1), (2, .int p2)]) hx hb dX6_see_43 hl (k := 4) rfl (nI_1 i) (by decide) rfl (fun ls hl => ?_)
      refine lv_goto (tgt := 5) hx hb dX6_see_46 (by decide) ?_
      refine W.widen (k := 0) (n := 0) (Nat.le_refl _) (Nat.le_refl _) ?_
      exact ih_5 ((i + 1), 0) _ _ _ (by first | omega | (dsimp only; omega)) ⟨hP, hS, lv_sub hl [2, 3, 4, 1, 0] rfl, (by omega), (by rw [seeN, ← hc, if_pos c_2])⟩
    · refine lv_aload_n hx hb dX6_see_17 rfl (lv_at hl 0 rfl) ?_
      refine va_get (D := D) (ci := 6) (v := .ref (q 1)) (C := RX6) (T := TX6) (N := 24) hx hb hts hi_X6 hown hK hP 0 rfl rfl 0 (by decide) hf_7 (fun _ h9 => h9) rfl dX6_see_18 ?_
      refine lv_iload hx hb dX6_see_21 (lv_at hl 4 rfl) ?_
      refine va_zald hx hb hK hP 1 1 rfl rfl (vp_in_nI (n := i) (by omega) (by decide)) dX6_see_23 ?_
      refine tp_eq (y := bk i) (by rw [nI_clamp (n := i) (by omega)]) ?_
      refine lv_if_eq (tgt := 37) hx hb dX6_see_24 (by decide) (fun c_3 => ?_) (fun c_3 => ?_)
      · refine lv_iconst (v := 1) hx hb dX6_see_37 (by decide) ?_
        refine lv_goto (tgt := 42) hx hb dX6_see_38 (by decide) ?_
        refine lv_istore_n (lv' := [(3, .int 1), (0, .ref (q 0)), (1, .int p1), (2, .int p2), (4, .int (nI i))]) hx hb dX6_see_42 rfl hl (by decide) rfl (fun ls hl => ?_)
        refine lv_iinc (v := nI (i + 1)) (lv' := [(4, .int (nI (i + 1))), (3, .int 1), (0, .ref (q 0)), (1, .int p1), (2, .int p2)]) hx hb dX6_see_43 hl (k := 4) rfl (nI_1 i) (by decide) rfl (fun ls hl => ?_)
        refine lv_goto (tgt := 5) hx hb dX6_see_46 (by decide) ?_
        refine W.widen (k := 0) (n := 0) (Nat.le_refl _) (Nat.le_refl _) ?_
        exact ih_5 ((i + 1), 1) _ _ _ (by first | omega | (dsimp only; omega)) ⟨hP, hS, lv_sub hl [2, 3, 4, 1, 0] rfl, (by omega), (by rw [seeN, ← hc, if_neg c_2, if_pos c_3])⟩
      · refine lv_iload_n hx hb dX6_see_27 rfl (lv_at hl 1 rfl) ?_
        refine lv_iload_n hx hb dX6_see_28 rfl (lv_at hl 2 rfl) ?_
        refine lv_iload hx hb dX6_see_29 (lv_at hl 4 rfl) ?_
        have hPc := hP.sub (ws' := []) [] rfl
        refine va_calli (va_runS (As := [.int p1, .int p2, .int (nI i)]) (rest := []) ⟨hx, hb, hml, hown, hts⟩ (c_X6_leads l D cI cZ cJ cA H.size p1 p2 (nI i)) (va_cwS 3 hts gX6_see_X6_leads rfl rfl rfl (by decide +kernel) ⟨Nat.le_of_ble_eq_true rfl, Nat.le_of_ble_eq_true rfl⟩) ⟨pcR_bl, fun U hU hW => ⟨rfl, by rw [hU], by rw [hU]; exact hPc, va_K.moved hW.alike hK⟩⟩ rfl rfl hl.1 rfl (lv_room (Nat.le_of_ble_eq_true rfl)) dX6_see_31 ⟨Nat.le_of_ble_eq_true rfl, Nat.le_of_ble_eq_true rfl⟩) hS (fun _ h1 h2 => absurd h1 (Nat.not_lt.mpr h2)) (rd_free hS hA) (fun r_4 u t H locs ht hvm hw hB hz1 hk1 hS => ?_)
        try dsimp only at hw
        have hr_4 := hw
        have hP := rd_P hP hk1
        obtain rfl := hr_4.symm
        refine W.widen (k := 0) (n := 0) (Nat.le_refl _) (Nat.le_refl _) ?_
        refine lv_if_ne (tgt := 41) hx hb dX6_see_34 (by decide) (fun c_5 => ?_) (fun c_5 => ?_)
        · refine lv_iconst (v := 0) hx hb dX6_see_41 (by decide) ?_
          refine lv_istore_n (lv' := [(3, .int 0), (0, .ref (q 0)), (1, .int p1), (2, .int p2), (4, .int (nI i))]) hx hb dX6_see_42 rfl hl (by decide) rfl (fun ls hl => ?_)
          refine lv_iinc (v := nI (i + 1)) (lv' := [(4, .int (nI (i + 1))), (3, .int 0), (0, .ref (q 0)), (1, .int p1), (2, .int p2)]) hx hb dX6_see_43 hl (k := 4) rfl (nI_1 i) (by decide) rfl (fun ls hl => ?_)
          refine lv_goto (tgt := 5) hx hb dX6_see_46 (by decide) ?_
          refine W.widen (k := 0) (n := 0) (Nat.le_refl _) (Nat.le_refl _) ?_
          exact ih_5 ((i + 1), 0) _ _ _ (by first | omega | (dsimp only; omega)) ⟨hP, hS, lv_sub hl [2, 3, 4, 1, 0] rfl, (by omega), (by rw [seeN, ← hc, if_neg c_2, if_neg c_3, if_neg c_5])⟩
        · refine lv_iconst (v := 1) hx hb dX6_see_37 (by decide) ?_
          refine lv_goto (tgt := 42) hx hb dX6_see_38 (by decide) ?_
          refine lv_istore_n (lv' := [(3, .int 1), (0, .ref (q 0)), (1, .int p1), (2, .int p2), (4, .int (nI i))]) hx hb dX6_see_42 rfl hl (by decide) rfl (fun ls hl => ?_)
          refine lv_iinc (v := nI (i + 1)) (lv' := [(4, .int (nI (i + 1))), (3, .int 1), (0, .ref (q 0)), (1, .int p1), (2, .int p2)]) hx hb dX6_see_43 hl (k := 4) rfl (nI_1 i) (by decide) rfl (fun ls hl => ?_)
          refine lv_goto (tgt := 5) hx hb dX6_see_46 (by decide) ?_
          refine W.widen (k := 0) (n := 0) (Nat.le_refl _) (Nat.le_refl _) ?_
          exact ih_5 ((i + 1), 1) _ _ _ (by first | omega | (dsimp only; omega)) ⟨hP, hS, lv_sub hl [2, 3, 4, 1, 0] rfl, (by omega), (by rw [seeN, ← hc, if_neg c_2, if_neg c_3, if_pos c_5])⟩

noncomputable def sOn (ce : Nat → Int32) (p1 : Int32) : Nat → Int32
  | 0 => (-1)
  | n + 1 => if ce n = p1 then nI n else sOn ce p1 n
termination_by n => n
theorem sOn_in {ce : Nat → Int32} {p1 : Int32} : ∀ n : Nat, n ≤ 6 → ¬ sOn ce p1 n = (-1) → vp_in (sOn ce p1 n) 6
  | 0, _, h => absurd (by rw [sOn]) h
  | n + 1, hn, h => by
    rw [sOn] at h ⊢
    split
    · exact vp_in_nI (by omega) (by decide)
    · rename_i h1
      rw [if_neg h1] at h
      exact sOn_in n (by omega) h
set_option maxHeartbeats 4000000 in
set_option maxRecDepth 100000 in
theorem c_X6_standsOn (l : Launch) (D : va_G) (cI cZ cJ cA : ClassId) (sz : Nat) (q : Nat → Nat) (on : Int32) (hm : Int32) (aw : Int32) (tk : Int32) (ce : Nat → Int32) (sn : Nat) (kn : Nat) (th : Int32) (p1 : Int32) : Met l yX6_standsOn wsX6_standsOn ({ frames := 0, cells := 0, slots := 0, locals := 0 } : Room) (va_Pc [.ref (q 0), .int p1] (pcR D (tyL cI cZ cJ cA) [((q 0), .inr (6, [.ref (q 1), .ref (q 2), .int on, .int hm, .int aw, .int tk, .ref (q 3), .ref (q 4), .ref (q 5), .int (nI sn), .ref (q 6), .ref (q 7), .ref (q 8), .ref (q 9), .int (nI kn), .ref (q 10), .ref (q 11), .ref (q 12), .ref (q 13), .ref (q 14), .ref (q 15), .ref (q 16), .ref (q 17), .int th])), ((q 3), .inl (cI, 6, .inl ce))] sz)) (va_Qi (fun (r : Int32) (u : Unit) => r = sOn ce p1 6) (fun _ _ => True) (fun q : Nat => sz ≤ q)) 0 0 (fun q : Nat => sz ≤ q) := by
  refine Met.ofW (cc := cX6_standsOn) (maxL := 4) (ret := (some .int)) (by decide) rfl ?_
  intro p e s m args below meth c s₁ B hml hv
  obtain ⟨rfl, hsz, hP, hK⟩ := hv
  have hx := B.exec
  have hb := B.bytes
  have hr := B.returns
  have hts := atoms_spec (ws := wsX6_standsOn) B.pre
  have hown : s.vm.findClass RX6 = some m.cls := findClass_of_methodNamed B.named
  have hlocks := B.notSynchronized
  subst hsz
  have hA : ∀ q : Nat, s.heap.size ≤ q → (fun q : Nat => s.heap.size ≤ q) q := fun _ h => h
  have hS : va_S (fun q : Nat => s.heap.size ≤ q) s.heap s.heap [] := va_S.rf
  have hP : va_P D vwCl [((q 0), .inr (6, [.ref (q 1), .ref (q 2), .int on, .int hm, .int aw, .int tk, .ref (q 3), .ref (q 4), .ref (q 5), .int (nI sn), .ref (q 6), .ref (q 7), .ref (q 8), .ref (q 9), .int (nI kn), .ref (q 10), .ref (q 11), .ref (q 12), .ref (q 13), .ref (q 14), .ref (q 15), .ref (q 16), .ref (q 17), .int th])), ((q 3), .inl (cI, 6, .inl ce))] s.heap := hP
  have hl := lv_entry ([.ref (q 0), .int p1]) (n := 4) (Nat.le_of_ble_eq_true rfl)
  rw [lg_entry_eq]
  generalize (lg_sl ([.ref (q 0), .int p1]) ++ List.replicate (4 - (lg_sl ([.ref (q 0), .int p1])).length) Slot.unset).toArray = ls at hl ⊢
  have hl : lv_has ls 4 [(0, .ref (q 0)), (1, .int p1)] := hl
  have hf_17 := hts (.fieldLink RX6 17 "PaintballAtlasModel" "where" "[I") (by decide +kernel)
  have hi_X6 : ∀ w ∈ wsX60, w ∈ wsX6_standsOn := by decide +kernel
  refine lv_iconst (v := (-1)) hx hb dX6_standsOn_0 (by decide) ?_
  refine lv_istore_n (lv' := [(2, .int (-1)), (0, .ref (q 0)), (1, .int p1)]) hx hb dX6_standsOn_1 rfl hl (by decide) rfl (fun ls hl => ?_)
  refine lv_iconst (v := 0) hx hb dX6_standsOn_2 (by decide) ?_
  refine lv_istore_n (lv' := [(3, .int 0), (2, .int (-1)), (0, .ref (q 0)), (1, .int p1)]) hx hb dX6_standsOn_3 rfl hl (by decide) rfl (fun ls hl => ?_)
  refine lpW (σ := (Nat) × (Int32)) (I := fun x H locs ls => va_P D vwCl [((q 0), .inr (6, [.ref (q 1), .ref (q 2), .int on, .int hm, .int aw, .int tk, .ref (q 3), .ref (q 4), .ref (q 5), .int (nI sn), .ref (q 6), .ref (q 7), .ref (q 8), .ref (q 9), .int (nI kn), .ref (q 10), .ref (q 11), .ref (q 12), .ref (q 13), .ref (q 14), .ref (q 15), .ref (q 16), .ref (q 17), .int th])), ((q 3), .inl (cI, 6, .inl ce))] H ∧ va_S (fun q : Nat => s.heap.size ≤ q) s.heap H locs ∧ lv_has ls 4 [(0, .ref (q 0)), (1, .int p1), (2, .int x.2), (3, .int (nI x.1))] ∧ (x.1 ≤ 6) ∧ (x.2 = sOn ce p1 x.1)) (μ := fun x => 6 - x.1) ?_ (0, (-1)) ⟨hP, hS, lv_sub hl [2, 3, 1, 0] rfl, (Nat.zero_le _), (by simp only [sOn])⟩
  intro x H locs ls hI ih
  obtain ⟨i, c2⟩ := x
  obtain ⟨hP, hS, hl, hq_hi1, hq_hc⟩ := hI
  have ih_4 := ih
  have hl : lv_has ls 4 [(0, .ref (q 0)), (1, .int p1), (2, .int c2), (3, .int (nI i))] := hl
  have hP : va_P D vwCl [((q 0), .inr (6, [.ref (q 1), .ref (q 2), .int on, .int hm, .int aw, .int tk, .ref (q 3), .ref (q 4), .ref (q 5), .int (nI sn), .ref (q 6), .ref (q 7), .ref (q 8), .ref (q 9), .int (nI kn), .ref (q 10), .ref (q 11), .ref (q 12), .ref (q 13), .ref (q 14), .ref (q 15), .ref (q 16), .ref (q 17), .int th])), ((q 3), .inl (cI, 6, .inl ce))] H := hP
  have hi1 : i ≤ 6 := hq_hi1
  have hc : c2 = sOn ce p1 i := hq_hc
  clear hq_hi1 hq_hc
  refine lv_iload_n hx hb dX6_standsOn_4 rfl (lv_at hl 3 rfl) ?_
  refine lv_bipush (v := 6) hx hb dX6_standsOn_5 (by decide) ?_
  refine lv_icmp_ge (tgt := 32) hx hb dX6_standsOn_7 (by decide) (fun c_1 => ?_) (fun c_1 => ?_)
  · have he_7 : i = 6 := bd_eq (N := 6) (by decide) hi1 c_1
    refine lv_iload_n hx hb dX6_standsOn_32 rfl (lv_at hl 2 rfl) ?_
    -- leaf 0
    refine W.widen (k := 0) (n := 0) (Nat.le_refl _) (Nat.le_refl _) ?_
    exact W.iret (v := c2) hx hb hr (fun t ht hW => ⟨⟨c2, (), rfl, (by rw [hc, he_7]), trivial⟩, hS.F ht⟩) hS.2.2 dX6_standsOn_33
  · have hlt_7 : i < 6 := bd_lt (N := 6) (by decide) hi1 c_1
    refine lv_aload_n hx hb dX6_standsOn_10 rfl (lv_at hl 0 rfl) ?_
    refine va_get (D := D) (ci := 6) (v := .ref (q 3)) (C := RX6) (T := TX6) (N := 24) hx hb hts hi_X6 hown hK hP 0 rfl rfl 6 (by decide) hf_17 (fun _ h9 => h9) rfl dX6_standsOn_11 ?_
    refine lv_iload_n hx hb dX6_standsOn_14 rfl (lv_at hl 3 rfl) ?_
    refine va_iald hx hb hK hP 1 0 rfl rfl (vp_in_nI (n := i) (by omega) (by decide)) dX6_standsOn_15 ?_
    refine tp_eq (y := ce i) (by rw [nI_clamp (n := i) (by omega)]) ?_
    refine lv_iload_n hx hb dX6_standsOn_16 rfl (lv_at hl 1 rfl) ?_
    refine lv_icmp_ne (tgt := 24) hx hb dX6_standsOn_17 (by decide) (fun c_2 => ?_) (fun c_2 => ?_)
    · refine lv_iload_n hx hb dX6_standsOn_24 rfl (lv_at hl 2 rfl) ?_
      refine lv_istore_n (lv' := [(2, .int c2), (0, .ref (q 0)), (1, .int p1), (3, .int (nI i))]) hx hb dX6_standsOn_25 rfl hl (by decide) rfl (fun ls hl => ?_)
      refine lv_iinc (v := nI (i + 1)) (lv' := [(3, .int (nI (i + 1))), (2, .int c2), (0, .ref (q 0)), (1, .int p1)]) hx hb dX6_standsOn_26 hl (k := 3) rfl (nI_1 i) (by decide) rfl (fun ls hl => ?_)
      refine lv_goto (tgt := 4) hx hb dX6_standsOn_29 (by decide) ?_
      refine W.widen (k := 0) (n := 0) (Nat.le_refl _) (Nat.le_refl _) ?_
      exact ih_4 ((i + 1), c2) _ _ _ (by first | omega | (dsimp only; omega)) ⟨hP, hS, lv_sub hl [2, 3, 1, 0] rfl, (by omega), (by rw [sOn, if_neg c_2, ← hc])⟩
    · refine lv_iload_n hx hb dX6_standsOn_20 rfl (lv_at hl 3 rfl) ?_
      refine lv_goto (tgt := 25) hx hb dX6_standsOn_21 (by decide) ?_
      refine lv_istore_n (lv' := [(2, .int (nI i)), (0, .ref (q 0)), (1, .int p1), (3, .int (nI i))]) hx hb dX6_standsOn_25 rfl hl (by decide) rfl (fun ls hl => ?_)
      refine lv_iinc (v := nI (i + 1)) (lv' := [(3, .int (nI (i + 1))), (2, .int (nI i)), (0, .ref (q 0)), (1, .int p1)]) hx hb dX6_standsOn_26 hl (k := 3) rfl (nI_1 i) (by decide) rfl (fun ls hl => ?_)
      refine lv_goto (tgt := 4) hx hb dX6_standsOn_29 (by decide) ?_
      refine W.widen (k := 0) (n := 0) (Nat.le_refl _) (Nat.le_refl _) ?_
      exact ih_4 ((i + 1), nI i) _ _ _ (by first | omega | (dsimp only; omega)) ⟨hP, hS, lv_sub hl [2, 3, 1, 0] rfl, (by omega), (by rw [sOn, if_pos c_2])⟩

noncomputable def f_X6_isAhead (on : Int32) (hm : Int32) (aw : Int32) (tk : Int32) (sn : Nat) (kn : Nat) (pt : Nat → Int32) (df : Nat → Int32) (wv : Nat → Int32) (th : Int32) (p1 : Int32) (p2 : Int32) : Int32 := if (pt p1.toNatClampNeg) = (pt p2.toNatClampNeg) then (if ((wv ((6 * p1) + p2).toNatClampNeg) - (wv ((6 * p2) + p1).toNatClampNeg)) = 0 then (if (df p1.toNatClampNeg) = (df p2.toNatClampNeg) then (if p2 ≤ p1 then 0 else 1) else (if (df p1.toNatClampNeg) ≤ (df p2.toNatClampNeg) then 0 else 1)) else (if ((wv ((6 * p1) + p2).toNatClampNeg) - (wv ((6 * p2) + p1).toNatClampNeg)) ≤ 0 then 0 else 1)) else (if (pt p1.toNatClampNeg) ≤ (pt p2.toNatClampNeg) then 0 else 1)
set_option maxHeartbeats 4000000 in
set_option maxRecDepth 100000 in
theorem c_X6_isAhead (l : Launch) (D : va_G) (cI cZ cJ cA : ClassId) (sz : Nat) (q : Nat → Nat) (on : Int32) (hm : Int32) (aw : Int32) (tk : Int32) (sn : Nat) (kn : Nat) (pt : Nat → Int32) (df : Nat → Int32) (wv : Nat → Int32) (th : Int32) (p1 : Int32) (p2 : Int32) (h1 : vp_in p1 6) (h2 : vp_in p2 6) : Met l yX6_isAhead wsX6_isAhead ({ frames := 0, cells := 0, slots := 0, locals := 0 } : Room) (va_Pc [.ref (q 0), .int p1, .int p2] (pcR D (tyL cI cZ cJ cA) [((q 0), .inr (6, [.ref (q 1), .ref (q 2), .int on, .int hm, .int aw, .int tk, .ref (q 3), .ref (q 4), .ref (q 5), .int (nI sn), .ref (q 6), .ref (q 7), .ref (q 8), .ref (q 9), .int (nI kn), .ref (q 10), .ref (q 11), .ref (q 12), .ref (q 13), .ref (q 14), .ref (q 15), .ref (q 16), .ref (q 17), .int th])), ((q 14), .inl (cI, 6, .inl pt)), ((q 16), .inl (cI, 6, .inl df)), ((q 17), .inl (cI, 36, .inl wv))] sz)) (va_Qi (fun (r : Int32) (u : Unit) => r = f_X6_isAhead on hm aw tk sn kn pt df wv th p1 p2) (fun _ _ => True) (fun q : Nat => sz ≤ q)) 0 0 (fun q : Nat => sz ≤ q) := by
  refine Met.ofW (cc := cX6_isAhead) (maxL := 4) (ret := (some .boolean)) (by decide) rfl ?_
  intro p e s m args below meth c s₁ B hml hv
  obtain ⟨rfl, hsz, hP, hK⟩ := hv
  have hx := B.exec
  have hb := B.bytes
  have hr := B.returns
  have hts := atoms_spec (ws := wsX6_isAhead) B.pre
  have hown : s.vm.findClass RX6 = some m.cls := findClass_of_methodNamed B.named
  have hlocks := B.notSynchronized
  subst hsz
  have hA : ∀ q : Nat, s.heap.size ≤ q → (fun q : Nat => s.heap.size ≤ q) q := fun _ h => h
  have hS : va_S (fun q : Nat => s.heap.size ≤ q) s.heap s.heap [] := va_S.rf
  have hP : va_P D vwCl [((q 0), .inr (6, [.ref (q 1), .ref (q 2), .int on, .int hm, .int aw, .int tk, .ref (q 3), .ref (q 4), .ref (q 5), .int (nI sn), .ref (q 6), .ref (q 7), .ref (q 8), .ref (q 9), .int (nI kn), .ref (q 10), .ref (q 11), .ref (q 12), .ref (q 13), .ref (q 14), .ref (q 15), .ref (q 16), .ref (q 17), .int th])), ((q 14), .inl (cI, 6, .inl pt)), ((q 16), .inl (cI, 6, .inl df)), ((q 17), .inl (cI, 36, .inl wv))] s.heap := hP
  have hl := lv_entry ([.ref (q 0), .int p1, .int p2]) (n := 4) (Nat.le_of_ble_eq_true rfl)
  rw [lg_entry_eq]
  generalize (lg_sl ([.ref (q 0), .int p1, .int p2]) ++ List.replicate (4 - (lg_sl ([.ref (q 0), .int p1, .int p2])).length) Slot.unset).toArray = ls at hl ⊢
  have hl : lv_has ls 4 [(0, .ref (q 0)), (1, .int p1), (2, .int p2)] := hl
  have hf_59 := hts (.fieldLink RX6 59 "PaintballAtlasModel" "wins" "[I") (by decide +kernel)
  have hi_X6 : ∀ w ∈ wsX60, w ∈ wsX6_isAhead := by decide +kernel
  have hf_50 := hts (.fieldLink RX6 50 "PaintballAtlasModel" "points" "[I") (by decide +kernel)
  have hf_56 := hts (.fieldLink RX6 56 "PaintballAtlasModel" "difference" "[I") (by decide +kernel)
  refine lv_aload_n hx hb dX6_isAhead_0 rfl (lv_at hl 0 rfl) ?_
  refine va_get (D := D) (ci := 6) (v := .ref (q 17)) (C := RX6) (T := TX6) (N := 24) hx hb hts hi_X6 hown hK hP 0 rfl rfl 22 (by decide) hf_59 (fun _ h9 => h9) rfl dX6_isAhead_1 ?_
  refine lv_bipush (v := 6) hx hb dX6_isAhead_4 (by decide) ?_
  refine lv_iload_n hx hb dX6_isAhead_6 rfl (lv_at hl 1 rfl) ?_
  refine lv_imul hx hb dX6_isAhead_7 ?_
  refine lv_iload_n hx hb dX6_isAhead_8 rfl (lv_at hl 2 rfl) ?_
  refine lv_iadd hx hb dX6_isAhead_9 ?_
  refine va_iald hx hb hK hP 3 0 rfl rfl (win_in h1 h2) dX6_isAhead_10 ?_
  refine lv_aload_n hx hb dX6_isAhead_11 rfl (lv_at hl 0 rfl) ?_
  refine va_get (D := D) (ci := 6) (v := .ref (q 17)) (C := RX6) (T := TX6) (N := 24) hx hb hts hi_X6 hown hK hP 0 rfl rfl 22 (by decide) hf_59 (fun _ h9 => h9) rfl dX6_isAhead_12 ?_
  refine lv_bipush (v := 6) hx hb dX6_isAhead_15 (by decide) ?_
  refine lv_iload_n hx hb dX6_isAhead_17 rfl (lv_at hl 2 rfl) ?_
  refine lv_imul hx hb dX6_isAhead_18 ?_
  refine lv_iload_n hx hb dX6_isAhead_19 rfl (lv_at hl 1 rfl) ?_
  refine lv_iadd hx hb dX6_isAhead_20 ?_
  refine va_iald hx hb hK hP 3 0 rfl rfl (win_in h2 h1) dX6_isAhead_21 ?_
  refine lv_isub hx hb dX6_isAhead_22 ?_
  refine lv_istore_n (lv' := [(3, .int ((wv ((6 * p1) + p2).toNatClampNeg) - (wv ((6 * p2) + p1).toNatClampNeg))), (0, .ref (q 0)), (1, .int p1), (2, .int p2)]) hx hb dX6_isAhead_23 rfl hl (by decide) rfl (fun ls hl => ?_)
  refine lv_aload_n hx hb dX6_isAhead_24 rfl (lv_at hl 1 rfl) ?_
  refine va_get (D := D) (ci := 6) (v := .ref (q 14)) (C := RX6) (T := TX6) (N := 24) hx hb hts hi_X6 hown hK hP 0 rfl rfl 19 (by decide) hf_50 (fun _ h9 => h9) rfl dX6_isAhead_25 ?_
  refine lv_iload_n hx hb dX6_isAhead_28 rfl (lv_at hl 2 rfl) ?_
  refine va_iald hx hb hK hP 1 0 rfl rfl (by assumption) dX6_isAhead_29 ?_
  refine lv_aload_n hx hb dX6_isAhead_30 rfl (lv_at hl 1 rfl) ?_
  refine va_get (D := D) (ci := 6) (v := .ref (q 14)) (C := RX6) (T := TX6) (N := 24) hx hb hts hi_X6 hown hK hP 0 rfl rfl 19 (by decide) hf_50 (fun _ h9 => h9) rfl dX6_isAhead_31 ?_
  refine lv_iload_n hx hb dX6_isAhead_34 rfl (lv_at hl 3 rfl) ?_
  refine va_iald hx hb hK hP 1 0 rfl rfl (by assumption) dX6_isAhead_35 ?_
  refine lv_icmp_eq (tgt := 60) hx hb dX6_isAhead_36 (by decide) (fun c_1 => ?_) (fun c_1 => ?_)
  · refine lv_iload_n hx hb dX6_isAhead_60 rfl (lv_at hl 0 rfl) ?_
    refine lv_if_eq (tgt := 76) hx hb dX6_isAhead_61 (by decide) (fun c_2 => ?_) (fun c_2 => ?_)
    · refine lv_aload_n hx hb dX6_isAhead_76 rfl (lv_at hl 1 rfl) ?_
      refine va_get (D := D) (ci := 6) (v := .ref (q 16)) (C := RX6) (T := TX6) (N := 24) hx hb hts hi_X6 hown hK hP 0 rfl rfl 21 (by decide) hf_56 (fun _ h9 => h9) rfl dX6_isAhead_77 ?_
      refine lv_iload_n hx hb dX6_isAhead_80 rfl (lv_at hl 2 rfl) ?_
      refine va_iald hx hb hK hP 2 0 rfl rfl (by assumption) dX6_isAhead_81 ?_
      refine lv_aload_n hx hb dX6_isAhead_82 rfl (lv_at hl 1 rfl) ?_
      refine va_get (D := D) (ci := 6) (v := .ref (q 16)) (C := RX6) (T := TX6) (N := 24) hx hb hts hi_X6 hown hK hP 0 rfl rfl 21 (by decide) hf_56 (fun _ h9 => h9) rfl dX6_isAhead_83 ?_
      refine lv_iload_n hx hb dX6_isAhead_86 rfl (lv_at hl 3 rfl) ?_
      refine va_iald hx hb hK hP 2 0 rfl rfl (by assumption) dX6_isAhead_87 ?_
      refine lv_icmp_eq (tgt := 114) hx hb dX6_isAhead_88 (by decide) (fun c_3 => ?_) (fun c_3 => ?_)
      · refine lv_iload_n hx hb dX6_isAhead_114 rfl (lv_at hl 2 rfl) ?_
        refine lv_iload_n hx hb dX6_isAhead_115 rfl (lv_at hl 3 rfl) ?_
        refine lv_icmp_ge (tgt := 123) hx hb dX6_isAhead_116 (by decide) (fun c_4 => ?_) (fun c_4 => ?_)
        · refine lv_iconst (v := 0) hx hb dX6_isAhead_123 (by decide) ?_
          -- leaf 0
          exact W.zret (v := 0) (ty := .boolean) hx hb hr rfl (fun t ht hW => ⟨⟨0, (), rfl, (by rw [f_X6_isAhead, if_pos c_1, if_pos c_2, if_pos c_3, if_pos c_4]), trivial⟩, hS.F ht⟩) hS.2.2 dX6_isAhead_124
        · refine lv_iconst (v := 1) hx hb dX6_isAhead_119 (by decide) ?_
          refine lv_goto (tgt := 124) hx hb dX6_isAhead_120 (by decide) ?_
          -- leaf 1
          exact W.zret (v := 1) (ty := .boolean) hx hb hr rfl (fun t ht hW => ⟨⟨1, (), rfl, (by rw [f_X6_isAhead, if_pos c_1, if_pos c_2, if_pos c_3, if_neg c_4]), trivial⟩, hS.F ht⟩) hS.2.2 dX6_isAhead_124
      · refine lv_aload_n hx hb dX6_isAhead_91 rfl (lv_at hl 1 rfl) ?_
        refine va_get (D := D) (ci := 6) (v := .ref (q 16)) (C := RX6) (T := TX6) (N := 24) hx hb hts hi_X6 hown hK hP 0 rfl rfl 21 (by decide) hf_56 (fun _ h9 => h9) rfl dX6_isAhead_92 ?_
        refine lv_iload_n hx hb dX6_isAhead_95 rfl (lv_at hl 2 rfl) ?_
        refine va_iald hx hb hK hP 2 0 rfl rfl (by assumption) dX6_isAhead_96 ?_
        refine lv_aload_n hx hb dX6_isAhead_97 rfl (lv_at hl 1 rfl) ?_
        refine va_get (D := D) (ci := 6) (v := .ref (q 16)) (C := RX6) (T := TX6) (N := 24) hx hb hts hi_X6 hown hK hP 0 rfl rfl 21 (by decide) hf_56 (fun _ h9 => h9) rfl dX6_isAhead_98 ?_
        refine lv_iload_n hx hb dX6_isAhead_101 rfl (lv_at hl 3 rfl) ?_
        refine va_iald hx hb hK hP 2 0 rfl rfl (by assumption) dX6_isAhead_102 ?_
        refine lv_icmp_le (tgt := 110) hx hb dX6_isAhead_103 (by decide) (fun c_5 => ?_) (fun c_5 => ?_)
        · refine lv_iconst (v := 0) hx hb dX6_isAhead_110 (by decide) ?_
          refine lv_goto (tgt := 124) hx hb dX6_isAhead_111 (by decide) ?_
          -- leaf 2
          exact W.zret (v := 0) (ty := .boolean) hx hb hr rfl (fun t ht hW => ⟨⟨0, (), rfl, (by rw [f_X6_isAhead, if_pos c_1, if_pos c_2, if_neg c_3, if_pos c_5]), trivial⟩, hS.F ht⟩) hS.2.2 dX6_isAhead_124
        · refine lv_iconst (v := 1) hx hb dX6_isAhead_106 (by decide) ?_
          refine lv_goto (tgt := 124) hx hb dX6_isAhead_107 (by decide) ?_
          -- leaf 3
          exact W.zret (v := 1) (ty := .boolean) hx hb hr rfl (fun t ht hW => ⟨⟨1, (), rfl, (by rw [f_X6_isAhead, if_pos c_1, if_pos c_2, if_neg c_3, if_neg c_5]), trivial⟩, hS.F ht⟩) hS.2.2 dX6_isAhead_124
    · refine lv_iload_n hx hb dX6_isAhead_64 rfl (lv_at hl 0 rfl) ?_
      refine lv_if_le (tgt := 72) hx hb dX6_isAhead_65 (by decide) (fun c_6 => ?_) (fun c_6 => ?_)
      · refine lv_iconst (v := 0) hx hb dX6_isAhead_72 (by decide) ?_
        refine lv_goto (tgt := 124) hx hb dX6_isAhead_73 (by decide) ?_
        -- leaf 4
        exact W.zret (v := 0) (ty := .boolean) hx hb hr rfl (fun t ht hW => ⟨⟨0, (), rfl, (by rw [f_X6_isAhead, if_pos c_1, if_neg c_2, if_pos c_6]), trivial⟩, hS.F ht⟩) hS.2.2 dX6_isAhead_124
      · refine lv_iconst (v := 1) hx hb dX6_isAhead_68 (by decide) ?_
        refine lv_goto (tgt := 124) hx hb dX6_isAhead_69 (by decide) ?_
        -- leaf 5
        exact W.zret (v := 1) (ty := .boolean) hx hb hr rfl (fun t ht hW => ⟨⟨1, (), rfl, (by rw [f_X6_isAhead, if_pos c_1, if_neg c_2, if_neg c_6]), trivial⟩, hS.F ht⟩) hS.2.2 dX6_isAhead_124
  · refine lv_aload_n hx hb dX6_isAhead_39 rfl (lv_at hl 1 rfl) ?_
    refine va_get (D := D) (ci := 6) (v := .ref (q 14)) (C := RX6) (T := TX6) (N := 24) hx hb hts hi_X6 hown hK hP 0 rfl rfl 19 (by decide) hf_50 (fun _ h9 => h9) rfl dX6_isAhead_40 ?_
    refine lv_iload_n hx hb dX6_isAhead_43 rfl (lv_at hl 2 rfl) ?_
    refine va_iald hx hb hK hP 1 0 rfl rfl (by assumption) dX6_isAhead_44 ?_
    refine lv_aload_n hx hb dX6_isAhead_45 rfl (lv_at hl 1 rfl) ?_
    refine va_get (D := D) (ci := 6) (v := .ref (q 14)) (C := RX6) (T := TX6) (N := 24) hx hb hts hi_X6 hown hK hP 0 rfl rfl 19 (by decide) hf_50 (fun _ h9 => h9) rfl dX6_isAhead_46 ?_
    refine lv_iload_n hx hb dX6_isAhead_49 rfl (lv_at hl 3 rfl) ?_
    refine va_iald hx hb hK hP 1 0 rfl rfl (by assumption) dX6_isAhead_50 ?_
    refine lv_icmp_le (tgt := 58) hx hb dX6_isAhead_51 (by decide) (fun c_7 => ?_) (fun c_7 => ?_)
    · refine lv_iconst (v := 0) hx hb dX6_isAhead_58 (by decide) ?_
      -- leaf 6
      exact W.zret (v := 0) (ty := .boolean) hx hb hr rfl (fun t ht hW => ⟨⟨0, (), rfl, (by rw [f_X6_isAhead, if_neg c_1, if_pos c_7]), trivial⟩, hS.F ht⟩) hS.2.2 dX6_isAhead_59
    · refine lv_iconst (v := 1) hx hb dX6_isAhead_54 (by decide) ?_
      refine lv_goto (tgt := 59) hx hb dX6_isAhead_55 (by decide) ?_
      -- leaf 7
      exact W.zret (v := 1) (ty := .boolean) hx hb hr rfl (fun t ht hW => ⟨⟨1, (), rfl, (by rw [f_X6_isAhead, if_neg c_1, if_neg c_7]), trivial⟩, hS.F ht⟩) hS.2.2 dX6_isAhead_59

noncomputable def f_X6_teamOf (on : Int32) (hm : Int32) (aw : Int32) (tk : Int32) (sn : Nat) (kn : Nat) (th : Int32) (p1 : Int32) : Int32 := if 3 ≤ p1 then aw else hm
set_option maxHeartbeats 4000000 in
set_option maxRecDepth 100000 in
theorem c_X6_teamOf (l : Launch) (D : va_G) (cI cZ cJ cA : ClassId) (sz : Nat) (q : Nat → Nat) (on : Int32) (hm : Int32) (aw : Int32) (tk : Int32) (sn : Nat) (kn : Nat) (th : Int32) (p1 : Int32) : Met l yX6_teamOf wsX6_teamOf ({ frames := 0, cells := 0, slots := 0, locals := 0 } : Room) (va_Pc [.ref (q 0), .int p1] (pcR D (tyL cI cZ cJ cA) [((q 0), .inr (6, [.ref (q 1), .ref (q 2), .int on, .int hm, .int aw, .int tk, .ref (q 3), .ref (q 4), .ref (q 5), .int (nI sn), .ref (q 6), .ref (q 7), .ref (q 8), .ref (q 9), .int (nI kn), .ref (q 10), .ref (q 11), .ref (q 12), .ref (q 13), .ref (q 14), .ref (q 15), .ref (q 16), .ref (q 17), .int th]))] sz)) (va_Qi (fun (r : Int32) (u : Unit) => r = f_X6_teamOf on hm aw tk sn kn th p1) (fun _ _ => True) (fun q : Nat => sz ≤ q)) 0 0 (fun q : Nat => sz ≤ q) := by
  refine Met.ofW (cc := cX6_teamOf) (maxL := 2) (ret := (some .int)) (by decide) rfl ?_
  intro p e s m args below meth c s₁ B hml hv
  obtain ⟨rfl, hsz, hP, hK⟩ := hv
  have hx := B.exec
  have hb := B.bytes
  have hr := B.returns
  have hts := atoms_spec (ws := wsX6_teamOf) B.pre
  have hown : s.vm.findClass RX6 = some m.cls := findClass_of_methodNamed B.named
  have hlocks := B.notSynchronized
  subst hsz
  have hA : ∀ q : Nat, s.heap.size ≤ q → (fun q : Nat => s.heap.size ≤ q) q := fun _ h => h
  have hS : va_S (fun q : Nat => s.heap.size ≤ q) s.heap s.heap [] := va_S.rf
  have hP : va_P D vwCl [((q 0), .inr (6, [.ref (q 1), .ref (q 2), .int on, .int hm, .int aw, .int tk, .ref (q 3), .ref (q 4), .ref (q 5), .int (nI sn), .ref (q 6), .ref (q 7), .ref (q 8), .ref (q 9), .int (nI kn), .ref (q 10), .ref (q 11), .ref (q 12), .ref (q 13), .ref (q 14), .ref (q 15), .ref (q 16), .ref (q 17), .int th]))] s.heap := hP
  have hl := lv_entry ([.ref (q 0), .int p1]) (n := 2) (Nat.le_of_ble_eq_true rfl)
  rw [lg_entry_eq]
  generalize (lg_sl ([.ref (q 0), .int p1]) ++ List.replicate (2 - (lg_sl ([.ref (q 0), .int p1])).length) Slot.unset).toArray = ls at hl ⊢
  have hl : lv_has ls 2 [(0, .ref (q 0)), (1, .int p1)] := hl
  have hf_104 := hts (.fieldLink RX6 104 "PaintballAtlasModel" "away" "I") (by decide +kernel)
  have hi_X6 : ∀ w ∈ wsX60, w ∈ wsX6_teamOf := by decide +kernel
  have hf_101 := hts (.fieldLink RX6 101 "PaintballAtlasModel" "home" "I") (by decide +kernel)
  refine lv_iload_n hx hb dX6_teamOf_0 rfl (lv_at hl 1 rfl) ?_
  refine lv_iconst (v := 3) hx hb dX6_teamOf_1 (by decide) ?_
  refine lv_icmp_ge (tgt := 12) hx hb dX6_teamOf_2 (by decide) (fun c_1 => ?_) (fun c_1 => ?_)
  · refine lv_aload_n hx hb dX6_teamOf_12 rfl (lv_at hl 0 rfl) ?_
    refine va_get (D := D) (ci := 6) (v := .int aw) (C := RX6) (T := TX6) (N := 24) hx hb hts hi_X6 hown hK hP 0 rfl rfl 4 (by decide) hf_104 (fun _ h9 => h9) rfl dX6_teamOf_13 ?_
    -- leaf 0
    exact W.iret (v := aw) hx hb hr (fun t ht hW => ⟨⟨aw, (), rfl, (by rw [f_X6_teamOf, if_pos c_1]), trivial⟩, hS.F ht⟩) hS.2.2 dX6_teamOf_16
  · refine lv_aload_n hx hb dX6_teamOf_5 rfl (lv_at hl 0 rfl) ?_
    refine va_get (D := D) (ci := 6) (v := .int hm) (C := RX6) (T := TX6) (N := 24) hx hb hts hi_X6 hown hK hP 0 rfl rfl 3 (by decide) hf_101 (fun _ h9 => h9) rfl dX6_teamOf_6 ?_
    refine lv_goto (tgt := 16) hx hb dX6_teamOf_9 (by decide) ?_
    -- leaf 1
    exact W.iret (v := hm) hx hb hr (fun t ht hW => ⟨⟨hm, (), rfl, (by rw [f_X6_teamOf, if_neg c_1]), trivial⟩, hS.F ht⟩) hS.2.2 dX6_teamOf_16
