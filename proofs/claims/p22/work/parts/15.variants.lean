set_option maxHeartbeats 4000000 in
set_option maxRecDepth 100000 in
theorem c_V_checkCell (l : Launch) (D : va_G) (cI cZ cJ cA : ClassId) (sz : Nat) (p1 : Nat) (h1 : p1 < 144) : Met l yX5_checkCell wsX5_checkCell ({ frames := 6, cells := 0, slots := 0, locals := 90 } : Room) (va_Pc [.int (nI p1)] (pcR D (tyL cI cZ cJ cA) [] sz)) (va_Qv (fun (u : Unit) => True) (fun _ _ => True) (fun q : Nat => sz ≤ q)) 0 0 (fun q : Nat => sz ≤ q) := by
  refine Met.ofW (cc := cX5_checkCell) (maxL := 1) (ret := none) (by decide) rfl ?_
  intro p e s m args below meth c s₁ B hml hv
  obtain ⟨rfl, hsz, hP, hK⟩ := hv
  have hx := B.exec
  have hb := B.bytes
  have hr := B.returns
  have hts := atoms_spec (ws := wsX5_checkCell) B.pre
  have hown : s.vm.findClass RX5 = some m.cls := findClass_of_methodNamed B.named
  have hlocks := B.notSynchronized
  subst hsz
  have hA : ∀ q : Nat, s.heap.size ≤ q → (fun q : Nat => s.heap.size ≤ q) q := fun _ h => h
  have hS : va_S (fun q : Nat => s.heap.size ≤ q) s.heap s.heap [] := va_S.rf
  have hP : va_P D vwCl [] s.heap := hP
  have hl := lv_entry ([.int (nI p1)]) (n := 1) (Nat.le_of_ble_eq_true rfl)
  rw [lg_entry_eq]
  generalize (lg_sl ([.int (nI p1)]) ++ List.replicate (1 - (lg_sl ([.int (nI p1)])).length) Slot.unset).toArray = ls at hl ⊢
  have hl : lv_has ls 1 [(0, .int (nI p1))] := hl
  have hneg : ¬ (nI p1) < 0 := nI_pos (by omega)
  have hlt : (nI p1) < 144 := nI_lt (a := p1) (b := 144) h1 (by decide)
  refine lv_iload_n hx hb dX5_checkCell_0 rfl (lv_at hl 0 rfl) ?_
  refine lv_if_lt (tgt := 11) hx hb dX5_checkCell_1 (by decide) (fun c_1 => absurd c_1 hneg) (fun _ => ?_)
  refine lv_iload_n hx hb dX5_checkCell_4 rfl (lv_at hl 0 rfl) ?_
  refine lv_sipush (v := 144) hx hb dX5_checkCell_5 (by decide) ?_
  refine lv_icmp_lt (tgt := 21) hx hb dX5_checkCell_8 (by decide) (fun _ => ?_) (fun c_2 => absurd hlt c_2)
  -- leaf 0
  exact W.vret hx hb hr (fun t ht hW => ⟨⟨(), rfl, trivial, trivial⟩, hS.F ht⟩) hS.2.2 dX5_checkCell_21

set_option maxHeartbeats 4000000 in
set_option maxRecDepth 100000 in
theorem c_V_checkTeam (l : Launch) (D : va_G) (cI cZ cJ cA : ClassId) (sz : Nat) (p1 : Nat) (h1 : p1 < 6) : Met l yX5_checkTeam wsX5_checkTeam ({ frames := 6, cells := 0, slots := 0, locals := 90 } : Room) (va_Pc [.int (nI p1)] (pcR D (tyL cI cZ cJ cA) [] sz)) (va_Qv (fun (u : Unit) => True) (fun _ _ => True) (fun q : Nat => sz ≤ q)) 0 0 (fun q : Nat => sz ≤ q) := by
  refine Met.ofW (cc := cX5_checkTeam) (maxL := 1) (ret := none) (by decide) rfl ?_
  intro p e s m args below meth c s₁ B hml hv
  obtain ⟨rfl, hsz, hP, hK⟩ := hv
  have hx := B.exec
  have hb := B.bytes
  have hr := B.returns
  have hts := atoms_spec (ws := wsX5_checkTeam) B.pre
  have hown : s.vm.findClass RX5 = some m.cls := findClass_of_methodNamed B.named
  have hlocks := B.notSynchronized
  subst hsz
  have hA : ∀ q : Nat, s.heap.size ≤ q → (fun q : Nat => s.heap.size ≤ q) q := fun _ h => h
  have hS : va_S (fun q : Nat => s.heap.size ≤ q) s.heap s.heap [] := va_S.rf
  have hP : va_P D vwCl [] s.heap := hP
  have hl := lv_entry ([.int (nI p1)]) (n := 1) (Nat.le_of_ble_eq_true rfl)
  rw [lg_entry_eq]
  generalize (lg_sl ([.int (nI p1)]) ++ List.replicate (1 - (lg_sl ([.int (nI p1)])).length) Slot.unset).toArray = ls at hl ⊢
  have hl : lv_has ls 1 [(0, .int (nI p1))] := hl
  have hneg : ¬ (nI p1) < 0 := nI_pos (by omega)
  have hlt : (nI p1) < 6 := nI_lt (a := p1) (b := 6) h1 (by decide)
  refine lv_iload_n hx hb dX5_checkTeam_0 rfl (lv_at hl 0 rfl) ?_
  refine lv_if_lt (tgt := 10) hx hb dX5_checkTeam_1 (by decide) (fun c_1 => absurd c_1 hneg) (fun _ => ?_)
  refine lv_iload_n hx hb dX5_checkTeam_4 rfl (lv_at hl 0 rfl) ?_
  refine lv_bipush (v := 6) hx hb dX5_checkTeam_5 (by decide) ?_
  refine lv_icmp_lt (tgt := 20) hx hb dX5_checkTeam_7 (by decide) (fun _ => ?_) (fun c_2 => absurd hlt c_2)
  -- leaf 0
  exact W.vret hx hb hr (fun t ht hW => ⟨⟨(), rfl, trivial, trivial⟩, hS.F ht⟩) hS.2.2 dX5_checkTeam_20

set_option maxHeartbeats 4000000 in
set_option maxRecDepth 100000 in
theorem c_V_checkPlayer (l : Launch) (D : va_G) (cI cZ cJ cA : ClassId) (sz : Nat) (p1 : Nat) (h1 : p1 < 6) : Met l yX5_checkPlayer wsX5_checkPlayer ({ frames := 6, cells := 0, slots := 0, locals := 90 } : Room) (va_Pc [.int (nI p1)] (pcR D (tyL cI cZ cJ cA) [] sz)) (va_Qv (fun (u : Unit) => True) (fun _ _ => True) (fun q : Nat => sz ≤ q)) 0 0 (fun q : Nat => sz ≤ q) := by
  refine Met.ofW (cc := cX5_checkPlayer) (maxL := 1) (ret := none) (by decide) rfl ?_
  intro p e s m args below meth c s₁ B hml hv
  obtain ⟨rfl, hsz, hP, hK⟩ := hv
  have hx := B.exec
  have hb := B.bytes
  have hr := B.returns
  have hts := atoms_spec (ws := wsX5_checkPlayer) B.pre
  have hown : s.vm.findClass RX5 = some m.cls := findClass_of_methodNamed B.named
  have hlocks := B.notSynchronized
  subst hsz
  have hA : ∀ q : Nat, s.heap.size ≤ q → (fun q : Nat => s.heap.size ≤ q) q := fun _ h => h
  have hS : va_S (fun q : Nat => s.heap.size ≤ q) s.heap s.heap [] := va_S.rf
  have hP : va_P D vwCl [] s.heap := hP
  have hl := lv_entry ([.int (nI p1)]) (n := 1) (Nat.le_of_ble_eq_true rfl)
  rw [lg_entry_eq]
  generalize (lg_sl ([.int (nI p1)]) ++ List.replicate (1 - (lg_sl ([.int (nI p1)])).length) Slot.unset).toArray = ls at hl ⊢
  have hl : lv_has ls 1 [(0, .int (nI p1))] := hl
  have hneg : ¬ (nI p1) < 0 := nI_pos (by omega)
  have hlt : (nI p1) < 6 := nI_lt (a := p1) (b := 6) h1 (by decide)
  refine lv_iload_n hx hb dX5_checkPlayer_0 rfl (lv_at hl 0 rfl) ?_
  refine lv_if_lt (tgt := 10) hx hb dX5_checkPlayer_1 (by decide) (fun c_1 => absurd c_1 hneg) (fun _ => ?_)
  refine lv_iload_n hx hb dX5_checkPlayer_4 rfl (lv_at hl 0 rfl) ?_
  refine lv_bipush (v := 6) hx hb dX5_checkPlayer_5 (by decide) ?_
  refine lv_icmp_lt (tgt := 20) hx hb dX5_checkPlayer_7 (by decide) (fun _ => ?_) (fun c_2 => absurd hlt c_2)
  -- leaf 0
  exact W.vret hx hb hr (fun t ht hW => ⟨⟨(), rfl, trivial, trivial⟩, hS.F ht⟩) hS.2.2 dX5_checkPlayer_20

set_option maxHeartbeats 4000000 in
set_option maxRecDepth 100000 in
theorem c_V_checkRound (l : Launch) (D : va_G) (cI cZ cJ cA : ClassId) (sz : Nat) (a : Nat → Nat) (hm : Int32) (aw : Int32) (tk : Int32) (hon : ¬ (f_X2_isPlayed hm aw tk) = 0) : Met l yX5_checkRound wsX5_checkRound ({ frames := 6, cells := 0, slots := 0, locals := 90 } : Room) (va_Pc [.ref (a 0)] (pcR D (tyL cI cZ cJ cA) [((a 0), .inr (5, [.ref (a 2), .ref (a 4), .ref (a 18), .ref (a 1)])), ((a 4), .inr (2, [.int hm, .int aw, .int tk, .ref (a 5), .ref (a 6), .ref (a 7), .ref (a 8), .ref (a 13)]))] sz)) (va_Qv (fun (u : Unit) => True) (fun _ _ => True) (fun q : Nat => sz ≤ q)) 0 0 (fun q : Nat => sz ≤ q) := by
  refine Met.ofW (cc := cX5_checkRound) (maxL := 1) (ret := none) (by decide) rfl ?_
  intro p e s m args below meth c s₁ B hml hv
  obtain ⟨rfl, hsz, hP, hK⟩ := hv
  have hx := B.exec
  have hb := B.bytes
  have hr := B.returns
  have hts := atoms_spec (ws := wsX5_checkRound) B.pre
  have hown : s.vm.findClass RX5 = some m.cls := findClass_of_methodNamed B.named
  have hlocks := B.notSynchronized
  subst hsz
  have hA : ∀ q : Nat, s.heap.size ≤ q → (fun q : Nat => s.heap.size ≤ q) q := fun _ h => h
  have hS : va_S (fun q : Nat => s.heap.size ≤ q) s.heap s.heap [] := va_S.rf
  have hP : va_P D vwCl [((a 0), .inr (5, [.ref (a 2), .ref (a 4), .ref (a 18), .ref (a 1)])), ((a 4), .inr (2, [.int hm, .int aw, .int tk, .ref (a 5), .ref (a 6), .ref (a 7), .ref (a 8), .ref (a 13)]))] s.heap := hP
  have hl := lv_entry ([.ref (a 0)]) (n := 1) (Nat.le_of_ble_eq_true rfl)
  rw [lg_entry_eq]
  generalize (lg_sl ([.ref (a 0)]) ++ List.replicate (1 - (lg_sl ([.ref (a 0)])).length) Slot.unset).toArray = ls at hl ⊢
  have hl : lv_has ls 1 [(0, .ref (a 0))] := hl
  have hf_19 := hts (.fieldLink RX5 19 "PaintballAtlas" "round" "LPaintballAtlas$Round;") (by decide +kernel)
  have hi_X5 : ∀ w ∈ wsX50, w ∈ wsX5_checkRound := by decide +kernel
  refine lv_aload_n hx hb dX5_checkRound_0 rfl (lv_at hl 0 rfl) ?_
  refine va_get (D := D) (ci := 5) (v := .ref (a 4)) (C := RX5) (T := TX5) (N := 4) hx hb hts hi_X5 hown hK hP 0 rfl rfl 1 (by decide) hf_19 (fun _ h9 => h9) rfl dX5_checkRound_1 ?_
  have hPc := hP.sub (ws' := [((a 4), .inr (2, [.int hm, .int aw, .int tk, .ref (a 5), .ref (a 6), .ref (a 7), .ref (a 8), .ref (a 13)]))]) [1] rfl
  refine va_calli (va_runV (As := []) (rest := []) ⟨hx, hb, hml, hown, hts⟩ (c_X2_isPlayed l D cI cZ cJ cA s.heap.size a hm aw tk) (cwV 0 hts gX5_checkRound_X2_isPlayed rfl rfl rfl (by decide +kernel) ⟨Nat.le_of_ble_eq_true rfl, Nat.le_of_ble_eq_true rfl⟩) ⟨pcR_bl, va_recv hK hPc (ci := 2) (q0 := 0) rfl rfl, fun U hU hW => ⟨rfl, by rw [hU], by rw [hU]; exact hPc, va_K.moved hW.alike hK⟩⟩ rfl rfl hl.1 rfl (lv_room (Nat.le_of_ble_eq_true rfl)) dX5_checkRound_4 ⟨Nat.le_of_ble_eq_true rfl, Nat.le_of_ble_eq_true rfl⟩) hS (fun _ h1 h2 => absurd h1 (Nat.not_lt.mpr h2)) (rd_free hS hA) (fun r_1 u t H locs ht hvm hw hB hz1 hk1 hS => ?_)
  try dsimp only at hw
  have hr_1 := hw
  have hP := rd_P hP hk1
  obtain rfl := hr_1.symm
  refine W.widen (k := 0) (n := 0) (Nat.le_refl _) (Nat.le_refl _) ?_
  refine lv_if_ne (tgt := 20) hx hb dX5_checkRound_7 (by decide) (fun _ => ?_) (fun c_2 => absurd c_2 hon)
  -- leaf 0
  refine W.widen (k := 0) (n := 0) (Nat.le_of_ble_eq_true rfl) (Nat.le_of_ble_eq_true rfl) ?_
  exact W.vret hx hb hr (fun t ht hW => ⟨⟨(), rfl, trivial, trivial⟩, hS.F ht⟩) hS.2.2 dX5_checkRound_20

set_option maxHeartbeats 4000000 in
set_option maxRecDepth 100000 in
theorem c_V_sees (l : Launch) (D : va_G) (cI cZ cJ cA : ClassId) (sz : Nat) (a : Nat → Nat) (bk : Nat → Int32) (p1 : Nat) (p2 : Nat) (h1 : p1 < 144) (h2 : p2 < 144) : Met l yX5_sees wsX5_sees ({ frames := 7, cells := 0, slots := 0, locals := 110 } : Room) (va_Pc [.ref (a 0), .int (nI p1), .int (nI p2)] (pcR D (tyL cI cZ cJ cA) [((a 0), .inr (5, [.ref (a 2), .ref (a 4), .ref (a 18), .ref (a 1)])), ((a 2), .inr (1, [.ref (a 3)])), ((a 3), .inl (cZ, 144, .inl bk))] sz)) (va_Qi (fun (r : Int32) (u : Unit) => r = sI (SgtC bk p1 p2)) (fun _ _ => True) (fun q : Nat => sz ≤ q)) 0 0 (fun q : Nat => sz ≤ q) := by
  refine Met.ofW (cc := cX5_sees) (maxL := 3) (ret := (some .boolean)) (by decide) rfl ?_
  intro p e s m args below meth c s₁ B hml hv
  obtain ⟨rfl, hsz, hP, hK⟩ := hv
  have hx := B.exec
  have hb := B.bytes
  have hr := B.returns
  have hts := atoms_spec (ws := wsX5_sees) B.pre
  have hown : s.vm.findClass RX5 = some m.cls := findClass_of_methodNamed B.named
  have hlocks := B.notSynchronized
  subst hsz
  have hA : ∀ q : Nat, s.heap.size ≤ q → (fun q : Nat => s.heap.size ≤ q) q := fun _ h => h
  have hS : va_S (fun q : Nat => s.heap.size ≤ q) s.heap s.heap [] := va_S.rf
  have hP : va_P D vwCl [((a 0), .inr (5, [.ref (a 2), .ref (a 4), .ref (a 18), .ref (a 1)])), ((a 2), .inr (1, [.ref (a 3)])), ((a 3), .inl (cZ, 144, .inl bk))] s.heap := hP
  have hl := lv_entry ([.ref (a 0), .int (nI p1), .int (nI p2)]) (n := 3) (Nat.le_of_ble_eq_true rfl)
  rw [lg_entry_eq]
  generalize (lg_sl ([.ref (a 0), .int (nI p1), .int (nI p2)]) ++ List.replicate (3 - (lg_sl ([.ref (a 0), .int (nI p1), .int (nI p2)])).length) Slot.unset).toArray = ls at hl ⊢
  have hl : lv_has ls 3 [(0, .ref (a 0)), (1, .int (nI p1)), (2, .int (nI p2))] := hl
  have hf_12 := hts (.fieldLink RX5 12 "PaintballAtlas" "field" "LPaintballAtlas$Field;") (by decide +kernel)
  have hi_X5 : ∀ w ∈ wsX50, w ∈ wsX5_sees := by decide +kernel
  refine lv_iload_n hx hb dX5_sees_0 rfl (lv_at hl 1 rfl) ?_
  have hPc := hP.sub (ws' := []) [] rfl
  refine va_callv (va_runS (As := [.int (nI p1)]) (rest := []) ⟨hx, hb, hml, hown, hts⟩ (c_V_checkCell l D cI cZ cJ cA s.heap.size p1 (by first | assumption | omega)) (va_cwS 1 hts gX5_sees_X5_checkCell rfl rfl rfl (by decide +kernel) ⟨Nat.le_of_ble_eq_true rfl, Nat.le_of_ble_eq_true rfl⟩) ⟨pcR_bl, fun U hU hW => ⟨rfl, by rw [hU], by rw [hU]; exact hPc, va_K.moved hW.alike hK⟩⟩ rfl rfl hl.1 rfl (lv_room (Nat.le_of_ble_eq_true rfl)) dX5_sees_1 ⟨Nat.le_of_ble_eq_true rfl, Nat.le_of_ble_eq_true rfl⟩) hS (fun _ h1 h2 => absurd h1 (Nat.not_lt.mpr h2)) (rd_free hS hA) (fun u t H locs ht hvm hw hB hz1 hk1 hS => ?_)
  try dsimp only at hw
  have hP := rd_P hP hk1
  refine W.widen (k := 0) (n := 0) (Nat.le_refl _) (Nat.le_refl _) ?_
  refine lv_iload_n hx hb dX5_sees_4 rfl (lv_at hl 2 rfl) ?_
  have hPc := hP.sub (ws' := []) [] rfl
  refine va_callv (va_runS (As := [.int (nI p2)]) (rest := []) ⟨hx, hb, hml, hown, hts⟩ (c_V_checkCell l D cI cZ cJ cA H.size p2 (by first | assumption | omega)) (va_cwS 1 hts gX5_sees_X5_checkCell rfl rfl rfl (by decide +kernel) ⟨Nat.le_of_ble_eq_true rfl, Nat.le_of_ble_eq_true rfl⟩) ⟨pcR_bl, fun U hU hW => ⟨rfl, by rw [hU], by rw [hU]; exact hPc, va_K.moved hW.alike hK⟩⟩ rfl rfl hl.1 rfl (lv_room (Nat.le_of_ble_eq_true rfl)) dX5_sees_5 ⟨Nat.le_of_ble_eq_true rfl, Nat.le_of_ble_eq_true rfl⟩) hS (fun _ h1 h2 => absurd h1 (Nat.not_lt.mpr h2)) (rd_free hS hA) (fun u t H locs ht hvm hw hB hz1 hk1 hS => ?_)
  try dsimp only at hw
  have hP := rd_P hP hk1
  refine W.widen (k := 0) (n := 0) (Nat.le_refl _) (Nat.le_refl _) ?_
  refine lv_aload_n hx hb dX5_sees_8 rfl (lv_at hl 0 rfl) ?_
  refine va_get (D := D) (ci := 5) (v := .ref (a 2)) (C := RX5) (T := TX5) (N := 4) hx hb hts hi_X5 hown hK hP 0 rfl rfl 0 (by decide) hf_12 (fun _ h9 => h9) rfl dX5_sees_9 ?_
  refine lv_iload_n hx hb dX5_sees_12 rfl (lv_at hl 1 rfl) ?_
  refine lv_iload_n hx hb dX5_sees_13 rfl (lv_at hl 2 rfl) ?_
  have hPc := hP.sub (ws' := [((a 2), .inr (1, [.ref (a 3)])), ((a 3), .inl (cZ, 144, .inl bk))]) [1, 2] rfl
  refine va_calli (va_runV (As := [.int (nI p1), .int (nI p2)]) (rest := []) ⟨hx, hb, hml, hown, hts⟩ (c_X1_hasSight l D cI cZ cJ cA H.size a bk (nI p1) (nI p2) (vp_in_nI (n := p1) (by omega) (by decide)) (vp_in_nI (n := p2) (by omega) (by decide))) (cwV 2 hts gX5_sees_X1_hasSight rfl rfl rfl (by decide +kernel) ⟨Nat.le_of_ble_eq_true rfl, Nat.le_of_ble_eq_true rfl⟩) ⟨pcR_bl, va_recv hK hPc (ci := 1) (q0 := 0) rfl rfl, fun U hU hW => ⟨rfl, by rw [hU], by rw [hU]; exact hPc, va_K.moved hW.alike hK⟩⟩ rfl rfl hl.1 rfl (lv_room (Nat.le_of_ble_eq_true rfl)) dX5_sees_14 ⟨Nat.le_of_ble_eq_true rfl, Nat.le_of_ble_eq_true rfl⟩) hS (fun _ h1 h2 => absurd h1 (Nat.not_lt.mpr h2)) (rd_free hS hA) (fun r_3 u t H locs ht hvm hw hB hz1 hk1 hS => ?_)
  try dsimp only at hw
  have hr_3 := hw
  have hP := rd_P hP hk1
  obtain rfl := hr_3.symm
  refine W.widen (k := 0) (n := 0) (Nat.le_refl _) (Nat.le_refl _) ?_
  -- leaf 0
  refine W.widen (k := 0) (n := 0) (Nat.le_of_ble_eq_true rfl) (Nat.le_of_ble_eq_true rfl) ?_
  exact W.zret (v := sI (SgtC bk (nI p1).toNatClampNeg (nI p2).toNatClampNeg)) (ty := .boolean) hx hb hr (nz01 (sI_01 _)) (fun t ht hW => ⟨⟨sI (SgtC bk (nI p1).toNatClampNeg (nI p2).toNatClampNeg), (), rfl, (by rw [nI_clamp (n := p1) (by omega), nI_clamp (n := p2) (by omega)]), trivial⟩, hS.F ht⟩) hS.2.2 dX5_sees_17

set_option maxHeartbeats 4000000 in
set_option maxRecDepth 100000 in
theorem c_V_view (l : Launch) (D : va_G) (cI cZ cJ cA : ClassId) (sz : Nat) (a : Nat → Nat) (bk : Nat → Int32) (p1 : Nat) (h1 : p1 < 144) : Met l yX5_view wsX5_view ({ frames := 7, cells := 0, slots := 0, locals := 110 } : Room) (va_Pc [.ref (a 0), .int (nI p1)] (pcR D (tyL cI cZ cJ cA) [((a 0), .inr (5, [.ref (a 2), .ref (a 4), .ref (a 18), .ref (a 1)])), ((a 2), .inr (1, [.ref (a 3)])), ((a 3), .inl (cZ, 144, .inl bk))] sz)) (va_Qi (fun (r : Int32) (u : Unit) => r = seenN bk (nI p1) 144) (fun _ _ => True) (fun q : Nat => sz ≤ q)) 0 0 (fun q : Nat => sz ≤ q) := by
  refine Met.ofW (cc := cX5_view) (maxL := 2) (ret := (some .int)) (by decide) rfl ?_
  intro p e s m args below meth c s₁ B hml hv
  obtain ⟨rfl, hsz, hP, hK⟩ := hv
  have hx := B.exec
  have hb := B.bytes
  have hr := B.returns
  have hts := atoms_spec (ws := wsX5_view) B.pre
  have hown : s.vm.findClass RX5 = some m.cls := findClass_of_methodNamed B.named
  have hlocks := B.notSynchronized
  subst hsz
  have hA : ∀ q : Nat, s.heap.size ≤ q → (fun q : Nat => s.heap.size ≤ q) q := fun _ h => h
  have hS : va_S (fun q : Nat => s.heap.size ≤ q) s.heap s.heap [] := va_S.rf
  have hP : va_P D vwCl [((a 0), .inr (5, [.ref (a 2), .ref (a 4), .ref (a 18), .ref (a 1)])), ((a 2), .inr (1, [.ref (a 3)])), ((a 3), .inl (cZ, 144, .inl bk))] s.heap := hP
  have hl := lv_entry ([.ref (a 0), .int (nI p1)]) (n := 2) (Nat.le_of_ble_eq_true rfl)
  rw [lg_entry_eq]
  generalize (lg_sl ([.ref (a 0), .int (nI p1)]) ++ List.replicate (2 - (lg_sl ([.ref (a 0), .int (nI p1)])).length) Slot.unset).toArray = ls at hl ⊢
  have hl : lv_has ls 2 [(0, .ref (a 0)), (1, .int (nI p1))] := hl
  have hf_12 := hts (.fieldLink RX5 12 "PaintballAtlas" "field" "LPaintballAtlas$Field;") (by decide +kernel)
  have hi_X5 : ∀ w ∈ wsX50, w ∈ wsX5_view := by decide +kernel
  refine lv_iload_n hx hb dX5_view_0 rfl (lv_at hl 1 rfl) ?_
  have hPc := hP.sub (ws' := []) [] rfl
  refine va_callv (va_runS (As := [.int (nI p1)]) (rest := []) ⟨hx, hb, hml, hown, hts⟩ (c_V_checkCell l D cI cZ cJ cA s.heap.size p1 (by first | assumption | omega)) (va_cwS 1 hts gX5_view_X5_checkCell rfl rfl rfl (by decide +kernel) ⟨Nat.le_of_ble_eq_true rfl, Nat.le_of_ble_eq_true rfl⟩) ⟨pcR_bl, fun U hU hW => ⟨rfl, by rw [hU], by rw [hU]; exact hPc, va_K.moved hW.alike hK⟩⟩ rfl rfl hl.1 rfl (lv_room (Nat.le_of_ble_eq_true rfl)) dX5_view_1 ⟨Nat.le_of_ble_eq_true rfl, Nat.le_of_ble_eq_true rfl⟩) hS (fun _ h1 h2 => absurd h1 (Nat.not_lt.mpr h2)) (rd_free hS hA) (fun u t H locs ht hvm hw hB hz1 hk1 hS => ?_)
  try dsimp only at hw
  have hP := rd_P hP hk1
  refine W.widen (k := 0) (n := 0) (Nat.le_refl _) (Nat.le_refl _) ?_
  refine lv_aload_n hx hb dX5_view_4 rfl (lv_at hl 0 rfl) ?_
  refine va_get (D := D) (ci := 5) (v := .ref (a 2)) (C := RX5) (T := TX5) (N := 4) hx hb hts hi_X5 hown hK hP 0 rfl rfl 0 (by decide) hf_12 (fun _ h9 => h9) rfl dX5_view_5 ?_
  refine lv_iload_n hx hb dX5_view_8 rfl (lv_at hl 1 rfl) ?_
  have hPc := hP.sub (ws' := [((a 2), .inr (1, [.ref (a 3)])), ((a 3), .inl (cZ, 144, .inl bk))]) [1, 2] rfl
  refine va_calli (va_runV (As := [.int (nI p1)]) (rest := []) ⟨hx, hb, hml, hown, hts⟩ (c_X1_countSeen l D cI cZ cJ cA H.size a bk (nI p1) (vp_in_nI (n := p1) (by omega) (by decide))) (cwV 1 hts gX5_view_X1_countSeen rfl rfl rfl (by decide +kernel) ⟨Nat.le_of_ble_eq_true rfl, Nat.le_of_ble_eq_true rfl⟩) ⟨pcR_bl, va_recv hK hPc (ci := 1) (q0 := 0) rfl rfl, fun U hU hW => ⟨rfl, by rw [hU], by rw [hU]; exact hPc, va_K.moved hW.alike hK⟩⟩ rfl rfl hl.1 rfl (lv_room (Nat.le_of_ble_eq_true rfl)) dX5_view_9 ⟨Nat.le_of_ble_eq_true rfl, Nat.le_of_ble_eq_true rfl⟩) hS (fun _ h1 h2 => absurd h1 (Nat.not_lt.mpr h2)) (rd_free hS hA) (fun r_2 u t H locs ht hvm hw hB hz1 hk1 hS => ?_)
  try dsimp only at hw
  have hr_2 := hw
  have hP := rd_P hP hk1
  obtain rfl := hr_2.symm
  refine W.widen (k := 0) (n := 0) (Nat.le_refl _) (Nat.le_refl _) ?_
  -- leaf 0
  refine W.widen (k := 0) (n := 0) (Nat.le_of_ble_eq_true rfl) (Nat.le_of_ble_eq_true rfl) ?_
  exact W.iret (v := seenN bk (nI p1) 144) hx hb hr (fun t ht hW => ⟨⟨seenN bk (nI p1) 144, (), rfl, rfl, trivial⟩, hS.F ht⟩) hS.2.2 dX5_view_12

set_option maxHeartbeats 4000000 in
set_option maxRecDepth 100000 in
theorem c_V_where (l : Launch) (D : va_G) (cI cZ cJ cA : ClassId) (sz : Nat) (a : Nat → Nat) (hm : Int32) (aw : Int32) (tk : Int32) (ce : Nat → Int32) (p1 : Nat) (h1 : p1 < 6) : Met l yX5_where wsX5_where ({ frames := 7, cells := 0, slots := 0, locals := 110 } : Room) (va_Pc [.ref (a 0), .int (nI p1)] (pcR D (tyL cI cZ cJ cA) [((a 0), .inr (5, [.ref (a 2), .ref (a 4), .ref (a 18), .ref (a 1)])), ((a 4), .inr (2, [.int hm, .int aw, .int tk, .ref (a 5), .ref (a 6), .ref (a 7), .ref (a 8), .ref (a 13)])), ((a 5), .inl (cI, 6, .inl ce))] sz)) (va_Qi (fun (r : Int32) (u : Unit) => r = ce p1) (fun _ _ => True) (fun q : Nat => sz ≤ q)) 0 0 (fun q : Nat => sz ≤ q) := by
  refine Met.ofW (cc := cX5_where) (maxL := 2) (ret := (some .int)) (by decide) rfl ?_
  intro p e s m args below meth c s₁ B hml hv
  obtain ⟨rfl, hsz, hP, hK⟩ := hv
  have hx := B.exec
  have hb := B.bytes
  have hr := B.returns
  have hts := atoms_spec (ws := wsX5_where) B.pre
  have hown : s.vm.findClass RX5 = some m.cls := findClass_of_methodNamed B.named
  have hlocks := B.notSynchronized
  subst hsz
  have hA : ∀ q : Nat, s.heap.size ≤ q → (fun q : Nat => s.heap.size ≤ q) q := fun _ h => h
  have hS : va_S (fun q : Nat => s.heap.size ≤ q) s.heap s.heap [] := va_S.rf
  have hP : va_P D vwCl [((a 0), .inr (5, [.ref (a 2), .ref (a 4), .ref (a 18), .ref (a 1)])), ((a 4), .inr (2, [.int hm, .int aw, .int tk, .ref (a 5), .ref (a 6), .ref (a 7), .ref (a 8), .ref (a 13)])), ((a 5), .inl (cI, 6, .inl ce))] s.heap := hP
  have hl := lv_entry ([.ref (a 0), .int (nI p1)]) (n := 2) (Nat.le_of_ble_eq_true rfl)
  rw [lg_entry_eq]
  generalize (lg_sl ([.ref (a 0), .int (nI p1)]) ++ List.replicate (2 - (lg_sl ([.ref (a 0), .int (nI p1)])).length) Slot.unset).toArray = ls at hl ⊢
  have hl : lv_has ls 2 [(0, .ref (a 0)), (1, .int (nI p1))] := hl
  have hf_19 := hts (.fieldLink RX5 19 "PaintballAtlas" "round" "LPaintballAtlas$Round;") (by decide +kernel)
  have hi_X5 : ∀ w ∈ wsX50, w ∈ wsX5_where := by decide +kernel
  refine lv_iload_n hx hb dX5_where_0 rfl (lv_at hl 1 rfl) ?_
  have hPc := hP.sub (ws' := []) [] rfl
  refine va_callv (va_runS (As := [.int (nI p1)]) (rest := []) ⟨hx, hb, hml, hown, hts⟩ (c_V_checkPlayer l D cI cZ cJ cA s.heap.size p1 (by first | assumption | omega)) (va_cwS 1 hts gX5_where_X5_checkPlayer rfl rfl rfl (by decide +kernel) ⟨Nat.le_of_ble_eq_true rfl, Nat.le_of_ble_eq_true rfl⟩) ⟨pcR_bl, fun U hU hW => ⟨rfl, by rw [hU], by rw [hU]; exact hPc, va_K.moved hW.alike hK⟩⟩ rfl rfl hl.1 rfl (lv_room (Nat.le_of_ble_eq_true rfl)) dX5_where_1 ⟨Nat.le_of_ble_eq_true rfl, Nat.le_of_ble_eq_true rfl⟩) hS (fun _ h1 h2 => absurd h1 (Nat.not_lt.mpr h2)) (rd_free hS hA) (fun u t H locs ht hvm hw hB hz1 hk1 hS => ?_)
  try dsimp only at hw
  have hP := rd_P hP hk1
  refine W.widen (k := 0) (n := 0) (Nat.le_refl _) (Nat.le_refl _) ?_
  refine lv_aload_n hx hb dX5_where_4 rfl (lv_at hl 0 rfl) ?_
  refine va_get (D := D) (ci := 5) (v := .ref (a 4)) (C := RX5) (T := TX5) (N := 4) hx hb hts hi_X5 hown hK hP 0 rfl rfl 1 (by decide) hf_19 (fun _ h9 => h9) rfl dX5_where_5 ?_
  refine lv_iload_n hx hb dX5_where_8 rfl (lv_at hl 1 rfl) ?_
  have hPc := hP.sub (ws' := [((a 4), .inr (2, [.int hm, .int aw, .int tk, .ref (a 5), .ref (a 6), .ref (a 7), .ref (a 8), .ref (a 13)])), ((a 5), .inl (cI, 6, .inl ce))]) [1, 2] rfl
  refine va_calli (va_runV (As := [.int (nI p1)]) (rest := []) ⟨hx, hb, hml, hown, hts⟩ (c_X2_cellOf l D cI cZ cJ cA H.size a hm aw tk ce (nI p1) (vp_in_nI (n := p1) (by omega) (by decide))) (cwV 1 hts gX5_where_X2_cellOf rfl rfl rfl (by decide +kernel) ⟨Nat.le_of_ble_eq_true rfl, Nat.le_of_ble_eq_true rfl⟩) ⟨pcR_bl, va_recv hK hPc (ci := 2) (q0 := 0) rfl rfl, fun U hU hW => ⟨rfl, by rw [hU], by rw [hU]; exact hPc, va_K.moved hW.alike hK⟩⟩ rfl rfl hl.1 rfl (lv_room (Nat.le_of_ble_eq_true rfl)) dX5_where_9 ⟨Nat.le_of_ble_eq_true rfl, Nat.le_of_ble_eq_true rfl⟩) hS (fun _ h1 h2 => absurd h1 (Nat.not_lt.mpr h2)) (rd_free hS hA) (fun r_2 u t H locs ht hvm hw hB hz1 hk1 hS => ?_)
  try dsimp only at hw
  have hr_2 := hw
  have hP := rd_P hP hk1
  obtain rfl := hr_2.symm
  refine W.widen (k := 0) (n := 0) (Nat.le_refl _) (Nat.le_refl _) ?_
  -- leaf 0
  refine W.widen (k := 0) (n := 0) (Nat.le_of_ble_eq_true rfl) (Nat.le_of_ble_eq_true rfl) ?_
  exact W.iret (v := ce (nI p1).toNatClampNeg) hx hb hr (fun t ht hW => ⟨⟨ce (nI p1).toNatClampNeg, (), rfl, (by rw [nI_clamp (n := p1) (by omega)]), trivial⟩, hS.F ht⟩) hS.2.2 dX5_where_12

set_option maxHeartbeats 4000000 in
set_option maxRecDepth 100000 in
theorem c_V_hit (l : Launch) (D : va_G) (cI cZ cJ cA : ClassId) (sz : Nat) (a : Nat → Nat) (hm : Int32) (aw : Int32) (tk : Int32) (hi : Nat → Int32) (p1 : Nat) (h1 : p1 < 6) : Met l yX5_hit wsX5_hit ({ frames := 7, cells := 0, slots := 0, locals := 110 } : Room) (va_Pc [.ref (a 0), .int (nI p1)] (pcR D (tyL cI cZ cJ cA) [((a 0), .inr (5, [.ref (a 2), .ref (a 4), .ref (a 18), .ref (a 1)])), ((a 4), .inr (2, [.int hm, .int aw, .int tk, .ref (a 5), .ref (a 6), .ref (a 7), .ref (a 8), .ref (a 13)])), ((a 6), .inl (cI, 6, .inl hi))] sz)) (va_Qi (fun (r : Int32) (u : Unit) => r = hi p1) (fun _ _ => True) (fun q : Nat => sz ≤ q)) 0 0 (fun q : Nat => sz ≤ q) := by
  refine Met.ofW (cc := cX5_hit) (maxL := 2) (ret := (some .int)) (by decide) rfl ?_
  intro p e s m args below meth c s₁ B hml hv
  obtain ⟨rfl, hsz, hP, hK⟩ := hv
  have hx := B.exec
  have hb := B.bytes
  have hr := B.returns
  have hts := atoms_spec (ws := wsX5_hit) B.pre
  have hown : s.vm.findClass RX5 = some m.cls := findClass_of_methodNamed B.named
  have hlocks := B.notSynchronized
  subst hsz
  have hA : ∀ q : Nat, s.heap.size ≤ q → (fun q : Nat => s.heap.size ≤ q) q := fun _ h => h
  have hS : va_S (fun q : Nat => s.heap.size ≤ q) s.heap s.heap [] := va_S.rf
  have hP : va_P D vwCl [((a 0), .inr (5, [.ref (a 2), .ref (a 4), .ref (a 18), .ref (a 1)])), ((a 4), .inr (2, [.int hm, .int aw, .int tk, .ref (a 5), .ref (a 6), .ref (a 7), .ref (a 8), .ref (a 13)])), ((a 6), .inl (cI, 6, .inl hi))] s.heap := hP
  have hl := lv_entry ([.ref (a 0), .int (nI p1)]) (n := 2) (Nat.le_of_ble_eq_true rfl)
  rw [lg_entry_eq]
  generalize (lg_sl ([.ref (a 0), .int (nI p1)]) ++ List.replicate (2 - (lg_sl ([.ref (a 0), .int (nI p1)])).length) Slot.unset).toArray = ls at hl ⊢
  have hl : lv_has ls 2 [(0, .ref (a 0)), (1, .int (nI p1))] := hl
  have hf_19 := hts (.fieldLink RX5 19 "PaintballAtlas" "round" "LPaintballAtlas$Round;") (by decide +kernel)
  have hi_X5 : ∀ w ∈ wsX50, w ∈ wsX5_hit := by decide +kernel
  refine lv_iload_n hx hb dX5_hit_0 rfl (lv_at hl 1 rfl) ?_
  have hPc := hP.sub (ws' := []) [] rfl
  refine va_callv (va_runS (As := [.int (nI p1)]) (rest := []) ⟨hx, hb, hml, hown, hts⟩ (c_V_checkPlayer l D cI cZ cJ cA s.heap.size p1 (by first | assumption | omega)) (va_cwS 1 hts gX5_hit_X5_checkPlayer rfl rfl rfl (by decide +kernel) ⟨Nat.le_of_ble_eq_true rfl, Nat.le_of_ble_eq_true rfl⟩) ⟨pcR_bl, fun U hU hW => ⟨rfl, by rw [hU], by rw [hU]; exact hPc, va_K.moved hW.alike hK⟩⟩ rfl rfl hl.1 rfl (lv_room (Nat.le_of_ble_eq_true rfl)) dX5_hit_1 ⟨Nat.le_of_ble_eq_true rfl, Nat.le_of_ble_eq_true rfl⟩) hS (fun _ h1 h2 => absurd h1 (Nat.not_lt.mpr h2)) (rd_free hS hA) (fun u t H locs ht hvm hw hB hz1 hk1 hS => ?_)
  try dsimp only at hw
  have hP := rd_P hP hk1
  refine W.widen (k := 0) (n := 0) (Nat.le_refl _) (Nat.le_refl _) ?_
  refine lv_aload_n hx hb dX5_hit_4 rfl (lv_at hl 0 rfl) ?_
  refine va_get (D := D) (ci := 5) (v := .ref (a 4)) (C := RX5) (T := TX5) (N := 4) hx hb hts hi_X5 hown hK hP 0 rfl rfl 1 (by decide) hf_19 (fun _ h9 => h9) rfl dX5_hit_5 ?_
  refine lv_iload_n hx hb dX5_hit_8 rfl (lv_at hl 1 rfl) ?_
  have hPc := hP.sub (ws' := [((a 4), .inr (2, [.int hm, .int aw, .int tk, .ref (a 5), .ref (a 6), .ref (a 7), .ref (a 8), .ref (a 13)])), ((a 6), .inl (cI, 6, .inl hi))]) [1, 2] rfl
  refine va_calli (va_runV (As := [.int (nI p1)]) (rest := []) ⟨hx, hb, hml, hown, hts⟩ (c_X2_hitOf l D cI cZ cJ cA H.size a hm aw tk hi (nI p1) (vp_in_nI (n := p1) (by omega) (by decide))) (cwV 1 hts gX5_hit_X2_hitOf rfl rfl rfl (by decide +kernel) ⟨Nat.le_of_ble_eq_true rfl, Nat.le_of_ble_eq_true rfl⟩) ⟨pcR_bl, va_recv hK hPc (ci := 2) (q0 := 0) rfl rfl, fun U hU hW => ⟨rfl, by rw [hU], by rw [hU]; exact hPc, va_K.moved hW.alike hK⟩⟩ rfl rfl hl.1 rfl (lv_room (Nat.le_of_ble_eq_true rfl)) dX5_hit_9 ⟨Nat.le_of_ble_eq_true rfl, Nat.le_of_ble_eq_true rfl⟩) hS (fun _ h1 h2 => absurd h1 (Nat.not_lt.mpr h2)) (rd_free hS hA) (fun r_2 u t H locs ht hvm hw hB hz1 hk1 hS => ?_)
  try dsimp only at hw
  have hr_2 := hw
  have hP := rd_P hP hk1
  obtain rfl := hr_2.symm
  refine W.widen (k := 0) (n := 0) (Nat.le_refl _) (Nat.le_refl _) ?_
  -- leaf 0
  refine W.widen (k := 0) (n := 0) (Nat.le_of_ble_eq_true rfl) (Nat.le_of_ble_eq_true rfl) ?_
  exact W.iret (v := hi (nI p1).toNatClampNeg) hx hb hr (fun t ht hW => ⟨⟨hi (nI p1).toNatClampNeg, (), rfl, (by rw [nI_clamp (n := p1) (by omega)]), trivial⟩, hS.F ht⟩) hS.2.2 dX5_hit_12

set_option maxHeartbeats 4000000 in
set_option maxRecDepth 100000 in
theorem c_V_points (l : Launch) (D : va_G) (cI cZ cJ cA : ClassId) (sz : Nat) (a : Nat → Nat) (pt : Nat → Int32) (p1 : Nat) (h1 : p1 < 6) : Met l yX5_points wsX5_points ({ frames := 7, cells := 0, slots := 0, locals := 110 } : Room) (va_Pc [.ref (a 0), .int (nI p1)] (pcR D (tyL cI cZ cJ cA) [((a 0), .inr (5, [.ref (a 2), .ref (a 4), .ref (a 18), .ref (a 1)])), ((a 18), .inr (4, [.ref (a 19), .ref (a 20), .ref (a 21), .ref (a 22)])), ((a 19), .inl (cI, 6, .inl pt))] sz)) (va_Qi (fun (r : Int32) (u : Unit) => r = pt p1) (fun _ _ => True) (fun q : Nat => sz ≤ q)) 0 0 (fun q : Nat => sz ≤ q) := by
  refine Met.ofW (cc := cX5_points) (maxL := 2) (ret := (some .int)) (by decide) rfl ?_
  intro p e s m args below meth c s₁ B hml hv
  obtain ⟨rfl, hsz, hP, hK⟩ := hv
  have hx := B.exec
  have hb := B.bytes
  have hr := B.returns
  have hts := atoms_spec (ws := wsX5_points) B.pre
  have hown : s.vm.findClass RX5 = some m.cls := findClass_of_methodNamed B.named
  have hlocks := B.notSynchronized
  subst hsz
  have hA : ∀ q : Nat, s.heap.size ≤ q → (fun q : Nat => s.heap.size ≤ q) q := fun _ h => h
  have hS : va_S (fun q : Nat => s.heap.size ≤ q) s.heap s.heap [] := va_S.rf
  have hP : va_P D vwCl [((a 0), .inr (5, [.ref (a 2), .ref (a 4), .ref (a 18), .ref (a 1)])), ((a 18), .inr (4, [.ref (a 19), .ref (a 20), .ref (a 21), .ref (a 22)])), ((a 19), .inl (cI, 6, .inl pt))] s.heap := hP
  have hl := lv_entry ([.ref (a 0), .int (nI p1)]) (n := 2) (Nat.le_of_ble_eq_true rfl)
  rw [lg_entry_eq]
  generalize (lg_sl ([.ref (a 0), .int (nI p1)]) ++ List.replicate (2 - (lg_sl ([.ref (a 0), .int (nI p1)])).length) Slot.unset).toArray = ls at hl ⊢
  have hl : lv_has ls 2 [(0, .ref (a 0)), (1, .int (nI p1))] := hl
  have hf_26 := hts (.fieldLink RX5 26 "PaintballAtlas" "table" "LPaintballAtlas$Table;") (by decide +kernel)
  have hi_X5 : ∀ w ∈ wsX50, w ∈ wsX5_points := by decide +kernel
  refine lv_iload_n hx hb dX5_points_0 rfl (lv_at hl 1 rfl) ?_
  have hPc := hP.sub (ws' := []) [] rfl
  refine va_callv (va_runS (As := [.int (nI p1)]) (rest := []) ⟨hx, hb, hml, hown, hts⟩ (c_V_checkTeam l D cI cZ cJ cA s.heap.size p1 (by first | assumption | omega)) (va_cwS 1 hts gX5_points_X5_checkTeam rfl rfl rfl (by decide +kernel) ⟨Nat.le_of_ble_eq_true rfl, Nat.le_of_ble_eq_true rfl⟩) ⟨pcR_bl, fun U hU hW => ⟨rfl, by rw [hU], by rw [hU]; exact hPc, va_K.moved hW.alike hK⟩⟩ rfl rfl hl.1 rfl (lv_room (Nat.le_of_ble_eq_true rfl)) dX5_points_1 ⟨Nat.le_of_ble_eq_true rfl, Nat.le_of_ble_eq_true rfl⟩) hS (fun _ h1 h2 => absurd h1 (Nat.not_lt.mpr h2)) (rd_free hS hA) (fun u t H locs ht hvm hw hB hz1 hk1 hS => ?_)
  try dsimp only at hw
  have hP := rd_P hP hk1
  refine W.widen (k := 0) (n := 0) (Nat.le_refl _) (Nat.le_refl _) ?_
  refine lv_aload_n hx hb dX5_points_4 rfl (lv_at hl 0 rfl) ?_
  refine va_get (D := D) (ci := 5) (v := .ref (a 18)) (C := RX5) (T := TX5) (N := 4) hx hb hts hi_X5 hown hK hP 0 rfl rfl 2 (by decide) hf_26 (fun _ h9 => h9) rfl dX5_points_5 ?_
  refine lv_iload_n hx hb dX5_points_8 rfl (lv_at hl 1 rfl) ?_
  have hPc := hP.sub (ws' := [((a 18), .inr (4, [.ref (a 19), .ref (a 20), .ref (a 21), .ref (a 22)])), ((a 19), .inl (cI, 6, .inl pt))]) [1, 2] rfl
  refine va_calli (va_runV (As := [.int (nI p1)]) (rest := []) ⟨hx, hb, hml, hown, hts⟩ (c_X4_pointsOf l D cI cZ cJ cA H.size a pt (nI p1) (vp_in_nI (n := p1) (by omega) (by decide))) (cwV 1 hts gX5_points_X4_pointsOf rfl rfl rfl (by decide +kernel) ⟨Nat.le_of_ble_eq_true rfl, Nat.le_of_ble_eq_true rfl⟩) ⟨pcR_bl, va_recv hK hPc (ci := 4) (q0 := 0) rfl rfl, fun U hU hW => ⟨rfl, by rw [hU], by rw [hU]; exact hPc, va_K.moved hW.alike hK⟩⟩ rfl rfl hl.1 rfl (lv_room (Nat.le_of_ble_eq_true rfl)) dX5_points_9 ⟨Nat.le_of_ble_eq_true rfl, Nat.le_of_ble_eq_true rfl⟩) hS (fun _ h1 h2 => absurd h1 (Nat.not_lt.mpr h2)) (rd_free hS hA) (fun r_2 u t H locs ht hvm hw hB hz1 hk1 hS => ?_)
  try dsimp only at hw
  have hr_2 := hw
  have hP := rd_P hP hk1
  obtain rfl := hr_2.symm
  refine W.widen (k := 0) (n := 0) (Nat.le_refl _) (Nat.le_refl _) ?_
  -- leaf 0
  refine W.widen (k := 0) (n := 0) (Nat.le_of_ble_eq_true rfl) (Nat.le_of_ble_eq_true rfl) ?_
  exact W.iret (v := pt (nI p1).toNatClampNeg) hx hb hr (fun t ht hW => ⟨⟨pt (nI p1).toNatClampNeg, (), rfl, (by rw [nI_clamp (n := p1) (by omega)]), trivial⟩, hS.F ht⟩) hS.2.2 dX5_points_12

set_option maxHeartbeats 4000000 in
set_option maxRecDepth 100000 in
theorem c_V_fines (l : Launch) (D : va_G) (cI cZ cJ cA : ClassId) (sz : Nat) (a : Nat → Nat) (fn : Nat → Int32) (p1 : Nat) (h1 : p1 < 6) : Met l yX5_fines wsX5_fines ({ frames := 7, cells := 0, slots := 0, locals := 110 } : Room) (va_Pc [.ref (a 0), .int (nI p1)] (pcR D (tyL cI cZ cJ cA) [((a 0), .inr (5, [.ref (a 2), .ref (a 4), .ref (a 18), .ref (a 1)])), ((a 18), .inr (4, [.ref (a 19), .ref (a 20), .ref (a 21), .ref (a 22)])), ((a 20), .inl (cI, 6, .inl fn))] sz)) (va_Qi (fun (r : Int32) (u : Unit) => r = fn p1) (fun _ _ => True) (fun q : Nat => sz ≤ q)) 0 0 (fun q : Nat => sz ≤ q) := by
  refine Met.ofW (cc := cX5_fines) (maxL := 2) (ret := (some .int)) (by decide) rfl ?_
  intro p e s m args below meth c s₁ B hml hv
  obtain ⟨rfl, hsz, hP, hK⟩ := hv
  have hx := B.exec
  have hb := B.bytes
  have hr := B.returns
  have hts := atoms_spec (ws := wsX5_fines) B.pre
  have hown : s.vm.findClass RX5 = some m.cls := findClass_of_methodNamed B.named
  have hlocks := B.notSynchronized
  subst hsz
  have hA : ∀ q : Nat, s.heap.size ≤ q → (fun q : Nat => s.heap.size ≤ q) q := fun _ h => h
  have hS : va_S (fun q : Nat => s.heap.size ≤ q) s.heap s.heap [] := va_S.rf
  have hP : va_P D vwCl [((a 0), .inr (5, [.ref (a 2), .ref (a 4), .ref (a 18), .ref (a 1)])), ((a 18), .inr (4, [.ref (a 19), .ref (a 20), .ref (a 21), .ref (a 22)])), ((a 20), .inl (cI, 6, .inl fn))] s.heap := hP
  have hl := lv_entry ([.ref (a 0), .int (nI p1)]) (n := 2) (Nat.le_of_ble_eq_true rfl)
  rw [lg_entry_eq]
  generalize (lg_sl ([.ref (a 0), .int (nI p1)]) ++ List.replicate (2 - (lg_sl ([.ref (a 0), .int (nI p1)])).length) Slot.unset).toArray = ls at hl ⊢
  have hl : lv_has ls 2 [(0, .ref (a 0)), (1, .int (nI p1))] := hl
  have hf_26 := hts (.fieldLink RX5 26 "PaintballAtlas" "table" "LPaintballAtlas$Table;") (by decide +kernel)
  have hi_X5 : ∀ w ∈ wsX50, w ∈ wsX5_fines := by decide +kernel
  refine lv_iload_n hx hb dX5_fines_0 rfl (lv_at hl 1 rfl) ?_
  have hPc := hP.sub (ws' := []) [] rfl
  refine va_callv (va_runS (As := [.int (nI p1)]) (rest := []) ⟨hx, hb, hml, hown, hts⟩ (c_V_checkTeam l D cI cZ cJ cA s.heap.size p1 (by first | assumption | omega)) (va_cwS 1 hts gX5_fines_X5_checkTeam rfl rfl rfl (by decide +kernel) ⟨Nat.le_of_ble_eq_true rfl, Nat.le_of_ble_eq_true rfl⟩) ⟨pcR_bl, fun U hU hW => ⟨rfl, by rw [hU], by rw [hU]; exact hPc, va_K.moved hW.alike hK⟩⟩ rfl rfl hl.1 rfl (lv_room (Nat.le_of_ble_eq_true rfl)) dX5_fines_1 ⟨Nat.le_of_ble_eq_true rfl, Nat.le_of_ble_eq_true rfl⟩) hS (fun _ h1 h2 => absurd h1 (Nat.not_lt.mpr h2)) (rd_free hS hA) (fun u t H locs ht hvm hw hB hz1 hk1 hS => ?_)
  try dsimp only at hw
  have hP := rd_P hP hk1
  refine W.widen (k := 0) (n := 0) (Nat.le_refl _) (Nat.le_refl _) ?_
  refine lv_aload_n hx hb dX5_fines_4 rfl (lv_at hl 0 rfl) ?_
  refine va_get (D := D) (ci := 5) (v := .ref (a 18)) (C := RX5) (T := TX5) (N := 4) hx hb hts hi_X5 hown hK hP 0 rfl rfl 2 (by decide) hf_26 (fun _ h9 => h9) rfl dX5_fines_5 ?_
  refine lv_iload_n hx hb dX5_fines_8 rfl (lv_at hl 1 rfl) ?_
  have hPc := hP.sub (ws' := [((a 18), .inr (4, [.ref (a 19), .ref (a 20), .ref (a 21), .ref (a 22)])), ((a 20), .inl (cI, 6, .inl fn))]) [1, 2] rfl
  refine va_calli (va_runV (As := [.int (nI p1)]) (rest := []) ⟨hx, hb, hml, hown, hts⟩ (c_X4_finesOf l D cI cZ cJ cA H.size a fn (nI p1) (vp_in_nI (n := p1) (by omega) (by decide))) (cwV 1 hts gX5_fines_X4_finesOf rfl rfl rfl (by decide +kernel) ⟨Nat.le_of_ble_eq_true rfl, Nat.le_of_ble_eq_true rfl⟩) ⟨pcR_bl, va_recv hK hPc (ci := 4) (q0 := 0) rfl rfl, fun U hU hW => ⟨rfl, by rw [hU], by rw [hU]; exact hPc, va_K.moved hW.alike hK⟩⟩ rfl rfl hl.1 rfl (lv_room (Nat.le_of_ble_eq_true rfl)) dX5_fines_9 ⟨Nat.le_of_ble_eq_true rfl, Nat.le_of_ble_eq_true rfl⟩) hS (fun _ h1 h2 => absurd h1 (Nat.not_lt.mpr h2)) (rd_free hS hA) (fun r_2 u t H locs ht hvm hw hB hz1 hk1 hS => ?_)
  try dsimp only at hw
  have hr_2 := hw
  have hP := rd_P hP hk1
  obtain rfl := hr_2.symm
  refine W.widen (k := 0) (n := 0) (Nat.le_refl _) (Nat.le_refl _) ?_
  -- leaf 0
  refine W.widen (k := 0) (n := 0) (Nat.le_of_ble_eq_true rfl) (Nat.le_of_ble_eq_true rfl) ?_
  exact W.iret (v := fn (nI p1).toNatClampNeg) hx hb hr (fun t ht hW => ⟨⟨fn (nI p1).toNatClampNeg, (), rfl, (by rw [nI_clamp (n := p1) (by omega)]), trivial⟩, hS.F ht⟩) hS.2.2 dX5_fines_12

set_option maxHeartbeats 4000000 in
set_option maxRecDepth 100000 in
theorem c_V_difference (l : Launch) (D : va_G) (cI cZ cJ cA : ClassId) (sz : Nat) (a : Nat → Nat) (df : Nat → Int32) (p1 : Nat) (h1 : p1 < 6) : Met l yX5_difference wsX5_difference ({ frames := 7, cells := 0, slots := 0, locals := 110 } : Room) (va_Pc [.ref (a 0), .int (nI p1)] (pcR D (tyL cI cZ cJ cA) [((a 0), .inr (5, [.ref (a 2), .ref (a 4), .ref (a 18), .ref (a 1)])), ((a 18), .inr (4, [.ref (a 19), .ref (a 20), .ref (a 21), .ref (a 22)])), ((a 21), .inl (cI, 6, .inl df))] sz)) (va_Qi (fun (r : Int32) (u : Unit) => r = df p1) (fun _ _ => True) (fun q : Nat => sz ≤ q)) 0 0 (fun q : Nat => sz ≤ q) := by
  refine Met.ofW (cc := cX5_difference) (maxL := 2) (ret := (some .int)) (by decide) rfl ?_
  intro p e s m args below meth c s₁ B hml hv
  obtain ⟨rfl, hsz, hP, hK⟩ := hv
  have hx := B.exec
  have hb := B.bytes
  have hr := B.returns
  have hts := atoms_spec (ws := wsX5_difference) B.pre
  have hown : s.vm.findClass RX5 = some m.cls := findClass_of_methodNamed B.named
  have hlocks := B.notSynchronized
  subst hsz
  have hA : ∀ q : Nat, s.heap.size ≤ q → (fun q : Nat => s.heap.size ≤ q) q := fun _ h => h
  have hS : va_S (fun q : Nat => s.heap.size ≤ q) s.heap s.heap [] := va_S.rf
  have hP : va_P D vwCl [((a 0), .inr (5, [.ref (a 2), .ref (a 4), .ref (a 18), .ref (a 1)])), ((a 18), .inr (4, [.ref (a 19), .ref (a 20), .ref (a 21), .ref (a 22)])), ((a 21), .inl (cI, 6, .inl df))] s.heap := hP
  have hl := lv_entry ([.ref (a 0), .int (nI p1)]) (n := 2) (Nat.le_of_ble_eq_true rfl)
  rw [lg_entry_eq]
  generalize (lg_sl ([.ref (a 0), .int (nI p1)]) ++ List.replicate (2 - (lg_sl ([.ref (a 0), .int (nI p1)])).length) Slot.unset).toArray = ls at hl ⊢
  have hl : lv_has ls 2 [(0, .ref (a 0)), (1, .int (nI p1))] := hl
  have hf_26 := hts (.fieldLink RX5 26 "PaintballAtlas" "table" "LPaintballAtlas$Table;") (by decide +kernel)
  have hi_X5 : ∀ w ∈ wsX50, w ∈ wsX5_difference := by decide +kernel
  refine lv_iload_n hx hb dX5_difference_0 rfl (lv_at hl 1 rfl) ?_
  have hPc := hP.sub (ws' := []) [] rfl
  refine va_callv (va_runS (As := [.int (nI p1)]) (rest := []) ⟨hx, hb, hml, hown, hts⟩ (c_V_checkTeam l D cI cZ cJ cA s.heap.size p1 (by first | assumption | omega)) (va_cwS 1 hts gX5_difference_X5_checkTeam rfl rfl rfl (by decide +kernel) ⟨Nat.le_of_ble_eq_true rfl, Nat.le_of_ble_eq_true rfl⟩) ⟨pcR_bl, fun U hU hW => ⟨rfl, by rw [hU], by rw [hU]; exact hPc, va_K.moved hW.alike hK⟩⟩ rfl rfl hl.1 rfl (lv_room (Nat.le_of_ble_eq_true rfl)) dX5_difference_1 ⟨Nat.le_of_ble_eq_true rfl, Nat.le_of_ble_eq_true rfl⟩) hS (fun _ h1 h2 => absurd h1 (Nat.not_lt.mpr h2)) (rd_free hS hA) (fun u t H locs ht hvm hw hB hz1 hk1 hS => ?_)
  try dsimp only at hw
  have hP := rd_P hP hk1
  refine W.widen (k := 0) (n := 0) (Nat.le_refl _) (Nat.le_refl _) ?_
  refine lv_aload_n hx hb dX5_difference_4 rfl (lv_at hl 0 rfl) ?_
  refine va_get (D := D) (ci := 5) (v := .ref (a 18)) (C := RX5) (T := TX5) (N := 4) hx hb hts hi_X5 hown hK hP 0 rfl rfl 2 (by decide) hf_26 (fun _ h9 => h9) rfl dX5_difference_5 ?_
  refine lv_iload_n hx hb dX5_difference_8 rfl (lv_at hl 1 rfl) ?_
  have hPc := hP.sub (ws' := [((a 18), .inr (4, [.ref (a 19), .ref (a 20), .ref (a 21), .ref (a 22)])), ((a 21), .inl (cI, 6, .inl df))]) [1, 2] rfl
  refine va_calli (va_runV (As := [.int (nI p1)]) (rest := []) ⟨hx, hb, hml, hown, hts⟩ (c_X4_differenceOf l D cI cZ cJ cA H.size a df (nI p1) (vp_in_nI (n := p1) (by omega) (by decide))) (cwV 1 hts gX5_difference_X4_differenceOf rfl rfl rfl (by decide +kernel) ⟨Nat.le_of_ble_eq_true rfl, Nat.le_of_ble_eq_true rfl⟩) ⟨pcR_bl, va_recv hK hPc (ci := 4) (q0 := 0) rfl rfl, fun U hU hW => ⟨rfl, by rw [hU], by rw [hU]; exact hPc, va_K.moved hW.alike hK⟩⟩ rfl rfl hl.1 rfl (lv_room (Nat.le_of_ble_eq_true rfl)) dX5_difference_9 ⟨Nat.le_of_ble_eq_true rfl, Nat.le_of_ble_eq_true rfl⟩) hS (fun _ h1 h2 => absurd h1 (Nat.not_lt.mpr h2)) (rd_free hS hA) (fun r_2 u t H locs ht hvm hw hB hz1 hk1 hS => ?_)
  try dsimp only at hw
  have hr_2 := hw
  have hP := rd_P hP hk1
  obtain rfl := hr_2.symm
  refine W.widen (k := 0) (n := 0) (Nat.le_refl _) (Nat.le_refl _) ?_
  -- leaf 0
  refine W.widen (k := 0) (n := 0) (Nat.le_of_ble_eq_true rfl) (Nat.le_of_ble_eq_true rfl) ?_
  exact W.iret (v := df (nI p1).toNatClampNeg) hx hb hr (fun t ht hW => ⟨⟨df (nI p1).toNatClampNeg, (), rfl, (by rw [nI_clamp (n := p1) (by omega)]), trivial⟩, hS.F ht⟩) hS.2.2 dX5_difference_12

set_option maxHeartbeats 4000000 in
set_option maxRecDepth 100000 in
theorem c_V_place (l : Launch) (D : va_G) (cI cZ cJ cA : ClassId) (sz : Nat) (a : Nat → Nat) (pt : Nat → Int32) (df : Nat → Int32) (wn : Nat → Nat → Int32) (p1 : Nat) (h1 : p1 < 6) : Met l yX5_place wsX5_place ({ frames := 7, cells := 0, slots := 0, locals := 110 } : Room) (va_Pc [.ref (a 0), .int (nI p1)] (pcR D (tyL cI cZ cJ cA) [((a 0), .inr (5, [.ref (a 2), .ref (a 4), .ref (a 18), .ref (a 1)])), ((a 18), .inr (4, [.ref (a 19), .ref (a 20), .ref (a 21), .ref (a 22)])), ((a 19), .inl (cI, 6, .inl pt)), ((a 21), .inl (cI, 6, .inl df)), ((a 22), .inl (cA, 6, .inr (.inr (.inr (.inr (fun k9 => if k9 < 6 then some (a (23 + k9)) else none)))))), ((a (23 + 0)), .inl (cI, 6, .inl (wn 0))), ((a (23 + 1)), .inl (cI, 6, .inl (wn 1))), ((a (23 + 2)), .inl (cI, 6, .inl (wn 2))), ((a (23 + 3)), .inl (cI, 6, .inl (wn 3))), ((a (23 + 4)), .inl (cI, 6, .inl (wn 4))), ((a (23 + 5)), .inl (cI, 6, .inl (wn 5)))] sz)) (va_Qi (fun (r : Int32) (u : Unit) => r = plN pt df wn (nI p1) 6) (fun _ _ => True) (fun q : Nat => sz ≤ q)) 0 0 (fun q : Nat => sz ≤ q) := by
  refine Met.ofW (cc := cX5_place) (maxL := 2) (ret := (some .int)) (by decide) rfl ?_
  intro p e s m args below meth c s₁ B hml hv
  obtain ⟨rfl, hsz, hP, hK⟩ := hv
  have hx := B.exec
  have hb := B.bytes
  have hr := B.returns
  have hts := atoms_spec (ws := wsX5_place) B.pre
  have hown : s.vm.findClass RX5 = some m.cls := findClass_of_methodNamed B.named
  have hlocks := B.notSynchronized
  subst hsz
  have hA : ∀ q : Nat, s.heap.size ≤ q → (fun q : Nat => s.heap.size ≤ q) q := fun _ h => h
  have hS : va_S (fun q : Nat => s.heap.size ≤ q) s.heap s.heap [] := va_S.rf
  have hP : va_P D vwCl [((a 0), .inr (5, [.ref (a 2), .ref (a 4), .ref (a 18), .ref (a 1)])), ((a 18), .inr (4, [.ref (a 19), .ref (a 20), .ref (a 21), .ref (a 22)])), ((a 19), .inl (cI, 6, .inl pt)), ((a 21), .inl (cI, 6, .inl df)), ((a 22), .inl (cA, 6, .inr (.inr (.inr (.inr (fun k9 => if k9 < 6 then some (a (23 + k9)) else none)))))), ((a (23 + 0)), .inl (cI, 6, .inl (wn 0))), ((a (23 + 1)), .inl (cI, 6, .inl (wn 1))), ((a (23 + 2)), .inl (cI, 6, .inl (wn 2))), ((a (23 + 3)), .inl (cI, 6, .inl (wn 3))), ((a (23 + 4)), .inl (cI, 6, .inl (wn 4))), ((a (23 + 5)), .inl (cI, 6, .inl (wn 5)))] s.heap := hP
  have hl := lv_entry ([.ref (a 0), .int (nI p1)]) (n := 2) (Nat.le_of_ble_eq_true rfl)
  rw [lg_entry_eq]
  generalize (lg_sl ([.ref (a 0), .int (nI p1)]) ++ List.replicate (2 - (lg_sl ([.ref (a 0), .int (nI p1)])).length) Slot.unset).toArray = ls at hl ⊢
  have hl : lv_has ls 2 [(0, .ref (a 0)), (1, .int (nI p1))] := hl
  have hf_26 := hts (.fieldLink RX5 26 "PaintballAtlas" "table" "LPaintballAtlas$Table;") (by decide +kernel)
  have hi_X5 : ∀ w ∈ wsX50, w ∈ wsX5_place := by decide +kernel
  refine lv_iload_n hx hb dX5_place_0 rfl (lv_at hl 1 rfl) ?_
  have hPc := hP.sub (ws' := []) [] rfl
  refine va_callv (va_runS (As := [.int (nI p1)]) (rest := []) ⟨hx, hb, hml, hown, hts⟩ (c_V_checkTeam l D cI cZ cJ cA s.heap.size p1 (by first | assumption | omega)) (va_cwS 1 hts gX5_place_X5_checkTeam rfl rfl rfl (by decide +kernel) ⟨Nat.le_of_ble_eq_true rfl, Nat.le_of_ble_eq_true rfl⟩) ⟨pcR_bl, fun U hU hW => ⟨rfl, by rw [hU], by rw [hU]; exact hPc, va_K.moved hW.alike hK⟩⟩ rfl rfl hl.1 rfl (lv_room (Nat.le_of_ble_eq_true rfl)) dX5_place_1 ⟨Nat.le_of_ble_eq_true rfl, Nat.le_of_ble_eq_true rfl⟩) hS (fun _ h1 h2 => absurd h1 (Nat.not_lt.mpr h2)) (rd_free hS hA) (fun u t H locs ht hvm hw hB hz1 hk1 hS => ?_)
  try dsimp only at hw
  have hP := rd_P hP hk1
  refine W.widen (k := 0) (n := 0) (Nat.le_refl _) (Nat.le_refl _) ?_
  refine lv_aload_n hx hb dX5_place_4 rfl (lv_at hl 0 rfl) ?_
  refine va_get (D := D) (ci := 5) (v := .ref (a 18)) (C := RX5) (T := TX5) (N := 4) hx hb hts hi_X5 hown hK hP 0 rfl rfl 2 (by decide) hf_26 (fun _ h9 => h9) rfl dX5_place_5 ?_
  refine lv_iload_n hx hb dX5_place_8 rfl (lv_at hl 1 rfl) ?_
  have hPc := hP.sub (ws' := [((a 18), .inr (4, [.ref (a 19), .ref (a 20), .ref (a 21), .ref (a 22)])), ((a 19), .inl (cI, 6, .inl pt)), ((a 21), .inl (cI, 6, .inl df)), ((a 22), .inl (cA, 6, .inr (.inr (.inr (.inr (fun k9 => if k9 < 6 then some (a (23 + k9)) else none)))))), ((a (23 + 0)), .inl (cI, 6, .inl (wn 0))), ((a (23 + 1)), .inl (cI, 6, .inl (wn 1))), ((a (23 + 2)), .inl (cI, 6, .inl (wn 2))), ((a (23 + 3)), .inl (cI, 6, .inl (wn 3))), ((a (23 + 4)), .inl (cI, 6, .inl (wn 4))), ((a (23 + 5)), .inl (cI, 6, .inl (wn 5)))]) [1, 2, 3, 4, 5, 6, 7, 8, 9, 10] rfl
  refine va_calli (va_runV (As := [.int (nI p1)]) (rest := []) ⟨hx, hb, hml, hown, hts⟩ (c_X4_placeOf l D cI cZ cJ cA H.size a pt df wn (nI p1) (vp_in_nI (n := p1) (by omega) (by decide))) (cwV 1 hts gX5_place_X4_placeOf rfl rfl rfl (by decide +kernel) ⟨Nat.le_of_ble_eq_true rfl, Nat.le_of_ble_eq_true rfl⟩) ⟨pcR_bl, va_recv hK hPc (ci := 4) (q0 := 0) rfl rfl, fun U hU hW => ⟨rfl, by rw [hU], by rw [hU]; exact hPc, va_K.moved hW.alike hK⟩⟩ rfl rfl hl.1 rfl (lv_room (Nat.le_of_ble_eq_true rfl)) dX5_place_9 ⟨Nat.le_of_ble_eq_true rfl, Nat.le_of_ble_eq_true rfl⟩) hS (fun _ h1 h2 => absurd h1 (Nat.not_lt.mpr h2)) (rd_free hS hA) (fun r_2 u t H locs ht hvm hw hB hz1 hk1 hS => ?_)
  try dsimp only at hw
  have hr_2 := hw
  have hP := rd_P hP hk1
  obtain rfl := hr_2.symm
  refine W.widen (k := 0) (n := 0) (Nat.le_refl _) (Nat.le_refl _) ?_
  -- leaf 0
  refine W.widen (k := 0) (n := 0) (Nat.le_of_ble_eq_true rfl) (Nat.le_of_ble_eq_true rfl) ?_
  exact W.iret (v := plN pt df wn (nI p1) 6) hx hb hr (fun t ht hW => ⟨⟨plN pt df wn (nI p1) 6, (), rfl, rfl, trivial⟩, hS.F ht⟩) hS.2.2 dX5_place_12

set_option maxHeartbeats 4000000 in
set_option maxRecDepth 100000 in
theorem c_V_end (l : Launch) (D : va_G) (cI cZ cJ cA : ClassId) (sz : Nat) (a : Nat → Nat) (hm : Int32) (aw : Int32) (tk : Int32) (ce : Nat → Int32) (hi : Nat → Int32) (la : Nat → Int32) (sn : Nat) (kn : Nat) (pt : Nat → Int32) (fn : Nat → Int32) (df : Nat → Int32) (wn : Nat → Nat → Int32) (hon : ¬ (f_X2_isPlayed hm aw tk) = 0) (hhm : vp_in hm 6) (haw : vp_in aw 6) : Met l yX5_end wsX5_end ({ frames := 7, cells := 0, slots := 0, locals := 110 } : Room) (va_Pc [.ref (a 0)] (pcW D (tyL cI cZ cJ cA) [((a 0), .inr (5, [.ref (a 2), .ref (a 4), .ref (a 18), .ref (a 1)])), ((a 4), .inr (2, [.int hm, .int aw, .int tk, .ref (a 5), .ref (a 6), .ref (a 7), .ref (a 8), .ref (a 13)])), ((a 5), .inl (cI, 6, .inl ce)), ((a 6), .inl (cI, 6, .inl hi)), ((a 7), .inl (cI, 6, .inl la)), ((a 8), .inr (3, [.int (nI sn), .ref (a 9), .ref (a 10), .ref (a 11), .ref (a 12)])), ((a 13), .inr (0, [.int (nI kn), .ref (a 14), .ref (a 15), .ref (a 16), .ref (a 17)])), ((a 18), .inr (4, [.ref (a 19), .ref (a 20), .ref (a 21), .ref (a 22)])), ((a 19), .inl (cI, 6, .inl pt)), ((a 20), .inl (cI, 6, .inl fn)), ((a 21), .inl (cI, 6, .inl df)), ((a 22), .inl (cA, 6, .inr (.inr (.inr (.inr (fun k9 => if k9 < 6 then some (a (23 + k9)) else none)))))), ((a (23 + 0)), .inl (cI, 6, .inl (wn 0))), ((a (23 + 1)), .inl (cI, 6, .inl (wn 1))), ((a (23 + 2)), .inl (cI, 6, .inl (wn 2))), ((a (23 + 3)), .inl (cI, 6, .inl (wn 3))), ((a (23 + 4)), .inl (cI, 6, .inl (wn 4))), ((a (23 + 5)), .inl (cI, 6, .inl (wn 5)))] sz)) (va_Qi (fun (r : Int32) (u : (Int32) × (Nat → Int32) × (Nat → Int32) × (Nat → Int32) × (Nat) × (Nat) × (Nat → Int32) × (Nat → Int32) × (Nat → Int32) × (Nat → Nat → Int32)) => r = mgN ce hi 6 ∧ u.1 = (-1) ∧ u.2.1 = (fillN ce (-2) 6) ∧ u.2.2.1 = (fillN hi (-1) 6) ∧ u.2.2.2.1 = (fillN la (-1) 6) ∧ u.2.2.2.2.1 = 0 ∧ u.2.2.2.2.2.1 = 0 ∧ u.2.2.2.2.2.2.1 = (g_pt_X4_enter pt fn df wn hm aw (mgN ce hi 6)) ∧ u.2.2.2.2.2.2.2.1 = (g_fn_X4_enter pt fn df wn hm aw (mgN ce hi 6)) ∧ u.2.2.2.2.2.2.2.2.1 = (g_df_X4_enter pt fn df wn hm aw (mgN ce hi 6)) ∧ u.2.2.2.2.2.2.2.2.2 = (g_wn_X4_enter pt fn df wn hm aw (mgN ce hi 6))) (fun u t => bcW D (tyL cI cZ cJ cA) (va_A [((a 0), .inr (5, [.ref (a 2), .ref (a 4), .ref (a 18), .ref (a 1)])), ((a 4), .inr (2, [.int hm, .int aw, .int tk, .ref (a 5), .ref (a 6), .ref (a 7), .ref (a 8), .ref (a 13)])), ((a 5), .inl (cI, 6, .inl ce)), ((a 6), .inl (cI, 6, .inl hi)), ((a 7), .inl (cI, 6, .inl la)), ((a 8), .inr (3, [.int (nI sn), .ref (a 9), .ref (a 10), .ref (a 11), .ref (a 12)])), ((a 13), .inr (0, [.int (nI kn), .ref (a 14), .ref (a 15), .ref (a 16), .ref (a 17)])), ((a 18), .inr (4, [.ref (a 19), .ref (a 20), .ref (a 21), .ref (a 22)])), ((a 19), .inl (cI, 6, .inl pt)), ((a 20), .inl (cI, 6, .inl fn)), ((a 21), .inl (cI, 6, .inl df)), ((a 22), .inl (cA, 6, .inr (.inr (.inr (.inr (fun k9 => if k9 < 6 then some (a (23 + k9)) else none)))))), ((a (23 + 0)), .inl (cI, 6, .inl (wn 0))), ((a (23 + 1)), .inl (cI, 6, .inl (wn 1))), ((a (23 + 2)), .inl (cI, 6, .inl (wn 2))), ((a (23 + 3)), .inl (cI, 6, .inl (wn 3))), ((a (23 + 4)), .inl (cI, 6, .inl (wn 4))), ((a (23 + 5)), .inl (cI, 6, .inl (wn 5)))] sz) [((a 0), .inr (5, [.ref (a 2), .ref (a 4), .ref (a 18), .ref (a 1)])), ((a 4), .inr (2, [.int hm, .int aw, .int u.1, .ref (a 5), .ref (a 6), .ref (a 7), .ref (a 8), .ref (a 13)])), ((a 5), .inl (cI, 6, .inl u.2.1)), ((a 6), .inl (cI, 6, .inl u.2.2.1)), ((a 7), .inl (cI, 6, .inl u.2.2.2.1)), ((a 8), .inr (3, [.int (nI u.2.2.2.2.1), .ref (a 9), .ref (a 10), .ref (a 11), .ref (a 12)])), ((a 13), .inr (0, [.int (nI u.2.2.2.2.2.1), .ref (a 14), .ref (a 15), .ref (a 16), .ref (a 17)])), ((a 18), .inr (4, [.ref (a 19), .ref (a 20), .ref (a 21), .ref (a 22)])), ((a 19), .inl (cI, 6, .inl u.2.2.2.2.2.2.1)), ((a 20), .inl (cI, 6, .inl u.2.2.2.2.2.2.2.1)), ((a 21), .inl (cI, 6, .inl u.2.2.2.2.2.2.2.2.1)), ((a 22), .inl (cA, 6, .inr (.inr (.inr (.inr (fun k9 => if k9 < 6 then some (a (23 + k9)) else none)))))), ((a (23 + 0)), .inl (cI, 6, .inl (u.2.2.2.2.2.2.2.2.2 0))), ((a (23 + 1)), .inl (cI, 6, .inl (u.2.2.2.2.2.2.2.2.2 1))), ((a (23 + 2)), .inl (cI, 6, .inl (u.2.2.2.2.2.2.2.2.2 2))), ((a (23 + 3)), .inl (cI, 6, .inl (u.2.2.2.2.2.2.2.2.2 3))), ((a (23 + 4)), .inl (cI, 6, .inl (u.2.2.2.2.2.2.2.2.2 4))), ((a (23 + 5)), .inl (cI, 6, .inl (u.2.2.2.2.2.2.2.2.2 5)))] t) (va_A [((a 0), .inr (5, [.ref (a 2), .ref (a 4), .ref (a 18), .ref (a 1)])), ((a 4), .inr (2, [.int hm, .int aw, .int tk, .ref (a 5), .ref (a 6), .ref (a 7), .ref (a 8), .ref (a 13)])), ((a 5), .inl (cI, 6, .inl ce)), ((a 6), .inl (cI, 6, .inl hi)), ((a 7), .inl (cI, 6, .inl la)), ((a 8), .inr (3, [.int (nI sn), .ref (a 9), .ref (a 10), .ref (a 11), .ref (a 12)])), ((a 13), .inr (0, [.int (nI kn), .ref (a 14), .ref (a 15), .ref (a 16), .ref (a 17)])), ((a 18), .inr (4, [.ref (a 19), .ref (a 20), .ref (a 21), .ref (a 22)])), ((a 19), .inl (cI, 6, .inl pt)), ((a 20), .inl (cI, 6, .inl fn)), ((a 21), .inl (cI, 6, .inl df)), ((a 22), .inl (cA, 6, .inr (.inr (.inr (.inr (fun k9 => if k9 < 6 then some (a (23 + k9)) else none)))))), ((a (23 + 0)), .inl (cI, 6, .inl (wn 0))), ((a (23 + 1)), .inl (cI, 6, .inl (wn 1))), ((a (23 + 2)), .inl (cI, 6, .inl (wn 2))), ((a (23 + 3)), .inl (cI, 6, .inl (wn 3))), ((a (23 + 4)), .inl (cI, 6, .inl (wn 4))), ((a (23 + 5)), .inl (cI, 6, .inl (wn 5)))] sz)) 0 0 (va_A [((a 0), .inr (5, [.ref (a 2), .ref (a 4), .ref (a 18), .ref (a 1)])), ((a 4), .inr (2, [.int hm, .int aw, .int tk, .ref (a 5), .ref (a 6), .ref (a 7), .ref (a 8), .ref (a 13)])), ((a 5), .inl (cI, 6, .inl ce)), ((a 6), .inl (cI, 6, .inl hi)), ((a 7), .inl (cI, 6, .inl la)), ((a 8), .inr (3, [.int (nI sn), .ref (a 9), .ref (a 10), .ref (a 11), .ref (a 12)])), ((a 13), .inr (0, [.int (nI kn), .ref (a 14), .ref (a 15), .ref (a 16), .ref (a 17)])), ((a 18), .inr (4, [.ref (a 19), .ref (a 20), .ref (a 21), .ref (a 22)])), ((a 19), .inl (cI, 6, .inl pt)), ((a 20), .inl (cI, 6, .inl fn)), ((a 21), .inl (cI, 6, .inl df)), ((a 22), .inl (cA, 6, .inr (.inr (.inr (.inr (fun k9 => if k9 < 6 then some (a (23 + k9)) else none)))))), ((a (23 + 0)), .inl (cI, 6, .inl (wn 0))), ((a (23 + 1)), .inl (cI, 6, .inl (wn 1))), ((a (23 + 2)), .inl (cI, 6, .inl (wn 2))), ((a (23 + 3)), .inl (cI, 6, .inl (wn 3))), ((a (23 + 4)), .inl (cI, 6, .inl (wn 4))), ((a (23 + 5)), .inl (cI, 6, .inl (wn 5)))] sz) := by
  refine Met.ofW (cc := cX5_end) (maxL := 2) (ret := (some .int)) (by decide) rfl ?_
  intro p e s m args below meth c s₁ B hml hv
  obtain ⟨rfl, hsz, hP, hK, hD0⟩ := hv
  have hx := B.exec
  have hb := B.bytes
  have hr := B.returns
  have hts := atoms_spec (ws := wsX5_end) B.pre
  have hown : s.vm.findClass RX5 = some m.cls := findClass_of_methodNamed B.named
  have hlocks := B.notSynchronized
  subst hsz
  have hD := hD0.self (sz := s.heap.size)
  generalize hAe : va_A [((a 0), .inr (5, [.ref (a 2), .ref (a 4), .ref (a 18), .ref (a 1)])), ((a 4), .inr (2, [.int hm, .int aw, .int tk, .ref (a 5), .ref (a 6), .ref (a 7), .ref (a 8), .ref (a 13)])), ((a 5), .inl (cI, 6, .inl ce)), ((a 6), .inl (cI, 6, .inl hi)), ((a 7), .inl (cI, 6, .inl la)), ((a 8), .inr (3, [.int (nI sn), .ref (a 9), .ref (a 10), .ref (a 11), .ref (a 12)])), ((a 13), .inr (0, [.int (nI kn), .ref (a 14), .ref (a 15), .ref (a 16), .ref (a 17)])), ((a 18), .inr (4, [.ref (a 19), .ref (a 20), .ref (a 21), .ref (a 22)])), ((a 19), .inl (cI, 6, .inl pt)), ((a 20), .inl (cI, 6, .inl fn)), ((a 21), .inl (cI, 6, .inl df)), ((a 22), .inl (cA, 6, .inr (.inr (.inr (.inr (fun k9 => if k9 < 6 then some (a (23 + k9)) else none)))))), ((a (23 + 0)), .inl (cI, 6, .inl (wn 0))), ((a (23 + 1)), .inl (cI, 6, .inl (wn 1))), ((a (23 + 2)), .inl (cI, 6, .inl (wn 2))), ((a (23 + 3)), .inl (cI, 6, .inl (wn 3))), ((a (23 + 4)), .inl (cI, 6, .inl (wn 4))), ((a (23 + 5)), .inl (cI, 6, .inl (wn 5)))] s.heap.size = A at hD ⊢
  have hA : ∀ q : Nat, s.heap.size ≤ q → A q := fun q h => by rw [← hAe]; exact Or.inr h
  have hAR : ∀ q : Nat, s.heap.size ≤ q → (fun q : Nat => s.heap.size ≤ q) q := fun _ h => h
  have hS : va_S A s.heap s.heap [] := va_S.rf
  have hP : va_P D vwCl [((a 0), .inr (5, [.ref (a 2), .ref (a 4), .ref (a 18), .ref (a 1)])), ((a 4), .inr (2, [.int hm, .int aw, .int tk, .ref (a 5), .ref (a 6), .ref (a 7), .ref (a 8), .ref (a 13)])), ((a 5), .inl (cI, 6, .inl ce)), ((a 6), .inl (cI, 6, .inl hi)), ((a 7), .inl (cI, 6, .inl la)), ((a 8), .inr (3, [.int (nI sn), .ref (a 9), .ref (a 10), .ref (a 11), .ref (a 12)])), ((a 13), .inr (0, [.int (nI kn), .ref (a 14), .ref (a 15), .ref (a 16), .ref (a 17)])), ((a 18), .inr (4, [.ref (a 19), .ref (a 20), .ref (a 21), .ref (a 22)])), ((a 19), .inl (cI, 6, .inl pt)), ((a 20), .inl (cI, 6, .inl fn)), ((a 21), .inl (cI, 6, .inl df)), ((a 22), .inl (cA, 6, .inr (.inr (.inr (.inr (fun k9 => if k9 < 6 then some (a (23 + k9)) else none)))))), ((a (23 + 0)), .inl (cI, 6, .inl (wn 0))), ((a (23 + 1)), .inl (cI, 6, .inl (wn 1))), ((a (23 + 2)), .inl (cI, 6, .inl (wn 2))), ((a (23 + 3)), .inl (cI, 6, .inl (wn 3))), ((a (23 + 4)), .inl (cI, 6, .inl (wn 4))), ((a (23 + 5)), .inl (cI, 6, .inl (wn 5)))] s.heap := hP
  have hl := lv_entry ([.ref (a 0)]) (n := 2) (Nat.le_of_ble_eq_true rfl)
  rw [lg_entry_eq]
  generalize (lg_sl ([.ref (a 0)]) ++ List.replicate (2 - (lg_sl ([.ref (a 0)])).length) Slot.unset).toArray = ls at hl ⊢
  have hl : lv_has ls 2 [(0, .ref (a 0))] := hl
  have hf_19 := hts (.fieldLink RX5 19 "PaintballAtlas" "round" "LPaintballAtlas$Round;") (by decide +kernel)
  have hi_X5 : ∀ w ∈ wsX50, w ∈ wsX5_end := by decide +kernel
  have hf_26 := hts (.fieldLink RX5 26 "PaintballAtlas" "table" "LPaintballAtlas$Table;") (by decide +kernel)
  refine lv_aload_n hx hb dX5_end_0 rfl (lv_at hl 0 rfl) ?_
  have hPc := hP.sub (ws' := [((a 0), .inr (5, [.ref (a 2), .ref (a 4), .ref (a 18), .ref (a 1)])), ((a 4), .inr (2, [.int hm, .int aw, .int tk, .ref (a 5), .ref (a 6), .ref (a 7), .ref (a 8), .ref (a 13)]))]) [0, 1] rfl
  refine va_callv (va_runV (As := []) (rest := []) ⟨hx, hb, hml, hown, hts⟩ (c_V_checkRound l D cI cZ cJ cA s.heap.size a hm aw tk (by first | assumption | omega)) (cwV 0 hts gX5_end_X5_checkRound rfl rfl rfl (by decide +kernel) ⟨Nat.le_of_ble_eq_true rfl, Nat.le_of_ble_eq_true rfl⟩) ⟨pcR_bl, va_recv hK hPc (ci := 5) (q0 := 0) rfl rfl, fun U hU hW => ⟨rfl, by rw [hU], by rw [hU]; exact hPc, va_K.moved hW.alike hK⟩⟩ rfl rfl hl.1 rfl (lv_room (Nat.le_of_ble_eq_true rfl)) dX5_end_1 ⟨Nat.le_of_ble_eq_true rfl, Nat.le_of_ble_eq_true rfl⟩) hS (fun _ h1 h2 => absurd h1 (Nat.not_lt.mpr h2)) (rd_free hS hA) (fun u t H locs ht hvm hw hB hz1 hk1 hS => ?_)
  try dsimp only at hw
  have hP := rd_P hP hk1
  refine W.widen (k := 0) (n := 0) (Nat.le_refl _) (Nat.le_refl _) ?_
  refine lv_aload_n hx hb dX5_end_4 rfl (lv_at hl 0 rfl) ?_
  refine va_get (D := D) (ci := 5) (v := .ref (a 4)) (C := RX5) (T := TX5) (N := 4) hx hb hts hi_X5 hown hK hP 0 rfl rfl 1 (by decide) hf_19 (fun _ h9 => h9) rfl dX5_end_5 ?_
  have hPc := hP.sub (ws' := [((a 4), .inr (2, [.int hm, .int aw, .int tk, .ref (a 5), .ref (a 6), .ref (a 7), .ref (a 8), .ref (a 13)])), ((a 5), .inl (cI, 6, .inl ce)), ((a 6), .inl (cI, 6, .inl hi))]) [1, 2, 3] rfl
  refine va_calli (va_runV (As := []) (rest := []) ⟨hx, hb, hml, hown, hts⟩ (c_X2_margin l D cI cZ cJ cA H.size a hm aw tk ce hi) (cwV 0 hts gX5_end_X2_margin rfl rfl rfl (by decide +kernel) ⟨Nat.le_of_ble_eq_true rfl, Nat.le_of_ble_eq_true rfl⟩) ⟨pcR_bl, va_recv hK hPc (ci := 2) (q0 := 0) rfl rfl, fun U hU hW => ⟨rfl, by rw [hU], by rw [hU]; exact hPc, va_K.moved hW.alike hK⟩⟩ rfl rfl hl.1 rfl (lv_room (Nat.le_of_ble_eq_true rfl)) dX5_end_8 ⟨Nat.le_of_ble_eq_true rfl, Nat.le_of_ble_eq_true rfl⟩) hS (fun _ h1 h2 => absurd h1 (Nat.not_lt.mpr h2)) (rd_free hS hA) (fun r_2 u t H locs ht hvm hw hB hz1 hk1 hS => ?_)
  try dsimp only at hw
  have hr_2 := hw
  have hP := rd_P hP hk1
  obtain rfl := hr_2.symm
  refine W.widen (k := 0) (n := 0) (Nat.le_refl _) (Nat.le_refl _) ?_
  refine lv_istore_n (lv' := [(1, .int (mgN ce hi 6)), (0, .ref (a 0))]) hx hb dX5_end_11 rfl hl (by decide) rfl (fun ls hl => ?_)
  refine lv_aload_n hx hb dX5_end_12 rfl (lv_at hl 1 rfl) ?_
  refine va_get (D := D) (ci := 5) (v := .ref (a 18)) (C := RX5) (T := TX5) (N := 4) hx hb hts hi_X5 hown hK hP 0 rfl rfl 2 (by decide) hf_26 (fun _ h9 => h9) rfl dX5_end_13 ?_
  refine lv_aload_n hx hb dX5_end_16 rfl (lv_at hl 1 rfl) ?_
  refine va_get (D := D) (ci := 5) (v := .ref (a 4)) (C := RX5) (T := TX5) (N := 4) hx hb hts hi_X5 hown hK hP 0 rfl rfl 1 (by decide) hf_19 (fun _ h9 => h9) rfl dX5_end_17 ?_
  have hPc := hP.sub (ws' := [((a 4), .inr (2, [.int hm, .int aw, .int tk, .ref (a 5), .ref (a 6), .ref (a 7), .ref (a 8), .ref (a 13)]))]) [1] rfl
  refine va_calli (va_runV (As := []) (rest := [.ref (a 18)]) ⟨hx, hb, hml, hown, hts⟩ (c_X2_homeTeam l D cI cZ cJ cA H.size a hm aw tk) (cwV 0 hts gX5_end_X2_homeTeam rfl rfl rfl (by decide +kernel) ⟨Nat.le_of_ble_eq_true rfl, Nat.le_of_ble_eq_true rfl⟩) ⟨pcR_bl, va_recv hK hPc (ci := 2) (q0 := 0) rfl rfl, fun U hU hW => ⟨rfl, by rw [hU], by rw [hU]; exact hPc, va_K.moved hW.alike hK⟩⟩ rfl rfl hl.1 rfl (lv_room (Nat.le_of_ble_eq_true rfl)) dX5_end_20 ⟨Nat.le_of_ble_eq_true rfl, Nat.le_of_ble_eq_true rfl⟩) hS (fun _ h1 h2 => absurd h1 (Nat.not_lt.mpr h2)) (rd_free hS hA) (fun r_3 u t H locs ht hvm hw hB hz1 hk1 hS => ?_)
  try dsimp only at hw
  have hr_3 := hw
  have hP := rd_P hP hk1
  obtain rfl := hr_3.symm
  refine W.widen (k := 0) (n := 0) (Nat.le_refl _) (Nat.le_refl _) ?_
  refine lv_aload_n hx hb dX5_end_23 rfl (lv_at hl 1 rfl) ?_
  refine va_get (D := D) (ci := 5) (v := .ref (a 4)) (C := RX5) (T := TX5) (N := 4) hx hb hts hi_X5 hown hK hP 0 rfl rfl 1 (by decide) hf_19 (fun _ h9 => h9) rfl dX5_end_24 ?_
  have hPc := hP.sub (ws' := [((a 4), .inr (2, [.int hm, .int aw, .int tk, .ref (a 5), .ref (a 6), .ref (a 7), .ref (a 8), .ref (a 13)]))]) [1] rfl
  refine va_calli (va_runV (As := []) (rest := [.int hm, .ref (a 18)]) ⟨hx, hb, hml, hown, hts⟩ (c_X2_awayTeam l D cI cZ cJ cA H.size a hm aw tk) (cwV 0 hts gX5_end_X2_awayTeam rfl rfl rfl (by decide +kernel) ⟨Nat.le_of_ble_eq_true rfl, Nat.le_of_ble_eq_true rfl⟩) ⟨pcR_bl, va_recv hK hPc (ci := 2) (q0 := 0) rfl rfl, fun U hU hW => ⟨rfl, by rw [hU], by rw [hU]; exact hPc, va_K.moved hW.alike hK⟩⟩ rfl rfl hl.1 rfl (lv_room (Nat.le_of_ble_eq_true rfl)) dX5_end_27 ⟨Nat.le_of_ble_eq_true rfl, Nat.le_of_ble_eq_true rfl⟩) hS (fun _ h1 h2 => absurd h1 (Nat.not_lt.mpr h2)) (rd_free hS hA) (fun r_4 u t H locs ht hvm hw hB hz1 hk1 hS => ?_)
  try dsimp only at hw
  have hr_4 := hw
  have hP := rd_P hP hk1
  obtain rfl := hr_4.symm
  refine W.widen (k := 0) (n := 0) (Nat.le_refl _) (Nat.le_refl _) ?_
  refine lv_iload_n hx hb dX5_end_30 rfl (lv_at hl 0 rfl) ?_
  have hPc := hP.sub (ws' := [((a 18), .inr (4, [.ref (a 19), .ref (a 20), .ref (a 21), .ref (a 22)])), ((a 19), .inl (cI, 6, .inl pt)), ((a 20), .inl (cI, 6, .inl fn)), ((a 21), .inl (cI, 6, .inl df)), ((a 22), .inl (cA, 6, .inr (.inr (.inr (.inr (fun k9 => if k9 < 6 then some (a (23 + k9)) else none)))))), ((a (23 + 0)), .inl (cI, 6, .inl (wn 0))), ((a (23 + 1)), .inl (cI, 6, .inl (wn 1))), ((a (23 + 2)), .inl (cI, 6, .inl (wn 2))), ((a (23 + 3)), .inl (cI, 6, .inl (wn 3))), ((a (23 + 4)), .inl (cI, 6, .inl (wn 4))), ((a (23 + 5)), .inl (cI, 6, .inl (wn 5)))]) [7, 8, 9, 10, 11, 12, 13, 14, 15, 16, 17] rfl
  have hDc := hD.sub (ws' := [((a 18), .inr (4, [.ref (a 19), .ref (a 20), .ref (a 21), .ref (a 22)])), ((a 19), .inl (cI, 6, .inl pt)), ((a 20), .inl (cI, 6, .inl fn)), ((a 21), .inl (cI, 6, .inl df)), ((a 22), .inl (cA, 6, .inr (.inr (.inr (.inr (fun k9 => if k9 < 6 then some (a (23 + k9)) else none)))))), ((a (23 + 0)), .inl (cI, 6, .inl (wn 0))), ((a (23 + 1)), .inl (cI, 6, .inl (wn 1))), ((a (23 + 2)), .inl (cI, 6, .inl (wn 2))), ((a (23 + 3)), .inl (cI, 6, .inl (wn 3))), ((a (23 + 4)), .inl (cI, 6, .inl (wn 4))), ((a (23 + 5)), .inl (cI, 6, .inl (wn 5)))]) [7, 8, 9, 10, 11, 12, 13, 14, 15, 16, 17] (by decide) rfl
  have hFc := va_free (wc := [((a 18), .inr (4, [.ref (a 19), .ref (a 20), .ref (a 21), .ref (a 22)])), ((a 19), .inl (cI, 6, .inl pt)), ((a 20), .inl (cI, 6, .inl fn)), ((a 21), .inl (cI, 6, .inl df)), ((a 22), .inl (cA, 6, .inr (.inr (.inr (.inr (fun k9 => if k9 < 6 then some (a (23 + k9)) else none)))))), ((a (23 + 0)), .inl (cI, 6, .inl (wn 0))), ((a (23 + 1)), .inl (cI, 6, .inl (wn 1))), ((a (23 + 2)), .inl (cI, 6, .inl (wn 2))), ((a (23 + 3)), .inl (cI, 6, .inl (wn 3))), ((a (23 + 4)), .inl (cI, 6, .inl (wn 4))), ((a (23 + 5)), .inl (cI, 6, .inl (wn 5)))]) hD hS hA [7, 8, 9, 10, 11, 12, 13, 14, 15, 16, 17] rfl
  refine va_callv (va_runV (As := [.int hm, .int aw, .int (mgN ce hi 6)]) (rest := []) ⟨hx, hb, hml, hown, hts⟩ (c_X4_enter l D cI cZ cJ cA H.size a pt fn df wn hm aw (mgN ce hi 6) (by assumption) (by assumption)) (cwV 3 hts gX5_end_X4_enter rfl rfl rfl (by decide +kernel) ⟨Nat.le_of_ble_eq_true rfl, Nat.le_of_ble_eq_true rfl⟩) ⟨pcW_bl, va_recv hK hPc (ci := 4) (q0 := 0) rfl rfl, fun U hU hW => ⟨rfl, by rw [hU], by rw [hU]; exact hPc, va_K.moved hW.alike hK, hDc.weaken (fun _ _ _ _ => trivial)⟩⟩ rfl rfl hl.1 rfl (lv_room (Nat.le_of_ble_eq_true rfl)) dX5_end_31 ⟨Nat.le_of_ble_eq_true rfl, Nat.le_of_ble_eq_true rfl⟩) hS (fun q _ h => hFc q h) hFc (fun u t H locs ht hvm hw hB hz1 hk1 hS => ?_)
  try dsimp only at hw
  obtain ⟨u0_5, u1_5, u2_5, u3_5⟩ := u
  try dsimp only at hw
  obtain ⟨hu0_5, hu1_5, hu2_5, hu3_5⟩ := hw
  obtain ⟨hP1, hK1, hD1⟩ := hB
  rw [ht] at hP1
  obtain ⟨hP, hD⟩ := va_join (wr := [((a 0), .inr (5, [.ref (a 2), .ref (a 4), .ref (a 18), .ref (a 1)])), ((a 4), .inr (2, [.int hm, .int aw, .int tk, .ref (a 5), .ref (a 6), .ref (a 7), .ref (a 8), .ref (a 13)])), ((a 5), .inl (cI, 6, .inl ce)), ((a 6), .inl (cI, 6, .inl hi)), ((a 7), .inl (cI, 6, .inl la)), ((a 8), .inr (3, [.int (nI sn), .ref (a 9), .ref (a 10), .ref (a 11), .ref (a 12)])), ((a 13), .inr (0, [.int (nI kn), .ref (a 14), .ref (a 15), .ref (a 16), .ref (a 17)]))]) (w1 := [((a 18), .inr (4, [.ref (a 19), .ref (a 20), .ref (a 21), .ref (a 22)])), ((a 19), .inl (cI, 6, .inl u0_5)), ((a 20), .inl (cI, 6, .inl u1_5)), ((a 21), .inl (cI, 6, .inl u2_5)), ((a 22), .inl (cA, 6, .inr (.inr (.inr (.inr (fun k9 => if k9 < 6 then some (a (23 + k9)) else none)))))), ((a (23 + 0)), .inl (cI, 6, .inl (u3_5 0))), ((a (23 + 1)), .inl (cI, 6, .inl (u3_5 1))), ((a (23 + 2)), .inl (cI, 6, .inl (u3_5 2))), ((a (23 + 3)), .inl (cI, 6, .inl (u3_5 3))), ((a (23 + 4)), .inl (cI, 6, .inl (u3_5 4))), ((a (23 + 5)), .inl (cI, 6, .inl (u3_5 5)))]) hP hD [7, 8, 9, 10, 11, 12, 13, 14, 15, 16, 17] [0, 1, 2, 3, 4, 5, 6] rfl rfl (by decide) (by decide) hk1 hFc hP1 hD1
  obtain rfl := hu0_5.symm
  obtain rfl := hu1_5.symm
  obtain rfl := hu2_5.symm
  obtain rfl := hu3_5.symm
  have hP : va_P D vwCl [((a 0), .inr (5, [.ref (a 2), .ref (a 4), .ref (a 18), .ref (a 1)])), ((a 4), .inr (2, [.int hm, .int aw, .int tk, .ref (a 5), .ref (a 6), .ref (a 7), .ref (a 8), .ref (a 13)])), ((a 5), .inl (cI, 6, .inl ce)), ((a 6), .inl (cI, 6, .inl hi)), ((a 7), .inl (cI, 6, .inl la)), ((a 8), .inr (3, [.int (nI sn), .ref (a 9), .ref (a 10), .ref (a 11), .ref (a 12)])), ((a 13), .inr (0, [.int (nI kn), .ref (a 14), .ref (a 15), .ref (a 16), .ref (a 17)])), ((a 18), .inr (4, [.ref (a 19), .ref (a 20), .ref (a 21), .ref (a 22)])), ((a 19), .inl (cI, 6, .inl (g_pt_X4_enter pt fn df wn hm aw (mgN ce hi 6)))), ((a 20), .inl (cI, 6, .inl (g_fn_X4_enter pt fn df wn hm aw (mgN ce hi 6)))), ((a 21), .inl (cI, 6, .inl (g_df_X4_enter pt fn df wn hm aw (mgN ce hi 6)))), ((a 22), .inl (cA, 6, .inr (.inr (.inr (.inr (fun k9 => if k9 < 6 then some (a (23 + k9)) else none)))))), ((a (23 + 0)), .inl (cI, 6, .inl ((g_wn_X4_enter pt fn df wn hm aw (mgN ce hi 6)) 0))), ((a (23 + 1)), .inl (cI, 6, .inl ((g_wn_X4_enter pt fn df wn hm aw (mgN ce hi 6)) 1))), ((a (23 + 2)), .inl (cI, 6, .inl ((g_wn_X4_enter pt fn df wn hm aw (mgN ce hi 6)) 2))), ((a (23 + 3)), .inl (cI, 6, .inl ((g_wn_X4_enter pt fn df wn hm aw (mgN ce hi 6)) 3))), ((a (23 + 4)), .inl (cI, 6, .inl ((g_wn_X4_enter pt fn df wn hm aw (mgN ce hi 6)) 4))), ((a (23 + 5)), .inl (cI, 6, .inl ((g_wn_X4_enter pt fn df wn hm aw (mgN ce hi 6)) 5)))] H := hP
  have hD : va_D A [((a 0), .inr (5, [.ref (a 2), .ref (a 4), .ref (a 18), .ref (a 1)])), ((a 4), .inr (2, [.int hm, .int aw, .int tk, .ref (a 5), .ref (a 6), .ref (a 7), .ref (a 8), .ref (a 13)])), ((a 5), .inl (cI, 6, .inl ce)), ((a 6), .inl (cI, 6, .inl hi)), ((a 7), .inl (cI, 6, .inl la)), ((a 8), .inr (3, [.int (nI sn), .ref (a 9), .ref (a 10), .ref (a 11), .ref (a 12)])), ((a 13), .inr (0, [.int (nI kn), .ref (a 14), .ref (a 15), .ref (a 16), .ref (a 17)])), ((a 18), .inr (4, [.ref (a 19), .ref (a 20), .ref (a 21), .ref (a 22)])), ((a 19), .inl (cI, 6, .inl (g_pt_X4_enter pt fn df wn hm aw (mgN ce hi 6)))), ((a 20), .inl (cI, 6, .inl (g_fn_X4_enter pt fn df wn hm aw (mgN ce hi 6)))), ((a 21), .inl (cI, 6, .inl (g_df_X4_enter pt fn df wn hm aw (mgN ce hi 6)))), ((a 22), .inl (cA, 6, .inr (.inr (.inr (.inr (fun k9 => if k9 < 6 then some (a (23 + k9)) else none)))))), ((a (23 + 0)), .inl (cI, 6, .inl ((g_wn_X4_enter pt fn df wn hm aw (mgN ce hi 6)) 0))), ((a (23 + 1)), .inl (cI, 6, .inl ((g_wn_X4_enter pt fn df wn hm aw (mgN ce hi 6)) 1))), ((a (23 + 2)), .inl (cI, 6, .inl ((g_wn_X4_enter pt fn df wn hm aw (mgN ce hi 6)) 2))), ((a (23 + 3)), .inl (cI, 6, .inl ((g_wn_X4_enter pt fn df wn hm aw (mgN ce hi 6)) 3))), ((a (23 + 4)), .inl (cI, 6, .inl ((g_wn_X4_enter pt fn df wn hm aw (mgN ce hi 6)) 4))), ((a (23 + 5)), .inl (cI, 6, .inl ((g_wn_X4_enter pt fn df wn hm aw (mgN ce hi 6)) 5)))] := hD
  refine W.widen (k := 0) (n := 0) (Nat.le_refl _) (Nat.le_refl _) ?_
  refine lv_aload_n hx hb dX5_end_34 rfl (lv_at hl 1 rfl) ?_
  refine va_get (D := D) (ci := 5) (v := .ref (a 4)) (C := RX5) (T := TX5) (N := 4) hx hb hts hi_X5 hown hK hP 0 rfl rfl 1 (by decide) hf_19 (fun _ h9 => h9) rfl dX5_end_35 ?_
  have hPc := hP.sub (ws' := [((a 4), .inr (2, [.int hm, .int aw, .int tk, .ref (a 5), .ref (a 6), .ref (a 7), .ref (a 8), .ref (a 13)])), ((a 5), .inl (cI, 6, .inl ce)), ((a 6), .inl (cI, 6, .inl hi)), ((a 7), .inl (cI, 6, .inl la)), ((a 8), .inr (3, [.int (nI sn), .ref (a 9), .ref (a 10), .ref (a 11), .ref (a 12)])), ((a 13), .inr (0, [.int (nI kn), .ref (a 14), .ref (a 15), .ref (a 16), .ref (a 17)]))]) [1, 2, 3, 4, 5, 6] rfl
  have hDc := hD.sub (ws' := [((a 4), .inr (2, [.int hm, .int aw, .int tk, .ref (a 5), .ref (a 6), .ref (a 7), .ref (a 8), .ref (a 13)])), ((a 5), .inl (cI, 6, .inl ce)), ((a 6), .inl (cI, 6, .inl hi)), ((a 7), .inl (cI, 6, .inl la)), ((a 8), .inr (3, [.int (nI sn), .ref (a 9), .ref (a 10), .ref (a 11), .ref (a 12)])), ((a 13), .inr (0, [.int (nI kn), .ref (a 14), .ref (a 15), .ref (a 16), .ref (a 17)]))]) [1, 2, 3, 4, 5, 6] (by decide) rfl
  have hFc := va_free (wc := [((a 4), .inr (2, [.int hm, .int aw, .int tk, .ref (a 5), .ref (a 6), .ref (a 7), .ref (a 8), .ref (a 13)])), ((a 5), .inl (cI, 6, .inl ce)), ((a 6), .inl (cI, 6, .inl hi)), ((a 7), .inl (cI, 6, .inl la)), ((a 8), .inr (3, [.int (nI sn), .ref (a 9), .ref (a 10), .ref (a 11), .ref (a 12)])), ((a 13), .inr (0, [.int (nI kn), .ref (a 14), .ref (a 15), .ref (a 16), .ref (a 17)]))]) hD hS hA [1, 2, 3, 4, 5, 6] rfl
  refine va_callv (va_runV (As := []) (rest := []) ⟨hx, hb, hml, hown, hts⟩ (c_X2_close l D cI cZ cJ cA H.size a hm aw tk ce hi la sn kn) (cwV 0 hts gX5_end_X2_close rfl rfl rfl (by decide +kernel) ⟨Nat.le_of_ble_eq_true rfl, Nat.le_of_ble_eq_true rfl⟩) ⟨pcW_bl, va_recv hK hPc (ci := 2) (q0 := 0) rfl rfl, fun U hU hW => ⟨rfl, by rw [hU], by rw [hU]; exact hPc, va_K.moved hW.alike hK, hDc.weaken (fun _ _ _ _ => trivial)⟩⟩ rfl rfl hl.1 rfl (lv_room (Nat.le_of_ble_eq_true rfl)) dX5_end_38 ⟨Nat.le_of_ble_eq_true rfl, Nat.le_of_ble_eq_true rfl⟩) hS (fun q _ h => hFc q h) hFc (fun u t H locs ht hvm hw hB hz1 hk1 hS => ?_)
  try dsimp only at hw
  obtain ⟨u0_6, u1_6, u2_6, u3_6, u4_6, u5_6⟩ := u
  try dsimp only at hw
  obtain ⟨hu0_6, hu1_6, hu2_6, hu3_6, hu4_6, hu5_6⟩ := hw
  obtain ⟨hP1, hK1, hD1⟩ := hB
  rw [ht] at hP1
  obtain ⟨hP, hD⟩ := va_join (wr := [((a 0), .inr (5, [.ref (a 2), .ref (a 4), .ref (a 18), .ref (a 1)])), ((a 18), .inr (4, [.ref (a 19), .ref (a 20), .ref (a 21), .ref (a 22)])), ((a 19), .inl (cI, 6, .inl (g_pt_X4_enter pt fn df wn hm aw (mgN ce hi 6)))), ((a 20), .inl (cI, 6, .inl (g_fn_X4_enter pt fn df wn hm aw (mgN ce hi 6)))), ((a 21), .inl (cI, 6, .inl (g_df_X4_enter pt fn df wn hm aw (mgN ce hi 6)))), ((a 22), .inl (cA, 6, .inr (.inr (.inr (.inr (fun k9 => if k9 < 6 then some (a (23 + k9)) else none)))))), ((a (23 + 0)), .inl (cI, 6, .inl ((g_wn_X4_enter pt fn df wn hm aw (mgN ce hi 6)) 0))), ((a (23 + 1)), .inl (cI, 6, .inl ((g_wn_X4_enter pt fn df wn hm aw (mgN ce hi 6)) 1))), ((a (23 + 2)), .inl (cI, 6, .inl ((g_wn_X4_enter pt fn df wn hm aw (mgN ce hi 6)) 2))), ((a (23 + 3)), .inl (cI, 6, .inl ((g_wn_X4_enter pt fn df wn hm aw (mgN ce hi 6)) 3))), ((a (23 + 4)), .inl (cI, 6, .inl ((g_wn_X4_enter pt fn df wn hm aw (mgN ce hi 6)) 4))), ((a (23 + 5)), .inl (cI, 6, .inl ((g_wn_X4_enter pt fn df wn hm aw (mgN ce hi 6)) 5)))]) (w1 := [((a 4), .inr (2, [.int hm, .int aw, .int u0_6, .ref (a 5), .ref (a 6), .ref (a 7), .ref (a 8), .ref (a 13)])), ((a 5), .inl (cI, 6, .inl u1_6)), ((a 6), .inl (cI, 6, .inl u2_6)), ((a 7), .inl (cI, 6, .inl u3_6)), ((a 8), .inr (3, [.int (nI u4_6), .ref (a 9), .ref (a 10), .ref (a 11), .ref (a 12)])), ((a 13), .inr (0, [.int (nI u5_6), .ref (a 14), .ref (a 15), .ref (a 16), .ref (a 17)]))]) hP hD [1, 2, 3, 4, 5, 6] [0, 7, 8, 9, 10, 11, 12, 13, 14, 15, 16, 17] rfl rfl (by decide) (by decide) hk1 hFc hP1 hD1
  obtain rfl := hu0_6.symm
  obtain rfl := hu1_6.symm
  obtain rfl := hu2_6.symm
  obtain rfl := hu3_6.symm
  obtain rfl := hu4_6.symm
  obtain rfl := hu5_6.symm
  have hP : va_P D vwCl [((a 0), .inr (5, [.ref (a 2), .ref (a 4), .ref (a 18), .ref (a 1)])), ((a 18), .inr (4, [.ref (a 19), .ref (a 20), .ref (a 21), .ref (a 22)])), ((a 19), .inl (cI, 6, .inl (g_pt_X4_enter pt fn df wn hm aw (mgN ce hi 6)))), ((a 20), .inl (cI, 6, .inl (g_fn_X4_enter pt fn df wn hm aw (mgN ce hi 6)))), ((a 21), .inl (cI, 6, .inl (g_df_X4_enter pt fn df wn hm aw (mgN ce hi 6)))), ((a 22), .inl (cA, 6, .inr (.inr (.inr (.inr (fun k9 => if k9 < 6 then some (a (23 + k9)) else none)))))), ((a (23 + 0)), .inl (cI, 6, .inl ((g_wn_X4_enter pt fn df wn hm aw (mgN ce hi 6)) 0))), ((a (23 + 1)), .inl (cI, 6, .inl ((g_wn_X4_enter pt fn df wn hm aw (mgN ce hi 6)) 1))), ((a (23 + 2)), .inl (cI, 6, .inl ((g_wn_X4_enter pt fn df wn hm aw (mgN ce hi 6)) 2))), ((a (23 + 3)), .inl (cI, 6, .inl ((g_wn_X4_enter pt fn df wn hm aw (mgN ce hi 6)) 3))), ((a (23 + 4)), .inl (cI, 6, .inl ((g_wn_X4_enter pt fn df wn hm aw (mgN ce hi 6)) 4))), ((a (23 + 5)), .inl (cI, 6, .inl ((g_wn_X4_enter pt fn df wn hm aw (mgN ce hi 6)) 5))), ((a 4), .inr (2, [.int hm, .int aw, .int (-1), .ref (a 5), .ref (a 6), .ref (a 7), .ref (a 8), .ref (a 13)])), ((a 5), .inl (cI, 6, .inl (fillN ce (-2) 6))), ((a 6), .inl (cI, 6, .inl (fillN hi (-1) 6))), ((a 7), .inl (cI, 6, .inl (fillN la (-1) 6))), ((a 8), .inr (3, [.int (nI 0), .ref (a 9), .ref (a 10), .ref (a 11), .ref (a 12)])), ((a 13), .inr (0, [.int (nI 0), .ref (a 14), .ref (a 15), .ref (a 16), .ref (a 17)]))] H := hP
  have hD : va_D A [((a 0), .inr (5, [.ref (a 2), .ref (a 4), .ref (a 18), .ref (a 1)])), ((a 18), .inr (4, [.ref (a 19), .ref (a 20), .ref (a 21), .ref (a 22)])), ((a 19), .inl (cI, 6, .inl (g_pt_X4_enter pt fn df wn hm aw (mgN ce hi 6)))), ((a 20), .inl (cI, 6, .inl (g_fn_X4_enter pt fn df wn hm aw (mgN ce hi 6)))), ((a 21), .inl (cI, 6, .inl (g_df_X4_enter pt fn df wn hm aw (mgN ce hi 6)))), ((a 22), .inl (cA, 6, .inr (.inr (.inr (.inr (fun k9 => if k9 < 6 then some (a (23 + k9)) else none)))))), ((a (23 + 0)), .inl (cI, 6, .inl ((g_wn_X4_enter pt fn df wn hm aw (mgN ce hi 6)) 0))), ((a (23 + 1)), .inl (cI, 6, .inl ((g_wn_X4_enter pt fn df wn hm aw (mgN ce hi 6)) 1))), ((a (23 + 2)), .inl (cI, 6, .inl ((g_wn_X4_enter pt fn df wn hm aw (mgN ce hi 6)) 2))), ((a (23 + 3)), .inl (cI, 6, .inl ((g_wn_X4_enter pt fn df wn hm aw (mgN ce hi 6)) 3))), ((a (23 + 4)), .inl (cI, 6, .inl ((g_wn_X4_enter pt fn df wn hm aw (mgN ce hi 6)) 4))), ((a (23 + 5)), .inl (cI, 6, .inl ((g_wn_X4_enter pt fn df wn hm aw (mgN ce hi 6)) 5))), ((a 4), .inr (2, [.int hm, .int aw, .int (-1), .ref (a 5), .ref (a 6), .ref (a 7), .ref (a 8), .ref (a 13)])), ((a 5), .inl (cI, 6, .inl (fillN ce (-2) 6))), ((a 6), .inl (cI, 6, .inl (fillN hi (-1) 6))), ((a 7), .inl (cI, 6, .inl (fillN la (-1) 6))), ((a 8), .inr (3, [.int (nI 0), .ref (a 9), .ref (a 10), .ref (a 11), .ref (a 12)])), ((a 13), .inr (0, [.int (nI 0), .ref (a 14), .ref (a 15), .ref (a 16), .ref (a 17)]))] := hD
  refine W.widen (k := 0) (n := 0) (Nat.le_refl _) (Nat.le_refl _) ?_
  refine lv_iload_n hx hb dX5_end_41 rfl (lv_at hl 0 rfl) ?_
  have hP9 := hP.sub (ws' := [((a 0), .inr (5, [.ref (a 2), .ref (a 4), .ref (a 18), .ref (a 1)])), ((a 4), .inr (2, [.int hm, .int aw, .int (-1), .ref (a 5), .ref (a 6), .ref (a 7), .ref (a 8), .ref (a 13)])), ((a 5), .inl (cI, 6, .inl (fillN ce (-2) 6))), ((a 6), .inl (cI, 6, .inl (fillN hi (-1) 6))), ((a 7), .inl (cI, 6, .inl (fillN la (-1) 6))), ((a 8), .inr (3, [.int (nI 0), .ref (a 9), .ref (a 10), .ref (a 11), .ref (a 12)])), ((a 13), .inr (0, [.int (nI 0), .ref (a 14), .ref (a 15), .ref (a 16), .ref (a 17)])), ((a 18), .inr (4, [.ref (a 19), .ref (a 20), .ref (a 21), .ref (a 22)])), ((a 19), .inl (cI, 6, .inl (g_pt_X4_enter pt fn df wn hm aw (mgN ce hi 6)))), ((a 20), .inl (cI, 6, .inl (g_fn_X4_enter pt fn df wn hm aw (mgN ce hi 6)))), ((a 21), .inl (cI, 6, .inl (g_df_X4_enter pt fn df wn hm aw (mgN ce hi 6)))), ((a 22), .inl (cA, 6, .inr (.inr (.inr (.inr (fun k9 => if k9 < 6 then some (a (23 + k9)) else none)))))), ((a (23 + 0)), .inl (cI, 6, .inl ((g_wn_X4_enter pt fn df wn hm aw (mgN ce hi 6)) 0))), ((a (23 + 1)), .inl (cI, 6, .inl ((g_wn_X4_enter pt fn df wn hm aw (mgN ce hi 6)) 1))), ((a (23 + 2)), .inl (cI, 6, .inl ((g_wn_X4_enter pt fn df wn hm aw (mgN ce hi 6)) 2))), ((a (23 + 3)), .inl (cI, 6, .inl ((g_wn_X4_enter pt fn df wn hm aw (mgN ce hi 6)) 3))), ((a (23 + 4)), .inl (cI, 6, .inl ((g_wn_X4_enter pt fn df wn hm aw (mgN ce hi 6)) 4))), ((a (23 + 5)), .inl (cI, 6, .inl ((g_wn_X4_enter pt fn df wn hm aw (mgN ce hi 6)) 5)))]) [0, 12, 13, 14, 15, 16, 17, 1, 2, 3, 4, 5, 6, 7, 8, 9, 10, 11] rfl
  have hD9 := hD.sub (ws' := [((a 0), .inr (5, [.ref (a 2), .ref (a 4), .ref (a 18), .ref (a 1)])), ((a 4), .inr (2, [.int hm, .int aw, .int (-1), .ref (a 5), .ref (a 6), .ref (a 7), .ref (a 8), .ref (a 13)])), ((a 5), .inl (cI, 6, .inl (fillN ce (-2) 6))), ((a 6), .inl (cI, 6, .inl (fillN hi (-1) 6))), ((a 7), .inl (cI, 6, .inl (fillN la (-1) 6))), ((a 8), .inr (3, [.int (nI 0), .ref (a 9), .ref (a 10), .ref (a 11), .ref (a 12)])), ((a 13), .inr (0, [.int (nI 0), .ref (a 14), .ref (a 15), .ref (a 16), .ref (a 17)])), ((a 18), .inr (4, [.ref (a 19), .ref (a 20), .ref (a 21), .ref (a 22)])), ((a 19), .inl (cI, 6, .inl (g_pt_X4_enter pt fn df wn hm aw (mgN ce hi 6)))), ((a 20), .inl (cI, 6, .inl (g_fn_X4_enter pt fn df wn hm aw (mgN ce hi 6)))), ((a 21), .inl (cI, 6, .inl (g_df_X4_enter pt fn df wn hm aw (mgN ce hi 6)))), ((a 22), .inl (cA, 6, .inr (.inr (.inr (.inr (fun k9 => if k9 < 6 then some (a (23 + k9)) else none)))))), ((a (23 + 0)), .inl (cI, 6, .inl ((g_wn_X4_enter pt fn df wn hm aw (mgN ce hi 6)) 0))), ((a (23 + 1)), .inl (cI, 6, .inl ((g_wn_X4_enter pt fn df wn hm aw (mgN ce hi 6)) 1))), ((a (23 + 2)), .inl (cI, 6, .inl ((g_wn_X4_enter pt fn df wn hm aw (mgN ce hi 6)) 2))), ((a (23 + 3)), .inl (cI, 6, .inl ((g_wn_X4_enter pt fn df wn hm aw (mgN ce hi 6)) 3))), ((a (23 + 4)), .inl (cI, 6, .inl ((g_wn_X4_enter pt fn df wn hm aw (mgN ce hi 6)) 4))), ((a (23 + 5)), .inl (cI, 6, .inl ((g_wn_X4_enter pt fn df wn hm aw (mgN ce hi 6)) 5)))]) [0, 12, 13, 14, 15, 16, 17, 1, 2, 3, 4, 5, 6, 7, 8, 9, 10, 11] (by decide) rfl
  -- leaf 0
  refine W.widen (k := 0) (n := 0) (Nat.le_of_ble_eq_true rfl) (Nat.le_of_ble_eq_true rfl) ?_
  exact W.iret (v := mgN ce hi 6) hx hb hr (fun t ht hW => ⟨⟨mgN ce hi 6, ((-1), (fillN ce (-2) 6), (fillN hi (-1) 6), (fillN la (-1) 6), 0, 0, (g_pt_X4_enter pt fn df wn hm aw (mgN ce hi 6)), (g_fn_X4_enter pt fn df wn hm aw (mgN ce hi 6)), (g_df_X4_enter pt fn df wn hm aw (mgN ce hi 6)), (g_wn_X4_enter pt fn df wn hm aw (mgN ce hi 6))), rfl, ⟨rfl, rfl, rfl, rfl, rfl, rfl, rfl, rfl, rfl, rfl, rfl⟩, by rw [ht]; exact hP9, va_K.moved hW.alike hK, hD9⟩, hS.F ht⟩) hS.2.2 dX5_end_42
