set_option maxHeartbeats 4000000 in
set_option maxRecDepth 100000 in
theorem c_E0 (l : Launch) (hlt : l.stackTraces = false) (D : va_G) (cI cZ cJ cA : ClassId) (sx : Nat → Nat) (sz : Nat) (a : Nat → Nat) (bk : Nat → Int32) (hm : Int32) (aw : Int32) (tk : Int32) (p1 : Int32) (p2 : Int32) (hk : k_X5_toggleBunker bk hm aw tk p1 = 1) : Met l yL_does wsL_does ({ frames := 9, cells := 2, slots := 12, locals := 154 } : Room) (va_Pc [.ref (a 0), .int 0, .int p1, .int p2] (pcL (pcW D (tyL cI cZ cJ cA) [((a 0), .inr (5, [.ref (a 2), .ref (a 4), .ref (a 18), .ref (a 1)])), ((a 2), .inr (1, [.ref (a 3)])), ((a 3), .inl (cZ, 144, .inl bk)), ((a 4), .inr (2, [.int hm, .int aw, .int tk, .ref (a 5), .ref (a 6), .ref (a 7), .ref (a 8), .ref (a 13)]))] sz) sx (va_A [((a 0), .inr (5, [.ref (a 2), .ref (a 4), .ref (a 18), .ref (a 1)])), ((a 2), .inr (1, [.ref (a 3)])), ((a 3), .inl (cZ, 144, .inl bk)), ((a 4), .inr (2, [.int hm, .int aw, .int tk, .ref (a 5), .ref (a 6), .ref (a 7), .ref (a 8), .ref (a 13)]))] sz))) (va_Qi (fun (r : Int32) (u : Unit) => r = (-30)) (fun u t => bcW D (tyL cI cZ cJ cA) (va_A [((a 0), .inr (5, [.ref (a 2), .ref (a 4), .ref (a 18), .ref (a 1)])), ((a 2), .inr (1, [.ref (a 3)])), ((a 3), .inl (cZ, 144, .inl bk)), ((a 4), .inr (2, [.int hm, .int aw, .int tk, .ref (a 5), .ref (a 6), .ref (a 7), .ref (a 8), .ref (a 13)]))] sz) [((a 0), .inr (5, [.ref (a 2), .ref (a 4), .ref (a 18), .ref (a 1)])), ((a 2), .inr (1, [.ref (a 3)])), ((a 3), .inl (cZ, 144, .inl bk)), ((a 4), .inr (2, [.int hm, .int aw, .int tk, .ref (a 5), .ref (a 6), .ref (a 7), .ref (a 8), .ref (a 13)]))] t) (va_A [((a 0), .inr (5, [.ref (a 2), .ref (a 4), .ref (a 18), .ref (a 1)])), ((a 2), .inr (1, [.ref (a 3)])), ((a 3), .inl (cZ, 144, .inl bk)), ((a 4), .inr (2, [.int hm, .int aw, .int tk, .ref (a 5), .ref (a 6), .ref (a 7), .ref (a 8), .ref (a 13)]))] sz)) 2 12 (va_A [((a 0), .inr (5, [.ref (a 2), .ref (a 4), .ref (a 18), .ref (a 1)])), ((a 2), .inr (1, [.ref (a 3)])), ((a 3), .inl (cZ, 144, .inl bk)), ((a 4), .inr (2, [.int hm, .int aw, .int tk, .ref (a 5), .ref (a 6), .ref (a 7), .ref (a 8), .ref (a 13)]))] sz) := by
  refine va_MetW (cc := cL_does) (maxL := 5) (ret := (some .int)) (by decide) rfl ?_
  intro p e s m args below meth c s₁ B hml hv
  obtain ⟨rfl, ⟨⟨hsz, hP, hK, hD0⟩, hE⟩, hN⟩ := hv
  have hx := B.exec
  have hb := B.bytes
  have hr := B.returns
  have hts := atoms_spec (ws := wsL_does) B.pre
  have hown : s.vm.findClass RL = some m.cls := findClass_of_methodNamed B.named
  have hlocks := B.notSynchronized
  subst hsz
  have hD := hD0.self (sz := s.heap.size)
  generalize hAe : va_A [((a 0), .inr (5, [.ref (a 2), .ref (a 4), .ref (a 18), .ref (a 1)])), ((a 2), .inr (1, [.ref (a 3)])), ((a 3), .inl (cZ, 144, .inl bk)), ((a 4), .inr (2, [.int hm, .int aw, .int tk, .ref (a 5), .ref (a 6), .ref (a 7), .ref (a 8), .ref (a 13)]))] s.heap.size = A at hD hE ⊢
  have hA : ∀ q : Nat, s.heap.size ≤ q → A q := fun q h => by rw [← hAe]; exact Or.inr h
  have hAR : ∀ q : Nat, s.heap.size ≤ q → (fun q : Nat => s.heap.size ≤ q) q := fun _ h => h
  have hS : va_S A s.heap s.heap [] := va_S.rf
  have hP : va_P D vwCl [((a 0), .inr (5, [.ref (a 2), .ref (a 4), .ref (a 18), .ref (a 1)])), ((a 2), .inr (1, [.ref (a 3)])), ((a 3), .inl (cZ, 144, .inl bk)), ((a 4), .inr (2, [.int hm, .int aw, .int tk, .ref (a 5), .ref (a 6), .ref (a 7), .ref (a 8), .ref (a 13)]))] s.heap := hP
  have hl := lv_entry ([.ref (a 0), .int 0, .int p1, .int p2]) (n := 5) (Nat.le_of_ble_eq_true rfl)
  rw [lg_entry_eq]
  generalize (lg_sl ([.ref (a 0), .int 0, .int p1, .int p2]) ++ List.replicate (5 - (lg_sl ([.ref (a 0), .int 0, .int p1, .int p2])).length) Slot.unset).toArray = ls at hl ⊢
  have hl : lv_has ls 5 [(0, .ref (a 0)), (1, .int 0), (2, .int p1), (3, .int p2)] := hl
  have hT9 : c.exceptionTable.toList = tableOf [(0, 130, 131, 48), (0, 130, 136, 50), (0, 130, 141, 52)] := vx_table (x := yL_does) B (hts _ List.mem_cons_self)
  have hlc_48 := hts (.classLink RL 48 "java/lang/IndexOutOfBoundsException") (by decide +kernel)
  refine lv_iload_n hx hb dL_does_0 rfl (lv_at hl 1 rfl) ?_
  refine lv_if_ne (tgt := 20) hx hb dL_does_1 (by decide) (fun c_1 => absurd (by decide) c_1) (fun _ => ?_)
  refine lv_aload_n hx hb dL_does_4 rfl (lv_at hl 0 rfl) ?_
  refine lv_iload_n hx hb dL_does_5 rfl (lv_at hl 2 rfl) ?_
  have hPc := hP
  have hDc := hD.sub (ws' := [((a 0), .inr (5, [.ref (a 2), .ref (a 4), .ref (a 18), .ref (a 1)])), ((a 2), .inr (1, [.ref (a 3)])), ((a 3), .inl (cZ, 144, .inl bk)), ((a 4), .inr (2, [.int hm, .int aw, .int tk, .ref (a 5), .ref (a 6), .ref (a 7), .ref (a 8), .ref (a 13)]))]) [0, 1, 2, 3] (by decide) rfl
  have hFc := va_free (wc := [((a 0), .inr (5, [.ref (a 2), .ref (a 4), .ref (a 18), .ref (a 1)])), ((a 2), .inr (1, [.ref (a 3)])), ((a 3), .inl (cZ, 144, .inl bk)), ((a 4), .inr (2, [.int hm, .int aw, .int tk, .ref (a 5), .ref (a 6), .ref (a 7), .ref (a 8), .ref (a 13)]))]) hD hS hA [0, 1, 2, 3] rfl
  refine vx_calli (vx_runV (As := [.int p1]) (rest := []) ⟨hx, hb, hml, hown, hts⟩ (c_X5_toggleBunker l hlt D cI cZ cJ cA sx s.heap.size a bk hm aw tk p1) (cwV 1 hts gL_does_X5_toggleBunker rfl rfl rfl (by decide +kernel) ⟨Nat.le_of_ble_eq_true rfl, Nat.le_of_ble_eq_true rfl⟩) ⟨pcXW_bl, va_recv hK hPc (ci := 5) (q0 := 0) rfl rfl, fun U hU hW => ⟨rfl, ⟨by rw [hU], by rw [hU]; exact hPc, va_K.moved hW.alike hK, hDc.weaken (fun _ _ _ _ => trivial)⟩, hE.call hS hFc hU hW⟩⟩ rfl rfl hl.1 rfl (lv_room (Nat.le_of_ble_eq_true rfl)) dL_does_6 ⟨Nat.le_of_ble_eq_true rfl, Nat.le_of_ble_eq_true rfl⟩) hS (fun q _ h => hFc q h) hFc (fun _ h1 h2 => absurd h1 (Nat.not_lt.mpr h2)) (fun E cel q9 u t H locs ht hvm hpx hb1 hz1 hk1 hS hce hcv hcl => ?_) (fun r_2 u t H locs ht hvm hw hB hz1 hk1 hS => ?_)
  · have c_3 : ¬ (k_X5_toggleBunker bk hm aw tk p1) = 0 := thr_ne hb1
    have hP := rd_P hP hk1
    · obtain rfl := thr_E1 hb1 hk
      refine vx_catch (name := "java/lang/IndexOutOfBoundsException") hown [] ⟨0, 130, 131, 48⟩ [⟨0, 130, 136, 50⟩, ⟨0, 130, 141, 52⟩] (hT9.trans rfl) (fun _ h => absurd h List.not_mem_nil) rfl (by decide) hlc_48 (va_Nw.use rfl hE.n1) hce hcv hcl ?_
      refine W.eq (g2 := F0 m 131 ls [.ref q9]) rfl ?_
      refine W.widen (k := 2) (n := 12) (Nat.le_refl _) (Nat.le_refl _) ?_
      refine lv_astore (lv' := [(4, .ref q9), (0, .ref (a 0)), (1, .int 0), (2, .int p1), (3, .int p2)]) hx hb dL_does_131 hl (by decide) rfl (fun ls hl => ?_)
      refine lv_bipush (v := (-30)) hx hb dL_does_133 (by decide) ?_
      have hP9 := hP.sub (ws' := [((a 0), .inr (5, [.ref (a 2), .ref (a 4), .ref (a 18), .ref (a 1)])), ((a 2), .inr (1, [.ref (a 3)])), ((a 3), .inl (cZ, 144, .inl bk)), ((a 4), .inr (2, [.int hm, .int aw, .int tk, .ref (a 5), .ref (a 6), .ref (a 7), .ref (a 8), .ref (a 13)]))]) [0, 1, 2, 3] rfl
      have hD9 := hD.sub (ws' := [((a 0), .inr (5, [.ref (a 2), .ref (a 4), .ref (a 18), .ref (a 1)])), ((a 2), .inr (1, [.ref (a 3)])), ((a 3), .inl (cZ, 144, .inl bk)), ((a 4), .inr (2, [.int hm, .int aw, .int tk, .ref (a 5), .ref (a 6), .ref (a 7), .ref (a 8), .ref (a 13)]))]) [0, 1, 2, 3] (by decide) rfl
      -- leaf 0
      refine W.widen (k := 2) (n := 12) (Nat.le_of_ble_eq_true rfl) (Nat.le_of_ble_eq_true rfl) ?_
      exact W.iret (v := (-30)) hx hb hr (fun t ht hW => ⟨⟨(-30), (), rfl, rfl, by rw [ht]; exact hP9, va_K.moved hW.alike hK, hD9⟩, hS.F ht⟩) hS.2.2 dL_does_135
  · try dsimp only at hw
    exact absurd (hk.symm.trans hw.1) (by decide)

set_option maxHeartbeats 4000000 in
set_option maxRecDepth 100000 in
theorem c_E1 (l : Launch) (hlt : l.stackTraces = false) (D : va_G) (cI cZ cJ cA : ClassId) (sx : Nat → Nat) (sz : Nat) (a : Nat → Nat) (rf : Nat → Int32) (p1 : Int32) (p2 : Int32) (hk : k_X5_setReferee rf p1 p2 = 1) : Met l yL_does wsL_does ({ frames := 9, cells := 2, slots := 12, locals := 154 } : Room) (va_Pc [.ref (a 0), .int 1, .int p1, .int p2] (pcL (pcW D (tyL cI cZ cJ cA) [((a 0), .inr (5, [.ref (a 2), .ref (a 4), .ref (a 18), .ref (a 1)])), ((a 1), .inl (cI, 2, .inl rf))] sz) sx (va_A [((a 0), .inr (5, [.ref (a 2), .ref (a 4), .ref (a 18), .ref (a 1)])), ((a 1), .inl (cI, 2, .inl rf))] sz))) (va_Qi (fun (r : Int32) (u : Unit) => r = (-30)) (fun u t => bcW D (tyL cI cZ cJ cA) (va_A [((a 0), .inr (5, [.ref (a 2), .ref (a 4), .ref (a 18), .ref (a 1)])), ((a 1), .inl (cI, 2, .inl rf))] sz) [((a 0), .inr (5, [.ref (a 2), .ref (a 4), .ref (a 18), .ref (a 1)])), ((a 1), .inl (cI, 2, .inl rf))] t) (va_A [((a 0), .inr (5, [.ref (a 2), .ref (a 4), .ref (a 18), .ref (a 1)])), ((a 1), .inl (cI, 2, .inl rf))] sz)) 2 12 (va_A [((a 0), .inr (5, [.ref (a 2), .ref (a 4), .ref (a 18), .ref (a 1)])), ((a 1), .inl (cI, 2, .inl rf))] sz) := by
  refine va_MetW (cc := cL_does) (maxL := 5) (ret := (some .int)) (by decide) rfl ?_
  intro p e s m args below meth c s₁ B hml hv
  obtain ⟨rfl, ⟨⟨hsz, hP, hK, hD0⟩, hE⟩, hN⟩ := hv
  have hx := B.exec
  have hb := B.bytes
  have hr := B.returns
  have hts := atoms_spec (ws := wsL_does) B.pre
  have hown : s.vm.findClass RL = some m.cls := findClass_of_methodNamed B.named
  have hlocks := B.notSynchronized
  subst hsz
  have hD := hD0.self (sz := s.heap.size)
  generalize hAe : va_A [((a 0), .inr (5, [.ref (a 2), .ref (a 4), .ref (a 18), .ref (a 1)])), ((a 1), .inl (cI, 2, .inl rf))] s.heap.size = A at hD hE ⊢
  have hA : ∀ q : Nat, s.heap.size ≤ q → A q := fun q h => by rw [← hAe]; exact Or.inr h
  have hAR : ∀ q : Nat, s.heap.size ≤ q → (fun q : Nat => s.heap.size ≤ q) q := fun _ h => h
  have hS : va_S A s.heap s.heap [] := va_S.rf
  have hP : va_P D vwCl [((a 0), .inr (5, [.ref (a 2), .ref (a 4), .ref (a 18), .ref (a 1)])), ((a 1), .inl (cI, 2, .inl rf))] s.heap := hP
  have hl := lv_entry ([.ref (a 0), .int 1, .int p1, .int p2]) (n := 5) (Nat.le_of_ble_eq_true rfl)
  rw [lg_entry_eq]
  generalize (lg_sl ([.ref (a 0), .int 1, .int p1, .int p2]) ++ List.replicate (5 - (lg_sl ([.ref (a 0), .int 1, .int p1, .int p2])).length) Slot.unset).toArray = ls at hl ⊢
  have hl : lv_has ls 5 [(0, .ref (a 0)), (1, .int 1), (2, .int p1), (3, .int p2)] := hl
  have hT9 : c.exceptionTable.toList = tableOf [(0, 130, 131, 48), (0, 130, 136, 50), (0, 130, 141, 52)] := vx_table (x := yL_does) B (hts _ List.mem_cons_self)
  have hlc_48 := hts (.classLink RL 48 "java/lang/IndexOutOfBoundsException") (by decide +kernel)
  refine lv_iload_n hx hb dL_does_0 rfl (lv_at hl 1 rfl) ?_
  refine lv_if_ne (tgt := 20) hx hb dL_does_1 (by decide) (fun _ => ?_) (fun c_1 => absurd c_1 (by decide))
  refine lv_iload_n hx hb dL_does_20 rfl (lv_at hl 1 rfl) ?_
  refine lv_iconst (v := 1) hx hb dL_does_21 (by decide) ?_
  refine lv_icmp_ne (tgt := 34) hx hb dL_does_22 (by decide) (fun c_2 => absurd (by decide) c_2) (fun _ => ?_)
  refine lv_aload_n hx hb dL_does_25 rfl (lv_at hl 0 rfl) ?_
  refine lv_iload_n hx hb dL_does_26 rfl (lv_at hl 2 rfl) ?_
  refine lv_iload_n hx hb dL_does_27 rfl (lv_at hl 3 rfl) ?_
  have hPc := hP
  have hDc := hD.sub (ws' := [((a 0), .inr (5, [.ref (a 2), .ref (a 4), .ref (a 18), .ref (a 1)])), ((a 1), .inl (cI, 2, .inl rf))]) [0, 1] (by decide) rfl
  have hFc := va_free (wc := [((a 0), .inr (5, [.ref (a 2), .ref (a 4), .ref (a 18), .ref (a 1)])), ((a 1), .inl (cI, 2, .inl rf))]) hD hS hA [0, 1] rfl
  refine vx_calli (vx_runV (As := [.int p1, .int p2]) (rest := []) ⟨hx, hb, hml, hown, hts⟩ (c_X5_setReferee l hlt D cI cZ cJ cA sx s.heap.size a rf p1 p2) (cwV 2 hts gL_does_X5_setReferee rfl rfl rfl (by decide +kernel) ⟨Nat.le_of_ble_eq_true rfl, Nat.le_of_ble_eq_true rfl⟩) ⟨pcXW_bl, va_recv hK hPc (ci := 5) (q0 := 0) rfl rfl, fun U hU hW => ⟨rfl, ⟨by rw [hU], by rw [hU]; exact hPc, va_K.moved hW.alike hK, hDc.weaken (fun _ _ _ _ => trivial)⟩, hE.call hS hFc hU hW⟩⟩ rfl rfl hl.1 rfl (lv_room (Nat.le_of_ble_eq_true rfl)) dL_does_28 ⟨Nat.le_of_ble_eq_true rfl, Nat.le_of_ble_eq_true rfl⟩) hS (fun q _ h => hFc q h) hFc (fun _ h1 h2 => absurd h1 (Nat.not_lt.mpr h2)) (fun E cel q9 u t H locs ht hvm hpx hb1 hz1 hk1 hS hce hcv hcl => ?_) (fun r_3 u t H locs ht hvm hw hB hz1 hk1 hS => ?_)
  · have c_4 : ¬ (k_X5_setReferee rf p1 p2) = 0 := thr_ne hb1
    have hP := rd_P hP hk1
    · obtain rfl := thr_E1 hb1 hk
      refine vx_catch (name := "java/lang/IndexOutOfBoundsException") hown [] ⟨0, 130, 131, 48⟩ [⟨0, 130, 136, 50⟩, ⟨0, 130, 141, 52⟩] (hT9.trans rfl) (fun _ h => absurd h List.not_mem_nil) rfl (by decide) hlc_48 (va_Nw.use rfl hE.n1) hce hcv hcl ?_
      refine W.eq (g2 := F0 m 131 ls [.ref q9]) rfl ?_
      refine W.widen (k := 2) (n := 12) (Nat.le_refl _) (Nat.le_refl _) ?_
      refine lv_astore (lv' := [(4, .ref q9), (0, .ref (a 0)), (1, .int 1), (2, .int p1), (3, .int p2)]) hx hb dL_does_131 hl (by decide) rfl (fun ls hl => ?_)
      refine lv_bipush (v := (-30)) hx hb dL_does_133 (by decide) ?_
      have hP9 := hP.sub (ws' := [((a 0), .inr (5, [.ref (a 2), .ref (a 4), .ref (a 18), .ref (a 1)])), ((a 1), .inl (cI, 2, .inl rf))]) [0, 1] rfl
      have hD9 := hD.sub (ws' := [((a 0), .inr (5, [.ref (a 2), .ref (a 4), .ref (a 18), .ref (a 1)])), ((a 1), .inl (cI, 2, .inl rf))]) [0, 1] (by decide) rfl
      -- leaf 0
      refine W.widen (k := 2) (n := 12) (Nat.le_of_ble_eq_true rfl) (Nat.le_of_ble_eq_true rfl) ?_
      exact W.iret (v := (-30)) hx hb hr (fun t ht hW => ⟨⟨(-30), (), rfl, rfl, by rw [ht]; exact hP9, va_K.moved hW.alike hK, hD9⟩, hS.F ht⟩) hS.2.2 dL_does_135
  · try dsimp only at hw
    exact absurd (hk.symm.trans hw.1) (by decide)

set_option maxHeartbeats 4000000 in
set_option maxRecDepth 100000 in
theorem c_E2 (l : Launch) (hlt : l.stackTraces = false) (D : va_G) (cI cZ cJ cA : ClassId) (sx : Nat → Nat) (sz : Nat) (a : Nat → Nat) (hm : Int32) (aw : Int32) (tk : Int32) (ce : Nat → Int32) (hi : Nat → Int32) (la : Nat → Int32) (sn : Nat) (kn : Nat) (p1 : Int32) (p2 : Int32) (hk : k_L_begins hm aw tk ce hi la sn kn p1 p2 = 1) : Met l yL_does wsL_does ({ frames := 9, cells := 3, slots := 18, locals := 154 } : Room) (va_Pc [.ref (a 0), .int 2, .int p1, .int p2] (pcL (pcW D (tyL cI cZ cJ cA) [((a 0), .inr (5, [.ref (a 2), .ref (a 4), .ref (a 18), .ref (a 1)])), ((a 4), .inr (2, [.int hm, .int aw, .int tk, .ref (a 5), .ref (a 6), .ref (a 7), .ref (a 8), .ref (a 13)])), ((a 5), .inl (cI, 6, .inl ce)), ((a 6), .inl (cI, 6, .inl hi)), ((a 7), .inl (cI, 6, .inl la)), ((a 8), .inr (3, [.int (nI sn), .ref (a 9), .ref (a 10), .ref (a 11), .ref (a 12)])), ((a 13), .inr (0, [.int (nI kn), .ref (a 14), .ref (a 15), .ref (a 16), .ref (a 17)]))] sz) sx (va_A [((a 0), .inr (5, [.ref (a 2), .ref (a 4), .ref (a 18), .ref (a 1)])), ((a 4), .inr (2, [.int hm, .int aw, .int tk, .ref (a 5), .ref (a 6), .ref (a 7), .ref (a 8), .ref (a 13)])), ((a 5), .inl (cI, 6, .inl ce)), ((a 6), .inl (cI, 6, .inl hi)), ((a 7), .inl (cI, 6, .inl la)), ((a 8), .inr (3, [.int (nI sn), .ref (a 9), .ref (a 10), .ref (a 11), .ref (a 12)])), ((a 13), .inr (0, [.int (nI kn), .ref (a 14), .ref (a 15), .ref (a 16), .ref (a 17)]))] sz))) (va_Qi (fun (r : Int32) (u : Unit) => r = (-30)) (fun u t => bcW D (tyL cI cZ cJ cA) (va_A [((a 0), .inr (5, [.ref (a 2), .ref (a 4), .ref (a 18), .ref (a 1)])), ((a 4), .inr (2, [.int hm, .int aw, .int tk, .ref (a 5), .ref (a 6), .ref (a 7), .ref (a 8), .ref (a 13)])), ((a 5), .inl (cI, 6, .inl ce)), ((a 6), .inl (cI, 6, .inl hi)), ((a 7), .inl (cI, 6, .inl la)), ((a 8), .inr (3, [.int (nI sn), .ref (a 9), .ref (a 10), .ref (a 11), .ref (a 12)])), ((a 13), .inr (0, [.int (nI kn), .ref (a 14), .ref (a 15), .ref (a 16), .ref (a 17)]))] sz) [((a 0), .inr (5, [.ref (a 2), .ref (a 4), .ref (a 18), .ref (a 1)])), ((a 4), .inr (2, [.int hm, .int aw, .int tk, .ref (a 5), .ref (a 6), .ref (a 7), .ref (a 8), .ref (a 13)])), ((a 5), .inl (cI, 6, .inl ce)), ((a 6), .inl (cI, 6, .inl hi)), ((a 7), .inl (cI, 6, .inl la)), ((a 8), .inr (3, [.int (nI sn), .ref (a 9), .ref (a 10), .ref (a 11), .ref (a 12)])), ((a 13), .inr (0, [.int (nI kn), .ref (a 14), .ref (a 15), .ref (a 16), .ref (a 17)]))] t) (va_A [((a 0), .inr (5, [.ref (a 2), .ref (a 4), .ref (a 18), .ref (a 1)])), ((a 4), .inr (2, [.int hm, .int aw, .int tk, .ref (a 5), .ref (a 6), .ref (a 7), .ref (a 8), .ref (a 13)])), ((a 5), .inl (cI, 6, .inl ce)), ((a 6), .inl (cI, 6, .inl hi)), ((a 7), .inl (cI, 6, .inl la)), ((a 8), .inr (3, [.int (nI sn), .ref (a 9), .ref (a 10), .ref (a 11), .ref (a 12)])), ((a 13), .inr (0, [.int (nI kn), .ref (a 14), .ref (a 15), .ref (a 16), .ref (a 17)]))] sz)) 3 18 (va_A [((a 0), .inr (5, [.ref (a 2), .ref (a 4), .ref (a 18), .ref (a 1)])), ((a 4), .inr (2, [.int hm, .int aw, .int tk, .ref (a 5), .ref (a 6), .ref (a 7), .ref (a 8), .ref (a 13)])), ((a 5), .inl (cI, 6, .inl ce)), ((a 6), .inl (cI, 6, .inl hi)), ((a 7), .inl (cI, 6, .inl la)), ((a 8), .inr (3, [.int (nI sn), .ref (a 9), .ref (a 10), .ref (a 11), .ref (a 12)])), ((a 13), .inr (0, [.int (nI kn), .ref (a 14), .ref (a 15), .ref (a 16), .ref (a 17)]))] sz) := by
  refine va_MetW (cc := cL_does) (maxL := 5) (ret := (some .int)) (by decide) rfl ?_
  intro p e s m args below meth c s₁ B hml hv
  obtain ⟨rfl, ⟨⟨hsz, hP, hK, hD0⟩, hE⟩, hN⟩ := hv
  have hx := B.exec
  have hb := B.bytes
  have hr := B.returns
  have hts := atoms_spec (ws := wsL_does) B.pre
  have hown : s.vm.findClass RL = some m.cls := findClass_of_methodNamed B.named
  have hlocks := B.notSynchronized
  subst hsz
  have hD := hD0.self (sz := s.heap.size)
  generalize hAe : va_A [((a 0), .inr (5, [.ref (a 2), .ref (a 4), .ref (a 18), .ref (a 1)])), ((a 4), .inr (2, [.int hm, .int aw, .int tk, .ref (a 5), .ref (a 6), .ref (a 7), .ref (a 8), .ref (a 13)])), ((a 5), .inl (cI, 6, .inl ce)), ((a 6), .inl (cI, 6, .inl hi)), ((a 7), .inl (cI, 6, .inl la)), ((a 8), .inr (3, [.int (nI sn), .ref (a 9), .ref (a 10), .ref (a 11), .ref (a 12)])), ((a 13), .inr (0, [.int (nI kn), .ref (a 14), .ref (a 15), .ref (a 16), .ref (a 17)]))] s.heap.size = A at hD hE ⊢
  have hA : ∀ q : Nat, s.heap.size ≤ q → A q := fun q h => by rw [← hAe]; exact Or.inr h
  have hAR : ∀ q : Nat, s.heap.size ≤ q → (fun q : Nat => s.heap.size ≤ q) q := fun _ h => h
  have hS : va_S A s.heap s.heap [] := va_S.rf
  have hP : va_P D vwCl [((a 0), .inr (5, [.ref (a 2), .ref (a 4), .ref (a 18), .ref (a 1)])), ((a 4), .inr (2, [.int hm, .int aw, .int tk, .ref (a 5), .ref (a 6), .ref (a 7), .ref (a 8), .ref (a 13)])), ((a 5), .inl (cI, 6, .inl ce)), ((a 6), .inl (cI, 6, .inl hi)), ((a 7), .inl (cI, 6, .inl la)), ((a 8), .inr (3, [.int (nI sn), .ref (a 9), .ref (a 10), .ref (a 11), .ref (a 12)])), ((a 13), .inr (0, [.int (nI kn), .ref (a 14), .ref (a 15), .ref (a 16), .ref (a 17)]))] s.heap := hP
  have hl := lv_entry ([.ref (a 0), .int 2, .int p1, .int p2]) (n := 5) (Nat.le_of_ble_eq_true rfl)
  rw [lg_entry_eq]
  generalize (lg_sl ([.ref (a 0), .int 2, .int p1, .int p2]) ++ List.replicate (5 - (lg_sl ([.ref (a 0), .int 2, .int p1, .int p2])).length) Slot.unset).toArray = ls at hl ⊢
  have hl : lv_has ls 5 [(0, .ref (a 0)), (1, .int 2), (2, .int p1), (3, .int p2)] := hl
  have hT9 : c.exceptionTable.toList = tableOf [(0, 130, 131, 48), (0, 130, 136, 50), (0, 130, 141, 52)] := vx_table (x := yL_does) B (hts _ List.mem_cons_self)
  have hlc_48 := hts (.classLink RL 48 "java/lang/IndexOutOfBoundsException") (by decide +kernel)
  refine lv_iload_n hx hb dL_does_0 rfl (lv_at hl 1 rfl) ?_
  refine lv_if_ne (tgt := 20) hx hb dL_does_1 (by decide) (fun _ => ?_) (fun c_1 => absurd c_1 (by decide))
  refine lv_iload_n hx hb dL_does_20 rfl (lv_at hl 1 rfl) ?_
  refine lv_iconst (v := 1) hx hb dL_does_21 (by decide) ?_
  refine lv_icmp_ne (tgt := 34) hx hb dL_does_22 (by decide) (fun _ => ?_) (fun c_2 => absurd c_2 (by decide))
  refine lv_iload_n hx hb dL_does_34 rfl (lv_at hl 1 rfl) ?_
  refine lv_iconst (v := 2) hx hb dL_does_35 (by decide) ?_
  refine lv_icmp_ne (tgt := 48) hx hb dL_does_36 (by decide) (fun c_3 => absurd (by decide) c_3) (fun _ => ?_)
  refine lv_aload_n hx hb dL_does_39 rfl (lv_at hl 0 rfl) ?_
  refine lv_iload_n hx hb dL_does_40 rfl (lv_at hl 2 rfl) ?_
  refine lv_iload_n hx hb dL_does_41 rfl (lv_at hl 3 rfl) ?_
  have hPc := hP
  have hDc := hD.sub (ws' := [((a 0), .inr (5, [.ref (a 2), .ref (a 4), .ref (a 18), .ref (a 1)])), ((a 4), .inr (2, [.int hm, .int aw, .int tk, .ref (a 5), .ref (a 6), .ref (a 7), .ref (a 8), .ref (a 13)])), ((a 5), .inl (cI, 6, .inl ce)), ((a 6), .inl (cI, 6, .inl hi)), ((a 7), .inl (cI, 6, .inl la)), ((a 8), .inr (3, [.int (nI sn), .ref (a 9), .ref (a 10), .ref (a 11), .ref (a 12)])), ((a 13), .inr (0, [.int (nI kn), .ref (a 14), .ref (a 15), .ref (a 16), .ref (a 17)]))]) [0, 1, 2, 3, 4, 5, 6] (by decide) rfl
  have hFc := va_free (wc := [((a 0), .inr (5, [.ref (a 2), .ref (a 4), .ref (a 18), .ref (a 1)])), ((a 4), .inr (2, [.int hm, .int aw, .int tk, .ref (a 5), .ref (a 6), .ref (a 7), .ref (a 8), .ref (a 13)])), ((a 5), .inl (cI, 6, .inl ce)), ((a 6), .inl (cI, 6, .inl hi)), ((a 7), .inl (cI, 6, .inl la)), ((a 8), .inr (3, [.int (nI sn), .ref (a 9), .ref (a 10), .ref (a 11), .ref (a 12)])), ((a 13), .inr (0, [.int (nI kn), .ref (a 14), .ref (a 15), .ref (a 16), .ref (a 17)]))]) hD hS hA [0, 1, 2, 3, 4, 5, 6] rfl
  refine vx_calli (vx_runS (As := [.ref (a 0), .int p1, .int p2]) (rest := []) ⟨hx, hb, hml, hown, hts⟩ (c_L_begins l hlt D cI cZ cJ cA sx s.heap.size a hm aw tk ce hi la sn kn p1 p2) (va_cwS 3 hts gL_does_L_begins rfl rfl rfl (by decide +kernel) ⟨Nat.le_of_ble_eq_true rfl, Nat.le_of_ble_eq_true rfl⟩) ⟨pcXW_bl, fun U hU hW => ⟨rfl, ⟨by rw [hU], by rw [hU]; exact hPc, va_K.moved hW.alike hK, hDc.weaken (fun _ _ _ _ => trivial)⟩, hE.call hS hFc hU hW⟩⟩ rfl rfl hl.1 rfl (lv_room (Nat.le_of_ble_eq_true rfl)) dL_does_42 ⟨Nat.le_of_ble_eq_true rfl, Nat.le_of_ble_eq_true rfl⟩) hS (fun q _ h => hFc q h) hFc (fun _ h1 h2 => absurd h1 (Nat.not_lt.mpr h2)) (fun E cel q9 u t H locs ht hvm hpx hb1 hz1 hk1 hS hce hcv hcl => ?_) (fun r_4 u t H locs ht hvm hw hB hz1 hk1 hS => ?_)
  · have c_5 : ¬ (k_L_begins hm aw tk ce hi la sn kn p1 p2) = 0 := thr_ne hb1
    have hP := rd_P hP hk1
    · obtain rfl := thr_E1 hb1 hk
      refine vx_catch (name := "java/lang/IndexOutOfBoundsException") hown [] ⟨0, 130, 131, 48⟩ [⟨0, 130, 136, 50⟩, ⟨0, 130, 141, 52⟩] (hT9.trans rfl) (fun _ h => absurd h List.not_mem_nil) rfl (by decide) hlc_48 (va_Nw.use rfl hE.n1) hce hcv hcl ?_
      refine W.eq (g2 := F0 m 131 ls [.ref q9]) rfl ?_
      refine W.widen (k := 3) (n := 18) (Nat.le_refl _) (Nat.le_refl _) ?_
      refine lv_astore (lv' := [(4, .ref q9), (0, .ref (a 0)), (1, .int 2), (2, .int p1), (3, .int p2)]) hx hb dL_does_131 hl (by decide) rfl (fun ls hl => ?_)
      refine lv_bipush (v := (-30)) hx hb dL_does_133 (by decide) ?_
      have hP9 := hP.sub (ws' := [((a 0), .inr (5, [.ref (a 2), .ref (a 4), .ref (a 18), .ref (a 1)])), ((a 4), .inr (2, [.int hm, .int aw, .int tk, .ref (a 5), .ref (a 6), .ref (a 7), .ref (a 8), .ref (a 13)])), ((a 5), .inl (cI, 6, .inl ce)), ((a 6), .inl (cI, 6, .inl hi)), ((a 7), .inl (cI, 6, .inl la)), ((a 8), .inr (3, [.int (nI sn), .ref (a 9), .ref (a 10), .ref (a 11), .ref (a 12)])), ((a 13), .inr (0, [.int (nI kn), .ref (a 14), .ref (a 15), .ref (a 16), .ref (a 17)]))]) [0, 1, 2, 3, 4, 5, 6] rfl
      have hD9 := hD.sub (ws' := [((a 0), .inr (5, [.ref (a 2), .ref (a 4), .ref (a 18), .ref (a 1)])), ((a 4), .inr (2, [.int hm, .int aw, .int tk, .ref (a 5), .ref (a 6), .ref (a 7), .ref (a 8), .ref (a 13)])), ((a 5), .inl (cI, 6, .inl ce)), ((a 6), .inl (cI, 6, .inl hi)), ((a 7), .inl (cI, 6, .inl la)), ((a 8), .inr (3, [.int (nI sn), .ref (a 9), .ref (a 10), .ref (a 11), .ref (a 12)])), ((a 13), .inr (0, [.int (nI kn), .ref (a 14), .ref (a 15), .ref (a 16), .ref (a 17)]))]) [0, 1, 2, 3, 4, 5, 6] (by decide) rfl
      -- leaf 0
      refine W.widen (k := 3) (n := 18) (Nat.le_of_ble_eq_true rfl) (Nat.le_of_ble_eq_true rfl) ?_
      exact W.iret (v := (-30)) hx hb hr (fun t ht hW => ⟨⟨(-30), (), rfl, rfl, by rw [ht]; exact hP9, va_K.moved hW.alike hK, hD9⟩, hS.F ht⟩) hS.2.2 dL_does_135
  · try dsimp only at hw
    exact absurd (hk.symm.trans hw.1) (by decide)

set_option maxHeartbeats 4000000 in
set_option maxRecDepth 100000 in
theorem c_E3 (l : Launch) (hlt : l.stackTraces = false) (D : va_G) (cI cZ cJ cA : ClassId) (sx : Nat → Nat) (sz : Nat) (a : Nat → Nat) (bk : Nat → Int32) (hm : Int32) (aw : Int32) (tk : Int32) (ce : Nat → Int32) (p1 : Int32) (p2 : Int32) (hz : ∀ j : Nat, bk j = 0 ∨ bk j = 1) (hk : k_X5_move bk hm aw tk ce p1 p2 = 1) : Met l yL_does wsL_does ({ frames := 9, cells := 4, slots := 24, locals := 154 } : Room) (va_Pc [.ref (a 0), .int 3, .int p1, .int p2] (pcL (pcW D (tyL cI cZ cJ cA) [((a 0), .inr (5, [.ref (a 2), .ref (a 4), .ref (a 18), .ref (a 1)])), ((a 4), .inr (2, [.int hm, .int aw, .int tk, .ref (a 5), .ref (a 6), .ref (a 7), .ref (a 8), .ref (a 13)])), ((a 5), .inl (cI, 6, .inl ce)), ((a 2), .inr (1, [.ref (a 3)])), ((a 3), .inl (cZ, 144, .inl bk))] sz) sx (va_A [((a 0), .inr (5, [.ref (a 2), .ref (a 4), .ref (a 18), .ref (a 1)])), ((a 4), .inr (2, [.int hm, .int aw, .int tk, .ref (a 5), .ref (a 6), .ref (a 7), .ref (a 8), .ref (a 13)])), ((a 5), .inl (cI, 6, .inl ce)), ((a 2), .inr (1, [.ref (a 3)])), ((a 3), .inl (cZ, 144, .inl bk))] sz))) (va_Qi (fun (r : Int32) (u : Unit) => r = (-30)) (fun u t => bcW D (tyL cI cZ cJ cA) (va_A [((a 0), .inr (5, [.ref (a 2), .ref (a 4), .ref (a 18), .ref (a 1)])), ((a 4), .inr (2, [.int hm, .int aw, .int tk, .ref (a 5), .ref (a 6), .ref (a 7), .ref (a 8), .ref (a 13)])), ((a 5), .inl (cI, 6, .inl ce)), ((a 2), .inr (1, [.ref (a 3)])), ((a 3), .inl (cZ, 144, .inl bk))] sz) [((a 0), .inr (5, [.ref (a 2), .ref (a 4), .ref (a 18), .ref (a 1)])), ((a 4), .inr (2, [.int hm, .int aw, .int tk, .ref (a 5), .ref (a 6), .ref (a 7), .ref (a 8), .ref (a 13)])), ((a 5), .inl (cI, 6, .inl ce)), ((a 2), .inr (1, [.ref (a 3)])), ((a 3), .inl (cZ, 144, .inl bk))] t) (va_A [((a 0), .inr (5, [.ref (a 2), .ref (a 4), .ref (a 18), .ref (a 1)])), ((a 4), .inr (2, [.int hm, .int aw, .int tk, .ref (a 5), .ref (a 6), .ref (a 7), .ref (a 8), .ref (a 13)])), ((a 5), .inl (cI, 6, .inl ce)), ((a 2), .inr (1, [.ref (a 3)])), ((a 3), .inl (cZ, 144, .inl bk))] sz)) 4 24 (va_A [((a 0), .inr (5, [.ref (a 2), .ref (a 4), .ref (a 18), .ref (a 1)])), ((a 4), .inr (2, [.int hm, .int aw, .int tk, .ref (a 5), .ref (a 6), .ref (a 7), .ref (a 8), .ref (a 13)])), ((a 5), .inl (cI, 6, .inl ce)), ((a 2), .inr (1, [.ref (a 3)])), ((a 3), .inl (cZ, 144, .inl bk))] sz) := by
  refine va_MetW (cc := cL_does) (maxL := 5) (ret := (some .int)) (by decide) rfl ?_
  intro p e s m args below meth c s₁ B hml hv
  obtain ⟨rfl, ⟨⟨hsz, hP, hK, hD0⟩, hE⟩, hN⟩ := hv
  have hx := B.exec
  have hb := B.bytes
  have hr := B.returns
  have hts := atoms_spec (ws := wsL_does) B.pre
  have hown : s.vm.findClass RL = some m.cls := findClass_of_methodNamed B.named
  have hlocks := B.notSynchronized
  subst hsz
  have hD := hD0.self (sz := s.heap.size)
  generalize hAe : va_A [((a 0), .inr (5, [.ref (a 2), .ref (a 4), .ref (a 18), .ref (a 1)])), ((a 4), .inr (2, [.int hm, .int aw, .int tk, .ref (a 5), .ref (a 6), .ref (a 7), .ref (a 8), .ref (a 13)])), ((a 5), .inl (cI, 6, .inl ce)), ((a 2), .inr (1, [.ref (a 3)])), ((a 3), .inl (cZ, 144, .inl bk))] s.heap.size = A at hD hE ⊢
  have hA : ∀ q : Nat, s.heap.size ≤ q → A q := fun q h => by rw [← hAe]; exact Or.inr h
  have hAR : ∀ q : Nat, s.heap.size ≤ q → (fun q : Nat => s.heap.size ≤ q) q := fun _ h => h
  have hS : va_S A s.heap s.heap [] := va_S.rf
  have hP : va_P D vwCl [((a 0), .inr (5, [.ref (a 2), .ref (a 4), .ref (a 18), .ref (a 1)])), ((a 4), .inr (2, [.int hm, .int aw, .int tk, .ref (a 5), .ref (a 6), .ref (a 7), .ref (a 8), .ref (a 13)])), ((a 5), .inl (cI, 6, .inl ce)), ((a 2), .inr (1, [.ref (a 3)])), ((a 3), .inl (cZ, 144, .inl bk))] s.heap := hP
  have hl := lv_entry ([.ref (a 0), .int 3, .int p1, .int p2]) (n := 5) (Nat.le_of_ble_eq_true rfl)
  rw [lg_entry_eq]
  generalize (lg_sl ([.ref (a 0), .int 3, .int p1, .int p2]) ++ List.replicate (5 - (lg_sl ([.ref (a 0), .int 3, .int p1, .int p2])).length) Slot.unset).toArray = ls at hl ⊢
  have hl : lv_has ls 5 [(0, .ref (a 0)), (1, .int 3), (2, .int p1), (3, .int p2)] := hl
  have hT9 : c.exceptionTable.toList = tableOf [(0, 130, 131, 48), (0, 130, 136, 50), (0, 130, 141, 52)] := vx_table (x := yL_does) B (hts _ List.mem_cons_self)
  have hlc_48 := hts (.classLink RL 48 "java/lang/IndexOutOfBoundsException") (by decide +kernel)
  refine lv_iload_n hx hb dL_does_0 rfl (lv_at hl 1 rfl) ?_
  refine lv_if_ne (tgt := 20) hx hb dL_does_1 (by decide) (fun _ => ?_) (fun c_1 => absurd c_1 (by decide))
  refine lv_iload_n hx hb dL_does_20 rfl (lv_at hl 1 rfl) ?_
  refine lv_iconst (v := 1) hx hb dL_does_21 (by decide) ?_
  refine lv_icmp_ne (tgt := 34) hx hb dL_does_22 (by decide) (fun _ => ?_) (fun c_2 => absurd c_2 (by decide))
  refine lv_iload_n hx hb dL_does_34 rfl (lv_at hl 1 rfl) ?_
  refine lv_iconst (v := 2) hx hb dL_does_35 (by decide) ?_
  refine lv_icmp_ne (tgt := 48) hx hb dL_does_36 (by decide) (fun _ => ?_) (fun c_3 => absurd c_3 (by decide))
  refine lv_iload_n hx hb dL_does_48 rfl (lv_at hl 1 rfl) ?_
  refine lv_iconst (v := 3) hx hb dL_does_49 (by decide) ?_
  refine lv_icmp_ne (tgt := 62) hx hb dL_does_50 (by decide) (fun c_4 => absurd (by decide) c_4) (fun _ => ?_)
  refine lv_aload_n hx hb dL_does_53 rfl (lv_at hl 0 rfl) ?_
  refine lv_iload_n hx hb dL_does_54 rfl (lv_at hl 2 rfl) ?_
  refine lv_iload_n hx hb dL_does_55 rfl (lv_at hl 3 rfl) ?_
  have hPc := hP
  have hDc := hD.sub (ws' := [((a 0), .inr (5, [.ref (a 2), .ref (a 4), .ref (a 18), .ref (a 1)])), ((a 4), .inr (2, [.int hm, .int aw, .int tk, .ref (a 5), .ref (a 6), .ref (a 7), .ref (a 8), .ref (a 13)])), ((a 5), .inl (cI, 6, .inl ce)), ((a 2), .inr (1, [.ref (a 3)])), ((a 3), .inl (cZ, 144, .inl bk))]) [0, 1, 2, 3, 4] (by decide) rfl
  have hFc := va_free (wc := [((a 0), .inr (5, [.ref (a 2), .ref (a 4), .ref (a 18), .ref (a 1)])), ((a 4), .inr (2, [.int hm, .int aw, .int tk, .ref (a 5), .ref (a 6), .ref (a 7), .ref (a 8), .ref (a 13)])), ((a 5), .inl (cI, 6, .inl ce)), ((a 2), .inr (1, [.ref (a 3)])), ((a 3), .inl (cZ, 144, .inl bk))]) hD hS hA [0, 1, 2, 3, 4] rfl
  refine vx_calli (vx_runV (As := [.int p1, .int p2]) (rest := []) ⟨hx, hb, hml, hown, hts⟩ (c_X5_move l hlt D cI cZ cJ cA sx s.heap.size a bk hm aw tk ce p1 p2 (by first | assumption | omega)) (cwV 2 hts gL_does_X5_move rfl rfl rfl (by decide +kernel) ⟨Nat.le_of_ble_eq_true rfl, Nat.le_of_ble_eq_true rfl⟩) ⟨pcXW_bl, va_recv hK hPc (ci := 5) (q0 := 0) rfl rfl, fun U hU hW => ⟨rfl, ⟨by rw [hU], by rw [hU]; exact hPc, va_K.moved hW.alike hK, hDc.weaken (fun _ _ _ _ => trivial)⟩, hE.call hS hFc hU hW⟩⟩ rfl rfl hl.1 rfl (lv_room (Nat.le_of_ble_eq_true rfl)) dL_does_56 ⟨Nat.le_of_ble_eq_true rfl, Nat.le_of_ble_eq_true rfl⟩) hS (fun q _ h => hFc q h) hFc (fun _ h1 h2 => absurd h1 (Nat.not_lt.mpr h2)) (fun E cel q9 u t H locs ht hvm hpx hb1 hz1 hk1 hS hce hcv hcl => ?_) (fun r_5 u t H locs ht hvm hw hB hz1 hk1 hS => ?_)
  · have c_6 : ¬ (k_X5_move bk hm aw tk ce p1 p2) = 0 := thr_ne hb1
    have hP := rd_P hP hk1
    · obtain rfl := thr_E1 hb1 hk
      refine vx_catch (name := "java/lang/IndexOutOfBoundsException") hown [] ⟨0, 130, 131, 48⟩ [⟨0, 130, 136, 50⟩, ⟨0, 130, 141, 52⟩] (hT9.trans rfl) (fun _ h => absurd h List.not_mem_nil) rfl (by decide) hlc_48 (va_Nw.use rfl hE.n1) hce hcv hcl ?_
      refine W.eq (g2 := F0 m 131 ls [.ref q9]) rfl ?_
      refine W.widen (k := 4) (n := 24) (Nat.le_refl _) (Nat.le_refl _) ?_
      refine lv_astore (lv' := [(4, .ref q9), (0, .ref (a 0)), (1, .int 3), (2, .int p1), (3, .int p2)]) hx hb dL_does_131 hl (by decide) rfl (fun ls hl => ?_)
      refine lv_bipush (v := (-30)) hx hb dL_does_133 (by decide) ?_
      have hP9 := hP.sub (ws' := [((a 0), .inr (5, [.ref (a 2), .ref (a 4), .ref (a 18), .ref (a 1)])), ((a 4), .inr (2, [.int hm, .int aw, .int tk, .ref (a 5), .ref (a 6), .ref (a 7), .ref (a 8), .ref (a 13)])), ((a 5), .inl (cI, 6, .inl ce)), ((a 2), .inr (1, [.ref (a 3)])), ((a 3), .inl (cZ, 144, .inl bk))]) [0, 1, 2, 3, 4] rfl
      have hD9 := hD.sub (ws' := [((a 0), .inr (5, [.ref (a 2), .ref (a 4), .ref (a 18), .ref (a 1)])), ((a 4), .inr (2, [.int hm, .int aw, .int tk, .ref (a 5), .ref (a 6), .ref (a 7), .ref (a 8), .ref (a 13)])), ((a 5), .inl (cI, 6, .inl ce)), ((a 2), .inr (1, [.ref (a 3)])), ((a 3), .inl (cZ, 144, .inl bk))]) [0, 1, 2, 3, 4] (by decide) rfl
      -- leaf 0
      refine W.widen (k := 4) (n := 24) (Nat.le_of_ble_eq_true rfl) (Nat.le_of_ble_eq_true rfl) ?_
      exact W.iret (v := (-30)) hx hb hr (fun t ht hW => ⟨⟨(-30), (), rfl, rfl, by rw [ht]; exact hP9, va_K.moved hW.alike hK, hD9⟩, hS.F ht⟩) hS.2.2 dL_does_135
  · try dsimp only at hw
    exact absurd (hk.symm.trans hw.1) (by decide)

set_option maxHeartbeats 4000000 in
set_option maxRecDepth 100000 in
theorem c_E4 (l : Launch) (hlt : l.stackTraces = false) (D : va_G) (cI cZ cJ cA : ClassId) (sx : Nat → Nat) (sz : Nat) (a : Nat → Nat) (hm : Int32) (aw : Int32) (tk : Int32) (ce : Nat → Int32) (la : Nat → Int32) (sn : Nat) (sa : Nat → Int32) (sb : Nat → Int32) (sc : Nat → Int32) (sd : Nat → Int32) (p1 : Int32) (p2 : Int32) (hsn : sn ≤ 100) (hk : k_X5_shoot hm aw tk ce la sn sa sb sc sd p1 p2 = 1) : Met l yL_does wsL_does ({ frames := 9, cells := 4, slots := 24, locals := 154 } : Room) (va_Pc [.ref (a 0), .int 4, .int p1, .int p2] (pcL (pcW D (tyL cI cZ cJ cA) [((a 0), .inr (5, [.ref (a 2), .ref (a 4), .ref (a 18), .ref (a 1)])), ((a 4), .inr (2, [.int hm, .int aw, .int tk, .ref (a 5), .ref (a 6), .ref (a 7), .ref (a 8), .ref (a 13)])), ((a 5), .inl (cI, 6, .inl ce)), ((a 7), .inl (cI, 6, .inl la)), ((a 8), .inr (3, [.int (nI sn), .ref (a 9), .ref (a 10), .ref (a 11), .ref (a 12)])), ((a 9), .inl (cI, 100, .inl sa)), ((a 10), .inl (cI, 100, .inl sb)), ((a 11), .inl (cI, 100, .inl sc)), ((a 12), .inl (cI, 100, .inl sd))] sz) sx (va_A [((a 0), .inr (5, [.ref (a 2), .ref (a 4), .ref (a 18), .ref (a 1)])), ((a 4), .inr (2, [.int hm, .int aw, .int tk, .ref (a 5), .ref (a 6), .ref (a 7), .ref (a 8), .ref (a 13)])), ((a 5), .inl (cI, 6, .inl ce)), ((a 7), .inl (cI, 6, .inl la)), ((a 8), .inr (3, [.int (nI sn), .ref (a 9), .ref (a 10), .ref (a 11), .ref (a 12)])), ((a 9), .inl (cI, 100, .inl sa)), ((a 10), .inl (cI, 100, .inl sb)), ((a 11), .inl (cI, 100, .inl sc)), ((a 12), .inl (cI, 100, .inl sd))] sz))) (va_Qi (fun (r : Int32) (u : Unit) => r = (-30)) (fun u t => bcW D (tyL cI cZ cJ cA) (va_A [((a 0), .inr (5, [.ref (a 2), .ref (a 4), .ref (a 18), .ref (a 1)])), ((a 4), .inr (2, [.int hm, .int aw, .int tk, .ref (a 5), .ref (a 6), .ref (a 7), .ref (a 8), .ref (a 13)])), ((a 5), .inl (cI, 6, .inl ce)), ((a 7), .inl (cI, 6, .inl la)), ((a 8), .inr (3, [.int (nI sn), .ref (a 9), .ref (a 10), .ref (a 11), .ref (a 12)])), ((a 9), .inl (cI, 100, .inl sa)), ((a 10), .inl (cI, 100, .inl sb)), ((a 11), .inl (cI, 100, .inl sc)), ((a 12), .inl (cI, 100, .inl sd))] sz) [((a 0), .inr (5, [.ref (a 2), .ref (a 4), .ref (a 18), .ref (a 1)])), ((a 4), .inr (2, [.int hm, .int aw, .int tk, .ref (a 5), .ref (a 6), .ref (a 7), .ref (a 8), .ref (a 13)])), ((a 5), .inl (cI, 6, .inl ce)), ((a 7), .inl (cI, 6, .inl la)), ((a 8), .inr (3, [.int (nI sn), .ref (a 9), .ref (a 10), .ref (a 11), .ref (a 12)])), ((a 9), .inl (cI, 100, .inl sa)), ((a 10), .inl (cI, 100, .inl sb)), ((a 11), .inl (cI, 100, .inl sc)), ((a 12), .inl (cI, 100, .inl sd))] t) (va_A [((a 0), .inr (5, [.ref (a 2), .ref (a 4), .ref (a 18), .ref (a 1)])), ((a 4), .inr (2, [.int hm, .int aw, .int tk, .ref (a 5), .ref (a 6), .ref (a 7), .ref (a 8), .ref (a 13)])), ((a 5), .inl (cI, 6, .inl ce)), ((a 7), .inl (cI, 6, .inl la)), ((a 8), .inr (3, [.int (nI sn), .ref (a 9), .ref (a 10), .ref (a 11), .ref (a 12)])), ((a 9), .inl (cI, 100, .inl sa)), ((a 10), .inl (cI, 100, .inl sb)), ((a 11), .inl (cI, 100, .inl sc)), ((a 12), .inl (cI, 100, .inl sd))] sz)) 4 24 (va_A [((a 0), .inr (5, [.ref (a 2), .ref (a 4), .ref (a 18), .ref (a 1)])), ((a 4), .inr (2, [.int hm, .int aw, .int tk, .ref (a 5), .ref (a 6), .ref (a 7), .ref (a 8), .ref (a 13)])), ((a 5), .inl (cI, 6, .inl ce)), ((a 7), .inl (cI, 6, .inl la)), ((a 8), .inr (3, [.int (nI sn), .ref (a 9), .ref (a 10), .ref (a 11), .ref (a 12)])), ((a 9), .inl (cI, 100, .inl sa)), ((a 10), .inl (cI, 100, .inl sb)), ((a 11), .inl (cI, 100, .inl sc)), ((a 12), .inl (cI, 100, .inl sd))] sz) := by
  refine va_MetW (cc := cL_does) (maxL := 5) (ret := (some .int)) (by decide) rfl ?_
  intro p e s m args below meth c s₁ B hml hv
  obtain ⟨rfl, ⟨⟨hsz, hP, hK, hD0⟩, hE⟩, hN⟩ := hv
  have hx := B.exec
  have hb := B.bytes
  have hr := B.returns
  have hts := atoms_spec (ws := wsL_does) B.pre
  have hown : s.vm.findClass RL = some m.cls := findClass_of_methodNamed B.named
  have hlocks := B.notSynchronized
  subst hsz
  have hD := hD0.self (sz := s.heap.size)
  generalize hAe : va_A [((a 0), .inr (5, [.ref (a 2), .ref (a 4), .ref (a 18), .ref (a 1)])), ((a 4), .inr (2, [.int hm, .int aw, .int tk, .ref (a 5), .ref (a 6), .ref (a 7), .ref (a 8), .ref (a 13)])), ((a 5), .inl (cI, 6, .inl ce)), ((a 7), .inl (cI, 6, .inl la)), ((a 8), .inr (3, [.int (nI sn), .ref (a 9), .ref (a 10), .ref (a 11), .ref (a 12)])), ((a 9), .inl (cI, 100, .inl sa)), ((a 10), .inl (cI, 100, .inl sb)), ((a 11), .inl (cI, 100, .inl sc)), ((a 12), .inl (cI, 100, .inl sd))] s.heap.size = A at hD hE ⊢
  have hA : ∀ q : Nat, s.heap.size ≤ q → A q := fun q h => by rw [← hAe]; exact Or.inr h
  have hAR : ∀ q : Nat, s.heap.size ≤ q → (fun q : Nat => s.heap.size ≤ q) q := fun _ h => h
  have hS : va_S A s.heap s.heap [] := va_S.rf
  have hP : va_P D vwCl [((a 0), .inr (5, [.ref (a 2), .ref (a 4), .ref (a 18), .ref (a 1)])), ((a 4), .inr (2, [.int hm, .int aw, .int tk, .ref (a 5), .ref (a 6), .ref (a 7), .ref (a 8), .ref (a 13)])), ((a 5), .inl (cI, 6, .inl ce)), ((a 7), .inl (cI, 6, .inl la)), ((a 8), .inr (3, [.int (nI sn), .ref (a 9), .ref (a 10), .ref (a 11), .ref (a 12)])), ((a 9), .inl (cI, 100, .inl sa)), ((a 10), .inl (cI, 100, .inl sb)), ((a 11), .inl (cI, 100, .inl sc)), ((a 12), .inl (cI, 100, .inl sd))] s.heap := hP
  have hl := lv_entry ([.ref (a 0), .int 4, .int p1, .int p2]) (n := 5) (Nat.le_of_ble_eq_true rfl)
  rw [lg_entry_eq]
  generalize (lg_sl ([.ref (a 0), .int 4, .int p1, .int p2]) ++ List.replicate (5 - (lg_sl ([.ref (a 0), .int 4, .int p1, .int p2])).length) Slot.unset).toArray = ls at hl ⊢
  have hl : lv_has ls 5 [(0, .ref (a 0)), (1, .int 4), (2, .int p1), (3, .int p2)] := hl
  have hT9 : c.exceptionTable.toList = tableOf [(0, 130, 131, 48), (0, 130, 136, 50), (0, 130, 141, 52)] := vx_table (x := yL_does) B (hts _ List.mem_cons_self)
  have hlc_48 := hts (.classLink RL 48 "java/lang/IndexOutOfBoundsException") (by decide +kernel)
  refine lv_iload_n hx hb dL_does_0 rfl (lv_at hl 1 rfl) ?_
  refine lv_if_ne (tgt := 20) hx hb dL_does_1 (by decide) (fun _ => ?_) (fun c_1 => absurd c_1 (by decide))
  refine lv_iload_n hx hb dL_does_20 rfl (lv_at hl 1 rfl) ?_
  refine lv_iconst (v := 1) hx hb dL_does_21 (by decide) ?_
  refine lv_icmp_ne (tgt := 34) hx hb dL_does_22 (by decide) (fun _ => ?_) (fun c_2 => absurd c_2 (by decide))
  refine lv_iload_n hx hb dL_does_34 rfl (lv_at hl 1 rfl) ?_
  refine lv_iconst (v := 2) hx hb dL_does_35 (by decide) ?_
  refine lv_icmp_ne (tgt := 48) hx hb dL_does_36 (by decide) (fun _ => ?_) (fun c_3 => absurd c_3 (by decide))
  refine lv_iload_n hx hb dL_does_48 rfl (lv_at hl 1 rfl) ?_
  refine lv_iconst (v := 3) hx hb dL_does_49 (by decide) ?_
  refine lv_icmp_ne (tgt := 62) hx hb dL_does_50 (by decide) (fun _ => ?_) (fun c_4 => absurd c_4 (by decide))
  refine lv_iload_n hx hb dL_does_62 rfl (lv_at hl 1 rfl) ?_
  refine lv_iconst (v := 4) hx hb dL_does_63 (by decide) ?_
  refine lv_icmp_ne (tgt := 76) hx hb dL_does_64 (by decide) (fun c_5 => absurd (by decide) c_5) (fun _ => ?_)
  refine lv_aload_n hx hb dL_does_67 rfl (lv_at hl 0 rfl) ?_
  refine lv_iload_n hx hb dL_does_68 rfl (lv_at hl 2 rfl) ?_
  refine lv_iload_n hx hb dL_does_69 rfl (lv_at hl 3 rfl) ?_
  have hPc := hP
  have hDc := hD.sub (ws' := [((a 0), .inr (5, [.ref (a 2), .ref (a 4), .ref (a 18), .ref (a 1)])), ((a 4), .inr (2, [.int hm, .int aw, .int tk, .ref (a 5), .ref (a 6), .ref (a 7), .ref (a 8), .ref (a 13)])), ((a 5), .inl (cI, 6, .inl ce)), ((a 7), .inl (cI, 6, .inl la)), ((a 8), .inr (3, [.int (nI sn), .ref (a 9), .ref (a 10), .ref (a 11), .ref (a 12)])), ((a 9), .inl (cI, 100, .inl sa)), ((a 10), .inl (cI, 100, .inl sb)), ((a 11), .inl (cI, 100, .inl sc)), ((a 12), .inl (cI, 100, .inl sd))]) [0, 1, 2, 3, 4, 5, 6, 7, 8] (by decide) rfl
  have hFc := va_free (wc := [((a 0), .inr (5, [.ref (a 2), .ref (a 4), .ref (a 18), .ref (a 1)])), ((a 4), .inr (2, [.int hm, .int aw, .int tk, .ref (a 5), .ref (a 6), .ref (a 7), .ref (a 8), .ref (a 13)])), ((a 5), .inl (cI, 6, .inl ce)), ((a 7), .inl (cI, 6, .inl la)), ((a 8), .inr (3, [.int (nI sn), .ref (a 9), .ref (a 10), .ref (a 11), .ref (a 12)])), ((a 9), .inl (cI, 100, .inl sa)), ((a 10), .inl (cI, 100, .inl sb)), ((a 11), .inl (cI, 100, .inl sc)), ((a 12), .inl (cI, 100, .inl sd))]) hD hS hA [0, 1, 2, 3, 4, 5, 6, 7, 8] rfl
  refine vx_calli (vx_runV (As := [.int p1, .int p2]) (rest := []) ⟨hx, hb, hml, hown, hts⟩ (c_X5_shoot l hlt D cI cZ cJ cA sx s.heap.size a hm aw tk ce la sn sa sb sc sd p1 p2 (by first | assumption | omega)) (cwV 2 hts gL_does_X5_shoot rfl rfl rfl (by decide +kernel) ⟨Nat.le_of_ble_eq_true rfl, Nat.le_of_ble_eq_true rfl⟩) ⟨pcXW_bl, va_recv hK hPc (ci := 5) (q0 := 0) rfl rfl, fun U hU hW => ⟨rfl, ⟨by rw [hU], by rw [hU]; exact hPc, va_K.moved hW.alike hK, hDc.weaken (fun _ _ _ _ => trivial)⟩, hE.call hS hFc hU hW⟩⟩ rfl rfl hl.1 rfl (lv_room (Nat.le_of_ble_eq_true rfl)) dL_does_70 ⟨Nat.le_of_ble_eq_true rfl, Nat.le_of_ble_eq_true rfl⟩) hS (fun q _ h => hFc q h) hFc (fun _ h1 h2 => absurd h1 (Nat.not_lt.mpr h2)) (fun E cel q9 u t H locs ht hvm hpx hb1 hz1 hk1 hS hce hcv hcl => ?_) (fun r_6 u t H locs ht hvm hw hB hz1 hk1 hS => ?_)
  · have c_7 : ¬ (k_X5_shoot hm aw tk ce la sn sa sb sc sd p1 p2) = 0 := thr_ne hb1
    have hP := rd_P hP hk1
    · obtain rfl := thr_E1 hb1 hk
      refine vx_catch (name := "java/lang/IndexOutOfBoundsException") hown [] ⟨0, 130, 131, 48⟩ [⟨0, 130, 136, 50⟩, ⟨0, 130, 141, 52⟩] (hT9.trans rfl) (fun _ h => absurd h List.not_mem_nil) rfl (by decide) hlc_48 (va_Nw.use rfl hE.n1) hce hcv hcl ?_
      refine W.eq (g2 := F0 m 131 ls [.ref q9]) rfl ?_
      refine W.widen (k := 4) (n := 24) (Nat.le_refl _) (Nat.le_refl _) ?_
      refine lv_astore (lv' := [(4, .ref q9), (0, .ref (a 0)), (1, .int 4), (2, .int p1), (3, .int p2)]) hx hb dL_does_131 hl (by decide) rfl (fun ls hl => ?_)
      refine lv_bipush (v := (-30)) hx hb dL_does_133 (by decide) ?_
      have hP9 := hP.sub (ws' := [((a 0), .inr (5, [.ref (a 2), .ref (a 4), .ref (a 18), .ref (a 1)])), ((a 4), .inr (2, [.int hm, .int aw, .int tk, .ref (a 5), .ref (a 6), .ref (a 7), .ref (a 8), .ref (a 13)])), ((a 5), .inl (cI, 6, .inl ce)), ((a 7), .inl (cI, 6, .inl la)), ((a 8), .inr (3, [.int (nI sn), .ref (a 9), .ref (a 10), .ref (a 11), .ref (a 12)])), ((a 9), .inl (cI, 100, .inl sa)), ((a 10), .inl (cI, 100, .inl sb)), ((a 11), .inl (cI, 100, .inl sc)), ((a 12), .inl (cI, 100, .inl sd))]) [0, 1, 2, 3, 4, 5, 6, 7, 8] rfl
      have hD9 := hD.sub (ws' := [((a 0), .inr (5, [.ref (a 2), .ref (a 4), .ref (a 18), .ref (a 1)])), ((a 4), .inr (2, [.int hm, .int aw, .int tk, .ref (a 5), .ref (a 6), .ref (a 7), .ref (a 8), .ref (a 13)])), ((a 5), .inl (cI, 6, .inl ce)), ((a 7), .inl (cI, 6, .inl la)), ((a 8), .inr (3, [.int (nI sn), .ref (a 9), .ref (a 10), .ref (a 11), .ref (a 12)])), ((a 9), .inl (cI, 100, .inl sa)), ((a 10), .inl (cI, 100, .inl sb)), ((a 11), .inl (cI, 100, .inl sc)), ((a 12), .inl (cI, 100, .inl sd))]) [0, 1, 2, 3, 4, 5, 6, 7, 8] (by decide) rfl
      -- leaf 0
      refine W.widen (k := 4) (n := 24) (Nat.le_of_ble_eq_true rfl) (Nat.le_of_ble_eq_true rfl) ?_
      exact W.iret (v := (-30)) hx hb hr (fun t ht hW => ⟨⟨(-30), (), rfl, rfl, by rw [ht]; exact hP9, va_K.moved hW.alike hK, hD9⟩, hS.F ht⟩) hS.2.2 dL_does_135
  · try dsimp only at hw
    exact absurd (hk.symm.trans hw.1) (by decide)

set_option maxHeartbeats 4000000 in
set_option maxRecDepth 100000 in
theorem c_E5 (l : Launch) (hlt : l.stackTraces = false) (D : va_G) (cI cZ cJ cA : ClassId) (sx : Nat → Nat) (sz : Nat) (a : Nat → Nat) (bk : Nat → Int32) (hm : Int32) (aw : Int32) (tk : Int32) (ce : Nat → Int32) (hi : Nat → Int32) (sn : Nat) (sa : Nat → Int32) (sb : Nat → Int32) (sc : Nat → Int32) (sd : Nat → Int32) (p1 : Int32) (p2 : Int32) (h1 : sn ≤ 100) (h2 : ∀ j : Nat, j < sn → vp_in (sb j) 144) (h3 : ∀ j : Nat, j < sn → vp_in (sc j) 144) (hk : k_X5_pass bk hm aw tk ce hi sn sa sb sc sd p1 = 2) : Met l yL_does wsL_does ({ frames := 9, cells := 2, slots := 12, locals := 154 } : Room) (va_Pc [.ref (a 0), .int 5, .int p1, .int p2] (pcL (pcW D (tyL cI cZ cJ cA) [((a 0), .inr (5, [.ref (a 2), .ref (a 4), .ref (a 18), .ref (a 1)])), ((a 4), .inr (2, [.int hm, .int aw, .int tk, .ref (a 5), .ref (a 6), .ref (a 7), .ref (a 8), .ref (a 13)])), ((a 5), .inl (cI, 6, .inl ce)), ((a 6), .inl (cI, 6, .inl hi)), ((a 8), .inr (3, [.int (nI sn), .ref (a 9), .ref (a 10), .ref (a 11), .ref (a 12)])), ((a 9), .inl (cI, 100, .inl sa)), ((a 10), .inl (cI, 100, .inl sb)), ((a 11), .inl (cI, 100, .inl sc)), ((a 12), .inl (cI, 100, .inl sd)), ((a 2), .inr (1, [.ref (a 3)])), ((a 3), .inl (cZ, 144, .inl bk))] sz) sx (va_A [((a 0), .inr (5, [.ref (a 2), .ref (a 4), .ref (a 18), .ref (a 1)])), ((a 4), .inr (2, [.int hm, .int aw, .int tk, .ref (a 5), .ref (a 6), .ref (a 7), .ref (a 8), .ref (a 13)])), ((a 5), .inl (cI, 6, .inl ce)), ((a 6), .inl (cI, 6, .inl hi)), ((a 8), .inr (3, [.int (nI sn), .ref (a 9), .ref (a 10), .ref (a 11), .ref (a 12)])), ((a 9), .inl (cI, 100, .inl sa)), ((a 10), .inl (cI, 100, .inl sb)), ((a 11), .inl (cI, 100, .inl sc)), ((a 12), .inl (cI, 100, .inl sd)), ((a 2), .inr (1, [.ref (a 3)])), ((a 3), .inl (cZ, 144, .inl bk))] sz))) (va_Qi (fun (r : Int32) (u : Unit) => r = (-20)) (fun u t => bcW D (tyL cI cZ cJ cA) (va_A [((a 0), .inr (5, [.ref (a 2), .ref (a 4), .ref (a 18), .ref (a 1)])), ((a 4), .inr (2, [.int hm, .int aw, .int tk, .ref (a 5), .ref (a 6), .ref (a 7), .ref (a 8), .ref (a 13)])), ((a 5), .inl (cI, 6, .inl ce)), ((a 6), .inl (cI, 6, .inl hi)), ((a 8), .inr (3, [.int (nI sn), .ref (a 9), .ref (a 10), .ref (a 11), .ref (a 12)])), ((a 9), .inl (cI, 100, .inl sa)), ((a 10), .inl (cI, 100, .inl sb)), ((a 11), .inl (cI, 100, .inl sc)), ((a 12), .inl (cI, 100, .inl sd)), ((a 2), .inr (1, [.ref (a 3)])), ((a 3), .inl (cZ, 144, .inl bk))] sz) [((a 0), .inr (5, [.ref (a 2), .ref (a 4), .ref (a 18), .ref (a 1)])), ((a 4), .inr (2, [.int hm, .int aw, .int tk, .ref (a 5), .ref (a 6), .ref (a 7), .ref (a 8), .ref (a 13)])), ((a 5), .inl (cI, 6, .inl ce)), ((a 6), .inl (cI, 6, .inl hi)), ((a 8), .inr (3, [.int (nI sn), .ref (a 9), .ref (a 10), .ref (a 11), .ref (a 12)])), ((a 9), .inl (cI, 100, .inl sa)), ((a 10), .inl (cI, 100, .inl sb)), ((a 11), .inl (cI, 100, .inl sc)), ((a 12), .inl (cI, 100, .inl sd)), ((a 2), .inr (1, [.ref (a 3)])), ((a 3), .inl (cZ, 144, .inl bk))] t) (va_A [((a 0), .inr (5, [.ref (a 2), .ref (a 4), .ref (a 18), .ref (a 1)])), ((a 4), .inr (2, [.int hm, .int aw, .int tk, .ref (a 5), .ref (a 6), .ref (a 7), .ref (a 8), .ref (a 13)])), ((a 5), .inl (cI, 6, .inl ce)), ((a 6), .inl (cI, 6, .inl hi)), ((a 8), .inr (3, [.int (nI sn), .ref (a 9), .ref (a 10), .ref (a 11), .ref (a 12)])), ((a 9), .inl (cI, 100, .inl sa)), ((a 10), .inl (cI, 100, .inl sb)), ((a 11), .inl (cI, 100, .inl sc)), ((a 12), .inl (cI, 100, .inl sd)), ((a 2), .inr (1, [.ref (a 3)])), ((a 3), .inl (cZ, 144, .inl bk))] sz)) 2 12 (va_A [((a 0), .inr (5, [.ref (a 2), .ref (a 4), .ref (a 18), .ref (a 1)])), ((a 4), .inr (2, [.int hm, .int aw, .int tk, .ref (a 5), .ref (a 6), .ref (a 7), .ref (a 8), .ref (a 13)])), ((a 5), .inl (cI, 6, .inl ce)), ((a 6), .inl (cI, 6, .inl hi)), ((a 8), .inr (3, [.int (nI sn), .ref (a 9), .ref (a 10), .ref (a 11), .ref (a 12)])), ((a 9), .inl (cI, 100, .inl sa)), ((a 10), .inl (cI, 100, .inl sb)), ((a 11), .inl (cI, 100, .inl sc)), ((a 12), .inl (cI, 100, .inl sd)), ((a 2), .inr (1, [.ref (a 3)])), ((a 3), .inl (cZ, 144, .inl bk))] sz) := by
  refine va_MetW (cc := cL_does) (maxL := 5) (ret := (some .int)) (by decide) rfl ?_
  intro p e s m args below meth c s₁ B hml hv
  obtain ⟨rfl, ⟨⟨hsz, hP, hK, hD0⟩, hE⟩, hN⟩ := hv
  have hx := B.exec
  have hb := B.bytes
  have hr := B.returns
  have hts := atoms_spec (ws := wsL_does) B.pre
  have hown : s.vm.findClass RL = some m.cls := findClass_of_methodNamed B.named
  have hlocks := B.notSynchronized
  subst hsz
  have hD := hD0.self (sz := s.heap.size)
  generalize hAe : va_A [((a 0), .inr (5, [.ref (a 2), .ref (a 4), .ref (a 18), .ref (a 1)])), ((a 4), .inr (2, [.int hm, .int aw, .int tk, .ref (a 5), .ref (a 6), .ref (a 7), .ref (a 8), .ref (a 13)])), ((a 5), .inl (cI, 6, .inl ce)), ((a 6), .inl (cI, 6, .inl hi)), ((a 8), .inr (3, [.int (nI sn), .ref (a 9), .ref (a 10), .ref (a 11), .ref (a 12)])), ((a 9), .inl (cI, 100, .inl sa)), ((a 10), .inl (cI, 100, .inl sb)), ((a 11), .inl (cI, 100, .inl sc)), ((a 12), .inl (cI, 100, .inl sd)), ((a 2), .inr (1, [.ref (a 3)])), ((a 3), .inl (cZ, 144, .inl bk))] s.heap.size = A at hD hE ⊢
  have hA : ∀ q : Nat, s.heap.size ≤ q → A q := fun q h => by rw [← hAe]; exact Or.inr h
  have hAR : ∀ q : Nat, s.heap.size ≤ q → (fun q : Nat => s.heap.size ≤ q) q := fun _ h => h
  have hS : va_S A s.heap s.heap [] := va_S.rf
  have hP : va_P D vwCl [((a 0), .inr (5, [.ref (a 2), .ref (a 4), .ref (a 18), .ref (a 1)])), ((a 4), .inr (2, [.int hm, .int aw, .int tk, .ref (a 5), .ref (a 6), .ref (a 7), .ref (a 8), .ref (a 13)])), ((a 5), .inl (cI, 6, .inl ce)), ((a 6), .inl (cI, 6, .inl hi)), ((a 8), .inr (3, [.int (nI sn), .ref (a 9), .ref (a 10), .ref (a 11), .ref (a 12)])), ((a 9), .inl (cI, 100, .inl sa)), ((a 10), .inl (cI, 100, .inl sb)), ((a 11), .inl (cI, 100, .inl sc)), ((a 12), .inl (cI, 100, .inl sd)), ((a 2), .inr (1, [.ref (a 3)])), ((a 3), .inl (cZ, 144, .inl bk))] s.heap := hP
  have hl := lv_entry ([.ref (a 0), .int 5, .int p1, .int p2]) (n := 5) (Nat.le_of_ble_eq_true rfl)
  rw [lg_entry_eq]
  generalize (lg_sl ([.ref (a 0), .int 5, .int p1, .int p2]) ++ List.replicate (5 - (lg_sl ([.ref (a 0), .int 5, .int p1, .int p2])).length) Slot.unset).toArray = ls at hl ⊢
  have hl : lv_has ls 5 [(0, .ref (a 0)), (1, .int 5), (2, .int p1), (3, .int p2)] := hl
  have hT9 : c.exceptionTable.toList = tableOf [(0, 130, 131, 48), (0, 130, 136, 50), (0, 130, 141, 52)] := vx_table (x := yL_does) B (hts _ List.mem_cons_self)
  have hlc_48 := hts (.classLink RL 48 "java/lang/IndexOutOfBoundsException") (by decide +kernel)
  have hlc_50 := hts (.classLink RL 50 "java/lang/IllegalArgumentException") (by decide +kernel)
  refine lv_iload_n hx hb dL_does_0 rfl (lv_at hl 1 rfl) ?_
  refine lv_if_ne (tgt := 20) hx hb dL_does_1 (by decide) (fun _ => ?_) (fun c_1 => absurd c_1 (by decide))
  refine lv_iload_n hx hb dL_does_20 rfl (lv_at hl 1 rfl) ?_
  refine lv_iconst (v := 1) hx hb dL_does_21 (by decide) ?_
  refine lv_icmp_ne (tgt := 34) hx hb dL_does_22 (by decide) (fun _ => ?_) (fun c_2 => absurd c_2 (by decide))
  refine lv_iload_n hx hb dL_does_34 rfl (lv_at hl 1 rfl) ?_
  refine lv_iconst (v := 2) hx hb dL_does_35 (by decide) ?_
  refine lv_icmp_ne (tgt := 48) hx hb dL_does_36 (by decide) (fun _ => ?_) (fun c_3 => absurd c_3 (by decide))
  refine lv_iload_n hx hb dL_does_48 rfl (lv_at hl 1 rfl) ?_
  refine lv_iconst (v := 3) hx hb dL_does_49 (by decide) ?_
  refine lv_icmp_ne (tgt := 62) hx hb dL_does_50 (by decide) (fun _ => ?_) (fun c_4 => absurd c_4 (by decide))
  refine lv_iload_n hx hb dL_does_62 rfl (lv_at hl 1 rfl) ?_
  refine lv_iconst (v := 4) hx hb dL_does_63 (by decide) ?_
  refine lv_icmp_ne (tgt := 76) hx hb dL_does_64 (by decide) (fun _ => ?_) (fun c_5 => absurd c_5 (by decide))
  refine lv_iload_n hx hb dL_does_76 rfl (lv_at hl 1 rfl) ?_
  refine lv_iconst (v := 5) hx hb dL_does_77 (by decide) ?_
  refine lv_icmp_ne (tgt := 89) hx hb dL_does_78 (by decide) (fun c_6 => absurd (by decide) c_6) (fun _ => ?_)
  refine lv_aload_n hx hb dL_does_81 rfl (lv_at hl 0 rfl) ?_
  refine lv_iload_n hx hb dL_does_82 rfl (lv_at hl 2 rfl) ?_
  have hPc := hP
  have hDc := hD.sub (ws' := [((a 0), .inr (5, [.ref (a 2), .ref (a 4), .ref (a 18), .ref (a 1)])), ((a 4), .inr (2, [.int hm, .int aw, .int tk, .ref (a 5), .ref (a 6), .ref (a 7), .ref (a 8), .ref (a 13)])), ((a 5), .inl (cI, 6, .inl ce)), ((a 6), .inl (cI, 6, .inl hi)), ((a 8), .inr (3, [.int (nI sn), .ref (a 9), .ref (a 10), .ref (a 11), .ref (a 12)])), ((a 9), .inl (cI, 100, .inl sa)), ((a 10), .inl (cI, 100, .inl sb)), ((a 11), .inl (cI, 100, .inl sc)), ((a 12), .inl (cI, 100, .inl sd)), ((a 2), .inr (1, [.ref (a 3)])), ((a 3), .inl (cZ, 144, .inl bk))]) [0, 1, 2, 3, 4, 5, 6, 7, 8, 9, 10] (by decide) rfl
  have hFc := va_free (wc := [((a 0), .inr (5, [.ref (a 2), .ref (a 4), .ref (a 18), .ref (a 1)])), ((a 4), .inr (2, [.int hm, .int aw, .int tk, .ref (a 5), .ref (a 6), .ref (a 7), .ref (a 8), .ref (a 13)])), ((a 5), .inl (cI, 6, .inl ce)), ((a 6), .inl (cI, 6, .inl hi)), ((a 8), .inr (3, [.int (nI sn), .ref (a 9), .ref (a 10), .ref (a 11), .ref (a 12)])), ((a 9), .inl (cI, 100, .inl sa)), ((a 10), .inl (cI, 100, .inl sb)), ((a 11), .inl (cI, 100, .inl sc)), ((a 12), .inl (cI, 100, .inl sd)), ((a 2), .inr (1, [.ref (a 3)])), ((a 3), .inl (cZ, 144, .inl bk))]) hD hS hA [0, 1, 2, 3, 4, 5, 6, 7, 8, 9, 10] rfl
  refine vx_calli (vx_runV (As := [.int p1]) (rest := []) ⟨hx, hb, hml, hown, hts⟩ (c_X5_pass l hlt D cI cZ cJ cA sx s.heap.size a bk hm aw tk ce hi sn sa sb sc sd p1 (by first | assumption | omega) (by first | assumption | omega) (by first | assumption | omega)) (cwV 1 hts gL_does_X5_pass rfl rfl rfl (by decide +kernel) ⟨Nat.le_of_ble_eq_true rfl, Nat.le_of_ble_eq_true rfl⟩) ⟨pcXW_bl, va_recv hK hPc (ci := 5) (q0 := 0) rfl rfl, fun U hU hW => ⟨rfl, ⟨by rw [hU], by rw [hU]; exact hPc, va_K.moved hW.alike hK, hDc.weaken (fun _ _ _ _ => trivial)⟩, hE.call hS hFc hU hW⟩⟩ rfl rfl hl.1 rfl (lv_room (Nat.le_of_ble_eq_true rfl)) dL_does_83 ⟨Nat.le_of_ble_eq_true rfl, Nat.le_of_ble_eq_true rfl⟩) hS (fun q _ h => hFc q h) hFc (fun _ h1 h2 => absurd h1 (Nat.not_lt.mpr h2)) (fun E cel q9 u t H locs ht hvm hpx hb1 hz1 hk1 hS hce hcv hcl => ?_) (fun r_7 u t H locs ht hvm hw hB hz1 hk1 hS => ?_)
  · have c_8 : ¬ (k_X5_pass bk hm aw tk ce hi sn sa sb sc sd p1) = 0 := thr_ne hb1
    have hP := rd_P hP hk1
    · obtain rfl := thr_E2 hb1 hk
      refine vx_catch (name := "java/lang/IllegalArgumentException") hown [⟨0, 130, 131, 48⟩] ⟨0, 130, 136, 50⟩ [⟨0, 130, 141, 52⟩] (hT9.trans rfl) (List.forall_mem_cons.mpr ⟨Or.inr ⟨by decide, _, hlc_48, hN.n21⟩, (fun _ h => absurd h List.not_mem_nil)⟩) rfl (by decide) hlc_50 (va_Nw.use rfl hE.n2) hce hcv hcl ?_
      refine W.eq (g2 := F0 m 136 ls [.ref q9]) rfl ?_
      refine W.widen (k := 2) (n := 12) (Nat.le_refl _) (Nat.le_refl _) ?_
      refine lv_astore (lv' := [(4, .ref q9), (0, .ref (a 0)), (1, .int 5), (2, .int p1), (3, .int p2)]) hx hb dL_does_136 hl (by decide) rfl (fun ls hl => ?_)
      refine lv_bipush (v := (-20)) hx hb dL_does_138 (by decide) ?_
      have hP9 := hP.sub (ws' := [((a 0), .inr (5, [.ref (a 2), .ref (a 4), .ref (a 18), .ref (a 1)])), ((a 4), .inr (2, [.int hm, .int aw, .int tk, .ref (a 5), .ref (a 6), .ref (a 7), .ref (a 8), .ref (a 13)])), ((a 5), .inl (cI, 6, .inl ce)), ((a 6), .inl (cI, 6, .inl hi)), ((a 8), .inr (3, [.int (nI sn), .ref (a 9), .ref (a 10), .ref (a 11), .ref (a 12)])), ((a 9), .inl (cI, 100, .inl sa)), ((a 10), .inl (cI, 100, .inl sb)), ((a 11), .inl (cI, 100, .inl sc)), ((a 12), .inl (cI, 100, .inl sd)), ((a 2), .inr (1, [.ref (a 3)])), ((a 3), .inl (cZ, 144, .inl bk))]) [0, 1, 2, 3, 4, 5, 6, 7, 8, 9, 10] rfl
      have hD9 := hD.sub (ws' := [((a 0), .inr (5, [.ref (a 2), .ref (a 4), .ref (a 18), .ref (a 1)])), ((a 4), .inr (2, [.int hm, .int aw, .int tk, .ref (a 5), .ref (a 6), .ref (a 7), .ref (a 8), .ref (a 13)])), ((a 5), .inl (cI, 6, .inl ce)), ((a 6), .inl (cI, 6, .inl hi)), ((a 8), .inr (3, [.int (nI sn), .ref (a 9), .ref (a 10), .ref (a 11), .ref (a 12)])), ((a 9), .inl (cI, 100, .inl sa)), ((a 10), .inl (cI, 100, .inl sb)), ((a 11), .inl (cI, 100, .inl sc)), ((a 12), .inl (cI, 100, .inl sd)), ((a 2), .inr (1, [.ref (a 3)])), ((a 3), .inl (cZ, 144, .inl bk))]) [0, 1, 2, 3, 4, 5, 6, 7, 8, 9, 10] (by decide) rfl
      -- leaf 0
      refine W.widen (k := 2) (n := 12) (Nat.le_of_ble_eq_true rfl) (Nat.le_of_ble_eq_true rfl) ?_
      exact W.iret (v := (-20)) hx hb hr (fun t ht hW => ⟨⟨(-20), (), rfl, rfl, by rw [ht]; exact hP9, va_K.moved hW.alike hK, hD9⟩, hS.F ht⟩) hS.2.2 dL_does_140
  · try dsimp only at hw
    exact absurd (hk.symm.trans hw.1) (by decide)

set_option maxHeartbeats 4000000 in
set_option maxRecDepth 100000 in
theorem c_E6 (l : Launch) (hlt : l.stackTraces = false) (D : va_G) (cI cZ cJ cA : ClassId) (sx : Nat → Nat) (sz : Nat) (a : Nat → Nat) (rf : Nat → Int32) (bk : Nat → Int32) (hm : Int32) (aw : Int32) (tk : Int32) (ce : Nat → Int32) (kn : Nat) (ka : Nat → Int32) (kb : Nat → Int32) (kc : Nat → Int32) (kd : Nat → Int32) (p1 : Int32) (p2 : Int32) (hrf : ∀ j : Nat, j < 2 → vp_in (rf j) 144) (hce : ∀ j : Nat, j < 6 → 0 ≤ ce j → vp_in (ce j) 144) (hkn : kn ≤ 512) (hk : k_X5_call rf bk hm aw tk ce kn ka kb kc kd p1 p2 = 1) : Met l yL_does wsL_does ({ frames := 9, cells := 4, slots := 24, locals := 154 } : Room) (va_Pc [.ref (a 0), .int 6, .int p1, .int p2] (pcL (pcW D (tyL cI cZ cJ cA) [((a 0), .inr (5, [.ref (a 2), .ref (a 4), .ref (a 18), .ref (a 1)])), ((a 1), .inl (cI, 2, .inl rf)), ((a 4), .inr (2, [.int hm, .int aw, .int tk, .ref (a 5), .ref (a 6), .ref (a 7), .ref (a 8), .ref (a 13)])), ((a 5), .inl (cI, 6, .inl ce)), ((a 2), .inr (1, [.ref (a 3)])), ((a 3), .inl (cZ, 144, .inl bk)), ((a 13), .inr (0, [.int (nI kn), .ref (a 14), .ref (a 15), .ref (a 16), .ref (a 17)])), ((a 14), .inl (cI, 512, .inl ka)), ((a 15), .inl (cI, 512, .inl kb)), ((a 16), .inl (cI, 512, .inl kc)), ((a 17), .inl (cZ, 512, .inl kd))] sz) sx (va_A [((a 0), .inr (5, [.ref (a 2), .ref (a 4), .ref (a 18), .ref (a 1)])), ((a 1), .inl (cI, 2, .inl rf)), ((a 4), .inr (2, [.int hm, .int aw, .int tk, .ref (a 5), .ref (a 6), .ref (a 7), .ref (a 8), .ref (a 13)])), ((a 5), .inl (cI, 6, .inl ce)), ((a 2), .inr (1, [.ref (a 3)])), ((a 3), .inl (cZ, 144, .inl bk)), ((a 13), .inr (0, [.int (nI kn), .ref (a 14), .ref (a 15), .ref (a 16), .ref (a 17)])), ((a 14), .inl (cI, 512, .inl ka)), ((a 15), .inl (cI, 512, .inl kb)), ((a 16), .inl (cI, 512, .inl kc)), ((a 17), .inl (cZ, 512, .inl kd))] sz))) (va_Qi (fun (r : Int32) (u : Unit) => r = (-30)) (fun u t => bcW D (tyL cI cZ cJ cA) (va_A [((a 0), .inr (5, [.ref (a 2), .ref (a 4), .ref (a 18), .ref (a 1)])), ((a 1), .inl (cI, 2, .inl rf)), ((a 4), .inr (2, [.int hm, .int aw, .int tk, .ref (a 5), .ref (a 6), .ref (a 7), .ref (a 8), .ref (a 13)])), ((a 5), .inl (cI, 6, .inl ce)), ((a 2), .inr (1, [.ref (a 3)])), ((a 3), .inl (cZ, 144, .inl bk)), ((a 13), .inr (0, [.int (nI kn), .ref (a 14), .ref (a 15), .ref (a 16), .ref (a 17)])), ((a 14), .inl (cI, 512, .inl ka)), ((a 15), .inl (cI, 512, .inl kb)), ((a 16), .inl (cI, 512, .inl kc)), ((a 17), .inl (cZ, 512, .inl kd))] sz) [((a 0), .inr (5, [.ref (a 2), .ref (a 4), .ref (a 18), .ref (a 1)])), ((a 1), .inl (cI, 2, .inl rf)), ((a 4), .inr (2, [.int hm, .int aw, .int tk, .ref (a 5), .ref (a 6), .ref (a 7), .ref (a 8), .ref (a 13)])), ((a 5), .inl (cI, 6, .inl ce)), ((a 2), .inr (1, [.ref (a 3)])), ((a 3), .inl (cZ, 144, .inl bk)), ((a 13), .inr (0, [.int (nI kn), .ref (a 14), .ref (a 15), .ref (a 16), .ref (a 17)])), ((a 14), .inl (cI, 512, .inl ka)), ((a 15), .inl (cI, 512, .inl kb)), ((a 16), .inl (cI, 512, .inl kc)), ((a 17), .inl (cZ, 512, .inl kd))] t) (va_A [((a 0), .inr (5, [.ref (a 2), .ref (a 4), .ref (a 18), .ref (a 1)])), ((a 1), .inl (cI, 2, .inl rf)), ((a 4), .inr (2, [.int hm, .int aw, .int tk, .ref (a 5), .ref (a 6), .ref (a 7), .ref (a 8), .ref (a 13)])), ((a 5), .inl (cI, 6, .inl ce)), ((a 2), .inr (1, [.ref (a 3)])), ((a 3), .inl (cZ, 144, .inl bk)), ((a 13), .inr (0, [.int (nI kn), .ref (a 14), .ref (a 15), .ref (a 16), .ref (a 17)])), ((a 14), .inl (cI, 512, .inl ka)), ((a 15), .inl (cI, 512, .inl kb)), ((a 16), .inl (cI, 512, .inl kc)), ((a 17), .inl (cZ, 512, .inl kd))] sz)) 4 24 (va_A [((a 0), .inr (5, [.ref (a 2), .ref (a 4), .ref (a 18), .ref (a 1)])), ((a 1), .inl (cI, 2, .inl rf)), ((a 4), .inr (2, [.int hm, .int aw, .int tk, .ref (a 5), .ref (a 6), .ref (a 7), .ref (a 8), .ref (a 13)])), ((a 5), .inl (cI, 6, .inl ce)), ((a 2), .inr (1, [.ref (a 3)])), ((a 3), .inl (cZ, 144, .inl bk)), ((a 13), .inr (0, [.int (nI kn), .ref (a 14), .ref (a 15), .ref (a 16), .ref (a 17)])), ((a 14), .inl (cI, 512, .inl ka)), ((a 15), .inl (cI, 512, .inl kb)), ((a 16), .inl (cI, 512, .inl kc)), ((a 17), .inl (cZ, 512, .inl kd))] sz) := by
  refine va_MetW (cc := cL_does) (maxL := 5) (ret := (some .int)) (by decide) rfl ?_
  intro p e s m args below meth c s₁ B hml hv
  obtain ⟨rfl, ⟨⟨hsz, hP, hK, hD0⟩, hE⟩, hN⟩ := hv
  have hx := B.exec
  have hb := B.bytes
  have hr := B.returns
  have hts := atoms_spec (ws := wsL_does) B.pre
  have hown : s.vm.findClass RL = some m.cls := findClass_of_methodNamed B.named
  have hlocks := B.notSynchronized
  subst hsz
  have hD := hD0.self (sz := s.heap.size)
  generalize hAe : va_A [((a 0), .inr (5, [.ref (a 2), .ref (a 4), .ref (a 18), .ref (a 1)])), ((a 1), .inl (cI, 2, .inl rf)), ((a 4), .inr (2, [.int hm, .int aw, .int tk, .ref (a 5), .ref (a 6), .ref (a 7), .ref (a 8), .ref (a 13)])), ((a 5), .inl (cI, 6, .inl ce)), ((a 2), .inr (1, [.ref (a 3)])), ((a 3), .inl (cZ, 144, .inl bk)), ((a 13), .inr (0, [.int (nI kn), .ref (a 14), .ref (a 15), .ref (a 16), .ref (a 17)])), ((a 14), .inl (cI, 512, .inl ka)), ((a 15), .inl (cI, 512, .inl kb)), ((a 16), .inl (cI, 512, .inl kc)), ((a 17), .inl (cZ, 512, .inl kd))] s.heap.size = A at hD hE ⊢
  have hA : ∀ q : Nat, s.heap.size ≤ q → A q := fun q h => by rw [← hAe]; exact Or.inr h
  have hAR : ∀ q : Nat, s.heap.size ≤ q → (fun q : Nat => s.heap.size ≤ q) q := fun _ h => h
  have hS : va_S A s.heap s.heap [] := va_S.rf
  have hP : va_P D vwCl [((a 0), .inr (5, [.ref (a 2), .ref (a 4), .ref (a 18), .ref (a 1)])), ((a 1), .inl (cI, 2, .inl rf)), ((a 4), .inr (2, [.int hm, .int aw, .int tk, .ref (a 5), .ref (a 6), .ref (a 7), .ref (a 8), .ref (a 13)])), ((a 5), .inl (cI, 6, .inl ce)), ((a 2), .inr (1, [.ref (a 3)])), ((a 3), .inl (cZ, 144, .inl bk)), ((a 13), .inr (0, [.int (nI kn), .ref (a 14), .ref (a 15), .ref (a 16), .ref (a 17)])), ((a 14), .inl (cI, 512, .inl ka)), ((a 15), .inl (cI, 512, .inl kb)), ((a 16), .inl (cI, 512, .inl kc)), ((a 17), .inl (cZ, 512, .inl kd))] s.heap := hP
  have hl := lv_entry ([.ref (a 0), .int 6, .int p1, .int p2]) (n := 5) (Nat.le_of_ble_eq_true rfl)
  rw [lg_entry_eq]
  generalize (lg_sl ([.ref (a 0), .int 6, .int p1, .int p2]) ++ List.replicate (5 - (lg_sl ([.ref (a 0), .int 6, .int p1, .int p2])).length) Slot.unset).toArray = ls at hl ⊢
  have hl : lv_has ls 5 [(0, .ref (a 0)), (1, .int 6), (2, .int p1), (3, .int p2)] := hl
  have hT9 : c.exceptionTable.toList = tableOf [(0, 130, 131, 48), (0, 130, 136, 50), (0, 130, 141, 52)] := vx_table (x := yL_does) B (hts _ List.mem_cons_self)
  have hlc_48 := hts (.classLink RL 48 "java/lang/IndexOutOfBoundsException") (by decide +kernel)
  refine lv_iload_n hx hb dL_does_0 rfl (lv_at hl 1 rfl) ?_
  refine lv_if_ne (tgt := 20) hx hb dL_does_1 (by decide) (fun _ => ?_) (fun c_1 => absurd c_1 (by decide))
  refine lv_iload_n hx hb dL_does_20 rfl (lv_at hl 1 rfl) ?_
  refine lv_iconst (v := 1) hx hb dL_does_21 (by decide) ?_
  refine lv_icmp_ne (tgt := 34) hx hb dL_does_22 (by decide) (fun _ => ?_) (fun c_2 => absurd c_2 (by decide))
  refine lv_iload_n hx hb dL_does_34 rfl (lv_at hl 1 rfl) ?_
  refine lv_iconst (v := 2) hx hb dL_does_35 (by decide) ?_
  refine lv_icmp_ne (tgt := 48) hx hb dL_does_36 (by decide) (fun _ => ?_) (fun c_3 => absurd c_3 (by decide))
  refine lv_iload_n hx hb dL_does_48 rfl (lv_at hl 1 rfl) ?_
  refine lv_iconst (v := 3) hx hb dL_does_49 (by decide) ?_
  refine lv_icmp_ne (tgt := 62) hx hb dL_does_50 (by decide) (fun _ => ?_) (fun c_4 => absurd c_4 (by decide))
  refine lv_iload_n hx hb dL_does_62 rfl (lv_at hl 1 rfl) ?_
  refine lv_iconst (v := 4) hx hb dL_does_63 (by decide) ?_
  refine lv_icmp_ne (tgt := 76) hx hb dL_does_64 (by decide) (fun _ => ?_) (fun c_5 => absurd c_5 (by decide))
  refine lv_iload_n hx hb dL_does_76 rfl (lv_at hl 1 rfl) ?_
  refine lv_iconst (v := 5) hx hb dL_does_77 (by decide) ?_
  refine lv_icmp_ne (tgt := 89) hx hb dL_does_78 (by decide) (fun _ => ?_) (fun c_6 => absurd c_6 (by decide))
  refine lv_iload_n hx hb dL_does_89 rfl (lv_at hl 1 rfl) ?_
  refine lv_bipush (v := 6) hx hb dL_does_90 (by decide) ?_
  refine lv_icmp_ne (tgt := 104) hx hb dL_does_92 (by decide) (fun c_7 => absurd (by decide) c_7) (fun _ => ?_)
  refine lv_aload_n hx hb dL_does_95 rfl (lv_at hl 0 rfl) ?_
  refine lv_iload_n hx hb dL_does_96 rfl (lv_at hl 2 rfl) ?_
  refine lv_iload_n hx hb dL_does_97 rfl (lv_at hl 3 rfl) ?_
  have hPc := hP
  have hDc := hD.sub (ws' := [((a 0), .inr (5, [.ref (a 2), .ref (a 4), .ref (a 18), .ref (a 1)])), ((a 1), .inl (cI, 2, .inl rf)), ((a 4), .inr (2, [.int hm, .int aw, .int tk, .ref (a 5), .ref (a 6), .ref (a 7), .ref (a 8), .ref (a 13)])), ((a 5), .inl (cI, 6, .inl ce)), ((a 2), .inr (1, [.ref (a 3)])), ((a 3), .inl (cZ, 144, .inl bk)), ((a 13), .inr (0, [.int (nI kn), .ref (a 14), .ref (a 15), .ref (a 16), .ref (a 17)])), ((a 14), .inl (cI, 512, .inl ka)), ((a 15), .inl (cI, 512, .inl kb)), ((a 16), .inl (cI, 512, .inl kc)), ((a 17), .inl (cZ, 512, .inl kd))]) [0, 1, 2, 3, 4, 5, 6, 7, 8, 9, 10] (by decide) rfl
  have hFc := va_free (wc := [((a 0), .inr (5, [.ref (a 2), .ref (a 4), .ref (a 18), .ref (a 1)])), ((a 1), .inl (cI, 2, .inl rf)), ((a 4), .inr (2, [.int hm, .int aw, .int tk, .ref (a 5), .ref (a 6), .ref (a 7), .ref (a 8), .ref (a 13)])), ((a 5), .inl (cI, 6, .inl ce)), ((a 2), .inr (1, [.ref (a 3)])), ((a 3), .inl (cZ, 144, .inl bk)), ((a 13), .inr (0, [.int (nI kn), .ref (a 14), .ref (a 15), .ref (a 16), .ref (a 17)])), ((a 14), .inl (cI, 512, .inl ka)), ((a 15), .inl (cI, 512, .inl kb)), ((a 16), .inl (cI, 512, .inl kc)), ((a 17), .inl (cZ, 512, .inl kd))]) hD hS hA [0, 1, 2, 3, 4, 5, 6, 7, 8, 9, 10] rfl
  refine vx_calli (vx_runV (As := [.int p1, .int p2]) (rest := []) ⟨hx, hb, hml, hown, hts⟩ (c_X5_call l hlt D cI cZ cJ cA sx s.heap.size a rf bk hm aw tk ce kn ka kb kc kd p1 p2 (by first | assumption | omega) (by first | assumption | omega) (by first | assumption | omega)) (cwV 2 hts gL_does_X5_call rfl rfl rfl (by decide +kernel) ⟨Nat.le_of_ble_eq_true rfl, Nat.le_of_ble_eq_true rfl⟩) ⟨pcXW_bl, va_recv hK hPc (ci := 5) (q0 := 0) rfl rfl, fun U hU hW => ⟨rfl, ⟨by rw [hU], by rw [hU]; exact hPc, va_K.moved hW.alike hK, hDc.weaken (fun _ _ _ _ => trivial)⟩, hE.call hS hFc hU hW⟩⟩ rfl rfl hl.1 rfl (lv_room (Nat.le_of_ble_eq_true rfl)) dL_does_98 ⟨Nat.le_of_ble_eq_true rfl, Nat.le_of_ble_eq_true rfl⟩) hS (fun q _ h => hFc q h) hFc (fun _ h1 h2 => absurd h1 (Nat.not_lt.mpr h2)) (fun E cel q9 u t H locs ht hvm hpx hb1 hz1 hk1 hS hce hcv hcl => ?_) (fun r_8 u t H locs ht hvm hw hB hz1 hk1 hS => ?_)
  · have c_9 : ¬ (k_X5_call rf bk hm aw tk ce kn ka kb kc kd p1 p2) = 0 := thr_ne hb1
    have hP := rd_P hP hk1
    · obtain rfl := thr_E1 hb1 hk
      refine vx_catch (name := "java/lang/IndexOutOfBoundsException") hown [] ⟨0, 130, 131, 48⟩ [⟨0, 130, 136, 50⟩, ⟨0, 130, 141, 52⟩] (hT9.trans rfl) (fun _ h => absurd h List.not_mem_nil) rfl (by decide) hlc_48 (va_Nw.use rfl hE.n1) hce hcv hcl ?_
      refine W.eq (g2 := F0 m 131 ls [.ref q9]) rfl ?_
      refine W.widen (k := 4) (n := 24) (Nat.le_refl _) (Nat.le_refl _) ?_
      refine lv_astore (lv' := [(4, .ref q9), (0, .ref (a 0)), (1, .int 6), (2, .int p1), (3, .int p2)]) hx hb dL_does_131 hl (by decide) rfl (fun ls hl => ?_)
      refine lv_bipush (v := (-30)) hx hb dL_does_133 (by decide) ?_
      have hP9 := hP.sub (ws' := [((a 0), .inr (5, [.ref (a 2), .ref (a 4), .ref (a 18), .ref (a 1)])), ((a 1), .inl (cI, 2, .inl rf)), ((a 4), .inr (2, [.int hm, .int aw, .int tk, .ref (a 5), .ref (a 6), .ref (a 7), .ref (a 8), .ref (a 13)])), ((a 5), .inl (cI, 6, .inl ce)), ((a 2), .inr (1, [.ref (a 3)])), ((a 3), .inl (cZ, 144, .inl bk)), ((a 13), .inr (0, [.int (nI kn), .ref (a 14), .ref (a 15), .ref (a 16), .ref (a 17)])), ((a 14), .inl (cI, 512, .inl ka)), ((a 15), .inl (cI, 512, .inl kb)), ((a 16), .inl (cI, 512, .inl kc)), ((a 17), .inl (cZ, 512, .inl kd))]) [0, 1, 2, 3, 4, 5, 6, 7, 8, 9, 10] rfl
      have hD9 := hD.sub (ws' := [((a 0), .inr (5, [.ref (a 2), .ref (a 4), .ref (a 18), .ref (a 1)])), ((a 1), .inl (cI, 2, .inl rf)), ((a 4), .inr (2, [.int hm, .int aw, .int tk, .ref (a 5), .ref (a 6), .ref (a 7), .ref (a 8), .ref (a 13)])), ((a 5), .inl (cI, 6, .inl ce)), ((a 2), .inr (1, [.ref (a 3)])), ((a 3), .inl (cZ, 144, .inl bk)), ((a 13), .inr (0, [.int (nI kn), .ref (a 14), .ref (a 15), .ref (a 16), .ref (a 17)])), ((a 14), .inl (cI, 512, .inl ka)), ((a 15), .inl (cI, 512, .inl kb)), ((a 16), .inl (cI, 512, .inl kc)), ((a 17), .inl (cZ, 512, .inl kd))]) [0, 1, 2, 3, 4, 5, 6, 7, 8, 9, 10] (by decide) rfl
      -- leaf 0
      refine W.widen (k := 4) (n := 24) (Nat.le_of_ble_eq_true rfl) (Nat.le_of_ble_eq_true rfl) ?_
      exact W.iret (v := (-30)) hx hb hr (fun t ht hW => ⟨⟨(-30), (), rfl, rfl, by rw [ht]; exact hP9, va_K.moved hW.alike hK, hD9⟩, hS.F ht⟩) hS.2.2 dL_does_135
  · try dsimp only at hw
    exact absurd (hk.symm.trans hw.1) (by decide)

set_option maxHeartbeats 4000000 in
set_option maxRecDepth 100000 in
theorem c_E7 (l : Launch) (hlt : l.stackTraces = false) (D : va_G) (cI cZ cJ cA : ClassId) (sx : Nat → Nat) (sz : Nat) (a : Nat → Nat) (hm : Int32) (aw : Int32) (tk : Int32) (ce : Nat → Int32) (hi : Nat → Int32) (kn : Nat) (ka : Nat → Int32) (kb : Nat → Int32) (kc : Nat → Int32) (kd : Nat → Int32) (fn : Nat → Int32) (p1 : Int32) (p2 : Int32) (hkn : kn ≤ 512) (hka : ∀ j : Nat, j < kn → vp_in (ka j) 6) (hz : ∀ j : Nat, kd j = 0 ∨ kd j = 1) (hhm : vp_in hm 6) (haw : vp_in aw 6) (hk : k_X5_dispute hm aw tk ce hi kn ka kb kc kd fn p1 = 1) : Met l yL_does wsL_does ({ frames := 9, cells := 1, slots := 6, locals := 154 } : Room) (va_Pc [.ref (a 0), .int 7, .int p1, .int p2] (pcL (pcW D (tyL cI cZ cJ cA) [((a 0), .inr (5, [.ref (a 2), .ref (a 4), .ref (a 18), .ref (a 1)])), ((a 4), .inr (2, [.int hm, .int aw, .int tk, .ref (a 5), .ref (a 6), .ref (a 7), .ref (a 8), .ref (a 13)])), ((a 5), .inl (cI, 6, .inl ce)), ((a 6), .inl (cI, 6, .inl hi)), ((a 13), .inr (0, [.int (nI kn), .ref (a 14), .ref (a 15), .ref (a 16), .ref (a 17)])), ((a 14), .inl (cI, 512, .inl ka)), ((a 15), .inl (cI, 512, .inl kb)), ((a 16), .inl (cI, 512, .inl kc)), ((a 17), .inl (cZ, 512, .inl kd)), ((a 18), .inr (4, [.ref (a 19), .ref (a 20), .ref (a 21), .ref (a 22)])), ((a 20), .inl (cI, 6, .inl fn))] sz) sx (va_A [((a 0), .inr (5, [.ref (a 2), .ref (a 4), .ref (a 18), .ref (a 1)])), ((a 4), .inr (2, [.int hm, .int aw, .int tk, .ref (a 5), .ref (a 6), .ref (a 7), .ref (a 8), .ref (a 13)])), ((a 5), .inl (cI, 6, .inl ce)), ((a 6), .inl (cI, 6, .inl hi)), ((a 13), .inr (0, [.int (nI kn), .ref (a 14), .ref (a 15), .ref (a 16), .ref (a 17)])), ((a 14), .inl (cI, 512, .inl ka)), ((a 15), .inl (cI, 512, .inl kb)), ((a 16), .inl (cI, 512, .inl kc)), ((a 17), .inl (cZ, 512, .inl kd)), ((a 18), .inr (4, [.ref (a 19), .ref (a 20), .ref (a 21), .ref (a 22)])), ((a 20), .inl (cI, 6, .inl fn))] sz))) (va_Qi (fun (r : Int32) (u : Unit) => r = (-30)) (fun u t => bcW D (tyL cI cZ cJ cA) (va_A [((a 0), .inr (5, [.ref (a 2), .ref (a 4), .ref (a 18), .ref (a 1)])), ((a 4), .inr (2, [.int hm, .int aw, .int tk, .ref (a 5), .ref (a 6), .ref (a 7), .ref (a 8), .ref (a 13)])), ((a 5), .inl (cI, 6, .inl ce)), ((a 6), .inl (cI, 6, .inl hi)), ((a 13), .inr (0, [.int (nI kn), .ref (a 14), .ref (a 15), .ref (a 16), .ref (a 17)])), ((a 14), .inl (cI, 512, .inl ka)), ((a 15), .inl (cI, 512, .inl kb)), ((a 16), .inl (cI, 512, .inl kc)), ((a 17), .inl (cZ, 512, .inl kd)), ((a 18), .inr (4, [.ref (a 19), .ref (a 20), .ref (a 21), .ref (a 22)])), ((a 20), .inl (cI, 6, .inl fn))] sz) [((a 0), .inr (5, [.ref (a 2), .ref (a 4), .ref (a 18), .ref (a 1)])), ((a 4), .inr (2, [.int hm, .int aw, .int tk, .ref (a 5), .ref (a 6), .ref (a 7), .ref (a 8), .ref (a 13)])), ((a 5), .inl (cI, 6, .inl ce)), ((a 6), .inl (cI, 6, .inl hi)), ((a 13), .inr (0, [.int (nI kn), .ref (a 14), .ref (a 15), .ref (a 16), .ref (a 17)])), ((a 14), .inl (cI, 512, .inl ka)), ((a 15), .inl (cI, 512, .inl kb)), ((a 16), .inl (cI, 512, .inl kc)), ((a 17), .inl (cZ, 512, .inl kd)), ((a 18), .inr (4, [.ref (a 19), .ref (a 20), .ref (a 21), .ref (a 22)])), ((a 20), .inl (cI, 6, .inl fn))] t) (va_A [((a 0), .inr (5, [.ref (a 2), .ref (a 4), .ref (a 18), .ref (a 1)])), ((a 4), .inr (2, [.int hm, .int aw, .int tk, .ref (a 5), .ref (a 6), .ref (a 7), .ref (a 8), .ref (a 13)])), ((a 5), .inl (cI, 6, .inl ce)), ((a 6), .inl (cI, 6, .inl hi)), ((a 13), .inr (0, [.int (nI kn), .ref (a 14), .ref (a 15), .ref (a 16), .ref (a 17)])), ((a 14), .inl (cI, 512, .inl ka)), ((a 15), .inl (cI, 512, .inl kb)), ((a 16), .inl (cI, 512, .inl kc)), ((a 17), .inl (cZ, 512, .inl kd)), ((a 18), .inr (4, [.ref (a 19), .ref (a 20), .ref (a 21), .ref (a 22)])), ((a 20), .inl (cI, 6, .inl fn))] sz)) 1 6 (va_A [((a 0), .inr (5, [.ref (a 2), .ref (a 4), .ref (a 18), .ref (a 1)])), ((a 4), .inr (2, [.int hm, .int aw, .int tk, .ref (a 5), .ref (a 6), .ref (a 7), .ref (a 8), .ref (a 13)])), ((a 5), .inl (cI, 6, .inl ce)), ((a 6), .inl (cI, 6, .inl hi)), ((a 13), .inr (0, [.int (nI kn), .ref (a 14), .ref (a 15), .ref (a 16), .ref (a 17)])), ((a 14), .inl (cI, 512, .inl ka)), ((a 15), .inl (cI, 512, .inl kb)), ((a 16), .inl (cI, 512, .inl kc)), ((a 17), .inl (cZ, 512, .inl kd)), ((a 18), .inr (4, [.ref (a 19), .ref (a 20), .ref (a 21), .ref (a 22)])), ((a 20), .inl (cI, 6, .inl fn))] sz) := by
  refine va_MetW (cc := cL_does) (maxL := 5) (ret := (some .int)) (by decide) rfl ?_
  intro p e s m args below meth c s₁ B hml hv
  obtain ⟨rfl, ⟨⟨hsz, hP, hK, hD0⟩, hE⟩, hN⟩ := hv
  have hx := B.exec
  have hb := B.bytes
  have hr := B.returns
  have hts := atoms_spec (ws := wsL_does) B.pre
  have hown : s.vm.findClass RL = some m.cls := findClass_of_methodNamed B.named
  have hlocks := B.notSynchronized
  subst hsz
  have hD := hD0.self (sz := s.heap.size)
  generalize hAe : va_A [((a 0), .inr (5, [.ref (a 2), .ref (a 4), .ref (a 18), .ref (a 1)])), ((a 4), .inr (2, [.int hm, .int aw, .int tk, .ref (a 5), .ref (a 6), .ref (a 7), .ref (a 8), .ref (a 13)])), ((a 5), .inl (cI, 6, .inl ce)), ((a 6), .inl (cI, 6, .inl hi)), ((a 13), .inr (0, [.int (nI kn), .ref (a 14), .ref (a 15), .ref (a 16), .ref (a 17)])), ((a 14), .inl (cI, 512, .inl ka)), ((a 15), .inl (cI, 512, .inl kb)), ((a 16), .inl (cI, 512, .inl kc)), ((a 17), .inl (cZ, 512, .inl kd)), ((a 18), .inr (4, [.ref (a 19), .ref (a 20), .ref (a 21), .ref (a 22)])), ((a 20), .inl (cI, 6, .inl fn))] s.heap.size = A at hD hE ⊢
  have hA : ∀ q : Nat, s.heap.size ≤ q → A q := fun q h => by rw [← hAe]; exact Or.inr h
  have hAR : ∀ q : Nat, s.heap.size ≤ q → (fun q : Nat => s.heap.size ≤ q) q := fun _ h => h
  have hS : va_S A s.heap s.heap [] := va_S.rf
  have hP : va_P D vwCl [((a 0), .inr (5, [.ref (a 2), .ref (a 4), .ref (a 18), .ref (a 1)])), ((a 4), .inr (2, [.int hm, .int aw, .int tk, .ref (a 5), .ref (a 6), .ref (a 7), .ref (a 8), .ref (a 13)])), ((a 5), .inl (cI, 6, .inl ce)), ((a 6), .inl (cI, 6, .inl hi)), ((a 13), .inr (0, [.int (nI kn), .ref (a 14), .ref (a 15), .ref (a 16), .ref (a 17)])), ((a 14), .inl (cI, 512, .inl ka)), ((a 15), .inl (cI, 512, .inl kb)), ((a 16), .inl (cI, 512, .inl kc)), ((a 17), .inl (cZ, 512, .inl kd)), ((a 18), .inr (4, [.ref (a 19), .ref (a 20), .ref (a 21), .ref (a 22)])), ((a 20), .inl (cI, 6, .inl fn))] s.heap := hP
  have hl := lv_entry ([.ref (a 0), .int 7, .int p1, .int p2]) (n := 5) (Nat.le_of_ble_eq_true rfl)
  rw [lg_entry_eq]
  generalize (lg_sl ([.ref (a 0), .int 7, .int p1, .int p2]) ++ List.replicate (5 - (lg_sl ([.ref (a 0), .int 7, .int p1, .int p2])).length) Slot.unset).toArray = ls at hl ⊢
  have hl : lv_has ls 5 [(0, .ref (a 0)), (1, .int 7), (2, .int p1), (3, .int p2)] := hl
  have hT9 : c.exceptionTable.toList = tableOf [(0, 130, 131, 48), (0, 130, 136, 50), (0, 130, 141, 52)] := vx_table (x := yL_does) B (hts _ List.mem_cons_self)
  have hlc_48 := hts (.classLink RL 48 "java/lang/IndexOutOfBoundsException") (by decide +kernel)
  refine lv_iload_n hx hb dL_does_0 rfl (lv_at hl 1 rfl) ?_
  refine lv_if_ne (tgt := 20) hx hb dL_does_1 (by decide) (fun _ => ?_) (fun c_1 => absurd c_1 (by decide))
  refine lv_iload_n hx hb dL_does_20 rfl (lv_at hl 1 rfl) ?_
  refine lv_iconst (v := 1) hx hb dL_does_21 (by decide) ?_
  refine lv_icmp_ne (tgt := 34) hx hb dL_does_22 (by decide) (fun _ => ?_) (fun c_2 => absurd c_2 (by decide))
  refine lv_iload_n hx hb dL_does_34 rfl (lv_at hl 1 rfl) ?_
  refine lv_iconst (v := 2) hx hb dL_does_35 (by decide) ?_
  refine lv_icmp_ne (tgt := 48) hx hb dL_does_36 (by decide) (fun _ => ?_) (fun c_3 => absurd c_3 (by decide))
  refine lv_iload_n hx hb dL_does_48 rfl (lv_at hl 1 rfl) ?_
  refine lv_iconst (v := 3) hx hb dL_does_49 (by decide) ?_
  refine lv_icmp_ne (tgt := 62) hx hb dL_does_50 (by decide) (fun _ => ?_) (fun c_4 => absurd c_4 (by decide))
  refine lv_iload_n hx hb dL_does_62 rfl (lv_at hl 1 rfl) ?_
  refine lv_iconst (v := 4) hx hb dL_does_63 (by decide) ?_
  refine lv_icmp_ne (tgt := 76) hx hb dL_does_64 (by decide) (fun _ => ?_) (fun c_5 => absurd c_5 (by decide))
  refine lv_iload_n hx hb dL_does_76 rfl (lv_at hl 1 rfl) ?_
  refine lv_iconst (v := 5) hx hb dL_does_77 (by decide) ?_
  refine lv_icmp_ne (tgt := 89) hx hb dL_does_78 (by decide) (fun _ => ?_) (fun c_6 => absurd c_6 (by decide))
  refine lv_iload_n hx hb dL_does_89 rfl (lv_at hl 1 rfl) ?_
  refine lv_bipush (v := 6) hx hb dL_does_90 (by decide) ?_
  refine lv_icmp_ne (tgt := 104) hx hb dL_does_92 (by decide) (fun _ => ?_) (fun c_7 => absurd c_7 (by decide))
  refine lv_iload_n hx hb dL_does_104 rfl (lv_at hl 1 rfl) ?_
  refine lv_bipush (v := 7) hx hb dL_does_105 (by decide) ?_
  refine lv_icmp_ne (tgt := 126) hx hb dL_does_107 (by decide) (fun c_8 => absurd (by decide) c_8) (fun _ => ?_)
  refine lv_aload_n hx hb dL_does_110 rfl (lv_at hl 0 rfl) ?_
  refine lv_iload_n hx hb dL_does_111 rfl (lv_at hl 2 rfl) ?_
  have hPc := hP
  have hDc := hD.sub (ws' := [((a 0), .inr (5, [.ref (a 2), .ref (a 4), .ref (a 18), .ref (a 1)])), ((a 4), .inr (2, [.int hm, .int aw, .int tk, .ref (a 5), .ref (a 6), .ref (a 7), .ref (a 8), .ref (a 13)])), ((a 5), .inl (cI, 6, .inl ce)), ((a 6), .inl (cI, 6, .inl hi)), ((a 13), .inr (0, [.int (nI kn), .ref (a 14), .ref (a 15), .ref (a 16), .ref (a 17)])), ((a 14), .inl (cI, 512, .inl ka)), ((a 15), .inl (cI, 512, .inl kb)), ((a 16), .inl (cI, 512, .inl kc)), ((a 17), .inl (cZ, 512, .inl kd)), ((a 18), .inr (4, [.ref (a 19), .ref (a 20), .ref (a 21), .ref (a 22)])), ((a 20), .inl (cI, 6, .inl fn))]) [0, 1, 2, 3, 4, 5, 6, 7, 8, 9, 10] (by decide) rfl
  have hFc := va_free (wc := [((a 0), .inr (5, [.ref (a 2), .ref (a 4), .ref (a 18), .ref (a 1)])), ((a 4), .inr (2, [.int hm, .int aw, .int tk, .ref (a 5), .ref (a 6), .ref (a 7), .ref (a 8), .ref (a 13)])), ((a 5), .inl (cI, 6, .inl ce)), ((a 6), .inl (cI, 6, .inl hi)), ((a 13), .inr (0, [.int (nI kn), .ref (a 14), .ref (a 15), .ref (a 16), .ref (a 17)])), ((a 14), .inl (cI, 512, .inl ka)), ((a 15), .inl (cI, 512, .inl kb)), ((a 16), .inl (cI, 512, .inl kc)), ((a 17), .inl (cZ, 512, .inl kd)), ((a 18), .inr (4, [.ref (a 19), .ref (a 20), .ref (a 21), .ref (a 22)])), ((a 20), .inl (cI, 6, .inl fn))]) hD hS hA [0, 1, 2, 3, 4, 5, 6, 7, 8, 9, 10] rfl
  refine vx_calli (vx_runV (As := [.int p1]) (rest := []) ⟨hx, hb, hml, hown, hts⟩ (c_X5_dispute l hlt D cI cZ cJ cA sx s.heap.size a hm aw tk ce hi kn ka kb kc kd fn p1 (by first | assumption | omega) (by first | assumption | omega) (by first | assumption | omega) (by assumption) (by assumption)) (cwV 1 hts gL_does_X5_dispute rfl rfl rfl (by decide +kernel) ⟨Nat.le_of_ble_eq_true rfl, Nat.le_of_ble_eq_true rfl⟩) ⟨pcXW_bl, va_recv hK hPc (ci := 5) (q0 := 0) rfl rfl, fun U hU hW => ⟨rfl, ⟨by rw [hU], by rw [hU]; exact hPc, va_K.moved hW.alike hK, hDc.weaken (fun _ _ _ _ => trivial)⟩, hE.call hS hFc hU hW⟩⟩ rfl rfl hl.1 rfl (lv_room (Nat.le_of_ble_eq_true rfl)) dL_does_112 ⟨Nat.le_of_ble_eq_true rfl, Nat.le_of_ble_eq_true rfl⟩) hS (fun q _ h => hFc q h) hFc (fun _ h1 h2 => absurd h1 (Nat.not_lt.mpr h2)) (fun E cel q9 u t H locs ht hvm hpx hb1 hz1 hk1 hS hce hcv hcl => ?_) (fun r_9 u t H locs ht hvm hw hB hz1 hk1 hS => ?_)
  · have c_10 : ¬ (k_X5_dispute hm aw tk ce hi kn ka kb kc kd fn p1) = 0 := thr_ne hb1
    have hP := rd_P hP hk1
    · obtain rfl := thr_E1 hb1 hk
      refine vx_catch (name := "java/lang/IndexOutOfBoundsException") hown [] ⟨0, 130, 131, 48⟩ [⟨0, 130, 136, 50⟩, ⟨0, 130, 141, 52⟩] (hT9.trans rfl) (fun _ h => absurd h List.not_mem_nil) rfl (by decide) hlc_48 (va_Nw.use rfl hE.n1) hce hcv hcl ?_
      refine W.eq (g2 := F0 m 131 ls [.ref q9]) rfl ?_
      refine W.widen (k := 1) (n := 6) (Nat.le_refl _) (Nat.le_refl _) ?_
      refine lv_astore (lv' := [(4, .ref q9), (0, .ref (a 0)), (1, .int 7), (2, .int p1), (3, .int p2)]) hx hb dL_does_131 hl (by decide) rfl (fun ls hl => ?_)
      refine lv_bipush (v := (-30)) hx hb dL_does_133 (by decide) ?_
      have hP9 := hP.sub (ws' := [((a 0), .inr (5, [.ref (a 2), .ref (a 4), .ref (a 18), .ref (a 1)])), ((a 4), .inr (2, [.int hm, .int aw, .int tk, .ref (a 5), .ref (a 6), .ref (a 7), .ref (a 8), .ref (a 13)])), ((a 5), .inl (cI, 6, .inl ce)), ((a 6), .inl (cI, 6, .inl hi)), ((a 13), .inr (0, [.int (nI kn), .ref (a 14), .ref (a 15), .ref (a 16), .ref (a 17)])), ((a 14), .inl (cI, 512, .inl ka)), ((a 15), .inl (cI, 512, .inl kb)), ((a 16), .inl (cI, 512, .inl kc)), ((a 17), .inl (cZ, 512, .inl kd)), ((a 18), .inr (4, [.ref (a 19), .ref (a 20), .ref (a 21), .ref (a 22)])), ((a 20), .inl (cI, 6, .inl fn))]) [0, 1, 2, 3, 4, 5, 6, 7, 8, 9, 10] rfl
      have hD9 := hD.sub (ws' := [((a 0), .inr (5, [.ref (a 2), .ref (a 4), .ref (a 18), .ref (a 1)])), ((a 4), .inr (2, [.int hm, .int aw, .int tk, .ref (a 5), .ref (a 6), .ref (a 7), .ref (a 8), .ref (a 13)])), ((a 5), .inl (cI, 6, .inl ce)), ((a 6), .inl (cI, 6, .inl hi)), ((a 13), .inr (0, [.int (nI kn), .ref (a 14), .ref (a 15), .ref (a 16), .ref (a 17)])), ((a 14), .inl (cI, 512, .inl ka)), ((a 15), .inl (cI, 512, .inl kb)), ((a 16), .inl (cI, 512, .inl kc)), ((a 17), .inl (cZ, 512, .inl kd)), ((a 18), .inr (4, [.ref (a 19), .ref (a 20), .ref (a 21), .ref (a 22)])), ((a 20), .inl (cI, 6, .inl fn))]) [0, 1, 2, 3, 4, 5, 6, 7, 8, 9, 10] (by decide) rfl
      -- leaf 0
      refine W.widen (k := 1) (n := 6) (Nat.le_of_ble_eq_true rfl) (Nat.le_of_ble_eq_true rfl) ?_
      exact W.iret (v := (-30)) hx hb hr (fun t ht hW => ⟨⟨(-30), (), rfl, rfl, by rw [ht]; exact hP9, va_K.moved hW.alike hK, hD9⟩, hS.F ht⟩) hS.2.2 dL_does_135
  · try dsimp only at hw
    exact absurd (hk.symm.trans hw.1) (by decide)

set_option maxHeartbeats 4000000 in
set_option maxRecDepth 100000 in
theorem c_A0 (l : Launch) (hlt : l.stackTraces = false) (D : va_G) (cI cZ cJ cA : ClassId) (sx : Nat → Nat) (sz : Nat) (a : Nat → Nat) (bk : Nat → Int32) (p1 : Int32) (p2 : Int32) (hk : k_X5_sees bk p1 p2 = 1) : Met l yL_asks wsL_asks ({ frames := 8, cells := 2, slots := 12, locals := 132 } : Room) (va_Pc [.ref (a 0), .int 0, .int p1, .int p2] (pcL (pcR D (tyL cI cZ cJ cA) [((a 0), .inr (5, [.ref (a 2), .ref (a 4), .ref (a 18), .ref (a 1)])), ((a 2), .inr (1, [.ref (a 3)])), ((a 3), .inl (cZ, 144, .inl bk))] sz) sx (fun q : Nat => sz ≤ q))) (va_Qi (fun (r : Int32) (u : Unit) => r = (-30)) (fun _ _ => True) (fun q : Nat => sz ≤ q)) 2 12 (fun q : Nat => sz ≤ q) := by
  refine va_MetW (cc := cL_asks) (maxL := 5) (ret := (some .int)) (by decide) rfl ?_
  intro p e s m args below meth c s₁ B hml hv
  obtain ⟨rfl, ⟨⟨hsz, hP, hK⟩, hE⟩, hN⟩ := hv
  have hx := B.exec
  have hb := B.bytes
  have hr := B.returns
  have hts := atoms_spec (ws := wsL_asks) B.pre
  have hown : s.vm.findClass RL = some m.cls := findClass_of_methodNamed B.named
  have hlocks := B.notSynchronized
  subst hsz
  have hA : ∀ q : Nat, s.heap.size ≤ q → (fun q : Nat => s.heap.size ≤ q) q := fun _ h => h
  have hS : va_S (fun q : Nat => s.heap.size ≤ q) s.heap s.heap [] := va_S.rf
  have hP : va_P D vwCl [((a 0), .inr (5, [.ref (a 2), .ref (a 4), .ref (a 18), .ref (a 1)])), ((a 2), .inr (1, [.ref (a 3)])), ((a 3), .inl (cZ, 144, .inl bk))] s.heap := hP
  have hl := lv_entry ([.ref (a 0), .int 0, .int p1, .int p2]) (n := 5) (Nat.le_of_ble_eq_true rfl)
  rw [lg_entry_eq]
  generalize (lg_sl ([.ref (a 0), .int 0, .int p1, .int p2]) ++ List.replicate (5 - (lg_sl ([.ref (a 0), .int 0, .int p1, .int p2])).length) Slot.unset).toArray = ls at hl ⊢
  have hl : lv_has ls 5 [(0, .ref (a 0)), (1, .int 0), (2, .int p1), (3, .int p2)] := hl
  have hT9 : c.exceptionTable.toList = tableOf [(0, 105, 106, 48)] := vx_table (x := yL_asks) B (hts _ List.mem_cons_self)
  have hlc_48 := hts (.classLink RL 48 "java/lang/IndexOutOfBoundsException") (by decide +kernel)
  refine lv_iload_n hx hb dL_asks_0 rfl (lv_at hl 1 rfl) ?_
  refine lv_if_ne (tgt := 21) hx hb dL_asks_1 (by decide) (fun c_1 => absurd (by decide) c_1) (fun _ => ?_)
  refine lv_aload_n hx hb dL_asks_4 rfl (lv_at hl 0 rfl) ?_
  refine lv_iload_n hx hb dL_asks_5 rfl (lv_at hl 2 rfl) ?_
  refine lv_iload_n hx hb dL_asks_6 rfl (lv_at hl 3 rfl) ?_
  have hPc := hP
  refine vx_calli (vx_runV (As := [.int p1, .int p2]) (rest := []) ⟨hx, hb, hml, hown, hts⟩ (c_X5_sees l hlt D cI cZ cJ cA sx s.heap.size a bk p1 p2) (cwV 2 hts gL_asks_X5_sees rfl rfl rfl (by decide +kernel) ⟨Nat.le_of_ble_eq_true rfl, Nat.le_of_ble_eq_true rfl⟩) ⟨pcXR_bl, va_recv hK hPc (ci := 5) (q0 := 0) rfl rfl, fun U hU hW => ⟨rfl, ⟨by rw [hU], by rw [hU]; exact hPc, va_K.moved hW.alike hK⟩, hE.call hS (rd_free hS hA) hU hW⟩⟩ rfl rfl hl.1 rfl (lv_room (Nat.le_of_ble_eq_true rfl)) dL_asks_7 ⟨Nat.le_of_ble_eq_true rfl, Nat.le_of_ble_eq_true rfl⟩) hS (fun _ h1 h2 => absurd h1 (Nat.not_lt.mpr h2)) (rd_free hS hA) (fun _ h1 h2 => absurd h1 (Nat.not_lt.mpr h2)) (fun E cel q9 u t H locs ht hvm hpx hb1 hz1 hk1 hS hce hcv hcl => ?_) (fun r_2 u t H locs ht hvm hw hB hz1 hk1 hS => ?_)
  · have c_3 : ¬ (k_X5_sees bk p1 p2) = 0 := thr_ne hb1
    have hP := rd_P hP hk1
    · obtain rfl := thr_E1 hb1 hk
      refine vx_catch (name := "java/lang/IndexOutOfBoundsException") hown [] ⟨0, 105, 106, 48⟩ [] (hT9.trans rfl) (fun _ h => absurd h List.not_mem_nil) rfl (by decide) hlc_48 (va_Nw.use rfl hE.n1) hce hcv hcl ?_
      refine W.eq (g2 := F0 m 106 ls [.ref q9]) rfl ?_
      refine W.widen (k := 2) (n := 12) (Nat.le_refl _) (Nat.le_refl _) ?_
      refine lv_astore (lv' := [(4, .ref q9), (0, .ref (a 0)), (1, .int 0), (2, .int p1), (3, .int p2)]) hx hb dL_asks_106 hl (by decide) rfl (fun ls hl => ?_)
      refine lv_bipush (v := (-30)) hx hb dL_asks_108 (by decide) ?_
      -- leaf 0
      refine W.widen (k := 2) (n := 12) (Nat.le_of_ble_eq_true rfl) (Nat.le_of_ble_eq_true rfl) ?_
      exact W.iret (v := (-30)) hx hb hr (fun t ht hW => ⟨⟨(-30), (), rfl, rfl, trivial⟩, hS.F ht⟩) hS.2.2 dL_asks_110
  · try dsimp only at hw
    exact absurd (hk.symm.trans hw.1) (by decide)

set_option maxHeartbeats 4000000 in
set_option maxRecDepth 100000 in
theorem c_A1 (l : Launch) (hlt : l.stackTraces = false) (D : va_G) (cI cZ cJ cA : ClassId) (sx : Nat → Nat) (sz : Nat) (a : Nat → Nat) (bk : Nat → Int32) (p1 : Int32) (p2 : Int32) (hk : k_X5_view bk p1 = 1) : Met l yL_asks wsL_asks ({ frames := 8, cells := 1, slots := 6, locals := 132 } : Room) (va_Pc [.ref (a 0), .int 1, .int p1, .int p2] (pcL (pcR D (tyL cI cZ cJ cA) [((a 0), .inr (5, [.ref (a 2), .ref (a 4), .ref (a 18), .ref (a 1)])), ((a 2), .inr (1, [.ref (a 3)])), ((a 3), .inl (cZ, 144, .inl bk))] sz) sx (fun q : Nat => sz ≤ q))) (va_Qi (fun (r : Int32) (u : Unit) => r = (-30)) (fun _ _ => True) (fun q : Nat => sz ≤ q)) 1 6 (fun q : Nat => sz ≤ q) := by
  refine va_MetW (cc := cL_asks) (maxL := 5) (ret := (some .int)) (by decide) rfl ?_
  intro p e s m args below meth c s₁ B hml hv
  obtain ⟨rfl, ⟨⟨hsz, hP, hK⟩, hE⟩, hN⟩ := hv
  have hx := B.exec
  have hb := B.bytes
  have hr := B.returns
  have hts := atoms_spec (ws := wsL_asks) B.pre
  have hown : s.vm.findClass RL = some m.cls := findClass_of_methodNamed B.named
  have hlocks := B.notSynchronized
  subst hsz
  have hA : ∀ q : Nat, s.heap.size ≤ q → (fun q : Nat => s.heap.size ≤ q) q := fun _ h => h
  have hS : va_S (fun q : Nat => s.heap.size ≤ q) s.heap s.heap [] := va_S.rf
  have hP : va_P D vwCl [((a 0), .inr (5, [.ref (a 2), .ref (a 4), .ref (a 18), .ref (a 1)])), ((a 2), .inr (1, [.ref (a 3)])), ((a 3), .inl (cZ, 144, .inl bk))] s.heap := hP
  have hl := lv_entry ([.ref (a 0), .int 1, .int p1, .int p2]) (n := 5) (Nat.le_of_ble_eq_true rfl)
  rw [lg_entry_eq]
  generalize (lg_sl ([.ref (a 0), .int 1, .int p1, .int p2]) ++ List.replicate (5 - (lg_sl ([.ref (a 0), .int 1, .int p1, .int p2])).length) Slot.unset).toArray = ls at hl ⊢
  have hl : lv_has ls 5 [(0, .ref (a 0)), (1, .int 1), (2, .int p1), (3, .int p2)] := hl
  have hT9 : c.exceptionTable.toList = tableOf [(0, 105, 106, 48)] := vx_table (x := yL_asks) B (hts _ List.mem_cons_self)
  have hlc_48 := hts (.classLink RL 48 "java/lang/IndexOutOfBoundsException") (by decide +kernel)
  refine lv_iload_n hx hb dL_asks_0 rfl (lv_at hl 1 rfl) ?_
  refine lv_if_ne (tgt := 21) hx hb dL_asks_1 (by decide) (fun _ => ?_) (fun c_1 => absurd c_1 (by decide))
  refine lv_iload_n hx hb dL_asks_21 rfl (lv_at hl 1 rfl) ?_
  refine lv_iconst (v := 1) hx hb dL_asks_22 (by decide) ?_
  refine lv_icmp_ne (tgt := 34) hx hb dL_asks_23 (by decide) (fun c_2 => absurd (by decide) c_2) (fun _ => ?_)
  refine lv_aload_n hx hb dL_asks_26 rfl (lv_at hl 0 rfl) ?_
  refine lv_iload_n hx hb dL_asks_27 rfl (lv_at hl 2 rfl) ?_
  have hPc := hP
  refine vx_calli (vx_runV (As := [.int p1]) (rest := []) ⟨hx, hb, hml, hown, hts⟩ (c_X5_view l hlt D cI cZ cJ cA sx s.heap.size a bk p1) (cwV 1 hts gL_asks_X5_view rfl rfl rfl (by decide +kernel) ⟨Nat.le_of_ble_eq_true rfl, Nat.le_of_ble_eq_true rfl⟩) ⟨pcXR_bl, va_recv hK hPc (ci := 5) (q0 := 0) rfl rfl, fun U hU hW => ⟨rfl, ⟨by rw [hU], by rw [hU]; exact hPc, va_K.moved hW.alike hK⟩, hE.call hS (rd_free hS hA) hU hW⟩⟩ rfl rfl hl.1 rfl (lv_room (Nat.le_of_ble_eq_true rfl)) dL_asks_28 ⟨Nat.le_of_ble_eq_true rfl, Nat.le_of_ble_eq_true rfl⟩) hS (fun _ h1 h2 => absurd h1 (Nat.not_lt.mpr h2)) (rd_free hS hA) (fun _ h1 h2 => absurd h1 (Nat.not_lt.mpr h2)) (fun E cel q9 u t H locs ht hvm hpx hb1 hz1 hk1 hS hce hcv hcl => ?_) (fun r_3 u t H locs ht hvm hw hB hz1 hk1 hS => ?_)
  · have c_4 : ¬ (k_X5_view bk p1) = 0 := thr_ne hb1
    have hP := rd_P hP hk1
    · obtain rfl := thr_E1 hb1 hk
      refine vx_catch (name := "java/lang/IndexOutOfBoundsException") hown [] ⟨0, 105, 106, 48⟩ [] (hT9.trans rfl) (fun _ h => absurd h List.not_mem_nil) rfl (by decide) hlc_48 (va_Nw.use rfl hE.n1) hce hcv hcl ?_
      refine W.eq (g2 := F0 m 106 ls [.ref q9]) rfl ?_
      refine W.widen (k := 1) (n := 6) (Nat.le_refl _) (Nat.le_refl _) ?_
      refine lv_astore (lv' := [(4, .ref q9), (0, .ref (a 0)), (1, .int 1), (2, .int p1), (3, .int p2)]) hx hb dL_asks_106 hl (by decide) rfl (fun ls hl => ?_)
      refine lv_bipush (v := (-30)) hx hb dL_asks_108 (by decide) ?_
      -- leaf 0
      refine W.widen (k := 1) (n := 6) (Nat.le_of_ble_eq_true rfl) (Nat.le_of_ble_eq_true rfl) ?_
      exact W.iret (v := (-30)) hx hb hr (fun t ht hW => ⟨⟨(-30), (), rfl, rfl, trivial⟩, hS.F ht⟩) hS.2.2 dL_asks_110
  · try dsimp only at hw
    exact absurd (hk.symm.trans hw.1) (by decide)

set_option maxHeartbeats 4000000 in
set_option maxRecDepth 100000 in
theorem c_A2 (l : Launch) (hlt : l.stackTraces = false) (D : va_G) (cI cZ cJ cA : ClassId) (sx : Nat → Nat) (sz : Nat) (a : Nat → Nat) (hm : Int32) (aw : Int32) (tk : Int32) (ce : Nat → Int32) (p1 : Int32) (p2 : Int32) (hk : k_X5_where hm aw tk ce p1 = 1) : Met l yL_asks wsL_asks ({ frames := 8, cells := 1, slots := 6, locals := 132 } : Room) (va_Pc [.ref (a 0), .int 2, .int p1, .int p2] (pcL (pcR D (tyL cI cZ cJ cA) [((a 0), .inr (5, [.ref (a 2), .ref (a 4), .ref (a 18), .ref (a 1)])), ((a 4), .inr (2, [.int hm, .int aw, .int tk, .ref (a 5), .ref (a 6), .ref (a 7), .ref (a 8), .ref (a 13)])), ((a 5), .inl (cI, 6, .inl ce))] sz) sx (fun q : Nat => sz ≤ q))) (va_Qi (fun (r : Int32) (u : Unit) => r = (-30)) (fun _ _ => True) (fun q : Nat => sz ≤ q)) 1 6 (fun q : Nat => sz ≤ q) := by
  refine va_MetW (cc := cL_asks) (maxL := 5) (ret := (some .int)) (by decide) rfl ?_
  intro p e s m args below meth c s₁ B hml hv
  obtain ⟨rfl, ⟨⟨hsz, hP, hK⟩, hE⟩, hN⟩ := hv
  have hx := B.exec
  have hb := B.bytes
  have hr := B.returns
  have hts := atoms_spec (ws := wsL_asks) B.pre
  have hown : s.vm.findClass RL = some m.cls := findClass_of_methodNamed B.named
  have hlocks := B.notSynchronized
  subst hsz
  have hA : ∀ q : Nat, s.heap.size ≤ q → (fun q : Nat => s.heap.size ≤ q) q := fun _ h => h
  have hS : va_S (fun q : Nat => s.heap.size ≤ q) s.heap s.heap [] := va_S.rf
  have hP : va_P D vwCl [((a 0), .inr (5, [.ref (a 2), .ref (a 4), .ref (a 18), .ref (a 1)])), ((a 4), .inr (2, [.int hm, .int aw, .int tk, .ref (a 5), .ref (a 6), .ref (a 7), .ref (a 8), .ref (a 13)])), ((a 5), .inl (cI, 6, .inl ce))] s.heap := hP
  have hl := lv_entry ([.ref (a 0), .int 2, .int p1, .int p2]) (n := 5) (Nat.le_of_ble_eq_true rfl)
  rw [lg_entry_eq]
  generalize (lg_sl ([.ref (a 0), .int 2, .int p1, .int p2]) ++ List.replicate (5 - (lg_sl ([.ref (a 0), .int 2, .int p1, .int p2])).length) Slot.unset).toArray = ls at hl ⊢
  have hl : lv_has ls 5 [(0, .ref (a 0)), (1, .int 2), (2, .int p1), (3, .int p2)] := hl
  have hT9 : c.exceptionTable.toList = tableOf [(0, 105, 106, 48)] := vx_table (x := yL_asks) B (hts _ List.mem_cons_self)
  have hlc_48 := hts (.classLink RL 48 "java/lang/IndexOutOfBoundsException") (by decide +kernel)
  refine lv_iload_n hx hb dL_asks_0 rfl (lv_at hl 1 rfl) ?_
  refine lv_if_ne (tgt := 21) hx hb dL_asks_1 (by decide) (fun _ => ?_) (fun c_1 => absurd c_1 (by decide))
  refine lv_iload_n hx hb dL_asks_21 rfl (lv_at hl 1 rfl) ?_
  refine lv_iconst (v := 1) hx hb dL_asks_22 (by decide) ?_
  refine lv_icmp_ne (tgt := 34) hx hb dL_asks_23 (by decide) (fun _ => ?_) (fun c_2 => absurd c_2 (by decide))
  refine lv_iload_n hx hb dL_asks_34 rfl (lv_at hl 1 rfl) ?_
  refine lv_iconst (v := 2) hx hb dL_asks_35 (by decide) ?_
  refine lv_icmp_ne (tgt := 47) hx hb dL_asks_36 (by decide) (fun c_3 => absurd (by decide) c_3) (fun _ => ?_)
  refine lv_aload_n hx hb dL_asks_39 rfl (lv_at hl 0 rfl) ?_
  refine lv_iload_n hx hb dL_asks_40 rfl (lv_at hl 2 rfl) ?_
  have hPc := hP
  refine vx_calli (vx_runV (As := [.int p1]) (rest := []) ⟨hx, hb, hml, hown, hts⟩ (c_X5_where l hlt D cI cZ cJ cA sx s.heap.size a hm aw tk ce p1) (cwV 1 hts gL_asks_X5_where rfl rfl rfl (by decide +kernel) ⟨Nat.le_of_ble_eq_true rfl, Nat.le_of_ble_eq_true rfl⟩) ⟨pcXR_bl, va_recv hK hPc (ci := 5) (q0 := 0) rfl rfl, fun U hU hW => ⟨rfl, ⟨by rw [hU], by rw [hU]; exact hPc, va_K.moved hW.alike hK⟩, hE.call hS (rd_free hS hA) hU hW⟩⟩ rfl rfl hl.1 rfl (lv_room (Nat.le_of_ble_eq_true rfl)) dL_asks_41 ⟨Nat.le_of_ble_eq_true rfl, Nat.le_of_ble_eq_true rfl⟩) hS (fun _ h1 h2 => absurd h1 (Nat.not_lt.mpr h2)) (rd_free hS hA) (fun _ h1 h2 => absurd h1 (Nat.not_lt.mpr h2)) (fun E cel q9 u t H locs ht hvm hpx hb1 hz1 hk1 hS hce hcv hcl => ?_) (fun r_4 u t H locs ht hvm hw hB hz1 hk1 hS => ?_)
  · have c_5 : ¬ (k_X5_where hm aw tk ce p1) = 0 := thr_ne hb1
    have hP := rd_P hP hk1
    · obtain rfl := thr_E1 hb1 hk
      refine vx_catch (name := "java/lang/IndexOutOfBoundsException") hown [] ⟨0, 105, 106, 48⟩ [] (hT9.trans rfl) (fun _ h => absurd h List.not_mem_nil) rfl (by decide) hlc_48 (va_Nw.use rfl hE.n1) hce hcv hcl ?_
      refine W.eq (g2 := F0 m 106 ls [.ref q9]) rfl ?_
      refine W.widen (k := 1) (n := 6) (Nat.le_refl _) (Nat.le_refl _) ?_
      refine lv_astore (lv' := [(4, .ref q9), (0, .ref (a 0)), (1, .int 2), (2, .int p1), (3, .int p2)]) hx hb dL_asks_106 hl (by decide) rfl (fun ls hl => ?_)
      refine lv_bipush (v := (-30)) hx hb dL_asks_108 (by decide) ?_
      -- leaf 0
      refine W.widen (k := 1) (n := 6) (Nat.le_of_ble_eq_true rfl) (Nat.le_of_ble_eq_true rfl) ?_
      exact W.iret (v := (-30)) hx hb hr (fun t ht hW => ⟨⟨(-30), (), rfl, rfl, trivial⟩, hS.F ht⟩) hS.2.2 dL_asks_110
  · try dsimp only at hw
    exact absurd (hk.symm.trans hw.1) (by decide)

set_option maxHeartbeats 4000000 in
set_option maxRecDepth 100000 in
theorem c_A3 (l : Launch) (hlt : l.stackTraces = false) (D : va_G) (cI cZ cJ cA : ClassId) (sx : Nat → Nat) (sz : Nat) (a : Nat → Nat) (hm : Int32) (aw : Int32) (tk : Int32) (hi : Nat → Int32) (p1 : Int32) (p2 : Int32) (hk : k_X5_hit hm aw tk hi p1 = 1) : Met l yL_asks wsL_asks ({ frames := 8, cells := 1, slots := 6, locals := 132 } : Room) (va_Pc [.ref (a 0), .int 3, .int p1, .int p2] (pcL (pcR D (tyL cI cZ cJ cA) [((a 0), .inr (5, [.ref (a 2), .ref (a 4), .ref (a 18), .ref (a 1)])), ((a 4), .inr (2, [.int hm, .int aw, .int tk, .ref (a 5), .ref (a 6), .ref (a 7), .ref (a 8), .ref (a 13)])), ((a 6), .inl (cI, 6, .inl hi))] sz) sx (fun q : Nat => sz ≤ q))) (va_Qi (fun (r : Int32) (u : Unit) => r = (-30)) (fun _ _ => True) (fun q : Nat => sz ≤ q)) 1 6 (fun q : Nat => sz ≤ q) := by
  refine va_MetW (cc := cL_asks) (maxL := 5) (ret := (some .int)) (by decide) rfl ?_
  intro p e s m args below meth c s₁ B hml hv
  obtain ⟨rfl, ⟨⟨hsz, hP, hK⟩, hE⟩, hN⟩ := hv
  have hx := B.exec
  have hb := B.bytes
  have hr := B.returns
  have hts := atoms_spec (ws := wsL_asks) B.pre
  have hown : s.vm.findClass RL = some m.cls := findClass_of_methodNamed B.named
  have hlocks := B.notSynchronized
  subst hsz
  have hA : ∀ q : Nat, s.heap.size ≤ q → (fun q : Nat => s.heap.size ≤ q) q := fun _ h => h
  have hS : va_S (fun q : Nat => s.heap.size ≤ q) s.heap s.heap [] := va_S.rf
  have hP : va_P D vwCl [((a 0), .inr (5, [.ref (a 2), .ref (a 4), .ref (a 18), .ref (a 1)])), ((a 4), .inr (2, [.int hm, .int aw, .int tk, .ref (a 5), .ref (a 6), .ref (a 7), .ref (a 8), .ref (a 13)])), ((a 6), .inl (cI, 6, .inl hi))] s.heap := hP
  have hl := lv_entry ([.ref (a 0), .int 3, .int p1, .int p2]) (n := 5) (Nat.le_of_ble_eq_true rfl)
  rw [lg_entry_eq]
  generalize (lg_sl ([.ref (a 0), .int 3, .int p1, .int p2]) ++ List.replicate (5 - (lg_sl ([.ref (a 0), .int 3, .int p1, .int p2])).length) Slot.unset).toArray = ls at hl ⊢
  have hl : lv_has ls 5 [(0, .ref (a 0)), (1, .int 3), (2, .int p1), (3, .int p2)] := hl
  have hT9 : c.exceptionTable.toList = tableOf [(0, 105, 106, 48)] := vx_table (x := yL_asks) B (hts _ List.mem_cons_self)
  have hlc_48 := hts (.classLink RL 48 "java/lang/IndexOutOfBoundsException") (by decide +kernel)
  refine lv_iload_n hx hb dL_asks_0 rfl (lv_at hl 1 rfl) ?_
  refine lv_if_ne (tgt := 21) hx hb dL_asks_1 (by decide) (fun _ => ?_) (fun c_1 => absurd c_1 (by decide))
  refine lv_iload_n hx hb dL_asks_21 rfl (lv_at hl 1 rfl) ?_
  refine lv_iconst (v := 1) hx hb dL_asks_22 (by decide) ?_
  refine lv_icmp_ne (tgt := 34) hx hb dL_asks_23 (by decide) (fun _ => ?_) (fun c_2 => absurd c_2 (by decide))
  refine lv_iload_n hx hb dL_asks_34 rfl (lv_at hl 1 rfl) ?_
  refine lv_iconst (v := 2) hx hb dL_asks_35 (by decide) ?_
  refine lv_icmp_ne (tgt := 47) hx hb dL_asks_36 (by decide) (fun _ => ?_) (fun c_3 => absurd c_3 (by decide))
  refine lv_iload_n hx hb dL_asks_47 rfl (lv_at hl 1 rfl) ?_
  refine lv_iconst (v := 3) hx hb dL_asks_48 (by decide) ?_
  refine lv_icmp_ne (tgt := 60) hx hb dL_asks_49 (by decide) (fun c_4 => absurd (by decide) c_4) (fun _ => ?_)
  refine lv_aload_n hx hb dL_asks_52 rfl (lv_at hl 0 rfl) ?_
  refine lv_iload_n hx hb dL_asks_53 rfl (lv_at hl 2 rfl) ?_
  have hPc := hP
  refine vx_calli (vx_runV (As := [.int p1]) (rest := []) ⟨hx, hb, hml, hown, hts⟩ (c_X5_hit l hlt D cI cZ cJ cA sx s.heap.size a hm aw tk hi p1) (cwV 1 hts gL_asks_X5_hit rfl rfl rfl (by decide +kernel) ⟨Nat.le_of_ble_eq_true rfl, Nat.le_of_ble_eq_true rfl⟩) ⟨pcXR_bl, va_recv hK hPc (ci := 5) (q0 := 0) rfl rfl, fun U hU hW => ⟨rfl, ⟨by rw [hU], by rw [hU]; exact hPc, va_K.moved hW.alike hK⟩, hE.call hS (rd_free hS hA) hU hW⟩⟩ rfl rfl hl.1 rfl (lv_room (Nat.le_of_ble_eq_true rfl)) dL_asks_54 ⟨Nat.le_of_ble_eq_true rfl, Nat.le_of_ble_eq_true rfl⟩) hS (fun _ h1 h2 => absurd h1 (Nat.not_lt.mpr h2)) (rd_free hS hA) (fun _ h1 h2 => absurd h1 (Nat.not_lt.mpr h2)) (fun E cel q9 u t H locs ht hvm hpx hb1 hz1 hk1 hS hce hcv hcl => ?_) (fun r_5 u t H locs ht hvm hw hB hz1 hk1 hS => ?_)
  · have c_6 : ¬ (k_X5_hit hm aw tk hi p1) = 0 := thr_ne hb1
    have hP := rd_P hP hk1
    · obtain rfl := thr_E1 hb1 hk
      refine vx_catch (name := "java/lang/IndexOutOfBoundsException") hown [] ⟨0, 105, 106, 48⟩ [] (hT9.trans rfl) (fun _ h => absurd h List.not_mem_nil) rfl (by decide) hlc_48 (va_Nw.use rfl hE.n1) hce hcv hcl ?_
      refine W.eq (g2 := F0 m 106 ls [.ref q9]) rfl ?_
      refine W.widen (k := 1) (n := 6) (Nat.le_refl _) (Nat.le_refl _) ?_
      refine lv_astore (lv' := [(4, .ref q9), (0, .ref (a 0)), (1, .int 3), (2, .int p1), (3, .int p2)]) hx hb dL_asks_106 hl (by decide) rfl (fun ls hl => ?_)
      refine lv_bipush (v := (-30)) hx hb dL_asks_108 (by decide) ?_
      -- leaf 0
      refine W.widen (k := 1) (n := 6) (Nat.le_of_ble_eq_true rfl) (Nat.le_of_ble_eq_true rfl) ?_
      exact W.iret (v := (-30)) hx hb hr (fun t ht hW => ⟨⟨(-30), (), rfl, rfl, trivial⟩, hS.F ht⟩) hS.2.2 dL_asks_110
  · try dsimp only at hw
    exact absurd (hk.symm.trans hw.1) (by decide)

set_option maxHeartbeats 4000000 in
set_option maxRecDepth 100000 in
theorem c_A4 (l : Launch) (hlt : l.stackTraces = false) (D : va_G) (cI cZ cJ cA : ClassId) (sx : Nat → Nat) (sz : Nat) (a : Nat → Nat) (pt : Nat → Int32) (p1 : Int32) (p2 : Int32) (hk : k_X5_points pt p1 = 1) : Met l yL_asks wsL_asks ({ frames := 8, cells := 1, slots := 6, locals := 132 } : Room) (va_Pc [.ref (a 0), .int 4, .int p1, .int p2] (pcL (pcR D (tyL cI cZ cJ cA) [((a 0), .inr (5, [.ref (a 2), .ref (a 4), .ref (a 18), .ref (a 1)])), ((a 18), .inr (4, [.ref (a 19), .ref (a 20), .ref (a 21), .ref (a 22)])), ((a 19), .inl (cI, 6, .inl pt))] sz) sx (fun q : Nat => sz ≤ q))) (va_Qi (fun (r : Int32) (u : Unit) => r = (-30)) (fun _ _ => True) (fun q : Nat => sz ≤ q)) 1 6 (fun q : Nat => sz ≤ q) := by
  refine va_MetW (cc := cL_asks) (maxL := 5) (ret := (some .int)) (by decide) rfl ?_
  intro p e s m args below meth c s₁ B hml hv
  obtain ⟨rfl, ⟨⟨hsz, hP, hK⟩, hE⟩, hN⟩ := hv
  have hx := B.exec
  have hb := B.bytes
  have hr := B.returns
  have hts := atoms_spec (ws := wsL_asks) B.pre
  have hown : s.vm.findClass RL = some m.cls := findClass_of_methodNamed B.named
  have hlocks := B.notSynchronized
  subst hsz
  have hA : ∀ q : Nat, s.heap.size ≤ q → (fun q : Nat => s.heap.size ≤ q) q := fun _ h => h
  have hS : va_S (fun q : Nat => s.heap.size ≤ q) s.heap s.heap [] := va_S.rf
  have hP : va_P D vwCl [((a 0), .inr (5, [.ref (a 2), .ref (a 4), .ref (a 18), .ref (a 1)])), ((a 18), .inr (4, [.ref (a 19), .ref (a 20), .ref (a 21), .ref (a 22)])), ((a 19), .inl (cI, 6, .inl pt))] s.heap := hP
  have hl := lv_entry ([.ref (a 0), .int 4, .int p1, .int p2]) (n := 5) (Nat.le_of_ble_eq_true rfl)
  rw [lg_entry_eq]
  generalize (lg_sl ([.ref (a 0), .int 4, .int p1, .int p2]) ++ List.replicate (5 - (lg_sl ([.ref (a 0), .int 4, .int p1, .int p2])).length) Slot.unset).toArray = ls at hl ⊢
  have hl : lv_has ls 5 [(0, .ref (a 0)), (1, .int 4), (2, .int p1), (3, .int p2)] := hl
  have hT9 : c.exceptionTable.toList = tableOf [(0, 105, 106, 48)] := vx_table (x := yL_asks) B (hts _ List.mem_cons_self)
  have hlc_48 := hts (.classLink RL 48 "java/lang/IndexOutOfBoundsException") (by decide +kernel)
  refine lv_iload_n hx hb dL_asks_0 rfl (lv_at hl 1 rfl) ?_
  refine lv_if_ne (tgt := 21) hx hb dL_asks_1 (by decide) (fun _ => ?_) (fun c_1 => absurd c_1 (by decide))
  refine lv_iload_n hx hb dL_asks_21 rfl (lv_at hl 1 rfl) ?_
  refine lv_iconst (v := 1) hx hb dL_asks_22 (by decide) ?_
  refine lv_icmp_ne (tgt := 34) hx hb dL_asks_23 (by decide) (fun _ => ?_) (fun c_2 => absurd c_2 (by decide))
  refine lv_iload_n hx hb dL_asks_34 rfl (lv_at hl 1 rfl) ?_
  refine lv_iconst (v := 2) hx hb dL_asks_35 (by decide) ?_
  refine lv_icmp_ne (tgt := 47) hx hb dL_asks_36 (by decide) (fun _ => ?_) (fun c_3 => absurd c_3 (by decide))
  refine lv_iload_n hx hb dL_asks_47 rfl (lv_at hl 1 rfl) ?_
  refine lv_iconst (v := 3) hx hb dL_asks_48 (by decide) ?_
  refine lv_icmp_ne (tgt := 60) hx hb dL_asks_49 (by decide) (fun _ => ?_) (fun c_4 => absurd c_4 (by decide))
  refine lv_iload_n hx hb dL_asks_60 rfl (lv_at hl 1 rfl) ?_
  refine lv_iconst (v := 4) hx hb dL_asks_61 (by decide) ?_
  refine lv_icmp_ne (tgt := 73) hx hb dL_asks_62 (by decide) (fun c_5 => absurd (by decide) c_5) (fun _ => ?_)
  refine lv_aload_n hx hb dL_asks_65 rfl (lv_at hl 0 rfl) ?_
  refine lv_iload_n hx hb dL_asks_66 rfl (lv_at hl 2 rfl) ?_
  have hPc := hP
  refine vx_calli (vx_runV (As := [.int p1]) (rest := []) ⟨hx, hb, hml, hown, hts⟩ (c_X5_points l hlt D cI cZ cJ cA sx s.heap.size a pt p1) (cwV 1 hts gL_asks_X5_points rfl rfl rfl (by decide +kernel) ⟨Nat.le_of_ble_eq_true rfl, Nat.le_of_ble_eq_true rfl⟩) ⟨pcXR_bl, va_recv hK hPc (ci := 5) (q0 := 0) rfl rfl, fun U hU hW => ⟨rfl, ⟨by rw [hU], by rw [hU]; exact hPc, va_K.moved hW.alike hK⟩, hE.call hS (rd_free hS hA) hU hW⟩⟩ rfl rfl hl.1 rfl (lv_room (Nat.le_of_ble_eq_true rfl)) dL_asks_67 ⟨Nat.le_of_ble_eq_true rfl, Nat.le_of_ble_eq_true rfl⟩) hS (fun _ h1 h2 => absurd h1 (Nat.not_lt.mpr h2)) (rd_free hS hA) (fun _ h1 h2 => absurd h1 (Nat.not_lt.mpr h2)) (fun E cel q9 u t H locs ht hvm hpx hb1 hz1 hk1 hS hce hcv hcl => ?_) (fun r_6 u t H locs ht hvm hw hB hz1 hk1 hS => ?_)
  · have c_7 : ¬ (k_X5_points pt p1) = 0 := thr_ne hb1
    have hP := rd_P hP hk1
    · obtain rfl := thr_E1 hb1 hk
      refine vx_catch (name := "java/lang/IndexOutOfBoundsException") hown [] ⟨0, 105, 106, 48⟩ [] (hT9.trans rfl) (fun _ h => absurd h List.not_mem_nil) rfl (by decide) hlc_48 (va_Nw.use rfl hE.n1) hce hcv hcl ?_
      refine W.eq (g2 := F0 m 106 ls [.ref q9]) rfl ?_
      refine W.widen (k := 1) (n := 6) (Nat.le_refl _) (Nat.le_refl _) ?_
      refine lv_astore (lv' := [(4, .ref q9), (0, .ref (a 0)), (1, .int 4), (2, .int p1), (3, .int p2)]) hx hb dL_asks_106 hl (by decide) rfl (fun ls hl => ?_)
      refine lv_bipush (v := (-30)) hx hb dL_asks_108 (by decide) ?_
      -- leaf 0
      refine W.widen (k := 1) (n := 6) (Nat.le_of_ble_eq_true rfl) (Nat.le_of_ble_eq_true rfl) ?_
      exact W.iret (v := (-30)) hx hb hr (fun t ht hW => ⟨⟨(-30), (), rfl, rfl, trivial⟩, hS.F ht⟩) hS.2.2 dL_asks_110
  · try dsimp only at hw
    exact absurd (hk.symm.trans hw.1) (by decide)

set_option maxHeartbeats 4000000 in
set_option maxRecDepth 100000 in
theorem c_A5 (l : Launch) (hlt : l.stackTraces = false) (D : va_G) (cI cZ cJ cA : ClassId) (sx : Nat → Nat) (sz : Nat) (a : Nat → Nat) (fn : Nat → Int32) (p1 : Int32) (p2 : Int32) (hk : k_X5_fines fn p1 = 1) : Met l yL_asks wsL_asks ({ frames := 8, cells := 1, slots := 6, locals := 132 } : Room) (va_Pc [.ref (a 0), .int 5, .int p1, .int p2] (pcL (pcR D (tyL cI cZ cJ cA) [((a 0), .inr (5, [.ref (a 2), .ref (a 4), .ref (a 18), .ref (a 1)])), ((a 18), .inr (4, [.ref (a 19), .ref (a 20), .ref (a 21), .ref (a 22)])), ((a 20), .inl (cI, 6, .inl fn))] sz) sx (fun q : Nat => sz ≤ q))) (va_Qi (fun (r : Int32) (u : Unit) => r = (-30)) (fun _ _ => True) (fun q : Nat => sz ≤ q)) 1 6 (fun q : Nat => sz ≤ q) := by
  refine va_MetW (cc := cL_asks) (maxL := 5) (ret := (some .int)) (by decide) rfl ?_
  intro p e s m args below meth c s₁ B hml hv
  obtain ⟨rfl, ⟨⟨hsz, hP, hK⟩, hE⟩, hN⟩ := hv
  have hx := B.exec
  have hb := B.bytes
  have hr := B.returns
  have hts := atoms_spec (ws := wsL_asks) B.pre
  have hown : s.vm.findClass RL = some m.cls := findClass_of_methodNamed B.named
  have hlocks := B.notSynchronized
  subst hsz
  have hA : ∀ q : Nat, s.heap.size ≤ q → (fun q : Nat => s.heap.size ≤ q) q := fun _ h => h
  have hS : va_S (fun q : Nat => s.heap.size ≤ q) s.heap s.heap [] := va_S.rf
  have hP : va_P D vwCl [((a 0), .inr (5, [.ref (a 2), .ref (a 4), .ref (a 18), .ref (a 1)])), ((a 18), .inr (4, [.ref (a 19), .ref (a 20), .ref (a 21), .ref (a 22)])), ((a 20), .inl (cI, 6, .inl fn))] s.heap := hP
  have hl := lv_entry ([.ref (a 0), .int 5, .int p1, .int p2]) (n := 5) (Nat.le_of_ble_eq_true rfl)
  rw [lg_entry_eq]
  generalize (lg_sl ([.ref (a 0), .int 5, .int p1, .int p2]) ++ List.replicate (5 - (lg_sl ([.ref (a 0), .int 5, .int p1, .int p2])).length) Slot.unset).toArray = ls at hl ⊢
  have hl : lv_has ls 5 [(0, .ref (a 0)), (1, .int 5), (2, .int p1), (3, .int p2)] := hl
  have hT9 : c.exceptionTable.toList = tableOf [(0, 105, 106, 48)] := vx_table (x := yL_asks) B (hts _ List.mem_cons_self)
  have hlc_48 := hts (.classLink RL 48 "java/lang/IndexOutOfBoundsException") (by decide +kernel)
  refine lv_iload_n hx hb dL_asks_0 rfl (lv_at hl 1 rfl) ?_
  refine lv_if_ne (tgt := 21) hx hb dL_asks_1 (by decide) (fun _ => ?_) (fun c_1 => absurd c_1 (by decide))
  refine lv_iload_n hx hb dL_asks_21 rfl (lv_at hl 1 rfl) ?_
  refine lv_iconst (v := 1) hx hb dL_asks_22 (by decide) ?_
  refine lv_icmp_ne (tgt := 34) hx hb dL_asks_23 (by decide) (fun _ => ?_) (fun c_2 => absurd c_2 (by decide))
  refine lv_iload_n hx hb dL_asks_34 rfl (lv_at hl 1 rfl) ?_
  refine lv_iconst (v := 2) hx hb dL_asks_35 (by decide) ?_
  refine lv_icmp_ne (tgt := 47) hx hb dL_asks_36 (by decide) (fun _ => ?_) (fun c_3 => absurd c_3 (by decide))
  refine lv_iload_n hx hb dL_asks_47 rfl (lv_at hl 1 rfl) ?_
  refine lv_iconst (v := 3) hx hb dL_asks_48 (by decide) ?_
  refine lv_icmp_ne (tgt := 60) hx hb dL_asks_49 (by decide) (fun _ => ?_) (fun c_4 => absurd c_4 (by decide))
  refine lv_iload_n hx hb dL_asks_60 rfl (lv_at hl 1 rfl) ?_
  refine lv_iconst (v := 4) hx hb dL_asks_61 (by decide) ?_
  refine lv_icmp_ne (tgt := 73) hx hb dL_asks_62 (by decide) (fun _ => ?_) (fun c_5 => absurd c_5 (by decide))
  refine lv_iload_n hx hb dL_asks_73 rfl (lv_at hl 1 rfl) ?_
  refine lv_iconst (v := 5) hx hb dL_asks_74 (by decide) ?_
  refine lv_icmp_ne (tgt := 86) hx hb dL_asks_75 (by decide) (fun c_6 => absurd (by decide) c_6) (fun _ => ?_)
  refine lv_aload_n hx hb dL_asks_78 rfl (lv_at hl 0 rfl) ?_
  refine lv_iload_n hx hb dL_asks_79 rfl (lv_at hl 2 rfl) ?_
  have hPc := hP
  refine vx_calli (vx_runV (As := [.int p1]) (rest := []) ⟨hx, hb, hml, hown, hts⟩ (c_X5_fines l hlt D cI cZ cJ cA sx s.heap.size a fn p1) (cwV 1 hts gL_asks_X5_fines rfl rfl rfl (by decide +kernel) ⟨Nat.le_of_ble_eq_true rfl, Nat.le_of_ble_eq_true rfl⟩) ⟨pcXR_bl, va_recv hK hPc (ci := 5) (q0 := 0) rfl rfl, fun U hU hW => ⟨rfl, ⟨by rw [hU], by rw [hU]; exact hPc, va_K.moved hW.alike hK⟩, hE.call hS (rd_free hS hA) hU hW⟩⟩ rfl rfl hl.1 rfl (lv_room (Nat.le_of_ble_eq_true rfl)) dL_asks_80 ⟨Nat.le_of_ble_eq_true rfl, Nat.le_of_ble_eq_true rfl⟩) hS (fun _ h1 h2 => absurd h1 (Nat.not_lt.mpr h2)) (rd_free hS hA) (fun _ h1 h2 => absurd h1 (Nat.not_lt.mpr h2)) (fun E cel q9 u t H locs ht hvm hpx hb1 hz1 hk1 hS hce hcv hcl => ?_) (fun r_7 u t H locs ht hvm hw hB hz1 hk1 hS => ?_)
  · have c_8 : ¬ (k_X5_fines fn p1) = 0 := thr_ne hb1
    have hP := rd_P hP hk1
    · obtain rfl := thr_E1 hb1 hk
      refine vx_catch (name := "java/lang/IndexOutOfBoundsException") hown [] ⟨0, 105, 106, 48⟩ [] (hT9.trans rfl) (fun _ h => absurd h List.not_mem_nil) rfl (by decide) hlc_48 (va_Nw.use rfl hE.n1) hce hcv hcl ?_
      refine W.eq (g2 := F0 m 106 ls [.ref q9]) rfl ?_
      refine W.widen (k := 1) (n := 6) (Nat.le_refl _) (Nat.le_refl _) ?_
      refine lv_astore (lv' := [(4, .ref q9), (0, .ref (a 0)), (1, .int 5), (2, .int p1), (3, .int p2)]) hx hb dL_asks_106 hl (by decide) rfl (fun ls hl => ?_)
      refine lv_bipush (v := (-30)) hx hb dL_asks_108 (by decide) ?_
      -- leaf 0
      refine W.widen (k := 1) (n := 6) (Nat.le_of_ble_eq_true rfl) (Nat.le_of_ble_eq_true rfl) ?_
      exact W.iret (v := (-30)) hx hb hr (fun t ht hW => ⟨⟨(-30), (), rfl, rfl, trivial⟩, hS.F ht⟩) hS.2.2 dL_asks_110
  · try dsimp only at hw
    exact absurd (hk.symm.trans hw.1) (by decide)

set_option maxHeartbeats 4000000 in
set_option maxRecDepth 100000 in
theorem c_A6 (l : Launch) (hlt : l.stackTraces = false) (D : va_G) (cI cZ cJ cA : ClassId) (sx : Nat → Nat) (sz : Nat) (a : Nat → Nat) (df : Nat → Int32) (p1 : Int32) (p2 : Int32) (hk : k_X5_difference df p1 = 1) : Met l yL_asks wsL_asks ({ frames := 8, cells := 1, slots := 6, locals := 132 } : Room) (va_Pc [.ref (a 0), .int 6, .int p1, .int p2] (pcL (pcR D (tyL cI cZ cJ cA) [((a 0), .inr (5, [.ref (a 2), .ref (a 4), .ref (a 18), .ref (a 1)])), ((a 18), .inr (4, [.ref (a 19), .ref (a 20), .ref (a 21), .ref (a 22)])), ((a 21), .inl (cI, 6, .inl df))] sz) sx (fun q : Nat => sz ≤ q))) (va_Qi (fun (r : Int32) (u : Unit) => r = (-30)) (fun _ _ => True) (fun q : Nat => sz ≤ q)) 1 6 (fun q : Nat => sz ≤ q) := by
  refine va_MetW (cc := cL_asks) (maxL := 5) (ret := (some .int)) (by decide) rfl ?_
  intro p e s m args below meth c s₁ B hml hv
  obtain ⟨rfl, ⟨⟨hsz, hP, hK⟩, hE⟩, hN⟩ := hv
  have hx := B.exec
  have hb := B.bytes
  have hr := B.returns
  have hts := atoms_spec (ws := wsL_asks) B.pre
  have hown : s.vm.findClass RL = some m.cls := findClass_of_methodNamed B.named
  have hlocks := B.notSynchronized
  subst hsz
  have hA : ∀ q : Nat, s.heap.size ≤ q → (fun q : Nat => s.heap.size ≤ q) q := fun _ h => h
  have hS : va_S (fun q : Nat => s.heap.size ≤ q) s.heap s.heap [] := va_S.rf
  have hP : va_P D vwCl [((a 0), .inr (5, [.ref (a 2), .ref (a 4), .ref (a 18), .ref (a 1)])), ((a 18), .inr (4, [.ref (a 19), .ref (a 20), .ref (a 21), .ref (a 22)])), ((a 21), .inl (cI, 6, .inl df))] s.heap := hP
  have hl := lv_entry ([.ref (a 0), .int 6, .int p1, .int p2]) (n := 5) (Nat.le_of_ble_eq_true rfl)
  rw [lg_entry_eq]
  generalize (lg_sl ([.ref (a 0), .int 6, .int p1, .int p2]) ++ List.replicate (5 - (lg_sl ([.ref (a 0), .int 6, .int p1, .int p2])).length) Slot.unset).toArray = ls at hl ⊢
  have hl : lv_has ls 5 [(0, .ref (a 0)), (1, .int 6), (2, .int p1), (3, .int p2)] := hl
  have hT9 : c.exceptionTable.toList = tableOf [(0, 105, 106, 48)] := vx_table (x := yL_asks) B (hts _ List.mem_cons_self)
  have hlc_48 := hts (.classLink RL 48 "java/lang/IndexOutOfBoundsException") (by decide +kernel)
  refine lv_iload_n hx hb dL_asks_0 rfl (lv_at hl 1 rfl) ?_
  refine lv_if_ne (tgt := 21) hx hb dL_asks_1 (by decide) (fun _ => ?_) (fun c_1 => absurd c_1 (by decide))
  refine lv_iload_n hx hb dL_asks_21 rfl (lv_at hl 1 rfl) ?_
  refine lv_iconst (v := 1) hx hb dL_asks_22 (by decide) ?_
  refine lv_icmp_ne (tgt := 34) hx hb dL_asks_23 (by decide) (fun _ => ?_) (fun c_2 => absurd c_2 (by decide))
  refine lv_iload_n hx hb dL_asks_34 rfl (lv_at hl 1 rfl) ?_
  refine lv_iconst (v := 2) hx hb dL_asks_35 (by decide) ?_
  refine lv_icmp_ne (tgt := 47) hx hb dL_asks_36 (by decide) (fun _ => ?_) (fun c_3 => absurd c_3 (by decide))
  refine lv_iload_n hx hb dL_asks_47 rfl (lv_at hl 1 rfl) ?_
  refine lv_iconst (v := 3) hx hb dL_asks_48 (by decide) ?_
  refine lv_icmp_ne (tgt := 60) hx hb dL_asks_49 (by decide) (fun _ => ?_) (fun c_4 => absurd c_4 (by decide))
  refine lv_iload_n hx hb dL_asks_60 rfl (lv_at hl 1 rfl) ?_
  refine lv_iconst (v := 4) hx hb dL_asks_61 (by decide) ?_
  refine lv_icmp_ne (tgt := 73) hx hb dL_asks_62 (by decide) (fun _ => ?_) (fun c_5 => absurd c_5 (by decide))
  refine lv_iload_n hx hb dL_asks_73 rfl (lv_at hl 1 rfl) ?_
  refine lv_iconst (v := 5) hx hb dL_asks_74 (by decide) ?_
  refine lv_icmp_ne (tgt := 86) hx hb dL_asks_75 (by decide) (fun _ => ?_) (fun c_6 => absurd c_6 (by decide))
  refine lv_iload_n hx hb dL_asks_86 rfl (lv_at hl 1 rfl) ?_
  refine lv_bipush (v := 6) hx hb dL_asks_87 (by decide) ?_
  refine lv_icmp_ne (tgt := 100) hx hb dL_asks_89 (by decide) (fun c_7 => absurd (by decide) c_7) (fun _ => ?_)
  refine lv_aload_n hx hb dL_asks_92 rfl (lv_at hl 0 rfl) ?_
  refine lv_iload_n hx hb dL_asks_93 rfl (lv_at hl 2 rfl) ?_
  have hPc := hP
  refine vx_calli (vx_runV (As := [.int p1]) (rest := []) ⟨hx, hb, hml, hown, hts⟩ (c_X5_difference l hlt D cI cZ cJ cA sx s.heap.size a df p1) (cwV 1 hts gL_asks_X5_difference rfl rfl rfl (by decide +kernel) ⟨Nat.le_of_ble_eq_true rfl, Nat.le_of_ble_eq_true rfl⟩) ⟨pcXR_bl, va_recv hK hPc (ci := 5) (q0 := 0) rfl rfl, fun U hU hW => ⟨rfl, ⟨by rw [hU], by rw [hU]; exact hPc, va_K.moved hW.alike hK⟩, hE.call hS (rd_free hS hA) hU hW⟩⟩ rfl rfl hl.1 rfl (lv_room (Nat.le_of_ble_eq_true rfl)) dL_asks_94 ⟨Nat.le_of_ble_eq_true rfl, Nat.le_of_ble_eq_true rfl⟩) hS (fun _ h1 h2 => absurd h1 (Nat.not_lt.mpr h2)) (rd_free hS hA) (fun _ h1 h2 => absurd h1 (Nat.not_lt.mpr h2)) (fun E cel q9 u t H locs ht hvm hpx hb1 hz1 hk1 hS hce hcv hcl => ?_) (fun r_8 u t H locs ht hvm hw hB hz1 hk1 hS => ?_)
  · have c_9 : ¬ (k_X5_difference df p1) = 0 := thr_ne hb1
    have hP := rd_P hP hk1
    · obtain rfl := thr_E1 hb1 hk
      refine vx_catch (name := "java/lang/IndexOutOfBoundsException") hown [] ⟨0, 105, 106, 48⟩ [] (hT9.trans rfl) (fun _ h => absurd h List.not_mem_nil) rfl (by decide) hlc_48 (va_Nw.use rfl hE.n1) hce hcv hcl ?_
      refine W.eq (g2 := F0 m 106 ls [.ref q9]) rfl ?_
      refine W.widen (k := 1) (n := 6) (Nat.le_refl _) (Nat.le_refl _) ?_
      refine lv_astore (lv' := [(4, .ref q9), (0, .ref (a 0)), (1, .int 6), (2, .int p1), (3, .int p2)]) hx hb dL_asks_106 hl (by decide) rfl (fun ls hl => ?_)
      refine lv_bipush (v := (-30)) hx hb dL_asks_108 (by decide) ?_
      -- leaf 0
      refine W.widen (k := 1) (n := 6) (Nat.le_of_ble_eq_true rfl) (Nat.le_of_ble_eq_true rfl) ?_
      exact W.iret (v := (-30)) hx hb hr (fun t ht hW => ⟨⟨(-30), (), rfl, rfl, trivial⟩, hS.F ht⟩) hS.2.2 dL_asks_110
  · try dsimp only at hw
    exact absurd (hk.symm.trans hw.1) (by decide)

set_option maxHeartbeats 4000000 in
set_option maxRecDepth 100000 in
theorem c_A7 (l : Launch) (hlt : l.stackTraces = false) (D : va_G) (cI cZ cJ cA : ClassId) (sx : Nat → Nat) (sz : Nat) (a : Nat → Nat) (pt : Nat → Int32) (df : Nat → Int32) (wn : Nat → Nat → Int32) (p1 : Int32) (p2 : Int32) (hk : k_X5_place pt df wn p1 = 1) : Met l yL_asks wsL_asks ({ frames := 8, cells := 1, slots := 6, locals := 132 } : Room) (va_Pc [.ref (a 0), .int 7, .int p1, .int p2] (pcL (pcR D (tyL cI cZ cJ cA) [((a 0), .inr (5, [.ref (a 2), .ref (a 4), .ref (a 18), .ref (a 1)])), ((a 18), .inr (4, [.ref (a 19), .ref (a 20), .ref (a 21), .ref (a 22)])), ((a 19), .inl (cI, 6, .inl pt)), ((a 21), .inl (cI, 6, .inl df)), ((a 22), .inl (cA, 6, .inr (.inr (.inr (.inr (fun k9 => if k9 < 6 then some (a (23 + k9)) else none)))))), ((a (23 + 0)), .inl (cI, 6, .inl (wn 0))), ((a (23 + 1)), .inl (cI, 6, .inl (wn 1))), ((a (23 + 2)), .inl (cI, 6, .inl (wn 2))), ((a (23 + 3)), .inl (cI, 6, .inl (wn 3))), ((a (23 + 4)), .inl (cI, 6, .inl (wn 4))), ((a (23 + 5)), .inl (cI, 6, .inl (wn 5)))] sz) sx (fun q : Nat => sz ≤ q))) (va_Qi (fun (r : Int32) (u : Unit) => r = (-30)) (fun _ _ => True) (fun q : Nat => sz ≤ q)) 1 6 (fun q : Nat => sz ≤ q) := by
  refine va_MetW (cc := cL_asks) (maxL := 5) (ret := (some .int)) (by decide) rfl ?_
  intro p e s m args below meth c s₁ B hml hv
  obtain ⟨rfl, ⟨⟨hsz, hP, hK⟩, hE⟩, hN⟩ := hv
  have hx := B.exec
  have hb := B.bytes
  have hr := B.returns
  have hts := atoms_spec (ws := wsL_asks) B.pre
  have hown : s.vm.findClass RL = some m.cls := findClass_of_methodNamed B.named
  have hlocks := B.notSynchronized
  subst hsz
  have hA : ∀ q : Nat, s.heap.size ≤ q → (fun q : Nat => s.heap.size ≤ q) q := fun _ h => h
  have hS : va_S (fun q : Nat => s.heap.size ≤ q) s.heap s.heap [] := va_S.rf
  have hP : va_P D vwCl [((a 0), .inr (5, [.ref (a 2), .ref (a 4), .ref (a 18), .ref (a 1)])), ((a 18), .inr (4, [.ref (a 19), .ref (a 20), .ref (a 21), .ref (a 22)])), ((a 19), .inl (cI, 6, .inl pt)), ((a 21), .inl (cI, 6, .inl df)), ((a 22), .inl (cA, 6, .inr (.inr (.inr (.inr (fun k9 => if k9 < 6 then some (a (23 + k9)) else none)))))), ((a (23 + 0)), .inl (cI, 6, .inl (wn 0))), ((a (23 + 1)), .inl (cI, 6, .inl (wn 1))), ((a (23 + 2)), .inl (cI, 6, .inl (wn 2))), ((a (23 + 3)), .inl (cI, 6, .inl (wn 3))), ((a (23 + 4)), .inl (cI, 6, .inl (wn 4))), ((a (23 + 5)), .inl (cI, 6, .inl (wn 5)))] s.heap := hP
  have hl := lv_entry ([.ref (a 0), .int 7, .int p1, .int p2]) (n := 5) (Nat.le_of_ble_eq_true rfl)
  rw [lg_entry_eq]
  generalize (lg_sl ([.ref (a 0), .int 7, .int p1, .int p2]) ++ List.replicate (5 - (lg_sl ([.ref (a 0), .int 7, .int p1, .int p2])).length) Slot.unset).toArray = ls at hl ⊢
  have hl : lv_has ls 5 [(0, .ref (a 0)), (1, .int 7), (2, .int p1), (3, .int p2)] := hl
  have hT9 : c.exceptionTable.toList = tableOf [(0, 105, 106, 48)] := vx_table (x := yL_asks) B (hts _ List.mem_cons_self)
  have hlc_48 := hts (.classLink RL 48 "java/lang/IndexOutOfBoundsException") (by decide +kernel)
  refine lv_iload_n hx hb dL_asks_0 rfl (lv_at hl 1 rfl) ?_
  refine lv_if_ne (tgt := 21) hx hb dL_asks_1 (by decide) (fun _ => ?_) (fun c_1 => absurd c_1 (by decide))
  refine lv_iload_n hx hb dL_asks_21 rfl (lv_at hl 1 rfl) ?_
  refine lv_iconst (v := 1) hx hb dL_asks_22 (by decide) ?_
  refine lv_icmp_ne (tgt := 34) hx hb dL_asks_23 (by decide) (fun _ => ?_) (fun c_2 => absurd c_2 (by decide))
  refine lv_iload_n hx hb dL_asks_34 rfl (lv_at hl 1 rfl) ?_
  refine lv_iconst (v := 2) hx hb dL_asks_35 (by decide) ?_
  refine lv_icmp_ne (tgt := 47) hx hb dL_asks_36 (by decide) (fun _ => ?_) (fun c_3 => absurd c_3 (by decide))
  refine lv_iload_n hx hb dL_asks_47 rfl (lv_at hl 1 rfl) ?_
  refine lv_iconst (v := 3) hx hb dL_asks_48 (by decide) ?_
  refine lv_icmp_ne (tgt := 60) hx hb dL_asks_49 (by decide) (fun _ => ?_) (fun c_4 => absurd c_4 (by decide))
  refine lv_iload_n hx hb dL_asks_60 rfl (lv_at hl 1 rfl) ?_
  refine lv_iconst (v := 4) hx hb dL_asks_61 (by decide) ?_
  refine lv_icmp_ne (tgt := 73) hx hb dL_asks_62 (by decide) (fun _ => ?_) (fun c_5 => absurd c_5 (by decide))
  refine lv_iload_n hx hb dL_asks_73 rfl (lv_at hl 1 rfl) ?_
  refine lv_iconst (v := 5) hx hb dL_asks_74 (by decide) ?_
  refine lv_icmp_ne (tgt := 86) hx hb dL_asks_75 (by decide) (fun _ => ?_) (fun c_6 => absurd c_6 (by decide))
  refine lv_iload_n hx hb dL_asks_86 rfl (lv_at hl 1 rfl) ?_
  refine lv_bipush (v := 6) hx hb dL_asks_87 (by decide) ?_
  refine lv_icmp_ne (tgt := 100) hx hb dL_asks_89 (by decide) (fun _ => ?_) (fun c_7 => absurd c_7 (by decide))
  refine lv_aload_n hx hb dL_asks_100 rfl (lv_at hl 0 rfl) ?_
  refine lv_iload_n hx hb dL_asks_101 rfl (lv_at hl 2 rfl) ?_
  have hPc := hP
  refine vx_calli (vx_runV (As := [.int p1]) (rest := []) ⟨hx, hb, hml, hown, hts⟩ (c_X5_place l hlt D cI cZ cJ cA sx s.heap.size a pt df wn p1) (cwV 1 hts gL_asks_X5_place rfl rfl rfl (by decide +kernel) ⟨Nat.le_of_ble_eq_true rfl, Nat.le_of_ble_eq_true rfl⟩) ⟨pcXR_bl, va_recv hK hPc (ci := 5) (q0 := 0) rfl rfl, fun U hU hW => ⟨rfl, ⟨by rw [hU], by rw [hU]; exact hPc, va_K.moved hW.alike hK⟩, hE.call hS (rd_free hS hA) hU hW⟩⟩ rfl rfl hl.1 rfl (lv_room (Nat.le_of_ble_eq_true rfl)) dL_asks_102 ⟨Nat.le_of_ble_eq_true rfl, Nat.le_of_ble_eq_true rfl⟩) hS (fun _ h1 h2 => absurd h1 (Nat.not_lt.mpr h2)) (rd_free hS hA) (fun _ h1 h2 => absurd h1 (Nat.not_lt.mpr h2)) (fun E cel q9 u t H locs ht hvm hpx hb1 hz1 hk1 hS hce hcv hcl => ?_) (fun r_8 u t H locs ht hvm hw hB hz1 hk1 hS => ?_)
  · have c_9 : ¬ (k_X5_place pt df wn p1) = 0 := thr_ne hb1
    have hP := rd_P hP hk1
    · obtain rfl := thr_E1 hb1 hk
      refine vx_catch (name := "java/lang/IndexOutOfBoundsException") hown [] ⟨0, 105, 106, 48⟩ [] (hT9.trans rfl) (fun _ h => absurd h List.not_mem_nil) rfl (by decide) hlc_48 (va_Nw.use rfl hE.n1) hce hcv hcl ?_
      refine W.eq (g2 := F0 m 106 ls [.ref q9]) rfl ?_
      refine W.widen (k := 1) (n := 6) (Nat.le_refl _) (Nat.le_refl _) ?_
      refine lv_astore (lv' := [(4, .ref q9), (0, .ref (a 0)), (1, .int 7), (2, .int p1), (3, .int p2)]) hx hb dL_asks_106 hl (by decide) rfl (fun ls hl => ?_)
      refine lv_bipush (v := (-30)) hx hb dL_asks_108 (by decide) ?_
      -- leaf 0
      refine W.widen (k := 1) (n := 6) (Nat.le_of_ble_eq_true rfl) (Nat.le_of_ble_eq_true rfl) ?_
      exact W.iret (v := (-30)) hx hb hr (fun t ht hW => ⟨⟨(-30), (), rfl, rfl, trivial⟩, hS.F ht⟩) hS.2.2 dL_asks_110
  · try dsimp only at hw
    exact absurd (hk.symm.trans hw.1) (by decide)
