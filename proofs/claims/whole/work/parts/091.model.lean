noncomputable def f_X6_toggleBunker (bk : Nat → Int32) (on : Int32) (hm : Int32) (aw : Int32) (tk : Int32) (sn : Nat) (kn : Nat) (th : Int32) (p1 : Int32) : Int32 := if (f_X6_isIn p1 0 143) = 0 then 0 else (if on = 0 then (if (bk p1.toNatClampNeg) = 0 then (upd bk p1.toNatClampNeg 1) p1.toNatClampNeg else (upd bk p1.toNatClampNeg 0) p1.toNatClampNeg) else 0)
noncomputable def g_bk_X6_toggleBunker (bk : Nat → Int32) (on : Int32) (hm : Int32) (aw : Int32) (tk : Int32) (sn : Nat) (kn : Nat) (th : Int32) (p1 : Int32) : Nat → Int32 := if (f_X6_isIn p1 0 143) = 0 then bk else (if on = 0 then (if (bk p1.toNatClampNeg) = 0 then upd bk p1.toNatClampNeg 1 else upd bk p1.toNatClampNeg 0) else bk)
noncomputable def g_th_X6_toggleBunker (bk : Nat → Int32) (on : Int32) (hm : Int32) (aw : Int32) (tk : Int32) (sn : Nat) (kn : Nat) (th : Int32) (p1 : Int32) : Int32 := if (f_X6_isIn p1 0 143) = 0 then 1 else (if on = 0 then 0 else 2)
set_option maxHeartbeats 4000000 in
set_option maxRecDepth 100000 in
theorem c_X6_toggleBunker (l : Launch) (D : va_G) (cI cZ cJ cA : ClassId) (sz : Nat) (q : Nat → Nat) (bk : Nat → Int32) (on : Int32) (hm : Int32) (aw : Int32) (tk : Int32) (sn : Nat) (kn : Nat) (th : Int32) (p1 : Int32) : Met l yX6_toggleBunker wsX6_toggleBunker ({ frames := 2, cells := 0, slots := 0, locals := 42 } : Room) (va_Pc [.ref (q 0), .int p1] (pcW D (tyL cI cZ cJ cA) [((q 0), .inr (6, [.ref (q 1), .ref (q 2), .int on, .int hm, .int aw, .int tk, .ref (q 3), .ref (q 4), .ref (q 5), .int (nI sn), .ref (q 6), .ref (q 7), .ref (q 8), .ref (q 9), .int (nI kn), .ref (q 10), .ref (q 11), .ref (q 12), .ref (q 13), .ref (q 14), .ref (q 15), .ref (q 16), .ref (q 17), .int th])), ((q 1), .inl (cZ, 144, .inl bk))] sz)) (va_Qi (fun (r : Int32) (u : (Nat → Int32) × (Int32)) => r = f_X6_toggleBunker bk on hm aw tk sn kn th p1 ∧ u.1 = g_bk_X6_toggleBunker bk on hm aw tk sn kn th p1 ∧ u.2 = g_th_X6_toggleBunker bk on hm aw tk sn kn th p1) (fun u t => bcW D (tyL cI cZ cJ cA) (va_A [((q 0), .inr (6, [.ref (q 1), .ref (q 2), .int on, .int hm, .int aw, .int tk, .ref (q 3), .ref (q 4), .ref (q 5), .int (nI sn), .ref (q 6), .ref (q 7), .ref (q 8), .ref (q 9), .int (nI kn), .ref (q 10), .ref (q 11), .ref (q 12), .ref (q 13), .ref (q 14), .ref (q 15), .ref (q 16), .ref (q 17), .int th])), ((q 1), .inl (cZ, 144, .inl bk))] sz) [((q 0), .inr (6, [.ref (q 1), .ref (q 2), .int on, .int hm, .int aw, .int tk, .ref (q 3), .ref (q 4), .ref (q 5), .int (nI sn), .ref (q 6), .ref (q 7), .ref (q 8), .ref (q 9), .int (nI kn), .ref (q 10), .ref (q 11), .ref (q 12), .ref (q 13), .ref (q 14), .ref (q 15), .ref (q 16), .ref (q 17), .int u.2])), ((q 1), .inl (cZ, 144, .inl u.1))] t) (va_A [((q 0), .inr (6, [.ref (q 1), .ref (q 2), .int on, .int hm, .int aw, .int tk, .ref (q 3), .ref (q 4), .ref (q 5), .int (nI sn), .ref (q 6), .ref (q 7), .ref (q 8), .ref (q 9), .int (nI kn), .ref (q 10), .ref (q 11), .ref (q 12), .ref (q 13), .ref (q 14), .ref (q 15), .ref (q 16), .ref (q 17), .int th])), ((q 1), .inl (cZ, 144, .inl bk))] sz)) 0 0 (va_A [((q 0), .inr (6, [.ref (q 1), .ref (q 2), .int on, .int hm, .int aw, .int tk, .ref (q 3), .ref (q 4), .ref (q 5), .int (nI sn), .ref (q 6), .ref (q 7), .ref (q 8), .ref (q 9), .int (nI kn), .ref (q 10), .ref (q 11), .ref (q 12), .ref (q 13), .ref (q 14), .ref (q 15), .ref (q 16), .ref (q 17), .int th])), ((q 1), .inl (cZ, 144, .inl bk))] sz) := by
  refine Met.ofW (cc := cX6_toggleBunker) (maxL := 2) (ret := (some .boolean)) (by decide) rfl ?_
  intro p e s m args below meth c s₁ B hml hv
  obtain ⟨rfl, hsz, hP, hK, hD0⟩ := hv
  have hx := B.exec
  have hb := B.bytes
  have hr := B.returns
  have hts := atoms_spec (ws := wsX6_toggleBunker) B.pre
  have hown : s.vm.findClass RX6 = some m.cls := findClass_of_methodNamed B.named
  have hlocks := B.notSynchronized
  subst hsz
  have hD := hD0.self (sz := s.heap.size)
  generalize hAe : va_A [((q 0), .inr (6, [.ref (q 1), .ref (q 2), .int on, .int hm, .int aw, .int tk, .ref (q 3), .ref (q 4), .ref (q 5), .int (nI sn), .ref (q 6), .ref (q 7), .ref (q 8), .ref (q 9), .int (nI kn), .ref (q 10), .ref (q 11), .ref (q 12), .ref (q 13), .ref (q 14), .ref (q 15), .ref (q 16), .ref (q 17), .int th])), ((q 1), .inl (cZ, 144, .inl bk))] s.heap.size = A at hD ⊢
  have hA : ∀ q : Nat, s.heap.size ≤ q → A q := fun q h => by rw [← hAe]; exact Or.inr h
  have hAR : ∀ q : Nat, s.heap.size ≤ q → (fun q : Nat => s.heap.size ≤ q) q := fun _ h => h
  have hS : va_S A s.heap s.heap [] := va_S.rf
  have hP : va_P D vwCl [((q 0), .inr (6, [.ref (q 1), .ref (q 2), .int on, .int hm, .int aw, .int tk, .ref (q 3), .ref (q 4), .ref (q 5), .int (nI sn), .ref (q 6), .ref (q 7), .ref (q 8), .ref (q 9), .int (nI kn), .ref (q 10), .ref (q 11), .ref (q 12), .ref (q 13), .ref (q 14), .ref (q 15), .ref (q 16), .ref (q 17), .int th])), ((q 1), .inl (cZ, 144, .inl bk))] s.heap := hP
  have hl := lv_entry ([.ref (q 0), .int p1]) (n := 2) (Nat.le_of_ble_eq_true rfl)
  rw [lg_entry_eq]
  generalize (lg_sl ([.ref (q 0), .int p1]) ++ List.replicate (2 - (lg_sl ([.ref (q 0), .int p1])).length) Slot.unset).toArray = ls at hl ⊢
  have hl : lv_has ls 2 [(0, .ref (q 0)), (1, .int p1)] := hl
  have hf_84 := hts (.fieldLink RX6 84 "PaintballAtlasModel" "isOn" "Z") (by decide +kernel)
  have hi_X6 : ∀ w ∈ wsX60, w ∈ wsX6_toggleBunker := by decide +kernel
  have hf_7 := hts (.fieldLink RX6 7 "PaintballAtlasModel" "isBunker" "[Z") (by decide +kernel)
  refine lv_aload_n hx hb dX6_toggleBunker_0 rfl (lv_at hl 0 rfl) ?_
  refine lv_iload_n hx hb dX6_toggleBunker_1 rfl (lv_at hl 1 rfl) ?_
  have hPc := hP.sub (ws' := []) [] rfl
  refine va_calli (va_runS (As := [.int p1]) (rest := [.ref (q 0)]) ⟨hx, hb, hml, hown, hts⟩ (c_X6_isCell l D cI cZ cJ cA s.heap.size p1) (va_cwS 1 hts gX6_toggleBunker_X6_isCell rfl rfl rfl (by decide +kernel) ⟨Nat.le_of_ble_eq_true rfl, Nat.le_of_ble_eq_true rfl⟩) ⟨pcR_bl, fun U hU hW => ⟨rfl, by rw [hU], by rw [hU]; exact hPc, va_K.moved hW.alike hK⟩⟩ rfl rfl hl.1 rfl (lv_room (Nat.le_of_ble_eq_true rfl)) dX6_toggleBunker_2 ⟨Nat.le_of_ble_eq_true rfl, Nat.le_of_ble_eq_true rfl⟩) hS (fun _ h1 h2 => absurd h1 (Nat.not_lt.mpr h2)) (rd_free hS hA) (fun r_1 u t H locs ht hvm hw hB hz1 hk1 hS => ?_)
  try dsimp only at hw
  have hr_1 := hw
  have hP := rd_P hP hk1
  obtain rfl := hr_1.symm
  refine W.widen (k := 0) (n := 0) (Nat.le_refl _) (Nat.le_refl _) ?_
  refine lv_if_ne (tgt := 12) hx hb dX6_toggleBunker_5 (by decide) (fun c_2 => ?_) (fun c_2 => ?_)
  · have hvc_2 : vp_in p1 144 := isIn_vp (N := 144) c_2
    refine lv_aload_n hx hb dX6_toggleBunker_12 rfl (lv_at hl 0 rfl) ?_
    refine va_get (D := D) (ci := 6) (v := .int on) (C := RX6) (T := TX6) (N := 24) hx hb hts hi_X6 hown hK hP 0 rfl rfl 2 (by decide) hf_84 (fun _ h9 => h9) rfl dX6_toggleBunker_13 ?_
    refine lv_if_eq (tgt := 23) hx hb dX6_toggleBunker_16 (by decide) (fun c_3 => ?_) (fun c_3 => ?_)
    · refine lv_iconst (v := 0) hx hb dX6_toggleBunker_23 (by decide) ?_
      have hPc := hP.sub (ws' := [((q 0), .inr (6, [.ref (q 1), .ref (q 2), .int on, .int hm, .int aw, .int tk, .ref (q 3), .ref (q 4), .ref (q 5), .int (nI sn), .ref (q 6), .ref (q 7), .ref (q 8), .ref (q 9), .int (nI kn), .ref (q 10), .ref (q 11), .ref (q 12), .ref (q 13), .ref (q 14), .ref (q 15), .ref (q 16), .ref (q 17), .int th]))]) [0] rfl
      have hDc := hD.sub (ws' := [((q 0), .inr (6, [.ref (q 1), .ref (q 2), .int on, .int hm, .int aw, .int tk, .ref (q 3), .ref (q 4), .ref (q 5), .int (nI sn), .ref (q 6), .ref (q 7), .ref (q 8), .ref (q 9), .int (nI kn), .ref (q 10), .ref (q 11), .ref (q 12), .ref (q 13), .ref (q 14), .ref (q 15), .ref (q 16), .ref (q 17), .int th]))]) [0] (by decide) rfl
      have hFc := va_free (wc := [((q 0), .inr (6, [.ref (q 1), .ref (q 2), .int on, .int hm, .int aw, .int tk, .ref (q 3), .ref (q 4), .ref (q 5), .int (nI sn), .ref (q 6), .ref (q 7), .ref (q 8), .ref (q 9), .int (nI kn), .ref (q 10), .ref (q 11), .ref (q 12), .ref (q 13), .ref (q 14), .ref (q 15), .ref (q 16), .ref (q 17), .int th]))]) hD hS hA [0] rfl
      refine va_calli (va_runV (As := [.int 0]) (rest := []) ⟨hx, hb, hml, hown, hts⟩ (c_X6_fails l D cI cZ cJ cA H.size q on hm aw tk sn kn th 0) (cwV 1 hts gX6_toggleBunker_X6_fails rfl rfl rfl (by decide +kernel) ⟨Nat.le_of_ble_eq_true rfl, Nat.le_of_ble_eq_true rfl⟩) ⟨pcW_bl, va_recv hK hPc (ci := 6) (q0 := 0) rfl rfl, fun U hU hW => ⟨rfl, by rw [hU], by rw [hU]; exact hPc, va_K.moved hW.alike hK, hDc.weaken (fun _ _ _ _ => trivial)⟩⟩ rfl rfl hl.1 rfl (lv_room (Nat.le_of_ble_eq_true rfl)) dX6_toggleBunker_24 ⟨Nat.le_of_ble_eq_true rfl, Nat.le_of_ble_eq_true rfl⟩) hS (fun q _ h => hFc q h) hFc (fun r_4 u t H locs ht hvm hw hB hz1 hk1 hS => ?_)
      try dsimp only at hw
      obtain ⟨u0_4, rfl⟩ : ∃ z, z = u := ⟨_, rfl⟩
      obtain ⟨hr_4, hu0_4⟩ := hw
      obtain ⟨hP1, hK1, hD1⟩ := hB
      rw [ht] at hP1
      obtain ⟨hP, hD⟩ := va_join (wr := [((q 1), .inl (cZ, 144, .inl bk))]) (w1 := [((q 0), .inr (6, [.ref (q 1), .ref (q 2), .int on, .int hm, .int aw, .int tk, .ref (q 3), .ref (q 4), .ref (q 5), .int (nI sn), .ref (q 6), .ref (q 7), .ref (q 8), .ref (q 9), .int (nI kn), .ref (q 10), .ref (q 11), .ref (q 12), .ref (q 13), .ref (q 14), .ref (q 15), .ref (q 16), .ref (q 17), .int u0_4]))]) hP hD [0] [1] rfl rfl (by decide) (by decide) hk1 hFc hP1 hD1
      obtain rfl := hu0_4.symm
      have hP : va_P D vwCl [((q 1), .inl (cZ, 144, .inl bk)), ((q 0), .inr (6, [.ref (q 1), .ref (q 2), .int on, .int hm, .int aw, .int tk, .ref (q 3), .ref (q 4), .ref (q 5), .int (nI sn), .ref (q 6), .ref (q 7), .ref (q 8), .ref (q 9), .int (nI kn), .ref (q 10), .ref (q 11), .ref (q 12), .ref (q 13), .ref (q 14), .ref (q 15), .ref (q 16), .ref (q 17), .int 0]))] H := hP
      have hD : va_D A [((q 1), .inl (cZ, 144, .inl bk)), ((q 0), .inr (6, [.ref (q 1), .ref (q 2), .int on, .int hm, .int aw, .int tk, .ref (q 3), .ref (q 4), .ref (q 5), .int (nI sn), .ref (q 6), .ref (q 7), .ref (q 8), .ref (q 9), .int (nI kn), .ref (q 10), .ref (q 11), .ref (q 12), .ref (q 13), .ref (q 14), .ref (q 15), .ref (q 16), .ref (q 17), .int 0]))] := hD
      obtain rfl := hr_4.symm
      refine W.widen (k := 0) (n := 0) (Nat.le_refl _) (Nat.le_refl _) ?_
      refine tp_eq (y := 0) rfl ?_
      refine lv_if_eq (tgt := 32) hx hb dX6_toggleBunker_27 (by decide) (fun _ => ?_) (fun c_5 => absurd (by decide) c_5)
      refine lv_aload_n hx hb dX6_toggleBunker_32 rfl (lv_at hl 0 rfl) ?_
      refine va_get (D := D) (ci := 6) (v := .ref (q 1)) (C := RX6) (T := TX6) (N := 24) hx hb hts hi_X6 hown hK hP 1 rfl rfl 0 (by decide) hf_7 (fun _ h9 => h9) rfl dX6_toggleBunker_33 ?_
      refine lv_iload_n hx hb dX6_toggleBunker_36 rfl (lv_at hl 1 rfl) ?_
      refine lv_aload_n hx hb dX6_toggleBunker_37 rfl (lv_at hl 0 rfl) ?_
      refine va_get (D := D) (ci := 6) (v := .ref (q 1)) (C := RX6) (T := TX6) (N := 24) hx hb hts hi_X6 hown hK hP 1 rfl rfl 0 (by decide) hf_7 (fun _ h9 => h9) rfl dX6_toggleBunker_38 ?_
      refine lv_iload_n hx hb dX6_toggleBunker_41 rfl (lv_at hl 1 rfl) ?_
      refine va_zald hx hb hK hP 0 1 rfl rfl (by assumption) dX6_toggleBunker_42 ?_
      refine lv_if_ne (tgt := 50) hx hb dX6_toggleBunker_43 (by decide) (fun c_6 => ?_) (fun c_6 => ?_)
      · refine lv_iconst (v := 0) hx hb dX6_toggleBunker_50 (by decide) ?_
        refine va_zast hx hb hK hP hD hS 0 1 rfl rfl (by assumption) dX6_toggleBunker_51 (fun H locs hP hD hS => ?_)
        have hP : va_P D vwCl [((q 1), .inl (cZ, 144, .inl (upd bk p1.toNatClampNeg 0))), ((q 0), .inr (6, [.ref (q 1), .ref (q 2), .int on, .int hm, .int aw, .int tk, .ref (q 3), .ref (q 4), .ref (q 5), .int (nI sn), .ref (q 6), .ref (q 7), .ref (q 8), .ref (q 9), .int (nI kn), .ref (q 10), .ref (q 11), .ref (q 12), .ref (q 13), .ref (q 14), .ref (q 15), .ref (q 16), .ref (q 17), .int 0]))] H := hP
        have hD : va_D A [((q 1), .inl (cZ, 144, .inl (upd bk p1.toNatClampNeg 0))), ((q 0), .inr (6, [.ref (q 1), .ref (q 2), .int on, .int hm, .int aw, .int tk, .ref (q 3), .ref (q 4), .ref (q 5), .int (nI sn), .ref (q 6), .ref (q 7), .ref (q 8), .ref (q 9), .int (nI kn), .ref (q 10), .ref (q 11), .ref (q 12), .ref (q 13), .ref (q 14), .ref (q 15), .ref (q 16), .ref (q 17), .int 0]))] := hD
        refine lv_aload_n hx hb dX6_toggleBunker_52 rfl (lv_at hl 0 rfl) ?_
        refine va_get (D := D) (ci := 6) (v := .ref (q 1)) (C := RX6) (T := TX6) (N := 24) hx hb hts hi_X6 hown hK hP 1 rfl rfl 0 (by decide) hf_7 (fun _ h9 => h9) rfl dX6_toggleBunker_53 ?_
        refine lv_iload_n hx hb dX6_toggleBunker_56 rfl (lv_at hl 1 rfl) ?_
        refine va_zald hx hb hK hP 0 1 rfl rfl (by assumption) dX6_toggleBunker_57 ?_
        have hP9 := hP.sub (ws' := [((q 0), .inr (6, [.ref (q 1), .ref (q 2), .int on, .int hm, .int aw, .int tk, .ref (q 3), .ref (q 4), .ref (q 5), .int (nI sn), .ref (q 6), .ref (q 7), .ref (q 8), .ref (q 9), .int (nI kn), .ref (q 10), .ref (q 11), .ref (q 12), .ref (q 13), .ref (q 14), .ref (q 15), .ref (q 16), .ref (q 17), .int 0])), ((q 1), .inl (cZ, 144, .inl (upd bk p1.toNatClampNeg 0)))]) [1, 0] rfl
        have hD9 := hD.sub (ws' := [((q 0), .inr (6, [.ref (q 1), .ref (q 2), .int on, .int hm, .int aw, .int tk, .ref (q 3), .ref (q 4), .ref (q 5), .int (nI sn), .ref (q 6), .ref (q 7), .ref (q 8), .ref (q 9), .int (nI kn), .ref (q 10), .ref (q 11), .ref (q 12), .ref (q 13), .ref (q 14), .ref (q 15), .ref (q 16), .ref (q 17), .int 0])), ((q 1), .inl (cZ, 144, .inl (upd bk p1.toNatClampNeg 0)))]) [1, 0] (by decide) rfl
        -- leaf 0
        refine W.widen (k := 0) (n := 0) (Nat.le_refl _) (Nat.le_refl _) ?_
        exact W.zret (v := (upd bk p1.toNatClampNeg 0) p1.toNatClampNeg) (ty := .boolean) hx hb hr (nz01 (by simp [upd])) (fun t ht hW => ⟨⟨(upd bk p1.toNatClampNeg 0) p1.toNatClampNeg, (upd bk p1.toNatClampNeg 0, 0), rfl, ⟨(by rw [f_X6_toggleBunker, if_neg c_2, if_pos c_3, if_neg c_6]), (by rw [g_bk_X6_toggleBunker, if_neg c_2, if_pos c_3, if_neg c_6]), (by rw [g_th_X6_toggleBunker, if_neg c_2, if_pos c_3])⟩, by rw [ht]; exact hP9, va_K.moved hW.alike hK, hD9⟩, hS.F ht⟩) hS.2.2 dX6_toggleBunker_58
      · refine lv_iconst (v := 1) hx hb dX6_toggleBunker_46 (by decide) ?_
        refine lv_goto (tgt := 51) hx hb dX6_toggleBunker_47 (by decide) ?_
        refine va_zast hx hb hK hP hD hS 0 1 rfl rfl (by assumption) dX6_toggleBunker_51 (fun H locs hP hD hS => ?_)
        have hP : va_P D vwCl [((q 1), .inl (cZ, 144, .inl (upd bk p1.toNatClampNeg 1))), ((q 0), .inr (6, [.ref (q 1), .ref (q 2), .int on, .int hm, .int aw, .int tk, .ref (q 3), .ref (q 4), .ref (q 5), .int (nI sn), .ref (q 6), .ref (q 7), .ref (q 8), .ref (q 9), .int (nI kn), .ref (q 10), .ref (q 11), .ref (q 12), .ref (q 13), .ref (q 14), .ref (q 15), .ref (q 16), .ref (q 17), .int 0]))] H := hP
        have hD : va_D A [((q 1), .inl (cZ, 144, .inl (upd bk p1.toNatClampNeg 1))), ((q 0), .inr (6, [.ref (q 1), .ref (q 2), .int on, .int hm, .int aw, .int tk, .ref (q 3), .ref (q 4), .ref (q 5), .int (nI sn), .ref (q 6), .ref (q 7), .ref (q 8), .ref (q 9), .int (nI kn), .ref (q 10), .ref (q 11), .ref (q 12), .ref (q 13), .ref (q 14), .ref (q 15), .ref (q 16), .ref (q 17), .int 0]))] := hD
        refine lv_aload_n hx hb dX6_toggleBunker_52 rfl (lv_at hl 0 rfl) ?_
        refine va_get (D := D) (ci := 6) (v := .ref (q 1)) (C := RX6) (T := TX6) (N := 24) hx hb hts hi_X6 hown hK hP 1 rfl rfl 0 (by decide) hf_7 (fun _ h9 => h9) rfl dX6_toggleBunker_53 ?_
        refine lv_iload_n hx hb dX6_toggleBunker_56 rfl (lv_at hl 1 rfl) ?_
        refine va_zald hx hb hK hP 0 1 rfl rfl (by assumption) dX6_toggleBunker_57 ?_
        have hP9 := hP.sub (ws' := [((q 0), .inr (6, [.ref (q 1), .ref (q 2), .int on, .int hm, .int aw, .int tk, .ref (q 3), .ref (q 4), .ref (q 5), .int (nI sn), .ref (q 6), .ref (q 7), .ref (q 8), .ref (q 9), .int (nI kn), .ref (q 10), .ref (q 11), .ref (q 12), .ref (q 13), .ref (q 14), .ref (q 15), .ref (q 16), .ref (q 17), .int 0])), ((q 1), .inl (cZ, 144, .inl (upd bk p1.toNatClampNeg 1)))]) [1, 0] rfl
        have hD9 := hD.sub (ws' := [((q 0), .inr (6, [.ref (q 1), .ref (q 2), .int on, .int hm, .int aw, .int tk, .ref (q 3), .ref (q 4), .ref (q 5), .int (nI sn), .ref (q 6), .ref (q 7), .ref (q 8), .ref (q 9), .int (nI kn), .ref (q 10), .ref (q 11), .ref (q 12), .ref (q 13), .ref (q 14), .ref (q 15), .ref (q 16), .ref (q 17), .int 0])), ((q 1), .inl (cZ, 144, .inl (upd bk p1.toNatClampNeg 1)))]) [1, 0] (by decide) rfl
        -- leaf 1
        refine W.widen (k := 0) (n := 0) (Nat.le_refl _) (Nat.le_refl _) ?_
        exact W.zret (v := (upd bk p1.toNatClampNeg 1) p1.toNatClampNeg) (ty := .boolean) hx hb hr (nz01 (by simp [upd])) (fun t ht hW => ⟨⟨(upd bk p1.toNatClampNeg 1) p1.toNatClampNeg, (upd bk p1.toNatClampNeg 1, 0), rfl, ⟨(by rw [f_X6_toggleBunker, if_neg c_2, if_pos c_3, if_pos c_6]), (by rw [g_bk_X6_toggleBunker, if_neg c_2, if_pos c_3, if_pos c_6]), (by rw [g_th_X6_toggleBunker, if_neg c_2, if_pos c_3])⟩, by rw [ht]; exact hP9, va_K.moved hW.alike hK, hD9⟩, hS.F ht⟩) hS.2.2 dX6_toggleBunker_58
    · refine lv_iconst (v := 2) hx hb dX6_toggleBunker_19 (by decide) ?_
      refine lv_goto (tgt := 24) hx hb dX6_toggleBunker_20 (by decide) ?_
      have hPc := hP.sub (ws' := [((q 0), .inr (6, [.ref (q 1), .ref (q 2), .int on, .int hm, .int aw, .int tk, .ref (q 3), .ref (q 4), .ref (q 5), .int (nI sn), .ref (q 6), .ref (q 7), .ref (q 8), .ref (q 9), .int (nI kn), .ref (q 10), .ref (q 11), .ref (q 12), .ref (q 13), .ref (q 14), .ref (q 15), .ref (q 16), .ref (q 17), .int th]))]) [0] rfl
      have hDc := hD.sub (ws' := [((q 0), .inr (6, [.ref (q 1), .ref (q 2), .int on, .int hm, .int aw, .int tk, .ref (q 3), .ref (q 4), .ref (q 5), .int (nI sn), .ref (q 6), .ref (q 7), .ref (q 8), .ref (q 9), .int (nI kn), .ref (q 10), .ref (q 11), .ref (q 12), .ref (q 13), .ref (q 14), .ref (q 15), .ref (q 16), .ref (q 17), .int th]))]) [0] (by decide) rfl
      have hFc := va_free (wc := [((q 0), .inr (6, [.ref (q 1), .ref (q 2), .int on, .int hm, .int aw, .int tk, .ref (q 3), .ref (q 4), .ref (q 5), .int (nI sn), .ref (q 6), .ref (q 7), .ref (q 8), .ref (q 9), .int (nI kn), .ref (q 10), .ref (q 11), .ref (q 12), .ref (q 13), .ref (q 14), .ref (q 15), .ref (q 16), .ref (q 17), .int th]))]) hD hS hA [0] rfl
      refine va_calli (va_runV (As := [.int 2]) (rest := []) ⟨hx, hb, hml, hown, hts⟩ (c_X6_fails l D cI cZ cJ cA H.size q on hm aw tk sn kn th 2) (cwV 1 hts gX6_toggleBunker_X6_fails rfl rfl rfl (by decide +kernel) ⟨Nat.le_of_ble_eq_true rfl, Nat.le_of_ble_eq_true rfl⟩) ⟨pcW_bl, va_recv hK hPc (ci := 6) (q0 := 0) rfl rfl, fun U hU hW => ⟨rfl, by rw [hU], by rw [hU]; exact hPc, va_K.moved hW.alike hK, hDc.weaken (fun _ _ _ _ => trivial)⟩⟩ rfl rfl hl.1 rfl (lv_room (Nat.le_of_ble_eq_true rfl)) dX6_toggleBunker_24 ⟨Nat.le_of_ble_eq_true rfl, Nat.le_of_ble_eq_true rfl⟩) hS (fun q _ h => hFc q h) hFc (fun r_7 u t H locs ht hvm hw hB hz1 hk1 hS => ?_)
      try dsimp only at hw
      obtain ⟨u0_7, rfl⟩ : ∃ z, z = u := ⟨_, rfl⟩
      obtain ⟨hr_7, hu0_7⟩ := hw
      obtain ⟨hP1, hK1, hD1⟩ := hB
      rw [ht] at hP1
      obtain ⟨hP, hD⟩ := va_join (wr := [((q 1), .inl (cZ, 144, .inl bk))]) (w1 := [((q 0), .inr (6, [.ref (q 1), .ref (q 2), .int on, .int hm, .int aw, .int tk, .ref (q 3), .ref (q 4), .ref (q 5), .int (nI sn), .ref (q 6), .ref (q 7), .ref (q 8), .ref (q 9), .int (nI kn), .ref (q 10), .ref (q 11), .ref (q 12), .ref (q 13), .ref (q 14), .ref (q 15), .ref (q 16), .ref (q 17), .int u0_7]))]) hP hD [0] [1] rfl rfl (by decide) (by decide) hk1 hFc hP1 hD1
      obtain rfl := hu0_7.symm
      have hP : va_P D vwCl [((q 1), .inl (cZ, 144, .inl bk)), ((q 0), .inr (6, [.ref (q 1), .ref (q 2), .int on, .int hm, .int aw, .int tk, .ref (q 3), .ref (q 4), .ref (q 5), .int (nI sn), .ref (q 6), .ref (q 7), .ref (q 8), .ref (q 9), .int (nI kn), .ref (q 10), .ref (q 11), .ref (q 12), .ref (q 13), .ref (q 14), .ref (q 15), .ref (q 16), .ref (q 17), .int 2]))] H := hP
      have hD : va_D A [((q 1), .inl (cZ, 144, .inl bk)), ((q 0), .inr (6, [.ref (q 1), .ref (q 2), .int on, .int hm, .int aw, .int tk, .ref (q 3), .ref (q 4), .ref (q 5), .int (nI sn), .ref (q 6), .ref (q 7), .ref (q 8), .ref (q 9), .int (nI kn), .ref (q 10), .ref (q 11), .ref (q 12), .ref (q 13), .ref (q 14), .ref (q 15), .ref (q 16), .ref (q 17), .int 2]))] := hD
      obtain rfl := hr_7.symm
      refine W.widen (k := 0) (n := 0) (Nat.le_refl _) (Nat.le_refl _) ?_
      refine tp_eq (y := 1) rfl ?_
      refine lv_if_eq (tgt := 32) hx hb dX6_toggleBunker_27 (by decide) (fun c_8 => absurd c_8 (by decide)) (fun _ => ?_)
      refine lv_iconst (v := 0) hx hb dX6_toggleBunker_30 (by decide) ?_
      have hP9 := hP.sub (ws' := [((q 0), .inr (6, [.ref (q 1), .ref (q 2), .int on, .int hm, .int aw, .int tk, .ref (q 3), .ref (q 4), .ref (q 5), .int (nI sn), .ref (q 6), .ref (q 7), .ref (q 8), .ref (q 9), .int (nI kn), .ref (q 10), .ref (q 11), .ref (q 12), .ref (q 13), .ref (q 14), .ref (q 15), .ref (q 16), .ref (q 17), .int 2])), ((q 1), .inl (cZ, 144, .inl bk))]) [1, 0] rfl
      have hD9 := hD.sub (ws' := [((q 0), .inr (6, [.ref (q 1), .ref (q 2), .int on, .int hm, .int aw, .int tk, .ref (q 3), .ref (q 4), .ref (q 5), .int (nI sn), .ref (q 6), .ref (q 7), .ref (q 8), .ref (q 9), .int (nI kn), .ref (q 10), .ref (q 11), .ref (q 12), .ref (q 13), .ref (q 14), .ref (q 15), .ref (q 16), .ref (q 17), .int 2])), ((q 1), .inl (cZ, 144, .inl bk))]) [1, 0] (by decide) rfl
      -- leaf 2
      refine W.widen (k := 0) (n := 0) (Nat.le_refl _) (Nat.le_refl _) ?_
      exact W.zret (v := 0) (ty := .boolean) hx hb hr rfl (fun t ht hW => ⟨⟨0, (bk, 2), rfl, ⟨(by rw [f_X6_toggleBunker, if_neg c_2, if_neg c_3]), (by rw [g_bk_X6_toggleBunker, if_neg c_2, if_neg c_3]), (by rw [g_th_X6_toggleBunker, if_neg c_2, if_neg c_3])⟩, by rw [ht]; exact hP9, va_K.moved hW.alike hK, hD9⟩, hS.F ht⟩) hS.2.2 dX6_toggleBunker_31
  · refine lv_iconst (v := 1) hx hb dX6_toggleBunker_8 (by decide) ?_
    refine lv_goto (tgt := 24) hx hb dX6_toggleBunker_9 (by decide) ?_
    have hPc := hP.sub (ws' := [((q 0), .inr (6, [.ref (q 1), .ref (q 2), .int on, .int hm, .int aw, .int tk, .ref (q 3), .ref (q 4), .ref (q 5), .int (nI sn), .ref (q 6), .ref (q 7), .ref (q 8), .ref (q 9), .int (nI kn), .ref (q 10), .ref (q 11), .ref (q 12), .ref (q 13), .ref (q 14), .ref (q 15), .ref (q 16), .ref (q 17), .int th]))]) [0] rfl
    have hDc := hD.sub (ws' := [((q 0), .inr (6, [.ref (q 1), .ref (q 2), .int on, .int hm, .int aw, .int tk, .ref (q 3), .ref (q 4), .ref (q 5), .int (nI sn), .ref (q 6), .ref (q 7), .ref (q 8), .ref (q 9), .int (nI kn), .ref (q 10), .ref (q 11), .ref (q 12), .ref (q 13), .ref (q 14), .ref (q 15), .ref (q 16), .ref (q 17), .int th]))]) [0] (by decide) rfl
    have hFc := va_free (wc := [((q 0), .inr (6, [.ref (q 1), .ref (q 2), .int on, .int hm, .int aw, .int tk, .ref (q 3), .ref (q 4), .ref (q 5), .int (nI sn), .ref (q 6), .ref (q 7), .ref (q 8), .ref (q 9), .int (nI kn), .ref (q 10), .ref (q 11), .ref (q 12), .ref (q 13), .ref (q 14), .ref (q 15), .ref (q 16), .ref (q 17), .int th]))]) hD hS hA [0] rfl
    refine va_calli (va_runV (As := [.int 1]) (rest := []) ⟨hx, hb, hml, hown, hts⟩ (c_X6_fails l D cI cZ cJ cA H.size q on hm aw tk sn kn th 1) (cwV 1 hts gX6_toggleBunker_X6_fails rfl rfl rfl (by decide +kernel) ⟨Nat.le_of_ble_eq_true rfl, Nat.le_of_ble_eq_true rfl⟩) ⟨pcW_bl, va_recv hK hPc (ci := 6) (q0 := 0) rfl rfl, fun U hU hW => ⟨rfl, by rw [hU], by rw [hU]; exact hPc, va_K.moved hW.alike hK, hDc.weaken (fun _ _ _ _ => trivial)⟩⟩ rfl rfl hl.1 rfl (lv_room (Nat.le_of_ble_eq_true rfl)) dX6_toggleBunker_24 ⟨Nat.le_of_ble_eq_true rfl, Nat.le_of_ble_eq_true rfl⟩) hS (fun q _ h => hFc q h) hFc (fun r_9 u t H locs ht hvm hw hB hz1 hk1 hS => ?_)
    try dsimp only at hw
    obtain ⟨u0_9, rfl⟩ : ∃ z, z = u := ⟨_, rfl⟩
    obtain ⟨hr_9, hu0_9⟩ := hw
    obtain ⟨hP1, hK1, hD1⟩ := hB
    rw [ht] at hP1
    obtain ⟨hP, hD⟩ := va_join (wr := [((q 1), .inl (cZ, 144, .inl bk))]) (w1 := [((q 0), .inr (6, [.ref (q 1), .ref (q 2), .int on, .int hm, .int aw, .int tk, .ref (q 3), .ref (q 4), .ref (q 5), .int (nI sn), .ref (q 6), .ref (q 7), .ref (q 8), .ref (q 9), .int (nI kn), .ref (q 10), .ref (q 11), .ref (q 12), .ref (q 13), .ref (q 14), .ref (q 15), .ref (q 16), .ref (q 17), .int u0_9]))]) hP hD [0] [1] rfl rfl (by decide) (by decide) hk1 hFc hP1 hD1
    obtain rfl := hu0_9.symm
    have hP : va_P D vwCl [((q 1), .inl (cZ, 144, .inl bk)), ((q 0), .inr (6, [.ref (q 1), .ref (q 2), .int on, .int hm, .int aw, .int tk, .ref (q 3), .ref (q 4), .ref (q 5), .int (nI sn), .ref (q 6), .ref (q 7), .ref (q 8), .ref (q 9), .int (nI kn), .ref (q 10), .ref (q 11), .ref (q 12), .ref (q 13), .ref (q 14), .ref (q 15), .ref (q 16), .ref (q 17), .int 1]))] H := hP
    have hD : va_D A [((q 1), .inl (cZ, 144, .inl bk)), ((q 0), .inr (6, [.ref (q 1), .ref (q 2), .int on, .int hm, .int aw, .int tk, .ref (q 3), .ref (q 4), .ref (q 5), .int (nI sn), .ref (q 6), .ref (q 7), .ref (q 8), .ref (q 9), .int (nI kn), .ref (q 10), .ref (q 11), .ref (q 12), .ref (q 13), .ref (q 14), .ref (q 15), .ref (q 16), .ref (q 17), .int 1]))] := hD
    obtain rfl := hr_9.symm
    refine W.widen (k := 0) (n := 0) (Nat.le_refl _) (Nat.le_refl _) ?_
    refine tp_eq (y := 1) rfl ?_
    refine lv_if_eq (tgt := 32) hx hb dX6_toggleBunker_27 (by decide) (fun c_10 => absurd c_10 (by decide)) (fun _ => ?_)
    refine lv_iconst (v := 0) hx hb dX6_toggleBunker_30 (by decide) ?_
    have hP9 := hP.sub (ws' := [((q 0), .inr (6, [.ref (q 1), .ref (q 2), .int on, .int hm, .int aw, .int tk, .ref (q 3), .ref (q 4), .ref (q 5), .int (nI sn), .ref (q 6), .ref (q 7), .ref (q 8), .ref (q 9), .int (nI kn), .ref (q 10), .ref (q 11), .ref (q 12), .ref (q 13), .ref (q 14), .ref (q 15), .ref (q 16), .ref (q 17), .int 1])), ((q 1), .inl (cZ, 144, .inl bk))]) [1, 0] rfl
    have hD9 := hD.sub (ws' := [((q 0), .inr (6, [.ref (q 1), .ref (q 2), .int on, .int hm, .int aw, .int tk, .ref (q 3), .ref (q 4), .ref (q 5), .int (nI sn), .ref (q 6), .ref (q 7), .ref (q 8), .ref (q 9), .int (nI kn), .ref (q 10), .ref (q 11), .ref (q 12), .ref (q 13), .ref (q 14), .ref (q 15), .ref (q 16), .ref (q 17), .int 1])), ((q 1), .inl (cZ, 144, .inl bk))]) [1, 0] (by decide) rfl
    -- leaf 3
    refine W.widen (k := 0) (n := 0) (Nat.le_refl _) (Nat.le_refl _) ?_
    exact W.zret (v := 0) (ty := .boolean) hx hb hr rfl (fun t ht hW => ⟨⟨0, (bk, 1), rfl, ⟨(by rw [f_X6_toggleBunker, if_pos c_2]), (by rw [g_bk_X6_toggleBunker, if_pos c_2]), (by rw [g_th_X6_toggleBunker, if_pos c_2])⟩, by rw [ht]; exact hP9, va_K.moved hW.alike hK, hD9⟩, hS.F ht⟩) hS.2.2 dX6_toggleBunker_31

noncomputable def f_X6_sees (bk : Nat → Int32) (on : Int32) (hm : Int32) (aw : Int32) (tk : Int32) (sn : Nat) (kn : Nat) (th : Int32) (p1 : Int32) (p2 : Int32) : Int32 := if (f_X6_isIn p1 0 143) = 0 then 0 else (if (f_X6_isIn p2 0 143) = 0 then 0 else (if (seeN bk p1 p2 144) = 0 then 0 else 1))
noncomputable def g_th_X6_sees (bk : Nat → Int32) (on : Int32) (hm : Int32) (aw : Int32) (tk : Int32) (sn : Nat) (kn : Nat) (th : Int32) (p1 : Int32) (p2 : Int32) : Int32 := if (f_X6_isIn p1 0 143) = 0 then 1 else (if (f_X6_isIn p2 0 143) = 0 then 1 else 0)
set_option maxHeartbeats 4000000 in
set_option maxRecDepth 100000 in
theorem c_X6_sees (l : Launch) (D : va_G) (cI cZ cJ cA : ClassId) (sz : Nat) (q : Nat → Nat) (bk : Nat → Int32) (on : Int32) (hm : Int32) (aw : Int32) (tk : Int32) (sn : Nat) (kn : Nat) (th : Int32) (p1 : Int32) (p2 : Int32) : Met l yX6_sees wsX6_sees ({ frames := 4, cells := 0, slots := 0, locals := 94 } : Room) (va_Pc [.ref (q 0), .int p1, .int p2] (pcW D (tyL cI cZ cJ cA) [((q 0), .inr (6, [.ref (q 1), .ref (q 2), .int on, .int hm, .int aw, .int tk, .ref (q 3), .ref (q 4), .ref (q 5), .int (nI sn), .ref (q 6), .ref (q 7), .ref (q 8), .ref (q 9), .int (nI kn), .ref (q 10), .ref (q 11), .ref (q 12), .ref (q 13), .ref (q 14), .ref (q 15), .ref (q 16), .ref (q 17), .int th])), ((q 1), .inl (cZ, 144, .inl bk))] sz)) (va_Qi (fun (r : Int32) (u : (Int32)) => r = f_X6_sees bk on hm aw tk sn kn th p1 p2 ∧ u = g_th_X6_sees bk on hm aw tk sn kn th p1 p2) (fun u t => bcW D (tyL cI cZ cJ cA) (va_A [((q 0), .inr (6, [.ref (q 1), .ref (q 2), .int on, .int hm, .int aw, .int tk, .ref (q 3), .ref (q 4), .ref (q 5), .int (nI sn), .ref (q 6), .ref (q 7), .ref (q 8), .ref (q 9), .int (nI kn), .ref (q 10), .ref (q 11), .ref (q 12), .ref (q 13), .ref (q 14), .ref (q 15), .ref (q 16), .ref (q 17), .int th])), ((q 1), .inl (cZ, 144, .inl bk))] sz) [((q 0), .inr (6, [.ref (q 1), .ref (q 2), .int on, .int hm, .int aw, .int tk, .ref (q 3), .ref (q 4), .ref (q 5), .int (nI sn), .ref (q 6), .ref (q 7), .ref (q 8), .ref (q 9), .int (nI kn), .ref (q 10), .ref (q 11), .ref (q 12), .ref (q 13), .ref (q 14), .ref (q 15), .ref (q 16), .ref (q 17), .int u])), ((q 1), .inl (cZ, 144, .inl bk))] t) (va_A [((q 0), .inr (6, [.ref (q 1), .ref (q 2), .int on, .int hm, .int aw, .int tk, .ref (q 3), .ref (q 4), .ref (q 5), .int (nI sn), .ref (q 6), .ref (q 7), .ref (q 8), .ref (q 9), .int (nI kn), .ref (q 10), .ref (q 11), .ref (q 12), .ref (q 13), .ref (q 14), .ref (q 15), .ref (q 16), .ref (q 17), .int th])), ((q 1), .inl (cZ, 144, .inl bk))] sz)) 0 0 (va_A [((q 0), .inr (6, [.ref (q 1), .ref (q 2), .int on, .int hm, .int aw, .int tk, .ref (q 3), .ref (q 4), .ref (q 5), .int (nI sn), .ref (q 6), .ref (q 7), .ref (q 8), .ref (q 9), .int (nI kn), .ref (q 10), .ref (q 11), .ref (q 12), .ref (q 13), .ref (q 14), .ref (q 15), .ref (q 16), .ref (q 17), .int th])), ((q 1), .inl (cZ, 144, .inl bk))] sz) := by
  refine Met.ofW (cc := cX6_sees) (maxL := 3) (ret := (some .boolean)) (by decide) rfl ?_
  intro p e s m args below meth c s₁ B hml hv
  obtain ⟨rfl, hsz, hP, hK, hD0⟩ := hv
  have hx := B.exec
  have hb := B.bytes
  have hr := B.returns
  have hts := atoms_spec (ws := wsX6_sees) B.pre
  have hown : s.vm.findClass RX6 = some m.cls := findClass_of_methodNamed B.named
  have hlocks := B.notSynchronized
  subst hsz
  have hD := hD0.self (sz := s.heap.size)
  generalize hAe : va_A [((q 0), .inr (6, [.ref (q 1), .ref (q 2), .int on, .int hm, .int aw, .int tk, .ref (q 3), .ref (q 4), .ref (q 5), .int (nI sn), .ref (q 6), .ref (q 7), .ref (q 8), .ref (q 9), .int (nI kn), .ref (q 10), .ref (q 11), .ref (q 12), .ref (q 13), .ref (q 14), .ref (q 15), .ref (q 16), .ref (q 17), .int th])), ((q 1), .inl (cZ, 144, .inl bk))] s.heap.size = A at hD ⊢
  have hA : ∀ q : Nat, s.heap.size ≤ q → A q := fun q h => by rw [← hAe]; exact Or.inr h
  have hAR : ∀ q : Nat, s.heap.size ≤ q → (fun q : Nat => s.heap.size ≤ q) q := fun _ h => h
  have hS : va_S A s.heap s.heap [] := va_S.rf
  have hP : va_P D vwCl [((q 0), .inr (6, [.ref (q 1), .ref (q 2), .int on, .int hm, .int aw, .int tk, .ref (q 3), .ref (q 4), .ref (q 5), .int (nI sn), .ref (q 6), .ref (q 7), .ref (q 8), .ref (q 9), .int (nI kn), .ref (q 10), .ref (q 11), .ref (q 12), .ref (q 13), .ref (q 14), .ref (q 15), .ref (q 16), .ref (q 17), .int th])), ((q 1), .inl (cZ, 144, .inl bk))] s.heap := hP
  have hl := lv_entry ([.ref (q 0), .int p1, .int p2]) (n := 3) (Nat.le_of_ble_eq_true rfl)
  rw [lg_entry_eq]
  generalize (lg_sl ([.ref (q 0), .int p1, .int p2]) ++ List.replicate (3 - (lg_sl ([.ref (q 0), .int p1, .int p2])).length) Slot.unset).toArray = ls at hl ⊢
  have hl : lv_has ls 3 [(0, .ref (q 0)), (1, .int p1), (2, .int p2)] := hl
  refine lv_aload_n hx hb dX6_sees_0 rfl (lv_at hl 0 rfl) ?_
  refine lv_iload_n hx hb dX6_sees_1 rfl (lv_at hl 1 rfl) ?_
  have hPc := hP.sub (ws' := []) [] rfl
  refine va_calli (va_runS (As := [.int p1]) (rest := [.ref (q 0)]) ⟨hx, hb, hml, hown, hts⟩ (c_X6_isCell l D cI cZ cJ cA s.heap.size p1) (va_cwS 1 hts gX6_sees_X6_isCell rfl rfl rfl (by decide +kernel) ⟨Nat.le_of_ble_eq_true rfl, Nat.le_of_ble_eq_true rfl⟩) ⟨pcR_bl, fun U hU hW => ⟨rfl, by rw [hU], by rw [hU]; exact hPc, va_K.moved hW.alike hK⟩⟩ rfl rfl hl.1 rfl (lv_room (Nat.le_of_ble_eq_true rfl)) dX6_sees_2 ⟨Nat.le_of_ble_eq_true rfl, Nat.le_of_ble_eq_true rfl⟩) hS (fun _ h1 h2 => absurd h1 (Nat.not_lt.mpr h2)) (rd_free hS hA) (fun r_1 u t H locs ht hvm hw hB hz1 hk1 hS => ?_)
  try dsimp only at hw
  have hr_1 := hw
  have hP := rd_P hP hk1
  obtain rfl := hr_1.symm
  refine W.widen (k := 0) (n := 0) (Nat.le_refl _) (Nat.le_refl _) ?_
  refine lv_if_eq (tgt := 19) hx hb dX6_sees_5 (by decide) (fun c_2 => ?_) (fun c_2 => ?_)
  · refine lv_iconst (v := 1) hx hb dX6_sees_19 (by decide) ?_
    have hPc := hP.sub (ws' := [((q 0), .inr (6, [.ref (q 1), .ref (q 2), .int on, .int hm, .int aw, .int tk, .ref (q 3), .ref (q 4), .ref (q 5), .int (nI sn), .ref (q 6), .ref (q 7), .ref (q 8), .ref (q 9), .int (nI kn), .ref (q 10), .ref (q 11), .ref (q 12), .ref (q 13), .ref (q 14), .ref (q 15), .ref (q 16), .ref (q 17), .int th]))]) [0] rfl
    have hDc := hD.sub (ws' := [((q 0), .inr (6, [.ref (q 1), .ref (q 2), .int on, .int hm, .int aw, .int tk, .ref (q 3), .ref (q 4), .ref (q 5), .int (nI sn), .ref (q 6), .ref (q 7), .ref (q 8), .ref (q 9), .int (nI kn), .ref (q 10), .ref (q 11), .ref (q 12), .ref (q 13), .ref (q 14), .ref (q 15), .ref (q 16), .ref (q 17), .int th]))]) [0] (by decide) rfl
    have hFc := va_free (wc := [((q 0), .inr (6, [.ref (q 1), .ref (q 2), .int on, .int hm, .int aw, .int tk, .ref (q 3), .ref (q 4), .ref (q 5), .int (nI sn), .ref (q 6), .ref (q 7), .ref (q 8), .ref (q 9), .int (nI kn), .ref (q 10), .ref (q 11), .ref (q 12), .ref (q 13), .ref (q 14), .ref (q 15), .ref (q 16), .ref (q 17), .int th]))]) hD hS hA [0] rfl
    refine va_calli (va_runV (As := [.int 1]) (rest := []) ⟨hx, hb, hml, hown, hts⟩ (c_X6_fails l D cI cZ cJ cA H.size q on hm aw tk sn kn th 1) (cwV 1 hts gX6_sees_X6_fails rfl rfl rfl (by decide +kernel) ⟨Nat.le_of_ble_eq_true rfl, Nat.le_of_ble_eq_true rfl⟩) ⟨pcW_bl, va_recv hK hPc (ci := 6) (q0 := 0) rfl rfl, fun U hU hW => ⟨rfl, by rw [hU], by rw [hU]; exact hPc, va_K.moved hW.alike hK, hDc.weaken (fun _ _ _ _ => trivial)⟩⟩ rfl rfl hl.1 rfl (lv_room (Nat.le_of_ble_eq_true rfl)) dX6_sees_20 ⟨Nat.le_of_ble_eq_true rfl, Nat.le_of_ble_eq_true rfl⟩) hS (fun q _ h => hFc q h) hFc (fun r_3 u t H locs ht hvm hw hB hz1 hk1 hS => ?_)
    try dsimp only at hw
    obtain ⟨u0_3, rfl⟩ : ∃ z, z = u := ⟨_, rfl⟩
    obtain ⟨hr_3, hu0_3⟩ := hw
    obtain ⟨hP1, hK1, hD1⟩ := hB
    rw [ht] at hP1
    obtain ⟨hP, hD⟩ := va_join (wr := [((q 1), .inl (cZ, 144, .inl bk))]) (w1 := [((q 0), .inr (6, [.ref (q 1), .ref (q 2), .int on, .int hm, .int aw, .int tk, .ref (q 3), .ref (q 4), .ref (q 5), .int (nI sn), .ref (q 6), .ref (q 7), .ref (q 8), .ref (q 9), .int (nI kn), .ref (q 10), .ref (q 11), .ref (q 12), .ref (q 13), .ref (q 14), .ref (q 15), .ref (q 16), .ref (q 17), .int u0_3]))]) hP hD [0] [1] rfl rfl (by decide) (by decide) hk1 hFc hP1 hD1
    obtain rfl := hu0_3.symm
    have hP : va_P D vwCl [((q 1), .inl (cZ, 144, .inl bk)), ((q 0), .inr (6, [.ref (q 1), .ref (q 2), .int on, .int hm, .int aw, .int tk, .ref (q 3), .ref (q 4), .ref (q 5), .int (nI sn), .ref (q 6), .ref (q 7), .ref (q 8), .ref (q 9), .int (nI kn), .ref (q 10), .ref (q 11), .ref (q 12), .ref (q 13), .ref (q 14), .ref (q 15), .ref (q 16), .ref (q 17), .int 1]))] H := hP
    have hD : va_D A [((q 1), .inl (cZ, 144, .inl bk)), ((q 0), .inr (6, [.ref (q 1), .ref (q 2), .int on, .int hm, .int aw, .int tk, .ref (q 3), .ref (q 4), .ref (q 5), .int (nI sn), .ref (q 6), .ref (q 7), .ref (q 8), .ref (q 9), .int (nI kn), .ref (q 10), .ref (q 11), .ref (q 12), .ref (q 13), .ref (q 14), .ref (q 15), .ref (q 16), .ref (q 17), .int 1]))] := hD
    obtain rfl := hr_3.symm
    refine W.widen (k := 0) (n := 0) (Nat.le_refl _) (Nat.le_refl _) ?_
    refine tp_eq (y := 1) rfl ?_
    refine lv_if_ne (tgt := 39) hx hb dX6_sees_23 (by decide) (fun _ => ?_) (fun c_4 => absurd c_4 (by decide))
    refine lv_iconst (v := 0) hx hb dX6_sees_39 (by decide) ?_
    have hP9 := hP.sub (ws' := [((q 0), .inr (6, [.ref (q 1), .ref (q 2), .int on, .int hm, .int aw, .int tk, .ref (q 3), .ref (q 4), .ref (q 5), .int (nI sn), .ref (q 6), .ref (q 7), .ref (q 8), .ref (q 9), .int (nI kn), .ref (q 10), .ref (q 11), .ref (q 12), .ref (q 13), .ref (q 14), .ref (q 15), .ref (q 16), .ref (q 17), .int 1])), ((q 1), .inl (cZ, 144, .inl bk))]) [1, 0] rfl
    have hD9 := hD.sub (ws' := [((q 0), .inr (6, [.ref (q 1), .ref (q 2), .int on, .int hm, .int aw, .int tk, .ref (q 3), .ref (q 4), .ref (q 5), .int (nI sn), .ref (q 6), .ref (q 7), .ref (q 8), .ref (q 9), .int (nI kn), .ref (q 10), .ref (q 11), .ref (q 12), .ref (q 13), .ref (q 14), .ref (q 15), .ref (q 16), .ref (q 17), .int 1])), ((q 1), .inl (cZ, 144, .inl bk))]) [1, 0] (by decide) rfl
    -- leaf 0
    refine W.widen (k := 0) (n := 0) (Nat.le_refl _) (Nat.le_refl _) ?_
    exact W.zret (v := 0) (ty := .boolean) hx hb hr rfl (fun t ht hW => ⟨⟨0, (1), rfl, ⟨(by rw [f_X6_sees, if_pos c_2]), (by rw [g_th_X6_sees, if_pos c_2])⟩, by rw [ht]; exact hP9, va_K.moved hW.alike hK, hD9⟩, hS.F ht⟩) hS.2.2 dX6_sees_40
  · have hvc_2 : vp_in p1 144 := isIn_vp (N := 144) c_2
    refine lv_iload_n hx hb dX6_sees_8 rfl (lv_at hl 2 rfl) ?_
    have hPc := hP.sub (ws' := []) [] rfl
    refine va_calli (va_runS (As := [.int p2]) (rest := [.ref (q 0)]) ⟨hx, hb, hml, hown, hts⟩ (c_X6_isCell l D cI cZ cJ cA H.size p2) (va_cwS 1 hts gX6_sees_X6_isCell rfl rfl rfl (by decide +kernel) ⟨Nat.le_of_ble_eq_true rfl, Nat.le_of_ble_eq_true rfl⟩) ⟨pcR_bl, fun U hU hW => ⟨rfl, by rw [hU], by rw [hU]; exact hPc, va_K.moved hW.alike hK⟩⟩ rfl rfl hl.1 rfl (lv_room (Nat.le_of_ble_eq_true rfl)) dX6_sees_9 ⟨Nat.le_of_ble_eq_true rfl, Nat.le_of_ble_eq_true rfl⟩) hS (fun _ h1 h2 => absurd h1 (Nat.not_lt.mpr h2)) (rd_free hS hA) (fun r_5 u t H locs ht hvm hw hB hz1 hk1 hS => ?_)
    try dsimp only at hw
    have hr_5 := hw
    have hP := rd_P hP hk1
    obtain rfl := hr_5.symm
    refine W.widen (k := 0) (n := 0) (Nat.le_refl _) (Nat.le_refl _) ?_
    refine lv_if_eq (tgt := 19) hx hb dX6_sees_12 (by decide) (fun c_6 => ?_) (fun c_6 => ?_)
    · refine lv_iconst (v := 1) hx hb dX6_sees_19 (by decide) ?_
      have hPc := hP.sub (ws' := [((q 0), .inr (6, [.ref (q 1), .ref (q 2), .int on, .int hm, .int aw, .int tk, .ref (q 3), .ref (q 4), .ref (q 5), .int (nI sn), .ref (q 6), .ref (q 7), .ref (q 8), .ref (q 9), .int (nI kn), .ref (q 10), .ref (q 11), .ref (q 12), .ref (q 13), .ref (q 14), .ref (q 15), .ref (q 16), .ref (q 17), .int th]))]) [0] rfl
      have hDc := hD.sub (ws' := [((q 0), .inr (6, [.ref (q 1), .ref (q 2), .int on, .int hm, .int aw, .int tk, .ref (q 3), .ref (q 4), .ref (q 5), .int (nI sn), .ref (q 6), .ref (q 7), .ref (q 8), .ref (q 9), .int (nI kn), .ref (q 10), .ref (q 11), .ref (q 12), .ref (q 13), .ref (q 14), .ref (q 15), .ref (q 16), .ref (q 17), .int th]))]) [0] (by decide) rfl
      have hFc := va_free (wc := [((q 0), .inr (6, [.ref (q 1), .ref (q 2), .int on, .int hm, .int aw, .int tk, .ref (q 3), .ref (q 4), .ref (q 5), .int (nI sn), .ref (q 6), .ref (q 7), .ref (q 8), .ref (q 9), .int (nI kn), .ref (q 10), .ref (q 11), .ref (q 12), .ref (q 13), .ref (q 14), .ref (q 15), .ref (q 16), .ref (q 17), .int th]))]) hD hS hA [0] rfl
      refine va_calli (va_runV (As := [.int 1]) (rest := []) ⟨hx, hb, hml, hown, hts⟩ (c_X6_fails l D cI cZ cJ cA H.size q on hm aw tk sn kn th 1) (cwV 1 hts gX6_sees_X6_fails rfl rfl rfl (by decide +kernel) ⟨Nat.le_of_ble_eq_true rfl, Nat.le_of_ble_eq_true rfl⟩) ⟨pcW_bl, va_recv hK hPc (ci := 6) (q0 := 0) rfl rfl, fun U hU hW => ⟨rfl, by rw [hU], by rw [hU]; exact hPc, va_K.moved hW.alike hK, hDc.weaken (fun _ _ _ _ => trivial)⟩⟩ rfl rfl hl.1 rfl (lv_room (Nat.le_of_ble_eq_true rfl)) dX6_sees_20 ⟨Nat.le_of_ble_eq_true rfl, Nat.le_of_ble_eq_true rfl⟩) hS (fun q _ h => hFc q h) hFc (fun r_7 u t H locs ht hvm hw hB hz1 hk1 hS => ?_)
      try dsimp only at hw
      obtain ⟨u0_7, rfl⟩ : ∃ z, z = u := ⟨_, rfl⟩
      obtain ⟨hr_7, hu0_7⟩ := hw
      obtain ⟨hP1, hK1, hD1⟩ := hB
      rw [ht] at hP1
      obtain ⟨hP, hD⟩ := va_join (wr := [((q 1), .inl (cZ, 144, .inl bk))]) (w1 := [((q 0), .inr (6, [.ref (q 1), .ref (q 2), .int on, .int hm, .int aw, .int tk, .ref (q 3), .ref (q 4), .ref (q 5), .int (nI sn), .ref (q 6), .ref (q 7), .ref (q 8), .ref (q 9), .int (nI kn), .ref (q 10), .ref (q 11), .ref (q 12), .ref (q 13), .ref (q 14), .ref (q 15), .ref (q 16), .ref (q 17), .int u0_7]))]) hP hD [0] [1] rfl rfl (by decide) (by decide) hk1 hFc hP1 hD1
      obtain rfl := hu0_7.symm
      have hP : va_P D vwCl [((q 1), .inl (cZ, 144, .inl bk)), ((q 0), .inr (6, [.ref (q 1), .ref (q 2), .int on, .int hm, .int aw, .int tk, .ref (q 3), .ref (q 4), .ref (q 5), .int (nI sn), .ref (q 6), .ref (q 7), .ref (q 8), .ref (q 9), .int (nI kn), .ref (q 10), .ref (q 11), .ref (q 12), .ref (q 13), .ref (q 14), .ref (q 15), .ref (q 16), .ref (q 17), .int 1]))] H := hP
      have hD : va_D A [((q 1), .inl (cZ, 144, .inl bk)), ((q 0), .inr (6, [.ref (q 1), .ref (q 2), .int on, .int hm, .int aw, .int tk, .ref (q 3), .ref (q 4), .ref (q 5), .int (nI sn), .ref (q 6), .ref (q 7), .ref (q 8), .ref (q 9), .int (nI kn), .ref (q 10), .ref (q 11), .ref (q 12), .ref (q 13), .ref (q 14), .ref (q 15), .ref (q 16), .ref (q 17), .int 1]))] := hD
      obtain rfl := hr_7.symm
      refine W.widen (k := 0) (n := 0) (Nat.le_refl _) (Nat.le_refl _) ?_
      refine tp_eq (y := 1) rfl ?_
      refine lv_if_ne (tgt := 39) hx hb dX6_sees_23 (by decide) (fun _ => ?_) (fun c_8 => absurd c_8 (by decide))
      refine lv_iconst (v := 0) hx hb dX6_sees_39 (by decide) ?_
      have hP9 := hP.sub (ws' := [((q 0), .inr (6, [.ref (q 1), .ref (q 2), .int on, .int hm, .int aw, .int tk, .ref (q 3), .ref (q 4), .ref (q 5), .int (nI sn), .ref (q 6), .ref (q 7), .ref (q 8), .ref (q 9), .int (nI kn), .ref (q 10), .ref (q 11), .ref (q 12), .ref (q 13), .ref (q 14), .ref (q 15), .ref (q 16), .ref (q 17), .int 1])), ((q 1), .inl (cZ, 144, .inl bk))]) [1, 0] rfl
      have hD9 := hD.sub (ws' := [((q 0), .inr (6, [.ref (q 1), .ref (q 2), .int on, .int hm, .int aw, .int tk, .ref (q 3), .ref (q 4), .ref (q 5), .int (nI sn), .ref (q 6), .ref (q 7), .ref (q 8), .ref (q 9), .int (nI kn), .ref (q 10), .ref (q 11), .ref (q 12), .ref (q 13), .ref (q 14), .ref (q 15), .ref (q 16), .ref (q 17), .int 1])), ((q 1), .inl (cZ, 144, .inl bk))]) [1, 0] (by decide) rfl
      -- leaf 1
      refine W.widen (k := 0) (n := 0) (Nat.le_refl _) (Nat.le_refl _) ?_
      exact W.zret (v := 0) (ty := .boolean) hx hb hr rfl (fun t ht hW => ⟨⟨0, (1), rfl, ⟨(by rw [f_X6_sees, if_neg c_2, if_pos c_6]), (by rw [g_th_X6_sees, if_neg c_2, if_pos c_6])⟩, by rw [ht]; exact hP9, va_K.moved hW.alike hK, hD9⟩, hS.F ht⟩) hS.2.2 dX6_sees_40
    · have hvc_6 : vp_in p2 144 := isIn_vp (N := 144) c_6
      refine lv_iconst (v := 0) hx hb dX6_sees_15 (by decide) ?_
      refine lv_goto (tgt := 20) hx hb dX6_sees_16 (by decide) ?_
      have hPc := hP.sub (ws' := [((q 0), .inr (6, [.ref (q 1), .ref (q 2), .int on, .int hm, .int aw, .int tk, .ref (q 3), .ref (q 4), .ref (q 5), .int (nI sn), .ref (q 6), .ref (q 7), .ref (q 8), .ref (q 9), .int (nI kn), .ref (q 10), .ref (q 11), .ref (q 12), .ref (q 13), .ref (q 14), .ref (q 15), .ref (q 16), .ref (q 17), .int th]))]) [0] rfl
      have hDc := hD.sub (ws' := [((q 0), .inr (6, [.ref (q 1), .ref (q 2), .int on, .int hm, .int aw, .int tk, .ref (q 3), .ref (q 4), .ref (q 5), .int (nI sn), .ref (q 6), .ref (q 7), .ref (q 8), .ref (q 9), .int (nI kn), .ref (q 10), .ref (q 11), .ref (q 12), .ref (q 13), .ref (q 14), .ref (q 15), .ref (q 16), .ref (q 17), .int th]))]) [0] (by decide) rfl
      have hFc := va_free (wc := [((q 0), .inr (6, [.ref (q 1), .ref (q 2), .int on, .int hm, .int aw, .int tk, .ref (q 3), .ref (q 4), .ref (q 5), .int (nI sn), .ref (q 6), .ref (q 7), .ref (q 8), .ref (q 9), .int (nI kn), .ref (q 10), .ref (q 11), .ref (q 12), .ref (q 13), .ref (q 14), .ref (q 15), .ref (q 16), .ref (q 17), .int th]))]) hD hS hA [0] rfl
      refine va_calli (va_runV (As := [.int 0]) (rest := []) ⟨hx, hb, hml, hown, hts⟩ (c_X6_fails l D cI cZ cJ cA H.size q on hm aw tk sn kn th 0) (cwV 1 hts gX6_sees_X6_fails rfl rfl rfl (by decide +kernel) ⟨Nat.le_of_ble_eq_true rfl, Nat.le_of_ble_eq_true rfl⟩) ⟨pcW_bl, va_recv hK hPc (ci := 6) (q0 := 0) rfl rfl, fun U hU hW => ⟨rfl, by rw [hU], by rw [hU]; exact hPc, va_K.moved hW.alike hK, hDc.weaken (fun _ _ _ _ => trivial)⟩⟩ rfl rfl hl.1 rfl (lv_room (Nat.le_of_ble_eq_true rfl)) dX6_sees_20 ⟨Nat.le_of_ble_eq_true rfl, Nat.le_of_ble_eq_true rfl⟩) hS (fun q _ h => hFc q h) hFc (fun r_9 u t H locs ht hvm hw hB hz1 hk1 hS => ?_)
      try dsimp only at hw
      obtain ⟨u0_9, rfl⟩ : ∃ z, z = u := ⟨_, rfl⟩
      obtain ⟨hr_9, hu0_9⟩ := hw
      obtain ⟨hP1, hK1, hD1⟩ := hB
      rw [ht] at hP1
      obtain ⟨hP, hD⟩ := va_join (wr := [((q 1), .inl (cZ, 144, .inl bk))]) (w1 := [((q 0), .inr (6, [.ref (q 1), .ref (q 2), .int on, .int hm, .int aw, .int tk, .ref (q 3), .ref (q 4), .ref (q 5), .int (nI sn), .ref (q 6), .ref (q 7), .ref (q 8), .ref (q 9), .int (nI kn), .ref (q 10), .ref (q 11), .ref (q 12), .ref (q 13), .ref (q 14), .ref (q 15), .ref (q 16), .ref (q 17), .int u0_9]))]) hP hD [0] [1] rfl rfl (by decide) (by decide) hk1 hFc hP1 hD1
      obtain rfl := hu0_9.symm
      have hP : va_P D vwCl [((q 1), .inl (cZ, 144, .inl bk)), ((q 0), .inr (6, [.ref (q 1), .ref (q 2), .int on, .int hm, .int aw, .int tk, .ref (q 3), .ref (q 4), .ref (q 5), .int (nI sn), .ref (q 6), .ref (q 7), .ref (q 8), .ref (q 9), .int (nI kn), .ref (q 10), .ref (q 11), .ref (q 12), .ref (q 13), .ref (q 14), .ref (q 15), .ref (q 16), .ref (q 17), .int 0]))] H := hP
      have hD : va_D A [((q 1), .inl (cZ, 144, .inl bk)), ((q 0), .inr (6, [.ref (q 1), .ref (q 2), .int on, .int hm, .int aw, .int tk, .ref (q 3), .ref (q 4), .ref (q 5), .int (nI sn), .ref (q 6), .ref (q 7), .ref (q 8), .ref (q 9), .int (nI kn), .ref (q 10), .ref (q 11), .ref (q 12), .ref (q 13), .ref (q 14), .ref (q 15), .ref (q 16), .ref (q 17), .int 0]))] := hD
      obtain rfl := hr_9.symm
      refine W.widen (k := 0) (n := 0) (Nat.le_refl _) (Nat.le_refl _) ?_
      refine tp_eq (y := 0) rfl ?_
      refine lv_if_ne (tgt := 39) hx hb dX6_sees_23 (by decide) (fun c_10 => absurd (by decide) c_10) (fun _ => ?_)
      refine lv_aload_n hx hb dX6_sees_26 rfl (lv_at hl 0 rfl) ?_
      refine lv_iload_n hx hb dX6_sees_27 rfl (lv_at hl 1 rfl) ?_
      refine lv_iload_n hx hb dX6_sees_28 rfl (lv_at hl 2 rfl) ?_
      have hPc := hP.sub (ws' := [((q 0), .inr (6, [.ref (q 1), .ref (q 2), .int on, .int hm, .int aw, .int tk, .ref (q 3), .ref (q 4), .ref (q 5), .int (nI sn), .ref (q 6), .ref (q 7), .ref (q 8), .ref (q 9), .int (nI kn), .ref (q 10), .ref (q 11), .ref (q 12), .ref (q 13), .ref (q 14), .ref (q 15), .ref (q 16), .ref (q 17), .int 0])), ((q 1), .inl (cZ, 144, .inl bk))]) [1, 0] rfl
      refine va_calli (va_runV (As := [.int p1, .int p2]) (rest := []) ⟨hx, hb, hml, hown, hts⟩ (c_X6_see l D cI cZ cJ cA H.size q bk on hm aw tk sn kn 0 p1 p2) (cwV 2 hts gX6_sees_X6_see rfl rfl rfl (by decide +kernel) ⟨Nat.le_of_ble_eq_true rfl, Nat.le_of_ble_eq_true rfl⟩) ⟨pcR_bl, va_recv hK hPc (ci := 6) (q0 := 0) rfl rfl, fun U hU hW => ⟨rfl, by rw [hU], by rw [hU]; exact hPc, va_K.moved hW.alike hK⟩⟩ rfl rfl hl.1 rfl (lv_room (Nat.le_of_ble_eq_true rfl)) dX6_sees_29 ⟨Nat.le_of_ble_eq_true rfl, Nat.le_of_ble_eq_true rfl⟩) hS (fun _ h1 h2 => absurd h1 (Nat.not_lt.mpr h2)) (rd_free hS hA) (fun r_11 u t H locs ht hvm hw hB hz1 hk1 hS => ?_)
      try dsimp only at hw
      have hr_11 := hw
      have hP := rd_P hP hk1
      obtain rfl := hr_11.symm
      refine W.widen (k := 0) (n := 0) (Nat.le_refl _) (Nat.le_refl _) ?_
      refine lv_if_eq (tgt := 39) hx hb dX6_sees_32 (by decide) (fun c_12 => ?_) (fun c_12 => ?_)
      · refine lv_iconst (v := 0) hx hb dX6_sees_39 (by decide) ?_
        have hP9 := hP.sub (ws' := [((q 0), .inr (6, [.ref (q 1), .ref (q 2), .int on, .int hm, .int aw, .int tk, .ref (q 3), .ref (q 4), .ref (q 5), .int (nI sn), .ref (q 6), .ref (q 7), .ref (q 8), .ref (q 9), .int (nI kn), .ref (q 10), .ref (q 11), .ref (q 12), .ref (q 13), .ref (q 14), .ref (q 15), .ref (q 16), .ref (q 17), .int 0])), ((q 1), .inl (cZ, 144, .inl bk))]) [1, 0] rfl
        have hD9 := hD.sub (ws' := [((q 0), .inr (6, [.ref (q 1), .ref (q 2), .int on, .int hm, .int aw, .int tk, .ref (q 3), .ref (q 4), .ref (q 5), .int (nI sn), .ref (q 6), .ref (q 7), .ref (q 8), .ref (q 9), .int (nI kn), .ref (q 10), .ref (q 11), .ref (q 12), .ref (q 13), .ref (q 14), .ref (q 15), .ref (q 16), .ref (q 17), .int 0])), ((q 1), .inl (cZ, 144, .inl bk))]) [1, 0] (by decide) rfl
        -- leaf 2
        refine W.widen (k := 0) (n := 0) (Nat.le_refl _) (Nat.le_refl _) ?_
        exact W.zret (v := 0) (ty := .boolean) hx hb hr rfl (fun t ht hW => ⟨⟨0, (0), rfl, ⟨(by rw [f_X6_sees, if_neg c_2, if_neg c_6, if_pos c_12]), (by rw [g_th_X6_sees, if_neg c_2, if_neg c_6])⟩, by rw [ht]; exact hP9, va_K.moved hW.alike hK, hD9⟩, hS.F ht⟩) hS.2.2 dX6_sees_40
      · refine lv_iconst (v := 1) hx hb dX6_sees_35 (by decide) ?_
        refine lv_goto (tgt := 40) hx hb dX6_sees_36 (by decide) ?_
        have hP9 := hP.sub (ws' := [((q 0), .inr (6, [.ref (q 1), .ref (q 2), .int on, .int hm, .int aw, .int tk, .ref (q 3), .ref (q 4), .ref (q 5), .int (nI sn), .ref (q 6), .ref (q 7), .ref (q 8), .ref (q 9), .int (nI kn), .ref (q 10), .ref (q 11), .ref (q 12), .ref (q 13), .ref (q 14), .ref (q 15), .ref (q 16), .ref (q 17), .int 0])), ((q 1), .inl (cZ, 144, .inl bk))]) [1, 0] rfl
        have hD9 := hD.sub (ws' := [((q 0), .inr (6, [.ref (q 1), .ref (q 2), .int on, .int hm, .int aw, .int tk, .ref (q 3), .ref (q 4), .ref (q 5), .int (nI sn), .ref (q 6), .ref (q 7), .ref (q 8), .ref (q 9), .int (nI kn), .ref (q 10), .ref (q 11), .ref (q 12), .ref (q 13), .ref (q 14), .ref (q 15), .ref (q 16), .ref (q 17), .int 0])), ((q 1), .inl (cZ, 144, .inl bk))]) [1, 0] (by decide) rfl
        -- leaf 3
        refine W.widen (k := 0) (n := 0) (Nat.le_refl _) (Nat.le_refl _) ?_
        exact W.zret (v := 1) (ty := .boolean) hx hb hr rfl (fun t ht hW => ⟨⟨1, (0), rfl, ⟨(by rw [f_X6_sees, if_neg c_2, if_neg c_6, if_neg c_12]), (by rw [g_th_X6_sees, if_neg c_2, if_neg c_6])⟩, by rw [ht]; exact hP9, va_K.moved hW.alike hK, hD9⟩, hS.F ht⟩) hS.2.2 dX6_sees_40

noncomputable def vwN (bk : Nat → Int32) (p1 : Int32) : Nat → Int32
  | 0 => 0
  | n + 1 => if seeN bk p1 (nI n) 144 = 0 then vwN bk p1 n + 0 else vwN bk p1 n + 1
termination_by n => n
noncomputable def f_X6_view (bk : Nat → Int32) (on : Int32) (hm : Int32) (aw : Int32) (tk : Int32) (sn : Nat) (kn : Nat) (th : Int32) (p1 : Int32) : Int32 := if (f_X6_isIn p1 0 143) = 0 then 0 else (vwN bk p1 144)
noncomputable def g_th_X6_view (bk : Nat → Int32) (on : Int32) (hm : Int32) (aw : Int32) (tk : Int32) (sn : Nat) (kn : Nat) (th : Int32) (p1 : Int32) : Int32 := if (f_X6_isIn p1 0 143) = 0 then 1 else 0
set_option maxHeartbeats 4000000 in
set_option maxRecDepth 100000 in
theorem c_X6_view (l : Launch) (D : va_G) (cI cZ cJ cA : ClassId) (sz : Nat) (q : Nat → Nat) (bk : Nat → Int32) (on : Int32) (hm : Int32) (aw : Int32) (tk : Int32) (sn : Nat) (kn : Nat) (th : Int32) (p1 : Int32) : Met l yX6_view wsX6_view ({ frames := 4, cells := 0, slots := 0, locals := 94 } : Room) (va_Pc [.ref (q 0), .int p1] (pcW D (tyL cI cZ cJ cA) [((q 0), .inr (6, [.ref (q 1), .ref (q 2), .int on, .int hm, .int aw, .int tk, .ref (q 3), .ref (q 4), .ref (q 5), .int (nI sn), .ref (q 6), .ref (q 7), .ref (q 8), .ref (q 9), .int (nI kn), .ref (q 10), .ref (q 11), .ref (q 12), .ref (q 13), .ref (q 14), .ref (q 15), .ref (q 16), .ref (q 17), .int th])), ((q 1), .inl (cZ, 144, .inl bk))] sz)) (va_Qi (fun (r : Int32) (u : (Int32)) => r = f_X6_view bk on hm aw tk sn kn th p1 ∧ u = g_th_X6_view bk on hm aw tk sn kn th p1) (fun u t => bcW D (tyL cI cZ cJ cA) (va_A [((q 0), .inr (6, [.ref (q 1), .ref (q 2), .int on, .int hm, .int aw, .int tk, .ref (q 3), .ref (q 4), .ref (q 5), .int (nI sn), .ref (q 6), .ref (q 7), .ref (q 8), .ref (q 9), .int (nI kn), .ref (q 10), .ref (q 11), .ref (q 12), .ref (q 13), .ref (q 14), .ref (q 15), .ref (q 16), .ref (q 17), .int th])), ((q 1), .inl (cZ, 144, .inl bk))] sz) [((q 0), .inr (6, [.ref (q 1), .ref (q 2), .int on, .int hm, .int aw, .int tk, .ref (q 3), .ref (q 4), .ref (q 5), .int (nI sn), .ref (q 6), .ref (q 7), .ref (q 8), .ref (q 9), .int (nI kn), .ref (q 10), .ref (q 11), .ref (q 12), .ref (q 13), .ref (q 14), .ref (q 15), .ref (q 16), .ref (q 17), .int u])), ((q 1), .inl (cZ, 144, .inl bk))] t) (va_A [((q 0), .inr (6, [.ref (q 1), .ref (q 2), .int on, .int hm, .int aw, .int tk, .ref (q 3), .ref (q 4), .ref (q 5), .int (nI sn), .ref (q 6), .ref (q 7), .ref (q 8), .ref (q 9), .int (nI kn), .ref (q 10), .ref (q 11), .ref (q 12), .ref (q 13), .ref (q 14), .ref (q 15), .ref (q 16), .ref (q 17), .int th])), ((q 1), .inl (cZ, 144, .inl bk))] sz)) 0 0 (va_A [((q 0), .inr (6, [.ref (q 1), .ref (q 2), .int on, .int hm, .int aw, .int tk, .ref (q 3), .ref (q 4), .ref (q 5), .int (nI sn), .ref (q 6), .ref (q 7), .ref (q 8), .ref (q 9), .int (nI kn), .ref (q 10), .ref (q 11), .ref (q 12), .ref (q 13), .ref (q 14), .ref (q 15), .ref (q 16), .ref (q 17), .int th])), ((q 1), .inl (cZ, 144, .inl bk))] sz) := by
  refine Met.ofW (cc := cX6_view) (maxL := 4) (ret := (some .int)) (by decide) rfl ?_
  intro p e s m args below meth c s₁ B hml hv
  obtain ⟨rfl, hsz, hP, hK, hD0⟩ := hv
  have hx := B.exec
  have hb := B.bytes
  have hr := B.returns
  have hts := atoms_spec (ws := wsX6_view) B.pre
  have hown : s.vm.findClass RX6 = some m.cls := findClass_of_methodNamed B.named
  have hlocks := B.notSynchronized
  subst hsz
  have hD := hD0.self (sz := s.heap.size)
  generalize hAe : va_A [((q 0), .inr (6, [.ref (q 1), .ref (q 2), .int on, .int hm, .int aw, .int tk, .ref (q 3), .ref (q 4), .ref (q 5), .int (nI sn), .ref (q 6), .ref (q 7), .ref (q 8), .ref (q 9), .int (nI kn), .ref (q 10), .ref (q 11), .ref (q 12), .ref (q 13), .ref (q 14), .ref (q 15), .ref (q 16), .ref (q 17), .int th])), ((q 1), .inl (cZ, 144, .inl bk))] s.heap.size = A at hD ⊢
  have hA : ∀ q : Nat, s.heap.size ≤ q → A q := fun q h => by rw [← hAe]; exact Or.inr h
  have hAR : ∀ q : Nat, s.heap.size ≤ q → (fun q : Nat => s.heap.size ≤ q) q := fun _ h => h
  have hS : va_S A s.heap s.heap [] := va_S.rf
  have hP : va_P D vwCl [((q 0), .inr (6, [.ref (q 1), .ref (q 2), .int on, .int hm, .int aw, .int tk, .ref (q 3), .ref (q 4), .ref (q 5), .int (nI sn), .ref (q 6), .ref (q 7), .ref (q 8), .ref (q 9), .int (nI kn), .ref (q 10), .ref (q 11), .ref (q 12), .ref (q 13), .ref (q 14), .ref (q 15), .ref (q 16), .ref (q 17), .int th])), ((q 1), .inl (cZ, 144, .inl bk))] s.heap := hP
  have hl := lv_entry ([.ref (q 0), .int p1]) (n := 4) (Nat.le_of_ble_eq_true rfl)
  rw [lg_entry_eq]
  generalize (lg_sl ([.ref (q 0), .int p1]) ++ List.replicate (4 - (lg_sl ([.ref (q 0), .int p1])).length) Slot.unset).toArray = ls at hl ⊢
  have hl : lv_has ls 4 [(0, .ref (q 0)), (1, .int p1)] := hl
  refine lv_aload_n hx hb dX6_view_0 rfl (lv_at hl 0 rfl) ?_
  refine lv_iload_n hx hb dX6_view_1 rfl (lv_at hl 1 rfl) ?_
  have hPc := hP.sub (ws' := []) [] rfl
  refine va_calli (va_runS (As := [.int p1]) (rest := [.ref (q 0)]) ⟨hx, hb, hml, hown, hts⟩ (c_X6_isCell l D cI cZ cJ cA s.heap.size p1) (va_cwS 1 hts gX6_view_X6_isCell rfl rfl rfl (by decide +kernel) ⟨Nat.le_of_ble_eq_true rfl, Nat.le_of_ble_eq_true rfl⟩) ⟨pcR_bl, fun U hU hW => ⟨rfl, by rw [hU], by rw [hU]; exact hPc, va_K.moved hW.alike hK⟩⟩ rfl rfl hl.1 rfl (lv_room (Nat.le_of_ble_eq_true rfl)) dX6_view_2 ⟨Nat.le_of_ble_eq_true rfl, Nat.le_of_ble_eq_true rfl⟩) hS (fun _ h1 h2 => absurd h1 (Nat.not_lt.mpr h2)) (rd_free hS hA) (fun r_1 u t H locs ht hvm hw hB hz1 hk1 hS => ?_)
  try dsimp only at hw
  have hr_1 := hw
  have hP := rd_P hP hk1
  obtain rfl := hr_1.symm
  refine W.widen (k := 0) (n := 0) (Nat.le_refl _) (Nat.le_refl _) ?_
  refine lv_if_eq (tgt := 12) hx hb dX6_view_5 (by decide) (fun c_2 => ?_) (fun c_2 => ?_)
  · refine lv_iconst (v := 1) hx hb dX6_view_12 (by decide) ?_
    have hPc := hP.sub (ws' := [((q 0), .inr (6, [.ref (q 1), .ref (q 2), .int on, .int hm, .int aw, .int tk, .ref (q 3), .ref (q 4), .ref (q 5), .int (nI sn), .ref (q 6), .ref (q 7), .ref (q 8), .ref (q 9), .int (nI kn), .ref (q 10), .ref (q 11), .ref (q 12), .ref (q 13), .ref (q 14), .ref (q 15), .ref (q 16), .ref (q 17), .int th]))]) [0] rfl
    have hDc := hD.sub (ws' := [((q 0), .inr (6, [.ref (q 1), .ref (q 2), .int on, .int hm, .int aw, .int tk, .ref (q 3), .ref (q 4), .ref (q 5), .int (nI sn), .ref (q 6), .ref (q 7), .ref (q 8), .ref (q 9), .int (nI kn), .ref (q 10), .ref (q 11), .ref (q 12), .ref (q 13), .ref (q 14), .ref (q 15), .ref (q 16), .ref (q 17), .int th]))]) [0] (by decide) rfl
    have hFc := va_free (wc := [((q 0), .inr (6, [.ref (q 1), .ref (q 2), .int on, .int hm, .int aw, .int tk, .ref (q 3), .ref (q 4), .ref (q 5), .int (nI sn), .ref (q 6), .ref (q 7), .ref (q 8), .ref (q 9), .int (nI kn), .ref (q 10), .ref (q 11), .ref (q 12), .ref (q 13), .ref (q 14), .ref (q 15), .ref (q 16), .ref (q 17), .int th]))]) hD hS hA [0] rfl
    refine va_calli (va_runV (As := [.int 1]) (rest := []) ⟨hx, hb, hml, hown, hts⟩ (c_X6_fails l D cI cZ cJ cA H.size q on hm aw tk sn kn th 1) (cwV 1 hts gX6_view_X6_fails rfl rfl rfl (by decide +kernel) ⟨Nat.le_of_ble_eq_true rfl, Nat.le_of_ble_eq_true rfl⟩) ⟨pcW_bl, va_recv hK hPc (ci := 6) (q0 := 0) rfl rfl, fun U hU hW => ⟨rfl, by rw [hU], by rw [hU]; exact hPc, va_K.moved hW.alike hK, hDc.weaken (fun _ _ _ _ => trivial)⟩⟩ rfl rfl hl.1 rfl (lv_room (Nat.le_of_ble_eq_true rfl)) dX6_view_13 ⟨Nat.le_of_ble_eq_true rfl, Nat.le_of_ble_eq_true rfl⟩) hS (fun q _ h => hFc q h) hFc (fun r_3 u t H locs ht hvm hw hB hz1 hk1 hS => ?_)
    try dsimp only at hw
    obtain ⟨u0_3, rfl⟩ : ∃ z, z = u := ⟨_, rfl⟩
    obtain ⟨hr_3, hu0_3⟩ := hw
    obtain ⟨hP1, hK1, hD1⟩ := hB
    rw [ht] at hP1
    obtain ⟨hP, hD⟩ := va_join (wr := [((q 1), .inl (cZ, 144, .inl bk))]) (w1 := [((q 0), .inr (6, [.ref (q 1), .ref (q 2), .int on, .int hm, .int aw, .int tk, .ref (q 3), .ref (q 4), .ref (q 5), .int (nI sn), .ref (q 6), .ref (q 7), .ref (q 8), .ref (q 9), .int (nI kn), .ref (q 10), .ref (q 11), .ref (q 12), .ref (q 13), .ref (q 14), .ref (q 15), .ref (q 16), .ref (q 17), .int u0_3]))]) hP hD [0] [1] rfl rfl (by decide) (by decide) hk1 hFc hP1 hD1
    obtain rfl := hu0_3.symm
    have hP : va_P D vwCl [((q 1), .inl (cZ, 144, .inl bk)), ((q 0), .inr (6, [.ref (q 1), .ref (q 2), .int on, .int hm, .int aw, .int tk, .ref (q 3), .ref (q 4), .ref (q 5), .int (nI sn), .ref (q 6), .ref (q 7), .ref (q 8), .ref (q 9), .int (nI kn), .ref (q 10), .ref (q 11), .ref (q 12), .ref (q 13), .ref (q 14), .ref (q 15), .ref (q 16), .ref (q 17), .int 1]))] H := hP
    have hD : va_D A [((q 1), .inl (cZ, 144, .inl bk)), ((q 0), .inr (6, [.ref (q 1), .ref (q 2), .int on, .int hm, .int aw, .int tk, .ref (q 3), .ref (q 4), .ref (q 5), .int (nI sn), .ref (q 6), .ref (q 7), .ref (q 8), .ref (q 9), .int (nI kn), .ref (q 10), .ref (q 11), .ref (q 12), .ref (q 13), .ref (q 14), .ref (q 15), .ref (q 16), .ref (q 17), .int 1]))] := hD
    obtain rfl := hr_3.symm
    refine W.widen (k := 0) (n := 0) (Nat.le_refl _) (Nat.le_refl _) ?_
    refine tp_eq (y := 1) rfl ?_
    refine lv_if_eq (tgt := 21) hx hb dX6_view_16 (by decide) (fun c_4 => absurd c_4 (by decide)) (fun _ => ?_)
    refine lv_iconst (v := 0) hx hb dX6_view_19 (by decide) ?_
    have hP9 := hP.sub (ws' := [((q 0), .inr (6, [.ref (q 1), .ref (q 2), .int on, .int hm, .int aw, .int tk, .ref (q 3), .ref (q 4), .ref (q 5), .int (nI sn), .ref (q 6), .ref (q 7), .ref (q 8), .ref (q 9), .int (nI kn), .ref (q 10), .ref (q 11), .ref (q 12), .ref (q 13), .ref (q 14), .ref (q 15), .ref (q 16), .ref (q 17), .int 1])), ((q 1), .inl (cZ, 144, .inl bk))]) [1, 0] rfl
    have hD9 := hD.sub (ws' := [((q 0), .inr (6, [.ref (q 1), .ref (q 2), .int on, .int hm, .int aw, .int tk, .ref (q 3), .ref (q 4), .ref (q 5), .int (nI sn), .ref (q 6), .ref (q 7), .ref (q 8), .ref (q 9), .int (nI kn), .ref (q 10), .ref (q 11), .ref (q 12), .ref (q 13), .ref (q 14), .ref (q 15), .ref (q 16), .ref (q 17), .int 1])), ((q 1), .inl (cZ, 144, .inl bk))]) [1, 0] (by decide) rfl
    -- leaf 0
    refine W.widen (k := 0) (n := 0) (Nat.le_refl _) (Nat.le_refl _) ?_
    exact W.iret (v := 0) hx hb hr (fun t ht hW => ⟨⟨0, (1), rfl, ⟨(by rw [f_X6_view, if_pos c_2]), (by rw [g_th_X6_view, if_pos c_2])⟩, by rw [ht]; exact hP9, va_K.moved hW.alike hK, hD9⟩, hS.F ht⟩) hS.2.2 dX6_view_20
  · have hvc_2 : vp_in p1 144 := isIn_vp (N := 144) c_2
    refine lv_iconst (v := 0) hx hb dX6_view_8 (by decide) ?_
    refine lv_goto (tgt := 13) hx hb dX6_view_9 (by decide) ?_
    have hPc := hP.sub (ws' := [((q 0), .inr (6, [.ref (q 1), .ref (q 2), .int on, .int hm, .int aw, .int tk, .ref (q 3), .ref (q 4), .ref (q 5), .int (nI sn), .ref (q 6), .ref (q 7), .ref (q 8), .ref (q 9), .int (nI kn), .ref (q 10), .ref (q 11), .ref (q 12), .ref (q 13), .ref (q 14), .ref (q 15), .ref (q 16), .ref (q 17), .int th]))]) [0] rfl
    have hDc := hD.sub (ws' := [((q 0), .inr (6, [.ref (q 1), .ref (q 2), .int on, .int hm, .int aw, .int tk, .ref (q 3), .ref (q 4), .ref (q 5), .int (nI sn), .ref (q 6), .ref (q 7), .ref (q 8), .ref (q 9), .int (nI kn), .ref (q 10), .ref (q 11), .ref (q 12), .ref (q 13), .ref (q 14), .ref (q 15), .ref (q 16), .ref (q 17), .int th]))]) [0] (by decide) rfl
    have hFc := va_free (wc := [((q 0), .inr (6, [.ref (q 1), .ref (q 2), .int on, .int hm, .int aw, .int tk, .ref (q 3), .ref (q 4), .ref (q 5), .int (nI sn), .ref (q 6), .ref (q 7), .ref (q 8), .ref (q 9), .int (nI kn), .ref (q 10), .ref (q 11), .ref (q 12), .ref (q 13), .ref (q 14), .ref (q 15), .ref (q 16), .ref (q 17), .int th]))]) hD hS hA [0] rfl
    refine va_calli (va_runV (As := [.int 0]) (rest := []) ⟨hx, hb, hml, hown, hts⟩ (c_X6_fails l D cI cZ cJ cA H.size q on hm aw tk sn kn th 0) (cwV 1 hts gX6_view_X6_fails rfl rfl rfl (by decide +kernel) ⟨Nat.le_of_ble_eq_true rfl, Nat.le_of_ble_eq_true rfl⟩) ⟨pcW_bl, va_recv hK hPc (ci := 6) (q0 := 0) rfl rfl, fun U hU hW => ⟨rfl, by rw [hU], by rw [hU]; exact hPc, va_K.moved hW.alike hK, hDc.weaken (fun _ _ _ _ => trivial)⟩⟩ rfl rfl hl.1 rfl (lv_room (Nat.le_of_ble_eq_true rfl)) dX6_view_13 ⟨Nat.le_of_ble_eq_true rfl, Nat.le_of_ble_eq_true rfl⟩) hS (fun q _ h => hFc q h) hFc (fun r_5 u t H locs ht hvm hw hB hz1 hk1 hS => ?_)
    try dsimp only at hw
    obtain ⟨u0_5, rfl⟩ : ∃ z, z = u := ⟨_, rfl⟩
    obtain ⟨hr_5, hu0_5⟩ := hw
    obtain ⟨hP1, hK1, hD1⟩ := hB
    rw [ht] at hP1
    obtain ⟨hP, hD⟩ := va_join (wr := [((q 1), .inl (cZ, 144, .inl bk))]) (w1 := [((q 0), .inr (6, [.ref (q 1), .ref (q 2), .int on, .int hm, .int aw, .int tk, .ref (q 3), .ref (q 4), .ref (q 5), .int (nI sn), .ref (q 6), .ref (q 7), .ref (q 8), .ref (q 9), .int (nI kn), .ref (q 10), .ref (q 11), .ref (q 12), .ref (q 13), .ref (q 14), .ref (q 15), .ref (q 16), .ref (q 17), .int u0_5]))]) hP hD [0] [1] rfl rfl (by decide) (by decide) hk1 hFc hP1 hD1
    obtain rfl := hu0_5.symm
    have hP : va_P D vwCl [((q 1), .inl (cZ, 144, .inl bk)), ((q 0), .inr (6, [.ref (q 1), .ref (q 2), .int on, .int hm, .int aw, .int tk, .ref (q 3), .ref (q 4), .ref (q 5), .int (nI sn), .ref (q 6), .ref (q 7), .ref (q 8), .ref (q 9), .int (nI kn), .ref (q 10), .ref (q 11), .ref (q 12), .ref (q 13), .ref (q 14), .ref (q 15), .ref (q 16), .ref (q 17), .int 0]))] H := hP
    have hD : va_D A [((q 1), .inl (cZ, 144, .inl bk)), ((q 0), .inr (6, [.ref (q 1), .ref (q 2), .int on, .int hm, .int aw, .int tk, .ref (q 3), .ref (q 4), .ref (q 5), .int (nI sn), .ref (q 6), .ref (q 7), .ref (q 8), .ref (q 9), .int (nI kn), .ref (q 10), .ref (q 11), .ref (q 12), .ref (q 13), .ref (q 14), .ref (q 15), .ref (q 16), .ref (q 17), .int 0]))] := hD
    obtain rfl := hr_5.symm
    refine W.widen (k := 0) (n := 0) (Nat.le_refl _) (Nat.le_refl _) ?_
    refine tp_eq (y := 0) rfl ?_
    refine lv_if_eq (tgt := 21) hx hb dX6_view_16 (by decide) (fun _ => ?_) (fun c_6 => absurd (by decide) c_6)
    refine lv_iconst (v := 0) hx hb dX6_view_21 (by decide) ?_
    refine lv_istore_n (lv' := [(2, .int 0), (0, .ref (q 0)), (1, .int p1)]) hx hb dX6_view_22 rfl hl (by decide) rfl (fun ls hl => ?_)
    refine lv_iconst (v := 0) hx hb dX6_view_23 (by decide) ?_
    refine lv_istore_n (lv' := [(3, .int 0), (2, .int 0), (0, .ref (q 0)), (1, .int p1)]) hx hb dX6_view_24 rfl hl (by decide) rfl (fun ls hl => ?_)
    refine lpW (σ := (Nat) × (Int32)) (I := fun x H locs ls => va_P D vwCl [((q 1), .inl (cZ, 144, .inl bk)), ((q 0), .inr (6, [.ref (q 1), .ref (q 2), .int on, .int hm, .int aw, .int tk, .ref (q 3), .ref (q 4), .ref (q 5), .int (nI sn), .ref (q 6), .ref (q 7), .ref (q 8), .ref (q 9), .int (nI kn), .ref (q 10), .ref (q 11), .ref (q 12), .ref (q 13), .ref (q 14), .ref (q 15), .ref (q 16), .ref (q 17), .int 0]))] H ∧ va_D A [((q 1), .inl (cZ, 144, .inl bk)), ((q 0), .inr (6, [.ref (q 1), .ref (q 2), .int on, .int hm, .int aw, .int tk, .ref (q 3), .ref (q 4), .ref (q 5), .int (nI sn), .ref (q 6), .ref (q 7), .ref (q 8), .ref (q 9), .int (nI kn), .ref (q 10), .ref (q 11), .ref (q 12), .ref (q 13), .ref (q 14), .ref (q 15), .ref (q 16), .ref (q 17), .int 0]))] ∧ va_S A s.heap H locs ∧ lv_has ls 4 [(0, .ref (q 0)), (1, .int p1), (2, .int x.2), (3, .int (nI x.1))] ∧ (x.1 ≤ 144) ∧ (x.2 = vwN bk p1 x.1)) (μ := fun x => 144 - x.1) ?_ (0, 0) ⟨hP, hD, hS, lv_sub hl [2, 3, 1, 0] rfl, (Nat.zero_le _), (by simp only [vwN])⟩
    intro x H locs ls hI ih
    obtain ⟨i, c2⟩ := x
    obtain ⟨hP, hD, hS, hl, hq_hi1, hq_hc⟩ := hI
    have ih_25 := ih
    have hl : lv_has ls 4 [(0, .ref (q 0)), (1, .int p1), (2, .int c2), (3, .int (nI i))] := hl
    have hP : va_P D vwCl [((q 1), .inl (cZ, 144, .inl bk)), ((q 0), .inr (6, [.ref (q 1), .ref (q 2), .int on, .int hm, .int aw, .int tk, .ref (q 3), .ref (q 4), .ref (q 5), .int (nI sn), .ref (q 6), .ref (q 7), .ref (q 8), .ref (q 9), .int (nI kn), .ref (q 10), .ref (q 11), .ref (q 12), .ref (q 13), .ref (q 14), .ref (q 15), .ref (q 16), .ref (q 17), .int 0]))] H := hP
    have hD : va_D A [((q 1), .inl (cZ, 144, .inl bk)), ((q 0), .inr (6, [.ref (q 1), .ref (q 2), .int on, .int hm, .int aw, .int tk, .ref (q 3), .ref (q 4), .ref (q 5), .int (nI sn), .ref (q 6), .ref (q 7), .ref (q 8), .ref (q 9), .int (nI kn), .ref (q 10), .ref (q 11), .ref (q 12), .ref (q 13), .ref (q 14), .ref (q 15), .ref (q 16), .ref (q 17), .int 0]))] := hD
    have hi1 : i ≤ 144 := hq_hi1
    have hc : c2 = vwN bk p1 i := hq_hc
    clear hq_hi1 hq_hc
    refine lv_iload_n hx hb dX6_view_25 rfl (lv_at hl 3 rfl) ?_
    refine lv_sipush (v := 144) hx hb dX6_view_26 (by decide) ?_
    refine lv_icmp_ge (tgt := 55) hx hb dX6_view_29 (by decide) (fun c_7 => ?_) (fun c_7 => ?_)
    · have he_29 : i = 144 := bd_eq (N := 144) (by decide) hi1 c_7
      rw [he_29] at hc
      obtain rfl := hc.symm
      refine lv_iload_n hx hb dX6_view_55 rfl (lv_at hl 2 rfl) ?_
      have hP9 := hP.sub (ws' := [((q 0), .inr (6, [.ref (q 1), .ref (q 2), .int on, .int hm, .int aw, .int tk, .ref (q 3), .ref (q 4), .ref (q 5), .int (nI sn), .ref (q 6), .ref (q 7), .ref (q 8), .ref (q 9), .int (nI kn), .ref (q 10), .ref (q 11), .ref (q 12), .ref (q 13), .ref (q 14), .ref (q 15), .ref (q 16), .ref (q 17), .int 0])), ((q 1), .inl (cZ, 144, .inl bk))]) [1, 0] rfl
      have hD9 := hD.sub (ws' := [((q 0), .inr (6, [.ref (q 1), .ref (q 2), .int on, .int hm, .int aw, .int tk, .ref (q 3), .ref (q 4), .ref (q 5), .int (nI sn), .ref (q 6), .ref (q 7), .ref (q 8), .ref (q 9), .int (nI kn), .ref (q 10), .ref (q 11), .ref (q 12), .ref (q 13), .ref (q 14), .ref (q 15), .ref (q 16), .ref (q 17), .int 0])), ((q 1), .inl (cZ, 144, .inl bk))]) [1, 0] (by decide) rfl
      -- leaf 1
      refine W.widen (k := 0) (n := 0) (Nat.le_refl _) (Nat.le_refl _) ?_
      exact W.iret (v := (vwN bk p1 144)) hx hb hr (fun t ht hW => ⟨⟨(vwN bk p1 144), (0), rfl, ⟨(by rw [f_X6_view, if_neg c_2]), (by rw [g_th_X6_view, if_neg c_2])⟩, by rw [ht]; exact hP9, va_K.moved hW.alike hK, hD9⟩, hS.F ht⟩) hS.2.2 dX6_view_56
    · have hlt_29 : i < 144 := bd_lt (N := 144) (by decide) hi1 c_7
      refine lv_iload_n hx hb dX6_view_32 rfl (lv_at hl 2 rfl) ?_
      refine lv_aload_n hx hb dX6_view_33 rfl (lv_at hl 0 rfl) ?_
      refine lv_iload_n hx hb dX6_view_34 rfl (lv_at hl 1 rfl) ?_
      refine lv_iload_n hx hb dX6_view_35 rfl (lv_at hl 3 rfl) ?_
      have hPc := hP.sub (ws' := [((q 0), .inr (6, [.ref (q 1), .ref (q 2), .int on, .int hm, .int aw, .int tk, .ref (q 3), .ref (q 4), .ref (q 5), .int (nI sn), .ref (q 6), .ref (q 7), .ref (q 8), .ref (q 9), .int (nI kn), .ref (q 10), .ref (q 11), .ref (q 12), .ref (q 13), .ref (q 14), .ref (q 15), .ref (q 16), .ref (q 17), .int 0])), ((q 1), .inl (cZ, 144, .inl bk))]) [1, 0] rfl
      refine va_calli (va_runV (As := [.int p1, .int (nI i)]) (rest := [.int c2]) ⟨hx, hb, hml, hown, hts⟩ (c_X6_see l D cI cZ cJ cA H.size q bk on hm aw tk sn kn 0 p1 (nI i)) (cwV 2 hts gX6_view_X6_see rfl rfl rfl (by decide +kernel) ⟨Nat.le_of_ble_eq_true rfl, Nat.le_of_ble_eq_true rfl⟩) ⟨pcR_bl, va_recv hK hPc (ci := 6) (q0 := 0) rfl rfl, fun U hU hW => ⟨rfl, by rw [hU], by rw [hU]; exact hPc, va_K.moved hW.alike hK⟩⟩ rfl rfl hl.1 rfl (lv_room (Nat.le_of_ble_eq_true rfl)) dX6_view_36 ⟨Nat.le_of_ble_eq_true rfl, Nat.le_of_ble_eq_true rfl⟩) hS (fun _ h1 h2 => absurd h1 (Nat.not_lt.mpr h2)) (rd_free hS hA) (fun r_8 u t H locs ht hvm hw hB hz1 hk1 hS => ?_)
      try dsimp only at hw
      have hr_8 := hw
      have hP := rd_P hP hk1
      obtain rfl := hr_8.symm
      refine W.widen (k := 0) (n := 0) (Nat.le_refl _) (Nat.le_refl _) ?_
      refine lv_if_eq (tgt := 46) hx hb dX6_view_39 (by decide) (fun c_9 => ?_) (fun c_9 => ?_)
      · refine lv_iconst (v := 0) hx hb dX6_view_46 (by decide) ?_
        refine lv_iadd hx hb dX6_view_47 ?_
        refine lv_istore_n (lv' := [(2, .int (c2 + 0)), (0, .ref (q 0)), (1, .int p1), (3, .int (nI i))]) hx hb dX6_view_48 rfl hl (by decide) rfl (fun ls hl => ?_)
        refine lv_iinc (v := nI (i + 1)) (lv' := [(3, .int (nI (i + 1))), (2, .int (c2 + 0)), (0, .ref (q 0)), (1, .int p1)]) hx hb dX6_view_49 hl (k := 3) rfl (nI_1 i) (by decide) rfl (fun ls hl => ?_)
        refine lv_goto (tgt := 25) hx hb dX6_view_52 (by decide) ?_
        refine W.widen (k := 0) (n := 0) (Nat.le_refl _) (Nat.le_refl _) ?_
        exact ih_25 ((i + 1), c2 + 0) _ _ _ (by first | omega | (dsimp only; omega)) ⟨hP, hD, hS, lv_sub hl [2, 3, 1, 0] rfl, (by omega), (by rw [vwN, if_pos c_9, ← hc])⟩
      · refine lv_iconst (v := 1) hx hb dX6_view_42 (by decide) ?_
        refine lv_goto (tgt := 47) hx hb dX6_view_43 (by decide) ?_
        refine lv_iadd hx hb dX6_view_47 ?_
        refine lv_istore_n (lv' := [(2, .int (c2 + 1)), (0, .ref (q 0)), (1, .int p1), (3, .int (nI i))]) hx hb dX6_view_48 rfl hl (by decide) rfl (fun ls hl => ?_)
        refine lv_iinc (v := nI (i + 1)) (lv' := [(3, .int (nI (i + 1))), (2, .int (c2 + 1)), (0, .ref (q 0)), (1, .int p1)]) hx hb dX6_view_49 hl (k := 3) rfl (nI_1 i) (by decide) rfl (fun ls hl => ?_)
        refine lv_goto (tgt := 25) hx hb dX6_view_52 (by decide) ?_
        refine W.widen (k := 0) (n := 0) (Nat.le_refl _) (Nat.le_refl _) ?_
        exact ih_25 ((i + 1), c2 + 1) _ _ _ (by first | omega | (dsimp only; omega)) ⟨hP, hD, hS, lv_sub hl [2, 3, 1, 0] rfl, (by omega), (by rw [vwN, if_neg c_9, ← hc])⟩

noncomputable def f_X6_setReferee (rf : Nat → Int32) (on : Int32) (hm : Int32) (aw : Int32) (tk : Int32) (sn : Nat) (kn : Nat) (th : Int32) (p1 : Int32) (p2 : Int32) : Int32 := if (f_X6_isIn p1 0 1) = 0 then 0 else (if (f_X6_isIn p2 0 143) = 0 then 0 else rf p1.toNatClampNeg)
noncomputable def g_rf_X6_setReferee (rf : Nat → Int32) (on : Int32) (hm : Int32) (aw : Int32) (tk : Int32) (sn : Nat) (kn : Nat) (th : Int32) (p1 : Int32) (p2 : Int32) : Nat → Int32 := if (f_X6_isIn p1 0 1) = 0 then rf else (if (f_X6_isIn p2 0 143) = 0 then rf else upd rf p1.toNatClampNeg p2)
noncomputable def g_th_X6_setReferee (rf : Nat → Int32) (on : Int32) (hm : Int32) (aw : Int32) (tk : Int32) (sn : Nat) (kn : Nat) (th : Int32) (p1 : Int32) (p2 : Int32) : Int32 := if (f_X6_isIn p1 0 1) = 0 then 1 else (if (f_X6_isIn p2 0 143) = 0 then 1 else 0)
set_option maxHeartbeats 4000000 in
set_option maxRecDepth 100000 in
theorem c_X6_setReferee (l : Launch) (D : va_G) (cI cZ cJ cA : ClassId) (sz : Nat) (q : Nat → Nat) (rf : Nat → Int32) (on : Int32) (hm : Int32) (aw : Int32) (tk : Int32) (sn : Nat) (kn : Nat) (th : Int32) (p1 : Int32) (p2 : Int32) : Met l yX6_setReferee wsX6_setReferee ({ frames := 2, cells := 0, slots := 0, locals := 42 } : Room) (va_Pc [.ref (q 0), .int p1, .int p2] (pcW D (tyL cI cZ cJ cA) [((q 0), .inr (6, [.ref (q 1), .ref (q 2), .int on, .int hm, .int aw, .int tk, .ref (q 3), .ref (q 4), .ref (q 5), .int (nI sn), .ref (q 6), .ref (q 7), .ref (q 8), .ref (q 9), .int (nI kn), .ref (q 10), .ref (q 11), .ref (q 12), .ref (q 13), .ref (q 14), .ref (q 15), .ref (q 16), .ref (q 17), .int th])), ((q 2), .inl (cI, 2, .inl rf))] sz)) (va_Qi (fun (r : Int32) (u : (Nat → Int32) × (Int32)) => r = f_X6_setReferee rf on hm aw tk sn kn th p1 p2 ∧ u.1 = g_rf_X6_setReferee rf on hm aw tk sn kn th p1 p2 ∧ u.2 = g_th_X6_setReferee rf on hm aw tk sn kn th p1 p2) (fun u t => bcW D (tyL cI cZ cJ cA) (va_A [((q 0), .inr (6, [.ref (q 1), .ref (q 2), .int on, .int hm, .int aw, .int tk, .ref (q 3), .ref (q 4), .ref (q 5), .int (nI sn), .ref (q 6), .ref (q 7), .ref (q 8), .ref (q 9), .int (nI kn), .ref (q 10), .ref (q 11), .ref (q 12), .ref (q 13), .ref (q 14), .ref (q 15), .ref (q 16), .ref (q 17), .int th])), ((q 2), .inl (cI, 2, .inl rf))] sz) [((q 0), .inr (6, [.ref (q 1), .ref (q 2), .int on, .int hm, .int aw, .int tk, .ref (q 3), .ref (q 4), .ref (q 5), .int (nI sn), .ref (q 6), .ref (q 7), .ref (q 8), .ref (q 9), .int (nI kn), .ref (q 10), .ref (q 11), .ref (q 12), .ref (q 13), .ref (q 14), .ref (q 15), .ref (q 16), .ref (q 17), .int u.2])), ((q 2), .inl (cI, 2, .inl u.1))] t) (va_A [((q 0), .inr (6, [.ref (q 1), .ref (q 2), .int on, .int hm, .int aw, .int tk, .ref (q 3), .ref (q 4), .ref (q 5), .int (nI sn), .ref (q 6), .ref (q 7), .ref (q 8), .ref (q 9), .int (nI kn), .ref (q 10), .ref (q 11), .ref (q 12), .ref (q 13), .ref (q 14), .ref (q 15), .ref (q 16), .ref (q 17), .int th])), ((q 2), .inl (cI, 2, .inl rf))] sz)) 0 0 (va_A [((q 0), .inr (6, [.ref (q 1), .ref (q 2), .int on, .int hm, .int aw, .int tk, .ref (q 3), .ref (q 4), .ref (q 5), .int (nI sn), .ref (q 6), .ref (q 7), .ref (q 8), .ref (q 9), .int (nI kn), .ref (q 10), .ref (q 11), .ref (q 12), .ref (q 13), .ref (q 14), .ref (q 15), .ref (q 16), .ref (q 17), .int th])), ((q 2), .inl (cI, 2, .inl rf))] sz) := by
  refine Met.ofW (cc := cX6_setReferee) (maxL := 4) (ret := (some .int)) (by decide) rfl ?_
  intro p e s m args below meth c s₁ B hml hv
  obtain ⟨rfl, hsz, hP, hK, hD0⟩ := hv
  have hx := B.exec
  have hb := B.bytes
  have hr := B.returns
  have hts := atoms_spec (ws := wsX6_setReferee) B.pre
  have hown : s.vm.findClass RX6 = some m.cls := findClass_of_methodNamed B.named
  have hlocks := B.notSynchronized
  subst hsz
  have hD := hD0.self (sz := s.heap.size)
  generalize hAe : va_A [((q 0), .inr (6, [.ref (q 1), .ref (q 2), .int on, .int hm, .int aw, .int tk, .ref (q 3), .ref (q 4), .ref (q 5), .int (nI sn), .ref (q 6), .ref (q 7), .ref (q 8), .ref (q 9), .int (nI kn), .ref (q 10), .ref (q 11), .ref (q 12), .ref (q 13), .ref (q 14), .ref (q 15), .ref (q 16), .ref (q 17), .int th])), ((q 2), .inl (cI, 2, .inl rf))] s.heap.size = A at hD ⊢
  have hA : ∀ q : Nat, s.heap.size ≤ q → A q := fun q h => by rw [← hAe]; exact Or.inr h
  have hAR : ∀ q : Nat, s.heap.size ≤ q → (fun q : Nat => s.heap.size ≤ q) q := fun _ h => h
  have hS : va_S A s.heap s.heap [] := va_S.rf
  have hP : va_P D vwCl [((q 0), .inr (6, [.ref (q 1), .ref (q 2), .int on, .int hm, .int aw, .int tk, .ref (q 3), .ref (q 4), .ref (q 5), .int (nI sn), .ref (q 6), .ref (q 7), .ref (q 8), .ref (q 9), .int (nI kn), .ref (q 10), .ref (q 11), .ref (q 12), .ref (q 13), .ref (q 14), .ref (q 15), .ref (q 16), .ref (q 17), .int th])), ((q 2), .inl (cI, 2, .inl rf))] s.heap := hP
  have hl := lv_entry ([.ref (q 0), .int p1, .int p2]) (n := 4) (Nat.le_of_ble_eq_true rfl)
  rw [lg_entry_eq]
  generalize (lg_sl ([.ref (q 0), .int p1, .int p2]) ++ List.replicate (4 - (lg_sl ([.ref (q 0), .int p1, .int p2])).length) Slot.unset).toArray = ls at hl ⊢
  have hl : lv_has ls 4 [(0, .ref (q 0)), (1, .int p1), (2, .int p2)] := hl
  have hf_13 := hts (.fieldLink RX6 13 "PaintballAtlasModel" "referee" "[I") (by decide +kernel)
  have hi_X6 : ∀ w ∈ wsX60, w ∈ wsX6_setReferee := by decide +kernel
  refine lv_aload_n hx hb dX6_setReferee_0 rfl (lv_at hl 0 rfl) ?_
  refine lv_iload_n hx hb dX6_setReferee_1 rfl (lv_at hl 1 rfl) ?_
  have hPc := hP.sub (ws' := []) [] rfl
  refine va_calli (va_runS (As := [.int p1]) (rest := [.ref (q 0)]) ⟨hx, hb, hml, hown, hts⟩ (c_X6_isReferee l D cI cZ cJ cA s.heap.size p1) (va_cwS 1 hts gX6_setReferee_X6_isReferee rfl rfl rfl (by decide +kernel) ⟨Nat.le_of_ble_eq_true rfl, Nat.le_of_ble_eq_true rfl⟩) ⟨pcR_bl, fun U hU hW => ⟨rfl, by rw [hU], by rw [hU]; exact hPc, va_K.moved hW.alike hK⟩⟩ rfl rfl hl.1 rfl (lv_room (Nat.le_of_ble_eq_true rfl)) dX6_setReferee_2 ⟨Nat.le_of_ble_eq_true rfl, Nat.le_of_ble_eq_true rfl⟩) hS (fun _ h1 h2 => absurd h1 (Nat.not_lt.mpr h2)) (rd_free hS hA) (fun r_1 u t H locs ht hvm hw hB hz1 hk1 hS => ?_)
  try dsimp only at hw
  have hr_1 := hw
  have hP := rd_P hP hk1
  obtain rfl := hr_1.symm
  refine W.widen (k := 0) (n := 0) (Nat.le_refl _) (Nat.le_refl _) ?_
  refine lv_if_eq (tgt := 19) hx hb dX6_setReferee_5 (by decide) (fun c_2 => ?_) (fun c_2 => ?_)
  · refine lv_iconst (v := 1) hx hb dX6_setReferee_19 (by decide) ?_
    have hPc := hP.sub (ws' := [((q 0), .inr (6, [.ref (q 1), .ref (q 2), .int on, .int hm, .int aw, .int tk, .ref (q 3), .ref (q 4), .ref (q 5), .int (nI sn), .ref (q 6), .ref (q 7), .ref (q 8), .ref (q 9), .int (nI kn), .ref (q 10), .ref (q 11), .ref (q 12), .ref (q 13), .ref (q 14), .ref (q 15), .ref (q 16), .ref (q 17), .int th]))]) [0] rfl
    have hDc := hD.sub (ws' := [((q 0), .inr (6, [.ref (q 1), .ref (q 2), .int on, .int hm, .int aw, .int tk, .ref (q 3), .ref (q 4), .ref (q 5), .int (nI sn), .ref (q 6), .ref (q 7), .ref (q 8), .ref (q 9), .int (nI kn), .ref (q 10), .ref (q 11), .ref (q 12), .ref (q 13), .ref (q 14), .ref (q 15), .ref (q 16), .ref (q 17), .int th]))]) [0] (by decide) rfl
    have hFc := va_free (wc := [((q 0), .inr (6, [.ref (q 1), .ref (q 2), .int on, .int hm, .int aw, .int tk, .ref (q 3), .ref (q 4), .ref (q 5), .int (nI sn), .ref (q 6), .ref (q 7), .ref (q 8), .ref (q 9), .int (nI kn), .ref (q 10), .ref (q 11), .ref (q 12), .ref (q 13), .ref (q 14), .ref (q 15), .ref (q 16), .ref (q 17), .int th]))]) hD hS hA [0] rfl
    refine va_calli (va_runV (As := [.int 1]) (rest := []) ⟨hx, hb, hml, hown, hts⟩ (c_X6_fails l D cI cZ cJ cA H.size q on hm aw tk sn kn th 1) (cwV 1 hts gX6_setReferee_X6_fails rfl rfl rfl (by decide +kernel) ⟨Nat.le_of_ble_eq_true rfl, Nat.le_of_ble_eq_true rfl⟩) ⟨pcW_bl, va_recv hK hPc (ci := 6) (q0 := 0) rfl rfl, fun U hU hW => ⟨rfl, by rw [hU], by rw [hU]; exact hPc, va_K.moved hW.alike hK, hDc.weaken (fun _ _ _ _ => trivial)⟩⟩ rfl rfl hl.1 rfl (lv_room (Nat.le_of_ble_eq_true rfl)) dX6_setReferee_20 ⟨Nat.le_of_ble_eq_true rfl, Nat.le_of_ble_eq_true rfl⟩) hS (fun q _ h => hFc q h) hFc (fun r_3 u t H locs ht hvm hw hB hz1 hk1 hS => ?_)
    try dsimp only at hw
    obtain ⟨u0_3, rfl⟩ : ∃ z, z = u := ⟨_, rfl⟩
    obtain ⟨hr_3, hu0_3⟩ := hw
    obtain ⟨hP1, hK1, hD1⟩ := hB
    rw [ht] at hP1
    obtain ⟨hP, hD⟩ := va_join (wr := [((q 2), .inl (cI, 2, .inl rf))]) (w1 := [((q 0), .inr (6, [.ref (q 1), .ref (q 2), .int on, .int hm, .int aw, .int tk, .ref (q 3), .ref (q 4), .ref (q 5), .int (nI sn), .ref (q 6), .ref (q 7), .ref (q 8), .ref (q 9), .int (nI kn), .ref (q 10), .ref (q 11), .ref (q 12), .ref (q 13), .ref (q 14), .ref (q 15), .ref (q 16), .ref (q 17), .int u0_3]))]) hP hD [0] [1] rfl rfl (by decide) (by decide) hk1 hFc hP1 hD1
    obtain rfl := hu0_3.symm
    have hP : va_P D vwCl [((q 2), .inl (cI, 2, .inl rf)), ((q 0), .inr (6, [.ref (q 1), .ref (q 2), .int on, .int hm, .int aw, .int tk, .ref (q 3), .ref (q 4), .ref (q 5), .int (nI sn), .ref (q 6), .ref (q 7), .ref (q 8), .ref (q 9), .int (nI kn), .ref (q 10), .ref (q 11), .ref (q 12), .ref (q 13), .ref (q 14), .ref (q 15), .ref (q 16), .ref (q 17), .int 1]))] H := hP
    have hD : va_D A [((q 2), .inl (cI, 2, .inl rf)), ((q 0), .inr (6, [.ref (q 1), .ref (q 2), .int on, .int hm, .int aw, .int tk, .ref (q 3), .ref (q 4), .ref (q 5), .int (nI sn), .ref (q 6), .ref (q 7), .ref (q 8), .ref (q 9), .int (nI kn), .ref (q 10), .ref (q 11), .ref (q 12), .ref (q 13), .ref (q 14), .ref (q 15), .ref (q 16), .ref (q 17), .int 1]))] := hD
    obtain rfl := hr_3.symm
    refine W.widen (k := 0) (n := 0) (Nat.le_refl _) (Nat.le_refl _) ?_
    refine tp_eq (y := 1) rfl ?_
    refine lv_if_eq (tgt := 28) hx hb dX6_setReferee_23 (by decide) (fun c_4 => absurd c_4 (by decide)) (fun _ => ?_)
    refine lv_iconst (v := 0) hx hb dX6_setReferee_26 (by decide) ?_
    have hP9 := hP.sub (ws' := [((q 0), .inr (6, [.ref (q 1), .ref (q 2), .int on, .int hm, .int aw, .int tk, .ref (q 3), .ref (q 4), .ref (q 5), .int (nI sn), .ref (q 6), .ref (q 7), .ref (q 8), .ref (q 9), .int (nI kn), .ref (q 10), .ref (q 11), .ref (q 12), .ref (q 13), .ref (q 14), .ref (q 15), .ref (q 16), .ref (q 17), .int 1])), ((q 2), .inl (cI, 2, .inl rf))]) [1, 0] rfl
    have hD9 := hD.sub (ws' := [((q 0), .inr (6, [.ref (q 1), .ref (q 2), .int on, .int hm, .int aw, .int tk, .ref (q 3), .ref (q 4), .ref (q 5), .int (nI sn), .ref (q 6), .ref (q 7), .ref (q 8), .ref (q 9), .int (nI kn), .ref (q 10), .ref (q 11), .ref (q 12), .ref (q 13), .ref (q 14), .ref (q 15), .ref (q 16), .ref (q 17), .int 1])), ((q 2), .inl (cI, 2, .inl rf))]) [1, 0] (by decide) rfl
    -- leaf 0
    refine W.widen (k := 0) (n := 0) (Nat.le_refl _) (Nat.le_refl _) ?_
    exact W.iret (v := 0) hx hb hr (fun t ht hW => ⟨⟨0, (rf, 1), rfl, ⟨(by rw [f_X6_setReferee, if_pos c_2]), (by rw [g_rf_X6_setReferee, if_pos c_2]), (by rw [g_th_X6_setReferee, if_pos c_2])⟩, by rw [ht]; exact hP9, va_K.moved hW.alike hK, hD9⟩, hS.F ht⟩) hS.2.2 dX6_setReferee_27
  · have hvc_2 : vp_in p1 2 := isIn_vp (N := 2) c_2
    refine lv_iload_n hx hb dX6_setReferee_8 rfl (lv_at hl 2 rfl) ?_
    have hPc := hP.sub (ws' := []) [] rfl
    refine va_calli (va_runS (As := [.int p2]) (rest := [.ref (q 0)]) ⟨hx, hb, hml, hown, hts⟩ (c_X6_isCell l D cI cZ cJ cA H.size p2) (va_cwS 1 hts gX6_setReferee_X6_isCell rfl rfl rfl (by decide +kernel) ⟨Nat.le_of_ble_eq_true rfl, Nat.le_of_ble_eq_true rfl⟩) ⟨pcR_bl, fun U hU hW => ⟨rfl, by rw [hU], by rw [hU]; exact hPc, va_K.moved hW.alike hK⟩⟩ rfl rfl hl.1 rfl (lv_room (Nat.le_of_ble_eq_true rfl)) dX6_setReferee_9 ⟨Nat.le_of_ble_eq_true rfl, Nat.le_of_ble_eq_true rfl⟩) hS (fun _ h1 h2 => absurd h1 (Nat.not_lt.mpr h2)) (rd_free hS hA) (fun r_5 u t H locs ht hvm hw hB hz1 hk1 hS => ?_)
    try dsimp only at hw
    have hr_5 := hw
    have hP := rd_P hP hk1
    obtain rfl := hr_5.symm
    refine W.widen (k := 0) (n := 0) (Nat.le_refl _) (Nat.le_refl _) ?_
    refine lv_if_eq (tgt := 19) hx hb dX6_setReferee_12 (by decide) (fun c_6 => ?_) (fun c_6 => ?_)
    · refine lv_iconst (v := 1) hx hb dX6_setReferee_19 (by decide) ?_
      have hPc := hP.sub (ws' := [((q 0), .inr (6, [.ref (q 1), .ref (q 2), .int on, .int hm, .int aw, .int tk, .ref (q 3), .ref (q 4), .ref (q 5), .int (nI sn), .ref (q 6), .ref (q 7), .ref (q 8), .ref (q 9), .int (nI kn), .ref (q 10), .ref (q 11), .ref (q 12), .ref (q 13), .ref (q 14), .ref (q 15), .ref (q 16), .ref (q 17), .int th]))]) [0] rfl
      have hDc := hD.sub (ws' := [((q 0), .inr (6, [.ref (q 1), .ref (q 2), .int on, .int hm, .int aw, .int tk, .ref (q 3), .ref (q 4), .ref (q 5), .int (nI sn), .ref (q 6), .ref (q 7), .ref (q 8), .ref (q 9), .int (nI kn), .ref (q 10), .ref (q 11), .ref (q 12), .ref (q 13), .ref (q 14), .ref (q 15), .ref (q 16), .ref (q 17), .int th]))]) [0] (by decide) rfl
      have hFc := va_free (wc := [((q 0), .inr (6, [.ref (q 1), .ref (q 2), .int on, .int hm, .int aw, .int tk, .ref (q 3), .ref (q 4), .ref (q 5), .int (nI sn), .ref (q 6), .ref (q 7), .ref (q 8), .ref (q 9), .int (nI kn), .ref (q 10), .ref (q 11), .ref (q 12), .ref (q 13), .ref (q 14), .ref (q 15), .ref (q 16), .ref (q 17), .int th]))]) hD hS hA [0] rfl
      refine va_calli (va_runV (As := [.int 1]) (rest := []) ⟨hx, hb, hml, hown, hts⟩ (c_X6_fails l D cI cZ cJ cA H.size q on hm aw tk sn kn th 1) (cwV 1 hts gX6_setReferee_X6_fails rfl rfl rfl (by decide +kernel) ⟨Nat.le_of_ble_eq_true rfl, Nat.le_of_ble_eq_true rfl⟩) ⟨pcW_bl, va_recv hK hPc (ci := 6) (q0 := 0) rfl rfl, fun U hU hW => ⟨rfl, by rw [hU], by rw [hU]; exact hPc, va_K.moved hW.alike hK, hDc.weaken (fun _ _ _ _ => trivial)⟩⟩ rfl rfl hl.1 rfl (lv_room (Nat.le_of_ble_eq_true rfl)) dX6_setReferee_20 ⟨Nat.le_of_ble_eq_true rfl, Nat.le_of_ble_eq_true rfl⟩) hS (fun q _ h => hFc q h) hFc (fun r_7 u t H locs ht hvm hw hB hz1 hk1 hS => ?_)
      try dsimp only at hw
      obtain ⟨u0_7, rfl⟩ : ∃ z, z = u := ⟨_, rfl⟩
      obtain ⟨hr_7, hu0_7⟩ := hw
      obtain ⟨hP1, hK1, hD1⟩ := hB
      rw [ht] at hP1
      obtain ⟨hP, hD⟩ := va_join (wr := [((q 2), .inl (cI, 2, .inl rf))]) (w1 := [((q 0), .inr (6, [.ref (q 1), .ref (q 2), .int on, .int hm, .int aw, .int tk, .ref (q 3), .ref (q 4), .ref (q 5), .int (nI sn), .ref (q 6), .ref (q 7), .ref (q 8), .ref (q 9), .int (nI kn), .ref (q 10), .ref (q 11), .ref (q 12), .ref (q 13), .ref (q 14), .ref (q 15), .ref (q 16), .ref (q 17), .int u0_7]))]) hP hD [0] [1] rfl rfl (by decide) (by decide) hk1 hFc hP1 hD1
      obtain rfl := hu0_7.symm
      have hP : va_P D vwCl [((q 2), .inl (cI, 2, .inl rf)), ((q 0), .inr (6, [.ref (q 1), .ref (q 2), .int on, .int hm, .int aw, .int tk, .ref (q 3), .ref (q 4), .ref (q 5), .int (nI sn), .ref (q 6), .ref (q 7), .ref (q 8), .ref (q 9), .int (nI kn), .ref (q 10), .ref (q 11), .ref (q 12), .ref (q 13), .ref (q 14), .ref (q 15), .ref (q 16), .ref (q 17), .int 1]))] H := hP
      have hD : va_D A [((q 2), .inl (cI, 2, .inl rf)), ((q 0), .inr (6, [.ref (q 1), .ref (q 2), .int on, .int hm, .int aw, .int tk, .ref (q 3), .ref (q 4), .ref (q 5), .int (nI sn), .ref (q 6), .ref (q 7), .ref (q 8), .ref (q 9), .int (nI kn), .ref (q 10), .ref (q 11), .ref (q 12), .ref (q 13), .ref (q 14), .ref (q 15), .ref (q 16), .ref (q 17), .int 1]))] := hD
      obtain rfl := hr_7.symm
      refine W.widen (k := 0) (n := 0) (Nat.le_refl _) (Nat.le_refl _) ?_
      refine tp_eq (y := 1) rfl ?_
      refine lv_if_eq (tgt := 28) hx hb dX6_setReferee_23 (by decide) (fun c_8 => absurd c_8 (by decide)) (fun _ => ?_)
      refine lv_iconst (v := 0) hx hb dX6_setReferee_26 (by decide) ?_
      have hP9 := hP.sub (ws' := [((q 0), .inr (6, [.ref (q 1), .ref (q 2), .int on, .int hm, .int aw, .int tk, .ref (q 3), .ref (q 4), .ref (q 5), .int (nI sn), .ref (q 6), .ref (q 7), .ref (q 8), .ref (q 9), .int (nI kn), .ref (q 10), .ref (q 11), .ref (q 12), .ref (q 13), .ref (q 14), .ref (q 15), .ref (q 16), .ref (q 17), .int 1])), ((q 2), .inl (cI, 2, .inl rf))]) [1, 0] rfl
      have hD9 := hD.sub (ws' := [((q 0), .inr (6, [.ref (q 1), .ref (q 2), .int on, .int hm, .int aw, .int tk, .ref (q 3), .ref (q 4), .ref (q 5), .int (nI sn), .ref (q 6), .ref (q 7), .ref (q 8), .ref (q 9), .int (nI kn), .ref (q 10), .ref (q 11), .ref (q 12), .ref (q 13), .ref (q 14), .ref (q 15), .ref (q 16), .ref (q 17), .int 1])), ((q 2), .inl (cI, 2, .inl rf))]) [1, 0] (by decide) rfl
      -- leaf 1
      refine W.widen (k := 0) (n := 0) (Nat.le_refl _) (Nat.le_refl _) ?_
      exact W.iret (v := 0) hx hb hr (fun t ht hW => ⟨⟨0, (rf, 1), rfl, ⟨(by rw [f_X6_setReferee, if_neg c_2, if_pos c_6]), (by rw [g_rf_X6_setReferee, if_neg c_2, if_pos c_6]), (by rw [g_th_X6_setReferee, if_neg c_2, if_pos c_6])⟩, by rw [ht]; exact hP9, va_K.moved hW.alike hK, hD9⟩, hS.F ht⟩) hS.2.2 dX6_setReferee_27
    · have hvc_6 : vp_in p2 144 := isIn_vp (N := 144) c_6
      refine lv_iconst (v := 0) hx hb dX6_setReferee_15 (by decide) ?_
      refine lv_goto (tgt := 20) hx hb dX6_setReferee_16 (by decide) ?_
      have hPc := hP.sub (ws' := [((q 0), .inr (6, [.ref (q 1), .ref (q 2), .int on, .int hm, .int aw, .int tk, .ref (q 3), .ref (q 4), .ref (q 5), .int (nI sn), .ref (q 6), .ref (q 7), .ref (q 8), .ref (q 9), .int (nI kn), .ref (q 10), .ref (q 11), .ref (q 12), .ref (q 13), .ref (q 14), .ref (q 15), .ref (q 16), .ref (q 17), .int th]))]) [0] rfl
      have hDc := hD.sub (ws' := [((q 0), .inr (6, [.ref (q 1), .ref (q 2), .int on, .int hm, .int aw, .int tk, .ref (q 3), .ref (q 4), .ref (q 5), .int (nI sn), .ref (q 6), .ref (q 7), .ref (q 8), .ref (q 9), .int (nI kn), .ref (q 10), .ref (q 11), .ref (q 12), .ref (q 13), .ref (q 14), .ref (q 15), .ref (q 16), .ref (q 17), .int th]))]) [0] (by decide) rfl
      have hFc := va_free (wc := [((q 0), .inr (6, [.ref (q 1), .ref (q 2), .int on, .int hm, .int aw, .int tk, .ref (q 3), .ref (q 4), .ref (q 5), .int (nI sn), .ref (q 6), .ref (q 7), .ref (q 8), .ref (q 9), .int (nI kn), .ref (q 10), .ref (q 11), .ref (q 12), .ref (q 13), .ref (q 14), .ref (q 15), .ref (q 16), .ref (q 17), .int th]))]) hD hS hA [0] rfl
      refine va_calli (va_runV (As := [.int 0]) (rest := []) ⟨hx, hb, hml, hown, hts⟩ (c_X6_fails l D cI cZ cJ cA H.size q on hm aw tk sn kn th 0) (cwV 1 hts gX6_setReferee_X6_fails rfl rfl rfl (by decide +kernel) ⟨Nat.le_of_ble_eq_true rfl, Nat.le_of_ble_eq_true rfl⟩) ⟨pcW_bl, va_recv hK hPc (ci := 6) (q0 := 0) rfl rfl, fun U hU hW => ⟨rfl, by rw [hU], by rw [hU]; exact hPc, va_K.moved hW.alike hK, hDc.weaken (fun _ _ _ _ => trivial)⟩⟩ rfl rfl hl.1 rfl (lv_room (Nat.le_of_ble_eq_true rfl)) dX6_setReferee_20 ⟨Nat.le_of_ble_eq_true rfl, Nat.le_of_ble_eq_true rfl⟩) hS (fun q _ h => hFc q h) hFc (fun r_9 u t H locs ht hvm hw hB hz1 hk1 hS => ?_)
      try dsimp only at hw
      obtain ⟨u0_9, rfl⟩ : ∃ z, z = u := ⟨_, rfl⟩
      obtain ⟨hr_9, hu0_9⟩ := hw
      obtain ⟨hP1, hK1, hD1⟩ := hB
      rw [ht] at hP1
      obtain ⟨hP, hD⟩ := va_join (wr := [((q 2), .inl (cI, 2, .inl rf))]) (w1 := [((q 0), .inr (6, [.ref (q 1), .ref (q 2), .int on, .int hm, .int aw, .int tk, .ref (q 3), .ref (q 4), .ref (q 5), .int (nI sn), .ref (q 6), .ref (q 7), .ref (q 8), .ref (q 9), .int (nI kn), .ref (q 10), .ref (q 11), .ref (q 12), .ref (q 13), .ref (q 14), .ref (q 15), .ref (q 16), .ref (q 17), .int u0_9]))]) hP hD [0] [1] rfl rfl (by decide) (by decide) hk1 hFc hP1 hD1
      obtain rfl := hu0_9.symm
      have hP : va_P D vwCl [((q 2), .inl (cI, 2, .inl rf)), ((q 0), .inr (6, [.ref (q 1), .ref (q 2), .int on, .int hm, .int aw, .int tk, .ref (q 3), .ref (q 4), .ref (q 5), .int (nI sn), .ref (q 6), .ref (q 7), .ref (q 8), .ref (q 9), .int (nI kn), .ref (q 10), .ref (q 11), .ref (q 12), .ref (q 13), .ref (q 14), .ref (q 15), .ref (q 16), .ref (q 17), .int 0]))] H := hP
      have hD : va_D A [((q 2), .inl (cI, 2, .inl rf)), ((q 0), .inr (6, [.ref (q 1), .ref (q 2), .int on, .int hm, .int aw, .int tk, .ref (q 3), .ref (q 4), .ref (q 5), .int (nI sn), .ref (q 6), .ref (q 7), .ref (q 8), .ref (q 9), .int (nI kn), .ref (q 10), .ref (q 11), .ref (q 12), .ref (q 13), .ref (q 14), .ref (q 15), .ref (q 16), .ref (q 17), .int 0]))] := hD
      obtain rfl := hr_9.symm
      refine W.widen (k := 0) (n := 0) (Nat.le_refl _) (Nat.le_refl _) ?_
      refine tp_eq (y := 0) rfl ?_
      refine lv_if_eq (tgt := 28) hx hb dX6_setReferee_23 (by decide) (fun _ => ?_) (fun c_10 => absurd (by decide) c_10)
      refine lv_aload_n hx hb dX6_setReferee_28 rfl (lv_at hl 0 rfl) ?_
      refine va_get (D := D) (ci := 6) (v := .ref (q 2)) (C := RX6) (T := TX6) (N := 24) hx hb hts hi_X6 hown hK hP 1 rfl rfl 1 (by decide) hf_13 (fun _ h9 => h9) rfl dX6_setReferee_29 ?_
      refine lv_iload_n hx hb dX6_setReferee_32 rfl (lv_at hl 1 rfl) ?_
      refine va_iald hx hb hK hP 0 0 rfl rfl (by assumption) dX6_setReferee_33 ?_
      refine lv_istore_n (lv' := [(3, .int (rf p1.toNatClampNeg)), (0, .ref (q 0)), (1, .int p1), (2, .int p2)]) hx hb dX6_setReferee_34 rfl hl (by decide) rfl (fun ls hl => ?_)
      refine lv_aload_n hx hb dX6_setReferee_35 rfl (lv_at hl 1 rfl) ?_
      refine va_get (D := D) (ci := 6) (v := .ref (q 2)) (C := RX6) (T := TX6) (N := 24) hx hb hts hi_X6 hown hK hP 1 rfl rfl 1 (by decide) hf_13 (fun _ h9 => h9) rfl dX6_setReferee_36 ?_
      refine lv_iload_n hx hb dX6_setReferee_39 rfl (lv_at hl 2 rfl) ?_
      refine lv_iload_n hx hb dX6_setReferee_40 rfl (lv_at hl 3 rfl) ?_
      refine va_iast hx hb hK hP hD hS 0 0 rfl rfl (by assumption) dX6_setReferee_41 (fun H locs hP hD hS => ?_)
      have hP : va_P D vwCl [((q 2), .inl (cI, 2, .inl (upd rf p1.toNatClampNeg p2))), ((q 0), .inr (6, [.ref (q 1), .ref (q 2), .int on, .int hm, .int aw, .int tk, .ref (q 3), .ref (q 4), .ref (q 5), .int (nI sn), .ref (q 6), .ref (q 7), .ref (q 8), .ref (q 9), .int (nI kn), .ref (q 10), .ref (q 11), .ref (q 12), .ref (q 13), .ref (q 14), .ref (q 15), .ref (q 16), .ref (q 17), .int 0]))] H := hP
      have hD : va_D A [((q 2), .inl (cI, 2, .inl (upd rf p1.toNatClampNeg p2))), ((q 0), .inr (6, [.ref (q 1), .ref (q 2), .int on, .int hm, .int aw, .int tk, .ref (q 3), .ref (q 4), .ref (q 5), .int (nI sn), .ref (q 6), .ref (q 7), .ref (q 8), .ref (q 9), .int (nI kn), .ref (q 10), .ref (q 11), .ref (q 12), .ref (q 13), .ref (q 14), .ref (q 15), .ref (q 16), .ref (q 17), .int 0]))] := hD
      refine lv_iload_n hx hb dX6_setReferee_42 rfl (lv_at hl 0 rfl) ?_
      have hP9 := hP.sub (ws' := [((q 0), .inr (6, [.ref (q 1), .ref (q 2), .int on, .int hm, .int aw, .int tk, .ref (q 3), .ref (q 4), .ref (q 5), .int (nI sn), .ref (q 6), .ref (q 7), .ref (q 8), .ref (q 9), .int (nI kn), .ref (q 10), .ref (q 11), .ref (q 12), .ref (q 13), .ref (q 14), .ref (q 15), .ref (q 16), .ref (q 17), .int 0])), ((q 2), .inl (cI, 2, .inl (upd rf p1.toNatClampNeg p2)))]) [1, 0] rfl
      have hD9 := hD.sub (ws' := [((q 0), .inr (6, [.ref (q 1), .ref (q 2), .int on, .int hm, .int aw, .int tk, .ref (q 3), .ref (q 4), .ref (q 5), .int (nI sn), .ref (q 6), .ref (q 7), .ref (q 8), .ref (q 9), .int (nI kn), .ref (q 10), .ref (q 11), .ref (q 12), .ref (q 13), .ref (q 14), .ref (q 15), .ref (q 16), .ref (q 17), .int 0])), ((q 2), .inl (cI, 2, .inl (upd rf p1.toNatClampNeg p2)))]) [1, 0] (by decide) rfl
      -- leaf 2
      refine W.widen (k := 0) (n := 0) (Nat.le_refl _) (Nat.le_refl _) ?_
      exact W.iret (v := rf p1.toNatClampNeg) hx hb hr (fun t ht hW => ⟨⟨rf p1.toNatClampNeg, (upd rf p1.toNatClampNeg p2, 0), rfl, ⟨(by rw [f_X6_setReferee, if_neg c_2, if_neg c_6]), (by rw [g_rf_X6_setReferee, if_neg c_2, if_neg c_6]), (by rw [g_th_X6_setReferee, if_neg c_2, if_neg c_6])⟩, by rw [ht]; exact hP9, va_K.moved hW.alike hK, hD9⟩, hS.F ht⟩) hS.2.2 dX6_setReferee_43

noncomputable def g_on_X6_begin (on : Int32) (hm : Int32) (aw : Int32) (tk : Int32) (ce : Nat → Int32) (hi : Nat → Int32) (la : Nat → Int32) (sn : Nat) (kn : Nat) (th : Int32) (p1 : Int32) (p2 : Int32) : Int32 := if (f_X6_isIn p1 0 5) = 0 then on else (if (f_X6_isIn p2 0 5) = 0 then on else (if p1 = p2 then on else (if on = 0 then 1 else on)))
noncomputable def g_hm_X6_begin (on : Int32) (hm : Int32) (aw : Int32) (tk : Int32) (ce : Nat → Int32) (hi : Nat → Int32) (la : Nat → Int32) (sn : Nat) (kn : Nat) (th : Int32) (p1 : Int32) (p2 : Int32) : Int32 := if (f_X6_isIn p1 0 5) = 0 then hm else (if (f_X6_isIn p2 0 5) = 0 then hm else (if p1 = p2 then hm else (if on = 0 then p1 else hm)))
noncomputable def g_aw_X6_begin (on : Int32) (hm : Int32) (aw : Int32) (tk : Int32) (ce : Nat → Int32) (hi : Nat → Int32) (la : Nat → Int32) (sn : Nat) (kn : Nat) (th : Int32) (p1 : Int32) (p2 : Int32) : Int32 := if (f_X6_isIn p1 0 5) = 0 then aw else (if (f_X6_isIn p2 0 5) = 0 then aw else (if p1 = p2 then aw else (if on = 0 then p2 else aw)))
noncomputable def g_tk_X6_begin (on : Int32) (hm : Int32) (aw : Int32) (tk : Int32) (ce : Nat → Int32) (hi : Nat → Int32) (la : Nat → Int32) (sn : Nat) (kn : Nat) (th : Int32) (p1 : Int32) (p2 : Int32) : Int32 := if (f_X6_isIn p1 0 5) = 0 then tk else (if (f_X6_isIn p2 0 5) = 0 then tk else (if p1 = p2 then tk else (if on = 0 then 0 else tk)))
noncomputable def g_ce_X6_begin (on : Int32) (hm : Int32) (aw : Int32) (tk : Int32) (ce : Nat → Int32) (hi : Nat → Int32) (la : Nat → Int32) (sn : Nat) (kn : Nat) (th : Int32) (p1 : Int32) (p2 : Int32) : Nat → Int32 := if (f_X6_isIn p1 0 5) = 0 then ce else (if (f_X6_isIn p2 0 5) = 0 then ce else (if p1 = p2 then ce else (if on = 0 then (fillN ce (-1) 6) else ce)))
noncomputable def g_hi_X6_begin (on : Int32) (hm : Int32) (aw : Int32) (tk : Int32) (ce : Nat → Int32) (hi : Nat → Int32) (la : Nat → Int32) (sn : Nat) (kn : Nat) (th : Int32) (p1 : Int32) (p2 : Int32) : Nat → Int32 := if (f_X6_isIn p1 0 5) = 0 then hi else (if (f_X6_isIn p2 0 5) = 0 then hi else (if p1 = p2 then hi else (if on = 0 then (fillN hi (-1) 6) else hi)))
noncomputable def g_la_X6_begin (on : Int32) (hm : Int32) (aw : Int32) (tk : Int32) (ce : Nat → Int32) (hi : Nat → Int32) (la : Nat → Int32) (sn : Nat) (kn : Nat) (th : Int32) (p1 : Int32) (p2 : Int32) : Nat → Int32 := if (f_X6_isIn p1 0 5) = 0 then la else (if (f_X6_isIn p2 0 5) = 0 then la else (if p1 = p2 then la else (if on = 0 then (fillN la (-1) 6) else la)))
noncomputable def g_sn_X6_begin (on : Int32) (hm : Int32) (aw : Int32) (tk : Int32) (ce : Nat → Int32) (hi : Nat → Int32) (la : Nat → Int32) (sn : Nat) (kn : Nat) (th : Int32) (p1 : Int32) (p2 : Int32) : Nat := if (f_X6_isIn p1 0 5) = 0 then sn else (if (f_X6_isIn p2 0 5) = 0 then sn else (if p1 = p2 then sn else (if on = 0 then 0 else sn)))
noncomputable def g_kn_X6_begin (on : Int32) (hm : Int32) (aw : Int32) (tk : Int32) (ce : Nat → Int32) (hi : Nat → Int32) (la : Nat → Int32) (sn : Nat) (kn : Nat) (th : Int32) (p1 : Int32) (p2 : Int32) : Nat := if (f_X6_isIn p1 0 5) = 0 then kn else (if (f_X6_isIn p2 0 5) = 0 then kn else (if p1 = p2 then kn else (if on = 0 then 0 else kn)))
noncomputable def g_th_X6_begin (on : Int32) (hm : Int32) (aw : Int32) (tk : Int32) (ce : Nat → Int32) (hi : Nat → Int32) (la : Nat → Int32) (sn : Nat) (kn : Nat) (th : Int32) (p1 : Int32) (p2 : Int32) : Int32 := if (f_X6_isIn p1 0 5) = 0 then 1 else (if (f_X6_isIn p2 0 5) = 0 then 1 else (if p1 = p2 then 2 else (if on = 0 then 0 else 3)))
set_option maxHeartbeats 4000000 in
set_option maxRecDepth 100000 in
theorem c_X6_begin (l : Launch) (D : va_G) (cI cZ cJ cA : ClassId) (sz : Nat) (q : Nat → Nat) (on : Int32) (hm : Int32) (aw : Int32) (tk : Int32) (ce : Nat → Int32) (hi : Nat → Int32) (la : Nat → Int32) (sn : Nat) (kn : Nat) (th : Int32) (p1 : Int32) (p2 : Int32) : Met l yX6_begin wsX6_begin ({ frames := 2, cells := 0, slots := 0, locals := 42 } : Room) (va_Pc [.ref (q 0), .int p1, .int p2] (pcW D (tyL cI cZ cJ cA) [((q 0), .inr (6, [.ref (q 1), .ref (q 2), .int on, .int hm, .int aw, .int tk, .ref (q 3), .ref (q 4), .ref (q 5), .int (nI sn), .ref (q 6), .ref (q 7), .ref (q 8), .ref (q 9), .int (nI kn), .ref (q 10), .ref (q 11), .ref (q 12), .ref (q 13), .ref (q 14), .ref (q 15), .ref (q 16), .ref (q 17), .int th])), ((q 3), .inl (cI, 6, .inl ce)), ((q 4), .inl (cI, 6, .inl hi)), ((q 5), .inl (cI, 6, .inl la))] sz)) (va_Qv (fun (u : (Int32) × (Int32) × (Int32) × (Int32) × (Nat → Int32) × (Nat → Int32) × (Nat → Int32) × (Nat) × (Nat) × (Int32)) => u.1 = g_on_X6_begin on hm aw tk ce hi la sn kn th p1 p2 ∧ u.2.1 = g_hm_X6_begin on hm aw tk ce hi la sn kn th p1 p2 ∧ u.2.2.1 = g_aw_X6_begin on hm aw tk ce hi la sn kn th p1 p2 ∧ u.2.2.2.1 = g_tk_X6_begin on hm aw tk ce hi la sn kn th p1 p2 ∧ u.2.2.2.2.1 = g_ce_X6_begin on hm aw tk ce hi la sn kn th p1 p2 ∧ u.2.2.2.2.2.1 = g_hi_X6_begin on hm aw tk ce hi la sn kn th p1 p2 ∧ u.2.2.2.2.2.2.1 = g_la_X6_begin on hm aw tk ce hi la sn kn th p1 p2 ∧ u.2.2.2.2.2.2.2.1 = g_sn_X6_begin on hm aw tk ce hi la sn kn th p1 p2 ∧ u.2.2.2.2.2.2.2.2.1 = g_kn_X6_begin on hm aw tk ce hi la sn kn th p1 p2 ∧ u.2.2.2.2.2.2.2.2.2 = g_th_X6_begin on hm aw tk ce hi la sn kn th p1 p2) (fun u t => bcW D (tyL cI cZ cJ cA) (va_A [((q 0), .inr (6, [.ref (q 1), .ref (q 2), .int on, .int hm, .int aw, .int tk, .ref (q 3), .ref (q 4), .ref (q 5), .int (nI sn), .ref (q 6), .ref (q 7), .ref (q 8), .ref (q 9), .int (nI kn), .ref (q 10), .ref (q 11), .ref (q 12), .ref (q 13), .ref (q 14), .ref (q 15), .ref (q 16), .ref (q 17), .int th])), ((q 3), .inl (cI, 6, .inl ce)), ((q 4), .inl (cI, 6, .inl hi)), ((q 5), .inl (cI, 6, .inl la))] sz) [((q 0), .inr (6, [.ref (q 1), .ref (q 2), .int u.1, .int u.2.1, .int u.2.2.1, .int u.2.2.2.1, .ref (q 3), .ref (q 4), .ref (q 5), .int (nI u.2.2.2.2.2.2.2.1), .ref (q 6), .ref (q 7), .ref (q 8), .ref (q 9), .int (nI u.2.2.2.2.2.2.2.2.1), .ref (q 10), .ref (q 11), .ref (q 12), .ref (q 13), .ref (q 14), .ref (q 15), .ref (q 16), .ref (q 17), .int u.2.2.2.2.2.2.2.2.2])), ((q 3), .inl (cI, 6, .inl u.2.2.2.2.1)), ((q 4), .inl (cI, 6, .inl u.2.2.2.2.2.1)), ((q 5), .inl (cI, 6, .inl u.2.2.2.2.2.2.1))] t) (va_A [((q 0), .inr (6, [.ref (q 1), .ref (q 2), .int on, .int hm, .int aw, .int tk, .ref (q 3), .ref (q 4), .ref (q 5), .int (nI sn), .ref (q 6), .ref (q 7), .ref (q 8), .ref (q 9), .int (nI kn), .ref (q 10), .ref (q 11), .ref (q 12), .ref (q 13), .ref (q 14), .ref (q 15), .ref (q 16), .ref (q 17), .int th])), ((q 3), .inl (cI, 6, .inl ce)), ((q 4), .inl (cI, 6, .inl hi)), ((q 5), .inl (cI, 6, .inl la))] sz)) 0 0 (va_A [((q 0), .inr (6, [.ref (q 1), .ref (q 2), .int on, .int hm, .int aw, .int tk, .ref (q 3), .ref (q 4), .ref (q 5), .int (nI sn), .ref (q 6), .ref (q 7), .ref (q 8), .ref (q 9), .int (nI kn), .ref (q 10), .ref (q 11), .ref (q 12), .ref (q 13), .ref (q 14), .ref (q 15), .ref (q 16), .ref (q 17), .int th])), ((q 3), .inl (cI, 6, .inl ce)), ((q 4), .inl (cI, 6, .inl hi)), ((q 5), .inl (cI, 6, .inl la))] sz) := by
  refine Met.ofW (cc := cX6_begin) (maxL := 5) (ret := none) (by decide) rfl ?_
  intro p e s m args below meth c s₁ B hml hv
  obtain ⟨rfl, hsz, hP, hK, hD0⟩ := hv
  have hx := B.exec
  have hb := B.bytes
  have hr := B.returns
  have hts := atoms_spec (ws := wsX6_begin) B.pre
  have hown : s.vm.findClass RX6 = some m.cls := findClass_of_methodNamed B.named
  have hlocks := B.notSynchronized
  subst hsz
  have hD := hD0.self (sz := s.heap.size)
  generalize hAe : va_A [((q 0), .inr (6, [.ref (q 1), .ref (q 2), .int on, .int hm, .int aw, .int tk, .ref (q 3), .ref (q 4), .ref (q 5), .int (nI sn), .ref (q 6), .ref (q 7), .ref (q 8), .ref (q 9), .int (nI kn), .ref (q 10), .ref (q 11), .ref (q 12), .ref (q 13), .ref (q 14), .ref (q 15), .ref (q 16), .ref (q 17), .int th])), ((q 3), .inl (cI, 6, .inl ce)), ((q 4), .inl (cI, 6, .inl hi)), ((q 5), .inl (cI, 6, .inl la))] s.heap.size = A at hD ⊢
  have hA : ∀ q : Nat, s.heap.size ≤ q → A q := fun q h => by rw [← hAe]; exact Or.inr h
  have hAR : ∀ q : Nat, s.heap.size ≤ q → (fun q : Nat => s.heap.size ≤ q) q := fun _ h => h
  have hS : va_S A s.heap s.heap [] := va_S.rf
  have hP : va_P D vwCl [((q 0), .inr (6, [.ref (q 1), .ref (q 2), .int on, .int hm, .int aw, .int tk, .ref (q 3), .ref (q 4), .ref (q 5), .int (nI sn), .ref (q 6), .ref (q 7), .ref (q 8), .ref (q 9), .int (nI kn), .ref (q 10), .ref (q 11), .ref (q 12), .ref (q 13), .ref (q 14), .ref (q 15), .ref (q 16), .ref (q 17), .int th])), ((q 3), .inl (cI, 6, .inl ce)), ((q 4), .inl (cI, 6, .inl hi)), ((q 5), .inl (cI, 6, .inl la))] s.heap := hP
  have hl := lv_entry ([.ref (q 0), .int p1, .int p2]) (n := 5) (Nat.le_of_ble_eq_true rfl)
  rw [lg_entry_eq]
  generalize (lg_sl ([.ref (q 0), .int p1, .int p2]) ++ List.replicate (5 - (lg_sl ([.ref (q 0), .int p1, .int p2])).length) Slot.unset).toArray = ls at hl ⊢
  have hl : lv_has ls 5 [(0, .ref (q 0)), (1, .int p1), (2, .int p2)] := hl
  have hf_84 := hts (.fieldLink RX6 84 "PaintballAtlasModel" "isOn" "Z") (by decide +kernel)
  have hi_X6 : ∀ w ∈ wsX60, w ∈ wsX6_begin := by decide +kernel
  have hf_101 := hts (.fieldLink RX6 101 "PaintballAtlasModel" "home" "I") (by decide +kernel)
  have hf_104 := hts (.fieldLink RX6 104 "PaintballAtlasModel" "away" "I") (by decide +kernel)
  have hf_107 := hts (.fieldLink RX6 107 "PaintballAtlasModel" "tick" "I") (by decide +kernel)
  have hf_110 := hts (.fieldLink RX6 110 "PaintballAtlasModel" "shots" "I") (by decide +kernel)
  have hf_113 := hts (.fieldLink RX6 113 "PaintballAtlasModel" "calls" "I") (by decide +kernel)
  have hf_17 := hts (.fieldLink RX6 17 "PaintballAtlasModel" "where" "[I") (by decide +kernel)
  have hf_20 := hts (.fieldLink RX6 20 "PaintballAtlasModel" "hit" "[I") (by decide +kernel)
  have hf_23 := hts (.fieldLink RX6 23 "PaintballAtlasModel" "shot" "[I") (by decide +kernel)
  refine lv_iload_n hx hb dX6_begin_0 rfl (lv_at hl 1 rfl) ?_
  have hPc := hP.sub (ws' := []) [] rfl
  refine va_calli (va_runS (As := [.int p1]) (rest := []) ⟨hx, hb, hml, hown, hts⟩ (c_X6_isTeam l D cI cZ cJ cA s.heap.size p1) (va_cwS 1 hts gX6_begin_X6_isTeam rfl rfl rfl (by decide +kernel) ⟨Nat.le_of_ble_eq_true rfl, Nat.le_of_ble_eq_true rfl⟩) ⟨pcR_bl, fun U hU hW => ⟨rfl, by rw [hU], by rw [hU]; exact hPc, va_K.moved hW.alike hK⟩⟩ rfl rfl hl.1 rfl (lv_room (Nat.le_of_ble_eq_true rfl)) dX6_begin_1 ⟨Nat.le_of_ble_eq_true rfl, Nat.le_of_ble_eq_true rfl⟩) hS (fun _ h1 h2 => absurd h1 (Nat.not_lt.mpr h2)) (rd_free hS hA) (fun r_1 u t H locs ht hvm hw hB hz1 hk1 hS => ?_)
  try dsimp only at hw
  have hr_1 := hw
  have hP := rd_P hP hk1
  obtain rfl := hr_1.symm
  refine W.widen (k := 0) (n := 0) (Nat.le_refl _) (Nat.le_refl _) ?_
  refine lv_if_eq (tgt := 18) hx hb dX6_begin_4 (by decide) (fun c_2 => ?_) (fun c_2 => ?_)
  · refine lv_iconst (v := 0) hx hb dX6_begin_18 (by decide) ?_
    refine lv_istore_n (lv' := [(3, .int 0), (0, .ref (q 0)), (1, .int p1), (2, .int p2)]) hx hb dX6_begin_19 rfl hl (by decide) rfl (fun ls hl => ?_)
    refine lv_aload_n hx hb dX6_begin_20 rfl (lv_at hl 1 rfl) ?_
    refine lv_iload_n hx hb dX6_begin_21 rfl (lv_at hl 0 rfl) ?_
    refine lv_if_ne (tgt := 29) hx hb dX6_begin_22 (by decide) (fun c_3 => absurd (by decide) c_3) (fun _ => ?_)
    refine lv_iconst (v := 1) hx hb dX6_begin_25 (by decide) ?_
    refine lv_goto (tgt := 50) hx hb dX6_begin_26 (by decide) ?_
    have hPc := hP.sub (ws' := [((q 0), .inr (6, [.ref (q 1), .ref (q 2), .int on, .int hm, .int aw, .int tk, .ref (q 3), .ref (q 4), .ref (q 5), .int (nI sn), .ref (q 6), .ref (q 7), .ref (q 8), .ref (q 9), .int (nI kn), .ref (q 10), .ref (q 11), .ref (q 12), .ref (q 13), .ref (q 14), .ref (q 15), .ref (q 16), .ref (q 17), .int th]))]) [0] rfl
    have hDc := hD.sub (ws' := [((q 0), .inr (6, [.ref (q 1), .ref (q 2), .int on, .int hm, .int aw, .int tk, .ref (q 3), .ref (q 4), .ref (q 5), .int (nI sn), .ref (q 6), .ref (q 7), .ref (q 8), .ref (q 9), .int (nI kn), .ref (q 10), .ref (q 11), .ref (q 12), .ref (q 13), .ref (q 14), .ref (q 15), .ref (q 16), .ref (q 17), .int th]))]) [0] (by decide) rfl
    have hFc := va_free (wc := [((q 0), .inr (6, [.ref (q 1), .ref (q 2), .int on, .int hm, .int aw, .int tk, .ref (q 3), .ref (q 4), .ref (q 5), .int (nI sn), .ref (q 6), .ref (q 7), .ref (q 8), .ref (q 9), .int (nI kn), .ref (q 10), .ref (q 11), .ref (q 12), .ref (q 13), .ref (q 14), .ref (q 15), .ref (q 16), .ref (q 17), .int th]))]) hD hS hA [0] rfl
    refine va_calli (va_runV (As := [.int 1]) (rest := []) ⟨hx, hb, hml, hown, hts⟩ (c_X6_fails l D cI cZ cJ cA H.size q on hm aw tk sn kn th 1) (cwV 1 hts gX6_begin_X6_fails rfl rfl rfl (by decide +kernel) ⟨Nat.le_of_ble_eq_true rfl, Nat.le_of_ble_eq_true rfl⟩) ⟨pcW_bl, va_recv hK hPc (ci := 6) (q0 := 0) rfl rfl, fun U hU hW => ⟨rfl, by rw [hU], by rw [hU]; exact hPc, va_K.moved hW.alike hK, hDc.weaken (fun _ _ _ _ => trivial)⟩⟩ rfl rfl hl.1 rfl (lv_room (Nat.le_of_ble_eq_true rfl)) dX6_begin_50 ⟨Nat.le_of_ble_eq_true rfl, Nat.le_of_ble_eq_true rfl⟩) hS (fun q _ h => hFc q h) hFc (fun r_4 u t H locs ht hvm hw hB hz1 hk1 hS => ?_)
    try dsimp only at hw
    obtain ⟨u0_4, rfl⟩ : ∃ z, z = u := ⟨_, rfl⟩
    obtain ⟨hr_4, hu0_4⟩ := hw
    obtain ⟨hP1, hK1, hD1⟩ := hB
    rw [ht] at hP1
    obtain ⟨hP, hD⟩ := va_join (wr := [((q 3), .inl (cI, 6, .inl ce)), ((q 4), .inl (cI, 6, .inl hi)), ((q 5), .inl (cI, 6, .inl la))]) (w1 := [((q 0), .inr (6, [.ref (q 1), .ref (q 2), .int on, .int hm, .int aw, .int tk, .ref (q 3), .ref (q 4), .ref (q 5), .int (nI sn), .ref (q 6), .ref (q 7), .ref (q 8), .ref (q 9), .int (nI kn), .ref (q 10), .ref (q 11), .ref (q 12), .ref (q 13), .ref (q 14), .ref (q 15), .ref (q 16), .ref (q 17), .int u0_4]))]) hP hD [0] [1, 2, 3] rfl rfl (by decide) (by decide) hk1 hFc hP1 hD1
    obtain rfl := hu0_4.symm
    have hP : va_P D vwCl [((q 3), .inl (cI, 6, .inl ce)), ((q 4), .inl (cI, 6, .inl hi)), ((q 5), .inl (cI, 6, .inl la)), ((q 0), .inr (6, [.ref (q 1), .ref (q 2), .int on, .int hm, .int aw, .int tk, .ref (q 3), .ref (q 4), .ref (q 5), .int (nI sn), .ref (q 6), .ref (q 7), .ref (q 8), .ref (q 9), .int (nI kn), .ref (q 10), .ref (q 11), .ref (q 12), .ref (q 13), .ref (q 14), .ref (q 15), .ref (q 16), .ref (q 17), .int 1]))] H := hP
    have hD : va_D A [((q 3), .inl (cI, 6, .inl ce)), ((q 4), .inl (cI, 6, .inl hi)), ((q 5), .inl (cI, 6, .inl la)), ((q 0), .inr (6, [.ref (q 1), .ref (q 2), .int on, .int hm, .int aw, .int tk, .ref (q 3), .ref (q 4), .ref (q 5), .int (nI sn), .ref (q 6), .ref (q 7), .ref (q 8), .ref (q 9), .int (nI kn), .ref (q 10), .ref (q 11), .ref (q 12), .ref (q 13), .ref (q 14), .ref (q 15), .ref (q 16), .ref (q 17), .int 1]))] := hD
    obtain rfl := hr_4.symm
    refine W.widen (k := 0) (n := 0) (Nat.le_refl _) (Nat.le_refl _) ?_
    refine tp_eq (y := 1) rfl ?_
    refine lv_if_ne (tgt := 126) hx hb dX6_begin_53 (by decide) (fun _ => ?_) (fun c_5 => absurd c_5 (by decide))
    have hP9 := hP.sub (ws' := [((q 0), .inr (6, [.ref (q 1), .ref (q 2), .int on, .int hm, .int aw, .int tk, .ref (q 3), .ref (q 4), .ref (q 5), .int (nI sn), .ref (q 6), .ref (q 7), .ref (q 8), .ref (q 9), .int (nI kn), .ref (q 10), .ref (q 11), .ref (q 12), .ref (q 13), .ref (q 14), .ref (q 15), .ref (q 16), .ref (q 17), .int 1])), ((q 3), .inl (cI, 6, .inl ce)), ((q 4), .inl (cI, 6, .inl hi)), ((q 5), .inl (cI, 6, .inl la))]) [3, 0, 1, 2] rfl
    have hD9 := hD.sub (ws' := [((q 0), .inr (6, [.ref (q 1), .ref (q 2), .int on, .int hm, .int aw, .int tk, .ref (q 3), .ref (q 4), .ref (q 5), .int (nI sn), .ref (q 6), .ref (q 7), .ref (q 8), .ref (q 9), .int (nI kn), .ref (q 10), .ref (q 11), .ref (q 12), .ref (q 13), .ref (q 14), .ref (q 15), .ref (q 16), .ref (q 17), .int 1])), ((q 3), .inl (cI, 6, .inl ce)), ((q 4), .inl (cI, 6, .inl hi)), ((q 5), .inl (cI, 6, .inl la))]) [3, 0, 1, 2] (by decide) rfl
    -- leaf 0
    refine W.widen (k := 0) (n := 0) (Nat.le_refl _) (Nat.le_refl _) ?_
    exact W.vret hx hb hr (fun t ht hW => ⟨⟨(on, hm, aw, tk, ce, hi, la, sn, kn, 1), rfl, ⟨(by rw [g_on_X6_begin, if_pos c_2]), (by rw [g_hm_X6_begin, if_pos c_2]), (by rw [g_aw_X6_begin, if_pos c_2]), (by rw [g_tk_X6_begin, if_pos c_2]), (by rw [g_ce_X6_begin, if_pos c_2]), (by rw [g_hi_X6_begin, if_pos c_2]), (by rw [g_la_X6_begin, if_pos c_2]), (by rw [g_sn_X6_begin, if_pos c_2]), (by rw [g_kn_X6_begin, if_pos c_2]), (by rw [g_th_X6_begin, if_pos c_2])⟩, by rw [ht]; exact hP9, va_K.moved hW.alike hK, hD9⟩, hS.F ht⟩) hS.2.2 dX6_begin_126
  · have hvc_2 : vp_in p1 6 := isIn_vp (N := 6) c_2
    refine lv_iload_n hx hb dX6_begin_7 rfl (lv_at hl 2 rfl) ?_
    have hPc := hP.sub (ws' := []) [] rfl
    refine va_calli (va_runS (As := [.int p2]) (rest := []) ⟨hx, hb, hml, hown, hts⟩ (c_X6_isTeam l D cI cZ cJ cA H.size p2) (va_cwS 1 hts gX6_begin_X6_isTeam rfl rfl rfl (by decide +kernel) ⟨Nat.le_of_ble_eq_true rfl, Nat.le_of_ble_eq_true rfl⟩) ⟨pcR_bl, fun U hU hW => ⟨rfl, by rw [hU], by rw [hU]; exact hPc, va_K.moved hW.alike hK⟩⟩ rfl rfl hl.1 rfl (lv_room (Nat.le_of_ble_eq_true rfl)) dX6_begin_8 ⟨Nat.le_of_ble_eq_true rfl, Nat.le_of_ble_eq_true rfl⟩) hS (fun _ h1 h2 => absurd h1 (Nat.not_lt.mpr h2)) (rd_free hS hA) (fun r_6 u t H locs ht hvm hw hB hz1 hk1 hS => ?_)
    try dsimp only at hw
    have hr_6 := hw
    have hP := rd_P hP hk1
    obtain rfl := hr_6.symm
    refine W.widen (k := 0) (n := 0) (Nat.le_refl _) (Nat.le_refl _) ?_
    refine lv_if_eq (tgt := 18) hx hb dX6_begin_11 (by decide) (fun c_7 => ?_) (fun c_7 => ?_)
    · refine lv_iconst (v := 0) hx hb dX6_begin_18 (by decide) ?_
      refine lv_istore_n (lv' := [(3, .int 0), (0, .ref (q 0)), (1, .int p1), (2, .int p2)]) hx hb dX6_begin_19 rfl hl (by decide) rfl (fun ls hl => ?_)
      refine lv_aload_n hx hb dX6_begin_20 rfl (lv_at hl 1 rfl) ?_
      refine lv_iload_n hx hb dX6_begin_21 rfl (lv_at hl 0 rfl) ?_
      refine lv_if_ne (tgt := 29) hx hb dX6_begin_22 (by decide) (fun c_8 => absurd (by decide) c_8) (fun _ => ?_)
      refine lv_iconst (v := 1) hx hb dX6_begin_25 (by decide) ?_
      refine lv_goto (tgt := 50) hx hb dX6_begin_26 (by decide) ?_
      have hPc := hP.sub (ws' := [((q 0), .inr (6, [.ref (q 1), .ref (q 2), .int on, .int hm, .int aw, .int tk, .ref (q 3), .ref (q 4), .ref (q 5), .int (nI sn), .ref (q 6), .ref (q 7), .ref (q 8), .ref (q 9), .int (nI kn), .ref (q 10), .ref (q 11), .ref (q 12), .ref (q 13), .ref (q 14), .ref (q 15), .ref (q 16), .ref (q 17), .int th]))]) [0] rfl
      have hDc := hD.sub (ws' := [((q 0), .inr (6, [.ref (q 1), .ref (q 2), .int on, .int hm, .int aw, .int tk, .ref (q 3), .ref (q 4), .ref (q 5), .int (nI sn), .ref (q 6), .ref (q 7), .ref (q 8), .ref (q 9), .int (nI kn), .ref (q 10), .ref (q 11), .ref (q 12), .ref (q 13), .ref (q 14), .ref (q 15), .ref (q 16), .ref (q 17), .int th]))]) [0] (by decide) rfl
      have hFc := va_free (wc := [((q 0), .inr (6, [.ref (q 1), .ref (q 2), .int on, .int hm, .int aw, .int tk, .ref (q 3), .ref (q 4), .ref (q 5), .int (nI sn), .ref (q 6), .ref (q 7), .ref (q 8), .ref (q 9), .int (nI kn), .ref (q 10), .ref (q 11), .ref (q 12), .ref (q 13), .ref (q 14), .ref (q 15), .ref (q 16), .ref (q 17), .int th]))]) hD hS hA [0] rfl
      refine va_calli (va_runV (As := [.int 1]) (rest := []) ⟨hx, hb, hml, hown, hts⟩ (c_X6_fails l D cI cZ cJ cA H.size q on hm aw tk sn kn th 1) (cwV 1 hts gX6_begin_X6_fails rfl rfl rfl (by decide +kernel) ⟨Nat.le_of_ble_eq_true rfl, Nat.le_of_ble_eq_true rfl⟩) ⟨pcW_bl, va_recv hK hPc (ci := 6) (q0 := 0) rfl rfl, fun U hU hW => ⟨rfl, by rw [hU], by rw [hU]; exact hPc, va_K.moved hW.alike hK, hDc.weaken (fun _ _ _ _ => trivial)⟩⟩ rfl rfl hl.1 rfl (lv_room (Nat.le_of_ble_eq_true rfl)) dX6_begin_50 ⟨Nat.le_of_ble_eq_true rfl, Nat.le_of_ble_eq_true rfl⟩) hS (fun q _ h => hFc q h) hFc (fun r_9 u t H locs ht hvm hw hB hz1 hk1 hS => ?_)
      try dsimp only at hw
      obtain ⟨u0_9, rfl⟩ : ∃ z, z = u := ⟨_, rfl⟩
      obtain ⟨hr_9, hu0_9⟩ := hw
      obtain ⟨hP1, hK1, hD1⟩ := hB
      rw [ht] at hP1
      obtain ⟨hP, hD⟩ := va_join (wr := [((q 3), .inl (cI, 6, .inl ce)), ((q 4), .inl (cI, 6, .inl hi)), ((q 5), .inl (cI, 6, .inl la))]) (w1 := [((q 0), .inr (6, [.ref (q 1), .ref (q 2), .int on, .int hm, .int aw, .int tk, .ref (q 3), .ref (q 4), .ref (q 5), .int (nI sn), .ref (q 6), .ref (q 7), .ref (q 8), .ref (q 9), .int (nI kn), .ref (q 10), .ref (q 11), .ref (q 12), .ref (q 13), .ref (q 14), .ref (q 15), .ref (q 16), .ref (q 17), .int u0_9]))]) hP hD [0] [1, 2, 3] rfl rfl (by decide) (by decide) hk1 hFc hP1 hD1
      obtain rfl := hu0_9.symm
      have hP : va_P D vwCl [((q 3), .inl (cI, 6, .inl ce)), ((q 4), .inl (cI, 6, .inl hi)), ((q 5), .inl (cI, 6, .inl la)), ((q 0), .inr (6, [.ref (q 1), .ref (q 2), .int on, .int hm, .int aw, .int tk, .ref (q 3), .ref (q 4), .ref (q 5), .int (nI sn), .ref (q 6), .ref (q 7), .ref (q 8), .ref (q 9), .int (nI kn), .ref (q 10), .ref (q 11), .ref (q 12), .ref (q 13), .ref (q 14), .ref (q 15), .ref (q 16), .ref (q 17), .int 1]))] H := hP
      have hD : va_D A [((q 3), .inl (cI, 6, .inl ce)), ((q 4), .inl (cI, 6, .inl hi)), ((q 5), .inl (cI, 6, .inl la)), ((q 0), .inr (6, [.ref (q 1), .ref (q 2), .int on, .int hm, .int aw, .int tk, .ref (q 3), .ref (q 4), .ref (q 5), .int (nI sn), .ref (q 6), .ref (q 7), .ref (q 8), .ref (q 9), .int (nI kn), .ref (q 10), .ref (q 11), .ref (q 12), .ref (q 13), .ref (q 14), .ref (q 15), .ref (q 16), .ref (q 17), .int 1]))] := hD
      obtain rfl := hr_9.symm
      refine W.widen (k := 0) (n := 0) (Nat.le_refl _) (Nat.le_refl _) ?_
      refine tp_eq (y := 1) rfl ?_
      refine lv_if_ne (tgt := 126) hx hb dX6_begin_53 (by decide) (fun _ => ?_) (fun c_10 => absurd c_10 (by decide))
      have hP9 := hP.sub (ws' := [((q 0), .inr (6, [.ref (q 1), .ref (q 2), .int on, .int hm, .int aw, .int tk, .ref (q 3), .ref (q 4), .ref (q 5), .int (nI sn), .ref (q 6), .ref (q 7), .ref (q 8), .ref (q 9), .int (nI kn), .ref (q 10), .ref (q 11), .ref (q 12), .ref (q 13), .ref (q 14), .ref (q 15), .ref (q 16), .ref (q 17), .int 1])), ((q 3), .inl (cI, 6, .inl ce)), ((q 4), .inl (cI, 6, .inl hi)), ((q 5), .inl (cI, 6, .inl la))]) [3, 0, 1, 2] rfl
      have hD9 := hD.sub (ws' := [((q 0), .inr (6, [.ref (q 1), .ref (q 2), .int on, .int hm, .int aw, .int tk, .ref (q 3), .ref (q 4), .ref (q 5), .int (nI sn), .ref (q 6), .ref (q 7), .ref (q 8), .ref (q 9), .int (nI kn), .ref (q 10), .ref (q 11), .ref (q 12), .ref (q 13), .ref (q 14), .ref (q 15), .ref (q 16), .ref (q 17), .int 1])), ((q 3), .inl (cI, 6, .inl ce)), ((q 4), .inl (cI, 6, .inl hi)), ((q 5), .inl (cI, 6, .inl la))]) [3, 0, 1, 2] (by decide) rfl
      -- leaf 1
      refine W.widen (k := 0) (n := 0) (Nat.le_refl _) (Nat.le_refl _) ?_
      exact W.vret hx hb hr (fun t ht hW => ⟨⟨(on, hm, aw, tk, ce, hi, la, sn, kn, 1), rfl, ⟨(by rw [g_on_X6_begin, if_neg c_2, if_pos c_7]), (by rw [g_hm_X6_begin, if_neg c_2, if_pos c_7]), (by rw [g_aw_X6_begin, if_neg c_2, if_pos c_7]), (by rw [g_tk_X6_begin, if_neg c_2, if_pos c_7]), (by rw [g_ce_X6_begin, if_neg c_2, if_pos c_7]), (by rw [g_hi_X6_begin, if_neg c_2, if_pos c_7]), (by rw [g_la_X6_begin, if_neg c_2, if_pos c_7]), (by rw [g_sn_X6_begin, if_neg c_2, if_pos c_7]), (by rw [g_kn_X6_begin, if_neg c_2, if_pos c_7]), (by rw [g_th_X6_begin, if_neg c_2, if_pos c_7])⟩, by rw [ht]; exact hP9, va_K.moved hW.alike hK, hD9⟩, hS.F ht⟩) hS.2.2 dX6_begin_126
    · have hvc_7 : vp_in p2 6 := isIn_vp (N := 6) c_7
      refine lv_iconst (v := 1) hx hb dX6_begin_14 (by decide) ?_
      refine lv_goto (tgt := 19) hx hb dX6_begin_15 (by decide) ?_
      refine lv_istore_n (lv' := [(3, .int 1), (0, .ref (q 0)), (1, .int p1), (2, .int p2)]) hx hb dX6_begin_19 rfl hl (by decide) rfl (fun ls hl => ?_)
      refine lv_aload_n hx hb dX6_begin_20 rfl (lv_at hl 1 rfl) ?_
      refine lv_iload_n hx hb dX6_begin_21 rfl (lv_at hl 0 rfl) ?_
      refine lv_if_ne (tgt := 29) hx hb dX6_begin_22 (by decide) (fun _ => ?_) (fun c_11 => absurd c_11 (by decide))
      refine lv_iload_n hx hb dX6_begin_29 rfl (lv_at hl 2 rfl) ?_
      refine lv_iload_n hx hb dX6_begin_30 rfl (lv_at hl 3 rfl) ?_
      refine lv_icmp_ne (tgt := 38) hx hb dX6_begin_31 (by decide) (fun c_12 => ?_) (fun c_12 => ?_)
      · refine lv_aload_n hx hb dX6_begin_38 rfl (lv_at hl 1 rfl) ?_
        refine va_get (D := D) (ci := 6) (v := .int on) (C := RX6) (T := TX6) (N := 24) hx hb hts hi_X6 hown hK hP 0 rfl rfl 2 (by decide) hf_84 (fun _ h9 => h9) rfl dX6_begin_39 ?_
        refine lv_if_eq (tgt := 49) hx hb dX6_begin_42 (by decide) (fun c_13 => ?_) (fun c_13 => ?_)
        · refine lv_iconst (v := 0) hx hb dX6_begin_49 (by decide) ?_
          have hPc := hP.sub (ws' := [((q 0), .inr (6, [.ref (q 1), .ref (q 2), .int on, .int hm, .int aw, .int tk, .ref (q 3), .ref (q 4), .ref (q 5), .int (nI sn), .ref (q 6), .ref (q 7), .ref (q 8), .ref (q 9), .int (nI kn), .ref (q 10), .ref (q 11), .ref (q 12), .ref (q 13), .ref (q 14), .ref (q 15), .ref (q 16), .ref (q 17), .int th]))]) [0] rfl
          have hDc := hD.sub (ws' := [((q 0), .inr (6, [.ref (q 1), .ref (q 2), .int on, .int hm, .int aw, .int tk, .ref (q 3), .ref (q 4), .ref (q 5), .int (nI sn), .ref (q 6), .ref (q 7), .ref (q 8), .ref (q 9), .int (nI kn), .ref (q 10), .ref (q 11), .ref (q 12), .ref (q 13), .ref (q 14), .ref (q 15), .ref (q 16), .ref (q 17), .int th]))]) [0] (by decide) rfl
          have hFc := va_free (wc := [((q 0), .inr (6, [.ref (q 1), .ref (q 2), .int on, .int hm, .int aw, .int tk, .ref (q 3), .ref (q 4), .ref (q 5), .int (nI sn), .ref (q 6), .ref (q 7), .ref (q 8), .ref (q 9), .int (nI kn), .ref (q 10), .ref (q 11), .ref (q 12), .ref (q 13), .ref (q 14), .ref (q 15), .ref (q 16), .ref (q 17), .int th]))]) hD hS hA [0] rfl
          refine va_calli (va_runV (As := [.int 0]) (rest := []) ⟨hx, hb, hml, hown, hts⟩ (c_X6_fails l D cI cZ cJ cA H.size q on hm aw tk sn kn th 0) (cwV 1 hts gX6_begin_X6_fails rfl rfl rfl (by decide +kernel) ⟨Nat.le_of_ble_eq_true rfl, Nat.le_of_ble_eq_true rfl⟩) ⟨pcW_bl, va_recv hK hPc (ci := 6) (q0 := 0) rfl rfl, fun U hU hW => ⟨rfl, by rw [hU], by rw [hU]; exact hPc, va_K.moved hW.alike hK, hDc.weaken (fun _ _ _ _ => trivial)⟩⟩ rfl rfl hl.1 rfl (lv_room (Nat.le_of_ble_eq_true rfl)) dX6_begin_50 ⟨Nat.le_of_ble_eq_true rfl, Nat.le_of_ble_eq_true rfl⟩) hS (fun q _ h => hFc q h) hFc (fun r_14 u t H locs ht hvm hw hB hz1 hk1 hS => ?_)
          try dsimp only at hw
          obtain ⟨u0_14, rfl⟩ : ∃ z, z = u := ⟨_, rfl⟩
          obtain ⟨hr_14, hu0_14⟩ := hw
          obtain ⟨hP1, hK1, hD1⟩ := hB
          rw [ht] at hP1
          obtain ⟨hP, hD⟩ := va_join (wr := [((q 3), .inl (cI, 6, .inl ce)), ((q 4), .inl (cI, 6, .inl hi)), ((q 5), .inl (cI, 6, .inl la))]) (w1 := [((q 0), .inr (6, [.ref (q 1), .ref (q 2), .int on, .int hm, .int aw, .int tk, .ref (q 3), .ref (q 4), .ref (q 5), .int (nI sn), .ref (q 6), .ref (q 7), .ref (q 8), .ref (q 9), .int (nI kn), .ref (q 10), .ref (q 11), .ref (q 12), .ref (q 13), .ref (q 14), .ref (q 15), .ref (q 16), .ref (q 17), .int u0_14]))]) hP hD [0] [1, 2, 3] rfl rfl (by decide) (by decide) hk1 hFc hP1 hD1
          obtain rfl := hu0_14.symm
          have hP : va_P D vwCl [((q 3), .inl (cI, 6, .inl ce)), ((q 4), .inl (cI, 6, .inl hi)), ((q 5), .inl (cI, 6, .inl la)), ((q 0), .inr (6, [.ref (q 1), .ref (q 2), .int on, .int hm, .int aw, .int tk, .ref (q 3), .ref (q 4), .ref (q 5), .int (nI sn), .ref (q 6), .ref (q 7), .ref (q 8), .ref (q 9), .int (nI kn), .ref (q 10), .ref (q 11), .ref (q 12), .ref (q 13), .ref (q 14), .ref (q 15), .ref (q 16), .ref (q 17), .int 0]))] H := hP
          have hD : va_D A [((q 3), .inl (cI, 6, .inl ce)), ((q 4), .inl (cI, 6, .inl hi)), ((q 5), .inl (cI, 6, .inl la)), ((q 0), .inr (6, [.ref (q 1), .ref (q 2), .int on, .int hm, .int aw, .int tk, .ref (q 3), .ref (q 4), .ref (q 5), .int (nI sn), .ref (q 6), .ref (q 7), .ref (q 8), .ref (q 9), .int (nI kn), .ref (q 10), .ref (q 11), .ref (q 12), .ref (q 13), .ref (q 14), .ref (q 15), .ref (q 16), .ref (q 17), .int 0]))] := hD
          obtain rfl := hr_14.symm
          refine W.widen (k := 0) (n := 0) (Nat.le_refl _) (Nat.le_refl _) ?_
          refine tp_eq (y := 0) rfl ?_
          refine lv_if_ne (tgt := 126) hx hb dX6_begin_53 (by decide) (fun c_15 => absurd (by decide) c_15) (fun _ => ?_)
          refine lv_aload_n hx hb dX6_begin_56 rfl (lv_at hl 1 rfl) ?_
          refine lv_iconst (v := 1) hx hb dX6_begin_57 (by decide) ?_
          refine va_put (D := D) (ci := 6) (v := .int 1) (ty := .boolean) (C := RX6) (T := TX6) (N := 24) hx hb hts hi_X6 tyX6 tyX6_ok nmX6 hown hK hP hD hS 3 rfl rfl 2 (by decide) hf_84 (fun _ h9 => h9) rfl (by decide +kernel) rfl rfl (Nat.le_of_ble_eq_true rfl) dX6_begin_58 (fun H locs hP hD hS => ?_)
          have hP : va_P D vwCl [((q 3), .inl (cI, 6, .inl ce)), ((q 4), .inl (cI, 6, .inl hi)), ((q 5), .inl (cI, 6, .inl la)), ((q 0), .inr (6, [.ref (q 1), .ref (q 2), .int 1, .int hm, .int aw, .int tk, .ref (q 3), .ref (q 4), .ref (q 5), .int (nI sn), .ref (q 6), .ref (q 7), .ref (q 8), .ref (q 9), .int (nI kn), .ref (q 10), .ref (q 11), .ref (q 12), .ref (q 13), .ref (q 14), .ref (q 15), .ref (q 16), .ref (q 17), .int 0]))] H := hP
          have hD : va_D A [((q 3), .inl (cI, 6, .inl ce)), ((q 4), .inl (cI, 6, .inl hi)), ((q 5), .inl (cI, 6, .inl la)), ((q 0), .inr (6, [.ref (q 1), .ref (q 2), .int 1, .int hm, .int aw, .int tk, .ref (q 3), .ref (q 4), .ref (q 5), .int (nI sn), .ref (q 6), .ref (q 7), .ref (q 8), .ref (q 9), .int (nI kn), .ref (q 10), .ref (q 11), .ref (q 12), .ref (q 13), .ref (q 14), .ref (q 15), .ref (q 16), .ref (q 17), .int 0]))] := hD
          refine lv_aload_n hx hb dX6_begin_61 rfl (lv_at hl 1 rfl) ?_
          refine lv_iload_n hx hb dX6_begin_62 rfl (lv_at hl 2 rfl) ?_
          refine va_put (D := D) (ci := 6) (v := .int p1) (ty := .int) (C := RX6) (T := TX6) (N := 24) hx hb hts hi_X6 tyX6 tyX6_ok nmX6 hown hK hP hD hS 3 rfl rfl 3 (by decide) hf_101 (fun _ h9 => h9) rfl (by decide +kernel) rfl rfl (Nat.le_of_ble_eq_true rfl) dX6_begin_63 (fun H locs hP hD hS => ?_)
          have hP : va_P D vwCl [((q 3), .inl (cI, 6, .inl ce)), ((q 4), .inl (cI, 6, .inl hi)), ((q 5), .inl (cI, 6, .inl la)), ((q 0), .inr (6, [.ref (q 1), .ref (q 2), .int 1, .int p1, .int aw, .int tk, .ref (q 3), .ref (q 4), .ref (q 5), .int (nI sn), .ref (q 6), .ref (q 7), .ref (q 8), .ref (q 9), .int (nI kn), .ref (q 10), .ref (q 11), .ref (q 12), .ref (q 13), .ref (q 14), .ref (q 15), .ref (q 16), .ref (q 17), .int 0]))] H := hP
          have hD : va_D A [((q 3), .inl (cI, 6, .inl ce)), ((q 4), .inl (cI, 6, .inl hi)), ((q 5), .inl (cI, 6, .inl la)), ((q 0), .inr (6, [.ref (q 1), .ref (q 2), .int 1, .int p1, .int aw, .int tk, .ref (q 3), .ref (q 4), .ref (q 5), .int (nI sn), .ref (q 6), .ref (q 7), .ref (q 8), .ref (q 9), .int (nI kn), .ref (q 10), .ref (q 11), .ref (q 12), .ref (q 13), .ref (q 14), .ref (q 15), .ref (q 16), .ref (q 17), .int 0]))] := hD
          refine lv_aload_n hx hb dX6_begin_66 rfl (lv_at hl 1 rfl) ?_
          refine lv_iload_n hx hb dX6_begin_67 rfl (lv_at hl 3 rfl) ?_
          refine va_put (D := D) (ci := 6) (v := .int p2) (ty := .int) (C := RX6) (T := TX6) (N := 24) hx hb hts hi_X6 tyX6 tyX6_ok nmX6 hown hK hP hD hS 3 rfl rfl 4 (by decide) hf_104 (fun _ h9 => h9) rfl (by decide +kernel) rfl rfl (Nat.le_of_ble_eq_true rfl) dX6_begin_68 (fun H locs hP hD hS => ?_)
          have hP : va_P D vwCl [((q 3), .inl (cI, 6, .inl ce)), ((q 4), .inl (cI, 6, .inl hi)), ((q 5), .inl (cI, 6, .inl la)), ((q 0), .inr (6, [.ref (q 1), .ref (q 2), .int 1, .int p1, .int p2, .int tk, .ref (q 3), .ref (q 4), .ref (q 5), .int (nI sn), .ref (q 6), .ref (q 7), .ref (q 8), .ref (q 9), .int (nI kn), .ref (q 10), .ref (q 11), .ref (q 12), .ref (q 13), .ref (q 14), .ref (q 15), .ref (q 16), .ref (q 17), .int 0]))] H := hP
          have hD : va_D A [((q 3), .inl (cI, 6, .inl ce)), ((q 4), .inl (cI, 6, .inl hi)), ((q 5), .inl (cI, 6, .inl la)), ((q 0), .inr (6, [.ref (q 1), .ref (q 2), .int 1, .int p1, .int p2, .int tk, .ref (q 3), .ref (q 4), .ref (q 5), .int (nI sn), .ref (q 6), .ref (q 7), .ref (q 8), .ref (q 9), .int (nI kn), .ref (q 10), .ref (q 11), .ref (q 12), .ref (q 13), .ref (q 14), .ref (q 15), .ref (q 16), .ref (q 17), .int 0]))] := hD
          refine lv_aload_n hx hb dX6_begin_71 rfl (lv_at hl 1 rfl) ?_
          refine lv_iconst (v := 0) hx hb dX6_begin_72 (by decide) ?_
          refine va_put (D := D) (ci := 6) (v := .int 0) (ty := .int) (C := RX6) (T := TX6) (N := 24) hx hb hts hi_X6 tyX6 tyX6_ok nmX6 hown hK hP hD hS 3 rfl rfl 5 (by decide) hf_107 (fun _ h9 => h9) rfl (by decide +kernel) rfl rfl (Nat.le_of_ble_eq_true rfl) dX6_begin_73 (fun H locs hP hD hS => ?_)
          have hP : va_P D vwCl [((q 3), .inl (cI, 6, .inl ce)), ((q 4), .inl (cI, 6, .inl hi)), ((q 5), .inl (cI, 6, .inl la)), ((q 0), .inr (6, [.ref (q 1), .ref (q 2), .int 1, .int p1, .int p2, .int 0, .ref (q 3), .ref (q 4), .ref (q 5), .int (nI sn), .ref (q 6), .ref (q 7), .ref (q 8), .ref (q 9), .int (nI kn), .ref (q 10), .ref (q 11), .ref (q 12), .ref (q 13), .ref (q 14), .ref (q 15), .ref (q 16), .ref (q 17), .int 0]))] H := hP
          have hD : va_D A [((q 3), .inl (cI, 6, .inl ce)), ((q 4), .inl (cI, 6, .inl hi)), ((q 5), .inl (cI, 6, .inl la)), ((q 0), .inr (6, [.ref (q 1), .ref (q 2), .int 1, .int p1, .int p2, .int 0, .ref (q 3), .ref (q 4), .ref (q 5), .int (nI sn), .ref (q 6), .ref (q 7), .ref (q 8), .ref (q 9), .int (nI kn), .ref (q 10), .ref (q 11), .ref (q 12), .ref (q 13), .ref (q 14), .ref (q 15), .ref (q 16), .ref (q 17), .int 0]))] := hD
          refine lv_aload_n hx hb dX6_begin_76 rfl (lv_at hl 1 rfl) ?_
          refine lv_iconst (v := 0) hx hb dX6_begin_77 (by decide) ?_
          refine va_put (D := D) (ci := 6) (v := .int 0) (ty := .int) (C := RX6) (T := TX6) (N := 24) hx hb hts hi_X6 tyX6 tyX6_ok nmX6 hown hK hP hD hS 3 rfl rfl 9 (by decide) hf_110 (fun _ h9 => h9) rfl (by decide +kernel) rfl rfl (Nat.le_of_ble_eq_true rfl) dX6_begin_78 (fun H locs hP hD hS => ?_)
          have hP : va_P D vwCl [((q 3), .inl (cI, 6, .inl ce)), ((q 4), .inl (cI, 6, .inl hi)), ((q 5), .inl (cI, 6, .inl la)), ((q 0), .inr (6, [.ref (q 1), .ref (q 2), .int 1, .int p1, .int p2, .int 0, .ref (q 3), .ref (q 4), .ref (q 5), .int 0, .ref (q 6), .ref (q 7), .ref (q 8), .ref (q 9), .int (nI kn), .ref (q 10), .ref (q 11), .ref (q 12), .ref (q 13), .ref (q 14), .ref (q 15), .ref (q 16), .ref (q 17), .int 0]))] H := hP
          have hD : va_D A [((q 3), .inl (cI, 6, .inl ce)), ((q 4), .inl (cI, 6, .inl hi)), ((q 5), .inl (cI, 6, .inl la)), ((q 0), .inr (6, [.ref (q 1), .ref (q 2), .int 1, .int p1, .int p2, .int 0, .ref (q 3), .ref (q 4), .ref (q 5), .int 0, .ref (q 6), .ref (q 7), .ref (q 8), .ref (q 9), .int (nI kn), .ref (q 10), .ref (q 11), .ref (q 12), .ref (q 13), .ref (q 14), .ref (q 15), .ref (q 16), .ref (q 17), .int 0]))] := hD
          refine lv_aload_n hx hb dX6_begin_81 rfl (lv_at hl 1 rfl) ?_
          refine lv_iconst (v := 0) hx hb dX6_begin_82 (by decide) ?_
          refine va_put (D := D) (ci := 6) (v := .int 0) (ty := .int) (C := RX6) (T := TX6) (N := 24) hx hb hts hi_X6 tyX6 tyX6_ok nmX6 hown hK hP hD hS 3 rfl rfl 14 (by decide) hf_113 (fun _ h9 => h9) rfl (by decide +kernel) rfl rfl (Nat.le_of_ble_eq_true rfl) dX6_begin_83 (fun H locs hP hD hS => ?_)
          have hP : va_P D vwCl [((q 3), .inl (cI, 6, .inl ce)), ((q 4), .inl (cI, 6, .inl hi)), ((q 5), .inl (cI, 6, .inl la)), ((q 0), .inr (6, [.ref (q 1), .ref (q 2), .int 1, .int p1, .int p2, .int 0, .ref (q 3), .ref (q 4), .ref (q 5), .int 0, .ref (q 6), .ref (q 7), .ref (q 8), .ref (q 9), .int 0, .ref (q 10), .ref (q 11), .ref (q 12), .ref (q 13), .ref (q 14), .ref (q 15), .ref (q 16), .ref (q 17), .int 0]))] H := hP
          have hD : va_D A [((q 3), .inl (cI, 6, .inl ce)), ((q 4), .inl (cI, 6, .inl hi)), ((q 5), .inl (cI, 6, .inl la)), ((q 0), .inr (6, [.ref (q 1), .ref (q 2), .int 1, .int p1, .int p2, .int 0, .ref (q 3), .ref (q 4), .ref (q 5), .int 0, .ref (q 6), .ref (q 7), .ref (q 8), .ref (q 9), .int 0, .ref (q 10), .ref (q 11), .ref (q 12), .ref (q 13), .ref (q 14), .ref (q 15), .ref (q 16), .ref (q 17), .int 0]))] := hD
          refine lv_iconst (v := 0) hx hb dX6_begin_86 (by decide) ?_
          refine lv_istore (lv' := [(4, .int 0), (3, .int 1), (0, .ref (q 0)), (1, .int p1), (2, .int p2)]) hx hb dX6_begin_87 hl (by decide) rfl (fun ls hl => ?_)
          refine lpW (σ := (Nat) × (Nat → Int32) × (Nat → Int32) × (Nat → Int32)) (I := fun x H locs ls => va_P D vwCl [((q 3), .inl (cI, 6, .inl x.2.1)), ((q 4), .inl (cI, 6, .inl x.2.2.1)), ((q 5), .inl (cI, 6, .inl x.2.2.2)), ((q 0), .inr (6, [.ref (q 1), .ref (q 2), .int 1, .int p1, .int p2, .int 0, .ref (q 3), .ref (q 4), .ref (q 5), .int 0, .ref (q 6), .ref (q 7), .ref (q 8), .ref (q 9), .int 0, .ref (q 10), .ref (q 11), .ref (q 12), .ref (q 13), .ref (q 14), .ref (q 15), .ref (q 16), .ref (q 17), .int 0]))] H ∧ va_D A [((q 3), .inl (cI, 6, .inl x.2.1)), ((q 4), .inl (cI, 6, .inl x.2.2.1)), ((q 5), .inl (cI, 6, .inl x.2.2.2)), ((q 0), .inr (6, [.ref (q 1), .ref (q 2), .int 1, .int p1, .int p2, .int 0, .ref (q 3), .ref (q 4), .ref (q 5), .int 0, .ref (q 6), .ref (q 7), .ref (q 8), .ref (q 9), .int 0, .ref (q 10), .ref (q 11), .ref (q 12), .ref (q 13), .ref (q 14), .ref (q 15), .ref (q 16), .ref (q 17), .int 0]))] ∧ va_S A s.heap H locs ∧ lv_has ls 5 [(0, .ref (q 0)), (1, .int p1), (2, .int p2), (3, .int 1), (4, .int (nI x.1))] ∧ (x.1 ≤ 6) ∧ (x.2.1 = fillN ce (-1) x.1) ∧ (x.2.2.1 = fillN hi (-1) x.1) ∧ (x.2.2.2 = fillN la (-1) x.1)) (μ := fun x => 6 - x.1) ?_ (0, ce, hi, la) ⟨hP, hD, hS, lv_sub hl [2, 3, 4, 1, 0] rfl, (Nat.zero_le _), rfl, rfl, rfl⟩
          intro x H locs ls hI ih
          obtain ⟨i, e1, e2, e3⟩ := x
          obtain ⟨hP, hD, hS, hl, hq_hi1, hq_h1, hq_h2, hq_h3⟩ := hI
          have ih_89 := ih
          have hl : lv_has ls 5 [(0, .ref (q 0)), (1, .int p1), (2, .int p2), (3, .int 1), (4, .int (nI i))] := hl
          have hP : va_P D vwCl [((q 3), .inl (cI, 6, .inl e1)), ((q 4), .inl (cI, 6, .inl e2)), ((q 5), .inl (cI, 6, .inl e3)), ((q 0), .inr (6, [.ref (q 1), .ref (q 2), .int 1, .int p1, .int p2, .int 0, .ref (q 3), .ref (q 4), .ref (q 5), .int 0, .ref (q 6), .ref (q 7), .ref (q 8), .ref (q 9), .int 0, .ref (q 10), .ref (q 11), .ref (q 12), .ref (q 13), .ref (q 14), .ref (q 15), .ref (q 16), .ref (q 17), .int 0]))] H := hP
          have hD : va_D A [((q 3), .inl (cI, 6, .inl e1)), ((q 4), .inl (cI, 6, .inl e2)), ((q 5), .inl (cI, 6, .inl e3)), ((q 0), .inr (6, [.ref (q 1), .ref (q 2), .int 1, .int p1, .int p2, .int 0, .ref (q 3), .ref (q 4), .ref (q 5), .int 0, .ref (q 6), .ref (q 7), .ref (q 8), .ref (q 9), .int 0, .ref (q 10), .ref (q 11), .ref (q 12), .ref (q 13), .ref (q 14), .ref (q 15), .ref (q 16), .ref (q 17), .int 0]))] := hD
          have hi1 : i ≤ 6 := hq_hi1
          have h1 : e1 = fillN ce (-1) i := hq_h1
          have h2 : e2 = fillN hi (-1) i := hq_h2
          have h3 : e3 = fillN la (-1) i := hq_h3
          clear hq_hi1 hq_h1 hq_h2 hq_h3
          refine lv_iload hx hb dX6_begin_89 (lv_at hl 4 rfl) ?_
          refine lv_bipush (v := 6) hx hb dX6_begin_91 (by decide) ?_
          refine lv_icmp_ge (tgt := 126) hx hb dX6_begin_93 (by decide) (fun c_16 => ?_) (fun c_16 => ?_)
          · have he_93 : i = 6 := bd_eq (N := 6) (by decide) hi1 c_16
            rw [he_93] at h1
            obtain rfl := h1.symm
            rw [he_93] at h2
            obtain rfl := h2.symm
            rw [he_93] at h3
            obtain rfl := h3.symm
            have hP9 := hP.sub (ws' := [((q 0), .inr (6, [.ref (q 1), .ref (q 2), .int 1, .int p1, .int p2, .int 0, .ref (q 3), .ref (q 4), .ref (q 5), .int 0, .ref (q 6), .ref (q 7), .ref (q 8), .ref (q 9), .int 0, .ref (q 10), .ref (q 11), .ref (q 12), .ref (q 13), .ref (q 14), .ref (q 15), .ref (q 16), .ref (q 17), .int 0])), ((q 3), .inl (cI, 6, .inl (fillN ce (-1) 6))), ((q 4), .inl (cI, 6, .inl (fillN hi (-1) 6))), ((q 5), .inl (cI, 6, .inl (fillN la (-1) 6)))]) [3, 0, 1, 2] rfl
            have hD9 := hD.sub (ws' := [((q 0), .inr (6, [.ref (q 1), .ref (q 2), .int 1, .int p1, .int p2, .int 0, .ref (q 3), .ref (q 4), .ref (q 5), .int 0, .ref (q 6), .ref (q 7), .ref (q 8), .ref (q 9), .int 0, .ref (q 10), .ref (q 11), .ref (q 12), .ref (q 13), .ref (q 14), .ref (q 15), .ref (q 16), .ref (q 17), .int 0])), ((q 3), .inl (cI, 6, .inl (fillN ce (-1) 6))), ((q 4), .inl (cI, 6, .inl (fillN hi (-1) 6))), ((q 5), .inl (cI, 6, .inl (fillN la (-1) 6)))]) [3, 0, 1, 2] (by decide) rfl
            -- leaf 2
            refine W.widen (k := 0) (n := 0) (Nat.le_refl _) (Nat.le_refl _) ?_
            exact W.vret hx hb hr (fun t ht hW => ⟨⟨(1, p1, p2, 0, (fillN ce (-1) 6), (fillN hi (-1) 6), (fillN la (-1) 6), 0, 0, 0), rfl, ⟨(by rw [g_on_X6_begin, if_neg c_2, if_neg c_7, if_neg c_12, if_pos c_13]), (by rw [g_hm_X6_begin, if_neg c_2, if_neg c_7, if_neg c_12, if_pos c_13]), (by rw [g_aw_X6_begin, if_neg c_2, if_neg c_7, if_neg c_12, if_pos c_13]), (by rw [g_tk_X6_begin, if_neg c_2, if_neg c_7, if_neg c_12, if_pos c_13]), (by rw [g_ce_X6_begin, if_neg c_2, if_neg c_7, if_neg c_12, if_pos c_13]), (by rw [g_hi_X6_begin, if_neg c_2, if_neg c_7, if_neg c_12, if_pos c_13]), (by rw [g_la_X6_begin, if_neg c_2, if_neg c_7, if_neg c_12, if_pos c_13]), (by rw [g_sn_X6_begin, if_neg c_2, if_neg c_7, if_neg c_12, if_pos c_13]), (by rw [g_kn_X6_begin, if_neg c_2, if_neg c_7, if_neg c_12, if_pos c_13]), (by rw [g_th_X6_begin, if_neg c_2, if_neg c_7, if_neg c_12, if_pos c_13])⟩, by rw [ht]; exact hP9, va_K.moved hW.alike hK, hD9⟩, hS.F ht⟩) hS.2.2 dX6_begin_126
          · have hlt_93 : i < 6 := bd_lt (N := 6) (by decide) hi1 c_16
            refine lv_aload_n hx hb dX6_begin_96 rfl (lv_at hl 0 rfl) ?_
            refine va_get (D := D) (ci := 6) (v := .ref (q 3)) (C := RX6) (T := TX6) (N := 24) hx hb hts hi_X6 hown hK hP 3 rfl rfl 6 (by decide) hf_17 (fun _ h9 => h9) rfl dX6_begin_97 ?_
            refine lv_iload hx hb dX6_begin_100 (lv_at hl 4 rfl) ?_
            refine lv_iconst (v := (-1)) hx hb dX6_begin_102 (by decide) ?_
            refine va_iast hx hb hK hP hD hS 0 0 rfl rfl (vp_in_nI (n := i) (by omega) (by decide)) dX6_begin_103 (fun H locs hP hD hS => ?_)
            rw [nI_clamp (n := i) (by omega)] at hP hD
            have hP : va_P D vwCl [((q 3), .inl (cI, 6, .inl (upd e1 i (-1)))), ((q 4), .inl (cI, 6, .inl e2)), ((q 5), .inl (cI, 6, .inl e3)), ((q 0), .inr (6, [.ref (q 1), .ref (q 2), .int 1, .int p1, .int p2, .int 0, .ref (q 3), .ref (q 4), .ref (q 5), .int 0, .ref (q 6), .ref (q 7), .ref (q 8), .ref (q 9), .int 0, .ref (q 10), .ref (q 11), .ref (q 12), .ref (q 13), .ref (q 14), .ref (q 15), .ref (q 16), .ref (q 17), .int 0]))] H := hP
            have hD : va_D A [((q 3), .inl (cI, 6, .inl (upd e1 i (-1)))), ((q 4), .inl (cI, 6, .inl e2)), ((q 5), .inl (cI, 6, .inl e3)), ((q 0), .inr (6, [.ref (q 1), .ref (q 2), .int 1, .int p1, .int p2, .int 0, .ref (q 3), .ref (q 4), .ref (q 5), .int 0, .ref (q 6), .ref (q 7), .ref (q 8), .ref (q 9), .int 0, .ref (q 10), .ref (q 11), .ref (q 12), .ref (q 13), .ref (q 14), .ref (q 15), .ref (q 16), .ref (q 17), .int 0]))] := hD
            refine lv_aload_n hx hb dX6_begin_104 rfl (lv_at hl 0 rfl) ?_
            refine va_get (D := D) (ci := 6) (v := .ref (q 4)) (C := RX6) (T := TX6) (N := 24) hx hb hts hi_X6 hown hK hP 3 rfl rfl 7 (by decide) hf_20 (fun _ h9 => h9) rfl dX6_begin_105 ?_
            refine lv_iload hx hb dX6_begin_108 (lv_at hl 4 rfl) ?_
            refine lv_iconst (v := (-1)) hx hb dX6_begin_110 (by decide) ?_
            refine va_iast hx hb hK hP hD hS 1 0 rfl rfl (vp_in_nI (n := i) (by omega) (by decide)) dX6_begin_111 (fun H locs hP hD hS => ?_)
            rw [nI_clamp (n := i) (by omega)] at hP hD
            have hP : va_P D vwCl [((q 3), .inl (cI, 6, .inl (upd e1 i (-1)))), ((q 4), .inl (cI, 6, .inl (upd e2 i (-1)))), ((q 5), .inl (cI, 6, .inl e3)), ((q 0), .inr (6, [.ref (q 1), .ref (q 2), .int 1, .int p1, .int p2, .int 0, .ref (q 3), .ref (q 4), .ref (q 5), .int 0, .ref (q 6), .ref (q 7), .ref (q 8), .ref (q 9), .int 0, .ref (q 10), .ref (q 11), .ref (q 12), .ref (q 13), .ref (q 14), .ref (q 15), .ref (q 16), .ref (q 17), .int 0]))] H := hP
            have hD : va_D A [((q 3), .inl (cI, 6, .inl (upd e1 i (-1)))), ((q 4), .inl (cI, 6, .inl (upd e2 i (-1)))), ((q 5), .inl (cI, 6, .inl e3)), ((q 0), .inr (6, [.ref (q 1), .ref (q 2), .int 1, .int p1, .int p2, .int 0, .ref (q 3), .ref (q 4), .ref (q 5), .int 0, .ref (q 6), .ref (q 7), .ref (q 8), .ref (q 9), .int 0, .ref (q 10), .ref (q 11), .ref (q 12), .ref (q 13), .ref (q 14), .ref (q 15), .ref (q 16), .ref (q 17), .int 0]))] := hD
            refine lv_aload_n hx hb dX6_begin_112 rfl (lv_at hl 0 rfl) ?_
            refine va_get (D := D) (ci := 6) (v := .ref (q 5)) (C := RX6) (T := TX6) (N := 24) hx hb hts hi_X6 hown hK hP 3 rfl rfl 8 (by decide) hf_23 (fun _ h9 => h9) rfl dX6_begin_113 ?_
            refine lv_iload hx hb dX6_begin_116 (lv_at hl 4 rfl) ?_
            refine lv_iconst (v := (-1)) hx hb dX6_begin_118 (by decide) ?_
            refine va_iast hx hb hK hP hD hS 2 0 rfl rfl (vp_in_nI (n := i) (by omega) (by decide)) dX6_begin_119 (fun H locs hP hD hS => ?_)
            rw [nI_clamp (n := i) (by omega)] at hP hD
            have hP : va_P D vwCl [((q 3), .inl (cI, 6, .inl (upd e1 i (-1)))), ((q 4), .inl (cI, 6, .inl (upd e2 i (-1)))), ((q 5), .inl (cI, 6, .inl (upd e3 i (-1)))), ((q 0), .inr (6, [.ref (q 1), .ref (q 2), .int 1, .int p1, .int p2, .int 0, .ref (q 3), .ref (q 4), .ref (q 5), .int 0, .ref (q 6), .ref (q 7), .ref (q 8), .ref (q 9), .int 0, .ref (q 10), .ref (q 11), .ref (q 12), .ref (q 13), .ref (q 14), .ref (q 15), .ref (q 16), .ref (q 17), .int 0]))] H := hP
            have hD : va_D A [((q 3), .inl (cI, 6, .inl (upd e1 i (-1)))), ((q 4), .inl (cI, 6, .inl (upd e2 i (-1)))), ((q 5), .inl (cI, 6, .inl (upd e3 i (-1)))), ((q 0), .inr (6, [.ref (q 1), .ref (q 2), .int 1, .int p1, .int p2, .int 0, .ref (q 3), .ref (q 4), .ref (q 5), .int 0, .ref (q 6), .ref (q 7), .ref (q 8), .ref (q 9), .int 0, .ref (q 10), .ref (q 11), .ref (q 12), .ref (q 13), .ref (q 14), .ref (q 15), .ref (q 16), .ref (q 17), .int 0]))] := hD
            refine lv_iinc (v := nI (i + 1)) (lv' := [(4, .int (nI (i + 1))), (0, .ref (q 0)), (1, .int p1), (2, .int p2), (3, .int 1)]) hx hb dX6_begin_120 hl (k := 4) rfl (nI_1 i) (by decide) rfl (fun ls hl => ?_)
            refine lv_goto (tgt := 89) hx hb dX6_begin_123 (by decide) ?_
            refine W.widen (k := 0) (n := 0) (Nat.le_refl _) (Nat.le_refl _) ?_
            exact ih_89 ((i + 1), upd e1 i (-1), upd e2 i (-1), upd e3 i (-1)) _ _ _ (by first | omega | (dsimp only; omega)) ⟨hP, hD, hS, lv_sub hl [1, 2, 3, 4, 0] rfl, (by omega), (by rw [fillN, ← h1]), (by rw [fillN, ← h2]), (by rw [fillN, ← h3])⟩
        · refine lv_iconst (v := 3) hx hb dX6_begin_45 (by decide) ?_
          refine lv_goto (tgt := 50) hx hb dX6_begin_46 (by decide) ?_
          have hPc := hP.sub (ws' := [((q 0), .inr (6, [.ref (q 1), .ref (q 2), .int on, .int hm, .int aw, .int tk, .ref (q 3), .ref (q 4), .ref (q 5), .int (nI sn), .ref (q 6), .ref (q 7), .ref (q 8), .ref (q 9), .int (nI kn), .ref (q 10), .ref (q 11), .ref (q 12), .ref (q 13), .ref (q 14), .ref (q 15), .ref (q 16), .ref (q 17), .int th]))]) [0] rfl
          have hDc := hD.sub (ws' := [((q 0), .inr (6, [.ref (q 1), .ref (q 2), .int on, .int hm, .int aw, .int tk, .ref (q 3), .ref (q 4), .ref (q 5), .int (nI sn), .ref (q 6), .ref (q 7), .ref (q 8), .ref (q 9), .int (nI kn), .ref (q 10), .ref (q 11), .ref (q 12), .ref (q 13), .ref (q 14), .ref (q 15), .ref (q 16), .ref (q 17), .int th]))]) [0] (by decide) rfl
          have hFc := va_free (wc := [((q 0), .inr (6, [.ref (q 1), .ref (q 2), .int on, .int hm, .int aw, .int tk, .ref (q 3), .ref (q 4), .ref (q 5), .int (nI sn), .ref (q 6), .ref (q 7), .ref (q 8), .ref (q 9), .int (nI kn), .ref (q 10), .ref (q 11), .ref (q 12), .ref (q 13), .ref (q 14), .ref (q 15), .ref (q 16), .ref (q 17), .int th]))]) hD hS hA [0] rfl
          refine va_calli (va_runV (As := [.int 3]) (rest := []) ⟨hx, hb, hml, hown, hts⟩ (c_X6_fails l D cI cZ cJ cA H.size q on hm aw tk sn kn th 3) (cwV 1 hts gX6_begin_X6_fails rfl rfl rfl (by decide +kernel) ⟨Nat.le_of_ble_eq_true rfl, Nat.le_of_ble_eq_true rfl⟩) ⟨pcW_bl, va_recv hK hPc (ci := 6) (q0 := 0) rfl rfl, fun U hU hW => ⟨rfl, by rw [hU], by rw [hU]; exact hPc, va_K.moved hW.alike hK, hDc.weaken (fun _ _ _ _ => trivial)⟩⟩ rfl rfl hl.1 rfl (lv_room (Nat.le_of_ble_eq_true rfl)) dX6_begin_50 ⟨Nat.le_of_ble_eq_true rfl, Nat.le_of_ble_eq_true rfl⟩) hS (fun q _ h => hFc q h) hFc (fun r_17 u t H locs ht hvm hw hB hz1 hk1 hS => ?_)
          try dsimp only at hw
          obtain ⟨u0_17, rfl⟩ : ∃ z, z = u := ⟨_, rfl⟩
          obtain ⟨hr_17, hu0_17⟩ := hw
          obtain ⟨hP1, hK1, hD1⟩ := hB
          rw [ht] at hP1
          obtain ⟨hP, hD⟩ := va_join (wr := [((q 3), .inl (cI, 6, .inl ce)), ((q 4), .inl (cI, 6, .inl hi)), ((q 5), .inl (cI, 6, .inl la))]) (w1 := [((q 0), .inr (6, [.ref (q 1), .ref (q 2), .int on, .int hm, .int aw, .int tk, .ref (q 3), .ref (q 4), .ref (q 5), .int (nI sn), .ref (q 6), .ref (q 7), .ref (q 8), .ref (q 9), .int (nI kn), .ref (q 10), .ref (q 11), .ref (q 12), .ref (q 13), .ref (q 14), .ref (q 15), .ref (q 16), .ref (q 17), .int u0_17]))]) hP hD [0] [1, 2, 3] rfl rfl (by decide) (by decide) hk1 hFc hP1 hD1
          obtain rfl := hu0_17.symm
          have hP : va_P D vwCl [((q 3), .inl (cI, 6, .inl ce)), ((q 4), .inl (cI, 6, .inl hi)), ((q 5), .inl (cI, 6, .inl la)), ((q 0), .inr (6, [.ref (q 1), .ref (q 2), .int on, .int hm, .int aw, .int tk, .ref (q 3), .ref (q 4), .ref (q 5), .int (nI sn), .ref (q 6), .ref (q 7), .ref (q 8), .ref (q 9), .int (nI kn), .ref (q 10), .ref (q 11), .ref (q 12), .ref (q 13), .ref (q 14), .ref (q 15), .ref (q 16), .ref (q 17), .int 3]))] H := hP
          have hD : va_D A [((q 3), .inl (cI, 6, .inl ce)), ((q 4), .inl (cI, 6, .inl hi)), ((q 5), .inl (cI, 6, .inl la)), ((q 0), .inr (6, [.ref (q 1), .ref (q 2), .int on, .int hm, .int aw, .int tk, .ref (q 3), .ref (q 4), .ref (q 5), .int (nI sn), .ref (q 6), .ref (q 7), .ref (q 8), .ref (q 9), .int (nI kn), .ref (q 10), .ref (q 11), .ref (q 12), .ref (q 13), .ref (q 14), .ref (q 15), .ref (q 16), .ref (q 17), .int 3]))] := hD
          obtain rfl := hr_17.symm
          refine W.widen (k := 0) (n := 0) (Nat.le_refl _) (Nat.le_refl _) ?_
          refine tp_eq (y := 1) rfl ?_
          refine lv_if_ne (tgt := 126) hx hb dX6_begin_53 (by decide) (fun _ => ?_) (fun c_18 => absurd c_18 (by decide))
          have hP9 := hP.sub (ws' := [((q 0), .inr (6, [.ref (q 1), .ref (q 2), .int on, .int hm, .int aw, .int tk, .ref (q 3), .ref (q 4), .ref (q 5), .int (nI sn), .ref (q 6), .ref (q 7), .ref (q 8), .ref (q 9), .int (nI kn), .ref (q 10), .ref (q 11), .ref (q 12), .ref (q 13), .ref (q 14), .ref (q 15), .ref (q 16), .ref (q 17), .int 3])), ((q 3), .inl (cI, 6, .inl ce)), ((q 4), .inl (cI, 6, .inl hi)), ((q 5), .inl (cI, 6, .inl la))]) [3, 0, 1, 2] rfl
          have hD9 := hD.sub (ws' := [((q 0), .inr (6, [.ref (q 1), .ref (q 2), .int on, .int hm, .int aw, .int tk, .ref (q 3), .ref (q 4), .ref (q 5), .int (nI sn), .ref (q 6), .ref (q 7), .ref (q 8), .ref (q 9), .int (nI kn), .ref (q 10), .ref (q 11), .ref (q 12), .ref (q 13), .ref (q 14), .ref (q 15), .ref (q 16), .ref (q 17), .int 3])), ((q 3), .inl (cI, 6, .inl ce)), ((q 4), .inl (cI, 6, .inl hi)), ((q 5), .inl (cI, 6, .inl la))]) [3, 0, 1, 2] (by decide) rfl
          -- leaf 3
          refine W.widen (k := 0) (n := 0) (Nat.le_refl _) (Nat.le_refl _) ?_
          exact W.vret hx hb hr (fun t ht hW => ⟨⟨(on, hm, aw, tk, ce, hi, la, sn, kn, 3), rfl, ⟨(by rw [g_on_X6_begin, if_neg c_2, if_neg c_7, if_neg c_12, if_neg c_13]), (by rw [g_hm_X6_begin, if_neg c_2, if_neg c_7, if_neg c_12, if_neg c_13]), (by rw [g_aw_X6_begin, if_neg c_2, if_neg c_7, if_neg c_12, if_neg c_13]), (by rw [g_tk_X6_begin, if_neg c_2, if_neg c_7, if_neg c_12, if_neg c_13]), (by rw [g_ce_X6_begin, if_neg c_2, if_neg c_7, if_neg c_12, if_neg c_13]), (by rw [g_hi_X6_begin, if_neg c_2, if_neg c_7, if_neg c_12, if_neg c_13]), (by rw [g_la_X6_begin, if_neg c_2, if_neg c_7, if_neg c_12, if_neg c_13]), (by rw [g_sn_X6_begin, if_neg c_2, if_neg c_7, if_neg c_12, if_neg c_13]), (by rw [g_kn_X6_begin, if_neg c_2, if_neg c_7, if_neg c_12, if_neg c_13]), (by rw [g_th_X6_begin, if_neg c_2, if_neg c_7, if_neg c_12, if_neg c_13])⟩, by rw [ht]; exact hP9, va_K.moved hW.alike hK, hD9⟩, hS.F ht⟩) hS.2.2 dX6_begin_126
      · refine lv_iconst (v := 2) hx hb dX6_begin_34 (by decide) ?_
        refine lv_goto (tgt := 50) hx hb dX6_begin_35 (by decide) ?_
        have hPc := hP.sub (ws' := [((q 0), .inr (6, [.ref (q 1), .ref (q 2), .int on, .int hm, .int aw, .int tk, .ref (q 3), .ref (q 4), .ref (q 5), .int (nI sn), .ref (q 6), .ref (q 7), .ref (q 8), .ref (q 9), .int (nI kn), .ref (q 10), .ref (q 11), .ref (q 12), .ref (q 13), .ref (q 14), .ref (q 15), .ref (q 16), .ref (q 17), .int th]))]) [0] rfl
        have hDc := hD.sub (ws' := [((q 0), .inr (6, [.ref (q 1), .ref (q 2), .int on, .int hm, .int aw, .int tk, .ref (q 3), .ref (q 4), .ref (q 5), .int (nI sn), .ref (q 6), .ref (q 7), .ref (q 8), .ref (q 9), .int (nI kn), .ref (q 10), .ref (q 11), .ref (q 12), .ref (q 13), .ref (q 14), .ref (q 15), .ref (q 16), .ref (q 17), .int th]))]) [0] (by decide) rfl
        have hFc := va_free (wc := [((q 0), .inr (6, [.ref (q 1), .ref (q 2), .int on, .int hm, .int aw, .int tk, .ref (q 3), .ref (q 4), .ref (q 5), .int (nI sn), .ref (q 6), .ref (q 7), .ref (q 8), .ref (q 9), .int (nI kn), .ref (q 10), .ref (q 11), .ref (q 12), .ref (q 13), .ref (q 14), .ref (q 15), .ref (q 16), .ref (q 17), .int th]))]) hD hS hA [0] rfl
        refine va_calli (va_runV (As := [.int 2]) (rest := []) ⟨hx, hb, hml, hown, hts⟩ (c_X6_fails l D cI cZ cJ cA H.size q on hm aw tk sn kn th 2) (cwV 1 hts gX6_begin_X6_fails rfl rfl rfl (by decide +kernel) ⟨Nat.le_of_ble_eq_true rfl, Nat.le_of_ble_eq_true rfl⟩) ⟨pcW_bl, va_recv hK hPc (ci := 6) (q0 := 0) rfl rfl, fun U hU hW => ⟨rfl, by rw [hU], by rw [hU]; exact hPc, va_K.moved hW.alike hK, hDc.weaken (fun _ _ _ _ => trivial)⟩⟩ rfl rfl hl.1 rfl (lv_room (Nat.le_of_ble_eq_true rfl)) dX6_begin_50 ⟨Nat.le_of_ble_eq_true rfl, Nat.le_of_ble_eq_true rfl⟩) hS (fun q _ h => hFc q h) hFc (fun r_19 u t H locs ht hvm hw hB hz1 hk1 hS => ?_)
        try dsimp only at hw
        obtain ⟨u0_19, rfl⟩ : ∃ z, z = u := ⟨_, rfl⟩
        obtain ⟨hr_19, hu0_19⟩ := hw
        obtain ⟨hP1, hK1, hD1⟩ := hB
        rw [ht] at hP1
        obtain ⟨hP, hD⟩ := va_join (wr := [((q 3), .inl (cI, 6, .inl ce)), ((q 4), .inl (cI, 6, .inl hi)), ((q 5), .inl (cI, 6, .inl la))]) (w1 := [((q 0), .inr (6, [.ref (q 1), .ref (q 2), .int on, .int hm, .int aw, .int tk, .ref (q 3), .ref (q 4), .ref (q 5), .int (nI sn), .ref (q 6), .ref (q 7), .ref (q 8), .ref (q 9), .int (nI kn), .ref (q 10), .ref (q 11), .ref (q 12), .ref (q 13), .ref (q 14), .ref (q 15), .ref (q 16), .ref (q 17), .int u0_19]))]) hP hD [0] [1, 2, 3] rfl rfl (by decide) (by decide) hk1 hFc hP1 hD1
        obtain rfl := hu0_19.symm
        have hP : va_P D vwCl [((q 3), .inl (cI, 6, .inl ce)), ((q 4), .inl (cI, 6, .inl hi)), ((q 5), .inl (cI, 6, .inl la)), ((q 0), .inr (6, [.ref (q 1), .ref (q 2), .int on, .int hm, .int aw, .int tk, .ref (q 3), .ref (q 4), .ref (q 5), .int (nI sn), .ref (q 6), .ref (q 7), .ref (q 8), .ref (q 9), .int (nI kn), .ref (q 10), .ref (q 11), .ref (q 12), .ref (q 13), .ref (q 14), .ref (q 15), .ref (q 16), .ref (q 17), .int 2]))] H := hP
        have hD : va_D A [((q 3), .inl (cI, 6, .inl ce)), ((q 4), .inl (cI, 6, .inl hi)), ((q 5), .inl (cI, 6, .inl la)), ((q 0), .inr (6, [.ref (q 1), .ref (q 2), .int on, .int hm, .int aw, .int tk, .ref (q 3), .ref (q 4), .ref (q 5), .int (nI sn), .ref (q 6), .ref (q 7), .ref (q 8), .ref (q 9), .int (nI kn), .ref (q 10), .ref (q 11), .ref (q 12), .ref (q 13), .ref (q 14), .ref (q 15), .ref (q 16), .ref (q 17), .int 2]))] := hD
        obtain rfl := hr_19.symm
        refine W.widen (k := 0) (n := 0) (Nat.le_refl _) (Nat.le_refl _) ?_
        refine tp_eq (y := 1) rfl ?_
        refine lv_if_ne (tgt := 126) hx hb dX6_begin_53 (by decide) (fun _ => ?_) (fun c_20 => absurd c_20 (by decide))
        have hP9 := hP.sub (ws' := [((q 0), .inr (6, [.ref (q 1), .ref (q 2), .int on, .int hm, .int aw, .int tk, .ref (q 3), .ref (q 4), .ref (q 5), .int (nI sn), .ref (q 6), .ref (q 7), .ref (q 8), .ref (q 9), .int (nI kn), .ref (q 10), .ref (q 11), .ref (q 12), .ref (q 13), .ref (q 14), .ref (q 15), .ref (q 16), .ref (q 17), .int 2])), ((q 3), .inl (cI, 6, .inl ce)), ((q 4), .inl (cI, 6, .inl hi)), ((q 5), .inl (cI, 6, .inl la))]) [3, 0, 1, 2] rfl
        have hD9 := hD.sub (ws' := [((q 0), .inr (6, [.ref (q 1), .ref (q 2), .int on, .int hm, .int aw, .int tk, .ref (q 3), .ref (q 4), .ref (q 5), .int (nI sn), .ref (q 6), .ref (q 7), .ref (q 8), .ref (q 9), .int (nI kn), .ref (q 10), .ref (q 11), .ref (q 12), .ref (q 13), .ref (q 14), .ref (q 15), .ref (q 16), .ref (q 17), .int 2])), ((q 3), .inl (cI, 6, .inl ce)), ((q 4), .inl (cI, 6, .inl hi)), ((q 5), .inl (cI, 6, .inl la))]) [3, 0, 1, 2] (by decide) rfl
        -- leaf 4
        refine W.widen (k := 0) (n := 0) (Nat.le_refl _) (Nat.le_refl _) ?_
        exact W.vret hx hb hr (fun t ht hW => ⟨⟨(on, hm, aw, tk, ce, hi, la, sn, kn, 2), rfl, ⟨(by rw [g_on_X6_begin, if_neg c_2, if_neg c_7, if_pos c_12]), (by rw [g_hm_X6_begin, if_neg c_2, if_neg c_7, if_pos c_12]), (by rw [g_aw_X6_begin, if_neg c_2, if_neg c_7, if_pos c_12]), (by rw [g_tk_X6_begin, if_neg c_2, if_neg c_7, if_pos c_12]), (by rw [g_ce_X6_begin, if_neg c_2, if_neg c_7, if_pos c_12]), (by rw [g_hi_X6_begin, if_neg c_2, if_neg c_7, if_pos c_12]), (by rw [g_la_X6_begin, if_neg c_2, if_neg c_7, if_pos c_12]), (by rw [g_sn_X6_begin, if_neg c_2, if_neg c_7, if_pos c_12]), (by rw [g_kn_X6_begin, if_neg c_2, if_neg c_7, if_pos c_12]), (by rw [g_th_X6_begin, if_neg c_2, if_neg c_7, if_pos c_12])⟩, by rw [ht]; exact hP9, va_K.moved hW.alike hK, hD9⟩, hS.F ht⟩) hS.2.2 dX6_begin_126

noncomputable def f_X6_move (bk : Nat → Int32) (on : Int32) (hm : Int32) (aw : Int32) (tk : Int32) (ce : Nat → Int32) (sn : Nat) (kn : Nat) (th : Int32) (p1 : Int32) (p2 : Int32) : Int32 := if (f_X6_isIn p1 0 5) = 0 then 0 else (if (f_X6_isIn p2 0 143) = 0 then 0 else (if on = 0 then 0 else (if (ce p1.toNatClampNeg) = (-2) then 0 else (if (ce p1.toNatClampNeg) = (-1) then (if (bk p2.toNatClampNeg) = 0 then (if (sOn ce p2 6) = (-1) then ce p1.toNatClampNeg else 0) else 0) else (if (f_X6_apart (ce p1.toNatClampNeg) p2) = 1 then (if (bk p2.toNatClampNeg) = 0 then (if (sOn ce p2 6) = (-1) then ce p1.toNatClampNeg else 0) else 0) else 0)))))
noncomputable def g_ce_X6_move (bk : Nat → Int32) (on : Int32) (hm : Int32) (aw : Int32) (tk : Int32) (ce : Nat → Int32) (sn : Nat) (kn : Nat) (th : Int32) (p1 : Int32) (p2 : Int32) : Nat → Int32 := if (f_X6_isIn p1 0 5) = 0 then ce else (if (f_X6_isIn p2 0 143) = 0 then ce else (if on = 0 then ce else (if (ce p1.toNatClampNeg) = (-2) then ce else (if (ce p1.toNatClampNeg) = (-1) then (if (bk p2.toNatClampNeg) = 0 then (if (sOn ce p2 6) = (-1) then upd ce p1.toNatClampNeg p2 else ce) else ce) else (if (f_X6_apart (ce p1.toNatClampNeg) p2) = 1 then (if (bk p2.toNatClampNeg) = 0 then (if (sOn ce p2 6) = (-1) then upd ce p1.toNatClampNeg p2 else ce) else ce) else ce)))))
noncomputable def g_th_X6_move (bk : Nat → Int32) (on : Int32) (hm : Int32) (aw : Int32) (tk : Int32) (ce : Nat → Int32) (sn : Nat) (kn : Nat) (th : Int32) (p1 : Int32) (p2 : Int32) : Int32 := if (f_X6_isIn p1 0 5) = 0 then 1 else (if (f_X6_isIn p2 0 143) = 0 then 1 else (if on = 0 then 2 else (if (ce p1.toNatClampNeg) = (-2) then 2 else (if (ce p1.toNatClampNeg) = (-1) then (if (bk p2.toNatClampNeg) = 0 then (if (sOn ce p2 6) = (-1) then 0 else 2) else 2) else (if (f_X6_apart (ce p1.toNatClampNeg) p2) = 1 then (if (bk p2.toNatClampNeg) = 0 then (if (sOn ce p2 6) = (-1) then 0 else 2) else 2) else 2)))))
set_option maxHeartbeats 4000000 in
set_option maxRecDepth 100000 in
theorem c_X6_move (l : Launch) (D : va_G) (cI cZ cJ cA : ClassId) (sz : Nat) (q : Nat → Nat) (bk : Nat → Int32) (on : Int32) (hm : Int32) (aw : Int32) (tk : Int32) (ce : Nat → Int32) (sn : Nat) (kn : Nat) (th : Int32) (p1 : Int32) (p2 : Int32) : Met l yX6_move wsX6_move ({ frames := 2, cells := 0, slots := 0, locals := 43 } : Room) (va_Pc [.ref (q 0), .int p1, .int p2] (pcW D (tyL cI cZ cJ cA) [((q 0), .inr (6, [.ref (q 1), .ref (q 2), .int on, .int hm, .int aw, .int tk, .ref (q 3), .ref (q 4), .ref (q 5), .int (nI sn), .ref (q 6), .ref (q 7), .ref (q 8), .ref (q 9), .int (nI kn), .ref (q 10), .ref (q 11), .ref (q 12), .ref (q 13), .ref (q 14), .ref (q 15), .ref (q 16), .ref (q 17), .int th])), ((q 1), .inl (cZ, 144, .inl bk)), ((q 3), .inl (cI, 6, .inl ce))] sz)) (va_Qi (fun (r : Int32) (u : (Nat → Int32) × (Int32)) => r = f_X6_move bk on hm aw tk ce sn kn th p1 p2 ∧ u.1 = g_ce_X6_move bk on hm aw tk ce sn kn th p1 p2 ∧ u.2 = g_th_X6_move bk on hm aw tk ce sn kn th p1 p2) (fun u t => bcW D (tyL cI cZ cJ cA) (va_A [((q 0), .inr (6, [.ref (q 1), .ref (q 2), .int on, .int hm, .int aw, .int tk, .ref (q 3), .ref (q 4), .ref (q 5), .int (nI sn), .ref (q 6), .ref (q 7), .ref (q 8), .ref (q 9), .int (nI kn), .ref (q 10), .ref (q 11), .ref (q 12), .ref (q 13), .ref (q 14), .ref (q 15), .ref (q 16), .ref (q 17), .int th])), ((q 1), .inl (cZ, 144, .inl bk)), ((q 3), .inl (cI, 6, .inl ce))] sz) [((q 0), .inr (6, [.ref (q 1), .ref (q 2), .int on, .int hm, .int aw, .int tk, .ref (q 3), .ref (q 4), .ref (q 5), .int (nI sn), .ref (q 6), .ref (q 7), .ref (q 8), .ref (q 9), .int (nI kn), .ref (q 10), .ref (q 11), .ref (q 12), .ref (q 13), .ref (q 14), .ref (q 15), .ref (q 16), .ref (q 17), .int u.2])), ((q 1), .inl (cZ, 144, .inl bk)), ((q 3), .inl (cI, 6, .inl u.1))] t) (va_A [((q 0), .inr (6, [.ref (q 1), .ref (q 2), .int on, .int hm, .int aw, .int tk, .ref (q 3), .ref (q 4), .ref (q 5), .int (nI sn), .ref (q 6), .ref (q 7), .ref (q 8), .ref (q 9), .int (nI kn), .ref (q 10), .ref (q 11), .ref (q 12), .ref (q 13), .ref (q 14), .ref (q 15), .ref (q 16), .ref (q 17), .int th])), ((q 1), .inl (cZ, 144, .inl bk)), ((q 3), .inl (cI, 6, .inl ce))] sz)) 0 0 (va_A [((q 0), .inr (6, [.ref (q 1), .ref (q 2), .int on, .int hm, .int aw, .int tk, .ref (q 3), .ref (q 4), .ref (q 5), .int (nI sn), .ref (q 6), .ref (q 7), .ref (q 8), .ref (q 9), .int (nI kn), .ref (q 10), .ref (q 11), .ref (q 12), .ref (q 13), .ref (q 14), .ref (q 15), .ref (q 16), .ref (q 17), .int th])), ((q 1), .inl (cZ, 144, .inl bk)), ((q 3), .inl (cI, 6, .inl ce))] sz) := by
  refine Met.ofW (cc := cX6_move) (maxL := 6) (ret := (some .int)) (by decide) rfl ?_
  intro p e s m args below meth c s₁ B hml hv
  obtain ⟨rfl, hsz, hP, hK, hD0⟩ := hv
  have hx := B.exec
  have hb := B.bytes
  have hr := B.returns
  have hts := atoms_spec (ws := wsX6_move) B.pre
  have hown : s.vm.findClass RX6 = some m.cls := findClass_of_methodNamed B.named
  have hlocks := B.notSynchronized
  subst hsz
  have hD := hD0.self (sz := s.heap.size)
  generalize hAe : va_A [((q 0), .inr (6, [.ref (q 1), .ref (q 2), .int on, .int hm, .int aw, .int tk, .ref (q 3), .ref (q 4), .ref (q 5), .int (nI sn), .ref (q 6), .ref (q 7), .ref (q 8), .ref (q 9), .int (nI kn), .ref (q 10), .ref (q 11), .ref (q 12), .ref (q 13), .ref (q 14), .ref (q 15), .ref (q 16), .ref (q 17), .int th])), ((q 1), .inl (cZ, 144, .inl bk)), ((q 3), .inl (cI, 6, .inl ce))] s.heap.size = A at hD ⊢
  have hA : ∀ q : Nat, s.heap.size ≤ q → A q := fun q h => by rw [← hAe]; exact Or.inr h
  have hAR : ∀ q : Nat, s.heap.size ≤ q → (fun q : Nat => s.heap.size ≤ q) q := fun _ h => h
  have hS : va_S A s.heap s.heap [] := va_S.rf
  have hP : va_P D vwCl [((q 0), .inr (6, [.ref (q 1), .ref (q 2), .int on, .int hm, .int aw, .int tk, .ref (q 3), .ref (q 4), .ref (q 5), .int (nI sn), .ref (q 6), .ref (q 7), .ref (q 8), .ref (q 9), .int (nI kn), .ref (q 10), .ref (q 11), .ref (q 12), .ref (q 13), .ref (q 14), .ref (q 15), .ref (q 16), .ref (q 17), .int th])), ((q 1), .inl (cZ, 144, .inl bk)), ((q 3), .inl (cI, 6, .inl ce))] s.heap := hP
  have hl := lv_entry ([.ref (q 0), .int p1, .int p2]) (n := 6) (Nat.le_of_ble_eq_true rfl)
  rw [lg_entry_eq]
  generalize (lg_sl ([.ref (q 0), .int p1, .int p2]) ++ List.replicate (6 - (lg_sl ([.ref (q 0), .int p1, .int p2])).length) Slot.unset).toArray = ls at hl ⊢
  have hl : lv_has ls 6 [(0, .ref (q 0)), (1, .int p1), (2, .int p2)] := hl
  have hf_84 := hts (.fieldLink RX6 84 "PaintballAtlasModel" "isOn" "Z") (by decide +kernel)
  have hi_X6 : ∀ w ∈ wsX60, w ∈ wsX6_move := by decide +kernel
  have hf_17 := hts (.fieldLink RX6 17 "PaintballAtlasModel" "where" "[I") (by decide +kernel)
  have hf_7 := hts (.fieldLink RX6 7 "PaintballAtlasModel" "isBunker" "[Z") (by decide +kernel)
  refine lv_iload_n hx hb dX6_move_0 rfl (lv_at hl 1 rfl) ?_
  have hPc := hP.sub (ws' := []) [] rfl
  refine va_calli (va_runS (As := [.int p1]) (rest := []) ⟨hx, hb, hml, hown, hts⟩ (c_X6_isPlayer l D cI cZ cJ cA s.heap.size p1) (va_cwS 1 hts gX6_move_X6_isPlayer rfl rfl rfl (by decide +kernel) ⟨Nat.le_of_ble_eq_true rfl, Nat.le_of_ble_eq_true rfl⟩) ⟨pcR_bl, fun U hU hW => ⟨rfl, by rw [hU], by rw [hU]; exact hPc, va_K.moved hW.alike hK⟩⟩ rfl rfl hl.1 rfl (lv_room (Nat.le_of_ble_eq_true rfl)) dX6_move_1 ⟨Nat.le_of_ble_eq_true rfl, Nat.le_of_ble_eq_true rfl⟩) hS (fun _ h1 h2 => absurd h1 (Nat.not_lt.mpr h2)) (rd_free hS hA) (fun r_1 u t H locs ht hvm hw hB hz1 hk1 hS => ?_)
  try dsimp only at hw
  have hr_1 := hw
  have hP := rd_P hP hk1
  obtain rfl := hr_1.symm
  refine W.widen (k := 0) (n := 0) (Nat.le_refl _) (Nat.le_refl _) ?_
  refine lv_if_eq (tgt := 18) hx hb dX6_move_4 (by decide) (fun c_2 => ?_) (fun c_2 => ?_)
  · refine lv_iconst (v := 0) hx hb dX6_move_18 (by decide) ?_
    refine lv_istore_n (lv' := [(3, .int 0), (0, .ref (q 0)), (1, .int p1), (2, .int p2)]) hx hb dX6_move_19 rfl hl (by decide) rfl (fun ls hl => ?_)
    refine lv_iload_n hx hb dX6_move_20 rfl (lv_at hl 0 rfl) ?_
    refine lv_if_eq (tgt := 88) hx hb dX6_move_21 (by decide) (fun _ => ?_) (fun c_3 => absurd (by decide) c_3)
    refine lv_iconst (v := 0) hx hb dX6_move_88 (by decide) ?_
    refine lv_istore (lv' := [(4, .int 0), (3, .int 0), (0, .ref (q 0)), (1, .int p1), (2, .int p2)]) hx hb dX6_move_89 hl (by decide) rfl (fun ls hl => ?_)
    refine lv_aload_n hx hb dX6_move_91 rfl (lv_at hl 2 rfl) ?_
    refine lv_iload_n hx hb dX6_move_92 rfl (lv_at hl 1 rfl) ?_
    refine lv_if_ne (tgt := 100) hx hb dX6_move_93 (by decide) (fun c_4 => absurd (by decide) c_4) (fun _ => ?_)
    refine lv_iconst (v := 1) hx hb dX6_move_96 (by decide) ?_
    refine lv_goto (tgt := 110) hx hb dX6_move_97 (by decide) ?_
    have hPc := hP.sub (ws' := [((q 0), .inr (6, [.ref (q 1), .ref (q 2), .int on, .int hm, .int aw, .int tk, .ref (q 3), .ref (q 4), .ref (q 5), .int (nI sn), .ref (q 6), .ref (q 7), .ref (q 8), .ref (q 9), .int (nI kn), .ref (q 10), .ref (q 11), .ref (q 12), .ref (q 13), .ref (q 14), .ref (q 15), .ref (q 16), .ref (q 17), .int th]))]) [0] rfl
    have hDc := hD.sub (ws' := [((q 0), .inr (6, [.ref (q 1), .ref (q 2), .int on, .int hm, .int aw, .int tk, .ref (q 3), .ref (q 4), .ref (q 5), .int (nI sn), .ref (q 6), .ref (q 7), .ref (q 8), .ref (q 9), .int (nI kn), .ref (q 10), .ref (q 11), .ref (q 12), .ref (q 13), .ref (q 14), .ref (q 15), .ref (q 16), .ref (q 17), .int th]))]) [0] (by decide) rfl
    have hFc := va_free (wc := [((q 0), .inr (6, [.ref (q 1), .ref (q 2), .int on, .int hm, .int aw, .int tk, .ref (q 3), .ref (q 4), .ref (q 5), .int (nI sn), .ref (q 6), .ref (q 7), .ref (q 8), .ref (q 9), .int (nI kn), .ref (q 10), .ref (q 11), .ref (q 12), .ref (q 13), .ref (q 14), .ref (q 15), .ref (q 16), .ref (q 17), .int th]))]) hD hS hA [0] rfl
    refine va_calli (va_runV (As := [.int 1]) (rest := []) ⟨hx, hb, hml, hown, hts⟩ (c_X6_fails l D cI cZ cJ cA H.size q on hm aw tk sn kn th 1) (cwV 1 hts gX6_move_X6_fails rfl rfl rfl (by decide +kernel) ⟨Nat.le_of_ble_eq_true rfl, Nat.le_of_ble_eq_true rfl⟩) ⟨pcW_bl, va_recv hK hPc (ci := 6) (q0 := 0) rfl rfl, fun U hU hW => ⟨rfl, by rw [hU], by rw [hU]; exact hPc, va_K.moved hW.alike hK, hDc.weaken (fun _ _ _ _ => trivial)⟩⟩ rfl rfl hl.1 rfl (lv_room (Nat.le_of_ble_eq_true rfl)) dX6_move_110 ⟨Nat.le_of_ble_eq_true rfl, Nat.le_of_ble_eq_true rfl⟩) hS (fun q _ h => hFc q h) hFc (fun r_5 u t H locs ht hvm hw hB hz1 hk1 hS => ?_)
    try dsimp only at hw
    obtain ⟨u0_5, rfl⟩ : ∃ z, z = u := ⟨_, rfl⟩
    obtain ⟨hr_5, hu0_5⟩ := hw
    obtain ⟨hP1, hK1, hD1⟩ := hB
    rw [ht] at hP1
    obtain ⟨hP, hD⟩ := va_join (wr := [((q 1), .inl (cZ, 144, .inl bk)), ((q 3), .inl (cI, 6, .inl ce))]) (w1 := [((q 0), .inr (6, [.ref (q 1), .ref (q 2), .int on, .int hm, .int aw, .int tk, .ref (q 3), .ref (q 4), .ref (q 5), .int (nI sn), .ref (q 6), .ref (q 7), .ref (q 8), .ref (q 9), .int (nI kn), .ref (q 10), .ref (q 11), .ref (q 12), .ref (q 13), .ref (q 14), .ref (q 15), .ref (q 16), .ref (q 17), .int u0_5]))]) hP hD [0] [1, 2] rfl rfl (by decide) (by decide) hk1 hFc hP1 hD1
    obtain rfl := hu0_5.symm
    have hP : va_P D vwCl [((q 1), .inl (cZ, 144, .inl bk)), ((q 3), .inl (cI, 6, .inl ce)), ((q 0), .inr (6, [.ref (q 1), .ref (q 2), .int on, .int hm, .int aw, .int tk, .ref (q 3), .ref (q 4), .ref (q 5), .int (nI sn), .ref (q 6), .ref (q 7), .ref (q 8), .ref (q 9), .int (nI kn), .ref (q 10), .ref (q 11), .ref (q 12), .ref (q 13), .ref (q 14), .ref (q 15), .ref (q 16), .ref (q 17), .int 1]))] H := hP
    have hD : va_D A [((q 1), .inl (cZ, 144, .inl bk)), ((q 3), .inl (cI, 6, .inl ce)), ((q 0), .inr (6, [.ref (q 1), .ref (q 2), .int on, .int hm, .int aw, .int tk, .ref (q 3), .ref (q 4), .ref (q 5), .int (nI sn), .ref (q 6), .ref (q 7), .ref (q 8), .ref (q 9), .int (nI kn), .ref (q 10), .ref (q 11), .ref (q 12), .ref (q 13), .ref (q 14), .ref (q 15), .ref (q 16), .ref (q 17), .int 1]))] := hD
    obtain rfl := hr_5.symm
    refine W.widen (k := 0) (n := 0) (Nat.le_refl _) (Nat.le_refl _) ?_
    refine tp_eq (y := 1) rfl ?_
    refine lv_if_eq (tgt := 118) hx hb dX6_move_113 (by decide) (fun c_6 => absurd c_6 (by decide)) (fun _ => ?_)
    refine lv_iconst (v := 0) hx hb dX6_move_116 (by decide) ?_
    have hP9 := hP.sub (ws' := [((q 0), .inr (6, [.ref (q 1), .ref (q 2), .int on, .int hm, .int aw, .int tk, .ref (q 3), .ref (q 4), .ref (q 5), .int (nI sn), .ref (q 6), .ref (q 7), .ref (q 8), .ref (q 9), .int (nI kn), .ref (q 10), .ref (q 11), .ref (q 12), .ref (q 13), .ref (q 14), .ref (q 15), .ref (q 16), .ref (q 17), .int 1])), ((q 1), .inl (cZ, 144, .inl bk)), ((q 3), .inl (cI, 6, .inl ce))]) [2, 0, 1] rfl
    have hD9 := hD.sub (ws' := [((q 0), .inr (6, [.ref (q 1), .ref (q 2), .int on, .int hm, .int aw, .int tk, .ref (q 3), .ref (q 4), .ref (q 5), .int (nI sn), .ref (q 6), .ref (q 7), .ref (q 8), .ref (q 9), .int (nI kn), .ref (q 10), .ref (q 11), .ref (q 12), .ref (q 13), .ref (q 14), .ref (q 15), .ref (q 16), .ref (q 17), .int 1])), ((q 1), .inl (cZ, 144, .inl bk)), ((q 3), .inl (cI, 6, .inl ce))]) [2, 0, 1] (by decide) rfl
    -- leaf 0
    refine W.widen (k := 0) (n := 0) (Nat.le_refl _) (Nat.le_refl _) ?_
    exact W.iret (v := 0) hx hb hr (fun t ht hW => ⟨⟨0, (ce, 1), rfl, ⟨(by rw [f_X6_move, if_pos c_2]), (by rw [g_ce_X6_move, if_pos c_2]), (by rw [g_th_X6_move, if_pos c_2])⟩, by rw [ht]; exact hP9, va_K.moved hW.alike hK, hD9⟩, hS.F ht⟩) hS.2.2 dX6_move_117
  · have hvc_2 : vp_in p1 6 := isIn_vp (N := 6) c_2
    refine lv_iload_n hx hb dX6_move_7 rfl (lv_at hl 2 rfl) ?_
    have hPc := hP.sub (ws' := []) [] rfl
    refine va_calli (va_runS (As := [.int p2]) (rest := []) ⟨hx, hb, hml, hown, hts⟩ (c_X6_isCell l D cI cZ cJ cA H.size p2) (va_cwS 1 hts gX6_move_X6_isCell rfl rfl rfl (by decide +kernel) ⟨Nat.le_of_ble_eq_true rfl, Nat.le_of_ble_eq_true rfl⟩) ⟨pcR_bl, fun U hU hW => ⟨rfl, by rw [hU], by rw [hU]; exact hPc, va_K.moved hW.alike hK⟩⟩ rfl rfl hl.1 rfl (lv_room (Nat.le_of_ble_eq_true rfl)) dX6_move_8 ⟨Nat.le_of_ble_eq_true rfl, Nat.le_of_ble_eq_true rfl⟩) hS (fun _ h1 h2 => absurd h1 (Nat.not_lt.mpr h2)) (rd_free hS hA) (fun r_7 u t H locs ht hvm hw hB hz1 hk1 hS => ?_)
    try dsimp only at hw
    have hr_7 := hw
    have hP := rd_P hP hk1
    obtain rfl := hr_7.symm
    refine W.widen (k := 0) (n := 0) (Nat.le_refl _) (Nat.le_refl _) ?_
    refine lv_if_eq (tgt := 18) hx hb dX6_move_11 (by decide) (fun c_8 => ?_) (fun c_8 => ?_)
    · refine lv_iconst (v := 0) hx hb dX6_move_18 (by decide) ?_
      refine lv_istore_n (lv' := [(3, .int 0), (0, .ref (q 0)), (1, .int p1), (2, .int p2)]) hx hb dX6_move_19 rfl hl (by decide) rfl (fun ls hl => ?_)
      refine lv_iload_n hx hb dX6_move_20 rfl (lv_at hl 0 rfl) ?_
      refine lv_if_eq (tgt := 88) hx hb dX6_move_21 (by decide) (fun _ => ?_) (fun c_9 => absurd (by decide) c_9)
      refine lv_iconst (v := 0) hx hb dX6_move_88 (by decide) ?_
      refine lv_istore (lv' := [(4, .int 0), (3, .int 0), (0, .ref (q 0)), (1, .int p1), (2, .int p2)]) hx hb dX6_move_89 hl (by decide) rfl (fun ls hl => ?_)
      refine lv_aload_n hx hb dX6_move_91 rfl (lv_at hl 2 rfl) ?_
      refine lv_iload_n hx hb dX6_move_92 rfl (lv_at hl 1 rfl) ?_
      refine lv_if_ne (tgt := 100) hx hb dX6_move_93 (by decide) (fun c_10 => absurd (by decide) c_10) (fun _ => ?_)
      refine lv_iconst (v := 1) hx hb dX6_move_96 (by decide) ?_
      refine lv_goto (tgt := 110) hx hb dX6_move_97 (by decide) ?_
      have hPc := hP.sub (ws' := [((q 0), .inr (6, [.ref (q 1), .ref (q 2), .int on, .int hm, .int aw, .int tk, .ref (q 3), .ref (q 4), .ref (q 5), .int (nI sn), .ref (q 6), .ref (q 7), .ref (q 8), .ref (q 9), .int (nI kn), .ref (q 10), .ref (q 11), .ref (q 12), .ref (q 13), .ref (q 14), .ref (q 15), .ref (q 16), .ref (q 17), .int th]))]) [0] rfl
      have hDc := hD.sub (ws' := [((q 0), .inr (6, [.ref (q 1), .ref (q 2), .int on, .int hm, .int aw, .int tk, .ref (q 3), .ref (q 4), .ref (q 5), .int (nI sn), .ref (q 6), .ref (q 7), .ref (q 8), .ref (q 9), .int (nI kn), .ref (q 10), .ref (q 11), .ref (q 12), .ref (q 13), .ref (q 14), .ref (q 15), .ref (q 16), .ref (q 17), .int th]))]) [0] (by decide) rfl
      have hFc := va_free (wc := [((q 0), .inr (6, [.ref (q 1), .ref (q 2), .int on, .int hm, .int aw, .int tk, .ref (q 3), .ref (q 4), .ref (q 5), .int (nI sn), .ref (q 6), .ref (q 7), .ref (q 8), .ref (q 9), .int (nI kn), .ref (q 10), .ref (q 11), .ref (q 12), .ref (q 13), .ref (q 14), .ref (q 15), .ref (q 16), .ref (q 17), .int th]))]) hD hS hA [0] rfl
      refine va_calli (va_runV (As := [.int 1]) (rest := []) ⟨hx, hb, hml, hown, hts⟩ (c_X6_fails l D cI cZ cJ cA H.size q on hm aw tk sn kn th 1) (cwV 1 hts gX6_move_X6_fails rfl rfl rfl (by decide +kernel) ⟨Nat.le_of_ble_eq_true rfl, Nat.le_of_ble_eq_true rfl⟩) ⟨pcW_bl, va_recv hK hPc (ci := 6) (q0 := 0) rfl rfl, fun U hU hW => ⟨rfl, by rw [hU], by rw [hU]; exact hPc, va_K.moved hW.alike hK, hDc.weaken (fun _ _ _ _ => trivial)⟩⟩ rfl rfl hl.1 rfl (lv_room (Nat.le_of_ble_eq_true rfl)) dX6_move_110 ⟨Nat.le_of_ble_eq_true rfl, Nat.le_of_ble_eq_true rfl⟩) hS (fun q _ h => hFc q h) hFc (fun r_11 u t H locs ht hvm hw hB hz1 hk1 hS => ?_)
      try dsimp only at hw
      obtain ⟨u0_11, rfl⟩ : ∃ z, z = u := ⟨_, rfl⟩
      obtain ⟨hr_11, hu0_11⟩ := hw
      obtain ⟨hP1, hK1, hD1⟩ := hB
      rw [ht] at hP1
      obtain ⟨hP, hD⟩ := va_join (wr := [((q 1), .inl (cZ, 144, .inl bk)), ((q 3), .inl (cI, 6, .inl ce))]) (w1 := [((q 0), .inr (6, [.ref (q 1), .ref (q 2), .int on, .int hm, .int aw, .int tk, .ref (q 3), .ref (q 4), .ref (q 5), .int (nI sn), .ref (q 6), .ref (q 7), .ref (q 8), .ref (q 9), .int (nI kn), .ref (q 10), .ref (q 11), .ref (q 12), .ref (q 13), .ref (q 14), .ref (q 15), .ref (q 16), .ref (q 17), .int u0_11]))]) hP hD [0] [1, 2] rfl rfl (by decide) (by decide) hk1 hFc hP1 hD1
      obtain rfl := hu0_11.symm
      have hP : va_P D vwCl [((q 1), .inl (cZ, 144, .inl bk)), ((q 3), .inl (cI, 6, .inl ce)), ((q 0), .inr (6, [.ref (q 1), .ref (q 2), .int on, .int hm, .int aw, .int tk, .ref (q 3), .ref (q 4), .ref (q 5), .int (nI sn), .ref (q 6), .ref (q 7), .ref (q 8), .ref (q 9), .int (nI kn), .ref (q 10), .ref (q 11), .ref (q 12), .ref (q 13), .ref (q 14), .ref (q 15), .ref (q 16), .ref (q 17), .int 1]))] H := hP
      have hD : va_D A [((q 1), .inl (cZ, 144, .inl bk)), ((q 3), .inl (cI, 6, .inl ce)), ((q 0), .inr (6, [.ref (q 1), .ref (q 2), .int on, .int hm, .int aw, .int tk, .ref (q 3), .ref (q 4), .ref (q 5), .int (nI sn), .ref (q 6), .ref (q 7), .ref (q 8), .ref (q 9), .int (nI kn), .ref (q 10), .ref (q 11), .ref (q 12), .ref (q 13), .ref (q 14), .ref (q 15), .ref (q 16), .ref (q 17), .int 1]))] := hD
      obtain rfl := hr_11.symm
      refine W.widen (k := 0) (n := 0) (Nat.le_refl _) (Nat.le_refl _) ?_
      refine tp_eq (y := 1) rfl ?_
      refine lv_if_eq (tgt := 118) hx hb dX6_move_113 (by decide) (fun c_12 => absurd c_12 (by decide)) (fun _ => ?_)
      refine lv_iconst (v := 0) hx hb dX6_move_116 (by decide) ?_
      have hP9 := hP.sub (ws' := [((q 0), .inr (6, [.ref (q 1), .ref (q 2), .int on, .int hm, .int aw, .int tk, .ref (q 3), .ref (q 4), .ref (q 5), .int (nI sn), .ref (q 6), .ref (q 7), .ref (q 8), .ref (q 9), .int (nI kn), .ref (q 10), .ref (q 11), .ref (q 12), .ref (q 13), .ref (q 14), .ref (q 15), .ref (q 16), .ref (q 17), .int 1])), ((q 1), .inl (cZ, 144, .inl bk)), ((q 3), .inl (cI, 6, .inl ce))]) [2, 0, 1] rfl
      have hD9 := hD.sub (ws' := [((q 0), .inr (6, [.ref (q 1), .ref (q 2), .int on, .int hm, .int aw, .int tk, .ref (q 3), .ref (q 4), .ref (q 5), .int (nI sn), .ref (q 6), .ref (q 7), .ref (q 8), .ref (q 9), .int (nI kn), .ref (q 10), .ref (q 11), .ref (q 12), .ref (q 13), .ref (q 14), .ref (q 15), .ref (q 16), .ref (q 17), .int 1])), ((q 1), .inl (cZ, 144, .inl bk)), ((q 3), .inl (cI, 6, .inl ce))]) [2, 0, 1] (by decide) rfl
      -- leaf 1
      refine W.widen (k := 0) (n := 0) (Nat.le_refl _) (Nat.le_refl _) ?_
      exact W.iret (v := 0) hx hb hr (fun t ht hW => ⟨⟨0, (ce, 1), rfl, ⟨(by rw [f_X6_move, if_neg c_2, if_pos c_8]), (by rw [g_ce_X6_move, if_neg c_2, if_pos c_8]), (by rw [g_th_X6_move, if_neg c_2, if_pos c_8])⟩, by rw [ht]; exact hP9, va_K.moved hW.alike hK, hD9⟩, hS.F ht⟩) hS.2.2 dX6_move_117
    · have hvc_8 : vp_in p2 144 := isIn_vp (N := 144) c_8
      refine lv_iconst (v := 1) hx hb dX6_move_14 (by decide) ?_
      refine lv_goto (tgt := 19) hx hb dX6_move_15 (by decide) ?_
      refine lv_istore_n (lv' := [(3, .int 1), (0, .ref (q 0)), (1, .int p1), (2, .int p2)]) hx hb dX6_move_19 rfl hl (by decide) rfl (fun ls hl => ?_)
      refine lv_iload_n hx hb dX6_move_20 rfl (lv_at hl 0 rfl) ?_
      refine lv_if_eq (tgt := 88) hx hb dX6_move_21 (by decide) (fun c_13 => absurd c_13 (by decide)) (fun _ => ?_)
      refine lv_aload_n hx hb dX6_move_24 rfl (lv_at hl 1 rfl) ?_
      refine va_get (D := D) (ci := 6) (v := .int on) (C := RX6) (T := TX6) (N := 24) hx hb hts hi_X6 hown hK hP 0 rfl rfl 2 (by decide) hf_84 (fun _ h9 => h9) rfl dX6_move_25 ?_
      refine lv_if_eq (tgt := 88) hx hb dX6_move_28 (by decide) (fun c_14 => ?_) (fun c_14 => ?_)
      · refine lv_iconst (v := 0) hx hb dX6_move_88 (by decide) ?_
        refine lv_istore (lv' := [(4, .int 0), (3, .int 1), (0, .ref (q 0)), (1, .int p1), (2, .int p2)]) hx hb dX6_move_89 hl (by decide) rfl (fun ls hl => ?_)
        refine lv_aload_n hx hb dX6_move_91 rfl (lv_at hl 2 rfl) ?_
        refine lv_iload_n hx hb dX6_move_92 rfl (lv_at hl 1 rfl) ?_
        refine lv_if_ne (tgt := 100) hx hb dX6_move_93 (by decide) (fun _ => ?_) (fun c_15 => absurd c_15 (by decide))
        refine lv_iload hx hb dX6_move_100 (lv_at hl 0 rfl) ?_
        refine lv_if_eq (tgt := 109) hx hb dX6_move_102 (by decide) (fun _ => ?_) (fun c_16 => absurd (by decide) c_16)
        refine lv_iconst (v := 2) hx hb dX6_move_109 (by decide) ?_
        have hPc := hP.sub (ws' := [((q 0), .inr (6, [.ref (q 1), .ref (q 2), .int on, .int hm, .int aw, .int tk, .ref (q 3), .ref (q 4), .ref (q 5), .int (nI sn), .ref (q 6), .ref (q 7), .ref (q 8), .ref (q 9), .int (nI kn), .ref (q 10), .ref (q 11), .ref (q 12), .ref (q 13), .ref (q 14), .ref (q 15), .ref (q 16), .ref (q 17), .int th]))]) [0] rfl
        have hDc := hD.sub (ws' := [((q 0), .inr (6, [.ref (q 1), .ref (q 2), .int on, .int hm, .int aw, .int tk, .ref (q 3), .ref (q 4), .ref (q 5), .int (nI sn), .ref (q 6), .ref (q 7), .ref (q 8), .ref (q 9), .int (nI kn), .ref (q 10), .ref (q 11), .ref (q 12), .ref (q 13), .ref (q 14), .ref (q 15), .ref (q 16), .ref (q 17), .int th]))]) [0] (by decide) rfl
        have hFc := va_free (wc := [((q 0), .inr (6, [.ref (q 1), .ref (q 2), .int on, .int hm, .int aw, .int tk, .ref (q 3), .ref (q 4), .ref (q 5), .int (nI sn), .ref (q 6), .ref (q 7), .ref (q 8), .ref (q 9), .int (nI kn), .ref (q 10), .ref (q 11), .ref (q 12), .ref (q 13), .ref (q 14), .ref (q 15), .ref (q 16), .ref (q 17), .int th]))]) hD hS hA [0] rfl
        refine va_calli (va_runV (As := [.int 2]) (rest := []) ⟨hx, hb, hml, hown, hts⟩ (c_X6_fails l D cI cZ cJ cA H.size q on hm aw tk sn kn th 2) (cwV 1 hts gX6_move_X6_fails rfl rfl rfl (by decide +kernel) ⟨Nat.le_of_ble_eq_true rfl, Nat.le_of_ble_eq_true rfl⟩) ⟨pcW_bl, va_recv hK hPc (ci := 6) (q0 := 0) rfl rfl, fun U hU hW => ⟨rfl, by rw [hU], by rw [hU]; exact hPc, va_K.moved hW.alike hK, hDc.weaken (fun _ _ _ _ => trivial)⟩⟩ rfl rfl hl.1 rfl (lv_room (Nat.le_of_ble_eq_true rfl)) dX6_move_110 ⟨Nat.le_of_ble_eq_true rfl, Nat.le_of_ble_eq_true rfl⟩) hS (fun q _ h => hFc q h) hFc (fun r_17 u t H locs ht hvm hw hB hz1 hk1 hS => ?_)
        try dsimp only at hw
        obtain ⟨u0_17, rfl⟩ : ∃ z, z = u := ⟨_, rfl⟩
        obtain ⟨hr_17, hu0_17⟩ := hw
        obtain ⟨hP1, hK1, hD1⟩ := hB
        rw [ht] at hP1
        obtain ⟨hP, hD⟩ := va_join (wr := [((q 1), .inl (cZ, 144, .inl bk)), ((q 3), .inl (cI, 6, .inl ce))]) (w1 := [((q 0), .inr (6, [.ref (q 1), .ref (q 2), .int on, .int hm, .int aw, .int tk, .ref (q 3), .ref (q 4), .ref (q 5), .int (nI sn), .ref (q 6), .ref (q 7), .ref (q 8), .ref (q 9), .int (nI kn), .ref (q 10), .ref (q 11), .ref (q 12), .ref (q 13), .ref (q 14), .ref (q 15), .ref (q 16), .ref (q 17), .int u0_17]))]) hP hD [0] [1, 2] rfl rfl (by decide) (by decide) hk1 hFc hP1 hD1
        obtain rfl := hu0_17.symm
        have hP : va_P D vwCl [((q 1), .inl (cZ, 144, .inl bk)), ((q 3), .inl (cI, 6, .inl ce)), ((q 0), .inr (6, [.ref (q 1), .ref (q 2), .int on, .int hm, .int aw, .int tk, .ref (q 3), .ref (q 4), .ref (q 5), .int (nI sn), .ref (q 6), .ref (q 7), .ref (q 8), .ref (q 9), .int (nI kn), .ref (q 10), .ref (q 11), .ref (q 12), .ref (q 13), .ref (q 14), .ref (q 15), .ref (q 16), .ref (q 17), .int 2]))] H := hP
        have hD : va_D A [((q 1), .inl (cZ, 144, .inl bk)), ((q 3), .inl (cI, 6, .inl ce)), ((q 0), .inr (6, [.ref (q 1), .ref (q 2), .int on, .int hm, .int aw, .int tk, .ref (q 3), .ref (q 4), .ref (q 5), .int (nI sn), .ref (q 6), .ref (q 7), .ref (q 8), .ref (q 9), .int (nI kn), .ref (q 10), .ref (q 11), .ref (q 12), .ref (q 13), .ref (q 14), .ref (q 15), .ref (q 16), .ref (q 17), .int 2]))] := hD
        obtain rfl := hr_17.symm
        refine W.widen (k := 0) (n := 0) (Nat.le_refl _) (Nat.le_refl _) ?_
        refine tp_eq (y := 1) rfl ?_
        refine lv_if_eq (tgt := 118) hx hb dX6_move_113 (by decide) (fun c_18 => absurd c_18 (by decide)) (fun _ => ?_)
        refine lv_iconst (v := 0) hx hb dX6_move_116 (by decide) ?_
        have hP9 := hP.sub (ws' := [((q 0), .inr (6, [.ref (q 1), .ref (q 2), .int on, .int hm, .int aw, .int tk, .ref (q 3), .ref (q 4), .ref (q 5), .int (nI sn), .ref (q 6), .ref (q 7), .ref (q 8), .ref (q 9), .int (nI kn), .ref (q 10), .ref (q 11), .ref (q 12), .ref (q 13), .ref (q 14), .ref (q 15), .ref (q 16), .ref (q 17), .int 2])), ((q 1), .inl (cZ, 144, .inl bk)), ((q 3), .inl (cI, 6, .inl ce))]) [2, 0, 1] rfl
        have hD9 := hD.sub (ws' := [((q 0), .inr (6, [.ref (q 1), .ref (q 2), .int on, .int hm, .int aw, .int tk, .ref (q 3), .ref (q 4), .ref (q 5), .int (nI sn), .ref (q 6), .ref (q 7), .ref (q 8), .ref (q 9), .int (nI kn), .ref (q 10), .ref (q 11), .ref (q 12), .ref (q 13), .ref (q 14), .ref (q 15), .ref (q 16), .ref (q 17), .int 2])), ((q 1), .inl (cZ, 144, .inl bk)), ((q 3), .inl (cI, 6, .inl ce))]) [2, 0, 1] (by decide) rfl
        -- leaf 2
        refine W.widen (k := 0) (n := 0) (Nat.le_refl _) (Nat.le_refl _) ?_
        exact W.iret (v := 0) hx hb hr (fun t ht hW => ⟨⟨0, (ce, 2), rfl, ⟨(by rw [f_X6_move, if_neg c_2, if_neg c_8, if_pos c_14]), (by rw [g_ce_X6_move, if_neg c_2, if_neg c_8, if_pos c_14]), (by rw [g_th_X6_move, if_neg c_2, if_neg c_8, if_pos c_14])⟩, by rw [ht]; exact hP9, va_K.moved hW.alike hK, hD9⟩, hS.F ht⟩) hS.2.2 dX6_move_117
      · refine lv_aload_n hx hb dX6_move_31 rfl (lv_at hl 1 rfl) ?_
        refine va_get (D := D) (ci := 6) (v := .ref (q 3)) (C := RX6) (T := TX6) (N := 24) hx hb hts hi_X6 hown hK hP 0 rfl rfl 6 (by decide) hf_17 (fun _ h9 => h9) rfl dX6_move_32 ?_
        refine lv_iload_n hx hb dX6_move_35 rfl (lv_at hl 2 rfl) ?_
        refine va_iald hx hb hK hP 2 0 rfl rfl (by assumption) dX6_move_36 ?_
        refine lv_bipush (v := (-2)) hx hb dX6_move_37 (by decide) ?_
        refine lv_icmp_eq (tgt := 88) hx hb dX6_move_39 (by decide) (fun c_19 => ?_) (fun c_19 => ?_)
        · refine lv_iconst (v := 0) hx hb dX6_move_88 (by decide) ?_
          refine lv_istore (lv' := [(4, .int 0), (3, .int 1), (0, .ref (q 0)), (1, .int p1), (2, .int p2)]) hx hb dX6_move_89 hl (by decide) rfl (fun ls hl => ?_)
          refine lv_aload_n hx hb dX6_move_91 rfl (lv_at hl 2 rfl) ?_
          refine lv_iload_n hx hb dX6_move_92 rfl (lv_at hl 1 rfl) ?_
          refine lv_if_ne (tgt := 100) hx hb dX6_move_93 (by decide) (fun _ => ?_) (fun c_20 => absurd c_20 (by decide))
          refine lv_iload hx hb dX6_move_100 (lv_at hl 0 rfl) ?_
          refine lv_if_eq (tgt := 109) hx hb dX6_move_102 (by decide) (fun _ => ?_) (fun c_21 => absurd (by decide) c_21)
          refine lv_iconst (v := 2) hx hb dX6_move_109 (by decide) ?_
          have hPc := hP.sub (ws' := [((q 0), .inr (6, [.ref (q 1), .ref (q 2), .int on, .int hm, .int aw, .int tk, .ref (q 3), .ref (q 4), .ref (q 5), .int (nI sn), .ref (q 6), .ref (q 7), .ref (q 8), .ref (q 9), .int (nI kn), .ref (q 10), .ref (q 11), .ref (q 12), .ref (q 13), .ref (q 14), .ref (q 15), .ref (q 16), .ref (q 17), .int th]))]) [0] rfl
          have hDc := hD.sub (ws' := [((q 0), .inr (6, [.ref (q 1), .ref (q 2), .int on, .int hm, .int aw, .int tk, .ref (q 3), .ref (q 4), .ref (q 5), .int (nI sn), .ref (q 6), .ref (q 7), .ref (q 8), .ref (q 9), .int (nI kn), .ref (q 10), .ref (q 11), .ref (q 12), .ref (q 13), .ref (q 14), .ref (q 15), .ref (q 16), .ref (q 17), .int th]))]) [0] (by decide) rfl
          have hFc := va_free (wc := [((q 0), .inr (6, [.ref (q 1), .ref (q 2), .int on, .int hm, .int aw, .int tk, .ref (q 3), .ref (q 4), .ref (q 5), .int (nI sn), .ref (q 6), .ref (q 7), .ref (q 8), .ref (q 9), .int (nI kn), .ref (q 10), .ref (q 11), .ref (q 12), .ref (q 13), .ref (q 14), .ref (q 15), .ref (q 16), .ref (q 17), .int th]))]) hD hS hA [0] rfl
          refine va_calli (va_runV (As := [.int 2]) (rest := []) ⟨hx, hb, hml, hown, hts⟩ (c_X6_fails l D cI cZ cJ cA H.size q on hm aw tk sn kn th 2) (cwV 1 hts gX6_move_X6_fails rfl rfl rfl (by decide +kernel) ⟨Nat.le_of_ble_eq_true rfl, Nat.le_of_ble_eq_true rfl⟩) ⟨pcW_bl, va_recv hK hPc (ci := 6) (q0 := 0) rfl rfl, fun U hU hW => ⟨rfl, by rw [hU], by rw [hU]; exact hPc, va_K.moved hW.alike hK, hDc.weaken (fun _ _ _ _ => trivial)⟩⟩ rfl rfl hl.1 rfl (lv_room (Nat.le_of_ble_eq_true rfl)) dX6_move_110 ⟨Nat.le_of_ble_eq_true rfl, Nat.le_of_ble_eq_true rfl⟩) hS (fun q _ h => hFc q h) hFc (fun r_22 u t H locs ht hvm hw hB hz1 hk1 hS => ?_)
          try dsimp only at hw
          obtain ⟨u0_22, rfl⟩ : ∃ z, z = u := ⟨_, rfl⟩
          obtain ⟨hr_22, hu0_22⟩ := hw
          obtain ⟨hP1, hK1, hD1⟩ := hB
          rw [ht] at hP1
          obtain ⟨hP, hD⟩ := va_join (wr := [((q 1), .inl (cZ, 144, .inl bk)), ((q 3), .inl (cI, 6, .inl ce))]) (w1 := [((q 0), .inr (6, [.ref (q 1), .ref (q 2), .int on, .int hm, .int aw, .int tk, .ref (q 3), .ref (q 4), .ref (q 5), .int (nI sn), .ref (q 6), .ref (q 7), .ref (q 8), .ref (q 9), .int (nI kn), .ref (q 10), .ref (q 11), .ref (q 12), .ref (q 13), .ref (q 14), .ref (q 15), .ref (q 16), .ref (q 17), .int u0_22]))]) hP hD [0] [1, 2] rfl rfl (by decide) (by decide) hk1 hFc hP1 hD1
          obtain rfl := hu0_22.symm
          have hP : va_P D vwCl [((q 1), .inl (cZ, 144, .inl bk)), ((q 3), .inl (cI, 6, .inl ce)), ((q 0), .inr (6, [.ref (q 1), .ref (q 2), .int on, .int hm, .int aw, .int tk, .ref (q 3), .ref (q 4), .ref (q 5), .int (nI sn), .ref (q 6), .ref (q 7), .ref (q 8), .ref (q 9), .int (nI kn), .ref (q 10), .ref (q 11), .ref (q 12), .ref (q 13), .ref (q 14), .ref (q 15), .ref (q 16), .ref (q 17), .int 2]))] H := hP
          have hD : va_D A [((q 1), .inl (cZ, 144, .inl bk)), ((q 3), .inl (cI, 6, .inl ce)), ((q 0), .inr (6, [.ref (q 1), .ref (q 2), .int on, .int hm, .int aw, .int tk, .ref (q 3), .ref (q 4), .ref (q 5), .int (nI sn), .ref (q 6), .ref (q 7), .ref (q 8), .ref (q 9), .int (nI kn), .ref (q 10), .ref (q 11), .ref (q 12), .ref (q 13), .ref (q 14), .ref (q 15), .ref (q 16), .ref (q 17), .int 2]))] := hD
          obtain rfl := hr_22.symm
          refine W.widen (k := 0) (n := 0) (Nat.le_refl _) (Nat.le_refl _) ?_
          refine tp_eq (y := 1) rfl ?_
          refine lv_if_eq (tgt := 118) hx hb dX6_move_113 (by decide) (fun c_23 => absurd c_23 (by decide)) (fun _ => ?_)
          refine lv_iconst (v := 0) hx hb dX6_move_116 (by decide) ?_
          have hP9 := hP.sub (ws' := [((q 0), .inr (6, [.ref (q 1), .ref (q 2), .int on, .int hm, .int aw, .int tk, .ref (q 3), .ref (q 4), .ref (q 5), .int (nI sn), .ref (q 6), .ref (q 7), .ref (q 8), .ref (q 9), .int (nI kn), .ref (q 10), .ref (q 11), .ref (q 12), .ref (q 13), .ref (q 14), .ref (q 15), .ref (q 16), .ref (q 17), .int 2])), ((q 1), .inl (cZ, 144, .inl bk)), ((q 3), .inl (cI, 6, .inl ce))]) [2, 0, 1] rfl
          have hD9 := hD.sub (ws' := [((q 0), .inr (6, [.ref (q 1), .ref (q 2), .int on, .int hm, .int aw, .int tk, .ref (q 3), .ref (q 4), .ref (q 5), .int (nI sn), .ref (q 6), .ref (q 7), .ref (q 8), .ref (q 9), .int (nI kn), .ref (q 10), .ref (q 11), .ref (q 12), .ref (q 13), .ref (q 14), .ref (q 15), .ref (q 16), .ref (q 17), .int 2])), ((q 1), .inl (cZ, 144, .inl bk)), ((q 3), .inl (cI, 6, .inl ce))]) [2, 0, 1] (by decide) rfl
          -- leaf 3
          refine W.widen (k := 0) (n := 0) (Nat.le_refl _) (Nat.le_refl _) ?_
          exact W.iret (v := 0) hx hb hr (fun t ht hW => ⟨⟨0, (ce, 2), rfl, ⟨(by rw [f_X6_move, if_neg c_2, if_neg c_8, if_neg c_14, if_pos c_19]), (by rw [g_ce_X6_move, if_neg c_2, if_neg c_8, if_neg c_14, if_pos c_19]), (by rw [g_th_X6_move, if_neg c_2, if_neg c_8, if_neg c_14, if_pos c_19])⟩, by rw [ht]; exact hP9, va_K.moved hW.alike hK, hD9⟩, hS.F ht⟩) hS.2.2 dX6_move_117
        · refine lv_aload_n hx hb dX6_move_42 rfl (lv_at hl 1 rfl) ?_
          refine va_get (D := D) (ci := 6) (v := .ref (q 3)) (C := RX6) (T := TX6) (N := 24) hx hb hts hi_X6 hown hK hP 0 rfl rfl 6 (by decide) hf_17 (fun _ h9 => h9) rfl dX6_move_43 ?_
          refine lv_iload_n hx hb dX6_move_46 rfl (lv_at hl 2 rfl) ?_
          refine va_iald hx hb hK hP 2 0 rfl rfl (by assumption) dX6_move_47 ?_
          refine lv_iconst (v := (-1)) hx hb dX6_move_48 (by decide) ?_
          refine lv_icmp_eq (tgt := 66) hx hb dX6_move_49 (by decide) (fun c_24 => ?_) (fun c_24 => ?_)
          · refine lv_aload_n hx hb dX6_move_66 rfl (lv_at hl 1 rfl) ?_
            refine va_get (D := D) (ci := 6) (v := .ref (q 1)) (C := RX6) (T := TX6) (N := 24) hx hb hts hi_X6 hown hK hP 0 rfl rfl 0 (by decide) hf_7 (fun _ h9 => h9) rfl dX6_move_67 ?_
            refine lv_iload_n hx hb dX6_move_70 rfl (lv_at hl 3 rfl) ?_
            refine va_zald hx hb hK hP 1 1 rfl rfl (by assumption) dX6_move_71 ?_
            refine lv_if_ne (tgt := 88) hx hb dX6_move_72 (by decide) (fun c_25 => ?_) (fun c_25 => ?_)
            · refine lv_iconst (v := 0) hx hb dX6_move_88 (by decide) ?_
              refine lv_istore (lv' := [(4, .int 0), (3, .int 1), (0, .ref (q 0)), (1, .int p1), (2, .int p2)]) hx hb dX6_move_89 hl (by decide) rfl (fun ls hl => ?_)
              refine lv_aload_n hx hb dX6_move_91 rfl (lv_at hl 2 rfl) ?_
              refine lv_iload_n hx hb dX6_move_92 rfl (lv_at hl 1 rfl) ?_
              refine lv_if_ne (tgt := 100) hx hb dX6_move_93 (by decide) (fun _ => ?_) (fun c_26 => absurd c_26 (by decide))
              refine lv_iload hx hb dX6_move_100 (lv_at hl 0 rfl) ?_
              refine lv_if_eq (tgt := 109) hx hb dX6_move_102 (by decide) (fun _ => ?_) (fun c_27 => absurd (by decide) c_27)
              refine lv_iconst (v := 2) hx hb dX6_move_109 (by decide) ?_
              have hPc := hP.sub (ws' := [((q 0), .inr (6, [.ref (q 1), .ref (q 2), .int on, .int hm, .int aw, .int tk, .ref (q 3), .ref (q 4), .ref (q 5), .int (nI sn), .ref (q 6), .ref (q 7), .ref (q 8), .ref (q 9), .int (nI kn), .ref (q 10), .ref (q 11), .ref (q 12), .ref (q 13), .ref (q 14), .ref (q 15), .ref (q 16), .ref (q 17), .int th]))]) [0] rfl
              have hDc := hD.sub (ws' := [((q 0), .inr (6, [.ref (q 1), .ref (q 2), .int on, .int hm, .int aw, .int tk, .ref (q 3), .ref (q 4), .ref (q 5), .int (nI sn), .ref (q 6), .ref (q 7), .ref (q 8), .ref (q 9), .int (nI kn), .ref (q 10), .ref (q 11), .ref (q 12), .ref (q 13), .ref (q 14), .ref (q 15), .ref (q 16), .ref (q 17), .int th]))]) [0] (by decide) rfl
              have hFc := va_free (wc := [((q 0), .inr (6, [.ref (q 1), .ref (q 2), .int on, .int hm, .int aw, .int tk, .ref (q 3), .ref (q 4), .ref (q 5), .int (nI sn), .ref (q 6), .ref (q 7), .ref (q 8), .ref (q 9), .int (nI kn), .ref (q 10), .ref (q 11), .ref (q 12), .ref (q 13), .ref (q 14), .ref (q 15), .ref (q 16), .ref (q 17), .int th]))]) hD hS hA [0] rfl
              refine va_calli (va_runV (As := [.int 2]) (rest := []) ⟨hx, hb, hml, hown, hts⟩ (c_X6_fails l D cI cZ cJ cA H.size q on hm aw tk sn kn th 2) (cwV 1 hts gX6_move_X6_fails rfl rfl rfl (by decide +kernel) ⟨Nat.le_of_ble_eq_true rfl, Nat.le_of_ble_eq_true rfl⟩) ⟨pcW_bl, va_recv hK hPc (ci := 6) (q0 := 0) rfl rfl, fun U hU hW => ⟨rfl, by rw [hU], by rw [hU]; exact hPc, va_K.moved hW.alike hK, hDc.weaken (fun _ _ _ _ => trivial)⟩⟩ rfl rfl hl.1 rfl (lv_room (Nat.le_of_ble_eq_true rfl)) dX6_move_110 ⟨Nat.le_of_ble_eq_true rfl, Nat.le_of_ble_eq_true rfl⟩) hS (fun q _ h => hFc q h) hFc (fun r_28 u t H locs ht hvm hw hB hz1 hk1 hS => ?_)
              try dsimp only at hw
              obtain ⟨u0_28, rfl⟩ : ∃ z, z = u := ⟨_, rfl⟩
              obtain ⟨hr_28, hu0_28⟩ := hw
              obtain ⟨hP1, hK1, hD1⟩ := hB
              rw [ht] at hP1
              obtain ⟨hP, hD⟩ := va_join (wr := [((q 1), .inl (cZ, 144, .inl bk)), ((q 3), .inl (cI, 6, .inl ce))]) (w1 := [((q 0), .inr (6, [.ref (q 1), .ref (q 2), .int on, .int hm, .int aw, .int tk, .ref (q 3), .ref (q 4), .ref (q 5), .int (nI sn), .ref (q 6), .ref (q 7), .ref (q 8), .ref (q 9), .int (nI kn), .ref (q 10), .ref (q 11), .ref (q 12), .ref (q 13), .ref (q 14), .ref (q 15), .ref (q 16), .ref (q 17), .int u0_28]))]) hP hD [0] [1, 2] rfl rfl (by decide) (by decide) hk1 hFc hP1 hD1
              obtain rfl := hu0_28.symm
              have hP : va_P D vwCl [((q 1), .inl (cZ, 144, .inl bk)), ((q 3), .inl (cI, 6, .inl ce)), ((q 0), .inr (6, [.ref (q 1), .ref (q 2), .int on, .int hm, .int aw, .int tk, .ref (q 3), .ref (q 4), .ref (q 5), .int (nI sn), .ref (q 6), .ref (q 7), .ref (q 8), .ref (q 9), .int (nI kn), .ref (q 10), .ref (q 11), .ref (q 12), .ref (q 13), .ref (q 14), .ref (q 15), .ref (q 16), .ref (q 17), .int 2]))] H := hP
              have hD : va_D A [((q 1), .inl (cZ, 144, .inl bk)), ((q 3), .inl (cI, 6, .inl ce)), ((q 0), .inr (6, [.ref (q 1), .ref (q 2), .int on, .int hm, .int aw, .int tk, .ref (q 3), .ref (q 4), .ref (q 5), .int (nI sn), .ref (q 6), .ref (q 7), .ref (q 8), .ref (q 9), .int (nI kn), .ref (q 10), .ref (q 11), .ref (q 12), .ref (q 13), .ref (q 14), .ref (q 15), .ref (q 16), .ref (q 17), .int 2]))] := hD
              obtain rfl := hr_28.symm
              refine W.widen (k := 0) (n := 0) (Nat.le_refl _) (Nat.le_refl _) ?_
              refine tp_eq (y := 1) rfl ?_
              refine lv_if_eq (tgt := 118) hx hb dX6_move_113 (by decide) (fun c_29 => absurd c_29 (by decide)) (fun _ => ?_)
              refine lv_iconst (v := 0) hx hb dX6_move_116 (by decide) ?_
              have hP9 := hP.sub (ws' := [((q 0), .inr (6, [.ref (q 1), .ref (q 2), .int on, .int hm, .int aw, .int tk, .ref (q 3), .ref (q 4), .ref (q 5), .int (nI sn), .ref (q 6), .ref (q 7), .ref (q 8), .ref (q 9), .int (nI kn), .ref (q 10), .ref (q 11), .ref (q 12), .ref (q 13), .ref (q 14), .ref (q 15), .ref (q 16), .ref (q 17), .int 2])), ((q 1), .inl (cZ, 144, .inl bk)), ((q 3), .inl (cI, 6, .inl ce))]) [2, 0, 1] rfl
              have hD9 := hD.sub (ws' := [((q 0), .inr (6, [.ref (q 1), .ref (q 2), .int on, .int hm, .int aw, .int tk, .ref (q 3), .ref (q 4), .ref (q 5), .int (nI sn), .ref (q 6), .ref (q 7), .ref (q 8), .ref (q 9), .int (nI kn), .ref (q 10), .ref (q 11), .ref (q 12), .ref (q 13), .ref (q 14), .ref (q 15), .ref (q 16), .ref (q 17), .int 2])), ((q 1), .inl (cZ, 144, .inl bk)), ((q 3), .inl (cI, 6, .inl ce))]) [2, 0, 1] (by decide) rfl
              -- leaf 4
              refine W.widen (k := 0) (n := 0) (Nat.le_refl _) (Nat.le_refl _) ?_
              exact W.iret (v := 0) hx hb hr (fun t ht hW => ⟨⟨0, (ce, 2), rfl, ⟨(by rw [f_X6_move, if_neg c_2, if_neg c_8, if_neg c_14, if_neg c_19, if_pos c_24, if_neg c_25]), (by rw [g_ce_X6_move, if_neg c_2, if_neg c_8, if_neg c_14, if_neg c_19, if_pos c_24, if_neg c_25]), (by rw [g_th_X6_move, if_neg c_2, if_neg c_8, if_neg c_14, if_neg c_19, if_pos c_24, if_neg c_25])⟩, by rw [ht]; exact hP9, va_K.moved hW.alike hK, hD9⟩, hS.F ht⟩) hS.2.2 dX6_move_117
            · refine lv_aload_n hx hb dX6_move_75 rfl (lv_at hl 1 rfl) ?_
              refine lv_iload_n hx hb dX6_move_76 rfl (lv_at hl 3 rfl) ?_
              have hPc := hP.sub (ws' := [((q 0), .inr (6, [.ref (q 1), .ref (q 2), .int on, .int hm, .int aw, .int tk, .ref (q 3), .ref (q 4), .ref (q 5), .int (nI sn), .ref (q 6), .ref (q 7), .ref (q 8), .ref (q 9), .int (nI kn), .ref (q 10), .ref (q 11), .ref (q 12), .ref (q 13), .ref (q 14), .ref (q 15), .ref (q 16), .ref (q 17), .int th])), ((q 3), .inl (cI, 6, .inl ce))]) [0, 2] rfl
              refine va_calli (va_runV (As := [.int p2]) (rest := []) ⟨hx, hb, hml, hown, hts⟩ (c_X6_standsOn l D cI cZ cJ cA H.size q on hm aw tk ce sn kn th p2) (cwV 1 hts gX6_move_X6_standsOn rfl rfl rfl (by decide +kernel) ⟨Nat.le_of_ble_eq_true rfl, Nat.le_of_ble_eq_true rfl⟩) ⟨pcR_bl, va_recv hK hPc (ci := 6) (q0 := 0) rfl rfl, fun U hU hW => ⟨rfl, by rw [hU], by rw [hU]; exact hPc, va_K.moved hW.alike hK⟩⟩ rfl rfl hl.1 rfl (lv_room (Nat.le_of_ble_eq_true rfl)) dX6_move_77 ⟨Nat.le_of_ble_eq_true rfl, Nat.le_of_ble_eq_true rfl⟩) hS (fun _ h1 h2 => absurd h1 (Nat.not_lt.mpr h2)) (rd_free hS hA) (fun r_30 u t H locs ht hvm hw hB hz1 hk1 hS => ?_)
              try dsimp only at hw
              have hr_30 := hw
              have hP := rd_P hP hk1
              obtain rfl := hr_30.symm
              refine W.widen (k := 0) (n := 0) (Nat.le_refl _) (Nat.le_refl _) ?_
              refine lv_iconst (v := (-1)) hx hb dX6_move_80 (by decide) ?_
              refine lv_icmp_ne (tgt := 88) hx hb dX6_move_81 (by decide) (fun c_31 => ?_) (fun c_31 => ?_)
              · refine lv_iconst (v := 0) hx hb dX6_move_88 (by decide) ?_
                refine lv_istore (lv' := [(4, .int 0), (3, .int 1), (0, .ref (q 0)), (1, .int p1), (2, .int p2)]) hx hb dX6_move_89 hl (by decide) rfl (fun ls hl => ?_)
                refine lv_aload_n hx hb dX6_move_91 rfl (lv_at hl 2 rfl) ?_
                refine lv_iload_n hx hb dX6_move_92 rfl (lv_at hl 1 rfl) ?_
                refine lv_if_ne (tgt := 100) hx hb dX6_move_93 (by decide) (fun _ => ?_) (fun c_32 => absurd c_32 (by decide))
                refine lv_iload hx hb dX6_move_100 (lv_at hl 0 rfl) ?_
                refine lv_if_eq (tgt := 109) hx hb dX6_move_102 (by decide) (fun _ => ?_) (fun c_33 => absurd (by decide) c_33)
                refine lv_iconst (v := 2) hx hb dX6_move_109 (by decide) ?_
                have hPc := hP.sub (ws' := [((q 0), .inr (6, [.ref (q 1), .ref (q 2), .int on, .int hm, .int aw, .int tk, .ref (q 3), .ref (q 4), .ref (q 5), .int (nI sn), .ref (q 6), .ref (q 7), .ref (q 8), .ref (q 9), .int (nI kn), .ref (q 10), .ref (q 11), .ref (q 12), .ref (q 13), .ref (q 14), .ref (q 15), .ref (q 16), .ref (q 17), .int th]))]) [0] rfl
                have hDc := hD.sub (ws' := [((q 0), .inr (6, [.ref (q 1), .ref (q 2), .int on, .int hm, .int aw, .int tk, .ref (q 3), .ref (q 4), .ref (q 5), .int (nI sn), .ref (q 6), .ref (q 7), .ref (q 8), .ref (q 9), .int (nI kn), .ref (q 10), .ref (q 11), .ref (q 12), .ref (q 13), .ref (q 14), .ref (q 15), .ref (q 16), .ref (q 17), .int th]))]) [0] (by decide) rfl
                have hFc := va_free (wc := [((q 0), .inr (6, [.ref (q 1), .ref (q 2), .int on, .int hm, .int aw, .int tk, .ref (q 3), .ref (q 4), .ref (q 5), .int (nI sn), .ref (q 6), .ref (q 7), .ref (q 8), .ref (q 9), .int (nI kn), .ref (q 10), .ref (q 11), .ref (q 12), .ref (q 13), .ref (q 14), .ref (q 15), .ref (q 16), .ref (q 17), .int th]))]) hD hS hA [0] rfl
                refine va_calli (va_runV (As := [.int 2]) (rest := []) ⟨hx, hb, hml, hown, hts⟩ (c_X6_fails l D cI cZ cJ cA H.size q on hm aw tk sn kn th 2) (cwV 1 hts gX6_move_X6_fails rfl rfl rfl (by decide +kernel) ⟨Nat.le_of_ble_eq_true rfl, Nat.le_of_ble_eq_true rfl⟩) ⟨pcW_bl, va_recv hK hPc (ci := 6) (q0 := 0) rfl rfl, fun U hU hW => ⟨rfl, by rw [hU], by rw [hU]; exact hPc, va_K.moved hW.alike hK, hDc.weaken (fun _ _ _ _ => trivial)⟩⟩ rfl rfl hl.1 rfl (lv_room (Nat.le_of_ble_eq_true rfl)) dX6_move_110 ⟨Nat.le_of_ble_eq_true rfl, Nat.le_of_ble_eq_true rfl⟩) hS (fun q _ h => hFc q h) hFc (fun r_34 u t H locs ht hvm hw hB hz1 hk1 hS => ?_)
                try dsimp only at hw
                obtain ⟨u0_34, rfl⟩ : ∃ z, z = u := ⟨_, rfl⟩
                obtain ⟨hr_34, hu0_34⟩ := hw
                obtain ⟨hP1, hK1, hD1⟩ := hB
                rw [ht] at hP1
                obtain ⟨hP, hD⟩ := va_join (wr := [((q 1), .inl (cZ, 144, .inl bk)), ((q 3), .inl (cI, 6, .inl ce))]) (w1 := [((q 0), .inr (6, [.ref (q 1), .ref (q 2), .int on, .int hm, .int aw, .int tk, .ref (q 3), .ref (q 4), .ref (q 5), .int (nI sn), .ref (q 6), .ref (q 7), .ref (q 8), .ref (q 9), .int (nI kn), .ref (q 10), .ref (q 11), .ref (q 12), .ref (q 13), .ref (q 14), .ref (q 15), .ref (q 16), .ref (q 17), .int u0_34]))]) hP hD [0] [1, 2] rfl rfl (by decide) (by decide) hk1 hFc hP1 hD1
                obtain rfl := hu0_34.symm
                have hP : va_P D vwCl [((q 1), .inl (cZ, 144, .inl bk)), ((q 3), .inl (cI, 6, .inl ce)), ((q 0), .inr (6, [.ref (q 1), .ref (q 2), .int on, .int hm, .int aw, .int tk, .ref (q 3), .ref (q 4), .ref (q 5), .int (nI sn), .ref (q 6), .ref (q 7), .ref (q 8), .ref (q 9), .int (nI kn), .ref (q 10), .ref (q 11), .ref (q 12), .ref (q 13), .ref (q 14), .ref (q 15), .ref (q 16), .ref (q 17), .int 2]))] H := hP
                have hD : va_D A [((q 1), .inl (cZ, 144, .inl bk)), ((q 3), .inl (cI, 6, .inl ce)), ((q 0), .inr (6, [.ref (q 1), .ref (q 2), .int on, .int hm, .int aw, .int tk, .ref (q 3), .ref (q 4), .ref (q 5), .int (nI sn), .ref (q 6), .ref (q 7), .ref (q 8), .ref (q 9), .int (nI kn), .ref (q 10), .ref (q 11), .ref (q 12), .ref (q 13), .ref (q 14), .ref (q 15), .ref (q 16), .ref (q 17), .int 2]))] := hD
                obtain rfl := hr_34.symm
                refine W.widen (k := 0) (n := 0) (Nat.le_refl _) (Nat.le_refl _) ?_
                refine tp_eq (y := 1) rfl ?_
                refine lv_if_eq (tgt := 118) hx hb dX6_move_113 (by decide) (fun c_35 => absurd c_35 (by decide)) (fun _ => ?_)
                refine lv_iconst (v := 0) hx hb dX6_move_116 (by decide) ?_
                have hP9 := hP.sub (ws' := [((q 0), .inr (6, [.ref (q 1), .ref (q 2), .int on, .int hm, .int aw, .int tk, .ref (q 3), .ref (q 4), .ref (q 5), .int (nI sn), .ref (q 6), .ref (q 7), .ref (q 8), .ref (q 9), .int (nI kn), .ref (q 10), .ref (q 11), .ref (q 12), .ref (q 13), .ref (q 14), .ref (q 15), .ref (q 16), .ref (q 17), .int 2])), ((q 1), .inl (cZ, 144, .inl bk)), ((q 3), .inl (cI, 6, .inl ce))]) [2, 0, 1] rfl
                have hD9 := hD.sub (ws' := [((q 0), .inr (6, [.ref (q 1), .ref (q 2), .int on, .int hm, .int aw, .int tk, .ref (q 3), .ref (q 4), .ref (q 5), .int (nI sn), .ref (q 6), .ref (q 7), .ref (q 8), .ref (q 9), .int (nI kn), .ref (q 10), .ref (q 11), .ref (q 12), .ref (q 13), .ref (q 14), .ref (q 15), .ref (q 16), .ref (q 17), .int 2])), ((q 1), .inl (cZ, 144, .inl bk)), ((q 3), .inl (cI, 6, .inl ce))]) [2, 0, 1] (by decide) rfl
                -- leaf 5
                refine W.widen (k := 0) (n := 0) (Nat.le_refl _) (Nat.le_refl _) ?_
                exact W.iret (v := 0) hx hb hr (fun t ht hW => ⟨⟨0, (ce, 2), rfl, ⟨(by rw [f_X6_move, if_neg c_2, if_neg c_8, if_neg c_14, if_neg c_19, if_pos c_24, if_pos c_25, if_neg c_31]), (by rw [g_ce_X6_move, if_neg c_2, if_neg c_8, if_neg c_14, if_neg c_19, if_pos c_24, if_pos c_25, if_neg c_31]), (by rw [g_th_X6_move, if_neg c_2, if_neg c_8, if_neg c_14, if_neg c_19, if_pos c_24, if_pos c_25, if_neg c_31])⟩, by rw [ht]; exact hP9, va_K.moved hW.alike hK, hD9⟩, hS.F ht⟩) hS.2.2 dX6_move_117
              · refine lv_iconst (v := 1) hx hb dX6_move_84 (by decide) ?_
                refine lv_goto (tgt := 89) hx hb dX6_move_85 (by decide) ?_
                refine lv_istore (lv' := [(4, .int 1), (3, .int 1), (0, .ref (q 0)), (1, .int p1), (2, .int p2)]) hx hb dX6_move_89 hl (by decide) rfl (fun ls hl => ?_)
                refine lv_aload_n hx hb dX6_move_91 rfl (lv_at hl 2 rfl) ?_
                refine lv_iload_n hx hb dX6_move_92 rfl (lv_at hl 1 rfl) ?_
                refine lv_if_ne (tgt := 100) hx hb dX6_move_93 (by decide) (fun _ => ?_) (fun c_36 => absurd c_36 (by decide))
                refine lv_iload hx hb dX6_move_100 (lv_at hl 0 rfl) ?_
                refine lv_if_eq (tgt := 109) hx hb dX6_move_102 (by decide) (fun c_37 => absurd c_37 (by decide)) (fun _ => ?_)
                refine lv_iconst (v := 0) hx hb dX6_move_105 (by decide) ?_
                refine lv_goto (tgt := 110) hx hb dX6_move_106 (by decide) ?_
                have hPc := hP.sub (ws' := [((q 0), .inr (6, [.ref (q 1), .ref (q 2), .int on, .int hm, .int aw, .int tk, .ref (q 3), .ref (q 4), .ref (q 5), .int (nI sn), .ref (q 6), .ref (q 7), .ref (q 8), .ref (q 9), .int (nI kn), .ref (q 10), .ref (q 11), .ref (q 12), .ref (q 13), .ref (q 14), .ref (q 15), .ref (q 16), .ref (q 17), .int th]))]) [0] rfl
                have hDc := hD.sub (ws' := [((q 0), .inr (6, [.ref (q 1), .ref (q 2), .int on, .int hm, .int aw, .int tk, .ref (q 3), .ref (q 4), .ref (q 5), .int (nI sn), .ref (q 6), .ref (q 7), .ref (q 8), .ref (q 9), .int (nI kn), .ref (q 10), .ref (q 11), .ref (q 12), .ref (q 13), .ref (q 14), .ref (q 15), .ref (q 16), .ref (q 17), .int th]))]) [0] (by decide) rfl
                have hFc := va_free (wc := [((q 0), .inr (6, [.ref (q 1), .ref (q 2), .int on, .int hm, .int aw, .int tk, .ref (q 3), .ref (q 4), .ref (q 5), .int (nI sn), .ref (q 6), .ref (q 7), .ref (q 8), .ref (q 9), .int (nI kn), .ref (q 10), .ref (q 11), .ref (q 12), .ref (q 13), .ref (q 14), .ref (q 15), .ref (q 16), .ref (q 17), .int th]))]) hD hS hA [0] rfl
                refine va_calli (va_runV (As := [.int 0]) (rest := []) ⟨hx, hb, hml, hown, hts⟩ (c_X6_fails l D cI cZ cJ cA H.size q on hm aw tk sn kn th 0) (cwV 1 hts gX6_move_X6_fails rfl rfl rfl (by decide +kernel) ⟨Nat.le_of_ble_eq_true rfl, Nat.le_of_ble_eq_true rfl⟩) ⟨pcW_bl, va_recv hK hPc (ci := 6) (q0 := 0) rfl rfl, fun U hU hW => ⟨rfl, by rw [hU], by rw [hU]; exact hPc, va_K.moved hW.alike hK, hDc.weaken (fun _ _ _ _ => trivial)⟩⟩ rfl rfl hl.1 rfl (lv_room (Nat.le_of_ble_eq_true rfl)) dX6_move_110 ⟨Nat.le_of_ble_eq_true rfl, Nat.le_of_ble_eq_true rfl⟩) hS (fun q _ h => hFc q h) hFc (fun r_38 u t H locs ht hvm hw hB hz1 hk1 hS => ?_)
                try dsimp only at hw
                obtain ⟨u0_38, rfl⟩ : ∃ z, z = u := ⟨_, rfl⟩
                obtain ⟨hr_38, hu0_38⟩ := hw
                obtain ⟨hP1, hK1, hD1⟩ := hB
                rw [ht] at hP1
                obtain ⟨hP, hD⟩ := va_join (wr := [((q 1), .inl (cZ, 144, .inl bk)), ((q 3), .inl (cI, 6, .inl ce))]) (w1 := [((q 0), .inr (6, [.ref (q 1), .ref (q 2), .int on, .int hm, .int aw, .int tk, .ref (q 3), .ref (q 4), .ref (q 5), .int (nI sn), .ref (q 6), .ref (q 7), .ref (q 8), .ref (q 9), .int (nI kn), .ref (q 10), .ref (q 11), .ref (q 12), .ref (q 13), .ref (q 14), .ref (q 15), .ref (q 16), .ref (q 17), .int u0_38]))]) hP hD [0] [1, 2] rfl rfl (by decide) (by decide) hk1 hFc hP1 hD1
                obtain rfl := hu0_38.symm
                have hP : va_P D vwCl [((q 1), .inl (cZ, 144, .inl bk)), ((q 3), .inl (cI, 6, .inl ce)), ((q 0), .inr (6, [.ref (q 1), .ref (q 2), .int on, .int hm, .int aw, .int tk, .ref (q 3), .ref (q 4), .ref (q 5), .int (nI sn), .ref (q 6), .ref (q 7), .ref (q 8), .ref (q 9), .int (nI kn), .ref (q 10), .ref (q 11), .ref (q 12), .ref (q 13), .ref (q 14), .ref (q 15), .ref (q 16), .ref (q 17), .int 0]))] H := hP
                have hD : va_D A [((q 1), .inl (cZ, 144, .inl bk)), ((q 3), .inl (cI, 6, .inl ce)), ((q 0), .inr (6, [.ref (q 1), .ref (q 2), .int on, .int hm, .int aw, .int tk, .ref (q 3), .ref (q 4), .ref (q 5), .int (nI sn), .ref (q 6), .ref (q 7), .ref (q 8), .ref (q 9), .int (nI kn), .ref (q 10), .ref (q 11), .ref (q 12), .ref (q 13), .ref (q 14), .ref (q 15), .ref (q 16), .ref (q 17), .int 0]))] := hD
                obtain rfl := hr_38.symm
                refine W.widen (k := 0) (n := 0) (Nat.le_refl _) (Nat.le_refl _) ?_
                refine tp_eq (y := 0) rfl ?_
                refine lv_if_eq (tgt := 118) hx hb dX6_move_113 (by decide) (fun _ => ?_) (fun c_39 => absurd (by decide) c_39)
                refine lv_aload_n hx hb dX6_move_118 rfl (lv_at hl 2 rfl) ?_
                refine va_get (D := D) (ci := 6) (v := .ref (q 3)) (C := RX6) (T := TX6) (N := 24) hx hb hts hi_X6 hown hK hP 2 rfl rfl 6 (by decide) hf_17 (fun _ h9 => h9) rfl dX6_move_119 ?_
                refine lv_iload_n hx hb dX6_move_122 rfl (lv_at hl 3 rfl) ?_
                refine va_iald hx hb hK hP 1 0 rfl rfl (by assumption) dX6_move_123 ?_
                refine lv_istore (lv' := [(5, .int (ce p1.toNatClampNeg)), (4, .int 1), (3, .int 1), (0, .ref (q 0)), (1, .int p1), (2, .int p2)]) hx hb dX6_move_124 hl (by decide) rfl (fun ls hl => ?_)
                refine lv_aload_n hx hb dX6_move_126 rfl (lv_at hl 3 rfl) ?_
                refine va_get (D := D) (ci := 6) (v := .ref (q 3)) (C := RX6) (T := TX6) (N := 24) hx hb hts hi_X6 hown hK hP 2 rfl rfl 6 (by decide) hf_17 (fun _ h9 => h9) rfl dX6_move_127 ?_
                refine lv_iload_n hx hb dX6_move_130 rfl (lv_at hl 4 rfl) ?_
                refine lv_iload_n hx hb dX6_move_131 rfl (lv_at hl 5 rfl) ?_
                refine va_iast hx hb hK hP hD hS 1 0 rfl rfl (by assumption) dX6_move_132 (fun H locs hP hD hS => ?_)
                have hP : va_P D vwCl [((q 1), .inl (cZ, 144, .inl bk)), ((q 3), .inl (cI, 6, .inl (upd ce p1.toNatClampNeg p2))), ((q 0), .inr (6, [.ref (q 1), .ref (q 2), .int on, .int hm, .int aw, .int tk, .ref (q 3), .ref (q 4), .ref (q 5), .int (nI sn), .ref (q 6), .ref (q 7), .ref (q 8), .ref (q 9), .int (nI kn), .ref (q 10), .ref (q 11), .ref (q 12), .ref (q 13), .ref (q 14), .ref (q 15), .ref (q 16), .ref (q 17), .int 0]))] H := hP
                have hD : va_D A [((q 1), .inl (cZ, 144, .inl bk)), ((q 3), .inl (cI, 6, .inl (upd ce p1.toNatClampNeg p2))), ((q 0), .inr (6, [.ref (q 1), .ref (q 2), .int on, .int hm, .int aw, .int tk, .ref (q 3), .ref (q 4), .ref (q 5), .int (nI sn), .ref (q 6), .ref (q 7), .ref (q 8), .ref (q 9), .int (nI kn), .ref (q 10), .ref (q 11), .ref (q 12), .ref (q 13), .ref (q 14), .ref (q 15), .ref (q 16), .ref (q 17), .int 0]))] := hD
                refine lv_iload hx hb dX6_move_133 (lv_at hl 0 rfl) ?_
                have hP9 := hP.sub (ws' := [((q 0), .inr (6, [.ref (q 1), .ref (q 2), .int on, .int hm, .int aw, .int tk, .ref (q 3), .ref (q 4), .ref (q 5), .int (nI sn), .ref (q 6), .ref (q 7), .ref (q 8), .ref (q 9), .int (nI kn), .ref (q 10), .ref (q 11), .ref (q 12), .ref (q 13), .ref (q 14), .ref (q 15), .ref (q 16), .ref (q 17), .int 0])), ((q 1), .inl (cZ, 144, .inl bk)), ((q 3), .inl (cI, 6, .inl (upd ce p1.toNatClampNeg p2)))]) [2, 0, 1] rfl
                have hD9 := hD.sub (ws' := [((q 0), .inr (6, [.ref (q 1), .ref (q 2), .int on, .int hm, .int aw, .int tk, .ref (q 3), .ref (q 4), .ref (q 5), .int (nI sn), .ref (q 6), .ref (q 7), .ref (q 8), .ref (q 9), .int (nI kn), .ref (q 10), .ref (q 11), .ref (q 12), .ref (q 13), .ref (q 14), .ref (q 15), .ref (q 16), .ref (q 17), .int 0])), ((q 1), .inl (cZ, 144, .inl bk)), ((q 3), .inl (cI, 6, .inl (upd ce p1.toNatClampNeg p2)))]) [2, 0, 1] (by decide) rfl
                -- leaf 6
                refine W.widen (k := 0) (n := 0) (Nat.le_refl _) (Nat.le_refl _) ?_
                exact W.iret (v := ce p1.toNatClampNeg) hx hb hr (fun t ht hW => ⟨⟨ce p1.toNatClampNeg, (upd ce p1.toNatClampNeg p2, 0), rfl, ⟨(by rw [f_X6_move, if_neg c_2, if_neg c_8, if_neg c_14, if_neg c_19, if_pos c_24, if_pos c_25, if_pos c_31]), (by rw [g_ce_X6_move, if_neg c_2, if_neg c_8, if_neg c_14, if_neg c_19, if_pos c_24, if_pos c_25, if_pos c_31]), (by rw [g_th_X6_move, if_neg c_2, if_neg c_8, if_neg c_14, if_neg c_19, if_pos c_24, if_pos c_25, if_pos c_31])⟩, by rw [ht]; exact hP9, va_K.moved hW.alike hK, hD9⟩, hS.F ht⟩) hS.2.2 dX6_move_135
          · refine lv_aload_n hx hb dX6_move_52 rfl (lv_at hl 1 rfl) ?_
            refine va_get (D := D) (ci := 6) (v := .ref (q 3)) (C := RX6) (T := TX6) (N := 24) hx hb hts hi_X6 hown hK hP 0 rfl rfl 6 (by decide) hf_17 (fun _ h9 => h9) rfl dX6_move_53 ?_
            refine lv_iload_n hx hb dX6_move_56 rfl (lv_at hl 2 rfl) ?_
            refine va_iald hx hb hK hP 2 0 rfl rfl (by assumption) dX6_move_57 ?_
            refine lv_iload_n hx hb dX6_move_58 rfl (lv_at hl 3 rfl) ?_
            have hPc := hP.sub (ws' := []) [] rfl
            refine va_calli (va_runS (As := [.int (ce p1.toNatClampNeg), .int p2]) (rest := []) ⟨hx, hb, hml, hown, hts⟩ (c_X6_apart l D cI cZ cJ cA H.size (ce p1.toNatClampNeg) p2) (va_cwS 2 hts gX6_move_X6_apart rfl rfl rfl (by decide +kernel) ⟨Nat.le_of_ble_eq_true rfl, Nat.le_of_ble_eq_true rfl⟩) ⟨pcR_bl, fun U hU hW => ⟨rfl, by rw [hU], by rw [hU]; exact hPc, va_K.moved hW.alike hK⟩⟩ rfl rfl hl.1 rfl (lv_room (Nat.le_of_ble_eq_true rfl)) dX6_move_59 ⟨Nat.le_of_ble_eq_true rfl, Nat.le_of_ble_eq_true rfl⟩) hS (fun _ h1 h2 => absurd h1 (Nat.not_lt.mpr h2)) (rd_free hS hA) (fun r_40 u t H locs ht hvm hw hB hz1 hk1 hS => ?_)
            try dsimp only at hw
            have hr_40 := hw
            have hP := rd_P hP hk1
            obtain rfl := hr_40.symm
            refine W.widen (k := 0) (n := 0) (Nat.le_refl _) (Nat.le_refl _) ?_
            refine lv_iconst (v := 1) hx hb dX6_move_62 (by decide) ?_
            refine lv_icmp_ne (tgt := 88) hx hb dX6_move_63 (by decide) (fun c_41 => ?_) (fun c_41 => ?_)
            · refine lv_iconst (v := 0) hx hb dX6_move_88 (by decide) ?_
              refine lv_istore (lv' := [(4, .int 0), (3, .int 1), (0, .ref (q 0)), (1, .int p1), (2, .int p2)]) hx hb dX6_move_89 hl (by decide) rfl (fun ls hl => ?_)
              refine lv_aload_n hx hb dX6_move_91 rfl (lv_at hl 2 rfl) ?_
              refine lv_iload_n hx hb dX6_move_92 rfl (lv_at hl 1 rfl) ?_
              refine lv_if_ne (tgt := 100) hx hb dX6_move_93 (by decide) (fun _ => ?_) (fun c_42 => absurd c_42 (by decide))
              refine lv_iload hx hb dX6_move_100 (lv_at hl 0 rfl) ?_
              refine lv_if_eq (tgt := 109) hx hb dX6_move_102 (by decide) (fun _ => ?_) (fun c_43 => absurd (by decide) c_43)
              refine lv_iconst (v := 2) hx hb dX6_move_109 (by decide) ?_
              have hPc := hP.sub (ws' := [((q 0), .inr (6, [.ref (q 1), .ref (q 2), .int on, .int hm, .int aw, .int tk, .ref (q 3), .ref (q 4), .ref (q 5), .int (nI sn), .ref (q 6), .ref (q 7), .ref (q 8), .ref (q 9), .int (nI kn), .ref (q 10), .ref (q 11), .ref (q 12), .ref (q 13), .ref (q 14), .ref (q 15), .ref (q 16), .ref (q 17), .int th]))]) [0] rfl
              have hDc := hD.sub (ws' := [((q 0), .inr (6, [.ref (q 1), .ref (q 2), .int on, .int hm, .int aw, .int tk, .ref (q 3), .ref (q 4), .ref (q 5), .int (nI sn), .ref (q 6), .ref (q 7), .ref (q 8), .ref (q 9), .int (nI kn), .ref (q 10), .ref (q 11), .ref (q 12), .ref (q 13), .ref (q 14), .ref (q 15), .ref (q 16), .ref (q 17), .int th]))]) [0] (by decide) rfl
              have hFc := va_free (wc := [((q 0), .inr (6, [.ref (q 1), .ref (q 2), .int on, .int hm, .int aw, .int tk, .ref (q 3), .ref (q 4), .ref (q 5), .int (nI sn), .ref (q 6), .ref (q 7), .ref (q 8), .ref (q 9), .int (nI kn), .ref (q 10), .ref (q 11), .ref (q 12), .ref (q 13), .ref (q 14), .ref (q 15), .ref (q 16), .ref (q 17), .int th]))]) hD hS hA [0] rfl
              refine va_calli (va_runV (As := [.int 2]) (rest := []) ⟨hx, hb, hml, hown, hts⟩ (c_X6_fails l D cI cZ cJ cA H.size q on hm aw tk sn kn th 2) (cwV 1 hts gX6_move_X6_fails rfl rfl rfl (by decide +kernel) ⟨Nat.le_of_ble_eq_true rfl, Nat.le_of_ble_eq_true rfl⟩) ⟨pcW_bl, va_recv hK hPc (ci := 6) (q0 := 0) rfl rfl, fun U hU hW => ⟨rfl, by rw [hU], by rw [hU]; exact hPc, va_K.moved hW.alike hK, hDc.weaken (fun _ _ _ _ => trivial)⟩⟩ rfl rfl hl.1 rfl (lv_room (Nat.le_of_ble_eq_true rfl)) dX6_move_110 ⟨Nat.le_of_ble_eq_true rfl, Nat.le_of_ble_eq_true rfl⟩) hS (fun q _ h => hFc q h) hFc (fun r_44 u t H locs ht hvm hw hB hz1 hk1 hS => ?_)
              try dsimp only at hw
              obtain ⟨u0_44, rfl⟩ : ∃ z, z = u := ⟨_, rfl⟩
              obtain ⟨hr_44, hu0_44⟩ := hw
              obtain ⟨hP1, hK1, hD1⟩ := hB
              rw [ht] at hP1
              obtain ⟨hP, hD⟩ := va_join (wr := [((q 1), .inl (cZ, 144, .inl bk)), ((q 3), .inl (cI, 6, .inl ce))]) (w1 := [((q 0), .inr (6, [.ref (q 1), .ref (q 2), .int on, .int hm, .int aw, .int tk, .ref (q 3), .ref (q 4), .ref (q 5), .int (nI sn), .ref (q 6), .ref (q 7), .ref (q 8), .ref (q 9), .int (nI kn), .ref (q 10), .ref (q 11), .ref (q 12), .ref (q 13), .ref (q 14), .ref (q 15), .ref (q 16), .ref (q 17), .int u0_44]))]) hP hD [0] [1, 2] rfl rfl (by decide) (by decide) hk1 hFc hP1 hD1
              obtain rfl := hu0_44.symm
              have hP : va_P D vwCl [((q 1), .inl (cZ, 144, .inl bk)), ((q 3), .inl (cI, 6, .inl ce)), ((q 0), .inr (6, [.ref (q 1), .ref (q 2), .int on, .int hm, .int aw, .int tk, .ref (q 3), .ref (q 4), .ref (q 5), .int (nI sn), .ref (q 6), .ref (q 7), .ref (q 8), .ref (q 9), .int (nI kn), .ref (q 10), .ref (q 11), .ref (q 12), .ref (q 13), .ref (q 14), .ref (q 15), .ref (q 16), .ref (q 17), .int 2]))] H := hP
              have hD : va_D A [((q 1), .inl (cZ, 144, .inl bk)), ((q 3), .inl (cI, 6, .inl ce)), ((q 0), .inr (6, [.ref (q 1), .ref (q 2), .int on, .int hm, .int aw, .int tk, .ref (q 3), .ref (q 4), .ref (q 5), .int (nI sn), .ref (q 6), .ref (q 7), .ref (q 8), .ref (q 9), .int (nI kn), .ref (q 10), .ref (q 11), .ref (q 12), .ref (q 13), .ref (q 14), .ref (q 15), .ref (q 16), .ref (q 17), .int 2]))] := hD
              obtain rfl := hr_44.symm
              refine W.widen (k := 0) (n := 0) (Nat.le_refl _) (Nat.le_refl _) ?_
              refine tp_eq (y := 1) rfl ?_
              refine lv_if_eq (tgt := 118) hx hb dX6_move_113 (by decide) (fun c_45 => absurd c_45 (by decide)) (fun _ => ?_)
              refine lv_iconst (v := 0) hx hb dX6_move_116 (by decide) ?_
              have hP9 := hP.sub (ws' := [((q 0), .inr (6, [.ref (q 1), .ref (q 2), .int on, .int hm, .int aw, .int tk, .ref (q 3), .ref (q 4), .ref (q 5), .int (nI sn), .ref (q 6), .ref (q 7), .ref (q 8), .ref (q 9), .int (nI kn), .ref (q 10), .ref (q 11), .ref (q 12), .ref (q 13), .ref (q 14), .ref (q 15), .ref (q 16), .ref (q 17), .int 2])), ((q 1), .inl (cZ, 144, .inl bk)), ((q 3), .inl (cI, 6, .inl ce))]) [2, 0, 1] rfl
              have hD9 := hD.sub (ws' := [((q 0), .inr (6, [.ref (q 1), .ref (q 2), .int on, .int hm, .int aw, .int tk, .ref (q 3), .ref (q 4), .ref (q 5), .int (nI sn), .ref (q 6), .ref (q 7), .ref (q 8), .ref (q 9), .int (nI kn), .ref (q 10), .ref (q 11), .ref (q 12), .ref (q 13), .ref (q 14), .ref (q 15), .ref (q 16), .ref (q 17), .int 2])), ((q 1), .inl (cZ, 144, .inl bk)), ((q 3), .inl (cI, 6, .inl ce))]) [2, 0, 1] (by decide) rfl
              -- leaf 7
              refine W.widen (k := 0) (n := 0) (Nat.le_refl _) (Nat.le_refl _) ?_
              exact W.iret (v := 0) hx hb hr (fun t ht hW => ⟨⟨0, (ce, 2), rfl, ⟨(by rw [f_X6_move, if_neg c_2, if_neg c_8, if_neg c_14, if_neg c_19, if_neg c_24, if_neg c_41]), (by rw [g_ce_X6_move, if_neg c_2, if_neg c_8, if_neg c_14, if_neg c_19, if_neg c_24, if_neg c_41]), (by rw [g_th_X6_move, if_neg c_2, if_neg c_8, if_neg c_14, if_neg c_19, if_neg c_24, if_neg c_41])⟩, by rw [ht]; exact hP9, va_K.moved hW.alike hK, hD9⟩, hS.F ht⟩) hS.2.2 dX6_move_117
            · refine lv_aload_n hx hb dX6_move_66 rfl (lv_at hl 1 rfl) ?_
              refine va_get (D := D) (ci := 6) (v := .ref (q 1)) (C := RX6) (T := TX6) (N := 24) hx hb hts hi_X6 hown hK hP 0 rfl rfl 0 (by decide) hf_7 (fun _ h9 => h9) rfl dX6_move_67 ?_
              refine lv_iload_n hx hb dX6_move_70 rfl (lv_at hl 3 rfl) ?_
              refine va_zald hx hb hK hP 1 1 rfl rfl (by assumption) dX6_move_71 ?_
              refine lv_if_ne (tgt := 88) hx hb dX6_move_72 (by decide) (fun c_46 => ?_) (fun c_46 => ?_)
              · refine lv_iconst (v := 0) hx hb dX6_move_88 (by decide) ?_
                refine lv_istore (lv' := [(4, .int 0), (3, .int 1), (0, .ref (q 0)), (1, .int p1), (2, .int p2)]) hx hb dX6_move_89 hl (by decide) rfl (fun ls hl => ?_)
                refine lv_aload_n hx hb dX6_move_91 rfl (lv_at hl 2 rfl) ?_
                refine lv_iload_n hx hb dX6_move_92 rfl (lv_at hl 1 rfl) ?_
                refine lv_if_ne (tgt := 100) hx hb dX6_move_93 (by decide) (fun _ => ?_) (fun c_47 => absurd c_47 (by decide))
                refine lv_iload hx hb dX6_move_100 (lv_at hl 0 rfl) ?_
                refine lv_if_eq (tgt := 109) hx hb dX6_move_102 (by decide) (fun _ => ?_) (fun c_48 => absurd (by decide) c_48)
                refine lv_iconst (v := 2) hx hb dX6_move_109 (by decide) ?_
                have hPc := hP.sub (ws' := [((q 0), .inr (6, [.ref (q 1), .ref (q 2), .int on, .int hm, .int aw, .int tk, .ref (q 3), .ref (q 4), .ref (q 5), .int (nI sn), .ref (q 6), .ref (q 7), .ref (q 8), .ref (q 9), .int (nI kn), .ref (q 10), .ref (q 11), .ref (q 12), .ref (q 13), .ref (q 14), .ref (q 15), .ref (q 16), .ref (q 17), .int th]))]) [0] rfl
                have hDc := hD.sub (ws' := [((q 0), .inr (6, [.ref (q 1), .ref (q 2), .int on, .int hm, .int aw, .int tk, .ref (q 3), .ref (q 4), .ref (q 5), .int (nI sn), .ref (q 6), .ref (q 7), .ref (q 8), .ref (q 9), .int (nI kn), .ref (q 10), .ref (q 11), .ref (q 12), .ref (q 13), .ref (q 14), .ref (q 15), .ref (q 16), .ref (q 17), .int th]))]) [0] (by decide) rfl
                have hFc := va_free (wc := [((q 0), .inr (6, [.ref (q 1), .ref (q 2), .int on, .int hm, .int aw, .int tk, .ref (q 3), .ref (q 4), .ref (q 5), .int (nI sn), .ref (q 6), .ref (q 7), .ref (q 8), .ref (q 9), .int (nI kn), .ref (q 10), .ref (q 11), .ref (q 12), .ref (q 13), .ref (q 14), .ref (q 15), .ref (q 16), .ref (q 17), .int th]))]) hD hS hA [0] rfl
                refine va_calli (va_runV (As := [.int 2]) (rest := []) ⟨hx, hb, hml, hown, hts⟩ (c_X6_fails l D cI cZ cJ cA H.size q on hm aw tk sn kn th 2) (cwV 1 hts gX6_move_X6_fails rfl rfl rfl (by decide +kernel) ⟨Nat.le_of_ble_eq_true rfl, Nat.le_of_ble_eq_true rfl⟩) ⟨pcW_bl, va_recv hK hPc (ci := 6) (q0 := 0) rfl rfl, fun U hU hW => ⟨rfl, by rw [hU], by rw [hU]; exact hPc, va_K.moved hW.alike hK, hDc.weaken (fun _ _ _ _ => trivial)⟩⟩ rfl rfl hl.1 rfl (lv_room (Nat.le_of_ble_eq_true rfl)) dX6_move_110 ⟨Nat.le_of_ble_eq_true rfl, Nat.le_of_ble_eq_true rfl⟩) hS (fun q _ h => hFc q h) hFc (fun r_49 u t H locs ht hvm hw hB hz1 hk1 hS => ?_)
                try dsimp only at hw
                obtain ⟨u0_49, rfl⟩ : ∃ z, z = u := ⟨_, rfl⟩
                obtain ⟨hr_49, hu0_49⟩ := hw
                obtain ⟨hP1, hK1, hD1⟩ := hB
                rw [ht] at hP1
                obtain ⟨hP, hD⟩ := va_join (wr := [((q 1), .inl (cZ, 144, .inl bk)), ((q 3), .inl (cI, 6, .inl ce))]) (w1 := [((q 0), .inr (6, [.ref (q 1), .ref (q 2), .int on, .int hm, .int aw, .int tk, .ref (q 3), .ref (q 4), .ref (q 5), .int (nI sn), .ref (q 6), .ref (q 7), .ref (q 8), .ref (q 9), .int (nI kn), .ref (q 10), .ref (q 11), .ref (q 12), .ref (q 13), .ref (q 14), .ref (q 15), .ref (q 16), .ref (q 17), .int u0_49]))]) hP hD [0] [1, 2] rfl rfl (by decide) (by decide) hk1 hFc hP1 hD1
                obtain rfl := hu0_49.symm
                have hP : va_P D vwCl [((q 1), .inl (cZ, 144, .inl bk)), ((q 3), .inl (cI, 6, .inl ce)), ((q 0), .inr (6, [.ref (q 1), .ref (q 2), .int on, .int hm, .int aw, .int tk, .ref (q 3), .ref (q 4), .ref (q 5), .int (nI sn), .ref (q 6), .ref (q 7), .ref (q 8), .ref (q 9), .int (nI kn), .ref (q 10), .ref (q 11), .ref (q 12), .ref (q 13), .ref (q 14), .ref (q 15), .ref (q 16), .ref (q 17), .int 2]))] H := hP
                have hD : va_D A [((q 1), .inl (cZ, 144, .inl bk)), ((q 3), .inl (cI, 6, .inl ce)), ((q 0), .inr (6, [.ref (q 1), .ref (q 2), .int on, .int hm, .int aw, .int tk, .ref (q 3), .ref (q 4), .ref (q 5), .int (nI sn), .ref (q 6), .ref (q 7), .ref (q 8), .ref (q 9), .int (nI kn), .ref (q 10), .ref (q 11), .ref (q 12), .ref (q 13), .ref (q 14), .ref (q 15), .ref (q 16), .ref (q 17), .int 2]))] := hD
                obtain rfl := hr_49.symm
                refine W.widen (k := 0) (n := 0) (Nat.le_refl _) (Nat.le_refl _) ?_
                refine tp_eq (y := 1) rfl ?_
                refine lv_if_eq (tgt := 118) hx hb dX6_move_113 (by decide) (fun c_50 => absurd c_50 (by decide)) (fun _ => ?_)
                refine lv_iconst (v := 0) hx hb dX6_move_116 (by decide) ?_
                have hP9 := hP.sub (ws' := [((q 0), .inr (6, [.ref (q 1), .ref (q 2), .int on, .int hm, .int aw, .int tk, .ref (q 3), .ref (q 4), .ref (q 5), .int (nI sn), .ref (q 6), .ref (q 7), .ref (q 8), .ref (q 9), .int (nI kn), .ref (q 10), .ref (q 11), .ref (q 12), .ref (q 13), .ref (q 14), .ref (q 15), .ref (q 16), .ref (q 17), .int 2])), ((q 1), .inl (cZ, 144, .inl bk)), ((q 3), .inl (cI, 6, .inl ce))]) [2, 0, 1] rfl
                have hD9 := hD.sub (ws' := [((q 0), .inr (6, [.ref (q 1), .ref (q 2), .int on, .int hm, .int aw, .int tk, .ref (q 3), .ref (q 4), .ref (q 5), .int (nI sn), .ref (q 6), .ref (q 7), .ref (q 8), .ref (q 9), .int (nI kn), .ref (q 10), .ref (q 11), .ref (q 12), .ref (q 13), .ref (q 14), .ref (q 15), .ref (q 16), .ref (q 17), .int 2])), ((q 1), .inl (cZ, 144, .inl bk)), ((q 3), .inl (cI, 6, .inl ce))]) [2, 0, 1] (by decide) rfl
                -- leaf 8
                refine W.widen (k := 0) (n := 0) (Nat.le_refl _) (Nat.le_refl _) ?_
                exact W.iret (v := 0) hx hb hr (fun t ht hW => ⟨⟨0, (ce, 2), rfl, ⟨(by rw [f_X6_move, if_neg c_2, if_neg c_8, if_neg c_14, if_neg c_19, if_neg c_24, if_pos c_41, if_neg c_46]), (by rw [g_ce_X6_move, if_neg c_2, if_neg c_8, if_neg c_14, if_neg c_19, if_neg c_24, if_pos c_41, if_neg c_46]), (by rw [g_th_X6_move, if_neg c_2, if_neg c_8, if_neg c_14, if_neg c_19, if_neg c_24, if_pos c_41, if_neg c_46])⟩, by rw [ht]; exact hP9, va_K.moved hW.alike hK, hD9⟩, hS.F ht⟩) hS.2.2 dX6_move_117
              · refine lv_aload_n hx hb dX6_move_75 rfl (lv_at hl 1 rfl) ?_
                refine lv_iload_n hx hb dX6_move_76 rfl (lv_at hl 3 rfl) ?_
                have hPc := hP.sub (ws' := [((q 0), .inr (6, [.ref (q 1), .ref (q 2), .int on, .int hm, .int aw, .int tk, .ref (q 3), .ref (q 4), .ref (q 5), .int (nI sn), .ref (q 6), .ref (q 7), .ref (q 8), .ref (q 9), .int (nI kn), .ref (q 10), .ref (q 11), .ref (q 12), .ref (q 13), .ref (q 14), .ref (q 15), .ref (q 16), .ref (q 17), .int th])), ((q 3), .inl (cI, 6, .inl ce))]) [0, 2] rfl
                refine va_calli (va_runV (As := [.int p2]) (rest := []) ⟨hx, hb, hml, hown, hts⟩ (c_X6_standsOn l D cI cZ cJ cA H.size q on hm aw tk ce sn kn th p2) (cwV 1 hts gX6_move_X6_standsOn rfl rfl rfl (by decide +kernel) ⟨Nat.le_of_ble_eq_true rfl, Nat.le_of_ble_eq_true rfl⟩) ⟨pcR_bl, va_recv hK hPc (ci := 6) (q0 := 0) rfl rfl, fun U hU hW => ⟨rfl, by rw [hU], by rw [hU]; exact hPc, va_K.moved hW.alike hK⟩⟩ rfl rfl hl.1 rfl (lv_room (Nat.le_of_ble_eq_true rfl)) dX6_move_77 ⟨Nat.le_of_ble_eq_true rfl, Nat.le_of_ble_eq_true rfl⟩) hS (fun _ h1 h2 => absurd h1 (Nat.not_lt.mpr h2)) (rd_free hS hA) (fun r_51 u t H locs ht hvm hw hB hz1 hk1 hS => ?_)
                try dsimp only at hw
                have hr_51 := hw
                have hP := rd_P hP hk1
                obtain rfl := hr_51.symm
                refine W.widen (k := 0) (n := 0) (Nat.le_refl _) (Nat.le_refl _) ?_
                refine lv_iconst (v := (-1)) hx hb dX6_move_80 (by decide) ?_
                refine lv_icmp_ne (tgt := 88) hx hb dX6_move_81 (by decide) (fun c_52 => ?_) (fun c_52 => ?_)
                · refine lv_iconst (v := 0) hx hb dX6_move_88 (by decide) ?_
                  refine lv_istore (lv' := [(4, .int 0), (3, .int 1), (0, .ref (q 0)), (1, .int p1), (2, .int p2)]) hx hb dX6_move_89 hl (by decide) rfl (fun ls hl => ?_)
                  refine lv_aload_n hx hb dX6_move_91 rfl (lv_at hl 2 rfl) ?_
                  refine lv_iload_n hx hb dX6_move_92 rfl (lv_at hl 1 rfl) ?_
                  refine lv_if_ne (tgt := 100) hx hb dX6_move_93 (by decide) (fun _ => ?_) (fun c_53 => absurd c_53 (by decide))
                  refine lv_iload hx hb dX6_move_100 (lv_at hl 0 rfl) ?_
                  refine lv_if_eq (tgt := 109) hx hb dX6_move_102 (by decide) (fun _ => ?_) (fun c_54 => absurd (by decide) c_54)
                  refine lv_iconst (v := 2) hx hb dX6_move_109 (by decide) ?_
                  have hPc := hP.sub (ws' := [((q 0), .inr (6, [.ref (q 1), .ref (q 2), .int on, .int hm, .int aw, .int tk, .ref (q 3), .ref (q 4), .ref (q 5), .int (nI sn), .ref (q 6), .ref (q 7), .ref (q 8), .ref (q 9), .int (nI kn), .ref (q 10), .ref (q 11), .ref (q 12), .ref (q 13), .ref (q 14), .ref (q 15), .ref (q 16), .ref (q 17), .int th]))]) [0] rfl
                  have hDc := hD.sub (ws' := [((q 0), .inr (6, [.ref (q 1), .ref (q 2), .int on, .int hm, .int aw, .int tk, .ref (q 3), .ref (q 4), .ref (q 5), .int (nI sn), .ref (q 6), .ref (q 7), .ref (q 8), .ref (q 9), .int (nI kn), .ref (q 10), .ref (q 11), .ref (q 12), .ref (q 13), .ref (q 14), .ref (q 15), .ref (q 16), .ref (q 17), .int th]))]) [0] (by decide) rfl
                  have hFc := va_free (wc := [((q 0), .inr (6, [.ref (q 1), .ref (q 2), .int on, .int hm, .int aw, .int tk, .ref (q 3), .ref (q 4), .ref (q 5), .int (nI sn), .ref (q 6), .ref (q 7), .ref (q 8), .ref (q 9), .int (nI kn), .ref (q 10), .ref (q 11), .ref (q 12), .ref (q 13), .ref (q 14), .ref (q 15), .ref (q 16), .ref (q 17), .int th]))]) hD hS hA [0] rfl
                  refine va_calli (va_runV (As := [.int 2]) (rest := []) ⟨hx, hb, hml, hown, hts⟩ (c_X6_fails l D cI cZ cJ cA H.size q on hm aw tk sn kn th 2) (cwV 1 hts gX6_move_X6_fails rfl rfl rfl (by decide +kernel) ⟨Nat.le_of_ble_eq_true rfl, Nat.le_of_ble_eq_true rfl⟩) ⟨pcW_bl, va_recv hK hPc (ci := 6) (q0 := 0) rfl rfl, fun U hU hW => ⟨rfl, by rw [hU], by rw [hU]; exact hPc, va_K.moved hW.alike hK, hDc.weaken (fun _ _ _ _ => trivial)⟩⟩ rfl rfl hl.1 rfl (lv_room (Nat.le_of_ble_eq_true rfl)) dX6_move_110 ⟨Nat.le_of_ble_eq_true rfl, Nat.le_of_ble_eq_true rfl⟩) hS (fun q _ h => hFc q h) hFc (fun r_55 u t H locs ht hvm hw hB hz1 hk1 hS => ?_)
                  try dsimp only at hw
                  obtain ⟨u0_55, rfl⟩ : ∃ z, z = u := ⟨_, rfl⟩
                  obtain ⟨hr_55, hu0_55⟩ := hw
                  obtain ⟨hP1, hK1, hD1⟩ := hB
                  rw [ht] at hP1
                  obtain ⟨hP, hD⟩ := va_join (wr := [((q 1), .inl (cZ, 144, .inl bk)), ((q 3), .inl (cI, 6, .inl ce))]) (w1 := [((q 0), .inr (6, [.ref (q 1), .ref (q 2), .int on, .int hm, .int aw, .int tk, .ref (q 3), .ref (q 4), .ref (q 5), .int (nI sn), .ref (q 6), .ref (q 7), .ref (q 8), .ref (q 9), .int (nI kn), .ref (q 10), .ref (q 11), .ref (q 12), .ref (q 13), .ref (q 14), .ref (q 15), .ref (q 16), .ref (q 17), .int u0_55]))]) hP hD [0] [1, 2] rfl rfl (by decide) (by decide) hk1 hFc hP1 hD1
                  obtain rfl := hu0_55.symm
                  have hP : va_P D vwCl [((q 1), .inl (cZ, 144, .inl bk)), ((q 3), .inl (cI, 6, .inl ce)), ((q 0), .inr (6, [.ref (q 1), .ref (q 2), .int on, .int hm, .int aw, .int tk, .ref (q 3), .ref (q 4), .ref (q 5), .int (nI sn), .ref (q 6), .ref (q 7), .ref (q 8), .ref (q 9), .int (nI kn), .ref (q 10), .ref (q 11), .ref (q 12), .ref (q 13), .ref (q 14), .ref (q 15), .ref (q 16), .ref (q 17), .int 2]))] H := hP
                  have hD : va_D A [((q 1), .inl (cZ, 144, .inl bk)), ((q 3), .inl (cI, 6, .inl ce)), ((q 0), .inr (6, [.ref (q 1), .ref (q 2), .int on, .int hm, .int aw, .int tk, .ref (q 3), .ref (q 4), .ref (q 5), .int (nI sn), .ref (q 6), .ref (q 7), .ref (q 8), .ref (q 9), .int (nI kn), .ref (q 10), .ref (q 11), .ref (q 12), .ref (q 13), .ref (q 14), .ref (q 15), .ref (q 16), .ref (q 17), .int 2]))] := hD
                  obtain rfl := hr_55.symm
                  refine W.widen (k := 0) (n := 0) (Nat.le_refl _) (Nat.le_refl _) ?_
                  refine tp_eq (y := 1) rfl ?_
                  refine lv_if_eq (tgt := 118) hx hb dX6_move_113 (by decide) (fun c_56 => absurd c_56 (by decide)) (fun _ => ?_)
                  refine lv_iconst (v := 0) hx hb dX6_move_116 (by decide) ?_
                  have hP9 := hP.sub (ws' := [((q 0), .inr (6, [.ref (q 1), .ref (q 2), .int on, .int hm, .int aw, .int tk, .ref (q 3), .ref (q 4), .ref (q 5), .int (nI sn), .ref (q 6), .ref (q 7), .ref (q 8), .ref (q 9), .int (nI kn), .ref (q 10), .ref (q 11), .ref (q 12), .ref (q 13), .ref (q 14), .ref (q 15), .ref (q 16), .ref (q 17), .int 2])), ((q 1), .inl (cZ, 144, .inl bk)), ((q 3), .inl (cI, 6, .inl ce))]) [2, 0, 1] rfl
                  have hD9 := hD.sub (ws' := [((q 0), .inr (6, [.ref (q 1), .ref (q 2), .int on, .int hm, .int aw, .int tk, .ref (q 3), .ref (q 4), .ref (q 5), .int (nI sn), .ref (q 6), .ref (q 7), .ref (q 8), .ref (q 9), .int (nI kn), .ref (q 10), .ref (q 11), .ref (q 12), .ref (q 13), .ref (q 14), .ref (q 15), .ref (q 16), .ref (q 17), .int 2])), ((q 1), .inl (cZ, 144, .inl bk)), ((q 3), .inl (cI, 6, .inl ce))]) [2, 0, 1] (by decide) rfl
                  -- leaf 9
                  refine W.widen (k := 0) (n := 0) (Nat.le_refl _) (Nat.le_refl _) ?_
                  exact W.iret (v := 0) hx hb hr (fun t ht hW => ⟨⟨0, (ce, 2), rfl, ⟨(by rw [f_X6_move, if_neg c_2, if_neg c_8, if_neg c_14, if_neg c_19, if_neg c_24, if_pos c_41, if_pos c_46, if_neg c_52]), (by rw [g_ce_X6_move, if_neg c_2, if_neg c_8, if_neg c_14, if_neg c_19, if_neg c_24, if_pos c_41, if_pos c_46, if_neg c_52]), (by rw [g_th_X6_move, if_neg c_2, if_neg c_8, if_neg c_14, if_neg c_19, if_neg c_24, if_pos c_41, if_pos c_46, if_neg c_52])⟩, by rw [ht]; exact hP9, va_K.moved hW.alike hK, hD9⟩, hS.F ht⟩) hS.2.2 dX6_move_117
                · refine lv_iconst (v := 1) hx hb dX6_move_84 (by decide) ?_
                  refine lv_goto (tgt := 89) hx hb dX6_move_85 (by decide) ?_
                  refine lv_istore (lv' := [(4, .int 1), (3, .int 1), (0, .ref (q 0)), (1, .int p1), (2, .int p2)]) hx hb dX6_move_89 hl (by decide) rfl (fun ls hl => ?_)
                  refine lv_aload_n hx hb dX6_move_91 rfl (lv_at hl 2 rfl) ?_
                  refine lv_iload_n hx hb dX6_move_92 rfl (lv_at hl 1 rfl) ?_
                  refine lv_if_ne (tgt := 100) hx hb dX6_move_93 (by decide) (fun _ => ?_) (fun c_57 => absurd c_57 (by decide))
                  refine lv_iload hx hb dX6_move_100 (lv_at hl 0 rfl) ?_
                  refine lv_if_eq (tgt := 109) hx hb dX6_move_102 (by decide) (fun c_58 => absurd c_58 (by decide)) (fun _ => ?_)
                  refine lv_iconst (v := 0) hx hb dX6_move_105 (by decide) ?_
                  refine lv_goto (tgt := 110) hx hb dX6_move_106 (by decide) ?_
                  have hPc := hP.sub (ws' := [((q 0), .inr (6, [.ref (q 1), .ref (q 2), .int on, .int hm, .int aw, .int tk, .ref (q 3), .ref (q 4), .ref (q 5), .int (nI sn), .ref (q 6), .ref (q 7), .ref (q 8), .ref (q 9), .int (nI kn), .ref (q 10), .ref (q 11), .ref (q 12), .ref (q 13), .ref (q 14), .ref (q 15), .ref (q 16), .ref (q 17), .int th]))]) [0] rfl
                  have hDc := hD.sub (ws' := [((q 0), .inr (6, [.ref (q 1), .ref (q 2), .int on, .int hm, .int aw, .int tk, .ref (q 3), .ref (q 4), .ref (q 5), .int (nI sn), .ref (q 6), .ref (q 7), .ref (q 8), .ref (q 9), .int (nI kn), .ref (q 10), .ref (q 11), .ref (q 12), .ref (q 13), .ref (q 14), .ref (q 15), .ref (q 16), .ref (q 17), .int th]))]) [0] (by decide) rfl
                  have hFc := va_free (wc := [((q 0), .inr (6, [.ref (q 1), .ref (q 2), .int on, .int hm, .int aw, .int tk, .ref (q 3), .ref (q 4), .ref (q 5), .int (nI sn), .ref (q 6), .ref (q 7), .ref (q 8), .ref (q 9), .int (nI kn), .ref (q 10), .ref (q 11), .ref (q 12), .ref (q 13), .ref (q 14), .ref (q 15), .ref (q 16), .ref (q 17), .int th]))]) hD hS hA [0] rfl
                  refine va_calli (va_runV (As := [.int 0]) (rest := []) ⟨hx, hb, hml, hown, hts⟩ (c_X6_fails l D cI cZ cJ cA H.size q on hm aw tk sn kn th 0) (cwV 1 hts gX6_move_X6_fails rfl rfl rfl (by decide +kernel) ⟨Nat.le_of_ble_eq_true rfl, Nat.le_of_ble_eq_true rfl⟩) ⟨pcW_bl, va_recv hK hPc (ci := 6) (q0 := 0) rfl rfl, fun U hU hW => ⟨rfl, by rw [hU], by rw [hU]; exact hPc, va_K.moved hW.alike hK, hDc.weaken (fun _ _ _ _ => trivial)⟩⟩ rfl rfl hl.1 rfl (lv_room (Nat.le_of_ble_eq_true rfl)) dX6_move_110 ⟨Nat.le_of_ble_eq_true rfl, Nat.le_of_ble_eq_true rfl⟩) hS (fun q _ h => hFc q h) hFc (fun r_59 u t H locs ht hvm hw hB hz1 hk1 hS => ?_)
                  try dsimp only at hw
                  obtain ⟨u0_59, rfl⟩ : ∃ z, z = u := ⟨_, rfl⟩
                  obtain ⟨hr_59, hu0_59⟩ := hw
                  obtain ⟨hP1, hK1, hD1⟩ := hB
                  rw [ht] at hP1
                  obtain ⟨hP, hD⟩ := va_join (wr := [((q 1), .inl (cZ, 144, .inl bk)), ((q 3), .inl (cI, 6, .inl ce))]) (w1 := [((q 0), .inr (6, [.ref (q 1), .ref (q 2), .int on, .int hm, .int aw, .int tk, .ref (q 3), .ref (q 4), .ref (q 5), .int (nI sn), .ref (q 6), .ref (q 7), .ref (q 8), .ref (q 9), .int (nI kn), .ref (q 10), .ref (q 11), .ref (q 12), .ref (q 13), .ref (q 14), .ref (q 15), .ref (q 16), .ref (q 17), .int u0_59]))]) hP hD [0] [1, 2] rfl rfl (by decide) (by decide) hk1 hFc hP1 hD1
                  obtain rfl := hu0_59.symm
                  have hP : va_P D vwCl [((q 1), .inl (cZ, 144, .inl bk)), ((q 3), .inl (cI, 6, .inl ce)), ((q 0), .inr (6, [.ref (q 1), .ref (q 2), .int on, .int hm, .int aw, .int tk, .ref (q 3), .ref (q 4), .ref (q 5), .int (nI sn), .ref (q 6), .ref (q 7), .ref (q 8), .ref (q 9), .int (nI kn), .ref (q 10), .ref (q 11), .ref (q 12), .ref (q 13), .ref (q 14), .ref (q 15), .ref (q 16), .ref (q 17), .int 0]))] H := hP
                  have hD : va_D A [((q 1), .inl (cZ, 144, .inl bk)), ((q 3), .inl (cI, 6, .inl ce)), ((q 0), .inr (6, [.ref (q 1), .ref (q 2), .int on, .int hm, .int aw, .int tk, .ref (q 3), .ref (q 4), .ref (q 5), .int (nI sn), .ref (q 6), .ref (q 7), .ref (q 8), .ref (q 9), .int (nI kn), .ref (q 10), .ref (q 11), .ref (q 12), .ref (q 13), .ref (q 14), .ref (q 15), .ref (q 16), .ref (q 17), .int 0]))] := hD
                  obtain rfl := hr_59.symm
                  refine W.widen (k := 0) (n := 0) (Nat.le_refl _) (Nat.le_refl _) ?_
                  refine tp_eq (y := 0) rfl ?_
                  refine lv_if_eq (tgt := 118) hx hb dX6_move_113 (by decide) (fun _ => ?_) (fun c_60 => absurd (by decide) c_60)
                  refine lv_aload_n hx hb dX6_move_118 rfl (lv_at hl 2 rfl) ?_
                  refine va_get (D := D) (ci := 6) (v := .ref (q 3)) (C := RX6) (T := TX6) (N := 24) hx hb hts hi_X6 hown hK hP 2 rfl rfl 6 (by decide) hf_17 (fun _ h9 => h9) rfl dX6_move_119 ?_
                  refine lv_iload_n hx hb dX6_move_122 rfl (lv_at hl 3 rfl) ?_
                  refine va_iald hx hb hK hP 1 0 rfl rfl (by assumption) dX6_move_123 ?_
                  refine lv_istore (lv' := [(5, .int (ce p1.toNatClampNeg)), (4, .int 1), (3, .int 1), (0, .ref (q 0)), (1, .int p1), (2, .int p2)]) hx hb dX6_move_124 hl (by decide) rfl (fun ls hl => ?_)
                  refine lv_aload_n hx hb dX6_move_126 rfl (lv_at hl 3 rfl) ?_
                  refine va_get (D := D) (ci := 6) (v := .ref (q 3)) (C := RX6) (T := TX6) (N := 24) hx hb hts hi_X6 hown hK hP 2 rfl rfl 6 (by decide) hf_17 (fun _ h9 => h9) rfl dX6_move_127 ?_
                  refine lv_iload_n hx hb dX6_move_130 rfl (lv_at hl 4 rfl) ?_
                  refine lv_iload_n hx hb dX6_move_131 rfl (lv_at hl 5 rfl) ?_
                  refine va_iast hx hb hK hP hD hS 1 0 rfl rfl (by assumption) dX6_move_132 (fun H locs hP hD hS => ?_)
                  have hP : va_P D vwCl [((q 1), .inl (cZ, 144, .inl bk)), ((q 3), .inl (cI, 6, .inl (upd ce p1.toNatClampNeg p2))), ((q 0), .inr (6, [.ref (q 1), .ref (q 2), .int on, .int hm, .int aw, .int tk, .ref (q 3), .ref (q 4), .ref (q 5), .int (nI sn), .ref (q 6), .ref (q 7), .ref (q 8), .ref (q 9), .int (nI kn), .ref (q 10), .ref (q 11), .ref (q 12), .ref (q 13), .ref (q 14), .ref (q 15), .ref (q 16), .ref (q 17), .int 0]))] H := hP
                  have hD : va_D A [((q 1), .inl (cZ, 144, .inl bk)), ((q 3), .inl (cI, 6, .inl (upd ce p1.toNatClampNeg p2))), ((q 0), .inr (6, [.ref (q 1), .ref (q 2), .int on, .int hm, .int aw, .int tk, .ref (q 3), .ref (q 4), .ref (q 5), .int (nI sn), .ref (q 6), .ref (q 7), .ref (q 8), .ref (q 9), .int (nI kn), .ref (q 10), .ref (q 11), .ref (q 12), .ref (q 13), .ref (q 14), .ref (q 15), .ref (q 16), .ref (q 17), .int 0]))] := hD
                  refine lv_iload hx hb dX6_move_133 (lv_at hl 0 rfl) ?_
                  have hP9 := hP.sub (ws' := [((q 0), .inr (6, [.ref (q 1), .ref (q 2), .int on, .int hm, .int aw, .int tk, .ref (q 3), .ref (q 4), .ref (q 5), .int (nI sn), .ref (q 6), .ref (q 7), .ref (q 8), .ref (q 9), .int (nI kn), .ref (q 10), .ref (q 11), .ref (q 12), .ref (q 13), .ref (q 14), .ref (q 15), .ref (q 16), .ref (q 17), .int 0])), ((q 1), .inl (cZ, 144, .inl bk)), ((q 3), .inl (cI, 6, .inl (upd ce p1.toNatClampNeg p2)))]) [2, 0, 1] rfl
                  have hD9 := hD.sub (ws' := [((q 0), .inr (6, [.ref (q 1), .ref (q 2), .int on, .int hm, .int aw, .int tk, .ref (q 3), .ref (q 4), .ref (q 5), .int (nI sn), .ref (q 6), .ref (q 7), .ref (q 8), .ref (q 9), .int (nI kn), .ref (q 10), .ref (q 11), .ref (q 12), .ref (q 13), .ref (q 14), .ref (q 15), .ref (q 16), .ref (q 17), .int 0])), ((q 1), .inl (cZ, 144, .inl bk)), ((q 3), .inl (cI, 6, .inl (upd ce p1.toNatClampNeg p2)))]) [2, 0, 1] (by decide) rfl
                  -- leaf 10
                  refine W.widen (k := 0) (n := 0) (Nat.le_refl _) (Nat.le_refl _) ?_
                  exact W.iret (v := ce p1.toNatClampNeg) hx hb hr (fun t ht hW => ⟨⟨ce p1.toNatClampNeg, (upd ce p1.toNatClampNeg p2, 0), rfl, ⟨(by rw [f_X6_move, if_neg c_2, if_neg c_8, if_neg c_14, if_neg c_19, if_neg c_24, if_pos c_41, if_pos c_46, if_pos c_52]), (by rw [g_ce_X6_move, if_neg c_2, if_neg c_8, if_neg c_14, if_neg c_19, if_neg c_24, if_pos c_41, if_pos c_46, if_pos c_52]), (by rw [g_th_X6_move, if_neg c_2, if_neg c_8, if_neg c_14, if_neg c_19, if_neg c_24, if_pos c_41, if_pos c_46, if_pos c_52])⟩, by rw [ht]; exact hP9, va_K.moved hW.alike hK, hD9⟩, hS.F ht⟩) hS.2.2 dX6_move_135

noncomputable def f_X6_shoot (on : Int32) (hm : Int32) (aw : Int32) (tk : Int32) (ce : Nat → Int32) (la : Nat → Int32) (sn : Nat) (sa : Nat → Int32) (sb : Nat → Int32) (sc : Nat → Int32) (sd : Nat → Int32) (kn : Nat) (th : Int32) (p1 : Int32) (p2 : Int32) : Int32 := if (f_X6_isIn p1 0 5) = 0 then 0 else (if (f_X6_isIn p2 0 143) = 0 then 0 else (if on = 0 then 0 else (if (ce p1.toNatClampNeg) < 0 then 0 else (if (la p1.toNatClampNeg) = tk then 0 else (if (ce p1.toNatClampNeg) = p2 then 0 else (if 100 ≤ (nI sn) then 0 else (upd sd sn (tk + (((f_X6_apart (ce p1.toNatClampNeg) p2) + 3) / 4))) sn))))))
noncomputable def g_la_X6_shoot (on : Int32) (hm : Int32) (aw : Int32) (tk : Int32) (ce : Nat → Int32) (la : Nat → Int32) (sn : Nat) (sa : Nat → Int32) (sb : Nat → Int32) (sc : Nat → Int32) (sd : Nat → Int32) (kn : Nat) (th : Int32) (p1 : Int32) (p2 : Int32) : Nat → Int32 := if (f_X6_isIn p1 0 5) = 0 then la else (if (f_X6_isIn p2 0 143) = 0 then la else (if on = 0 then la else (if (ce p1.toNatClampNeg) < 0 then la else (if (la p1.toNatClampNeg) = tk then la else (if (ce p1.toNatClampNeg) = p2 then la else (if 100 ≤ (nI sn) then la else upd la p1.toNatClampNeg tk))))))
noncomputable def g_sn_X6_shoot (on : Int32) (hm : Int32) (aw : Int32) (tk : Int32) (ce : Nat → Int32) (la : Nat → Int32) (sn : Nat) (sa : Nat → Int32) (sb : Nat → Int32) (sc : Nat → Int32) (sd : Nat → Int32) (kn : Nat) (th : Int32) (p1 : Int32) (p2 : Int32) : Nat := if (f_X6_isIn p1 0 5) = 0 then sn else (if (f_X6_isIn p2 0 143) = 0 then sn else (if on = 0 then sn else (if (ce p1.toNatClampNeg) < 0 then sn else (if (la p1.toNatClampNeg) = tk then sn else (if (ce p1.toNatClampNeg) = p2 then sn else (if 100 ≤ (nI sn) then sn else (sn + 1)))))))
noncomputable def g_sa_X6_shoot (on : Int32) (hm : Int32) (aw : Int32) (tk : Int32) (ce : Nat → Int32) (la : Nat → Int32) (sn : Nat) (sa : Nat → Int32) (sb : Nat → Int32) (sc : Nat → Int32) (sd : Nat → Int32) (kn : Nat) (th : Int32) (p1 : Int32) (p2 : Int32) : Nat → Int32 := if (f_X6_isIn p1 0 5) = 0 then sa else (if (f_X6_isIn p2 0 143) = 0 then sa else (if on = 0 then sa else (if (ce p1.toNatClampNeg) < 0 then sa else (if (la p1.toNatClampNeg) = tk then sa else (if (ce p1.toNatClampNeg) = p2 then sa else (if 100 ≤ (nI sn) then sa else upd sa sn p1))))))
noncomputable def g_sb_X6_shoot (on : Int32) (hm : Int32) (aw : Int32) (tk : Int32) (ce : Nat → Int32) (la : Nat → Int32) (sn : Nat) (sa : Nat → Int32) (sb : Nat → Int32) (sc : Nat → Int32) (sd : Nat → Int32) (kn : Nat) (th : Int32) (p1 : Int32) (p2 : Int32) : Nat → Int32 := if (f_X6_isIn p1 0 5) = 0 then sb else (if (f_X6_isIn p2 0 143) = 0 then sb else (if on = 0 then sb else (if (ce p1.toNatClampNeg) < 0 then sb else (if (la p1.toNatClampNeg) = tk then sb else (if (ce p1.toNatClampNeg) = p2 then sb else (if 100 ≤ (nI sn) then sb else upd sb sn (ce p1.toNatClampNeg)))))))
noncomputable def g_sc_X6_shoot (on : Int32) (hm : Int32) (aw : Int32) (tk : Int32) (ce : Nat → Int32) (la : Nat → Int32) (sn : Nat) (sa : Nat → Int32) (sb : Nat → Int32) (sc : Nat → Int32) (sd : Nat → Int32) (kn : Nat) (th : Int32) (p1 : Int32) (p2 : Int32) : Nat → Int32 := if (f_X6_isIn p1 0 5) = 0 then sc else (if (f_X6_isIn p2 0 143) = 0 then sc else (if on = 0 then sc else (if (ce p1.toNatClampNeg) < 0 then sc else (if (la p1.toNatClampNeg) = tk then sc else (if (ce p1.toNatClampNeg) = p2 then sc else (if 100 ≤ (nI sn) then sc else upd sc sn p2))))))
noncomputable def g_sd_X6_shoot (on : Int32) (hm : Int32) (aw : Int32) (tk : Int32) (ce : Nat → Int32) (la : Nat → Int32) (sn : Nat) (sa : Nat → Int32) (sb : Nat → Int32) (sc : Nat → Int32) (sd : Nat → Int32) (kn : Nat) (th : Int32) (p1 : Int32) (p2 : Int32) : Nat → Int32 := if (f_X6_isIn p1 0 5) = 0 then sd else (if (f_X6_isIn p2 0 143) = 0 then sd else (if on = 0 then sd else (if (ce p1.toNatClampNeg) < 0 then sd else (if (la p1.toNatClampNeg) = tk then sd else (if (ce p1.toNatClampNeg) = p2 then sd else (if 100 ≤ (nI sn) then sd else upd sd sn (tk + (((f_X6_apart (ce p1.toNatClampNeg) p2) + 3) / 4))))))))
noncomputable def g_th_X6_shoot (on : Int32) (hm : Int32) (aw : Int32) (tk : Int32) (ce : Nat → Int32) (la : Nat → Int32) (sn : Nat) (sa : Nat → Int32) (sb : Nat → Int32) (sc : Nat → Int32) (sd : Nat → Int32) (kn : Nat) (th : Int32) (p1 : Int32) (p2 : Int32) : Int32 := if (f_X6_isIn p1 0 5) = 0 then 1 else (if (f_X6_isIn p2 0 143) = 0 then 1 else (if on = 0 then 2 else (if (ce p1.toNatClampNeg) < 0 then 2 else (if (la p1.toNatClampNeg) = tk then 2 else (if (ce p1.toNatClampNeg) = p2 then 2 else (if 100 ≤ (nI sn) then 2 else 0))))))
set_option maxHeartbeats 4000000 in
set_option maxRecDepth 100000 in
theorem c_X6_shoot (l : Launch) (D : va_G) (cI cZ cJ cA : ClassId) (sz : Nat) (q : Nat → Nat) (on : Int32) (hm : Int32) (aw : Int32) (tk : Int32) (ce : Nat → Int32) (la : Nat → Int32) (sn : Nat) (sa : Nat → Int32) (sb : Nat → Int32) (sc : Nat → Int32) (sd : Nat → Int32) (kn : Nat) (th : Int32) (p1 : Int32) (p2 : Int32) (hsn : sn ≤ 100) : Met l yX6_shoot wsX6_shoot ({ frames := 2, cells := 0, slots := 0, locals := 43 } : Room) (va_Pc [.ref (q 0), .int p1, .int p2] (pcW D (tyL cI cZ cJ cA) [((q 0), .inr (6, [.ref (q 1), .ref (q 2), .int on, .int hm, .int aw, .int tk, .ref (q 3), .ref (q 4), .ref (q 5), .int (nI sn), .ref (q 6), .ref (q 7), .ref (q 8), .ref (q 9), .int (nI kn), .ref (q 10), .ref (q 11), .ref (q 12), .ref (q 13), .ref (q 14), .ref (q 15), .ref (q 16), .ref (q 17), .int th])), ((q 3), .inl (cI, 6, .inl ce)), ((q 5), .inl (cI, 6, .inl la)), ((q 6), .inl (cI, 100, .inl sa)), ((q 7), .inl (cI, 100, .inl sb)), ((q 8), .inl (cI, 100, .inl sc)), ((q 9), .inl (cI, 100, .inl sd))] sz)) (va_Qi (fun (r : Int32) (u : (Nat → Int32) × (Nat) × (Nat → Int32) × (Nat → Int32) × (Nat → Int32) × (Nat → Int32) × (Int32)) => r = f_X6_shoot on hm aw tk ce la sn sa sb sc sd kn th p1 p2 ∧ u.1 = g_la_X6_shoot on hm aw tk ce la sn sa sb sc sd kn th p1 p2 ∧ u.2.1 = g_sn_X6_shoot on hm aw tk ce la sn sa sb sc sd kn th p1 p2 ∧ u.2.2.1 = g_sa_X6_shoot on hm aw tk ce la sn sa sb sc sd kn th p1 p2 ∧ u.2.2.2.1 = g_sb_X6_shoot on hm aw tk ce la sn sa sb sc sd kn th p1 p2 ∧ u.2.2.2.2.1 = g_sc_X6_shoot on hm aw tk ce la sn sa sb sc sd kn th p1 p2 ∧ u.2.2.2.2.2.1 = g_sd_X6_shoot on hm aw tk ce la sn sa sb sc sd kn th p1 p2 ∧ u.2.2.2.2.2.2 = g_th_X6_shoot on hm aw tk ce la sn sa sb sc sd kn th p1 p2) (fun u t => bcW D (tyL cI cZ cJ cA) (va_A [((q 0), .inr (6, [.ref (q 1), .ref (q 2), .int on, .int hm, .int aw, .int tk, .ref (q 3), .ref (q 4), .ref (q 5), .int (nI sn), .ref (q 6), .ref (q 7), .ref (q 8), .ref (q 9), .int (nI kn), .ref (q 10), .ref (q 11), .ref (q 12), .ref (q 13), .ref (q 14), .ref (q 15), .ref (q 16), .ref (q 17), .int th])), ((q 3), .inl (cI, 6, .inl ce)), ((q 5), .inl (cI, 6, .inl la)), ((q 6), .inl (cI, 100, .inl sa)), ((q 7), .inl (cI, 100, .inl sb)), ((q 8), .inl (cI, 100, .inl sc)), ((q 9), .inl (cI, 100, .inl sd))] sz) [((q 0), .inr (6, [.ref (q 1), .ref (q 2), .int on, .int hm, .int aw, .int tk, .ref (q 3), .ref (q 4), .ref (q 5), .int (nI u.2.1), .ref (q 6), .ref (q 7), .ref (q 8), .ref (q 9), .int (nI kn), .ref (q 10), .ref (q 11), .ref (q 12), .ref (q 13), .ref (q 14), .ref (q 15), .ref (q 16), .ref (q 17), .int u.2.2.2.2.2.2])), ((q 3), .inl (cI, 6, .inl ce)), ((q 5), .inl (cI, 6, .inl u.1)), ((q 6), .inl (cI, 100, .inl u.2.2.1)), ((q 7), .inl (cI, 100, .inl u.2.2.2.1)), ((q 8), .inl (cI, 100, .inl u.2.2.2.2.1)), ((q 9), .inl (cI, 100, .inl u.2.2.2.2.2.1))] t) (va_A [((q 0), .inr (6, [.ref (q 1), .ref (q 2), .int on, .int hm, .int aw, .int tk, .ref (q 3), .ref (q 4), .ref (q 5), .int (nI sn), .ref (q 6), .ref (q 7), .ref (q 8), .ref (q 9), .int (nI kn), .ref (q 10), .ref (q 11), .ref (q 12), .ref (q 13), .ref (q 14), .ref (q 15), .ref (q 16), .ref (q 17), .int th])), ((q 3), .inl (cI, 6, .inl ce)), ((q 5), .inl (cI, 6, .inl la)), ((q 6), .inl (cI, 100, .inl sa)), ((q 7), .inl (cI, 100, .inl sb)), ((q 8), .inl (cI, 100, .inl sc)), ((q 9), .inl (cI, 100, .inl sd))] sz)) 0 0 (va_A [((q 0), .inr (6, [.ref (q 1), .ref (q 2), .int on, .int hm, .int aw, .int tk, .ref (q 3), .ref (q 4), .ref (q 5), .int (nI sn), .ref (q 6), .ref (q 7), .ref (q 8), .ref (q 9), .int (nI kn), .ref (q 10), .ref (q 11), .ref (q 12), .ref (q 13), .ref (q 14), .ref (q 15), .ref (q 16), .ref (q 17), .int th])), ((q 3), .inl (cI, 6, .inl ce)), ((q 5), .inl (cI, 6, .inl la)), ((q 6), .inl (cI, 100, .inl sa)), ((q 7), .inl (cI, 100, .inl sb)), ((q 8), .inl (cI, 100, .inl sc)), ((q 9), .inl (cI, 100, .inl sd))] sz) := by
  refine Met.ofW (cc := cX6_shoot) (maxL := 5) (ret := (some .int)) (by decide) rfl ?_
  intro p e s m args below meth c s₁ B hml hv
  obtain ⟨rfl, hsz, hP, hK, hD0⟩ := hv
  have hx := B.exec
  have hb := B.bytes
  have hr := B.returns
  have hts := atoms_spec (ws := wsX6_shoot) B.pre
  have hown : s.vm.findClass RX6 = some m.cls := findClass_of_methodNamed B.named
  have hlocks := B.notSynchronized
  subst hsz
  have hD := hD0.self (sz := s.heap.size)
  generalize hAe : va_A [((q 0), .inr (6, [.ref (q 1), .ref (q 2), .int on, .int hm, .int aw, .int tk, .ref (q 3), .ref (q 4), .ref (q 5), .int (nI sn), .ref (q 6), .ref (q 7), .ref (q 8), .ref (q 9), .int (nI kn), .ref (q 10), .ref (q 11), .ref (q 12), .ref (q 13), .ref (q 14), .ref (q 15), .ref (q 16), .ref (q 17), .int th])), ((q 3), .inl (cI, 6, .inl ce)), ((q 5), .inl (cI, 6, .inl la)), ((q 6), .inl (cI, 100, .inl sa)), ((q 7), .inl (cI, 100, .inl sb)), ((q 8), .inl (cI, 100, .inl sc)), ((q 9), .inl (cI, 100, .inl sd))] s.heap.size = A at hD ⊢
  have hA : ∀ q : Nat, s.heap.size ≤ q → A q := fun q h => by rw [← hAe]; exact Or.inr h
  have hAR : ∀ q : Nat, s.heap.size ≤ q → (fun q : Nat => s.heap.size ≤ q) q := fun _ h => h
  have hS : va_S A s.heap s.heap [] := va_S.rf
  have hP : va_P D vwCl [((q 0), .inr (6, [.ref (q 1), .ref (q 2), .int on, .int hm, .int aw, .int tk, .ref (q 3), .ref (q 4), .ref (q 5), .int (nI sn), .ref (q 6), .ref (q 7), .ref (q 8), .ref (q 9), .int (nI kn), .ref (q 10), .ref (q 11), .ref (q 12), .ref (q 13), .ref (q 14), .ref (q 15), .ref (q 16), .ref (q 17), .int th])), ((q 3), .inl (cI, 6, .inl ce)), ((q 5), .inl (cI, 6, .inl la)), ((q 6), .inl (cI, 100, .inl sa)), ((q 7), .inl (cI, 100, .inl sb)), ((q 8), .inl (cI, 100, .inl sc)), ((q 9), .inl (cI, 100, .inl sd))] s.heap := hP
  have hl := lv_entry ([.ref (q 0), .int p1, .int p2]) (n := 5) (Nat.le_of_ble_eq_true rfl)
  rw [lg_entry_eq]
  generalize (lg_sl ([.ref (q 0), .int p1, .int p2]) ++ List.replicate (5 - (lg_sl ([.ref (q 0), .int p1, .int p2])).length) Slot.unset).toArray = ls at hl ⊢
  have hl : lv_has ls 5 [(0, .ref (q 0)), (1, .int p1), (2, .int p2)] := hl
  have hf_84 := hts (.fieldLink RX6 84 "PaintballAtlasModel" "isOn" "Z") (by decide +kernel)
  have hi_X6 : ∀ w ∈ wsX60, w ∈ wsX6_shoot := by decide +kernel
  have hf_17 := hts (.fieldLink RX6 17 "PaintballAtlasModel" "where" "[I") (by decide +kernel)
  have hf_23 := hts (.fieldLink RX6 23 "PaintballAtlasModel" "shot" "[I") (by decide +kernel)
  have hf_107 := hts (.fieldLink RX6 107 "PaintballAtlasModel" "tick" "I") (by decide +kernel)
  have hf_110 := hts (.fieldLink RX6 110 "PaintballAtlasModel" "shots" "I") (by decide +kernel)
  have hf_26 := hts (.fieldLink RX6 26 "PaintballAtlasModel" "shooter" "[I") (by decide +kernel)
  have hf_29 := hts (.fieldLink RX6 29 "PaintballAtlasModel" "from" "[I") (by decide +kernel)
  have hf_32 := hts (.fieldLink RX6 32 "PaintballAtlasModel" "aim" "[I") (by decide +kernel)
  have hf_35 := hts (.fieldLink RX6 35 "PaintballAtlasModel" "comes" "[I") (by decide +kernel)
  refine lv_iload_n hx hb dX6_shoot_0 rfl (lv_at hl 1 rfl) ?_
  have hPc := hP.sub (ws' := []) [] rfl
  refine va_calli (va_runS (As := [.int p1]) (rest := []) ⟨hx, hb, hml, hown, hts⟩ (c_X6_isPlayer l D cI cZ cJ cA s.heap.size p1) (va_cwS 1 hts gX6_shoot_X6_isPlayer rfl rfl rfl (by decide +kernel) ⟨Nat.le_of_ble_eq_true rfl, Nat.le_of_ble_eq_true rfl⟩) ⟨pcR_bl, fun U hU hW => ⟨rfl, by rw [hU], by rw [hU]; exact hPc, va_K.moved hW.alike hK⟩⟩ rfl rfl hl.1 rfl (lv_room (Nat.le_of_ble_eq_true rfl)) dX6_shoot_1 ⟨Nat.le_of_ble_eq_true rfl, Nat.le_of_ble_eq_true rfl⟩) hS (fun _ h1 h2 => absurd h1 (Nat.not_lt.mpr h2)) (rd_free hS hA) (fun r_1 u t H locs ht hvm hw hB hz1 hk1 hS => ?_)
  try dsimp only at hw
  have hr_1 := hw
  have hP := rd_P hP hk1
  obtain rfl := hr_1.symm
  refine W.widen (k := 0) (n := 0) (Nat.le_refl _) (Nat.le_refl _) ?_
  refine lv_if_eq (tgt := 18) hx hb dX6_shoot_4 (by decide) (fun c_2 => ?_) (fun c_2 => ?_)
  · refine lv_iconst (v := 0) hx hb dX6_shoot_18 (by decide) ?_
    refine lv_istore_n (lv' := [(3, .int 0), (0, .ref (q 0)), (1, .int p1), (2, .int p2)]) hx hb dX6_shoot_19 rfl hl (by decide) rfl (fun ls hl => ?_)
    refine lv_iload_n hx hb dX6_shoot_20 rfl (lv_at hl 0 rfl) ?_
    refine lv_if_eq (tgt := 76) hx hb dX6_shoot_21 (by decide) (fun _ => ?_) (fun c_3 => absurd (by decide) c_3)
    refine lv_iconst (v := 0) hx hb dX6_shoot_76 (by decide) ?_
    refine lv_istore (lv' := [(4, .int 0), (3, .int 0), (0, .ref (q 0)), (1, .int p1), (2, .int p2)]) hx hb dX6_shoot_77 hl (by decide) rfl (fun ls hl => ?_)
    refine lv_aload_n hx hb dX6_shoot_79 rfl (lv_at hl 2 rfl) ?_
    refine lv_iload_n hx hb dX6_shoot_80 rfl (lv_at hl 1 rfl) ?_
    refine lv_if_ne (tgt := 88) hx hb dX6_shoot_81 (by decide) (fun c_4 => absurd (by decide) c_4) (fun _ => ?_)
    refine lv_iconst (v := 1) hx hb dX6_shoot_84 (by decide) ?_
    refine lv_goto (tgt := 98) hx hb dX6_shoot_85 (by decide) ?_
    have hPc := hP.sub (ws' := [((q 0), .inr (6, [.ref (q 1), .ref (q 2), .int on, .int hm, .int aw, .int tk, .ref (q 3), .ref (q 4), .ref (q 5), .int (nI sn), .ref (q 6), .ref (q 7), .ref (q 8), .ref (q 9), .int (nI kn), .ref (q 10), .ref (q 11), .ref (q 12), .ref (q 13), .ref (q 14), .ref (q 15), .ref (q 16), .ref (q 17), .int th]))]) [0] rfl
    have hDc := hD.sub (ws' := [((q 0), .inr (6, [.ref (q 1), .ref (q 2), .int on, .int hm, .int aw, .int tk, .ref (q 3), .ref (q 4), .ref (q 5), .int (nI sn), .ref (q 6), .ref (q 7), .ref (q 8), .ref (q 9), .int (nI kn), .ref (q 10), .ref (q 11), .ref (q 12), .ref (q 13), .ref (q 14), .ref (q 15), .ref (q 16), .ref (q 17), .int th]))]) [0] (by decide) rfl
    have hFc := va_free (wc := [((q 0), .inr (6, [.ref (q 1), .ref (q 2), .int on, .int hm, .int aw, .int tk, .ref (q 3), .ref (q 4), .ref (q 5), .int (nI sn), .ref (q 6), .ref (q 7), .ref (q 8), .ref (q 9), .int (nI kn), .ref (q 10), .ref (q 11), .ref (q 12), .ref (q 13), .ref (q 14), .ref (q 15), .ref (q 16), .ref (q 17), .int th]))]) hD hS hA [0] rfl
    refine va_calli (va_runV (As := [.int 1]) (rest := []) ⟨hx, hb, hml, hown, hts⟩ (c_X6_fails l D cI cZ cJ cA H.size q on hm aw tk sn kn th 1) (cwV 1 hts gX6_shoot_X6_fails rfl rfl rfl (by decide +kernel) ⟨Nat.le_of_ble_eq_true rfl, Nat.le_of_ble_eq_true rfl⟩) ⟨pcW_bl, va_recv hK hPc (ci := 6) (q0 := 0) rfl rfl, fun U hU hW => ⟨rfl, by rw [hU], by rw [hU]; exact hPc, va_K.moved hW.alike hK, hDc.weaken (fun _ _ _ _ => trivial)⟩⟩ rfl rfl hl.1 rfl (lv_room (Nat.le_of_ble_eq_true rfl)) dX6_shoot_98 ⟨Nat.le_of_ble_eq_true rfl, Nat.le_of_ble_eq_true rfl⟩) hS (fun q _ h => hFc q h) hFc (fun r_5 u t H locs ht hvm hw hB hz1 hk1 hS => ?_)
    try dsimp only at hw
    obtain ⟨u0_5, rfl⟩ : ∃ z, z = u := ⟨_, rfl⟩
    obtain ⟨hr_5, hu0_5⟩ := hw
    obtain ⟨hP1, hK1, hD1⟩ := hB
    rw [ht] at hP1
    obtain ⟨hP, hD⟩ := va_join (wr := [((q 3), .inl (cI, 6, .inl ce)), ((q 5), .inl (cI, 6, .inl la)), ((q 6), .inl (cI, 100, .inl sa)), ((q 7), .inl (cI, 100, .inl sb)), ((q 8), .inl (cI, 100, .inl sc)), ((q 9), .inl (cI, 100, .inl sd))]) (w1 := [((q 0), .inr (6, [.ref (q 1), .ref (q 2), .int on, .int hm, .int aw, .int tk, .ref (q 3), .ref (q 4), .ref (q 5), .int (nI sn), .ref (q 6), .ref (q 7), .ref (q 8), .ref (q 9), .int (nI kn), .ref (q 10), .ref (q 11), .ref (q 12), .ref (q 13), .ref (q 14), .ref (q 15), .ref (q 16), .ref (q 17), .int u0_5]))]) hP hD [0] [1, 2, 3, 4, 5, 6] rfl rfl (by decide) (by decide) hk1 hFc hP1 hD1
    obtain rfl := hu0_5.symm
    have hP : va_P D vwCl [((q 3), .inl (cI, 6, .inl ce)), ((q 5), .inl (cI, 6, .inl la)), ((q 6), .inl (cI, 100, .inl sa)), ((q 7), .inl (cI, 100, .inl sb)), ((q 8), .inl (cI, 100, .inl sc)), ((q 9), .inl (cI, 100, .inl sd)), ((q 0), .inr (6, [.ref (q 1), .ref (q 2), .int on, .int hm, .int aw, .int tk, .ref (q 3), .ref (q 4), .ref (q 5), .int (nI sn), .ref (q 6), .ref (q 7), .ref (q 8), .ref (q 9), .int (nI kn), .ref (q 10), .ref (q 11), .ref (q 12), .ref (q 13), .ref (q 14), .ref (q 15), .ref (q 16), .ref (q 17), .int 1]))] H := hP
    have hD : va_D A [((q 3), .inl (cI, 6, .inl ce)), ((q 5), .inl (cI, 6, .inl la)), ((q 6), .inl (cI, 100, .inl sa)), ((q 7), .inl (cI, 100, .inl sb)), ((q 8), .inl (cI, 100, .inl sc)), ((q 9), .inl (cI, 100, .inl sd)), ((q 0), .inr (6, [.ref (q 1), .ref (q 2), .int on, .int hm, .int aw, .int tk, .ref (q 3), .ref (q 4), .ref (q 5), .int (nI sn), .ref (q 6), .ref (q 7), .ref (q 8), .ref (q 9), .int (nI kn), .ref (q 10), .ref (q 11), .ref (q 12), .ref (q 13), .ref (q 14), .ref (q 15), .ref (q 16), .ref (q 17), .int 1]))] := hD
    obtain rfl := hr_5.symm
    refine W.widen (k := 0) (n := 0) (Nat.le_refl _) (Nat.le_refl _) ?_
    refine tp_eq (y := 1) rfl ?_
    refine lv_if_eq (tgt := 106) hx hb dX6_shoot_101 (by decide) (fun c_6 => absurd c_6 (by decide)) (fun _ => ?_)
    refine lv_iconst (v := 0) hx hb dX6_shoot_104 (by decide) ?_
    have hP9 := hP.sub (ws' := [((q 0), .inr (6, [.ref (q 1), .ref (q 2), .int on, .int hm, .int aw, .int tk, .ref (q 3), .ref (q 4), .ref (q 5), .int (nI sn), .ref (q 6), .ref (q 7), .ref (q 8), .ref (q 9), .int (nI kn), .ref (q 10), .ref (q 11), .ref (q 12), .ref (q 13), .ref (q 14), .ref (q 15), .ref (q 16), .ref (q 17), .int 1])), ((q 3), .inl (cI, 6, .inl ce)), ((q 5), .inl (cI, 6, .inl la)), ((q 6), .inl (cI, 100, .inl sa)), ((q 7), .inl (cI, 100, .inl sb)), ((q 8), .inl (cI, 100, .inl sc)), ((q 9), .inl (cI, 100, .inl sd))]) [6, 0, 1, 2, 3, 4, 5] rfl
    have hD9 := hD.sub (ws' := [((q 0), .inr (6, [.ref (q 1), .ref (q 2), .int on, .int hm, .int aw, .int tk, .ref (q 3), .ref (q 4), .ref (q 5), .int (nI sn), .ref (q 6), .ref (q 7), .ref (q 8), .ref (q 9), .int (nI kn), .ref (q 10), .ref (q 11), .ref (q 12), .ref (q 13), .ref (q 14), .ref (q 15), .ref (q 16), .ref (q 17), .int 1])), ((q 3), .inl (cI, 6, .inl ce)), ((q 5), .inl (cI, 6, .inl la)), ((q 6), .inl (cI, 100, .inl sa)), ((q 7), .inl (cI, 100, .inl sb)), ((q 8), .inl (cI, 100, .inl sc)), ((q 9), .inl (cI, 100, .inl sd))]) [6, 0, 1, 2, 3, 4, 5] (by decide) rfl
    -- leaf 0
    refine W.widen (k := 0) (n := 0) (Nat.le_refl _) (Nat.le_refl _) ?_
    exact W.iret (v := 0) hx hb hr (fun t ht hW => ⟨⟨0, (la, sn, sa, sb, sc, sd, 1), rfl, ⟨(by rw [f_X6_shoot, if_pos c_2]), (by rw [g_la_X6_shoot, if_pos c_2]), (by rw [g_sn_X6_shoot, if_pos c_2]), (by rw [g_sa_X6_shoot, if_pos c_2]), (by rw [g_sb_X6_shoot, if_pos c_2]), (by rw [g_sc_X6_shoot, if_pos c_2]), (by rw [g_sd_X6_shoot, if_pos c_2]), (by rw [g_th_X6_shoot, if_pos c_2])⟩, by rw [ht]; exact hP9, va_K.moved hW.alike hK, hD9⟩, hS.F ht⟩) hS.2.2 dX6_shoot_105
  · have hvc_2 : vp_in p1 6 := isIn_vp (N := 6) c_2
    refine lv_iload_n hx hb dX6_shoot_7 rfl (lv_at hl 2 rfl) ?_
    have hPc := hP.sub (ws' := []) [] rfl
    refine va_calli (va_runS (As := [.int p2]) (rest := []) ⟨hx, hb, hml, hown, hts⟩ (c_X6_isCell l D cI cZ cJ cA H.size p2) (va_cwS 1 hts gX6_shoot_X6_isCell rfl rfl rfl (by decide +kernel) ⟨Nat.le_of_ble_eq_true rfl, Nat.le_of_ble_eq_true rfl⟩) ⟨pcR_bl, fun U hU hW => ⟨rfl, by rw [hU], by rw [hU]; exact hPc, va_K.moved hW.alike hK⟩⟩ rfl rfl hl.1 rfl (lv_room (Nat.le_of_ble_eq_true rfl)) dX6_shoot_8 ⟨Nat.le_of_ble_eq_true rfl, Nat.le_of_ble_eq_true rfl⟩) hS (fun _ h1 h2 => absurd h1 (Nat.not_lt.mpr h2)) (rd_free hS hA) (fun r_7 u t H locs ht hvm hw hB hz1 hk1 hS => ?_)
    try dsimp only at hw
    have hr_7 := hw
    have hP := rd_P hP hk1
    obtain rfl := hr_7.symm
    refine W.widen (k := 0) (n := 0) (Nat.le_refl _) (Nat.le_refl _) ?_
    refine lv_if_eq (tgt := 18) hx hb dX6_shoot_11 (by decide) (fun c_8 => ?_) (fun c_8 => ?_)
    · refine lv_iconst (v := 0) hx hb dX6_shoot_18 (by decide) ?_
      refine lv_istore_n (lv' := [(3, .int 0), (0, .ref (q 0)), (1, .int p1), (2, .int p2)]) hx hb dX6_shoot_19 rfl hl (by decide) rfl (fun ls hl => ?_)
      refine lv_iload_n hx hb dX6_shoot_20 rfl (lv_at hl 0 rfl) ?_
      refine lv_if_eq (tgt := 76) hx hb dX6_shoot_21 (by decide) (fun _ => ?_) (fun c_9 => absurd (by decide) c_9)
      refine lv_iconst (v := 0) hx hb dX6_shoot_76 (by decide) ?_
      refine lv_istore (lv' := [(4, .int 0), (3, .int 0), (0, .ref (q 0)), (1, .int p1), (2, .int p2)]) hx hb dX6_shoot_77 hl (by decide) rfl (fun ls hl => ?_)
      refine lv_aload_n hx hb dX6_shoot_79 rfl (lv_at hl 2 rfl) ?_
      refine lv_iload_n hx hb dX6_shoot_80 rfl (lv_at hl 1 rfl) ?_
      refine lv_if_ne (tgt := 88) hx hb dX6_shoot_81 (by decide) (fun c_10 => absurd (by decide) c_10) (fun _ => ?_)
      refine lv_iconst (v := 1) hx hb dX6_shoot_84 (by decide) ?_
      refine lv_goto (tgt := 98) hx hb dX6_shoot_85 (by decide) ?_
      have hPc := hP.sub (ws' := [((q 0), .inr (6, [.ref (q 1), .ref (q 2), .int on, .int hm, .int aw, .int tk, .ref (q 3), .ref (q 4), .ref (q 5), .int (nI sn), .ref (q 6), .ref (q 7), .ref (q 8), .ref (q 9), .int (nI kn), .ref (q 10), .ref (q 11), .ref (q 12), .ref (q 13), .ref (q 14), .ref (q 15), .ref (q 16), .ref (q 17), .int th]))]) [0] rfl
      have hDc := hD.sub (ws' := [((q 0), .inr (6, [.ref (q 1), .ref (q 2), .int on, .int hm, .int aw, .int tk, .ref (q 3), .ref (q 4), .ref (q 5), .int (nI sn), .ref (q 6), .ref (q 7), .ref (q 8), .ref (q 9), .int (nI kn), .ref (q 10), .ref (q 11), .ref (q 12), .ref (q 13), .ref (q 14), .ref (q 15), .ref (q 16), .ref (q 17), .int th]))]) [0] (by decide) rfl
      have hFc := va_free (wc := [((q 0), .inr (6, [.ref (q 1), .ref (q 2), .int on, .int hm, .int aw, .int tk, .ref (q 3), .ref (q 4), .ref (q 5), .int (nI sn), .ref (q 6), .ref (q 7), .ref (q 8), .ref (q 9), .int (nI kn), .ref (q 10), .ref (q 11), .ref (q 12), .ref (q 13), .ref (q 14), .ref (q 15), .ref (q 16), .ref (q 17), .int th]))]) hD hS hA [0] rfl
      refine va_calli (va_runV (As := [.int 1]) (rest := []) ⟨hx, hb, hml, hown, hts⟩ (c_X6_fails l D cI cZ cJ cA H.size q on hm aw tk sn kn th 1) (cwV 1 hts gX6_shoot_X6_fails rfl rfl rfl (by decide +kernel) ⟨Nat.le_of_ble_eq_true rfl, Nat.le_of_ble_eq_true rfl⟩) ⟨pcW_bl, va_recv hK hPc (ci := 6) (q0 := 0) rfl rfl, fun U hU hW => ⟨rfl, by rw [hU], by rw [hU]; exact hPc, va_K.moved hW.alike hK, hDc.weaken (fun _ _ _ _ => trivial)⟩⟩ rfl rfl hl.1 rfl (lv_room (Nat.le_of_ble_eq_true rfl)) dX6_shoot_98 ⟨Nat.le_of_ble_eq_true rfl, Nat.le_of_ble_eq_true rfl⟩) hS (fun q _ h => hFc q h) hFc (fun r_11 u t H locs ht hvm hw hB hz1 hk1 hS => ?_)
      try dsimp only at hw
      obtain ⟨u0_11, rfl⟩ : ∃ z, z = u := ⟨_, rfl⟩
      obtain ⟨hr_11, hu0_11⟩ := hw
      obtain ⟨hP1, hK1, hD1⟩ := hB
      rw [ht] at hP1
      obtain ⟨hP, hD⟩ := va_join (wr := [((q 3), .inl (cI, 6, .inl ce)), ((q 5), .inl (cI, 6, .inl la)), ((q 6), .inl (cI, 100, .inl sa)), ((q 7), .inl (cI, 100, .inl sb)), ((q 8), .inl (cI, 100, .inl sc)), ((q 9), .inl (cI, 100, .inl sd))]) (w1 := [((q 0), .inr (6, [.ref (q 1), .ref (q 2), .int on, .int hm, .int aw, .int tk, .ref (q 3), .ref (q 4), .ref (q 5), .int (nI sn), .ref (q 6), .ref (q 7), .ref (q 8), .ref (q 9), .int (nI kn), .ref (q 10), .ref (q 11), .ref (q 12), .ref (q 13), .ref (q 14), .ref (q 15), .ref (q 16), .ref (q 17), .int u0_11]))]) hP hD [0] [1, 2, 3, 4, 5, 6] rfl rfl (by decide) (by decide) hk1 hFc hP1 hD1
      obtain rfl := hu0_11.symm
      have hP : va_P D vwCl [((q 3), .inl (cI, 6, .inl ce)), ((q 5), .inl (cI, 6, .inl la)), ((q 6), .inl (cI, 100, .inl sa)), ((q 7), .inl (cI, 100, .inl sb)), ((q 8), .inl (cI, 100, .inl sc)), ((q 9), .inl (cI, 100, .inl sd)), ((q 0), .inr (6, [.ref (q 1), .ref (q 2), .int on, .int hm, .int aw, .int tk, .ref (q 3), .ref (q 4), .ref (q 5), .int (nI sn), .ref (q 6), .ref (q 7), .ref (q 8), .ref (q 9), .int (nI kn), .ref (q 10), .ref (q 11), .ref (q 12), .ref (q 13), .ref (q 14), .ref (q 15), .ref (q 16), .ref (q 17), .int 1]))] H := hP
      have hD : va_D A [((q 3), .inl (cI, 6, .inl ce)), ((q 5), .inl (cI, 6, .inl la)), ((q 6), .inl (cI, 100, .inl sa)), ((q 7), .inl (cI, 100, .inl sb)), ((q 8), .inl (cI, 100, .inl sc)), ((q 9), .inl (cI, 100, .inl sd)), ((q 0), .inr (6, [.ref (q 1), .ref (q 2), .int on, .int hm, .int aw, .int tk, .ref (q 3), .ref (q 4), .ref (q 5), .int (nI sn), .ref (q 6), .ref (q 7), .ref (q 8), .ref (q 9), .int (nI kn), .ref (q 10), .ref (q 11), .ref (q 12), .ref (q 13), .ref (q 14), .ref (q 15), .ref (q 16), .ref (q 17), .int 1]))] := hD
      obtain rfl := hr_11.symm
      refine W.widen (k := 0) (n := 0) (Nat.le_refl _) (Nat.le_refl _) ?_
      refine tp_eq (y := 1) rfl ?_
      refine lv_if_eq (tgt := 106) hx hb dX6_shoot_101 (by decide) (fun c_12 => absurd c_12 (by decide)) (fun _ => ?_)
      refine lv_iconst (v := 0) hx hb dX6_shoot_104 (by decide) ?_
      have hP9 := hP.sub (ws' := [((q 0), .inr (6, [.ref (q 1), .ref (q 2), .int on, .int hm, .int aw, .int tk, .ref (q 3), .ref (q 4), .ref (q 5), .int (nI sn), .ref (q 6), .ref (q 7), .ref (q 8), .ref (q 9), .int (nI kn), .ref (q 10), .ref (q 11), .ref (q 12), .ref (q 13), .ref (q 14), .ref (q 15), .ref (q 16), .ref (q 17), .int 1])), ((q 3), .inl (cI, 6, .inl ce)), ((q 5), .inl (cI, 6, .inl la)), ((q 6), .inl (cI, 100, .inl sa)), ((q 7), .inl (cI, 100, .inl sb)), ((q 8), .inl (cI, 100, .inl sc)), ((q 9), .inl (cI, 100, .inl sd))]) [6, 0, 1, 2, 3, 4, 5] rfl
      have hD9 := hD.sub (ws' := [((q 0), .inr (6, [.ref (q 1), .ref (q 2), .int on, .int hm, .int aw, .int tk, .ref (q 3), .ref (q 4), .ref (q 5), .int (nI sn), .ref (q 6), .ref (q 7), .ref (q 8), .ref (q 9), .int (nI kn), .ref (q 10), .ref (q 11), .ref (q 12), .ref (q 13), .ref (q 14), .ref (q 15), .ref (q 16), .ref (q 17), .int 1])), ((q 3), .inl (cI, 6, .inl ce)), ((q 5), .inl (cI, 6, .inl la)), ((q 6), .inl (cI, 100, .inl sa)), ((q 7), .inl (cI, 100, .inl sb)), ((q 8), .inl (cI, 100, .inl sc)), ((q 9), .inl (cI, 100, .inl sd))]) [6, 0, 1, 2, 3, 4, 5] (by decide) rfl
      -- leaf 1
      refine W.widen (k := 0) (n := 0) (Nat.le_refl _) (Nat.le_refl _) ?_
      exact W.iret (v := 0) hx hb hr (fun t ht hW => ⟨⟨0, (la, sn, sa, sb, sc, sd, 1), rfl, ⟨(by rw [f_X6_shoot, if_neg c_2, if_pos c_8]), (by rw [g_la_X6_shoot, if_neg c_2, if_pos c_8]), (by rw [g_sn_X6_shoot, if_neg c_2, if_pos c_8]), (by rw [g_sa_X6_shoot, if_neg c_2, if_pos c_8]), (by rw [g_sb_X6_shoot, if_neg c_2, if_pos c_8]), (by rw [g_sc_X6_shoot, if_neg c_2, if_pos c_8]), (by rw [g_sd_X6_shoot, if_neg c_2, if_pos c_8]), (by rw [g_th_X6_shoot, if_neg c_2, if_pos c_8])⟩, by rw [ht]; exact hP9, va_K.moved hW.alike hK, hD9⟩, hS.F ht⟩) hS.2.2 dX6_shoot_105
    · have hvc_8 : vp_in p2 144 := isIn_vp (N := 144) c_8
      refine lv_iconst (v := 1) hx hb dX6_shoot_14 (by decide) ?_
      refine lv_goto (tgt := 19) hx hb dX6_shoot_15 (by decide) ?_
      refine lv_istore_n (lv' := [(3, .int 1), (0, .ref (q 0)), (1, .int p1), (2, .int p2)]) hx hb dX6_shoot_19 rfl hl (by decide) rfl (fun ls hl => ?_)
      refine lv_iload_n hx hb dX6_shoot_20 rfl (lv_at hl 0 rfl) ?_
      refine lv_if_eq (tgt := 76) hx hb dX6_shoot_21 (by decide) (fun c_13 => absurd c_13 (by decide)) (fun _ => ?_)
      refine lv_aload_n hx hb dX6_shoot_24 rfl (lv_at hl 1 rfl) ?_
      refine va_get (D := D) (ci := 6) (v := .int on) (C := RX6) (T := TX6) (N := 24) hx hb hts hi_X6 hown hK hP 0 rfl rfl 2 (by decide) hf_84 (fun _ h9 => h9) rfl dX6_shoot_25 ?_
      refine lv_if_eq (tgt := 76) hx hb dX6_shoot_28 (by decide) (fun c_14 => ?_) (fun c_14 => ?_)
      · refine lv_iconst (v := 0) hx hb dX6_shoot_76 (by decide) ?_
        refine lv_istore (lv' := [(4, .int 0), (3, .int 1), (0, .ref (q 0)), (1, .int p1), (2, .int p2)]) hx hb dX6_shoot_77 hl (by decide) rfl (fun ls hl => ?_)
        refine lv_aload_n hx hb dX6_shoot_79 rfl (lv_at hl 2 rfl) ?_
        refine lv_iload_n hx hb dX6_shoot_80 rfl (lv_at hl 1 rfl) ?_
        refine lv_if_ne (tgt := 88) hx hb dX6_shoot_81 (by decide) (fun _ => ?_) (fun c_15 => absurd c_15 (by decide))
        refine lv_iload hx hb dX6_shoot_88 (lv_at hl 0 rfl) ?_
        refine lv_if_eq (tgt := 97) hx hb dX6_shoot_90 (by decide) (fun _ => ?_) (fun c_16 => absurd (by decide) c_16)
        refine lv_iconst (v := 2) hx hb dX6_shoot_97 (by decide) ?_
        have hPc := hP.sub (ws' := [((q 0), .inr (6, [.ref (q 1), .ref (q 2), .int on, .int hm, .int aw, .int tk, .ref (q 3), .ref (q 4), .ref (q 5), .int (nI sn), .ref (q 6), .ref (q 7), .ref (q 8), .ref (q 9), .int (nI kn), .ref (q 10), .ref (q 11), .ref (q 12), .ref (q 13), .ref (q 14), .ref (q 15), .ref (q 16), .ref (q 17), .int th]))]) [0] rfl
        have hDc := hD.sub (ws' := [((q 0), .inr (6, [.ref (q 1), .ref (q 2), .int on, .int hm, .int aw, .int tk, .ref (q 3), .ref (q 4), .ref (q 5), .int (nI sn), .ref (q 6), .ref (q 7), .ref (q 8), .ref (q 9), .int (nI kn), .ref (q 10), .ref (q 11), .ref (q 12), .ref (q 13), .ref (q 14), .ref (q 15), .ref (q 16), .ref (q 17), .int th]))]) [0] (by decide) rfl
        have hFc := va_free (wc := [((q 0), .inr (6, [.ref (q 1), .ref (q 2), .int on, .int hm, .int aw, .int tk, .ref (q 3), .ref (q 4), .ref (q 5), .int (nI sn), .ref (q 6), .ref (q 7), .ref (q 8), .ref (q 9), .int (nI kn), .ref (q 10), .ref (q 11), .ref (q 12), .ref (q 13), .ref (q 14), .ref (q 15), .ref (q 16), .ref (q 17), .int th]))]) hD hS hA [0] rfl
        refine va_calli (va_runV (As := [.int 2]) (rest := []) ⟨hx, hb, hml, hown, hts⟩ (c_X6_fails l D cI cZ cJ cA H.size q on hm aw tk sn kn th 2) (cwV 1 hts gX6_shoot_X6_fails rfl rfl rfl (by decide +kernel) ⟨Nat.le_of_ble_eq_true rfl, Nat.le_of_ble_eq_true rfl⟩) ⟨pcW_bl, va_recv hK hPc (ci := 6) (q0 := 0) rfl rfl, fun U hU hW => ⟨rfl, by rw [hU], by rw [hU]; exact hPc, va_K.moved hW.alike hK, hDc.weaken (fun _ _ _ _ => trivial)⟩⟩ rfl rfl hl.1 rfl (lv_room (Nat.le_of_ble_eq_true rfl)) dX6_shoot_98 ⟨Nat.le_of_ble_eq_true rfl, Nat.le_of_ble_eq_true rfl⟩) hS (fun q _ h => hFc q h) hFc (fun r_17 u t H locs ht hvm hw hB hz1 hk1 hS => ?_)
        try dsimp only at hw
        obtain ⟨u0_17, rfl⟩ : ∃ z, z = u := ⟨_, rfl⟩
        obtain ⟨hr_17, hu0_17⟩ := hw
        obtain ⟨hP1, hK1, hD1⟩ := hB
        rw [ht] at hP1
        obtain ⟨hP, hD⟩ := va_join (wr := [((q 3), .inl (cI, 6, .inl ce)), ((q 5), .inl (cI, 6, .inl la)), ((q 6), .inl (cI, 100, .inl sa)), ((q 7), .inl (cI, 100, .inl sb)), ((q 8), .inl (cI, 100, .inl sc)), ((q 9), .inl (cI, 100, .inl sd))]) (w1 := [((q 0), .inr (6, [.ref (q 1), .ref (q 2), .int on, .int hm, .int aw, .int tk, .ref (q 3), .ref (q 4), .ref (q 5), .int (nI sn), .ref (q 6), .ref (q 7), .ref (q 8), .ref (q 9), .int (nI kn), .ref (q 10), .ref (q 11), .ref (q 12), .ref (q 13), .ref (q 14), .ref (q 15), .ref (q 16), .ref (q 17), .int u0_17]))]) hP hD [0] [1, 2, 3, 4, 5, 6] rfl rfl (by decide) (by decide) hk1 hFc hP1 hD1
        obtain rfl := hu0_17.symm
        have hP : va_P D vwCl [((q 3), .inl (cI, 6, .inl ce)), ((q 5), .inl (cI, 6, .inl la)), ((q 6), .inl (cI, 100, .inl sa)), ((q 7), .inl (cI, 100, .inl sb)), ((q 8), .inl (cI, 100, .inl sc)), ((q 9), .inl (cI, 100, .inl sd)), ((q 0), .inr (6, [.ref (q 1), .ref (q 2), .int on, .int hm, .int aw, .int tk, .ref (q 3), .ref (q 4), .ref (q 5), .int (nI sn), .ref (q 6), .ref (q 7), .ref (q 8), .ref (q 9), .int (nI kn), .ref (q 10), .ref (q 11), .ref (q 12), .ref (q 13), .ref (q 14), .ref (q 15), .ref (q 16), .ref (q 17), .int 2]))] H := hP
        have hD : va_D A [((q 3), .inl (cI, 6, .inl ce)), ((q 5), .inl (cI, 6, .inl la)), ((q 6), .inl (cI, 100, .inl sa)), ((q 7), .inl (cI, 100, .inl sb)), ((q 8), .inl (cI, 100, .inl sc)), ((q 9), .inl (cI, 100, .inl sd)), ((q 0), .inr (6, [.ref (q 1), .ref (q 2), .int on, .int hm, .int aw, .int tk, .ref (q 3), .ref (q 4), .ref (q 5), .int (nI sn), .ref (q 6), .ref (q 7), .ref (q 8), .ref (q 9), .int (nI kn), .ref (q 10), .ref (q 11), .ref (q 12), .ref (q 13), .ref (q 14), .ref (q 15), .ref (q 16), .ref (q 17), .int 2]))] := hD
        obtain rfl := hr_17.symm
        refine W.widen (k := 0) (n := 0) (Nat.le_refl _) (Nat.le_refl _) ?_
        refine tp_eq (y := 1) rfl ?_
        refine lv_if_eq (tgt := 106) hx hb dX6_shoot_101 (by decide) (fun c_18 => absurd c_18 (by decide)) (fun _ => ?_)
        refine lv_iconst (v := 0) hx hb dX6_shoot_104 (by decide) ?_
        have hP9 := hP.sub (ws' := [((q 0), .inr (6, [.ref (q 1), .ref (q 2), .int on, .int hm, .int aw, .int tk, .ref (q 3), .ref (q 4), .ref (q 5), .int (nI sn), .ref (q 6), .ref (q 7), .ref (q 8), .ref (q 9), .int (nI kn), .ref (q 10), .ref (q 11), .ref (q 12), .ref (q 13), .ref (q 14), .ref (q 15), .ref (q 16), .ref (q 17), .int 2])), ((q 3), .inl (cI, 6, .inl ce)), ((q 5), .inl (cI, 6, .inl la)), ((q 6), .inl (cI, 100, .inl sa)), ((q 7), .inl (cI, 100, .inl sb)), ((q 8), .inl (cI, 100, .inl sc)), ((q 9), .inl (cI, 100, .inl sd))]) [6, 0, 1, 2, 3, 4, 5] rfl
        have hD9 := hD.sub (ws' := [((q 0), .inr (6, [.ref (q 1), .ref (q 2), .int on, .int hm, .int aw, .int tk, .ref (q 3), .ref (q 4), .ref (q 5), .int (nI sn), .ref (q 6), .ref (q 7), .ref (q 8), .ref (q 9), .int (nI kn), .ref (q 10), .ref (q 11), .ref (q 12), .ref (q 13), .ref (q 14), .ref (q 15), .ref (q 16), .ref (q 17), .int 2])), ((q 3), .inl (cI, 6, .inl ce)), ((q 5), .inl (cI, 6, .inl la)), ((q 6), .inl (cI, 100, .inl sa)), ((q 7), .inl (cI, 100, .inl sb)), ((q 8), .inl (cI, 100, .inl sc)), ((q 9), .inl (cI, 100, .inl sd))]) [6, 0, 1, 2, 3, 4, 5] (by decide) rfl
        -- leaf 2
        refine W.widen (k := 0) (n := 0) (Nat.le_refl _) (Nat.le_refl _) ?_
        exact W.iret (v := 0) hx hb hr (fun t ht hW => ⟨⟨0, (la, sn, sa, sb, sc, sd, 2), rfl, ⟨(by rw [f_X6_shoot, if_neg c_2, if_neg c_8, if_pos c_14]), (by rw [g_la_X6_shoot, if_neg c_2, if_neg c_8, if_pos c_14]), (by rw [g_sn_X6_shoot, if_neg c_2, if_neg c_8, if_pos c_14]), (by rw [g_sa_X6_shoot, if_neg c_2, if_neg c_8, if_pos c_14]), (by rw [g_sb_X6_shoot, if_neg c_2, if_neg c_8, if_pos c_14]), (by rw [g_sc_X6_shoot, if_neg c_2, if_neg c_8, if_pos c_14]), (by rw [g_sd_X6_shoot, if_neg c_2, if_neg c_8, if_pos c_14]), (by rw [g_th_X6_shoot, if_neg c_2, if_neg c_8, if_pos c_14])⟩, by rw [ht]; exact hP9, va_K.moved hW.alike hK, hD9⟩, hS.F ht⟩) hS.2.2 dX6_shoot_105
      · refine lv_aload_n hx hb dX6_shoot_31 rfl (lv_at hl 1 rfl) ?_
        refine va_get (D := D) (ci := 6) (v := .ref (q 3)) (C := RX6) (T := TX6) (N := 24) hx hb hts hi_X6 hown hK hP 0 rfl rfl 6 (by decide) hf_17 (fun _ h9 => h9) rfl dX6_shoot_32 ?_
        refine lv_iload_n hx hb dX6_shoot_35 rfl (lv_at hl 2 rfl) ?_
        refine va_iald hx hb hK hP 1 0 rfl rfl (by assumption) dX6_shoot_36 ?_
        refine lv_if_lt (tgt := 76) hx hb dX6_shoot_37 (by decide) (fun c_19 => ?_) (fun c_19 => ?_)
        · refine lv_iconst (v := 0) hx hb dX6_shoot_76 (by decide) ?_
          refine lv_istore (lv' := [(4, .int 0), (3, .int 1), (0, .ref (q 0)), (1, .int p1), (2, .int p2)]) hx hb dX6_shoot_77 hl (by decide) rfl (fun ls hl => ?_)
          refine lv_aload_n hx hb dX6_shoot_79 rfl (lv_at hl 2 rfl) ?_
          refine lv_iload_n hx hb dX6_shoot_80 rfl (lv_at hl 1 rfl) ?_
          refine lv_if_ne (tgt := 88) hx hb dX6_shoot_81 (by decide) (fun _ => ?_) (fun c_20 => absurd c_20 (by decide))
          refine lv_iload hx hb dX6_shoot_88 (lv_at hl 0 rfl) ?_
          refine lv_if_eq (tgt := 97) hx hb dX6_shoot_90 (by decide) (fun _ => ?_) (fun c_21 => absurd (by decide) c_21)
          refine lv_iconst (v := 2) hx hb dX6_shoot_97 (by decide) ?_
          have hPc := hP.sub (ws' := [((q 0), .inr (6, [.ref (q 1), .ref (q 2), .int on, .int hm, .int aw, .int tk, .ref (q 3), .ref (q 4), .ref (q 5), .int (nI sn), .ref (q 6), .ref (q 7), .ref (q 8), .ref (q 9), .int (nI kn), .ref (q 10), .ref (q 11), .ref (q 12), .ref (q 13), .ref (q 14), .ref (q 15), .ref (q 16), .ref (q 17), .int th]))]) [0] rfl
          have hDc := hD.sub (ws' := [((q 0), .inr (6, [.ref (q 1), .ref (q 2), .int on, .int hm, .int aw, .int tk, .ref (q 3), .ref (q 4), .ref (q 5), .int (nI sn), .ref (q 6), .ref (q 7), .ref (q 8), .ref (q 9), .int (nI kn), .ref (q 10), .ref (q 11), .ref (q 12), .ref (q 13), .ref (q 14), .ref (q 15), .ref (q 16), .ref (q 17), .int th]))]) [0] (by decide) rfl
          have hFc := va_free (wc := [((q 0), .inr (6, [.ref (q 1), .ref (q 2), .int on, .int hm, .int aw, .int tk, .ref (q 3), .ref (q 4), .ref (q 5), .int (nI sn), .ref (q 6), .ref (q 7), .ref (q 8), .ref (q 9), .int (nI kn), .ref (q 10), .ref (q 11), .ref (q 12), .ref (q 13), .ref (q 14), .ref (q 15), .ref (q 16), .ref (q 17), .int th]))]) hD hS hA [0] rfl
          refine va_calli (va_runV (As := [.int 2]) (rest := []) ⟨hx, hb, hml, hown, hts⟩ (c_X6_fails l D cI cZ cJ cA H.size q on hm aw tk sn kn th 2) (cwV 1 hts gX6_shoot_X6_fails rfl rfl rfl (by decide +kernel) ⟨Nat.le_of_ble_eq_true rfl, Nat.le_of_ble_eq_true rfl⟩) ⟨pcW_bl, va_recv hK hPc (ci := 6) (q0 := 0) rfl rfl, fun U hU hW => ⟨rfl, by rw [hU], by rw [hU]; exact hPc, va_K.moved hW.alike hK, hDc.weaken (fun _ _ _ _ => trivial)⟩⟩ rfl rfl hl.1 rfl (lv_room (Nat.le_of_ble_eq_true rfl)) dX6_shoot_98 ⟨Nat.le_of_ble_eq_true rfl, Nat.le_of_ble_eq_true rfl⟩) hS (fun q _ h => hFc q h) hFc (fun r_22 u t H locs ht hvm hw hB hz1 hk1 hS => ?_)
          try dsimp only at hw
          obtain ⟨u0_22, rfl⟩ : ∃ z, z = u := ⟨_, rfl⟩
          obtain ⟨hr_22, hu0_22⟩ := hw
          obtain ⟨hP1, hK1, hD1⟩ := hB
          rw [ht] at hP1
          obtain ⟨hP, hD⟩ := va_join (wr := [((q 3), .inl (cI, 6, .inl ce)), ((q 5), .inl (cI, 6, .inl la)), ((q 6), .inl (cI, 100, .inl sa)), ((q 7), .inl (cI, 100, .inl sb)), ((q 8), .inl (cI, 100, .inl sc)), ((q 9), .inl (cI, 100, .inl sd))]) (w1 := [((q 0), .inr (6, [.ref (q 1), .ref (q 2), .int on, .int hm, .int aw, .int tk, .ref (q 3), .ref (q 4), .ref (q 5), .int (nI sn), .ref (q 6), .ref (q 7), .ref (q 8), .ref (q 9), .int (nI kn), .ref (q 10), .ref (q 11), .ref (q 12), .ref (q 13), .ref (q 14), .ref (q 15), .ref (q 16), .ref (q 17), .int u0_22]))]) hP hD [0] [1, 2, 3, 4, 5, 6] rfl rfl (by decide) (by decide) hk1 hFc hP1 hD1
          obtain rfl := hu0_22.symm
          have hP : va_P D vwCl [((q 3), .inl (cI, 6, .inl ce)), ((q 5), .inl (cI, 6, .inl la)), ((q 6), .inl (cI, 100, .inl sa)), ((q 7), .inl (cI, 100, .inl sb)), ((q 8), .inl (cI, 100, .inl sc)), ((q 9), .inl (cI, 100, .inl sd)), ((q 0), .inr (6, [.ref (q 1), .ref (q 2), .int on, .int hm, .int aw, .int tk, .ref (q 3), .ref (q 4), .ref (q 5), .int (nI sn), .ref (q 6), .ref (q 7), .ref (q 8), .ref (q 9), .int (nI kn), .ref (q 10), .ref (q 11), .ref (q 12), .ref (q 13), .ref (q 14), .ref (q 15), .ref (q 16), .ref (q 17), .int 2]))] H := hP
          have hD : va_D A [((q 3), .inl (cI, 6, .inl ce)), ((q 5), .inl (cI, 6, .inl la)), ((q 6), .inl (cI, 100, .inl sa)), ((q 7), .inl (cI, 100, .inl sb)), ((q 8), .inl (cI, 100, .inl sc)), ((q 9), .inl (cI, 100, .inl sd)), ((q 0), .inr (6, [.ref (q 1), .ref (q 2), .int on, .int hm, .int aw, .int tk, .ref (q 3), .ref (q 4), .ref (q 5), .int (nI sn), .ref (q 6), .ref (q 7), .ref (q 8), .ref (q 9), .int (nI kn), .ref (q 10), .ref (q 11), .ref (q 12), .ref (q 13), .ref (q 14), .ref (q 15), .ref (q 16), .ref (q 17), .int 2]))] := hD
          obtain rfl := hr_22.symm
          refine W.widen (k := 0) (n := 0) (Nat.le_refl _) (Nat.le_refl _) ?_
          refine tp_eq (y := 1) rfl ?_
          refine lv_if_eq (tgt := 106) hx hb dX6_shoot_101 (by decide) (fun c_23 => absurd c_23 (by decide)) (fun _ => ?_)
          refine lv_iconst (v := 0) hx hb dX6_shoot_104 (by decide) ?_
          have hP9 := hP.sub (ws' := [((q 0), .inr (6, [.ref (q 1), .ref (q 2), .int on, .int hm, .int aw, .int tk, .ref (q 3), .ref (q 4), .ref (q 5), .int (nI sn), .ref (q 6), .ref (q 7), .ref (q 8), .ref (q 9), .int (nI kn), .ref (q 10), .ref (q 11), .ref (q 12), .ref (q 13), .ref (q 14), .ref (q 15), .ref (q 16), .ref (q 17), .int 2])), ((q 3), .inl (cI, 6, .inl ce)), ((q 5), .inl (cI, 6, .inl la)), ((q 6), .inl (cI, 100, .inl sa)), ((q 7), .inl (cI, 100, .inl sb)), ((q 8), .inl (cI, 100, .inl sc)), ((q 9), .inl (cI, 100, .inl sd))]) [6, 0, 1, 2, 3, 4, 5] rfl
          have hD9 := hD.sub (ws' := [((q 0), .inr (6, [.ref (q 1), .ref (q 2), .int on, .int hm, .int aw, .int tk, .ref (q 3), .ref (q 4), .ref (q 5), .int (nI sn), .ref (q 6), .ref (q 7), .ref (q 8), .ref (q 9), .int (nI kn), .ref (q 10), .ref (q 11), .ref (q 12), .ref (q 13), .ref (q 14), .ref (q 15), .ref (q 16), .ref (q 17), .int 2])), ((q 3), .inl (cI, 6, .inl ce)), ((q 5), .inl (cI, 6, .inl la)), ((q 6), .inl (cI, 100, .inl sa)), ((q 7), .inl (cI, 100, .inl sb)), ((q 8), .inl (cI, 100, .inl sc)), ((q 9), .inl (cI, 100, .inl sd))]) [6, 0, 1, 2, 3, 4, 5] (by decide) rfl
          -- leaf 3
          refine W.widen (k := 0) (n := 0) (Nat.le_refl _) (Nat.le_refl _) ?_
          exact W.iret (v := 0) hx hb hr (fun t ht hW => ⟨⟨0, (la, sn, sa, sb, sc, sd, 2), rfl, ⟨(by rw [f_X6_shoot, if_neg c_2, if_neg c_8, if_neg c_14, if_pos c_19]), (by rw [g_la_X6_shoot, if_neg c_2, if_neg c_8, if_neg c_14, if_pos c_19]), (by rw [g_sn_X6_shoot, if_neg c_2, if_neg c_8, if_neg c_14, if_pos c_19]), (by rw [g_sa_X6_shoot, if_neg c_2, if_neg c_8, if_neg c_14, if_pos c_19]), (by rw [g_sb_X6_shoot, if_neg c_2, if_neg c_8, if_neg c_14, if_pos c_19]), (by rw [g_sc_X6_shoot, if_neg c_2, if_neg c_8, if_neg c_14, if_pos c_19]), (by rw [g_sd_X6_shoot, if_neg c_2, if_neg c_8, if_neg c_14, if_pos c_19]), (by rw [g_th_X6_shoot, if_neg c_2, if_neg c_8, if_neg c_14, if_pos c_19])⟩, by rw [ht]; exact hP9, va_K.moved hW.alike hK, hD9⟩, hS.F ht⟩) hS.2.2 dX6_shoot_105
        · refine lv_aload_n hx hb dX6_shoot_40 rfl (lv_at hl 1 rfl) ?_
          refine va_get (D := D) (ci := 6) (v := .ref (q 5)) (C := RX6) (T := TX6) (N := 24) hx hb hts hi_X6 hown hK hP 0 rfl rfl 8 (by decide) hf_23 (fun _ h9 => h9) rfl dX6_shoot_41 ?_
          refine lv_iload_n hx hb dX6_shoot_44 rfl (lv_at hl 2 rfl) ?_
          refine va_iald hx hb hK hP 2 0 rfl rfl (by assumption) dX6_shoot_45 ?_
          refine lv_aload_n hx hb dX6_shoot_46 rfl (lv_at hl 1 rfl) ?_
          refine va_get (D := D) (ci := 6) (v := .int tk) (C := RX6) (T := TX6) (N := 24) hx hb hts hi_X6 hown hK hP 0 rfl rfl 5 (by decide) hf_107 (fun _ h9 => h9) rfl dX6_shoot_47 ?_
          refine lv_icmp_eq (tgt := 76) hx hb dX6_shoot_50 (by decide) (fun c_24 => ?_) (fun c_24 => ?_)
          · refine lv_iconst (v := 0) hx hb dX6_shoot_76 (by decide) ?_
            refine lv_istore (lv' := [(4, .int 0), (3, .int 1), (0, .ref (q 0)), (1, .int p1), (2, .int p2)]) hx hb dX6_shoot_77 hl (by decide) rfl (fun ls hl => ?_)
            refine lv_aload_n hx hb dX6_shoot_79 rfl (lv_at hl 2 rfl) ?_
            refine lv_iload_n hx hb dX6_shoot_80 rfl (lv_at hl 1 rfl) ?_
            refine lv_if_ne (tgt := 88) hx hb dX6_shoot_81 (by decide) (fun _ => ?_) (fun c_25 => absurd c_25 (by decide))
            refine lv_iload hx hb dX6_shoot_88 (lv_at hl 0 rfl) ?_
            refine lv_if_eq (tgt := 97) hx hb dX6_shoot_90 (by decide) (fun _ => ?_) (fun c_26 => absurd (by decide) c_26)
            refine lv_iconst (v := 2) hx hb dX6_shoot_97 (by decide) ?_
            have hPc := hP.sub (ws' := [((q 0), .inr (6, [.ref (q 1), .ref (q 2), .int on, .int hm, .int aw, .int tk, .ref (q 3), .ref (q 4), .ref (q 5), .int (nI sn), .ref (q 6), .ref (q 7), .ref (q 8), .ref (q 9), .int (nI kn), .ref (q 10), .ref (q 11), .ref (q 12), .ref (q 13), .ref (q 14), .ref (q 15), .ref (q 16), .ref (q 17), .int th]))]) [0] rfl
            have hDc := hD.sub (ws' := [((q 0), .inr (6, [.ref (q 1), .ref (q 2), .int on, .int hm, .int aw, .int tk, .ref (q 3), .ref (q 4), .ref (q 5), .int (nI sn), .ref (q 6), .ref (q 7), .ref (q 8), .ref (q 9), .int (nI kn), .ref (q 10), .ref (q 11), .ref (q 12), .ref (q 13), .ref (q 14), .ref (q 15), .ref (q 16), .ref (q 17), .int th]))]) [0] (by decide) rfl
            have hFc := va_free (wc := [((q 0), .inr (6, [.ref (q 1), .ref (q 2), .int on, .int hm, .int aw, .int tk, .ref (q 3), .ref (q 4), .ref (q 5), .int (nI sn), .ref (q 6), .ref (q 7), .ref (q 8), .ref (q 9), .int (nI kn), .ref (q 10), .ref (q 11), .ref (q 12), .ref (q 13), .ref (q 14), .ref (q 15), .ref (q 16), .ref (q 17), .int th]))]) hD hS hA [0] rfl
            refine va_calli (va_runV (As := [.int 2]) (rest := []) ⟨hx, hb, hml, hown, hts⟩ (c_X6_fails l D cI cZ cJ cA H.size q on hm aw tk sn kn th 2) (cwV 1 hts gX6_shoot_X6_fails rfl rfl rfl (by decide +kernel) ⟨Nat.le_of_ble_eq_true rfl, Nat.le_of_ble_eq_true rfl⟩) ⟨pcW_bl, va_recv hK hPc (ci := 6) (q0 := 0) rfl rfl, fun U hU hW => ⟨rfl, by rw [hU], by rw [hU]; exact hPc, va_K.moved hW.alike hK, hDc.weaken (fun _ _ _ _ => trivial)⟩⟩ rfl rfl hl.1 rfl (lv_room (Nat.le_of_ble_eq_true rfl)) dX6_shoot_98 ⟨Nat.le_of_ble_eq_true rfl, Nat.le_of_ble_eq_true rfl⟩) hS (fun q _ h => hFc q h) hFc (fun r_27 u t H locs ht hvm hw hB hz1 hk1 hS => ?_)
            try dsimp only at hw
            obtain ⟨u0_27, rfl⟩ : ∃ z, z = u := ⟨_, rfl⟩
            obtain ⟨hr_27, hu0_27⟩ := hw
            obtain ⟨hP1, hK1, hD1⟩ := hB
            rw [ht] at hP1
            obtain ⟨hP, hD⟩ := va_join (wr := [((q 3), .inl (cI, 6, .inl ce)), ((q 5), .inl (cI, 6, .inl la)), ((q 6), .inl (cI, 100, .inl sa)), ((q 7), .inl (cI, 100, .inl sb)), ((q 8), .inl (cI, 100, .inl sc)), ((q 9), .inl (cI, 100, .inl sd))]) (w1 := [((q 0), .inr (6, [.ref (q 1), .ref (q 2), .int on, .int hm, .int aw, .int tk, .ref (q 3), .ref (q 4), .ref (q 5), .int (nI sn), .ref (q 6), .ref (q 7), .ref (q 8), .ref (q 9), .int (nI kn), .ref (q 10), .ref (q 11), .ref (q 12), .ref (q 13), .ref (q 14), .ref (q 15), .ref (q 16), .ref (q 17), .int u0_27]))]) hP hD [0] [1, 2, 3, 4, 5, 6] rfl rfl (by decide) (by decide) hk1 hFc hP1 hD1
            obtain rfl := hu0_27.symm
            have hP : va_P D vwCl [((q 3), .inl (cI, 6, .inl ce)), ((q 5), .inl (cI, 6, .inl la)), ((q 6), .inl (cI, 100, .inl sa)), ((q 7), .inl (cI, 100, .inl sb)), ((q 8), .inl (cI, 100, .inl sc)), ((q 9), .inl (cI, 100, .inl sd)), ((q 0), .inr (6, [.ref (q 1), .ref (q 2), .int on, .int hm, .int aw, .int tk, .ref (q 3), .ref (q 4), .ref (q 5), .int (nI sn), .ref (q 6), .ref (q 7), .ref (q 8), .ref (q 9), .int (nI kn), .ref (q 10), .ref (q 11), .ref (q 12), .ref (q 13), .ref (q 14), .ref (q 15), .ref (q 16), .ref (q 17), .int 2]))] H := hP
            have hD : va_D A [((q 3), .inl (cI, 6, .inl ce)), ((q 5), .inl (cI, 6, .inl la)), ((q 6), .inl (cI, 100, .inl sa)), ((q 7), .inl (cI, 100, .inl sb)), ((q 8), .inl (cI, 100, .inl sc)), ((q 9), .inl (cI, 100, .inl sd)), ((q 0), .inr (6, [.ref (q 1), .ref (q 2), .int on, .int hm, .int aw, .int tk, .ref (q 3), .ref (q 4), .ref (q 5), .int (nI sn), .ref (q 6), .ref (q 7), .ref (q 8), .ref (q 9), .int (nI kn), .ref (q 10), .ref (q 11), .ref (q 12), .ref (q 13), .ref (q 14), .ref (q 15), .ref (q 16), .ref (q 17), .int 2]))] := hD
            obtain rfl := hr_27.symm
            refine W.widen (k := 0) (n := 0) (Nat.le_refl _) (Nat.le_refl _) ?_
            refine tp_eq (y := 1) rfl ?_
            refine lv_if_eq (tgt := 106) hx hb dX6_shoot_101 (by decide) (fun c_28 => absurd c_28 (by decide)) (fun _ => ?_)
            refine lv_iconst (v := 0) hx hb dX6_shoot_104 (by decide) ?_
            have hP9 := hP.sub (ws' := [((q 0), .inr (6, [.ref (q 1), .ref (q 2), .int on, .int hm, .int aw, .int tk, .ref (q 3), .ref (q 4), .ref (q 5), .int (nI sn), .ref (q 6), .ref (q 7), .ref (q 8), .ref (q 9), .int (nI kn), .ref (q 10), .ref (q 11), .ref (q 12), .ref (q 13), .ref (q 14), .ref (q 15), .ref (q 16), .ref (q 17), .int 2])), ((q 3), .inl (cI, 6, .inl ce)), ((q 5), .inl (cI, 6, .inl la)), ((q 6), .inl (cI, 100, .inl sa)), ((q 7), .inl (cI, 100, .inl sb)), ((q 8), .inl (cI, 100, .inl sc)), ((q 9), .inl (cI, 100, .inl sd))]) [6, 0, 1, 2, 3, 4, 5] rfl
            have hD9 := hD.sub (ws' := [((q 0), .inr (6, [.ref (q 1), .ref (q 2), .int on, .int hm, .int aw, .int tk, .ref (q 3), .ref (q 4), .ref (q 5), .int (nI sn), .ref (q 6), .ref (q 7), .ref (q 8), .ref (q 9), .int (nI kn), .ref (q 10), .ref (q 11), .ref (q 12), .ref (q 13), .ref (q 14), .ref (q 15), .ref (q 16), .ref (q 17), .int 2])), ((q 3), .inl (cI, 6, .inl ce)), ((q 5), .inl (cI, 6, .inl la)), ((q 6), .inl (cI, 100, .inl sa)), ((q 7), .inl (cI, 100, .inl sb)), ((q 8), .inl (cI, 100, .inl sc)), ((q 9), .inl (cI, 100, .inl sd))]) [6, 0, 1, 2, 3, 4, 5] (by decide) rfl
            -- leaf 4
            refine W.widen (k := 0) (n := 0) (Nat.le_refl _) (Nat.le_refl _) ?_
            exact W.iret (v := 0) hx hb hr (fun t ht hW => ⟨⟨0, (la, sn, sa, sb, sc, sd, 2), rfl, ⟨(by rw [f_X6_shoot, if_neg c_2, if_neg c_8, if_neg c_14, if_neg c_19, if_pos c_24]), (by rw [g_la_X6_shoot, if_neg c_2, if_neg c_8, if_neg c_14, if_neg c_19, if_pos c_24]), (by rw [g_sn_X6_shoot, if_neg c_2, if_neg c_8, if_neg c_14, if_neg c_19, if_pos c_24]), (by rw [g_sa_X6_shoot, if_neg c_2, if_neg c_8, if_neg c_14, if_neg c_19, if_pos c_24]), (by rw [g_sb_X6_shoot, if_neg c_2, if_neg c_8, if_neg c_14, if_neg c_19, if_pos c_24]), (by rw [g_sc_X6_shoot, if_neg c_2, if_neg c_8, if_neg c_14, if_neg c_19, if_pos c_24]), (by rw [g_sd_X6_shoot, if_neg c_2, if_neg c_8, if_neg c_14, if_neg c_19, if_pos c_24]), (by rw [g_th_X6_shoot, if_neg c_2, if_neg c_8, if_neg c_14, if_neg c_19, if_pos c_24])⟩, by rw [ht]; exact hP9, va_K.moved hW.alike hK, hD9⟩, hS.F ht⟩) hS.2.2 dX6_shoot_105
          · refine lv_aload_n hx hb dX6_shoot_53 rfl (lv_at hl 1 rfl) ?_
            refine va_get (D := D) (ci := 6) (v := .ref (q 3)) (C := RX6) (T := TX6) (N := 24) hx hb hts hi_X6 hown hK hP 0 rfl rfl 6 (by decide) hf_17 (fun _ h9 => h9) rfl dX6_shoot_54 ?_
            refine lv_iload_n hx hb dX6_shoot_57 rfl (lv_at hl 2 rfl) ?_
            refine va_iald hx hb hK hP 1 0 rfl rfl (by assumption) dX6_shoot_58 ?_
            refine lv_iload_n hx hb dX6_shoot_59 rfl (lv_at hl 3 rfl) ?_
            refine lv_icmp_eq (tgt := 76) hx hb dX6_shoot_60 (by decide) (fun c_29 => ?_) (fun c_29 => ?_)
            · refine lv_iconst (v := 0) hx hb dX6_shoot_76 (by decide) ?_
              refine lv_istore (lv' := [(4, .int 0), (3, .int 1), (0, .ref (q 0)), (1, .int p1), (2, .int p2)]) hx hb dX6_shoot_77 hl (by decide) rfl (fun ls hl => ?_)
              refine lv_aload_n hx hb dX6_shoot_79 rfl (lv_at hl 2 rfl) ?_
              refine lv_iload_n hx hb dX6_shoot_80 rfl (lv_at hl 1 rfl) ?_
              refine lv_if_ne (tgt := 88) hx hb dX6_shoot_81 (by decide) (fun _ => ?_) (fun c_30 => absurd c_30 (by decide))
              refine lv_iload hx hb dX6_shoot_88 (lv_at hl 0 rfl) ?_
              refine lv_if_eq (tgt := 97) hx hb dX6_shoot_90 (by decide) (fun _ => ?_) (fun c_31 => absurd (by decide) c_31)
              refine lv_iconst (v := 2) hx hb dX6_shoot_97 (by decide) ?_
              have hPc := hP.sub (ws' := [((q 0), .inr (6, [.ref (q 1), .ref (q 2), .int on, .int hm, .int aw, .int tk, .ref (q 3), .ref (q 4), .ref (q 5), .int (nI sn), .ref (q 6), .ref (q 7), .ref (q 8), .ref (q 9), .int (nI kn), .ref (q 10), .ref (q 11), .ref (q 12), .ref (q 13), .ref (q 14), .ref (q 15), .ref (q 16), .ref (q 17), .int th]))]) [0] rfl
              have hDc := hD.sub (ws' := [((q 0), .inr (6, [.ref (q 1), .ref (q 2), .int on, .int hm, .int aw, .int tk, .ref (q 3), .ref (q 4), .ref (q 5), .int (nI sn), .ref (q 6), .ref (q 7), .ref (q 8), .ref (q 9), .int (nI kn), .ref (q 10), .ref (q 11), .ref (q 12), .ref (q 13), .ref (q 14), .ref (q 15), .ref (q 16), .ref (q 17), .int th]))]) [0] (by decide) rfl
              have hFc := va_free (wc := [((q 0), .inr (6, [.ref (q 1), .ref (q 2), .int on, .int hm, .int aw, .int tk, .ref (q 3), .ref (q 4), .ref (q 5), .int (nI sn), .ref (q 6), .ref (q 7), .ref (q 8), .ref (q 9), .int (nI kn), .ref (q 10), .ref (q 11), .ref (q 12), .ref (q 13), .ref (q 14), .ref (q 15), .ref (q 16), .ref (q 17), .int th]))]) hD hS hA [0] rfl
              refine va_calli (va_runV (As := [.int 2]) (rest := []) ⟨hx, hb, hml, hown, hts⟩ (c_X6_fails l D cI cZ cJ cA H.size q on hm aw tk sn kn th 2) (cwV 1 hts gX6_shoot_X6_fails rfl rfl rfl (by decide +kernel) ⟨Nat.le_of_ble_eq_true rfl, Nat.le_of_ble_eq_true rfl⟩) ⟨pcW_bl, va_recv hK hPc (ci := 6) (q0 := 0) rfl rfl, fun U hU hW => ⟨rfl, by rw [hU], by rw [hU]; exact hPc, va_K.moved hW.alike hK, hDc.weaken (fun _ _ _ _ => trivial)⟩⟩ rfl rfl hl.1 rfl (lv_room (Nat.le_of_ble_eq_true rfl)) dX6_shoot_98 ⟨Nat.le_of_ble_eq_true rfl, Nat.le_of_ble_eq_true rfl⟩) hS (fun q _ h => hFc q h) hFc (fun r_32 u t H locs ht hvm hw hB hz1 hk1 hS => ?_)
              try dsimp only at hw
              obtain ⟨u0_32, rfl⟩ : ∃ z, z = u := ⟨_, rfl⟩
              obtain ⟨hr_32, hu0_32⟩ := hw
              obtain ⟨hP1, hK1, hD1⟩ := hB
              rw [ht] at hP1
              obtain ⟨hP, hD⟩ := va_join (wr := [((q 3), .inl (cI, 6, .inl ce)), ((q 5), .inl (cI, 6, .inl la)), ((q 6), .inl (cI, 100, .inl sa)), ((q 7), .inl (cI, 100, .inl sb)), ((q 8), .inl (cI, 100, .inl sc)), ((q 9), .inl (cI, 100, .inl sd))]) (w1 := [((q 0), .inr (6, [.ref (q 1), .ref (q 2), .int on, .int hm, .int aw, .int tk, .ref (q 3), .ref (q 4), .ref (q 5), .int (nI sn), .ref (q 6), .ref (q 7), .ref (q 8), .ref (q 9), .int (nI kn), .ref (q 10), .ref (q 11), .ref (q 12), .ref (q 13), .ref (q 14), .ref (q 15), .ref (q 16), .ref (q 17), .int u0_32]))]) hP hD [0] [1, 2, 3, 4, 5, 6] rfl rfl (by decide) (by decide) hk1 hFc hP1 hD1
              obtain rfl := hu0_32.symm
              have hP : va_P D vwCl [((q 3), .inl (cI, 6, .inl ce)), ((q 5), .inl (cI, 6, .inl la)), ((q 6), .inl (cI, 100, .inl sa)), ((q 7), .inl (cI, 100, .inl sb)), ((q 8), .inl (cI, 100, .inl sc)), ((q 9), .inl (cI, 100, .inl sd)), ((q 0), .inr (6, [.ref (q 1), .ref (q 2), .int on, .int hm, .int aw, .int tk, .ref (q 3), .ref (q 4), .ref (q 5), .int (nI sn), .ref (q 6), .ref (q 7), .ref (q 8), .ref (q 9), .int (nI kn), .ref (q 10), .ref (q 11), .ref (q 12), .ref (q 13), .ref (q 14), .ref (q 15), .ref (q 16), .ref (q 17), .int 2]))] H := hP
              have hD : va_D A [((q 3), .inl (cI, 6, .inl ce)), ((q 5), .inl (cI, 6, .inl la)), ((q 6), .inl (cI, 100, .inl sa)), ((q 7), .inl (cI, 100, .inl sb)), ((q 8), .inl (cI, 100, .inl sc)), ((q 9), .inl (cI, 100, .inl sd)), ((q 0), .inr (6, [.ref (q 1), .ref (q 2), .int on, .int hm, .int aw, .int tk, .ref (q 3), .ref (q 4), .ref (q 5), .int (nI sn), .ref (q 6), .ref (q 7), .ref (q 8), .ref (q 9), .int (nI kn), .ref (q 10), .ref (q 11), .ref (q 12), .ref (q 13), .ref (q 14), .ref (q 15), .ref (q 16), .ref (q 17), .int 2]))] := hD
              obtain rfl := hr_32.symm
              refine W.widen (k := 0) (n := 0) (Nat.le_refl _) (Nat.le_refl _) ?_
              refine tp_eq (y := 1) rfl ?_
              refine lv_if_eq (tgt := 106) hx hb dX6_shoot_101 (by decide) (fun c_33 => absurd c_33 (by decide)) (fun _ => ?_)
              refine lv_iconst (v := 0) hx hb dX6_shoot_104 (by decide) ?_
              have hP9 := hP.sub (ws' := [((q 0), .inr (6, [.ref (q 1), .ref (q 2), .int on, .int hm, .int aw, .int tk, .ref (q 3), .ref (q 4), .ref (q 5), .int (nI sn), .ref (q 6), .ref (q 7), .ref (q 8), .ref (q 9), .int (nI kn), .ref (q 10), .ref (q 11), .ref (q 12), .ref (q 13), .ref (q 14), .ref (q 15), .ref (q 16), .ref (q 17), .int 2])), ((q 3), .inl (cI, 6, .inl ce)), ((q 5), .inl (cI, 6, .inl la)), ((q 6), .inl (cI, 100, .inl sa)), ((q 7), .inl (cI, 100, .inl sb)), ((q 8), .inl (cI, 100, .inl sc)), ((q 9), .inl (cI, 100, .inl sd))]) [6, 0, 1, 2, 3, 4, 5] rfl
              have hD9 := hD.sub (ws' := [((q 0), .inr (6, [.ref (q 1), .ref (q 2), .int on, .int hm, .int aw, .int tk, .ref (q 3), .ref (q 4), .ref (q 5), .int (nI sn), .ref (q 6), .ref (q 7), .ref (q 8), .ref (q 9), .int (nI kn), .ref (q 10), .ref (q 11), .ref (q 12), .ref (q 13), .ref (q 14), .ref (q 15), .ref (q 16), .ref (q 17), .int 2])), ((q 3), .inl (cI, 6, .inl ce)), ((q 5), .inl (cI, 6, .inl la)), ((q 6), .inl (cI, 100, .inl sa)), ((q 7), .inl (cI, 100, .inl sb)), ((q 8), .inl (cI, 100, .inl sc)), ((q 9), .inl (cI, 100, .inl sd))]) [6, 0, 1, 2, 3, 4, 5] (by decide) rfl
              -- leaf 5
              refine W.widen (k := 0) (n := 0) (Nat.le_refl _) (Nat.le_refl _) ?_
              exact W.iret (v := 0) hx hb hr (fun t ht hW => ⟨⟨0, (la, sn, sa, sb, sc, sd, 2), rfl, ⟨(by rw [f_X6_shoot, if_neg c_2, if_neg c_8, if_neg c_14, if_neg c_19, if_neg c_24, if_pos c_29]), (by rw [g_la_X6_shoot, if_neg c_2, if_neg c_8, if_neg c_14, if_neg c_19, if_neg c_24, if_pos c_29]), (by rw [g_sn_X6_shoot, if_neg c_2, if_neg c_8, if_neg c_14, if_neg c_19, if_neg c_24, if_pos c_29]), (by rw [g_sa_X6_shoot, if_neg c_2, if_neg c_8, if_neg c_14, if_neg c_19, if_neg c_24, if_pos c_29]), (by rw [g_sb_X6_shoot, if_neg c_2, if_neg c_8, if_neg c_14, if_neg c_19, if_neg c_24, if_pos c_29]), (by rw [g_sc_X6_shoot, if_neg c_2, if_neg c_8, if_neg c_14, if_neg c_19, if_neg c_24, if_pos c_29]), (by rw [g_sd_X6_shoot, if_neg c_2, if_neg c_8, if_neg c_14, if_neg c_19, if_neg c_24, if_pos c_29]), (by rw [g_th_X6_shoot, if_neg c_2, if_neg c_8, if_neg c_14, if_neg c_19, if_neg c_24, if_pos c_29])⟩, by rw [ht]; exact hP9, va_K.moved hW.alike hK, hD9⟩, hS.F ht⟩) hS.2.2 dX6_shoot_105
            · refine lv_aload_n hx hb dX6_shoot_63 rfl (lv_at hl 1 rfl) ?_
              refine va_get (D := D) (ci := 6) (v := .int (nI sn)) (C := RX6) (T := TX6) (N := 24) hx hb hts hi_X6 hown hK hP 0 rfl rfl 9 (by decide) hf_110 (fun _ h9 => h9) rfl dX6_shoot_64 ?_
              refine lv_bipush (v := 100) hx hb dX6_shoot_67 (by decide) ?_
              refine lv_icmp_ge (tgt := 76) hx hb dX6_shoot_69 (by decide) (fun c_34 => ?_) (fun c_34 => ?_)
              · refine lv_iconst (v := 0) hx hb dX6_shoot_76 (by decide) ?_
                refine lv_istore (lv' := [(4, .int 0), (3, .int 1), (0, .ref (q 0)), (1, .int p1), (2, .int p2)]) hx hb dX6_shoot_77 hl (by decide) rfl (fun ls hl => ?_)
                refine lv_aload_n hx hb dX6_shoot_79 rfl (lv_at hl 2 rfl) ?_
                refine lv_iload_n hx hb dX6_shoot_80 rfl (lv_at hl 1 rfl) ?_
                refine lv_if_ne (tgt := 88) hx hb dX6_shoot_81 (by decide) (fun _ => ?_) (fun c_35 => absurd c_35 (by decide))
                refine lv_iload hx hb dX6_shoot_88 (lv_at hl 0 rfl) ?_
                refine lv_if_eq (tgt := 97) hx hb dX6_shoot_90 (by decide) (fun _ => ?_) (fun c_36 => absurd (by decide) c_36)
                refine lv_iconst (v := 2) hx hb dX6_shoot_97 (by decide) ?_
                have hPc := hP.sub (ws' := [((q 0), .inr (6, [.ref (q 1), .ref (q 2), .int on, .int hm, .int aw, .int tk, .ref (q 3), .ref (q 4), .ref (q 5), .int (nI sn), .ref (q 6), .ref (q 7), .ref (q 8), .ref (q 9), .int (nI kn), .ref (q 10), .ref (q 11), .ref (q 12), .ref (q 13), .ref (q 14), .ref (q 15), .ref (q 16), .ref (q 17), .int th]))]) [0] rfl
                have hDc := hD.sub (ws' := [((q 0), .inr (6, [.ref (q 1), .ref (q 2), .int on, .int hm, .int aw, .int tk, .ref (q 3), .ref (q 4), .ref (q 5), .int (nI sn), .ref (q 6), .ref (q 7), .ref (q 8), .ref (q 9), .int (nI kn), .ref (q 10), .ref (q 11), .ref (q 12), .ref (q 13), .ref (q 14), .ref (q 15), .ref (q 16), .ref (q 17), .int th]))]) [0] (by decide) rfl
                have hFc := va_free (wc := [((q 0), .inr (6, [.ref (q 1), .ref (q 2), .int on, .int hm, .int aw, .int tk, .ref (q 3), .ref (q 4), .ref (q 5), .int (nI sn), .ref (q 6), .ref (q 7), .ref (q 8), .ref (q 9), .int (nI kn), .ref (q 10), .ref (q 11), .ref (q 12), .ref (q 13), .ref (q 14), .ref (q 15), .ref (q 16), .ref (q 17), .int th]))]) hD hS hA [0] rfl
                refine va_calli (va_runV (As := [.int 2]) (rest := []) ⟨hx, hb, hml, hown, hts⟩ (c_X6_fails l D cI cZ cJ cA H.size q on hm aw tk sn kn th 2) (cwV 1 hts gX6_shoot_X6_fails rfl rfl rfl (by decide +kernel) ⟨Nat.le_of_ble_eq_true rfl, Nat.le_of_ble_eq_true rfl⟩) ⟨pcW_bl, va_recv hK hPc (ci := 6) (q0 := 0) rfl rfl, fun U hU hW => ⟨rfl, by rw [hU], by rw [hU]; exact hPc, va_K.moved hW.alike hK, hDc.weaken (fun _ _ _ _ => trivial)⟩⟩ rfl rfl hl.1 rfl (lv_room (Nat.le_of_ble_eq_true rfl)) dX6_shoot_98 ⟨Nat.le_of_ble_eq_true rfl, Nat.le_of_ble_eq_true rfl⟩) hS (fun q _ h => hFc q h) hFc (fun r_37 u t H locs ht hvm hw hB hz1 hk1 hS => ?_)
                try dsimp only at hw
                obtain ⟨u0_37, rfl⟩ : ∃ z, z = u := ⟨_, rfl⟩
                obtain ⟨hr_37, hu0_37⟩ := hw
                obtain ⟨hP1, hK1, hD1⟩ := hB
                rw [ht] at hP1
                obtain ⟨hP, hD⟩ := va_join (wr := [((q 3), .inl (cI, 6, .inl ce)), ((q 5), .inl (cI, 6, .inl la)), ((q 6), .inl (cI, 100, .inl sa)), ((q 7), .inl (cI, 100, .inl sb)), ((q 8), .inl (cI, 100, .inl sc)), ((q 9), .inl (cI, 100, .inl sd))]) (w1 := [((q 0), .inr (6, [.ref (q 1), .ref (q 2), .int on, .int hm, .int aw, .int tk, .ref (q 3), .ref (q 4), .ref (q 5), .int (nI sn), .ref (q 6), .ref (q 7), .ref (q 8), .ref (q 9), .int (nI kn), .ref (q 10), .ref (q 11), .ref (q 12), .ref (q 13), .ref (q 14), .ref (q 15), .ref (q 16), .ref (q 17), .int u0_37]))]) hP hD [0] [1, 2, 3, 4, 5, 6] rfl rfl (by decide) (by decide) hk1 hFc hP1 hD1
                obtain rfl := hu0_37.symm
                have hP : va_P D vwCl [((q 3), .inl (cI, 6, .inl ce)), ((q 5), .inl (cI, 6, .inl la)), ((q 6), .inl (cI, 100, .inl sa)), ((q 7), .inl (cI, 100, .inl sb)), ((q 8), .inl (cI, 100, .inl sc)), ((q 9), .inl (cI, 100, .inl sd)), ((q 0), .inr (6, [.ref (q 1), .ref (q 2), .int on, .int hm, .int aw, .int tk, .ref (q 3), .ref (q 4), .ref (q 5), .int (nI sn), .ref (q 6), .ref (q 7), .ref (q 8), .ref (q 9), .int (nI kn), .ref (q 10), .ref (q 11), .ref (q 12), .ref (q 13), .ref (q 14), .ref (q 15), .ref (q 16), .ref (q 17), .int 2]))] H := hP
                have hD : va_D A [((q 3), .inl (cI, 6, .inl ce)), ((q 5), .inl (cI, 6, .inl la)), ((q 6), .inl (cI, 100, .inl sa)), ((q 7), .inl (cI, 100, .inl sb)), ((q 8), .inl (cI, 100, .inl sc)), ((q 9), .inl (cI, 100, .inl sd)), ((q 0), .inr (6, [.ref (q 1), .ref (q 2), .int on, .int hm, .int aw, .int tk, .ref (q 3), .ref (q 4), .ref (q 5), .int (nI sn), .ref (q 6), .ref (q 7), .ref (q 8), .ref (q 9), .int (nI kn), .ref (q 10), .ref (q 11), .ref (q 12), .ref (q 13), .ref (q 14), .ref (q 15), .ref (q 16), .ref (q 17), .int 2]))] := hD
                obtain rfl := hr_37.symm
                refine W.widen (k := 0) (n := 0) (Nat.le_refl _) (Nat.le_refl _) ?_
                refine tp_eq (y := 1) rfl ?_
                refine lv_if_eq (tgt := 106) hx hb dX6_shoot_101 (by decide) (fun c_38 => absurd c_38 (by decide)) (fun _ => ?_)
                refine lv_iconst (v := 0) hx hb dX6_shoot_104 (by decide) ?_
                have hP9 := hP.sub (ws' := [((q 0), .inr (6, [.ref (q 1), .ref (q 2), .int on, .int hm, .int aw, .int tk, .ref (q 3), .ref (q 4), .ref (q 5), .int (nI sn), .ref (q 6), .ref (q 7), .ref (q 8), .ref (q 9), .int (nI kn), .ref (q 10), .ref (q 11), .ref (q 12), .ref (q 13), .ref (q 14), .ref (q 15), .ref (q 16), .ref (q 17), .int 2])), ((q 3), .inl (cI, 6, .inl ce)), ((q 5), .inl (cI, 6, .inl la)), ((q 6), .inl (cI, 100, .inl sa)), ((q 7), .inl (cI, 100, .inl sb)), ((q 8), .inl (cI, 100, .inl sc)), ((q 9), .inl (cI, 100, .inl sd))]) [6, 0, 1, 2, 3, 4, 5] rfl
                have hD9 := hD.sub (ws' := [((q 0), .inr (6, [.ref (q 1), .ref (q 2), .int on, .int hm, .int aw, .int tk, .ref (q 3), .ref (q 4), .ref (q 5), .int (nI sn), .ref (q 6), .ref (q 7), .ref (q 8), .ref (q 9), .int (nI kn), .ref (q 10), .ref (q 11), .ref (q 12), .ref (q 13), .ref (q 14), .ref (q 15), .ref (q 16), .ref (q 17), .int 2])), ((q 3), .inl (cI, 6, .inl ce)), ((q 5), .inl (cI, 6, .inl la)), ((q 6), .inl (cI, 100, .inl sa)), ((q 7), .inl (cI, 100, .inl sb)), ((q 8), .inl (cI, 100, .inl sc)), ((q 9), .inl (cI, 100, .inl sd))]) [6, 0, 1, 2, 3, 4, 5] (by decide) rfl
                -- leaf 6
                refine W.widen (k := 0) (n := 0) (Nat.le_refl _) (Nat.le_refl _) ?_
                exact W.iret (v := 0) hx hb hr (fun t ht hW => ⟨⟨0, (la, sn, sa, sb, sc, sd, 2), rfl, ⟨(by rw [f_X6_shoot, if_neg c_2, if_neg c_8, if_neg c_14, if_neg c_19, if_neg c_24, if_neg c_29, if_pos c_34]), (by rw [g_la_X6_shoot, if_neg c_2, if_neg c_8, if_neg c_14, if_neg c_19, if_neg c_24, if_neg c_29, if_pos c_34]), (by rw [g_sn_X6_shoot, if_neg c_2, if_neg c_8, if_neg c_14, if_neg c_19, if_neg c_24, if_neg c_29, if_pos c_34]), (by rw [g_sa_X6_shoot, if_neg c_2, if_neg c_8, if_neg c_14, if_neg c_19, if_neg c_24, if_neg c_29, if_pos c_34]), (by rw [g_sb_X6_shoot, if_neg c_2, if_neg c_8, if_neg c_14, if_neg c_19, if_neg c_24, if_neg c_29, if_pos c_34]), (by rw [g_sc_X6_shoot, if_neg c_2, if_neg c_8, if_neg c_14, if_neg c_19, if_neg c_24, if_neg c_29, if_pos c_34]), (by rw [g_sd_X6_shoot, if_neg c_2, if_neg c_8, if_neg c_14, if_neg c_19, if_neg c_24, if_neg c_29, if_pos c_34]), (by rw [g_th_X6_shoot, if_neg c_2, if_neg c_8, if_neg c_14, if_neg c_19, if_neg c_24, if_neg c_29, if_pos c_34])⟩, by rw [ht]; exact hP9, va_K.moved hW.alike hK, hD9⟩, hS.F ht⟩) hS.2.2 dX6_shoot_105
              · have hsn1 : sn < 100 := bd_lt (N := 100) (by decide) hsn c_34
                refine lv_iconst (v := 1) hx hb dX6_shoot_72 (by decide) ?_
                refine lv_goto (tgt := 77) hx hb dX6_shoot_73 (by decide) ?_
                refine lv_istore (lv' := [(4, .int 1), (3, .int 1), (0, .ref (q 0)), (1, .int p1), (2, .int p2)]) hx hb dX6_shoot_77 hl (by decide) rfl (fun ls hl => ?_)
                refine lv_aload_n hx hb dX6_shoot_79 rfl (lv_at hl 2 rfl) ?_
                refine lv_iload_n hx hb dX6_shoot_80 rfl (lv_at hl 1 rfl) ?_
                refine lv_if_ne (tgt := 88) hx hb dX6_shoot_81 (by decide) (fun _ => ?_) (fun c_39 => absurd c_39 (by decide))
                refine lv_iload hx hb dX6_shoot_88 (lv_at hl 0 rfl) ?_
                refine lv_if_eq (tgt := 97) hx hb dX6_shoot_90 (by decide) (fun c_40 => absurd c_40 (by decide)) (fun _ => ?_)
                refine lv_iconst (v := 0) hx hb dX6_shoot_93 (by decide) ?_
                refine lv_goto (tgt := 98) hx hb dX6_shoot_94 (by decide) ?_
                have hPc := hP.sub (ws' := [((q 0), .inr (6, [.ref (q 1), .ref (q 2), .int on, .int hm, .int aw, .int tk, .ref (q 3), .ref (q 4), .ref (q 5), .int (nI sn), .ref (q 6), .ref (q 7), .ref (q 8), .ref (q 9), .int (nI kn), .ref (q 10), .ref (q 11), .ref (q 12), .ref (q 13), .ref (q 14), .ref (q 15), .ref (q 16), .ref (q 17), .int th]))]) [0] rfl
                have hDc := hD.sub (ws' := [((q 0), .inr (6, [.ref (q 1), .ref (q 2), .int on, .int hm, .int aw, .int tk, .ref (q 3), .ref (q 4), .ref (q 5), .int (nI sn), .ref (q 6), .ref (q 7), .ref (q 8), .ref (q 9), .int (nI kn), .ref (q 10), .ref (q 11), .ref (q 12), .ref (q 13), .ref (q 14), .ref (q 15), .ref (q 16), .ref (q 17), .int th]))]) [0] (by decide) rfl
                have hFc := va_free (wc := [((q 0), .inr (6, [.ref (q 1), .ref (q 2), .int on, .int hm, .int aw, .int tk, .ref (q 3), .ref (q 4), .ref (q 5), .int (nI sn), .ref (q 6), .ref (q 7), .ref (q 8), .ref (q 9), .int (nI kn), .ref (q 10), .ref (q 11), .ref (q 12), .ref (q 13), .ref (q 14), .ref (q 15), .ref (q 16), .ref (q 17), .int th]))]) hD hS hA [0] rfl
                refine va_calli (va_runV (As := [.int 0]) (rest := []) ⟨hx, hb, hml, hown, hts⟩ (c_X6_fails l D cI cZ cJ cA H.size q on hm aw tk sn kn th 0) (cwV 1 hts gX6_shoot_X6_fails rfl rfl rfl (by decide +kernel) ⟨Nat.le_of_ble_eq_true rfl, Nat.le_of_ble_eq_true rfl⟩) ⟨pcW_bl, va_recv hK hPc (ci := 6) (q0 := 0) rfl rfl, fun U hU hW => ⟨rfl, by rw [hU], by rw [hU]; exact hPc, va_K.moved hW.alike hK, hDc.weaken (fun _ _ _ _ => trivial)⟩⟩ rfl rfl hl.1 rfl (lv_room (Nat.le_of_ble_eq_true rfl)) dX6_shoot_98 ⟨Nat.le_of_ble_eq_true rfl, Nat.le_of_ble_eq_true rfl⟩) hS (fun q _ h => hFc q h) hFc (fun r_41 u t H locs ht hvm hw hB hz1 hk1 hS => ?_)
                try dsimp only at hw
                obtain ⟨u0_41, rfl⟩ : ∃ z, z = u := ⟨_, rfl⟩
                obtain ⟨hr_41, hu0_41⟩ := hw
                obtain ⟨hP1, hK1, hD1⟩ := hB
                rw [ht] at hP1
                obtain ⟨hP, hD⟩ := va_join (wr := [((q 3), .inl (cI, 6, .inl ce)), ((q 5), .inl (cI, 6, .inl la)), ((q 6), .inl (cI, 100, .inl sa)), ((q 7), .inl (cI, 100, .inl sb)), ((q 8), .inl (cI, 100, .inl sc)), ((q 9), .inl (cI, 100, .inl sd))]) (w1 := [((q 0), .inr (6, [.ref (q 1), .ref (q 2), .int on, .int hm, .int aw, .int tk, .ref (q 3), .ref (q 4), .ref (q 5), .int (nI sn), .ref (q 6), .ref (q 7), .ref (q 8), .ref (q 9), .int (nI kn), .ref (q 10), .ref (q 11), .ref (q 12), .ref (q 13), .ref (q 14), .ref (q 15), .ref (q 16), .ref (q 17), .int u0_41]))]) hP hD [0] [1, 2, 3, 4, 5, 6] rfl rfl (by decide) (by decide) hk1 hFc hP1 hD1
                obtain rfl := hu0_41.symm
                have hP : va_P D vwCl [((q 3), .inl (cI, 6, .inl ce)), ((q 5), .inl (cI, 6, .inl la)), ((q 6), .inl (cI, 100, .inl sa)), ((q 7), .inl (cI, 100, .inl sb)), ((q 8), .inl (cI, 100, .inl sc)), ((q 9), .inl (cI, 100, .inl sd)), ((q 0), .inr (6, [.ref (q 1), .ref (q 2), .int on, .int hm, .int aw, .int tk, .ref (q 3), .ref (q 4), .ref (q 5), .int (nI sn), .ref (q 6), .ref (q 7), .ref (q 8), .ref (q 9), .int (nI kn), .ref (q 10), .ref (q 11), .ref (q 12), .ref (q 13), .ref (q 14), .ref (q 15), .ref (q 16), .ref (q 17), .int 0]))] H := hP
                have hD : va_D A [((q 3), .inl (cI, 6, .inl ce)), ((q 5), .inl (cI, 6, .inl la)), ((q 6), .inl (cI, 100, .inl sa)), ((q 7), .inl (cI, 100, .inl sb)), ((q 8), .inl (cI, 100, .inl sc)), ((q 9), .inl (cI, 100, .inl sd)), ((q 0), .inr (6, [.ref (q 1), .ref (q 2), .int on, .int hm, .int aw, .int tk, .ref (q 3), .ref (q 4), .ref (q 5), .int (nI sn), .ref (q 6), .ref (q 7), .ref (q 8), .ref (q 9), .int (nI kn), .ref (q 10), .ref (q 11), .ref (q 12), .ref (q 13), .ref (q 14), .ref (q 15), .ref (q 16), .ref (q 17), .int 0]))] := hD
                obtain rfl := hr_41.symm
                refine W.widen (k := 0) (n := 0) (Nat.le_refl _) (Nat.le_refl _) ?_
                refine tp_eq (y := 0) rfl ?_
                refine lv_if_eq (tgt := 106) hx hb dX6_shoot_101 (by decide) (fun _ => ?_) (fun c_42 => absurd (by decide) c_42)
                refine lv_aload_n hx hb dX6_shoot_106 rfl (lv_at hl 2 rfl) ?_
                refine va_get (D := D) (ci := 6) (v := .ref (q 6)) (C := RX6) (T := TX6) (N := 24) hx hb hts hi_X6 hown hK hP 6 rfl rfl 10 (by decide) hf_26 (fun _ h9 => h9) rfl dX6_shoot_107 ?_
                refine lv_aload_n hx hb dX6_shoot_110 rfl (lv_at hl 2 rfl) ?_
                refine va_get (D := D) (ci := 6) (v := .int (nI sn)) (C := RX6) (T := TX6) (N := 24) hx hb hts hi_X6 hown hK hP 6 rfl rfl 9 (by decide) hf_110 (fun _ h9 => h9) rfl dX6_shoot_111 ?_
                refine lv_iload_n hx hb dX6_shoot_114 rfl (lv_at hl 3 rfl) ?_
                refine va_iast hx hb hK hP hD hS 2 0 rfl rfl (vp_in_nI (n := sn) (by omega) (by decide)) dX6_shoot_115 (fun H locs hP hD hS => ?_)
                rw [nI_clamp (n := sn) (by omega)] at hP hD
                have hP : va_P D vwCl [((q 3), .inl (cI, 6, .inl ce)), ((q 5), .inl (cI, 6, .inl la)), ((q 6), .inl (cI, 100, .inl (upd sa sn p1))), ((q 7), .inl (cI, 100, .inl sb)), ((q 8), .inl (cI, 100, .inl sc)), ((q 9), .inl (cI, 100, .inl sd)), ((q 0), .inr (6, [.ref (q 1), .ref (q 2), .int on, .int hm, .int aw, .int tk, .ref (q 3), .ref (q 4), .ref (q 5), .int (nI sn), .ref (q 6), .ref (q 7), .ref (q 8), .ref (q 9), .int (nI kn), .ref (q 10), .ref (q 11), .ref (q 12), .ref (q 13), .ref (q 14), .ref (q 15), .ref (q 16), .ref (q 17), .int 0]))] H := hP
                have hD : va_D A [((q 3), .inl (cI, 6, .inl ce)), ((q 5), .inl (cI, 6, .inl la)), ((q 6), .inl (cI, 100, .inl (upd sa sn p1))), ((q 7), .inl (cI, 100, .inl sb)), ((q 8), .inl (cI, 100, .inl sc)), ((q 9), .inl (cI, 100, .inl sd)), ((q 0), .inr (6, [.ref (q 1), .ref (q 2), .int on, .int hm, .int aw, .int tk, .ref (q 3), .ref (q 4), .ref (q 5), .int (nI sn), .ref (q 6), .ref (q 7), .ref (q 8), .ref (q 9), .int (nI kn), .ref (q 10), .ref (q 11), .ref (q 12), .ref (q 13), .ref (q 14), .ref (q 15), .ref (q 16), .ref (q 17), .int 0]))] := hD
                refine lv_aload_n hx hb dX6_shoot_116 rfl (lv_at hl 2 rfl) ?_
                refine va_get (D := D) (ci := 6) (v := .ref (q 7)) (C := RX6) (T := TX6) (N := 24) hx hb hts hi_X6 hown hK hP 6 rfl rfl 11 (by decide) hf_29 (fun _ h9 => h9) rfl dX6_shoot_117 ?_
                refine lv_aload_n hx hb dX6_shoot_120 rfl (lv_at hl 2 rfl) ?_
                refine va_get (D := D) (ci := 6) (v := .int (nI sn)) (C := RX6) (T := TX6) (N := 24) hx hb hts hi_X6 hown hK hP 6 rfl rfl 9 (by decide) hf_110 (fun _ h9 => h9) rfl dX6_shoot_121 ?_
                refine lv_aload_n hx hb dX6_shoot_124 rfl (lv_at hl 2 rfl) ?_
                refine va_get (D := D) (ci := 6) (v := .ref (q 3)) (C := RX6) (T := TX6) (N := 24) hx hb hts hi_X6 hown hK hP 6 rfl rfl 6 (by decide) hf_17 (fun _ h9 => h9) rfl dX6_shoot_125 ?_
                refine lv_iload_n hx hb dX6_shoot_128 rfl (lv_at hl 3 rfl) ?_
                refine va_iald hx hb hK hP 0 0 rfl rfl (by assumption) dX6_shoot_129 ?_
                refine va_iast hx hb hK hP hD hS 3 0 rfl rfl (vp_in_nI (n := sn) (by omega) (by decide)) dX6_shoot_130 (fun H locs hP hD hS => ?_)
                rw [nI_clamp (n := sn) (by omega)] at hP hD
                have hP : va_P D vwCl [((q 3), .inl (cI, 6, .inl ce)), ((q 5), .inl (cI, 6, .inl la)), ((q 6), .inl (cI, 100, .inl (upd sa sn p1))), ((q 7), .inl (cI, 100, .inl (upd sb sn (ce p1.toNatClampNeg)))), ((q 8), .inl (cI, 100, .inl sc)), ((q 9), .inl (cI, 100, .inl sd)), ((q 0), .inr (6, [.ref (q 1), .ref (q 2), .int on, .int hm, .int aw, .int tk, .ref (q 3), .ref (q 4), .ref (q 5), .int (nI sn), .ref (q 6), .ref (q 7), .ref (q 8), .ref (q 9), .int (nI kn), .ref (q 10), .ref (q 11), .ref (q 12), .ref (q 13), .ref (q 14), .ref (q 15), .ref (q 16), .ref (q 17), .int 0]))] H := hP
                have hD : va_D A [((q 3), .inl (cI, 6, .inl ce)), ((q 5), .inl (cI, 6, .inl la)), ((q 6), .inl (cI, 100, .inl (upd sa sn p1))), ((q 7), .inl (cI, 100, .inl (upd sb sn (ce p1.toNatClampNeg)))), ((q 8), .inl (cI, 100, .inl sc)), ((q 9), .inl (cI, 100, .inl sd)), ((q 0), .inr (6, [.ref (q 1), .ref (q 2), .int on, .int hm, .int aw, .int tk, .ref (q 3), .ref (q 4), .ref (q 5), .int (nI sn), .ref (q 6), .ref (q 7), .ref (q 8), .ref (q 9), .int (nI kn), .ref (q 10), .ref (q 11), .ref (q 12), .ref (q 13), .ref (q 14), .ref (q 15), .ref (q 16), .ref (q 17), .int 0]))] := hD
                refine lv_aload_n hx hb dX6_shoot_131 rfl (lv_at hl 2 rfl) ?_
                refine va_get (D := D) (ci := 6) (v := .ref (q 8)) (C := RX6) (T := TX6) (N := 24) hx hb hts hi_X6 hown hK hP 6 rfl rfl 12 (by decide) hf_32 (fun _ h9 => h9) rfl dX6_shoot_132 ?_
                refine lv_aload_n hx hb dX6_shoot_135 rfl (lv_at hl 2 rfl) ?_
                refine va_get (D := D) (ci := 6) (v := .int (nI sn)) (C := RX6) (T := TX6) (N := 24) hx hb hts hi_X6 hown hK hP 6 rfl rfl 9 (by decide) hf_110 (fun _ h9 => h9) rfl dX6_shoot_136 ?_
                refine lv_iload_n hx hb dX6_shoot_139 rfl (lv_at hl 4 rfl) ?_
                refine va_iast hx hb hK hP hD hS 4 0 rfl rfl (vp_in_nI (n := sn) (by omega) (by decide)) dX6_shoot_140 (fun H locs hP hD hS => ?_)
                rw [nI_clamp (n := sn) (by omega)] at hP hD
                have hP : va_P D vwCl [((q 3), .inl (cI, 6, .inl ce)), ((q 5), .inl (cI, 6, .inl la)), ((q 6), .inl (cI, 100, .inl (upd sa sn p1))), ((q 7), .inl (cI, 100, .inl (upd sb sn (ce p1.toNatClampNeg)))), ((q 8), .inl (cI, 100, .inl (upd sc sn p2))), ((q 9), .inl (cI, 100, .inl sd)), ((q 0), .inr (6, [.ref (q 1), .ref (q 2), .int on, .int hm, .int aw, .int tk, .ref (q 3), .ref (q 4), .ref (q 5), .int (nI sn), .ref (q 6), .ref (q 7), .ref (q 8), .ref (q 9), .int (nI kn), .ref (q 10), .ref (q 11), .ref (q 12), .ref (q 13), .ref (q 14), .ref (q 15), .ref (q 16), .ref (q 17), .int 0]))] H := hP
                have hD : va_D A [((q 3), .inl (cI, 6, .inl ce)), ((q 5), .inl (cI, 6, .inl la)), ((q 6), .inl (cI, 100, .inl (upd sa sn p1))), ((q 7), .inl (cI, 100, .inl (upd sb sn (ce p1.toNatClampNeg)))), ((q 8), .inl (cI, 100, .inl (upd sc sn p2))), ((q 9), .inl (cI, 100, .inl sd)), ((q 0), .inr (6, [.ref (q 1), .ref (q 2), .int on, .int hm, .int aw, .int tk, .ref (q 3), .ref (q 4), .ref (q 5), .int (nI sn), .ref (q 6), .ref (q 7), .ref (q 8), .ref (q 9), .int (nI kn), .ref (q 10), .ref (q 11), .ref (q 12), .ref (q 13), .ref (q 14), .ref (q 15), .ref (q 16), .ref (q 17), .int 0]))] := hD
                refine lv_aload_n hx hb dX6_shoot_141 rfl (lv_at hl 2 rfl) ?_
                refine va_get (D := D) (ci := 6) (v := .ref (q 9)) (C := RX6) (T := TX6) (N := 24) hx hb hts hi_X6 hown hK hP 6 rfl rfl 13 (by decide) hf_35 (fun _ h9 => h9) rfl dX6_shoot_142 ?_
                refine lv_aload_n hx hb dX6_shoot_145 rfl (lv_at hl 2 rfl) ?_
                refine va_get (D := D) (ci := 6) (v := .int (nI sn)) (C := RX6) (T := TX6) (N := 24) hx hb hts hi_X6 hown hK hP 6 rfl rfl 9 (by decide) hf_110 (fun _ h9 => h9) rfl dX6_shoot_146 ?_
                refine lv_aload_n hx hb dX6_shoot_149 rfl (lv_at hl 2 rfl) ?_
                refine va_get (D := D) (ci := 6) (v := .int tk) (C := RX6) (T := TX6) (N := 24) hx hb hts hi_X6 hown hK hP 6 rfl rfl 5 (by decide) hf_107 (fun _ h9 => h9) rfl dX6_shoot_150 ?_
                refine lv_aload_n hx hb dX6_shoot_153 rfl (lv_at hl 2 rfl) ?_
                refine va_get (D := D) (ci := 6) (v := .ref (q 3)) (C := RX6) (T := TX6) (N := 24) hx hb hts hi_X6 hown hK hP 6 rfl rfl 6 (by decide) hf_17 (fun _ h9 => h9) rfl dX6_shoot_154 ?_
                refine lv_iload_n hx hb dX6_shoot_157 rfl (lv_at hl 3 rfl) ?_
                refine va_iald hx hb hK hP 0 0 rfl rfl (by assumption) dX6_shoot_158 ?_
                refine lv_iload_n hx hb dX6_shoot_159 rfl (lv_at hl 4 rfl) ?_
                have hPc := hP.sub (ws' := []) [] rfl
                refine va_calli (va_runS (As := [.int (ce p1.toNatClampNeg), .int p2]) (rest := [.int tk, .int (nI sn), .ref (q 9)]) ⟨hx, hb, hml, hown, hts⟩ (c_X6_apart l D cI cZ cJ cA H.size (ce p1.toNatClampNeg) p2) (va_cwS 2 hts gX6_shoot_X6_apart rfl rfl rfl (by decide +kernel) ⟨Nat.le_of_ble_eq_true rfl, Nat.le_of_ble_eq_true rfl⟩) ⟨pcR_bl, fun U hU hW => ⟨rfl, by rw [hU], by rw [hU]; exact hPc, va_K.moved hW.alike hK⟩⟩ rfl rfl hl.1 rfl (lv_room (Nat.le_of_ble_eq_true rfl)) dX6_shoot_160 ⟨Nat.le_of_ble_eq_true rfl, Nat.le_of_ble_eq_true rfl⟩) hS (fun _ h1 h2 => absurd h1 (Nat.not_lt.mpr h2)) (rd_free hS hA) (fun r_43 u t H locs ht hvm hw hB hz1 hk1 hS => ?_)
                try dsimp only at hw
                have hr_43 := hw
                have hP := rd_P hP hk1
                obtain rfl := hr_43.symm
                refine W.widen (k := 0) (n := 0) (Nat.le_refl _) (Nat.le_refl _) ?_
                refine lv_iconst (v := 3) hx hb dX6_shoot_163 (by decide) ?_
                refine lv_iadd hx hb dX6_shoot_164 ?_
                refine lv_iconst (v := 4) hx hb dX6_shoot_165 (by decide) ?_
                refine lv_idiv hx hb dX6_shoot_166 (by decide) ?_
                refine lv_iadd hx hb dX6_shoot_167 ?_
                refine va_iast hx hb hK hP hD hS 5 0 rfl rfl (vp_in_nI (n := sn) (by omega) (by decide)) dX6_shoot_168 (fun H locs hP hD hS => ?_)
                rw [nI_clamp (n := sn) (by omega)] at hP hD
                have hP : va_P D vwCl [((q 3), .inl (cI, 6, .inl ce)), ((q 5), .inl (cI, 6, .inl la)), ((q 6), .inl (cI, 100, .inl (upd sa sn p1))), ((q 7), .inl (cI, 100, .inl (upd sb sn (ce p1.toNatClampNeg)))), ((q 8), .inl (cI, 100, .inl (upd sc sn p2))), ((q 9), .inl (cI, 100, .inl (upd sd sn (tk + (((f_X6_apart (ce p1.toNatClampNeg) p2) + 3) / 4))))), ((q 0), .inr (6, [.ref (q 1), .ref (q 2), .int on, .int hm, .int aw, .int tk, .ref (q 3), .ref (q 4), .ref (q 5), .int (nI sn), .ref (q 6), .ref (q 7), .ref (q 8), .ref (q 9), .int (nI kn), .ref (q 10), .ref (q 11), .ref (q 12), .ref (q 13), .ref (q 14), .ref (q 15), .ref (q 16), .ref (q 17), .int 0]))] H := hP
                have hD : va_D A [((q 3), .inl (cI, 6, .inl ce)), ((q 5), .inl (cI, 6, .inl la)), ((q 6), .inl (cI, 100, .inl (upd sa sn p1))), ((q 7), .inl (cI, 100, .inl (upd sb sn (ce p1.toNatClampNeg)))), ((q 8), .inl (cI, 100, .inl (upd sc sn p2))), ((q 9), .inl (cI, 100, .inl (upd sd sn (tk + (((f_X6_apart (ce p1.toNatClampNeg) p2) + 3) / 4))))), ((q 0), .inr (6, [.ref (q 1), .ref (q 2), .int on, .int hm, .int aw, .int tk, .ref (q 3), .ref (q 4), .ref (q 5), .int (nI sn), .ref (q 6), .ref (q 7), .ref (q 8), .ref (q 9), .int (nI kn), .ref (q 10), .ref (q 11), .ref (q 12), .ref (q 13), .ref (q 14), .ref (q 15), .ref (q 16), .ref (q 17), .int 0]))] := hD
                refine lv_aload_n hx hb dX6_shoot_169 rfl (lv_at hl 2 rfl) ?_
                refine va_get (D := D) (ci := 6) (v := .ref (q 5)) (C := RX6) (T := TX6) (N := 24) hx hb hts hi_X6 hown hK hP 6 rfl rfl 8 (by decide) hf_23 (fun _ h9 => h9) rfl dX6_shoot_170 ?_
                refine lv_iload_n hx hb dX6_shoot_173 rfl (lv_at hl 3 rfl) ?_
                refine lv_aload_n hx hb dX6_shoot_174 rfl (lv_at hl 2 rfl) ?_
                refine va_get (D := D) (ci := 6) (v := .int tk) (C := RX6) (T := TX6) (N := 24) hx hb hts hi_X6 hown hK hP 6 rfl rfl 5 (by decide) hf_107 (fun _ h9 => h9) rfl dX6_shoot_175 ?_
                refine va_iast hx hb hK hP hD hS 1 0 rfl rfl (by assumption) dX6_shoot_178 (fun H locs hP hD hS => ?_)
                have hP : va_P D vwCl [((q 3), .inl (cI, 6, .inl ce)), ((q 5), .inl (cI, 6, .inl (upd la p1.toNatClampNeg tk))), ((q 6), .inl (cI, 100, .inl (upd sa sn p1))), ((q 7), .inl (cI, 100, .inl (upd sb sn (ce p1.toNatClampNeg)))), ((q 8), .inl (cI, 100, .inl (upd sc sn p2))), ((q 9), .inl (cI, 100, .inl (upd sd sn (tk + (((f_X6_apart (ce p1.toNatClampNeg) p2) + 3) / 4))))), ((q 0), .inr (6, [.ref (q 1), .ref (q 2), .int on, .int hm, .int aw, .int tk, .ref (q 3), .ref (q 4), .ref (q 5), .int (nI sn), .ref (q 6), .ref (q 7), .ref (q 8), .ref (q 9), .int (nI kn), .ref (q 10), .ref (q 11), .ref (q 12), .ref (q 13), .ref (q 14), .ref (q 15), .ref (q 16), .ref (q 17), .int 0]))] H := hP
                have hD : va_D A [((q 3), .inl (cI, 6, .inl ce)), ((q 5), .inl (cI, 6, .inl (upd la p1.toNatClampNeg tk))), ((q 6), .inl (cI, 100, .inl (upd sa sn p1))), ((q 7), .inl (cI, 100, .inl (upd sb sn (ce p1.toNatClampNeg)))), ((q 8), .inl (cI, 100, .inl (upd sc sn p2))), ((q 9), .inl (cI, 100, .inl (upd sd sn (tk + (((f_X6_apart (ce p1.toNatClampNeg) p2) + 3) / 4))))), ((q 0), .inr (6, [.ref (q 1), .ref (q 2), .int on, .int hm, .int aw, .int tk, .ref (q 3), .ref (q 4), .ref (q 5), .int (nI sn), .ref (q 6), .ref (q 7), .ref (q 8), .ref (q 9), .int (nI kn), .ref (q 10), .ref (q 11), .ref (q 12), .ref (q 13), .ref (q 14), .ref (q 15), .ref (q 16), .ref (q 17), .int 0]))] := hD
                refine lv_aload_n hx hb dX6_shoot_179 rfl (lv_at hl 2 rfl) ?_
                refine lv_dup hx hb dX6_shoot_180 rfl ?_
                refine va_get (D := D) (ci := 6) (v := .int (nI sn)) (C := RX6) (T := TX6) (N := 24) hx hb hts hi_X6 hown hK hP 6 rfl rfl 9 (by decide) hf_110 (fun _ h9 => h9) rfl dX6_shoot_181 ?_
                refine lv_iconst (v := 1) hx hb dX6_shoot_184 (by decide) ?_
                refine lv_iadd hx hb dX6_shoot_185 ?_
                refine tp_eq (y := nI (sn + 1)) (nI_1 sn) ?_
                refine va_put (D := D) (ci := 6) (v := .int (nI (sn + 1))) (ty := .int) (C := RX6) (T := TX6) (N := 24) hx hb hts hi_X6 tyX6 tyX6_ok nmX6 hown hK hP hD hS 6 rfl rfl 9 (by decide) hf_110 (fun _ h9 => h9) rfl (by decide +kernel) rfl rfl (Nat.le_of_ble_eq_true rfl) dX6_shoot_186 (fun H locs hP hD hS => ?_)
                have hP : va_P D vwCl [((q 3), .inl (cI, 6, .inl ce)), ((q 5), .inl (cI, 6, .inl (upd la p1.toNatClampNeg tk))), ((q 6), .inl (cI, 100, .inl (upd sa sn p1))), ((q 7), .inl (cI, 100, .inl (upd sb sn (ce p1.toNatClampNeg)))), ((q 8), .inl (cI, 100, .inl (upd sc sn p2))), ((q 9), .inl (cI, 100, .inl (upd sd sn (tk + (((f_X6_apart (ce p1.toNatClampNeg) p2) + 3) / 4))))), ((q 0), .inr (6, [.ref (q 1), .ref (q 2), .int on, .int hm, .int aw, .int tk, .ref (q 3), .ref (q 4), .ref (q 5), .int (nI (sn + 1)), .ref (q 6), .ref (q 7), .ref (q 8), .ref (q 9), .int (nI kn), .ref (q 10), .ref (q 11), .ref (q 12), .ref (q 13), .ref (q 14), .ref (q 15), .ref (q 16), .ref (q 17), .int 0]))] H := hP
                have hD : va_D A [((q 3), .inl (cI, 6, .inl ce)), ((q 5), .inl (cI, 6, .inl (upd la p1.toNatClampNeg tk))), ((q 6), .inl (cI, 100, .inl (upd sa sn p1))), ((q 7), .inl (cI, 100, .inl (upd sb sn (ce p1.toNatClampNeg)))), ((q 8), .inl (cI, 100, .inl (upd sc sn p2))), ((q 9), .inl (cI, 100, .inl (upd sd sn (tk + (((f_X6_apart (ce p1.toNatClampNeg) p2) + 3) / 4))))), ((q 0), .inr (6, [.ref (q 1), .ref (q 2), .int on, .int hm, .int aw, .int tk, .ref (q 3), .ref (q 4), .ref (q 5), .int (nI (sn + 1)), .ref (q 6), .ref (q 7), .ref (q 8), .ref (q 9), .int (nI kn), .ref (q 10), .ref (q 11), .ref (q 12), .ref (q 13), .ref (q 14), .ref (q 15), .ref (q 16), .ref (q 17), .int 0]))] := hD
                refine lv_aload_n hx hb dX6_shoot_189 rfl (lv_at hl 2 rfl) ?_
                refine va_get (D := D) (ci := 6) (v := .ref (q 9)) (C := RX6) (T := TX6) (N := 24) hx hb hts hi_X6 hown hK hP 6 rfl rfl 13 (by decide) hf_35 (fun _ h9 => h9) rfl dX6_shoot_190 ?_
                refine lv_aload_n hx hb dX6_shoot_193 rfl (lv_at hl 2 rfl) ?_
                refine va_get (D := D) (ci := 6) (v := .int (nI (sn + 1))) (C := RX6) (T := TX6) (N := 24) hx hb hts hi_X6 hown hK hP 6 rfl rfl 9 (by decide) hf_110 (fun _ h9 => h9) rfl dX6_shoot_194 ?_
                refine lv_iconst (v := 1) hx hb dX6_shoot_197 (by decide) ?_
                refine lv_isub hx hb dX6_shoot_198 ?_
                refine tp_eq (y := nI sn) (nI_pred sn) ?_
                refine va_iald hx hb hK hP 5 0 rfl rfl (vp_in_nI (n := sn) (by omega) (by decide)) dX6_shoot_199 ?_
                refine tp_eq (y := (upd sd sn (tk + (((f_X6_apart (ce p1.toNatClampNeg) p2) + 3) / 4))) sn) (by rw [nI_clamp (n := sn) (by omega)]) ?_
                have hP9 := hP.sub (ws' := [((q 0), .inr (6, [.ref (q 1), .ref (q 2), .int on, .int hm, .int aw, .int tk, .ref (q 3), .ref (q 4), .ref (q 5), .int (nI (sn + 1)), .ref (q 6), .ref (q 7), .ref (q 8), .ref (q 9), .int (nI kn), .ref (q 10), .ref (q 11), .ref (q 12), .ref (q 13), .ref (q 14), .ref (q 15), .ref (q 16), .ref (q 17), .int 0])), ((q 3), .inl (cI, 6, .inl ce)), ((q 5), .inl (cI, 6, .inl (upd la p1.toNatClampNeg tk))), ((q 6), .inl (cI, 100, .inl (upd sa sn p1))), ((q 7), .inl (cI, 100, .inl (upd sb sn (ce p1.toNatClampNeg)))), ((q 8), .inl (cI, 100, .inl (upd sc sn p2))), ((q 9), .inl (cI, 100, .inl (upd sd sn (tk + (((f_X6_apart (ce p1.toNatClampNeg) p2) + 3) / 4)))))]) [6, 0, 1, 2, 3, 4, 5] rfl
                have hD9 := hD.sub (ws' := [((q 0), .inr (6, [.ref (q 1), .ref (q 2), .int on, .int hm, .int aw, .int tk, .ref (q 3), .ref (q 4), .ref (q 5), .int (nI (sn + 1)), .ref (q 6), .ref (q 7), .ref (q 8), .ref (q 9), .int (nI kn), .ref (q 10), .ref (q 11), .ref (q 12), .ref (q 13), .ref (q 14), .ref (q 15), .ref (q 16), .ref (q 17), .int 0])), ((q 3), .inl (cI, 6, .inl ce)), ((q 5), .inl (cI, 6, .inl (upd la p1.toNatClampNeg tk))), ((q 6), .inl (cI, 100, .inl (upd sa sn p1))), ((q 7), .inl (cI, 100, .inl (upd sb sn (ce p1.toNatClampNeg)))), ((q 8), .inl (cI, 100, .inl (upd sc sn p2))), ((q 9), .inl (cI, 100, .inl (upd sd sn (tk + (((f_X6_apart (ce p1.toNatClampNeg) p2) + 3) / 4)))))]) [6, 0, 1, 2, 3, 4, 5] (by decide) rfl
                -- leaf 7
                refine W.widen (k := 0) (n := 0) (Nat.le_refl _) (Nat.le_refl _) ?_
                exact W.iret (v := (upd sd sn (tk + (((f_X6_apart (ce p1.toNatClampNeg) p2) + 3) / 4))) sn) hx hb hr (fun t ht hW => ⟨⟨(upd sd sn (tk + (((f_X6_apart (ce p1.toNatClampNeg) p2) + 3) / 4))) sn, (upd la p1.toNatClampNeg tk, (sn + 1), upd sa sn p1, upd sb sn (ce p1.toNatClampNeg), upd sc sn p2, upd sd sn (tk + (((f_X6_apart (ce p1.toNatClampNeg) p2) + 3) / 4)), 0), rfl, ⟨(by rw [f_X6_shoot, if_neg c_2, if_neg c_8, if_neg c_14, if_neg c_19, if_neg c_24, if_neg c_29, if_neg c_34]), (by rw [g_la_X6_shoot, if_neg c_2, if_neg c_8, if_neg c_14, if_neg c_19, if_neg c_24, if_neg c_29, if_neg c_34]), (by rw [g_sn_X6_shoot, if_neg c_2, if_neg c_8, if_neg c_14, if_neg c_19, if_neg c_24, if_neg c_29, if_neg c_34]), (by rw [g_sa_X6_shoot, if_neg c_2, if_neg c_8, if_neg c_14, if_neg c_19, if_neg c_24, if_neg c_29, if_neg c_34]), (by rw [g_sb_X6_shoot, if_neg c_2, if_neg c_8, if_neg c_14, if_neg c_19, if_neg c_24, if_neg c_29, if_neg c_34]), (by rw [g_sc_X6_shoot, if_neg c_2, if_neg c_8, if_neg c_14, if_neg c_19, if_neg c_24, if_neg c_29, if_neg c_34]), (by rw [g_sd_X6_shoot, if_neg c_2, if_neg c_8, if_neg c_14, if_neg c_19, if_neg c_24, if_neg c_29, if_neg c_34]), (by rw [g_th_X6_shoot, if_neg c_2, if_neg c_8, if_neg c_14, if_neg c_19, if_neg c_24, if_neg c_29, if_neg c_34])⟩, by rw [ht]; exact hP9, va_K.moved hW.alike hK, hD9⟩, hS.F ht⟩) hS.2.2 dX6_shoot_200

noncomputable def f_X6_tick (on : Int32) (hm : Int32) (aw : Int32) (tk : Int32) (sn : Nat) (kn : Nat) (th : Int32) : Int32 := if on = 0 then (-1) else tk
set_option maxHeartbeats 4000000 in
set_option maxRecDepth 100000 in
theorem c_X6_tick (l : Launch) (D : va_G) (cI cZ cJ cA : ClassId) (sz : Nat) (q : Nat → Nat) (on : Int32) (hm : Int32) (aw : Int32) (tk : Int32) (sn : Nat) (kn : Nat) (th : Int32) : Met l yX6_tick wsX6_tick ({ frames := 0, cells := 0, slots := 0, locals := 0 } : Room) (va_Pc [.ref (q 0)] (pcW D (tyL cI cZ cJ cA) [((q 0), .inr (6, [.ref (q 1), .ref (q 2), .int on, .int hm, .int aw, .int tk, .ref (q 3), .ref (q 4), .ref (q 5), .int (nI sn), .ref (q 6), .ref (q 7), .ref (q 8), .ref (q 9), .int (nI kn), .ref (q 10), .ref (q 11), .ref (q 12), .ref (q 13), .ref (q 14), .ref (q 15), .ref (q 16), .ref (q 17), .int th]))] sz)) (va_Qi (fun (r : Int32) (u : (Int32)) => r = f_X6_tick on hm aw tk sn kn th ∧ u = 0) (fun u t => bcW D (tyL cI cZ cJ cA) (va_A [((q 0), .inr (6, [.ref (q 1), .ref (q 2), .int on, .int hm, .int aw, .int tk, .ref (q 3), .ref (q 4), .ref (q 5), .int (nI sn), .ref (q 6), .ref (q 7), .ref (q 8), .ref (q 9), .int (nI kn), .ref (q 10), .ref (q 11), .ref (q 12), .ref (q 13), .ref (q 14), .ref (q 15), .ref (q 16), .ref (q 17), .int th]))] sz) [((q 0), .inr (6, [.ref (q 1), .ref (q 2), .int on, .int hm, .int aw, .int tk, .ref (q 3), .ref (q 4), .ref (q 5), .int (nI sn), .ref (q 6), .ref (q 7), .ref (q 8), .ref (q 9), .int (nI kn), .ref (q 10), .ref (q 11), .ref (q 12), .ref (q 13), .ref (q 14), .ref (q 15), .ref (q 16), .ref (q 17), .int u]))] t) (va_A [((q 0), .inr (6, [.ref (q 1), .ref (q 2), .int on, .int hm, .int aw, .int tk, .ref (q 3), .ref (q 4), .ref (q 5), .int (nI sn), .ref (q 6), .ref (q 7), .ref (q 8), .ref (q 9), .int (nI kn), .ref (q 10), .ref (q 11), .ref (q 12), .ref (q 13), .ref (q 14), .ref (q 15), .ref (q 16), .ref (q 17), .int th]))] sz)) 0 0 (va_A [((q 0), .inr (6, [.ref (q 1), .ref (q 2), .int on, .int hm, .int aw, .int tk, .ref (q 3), .ref (q 4), .ref (q 5), .int (nI sn), .ref (q 6), .ref (q 7), .ref (q 8), .ref (q 9), .int (nI kn), .ref (q 10), .ref (q 11), .ref (q 12), .ref (q 13), .ref (q 14), .ref (q 15), .ref (q 16), .ref (q 17), .int th]))] sz) := by
  refine Met.ofW (cc := cX6_tick) (maxL := 1) (ret := (some .int)) (by decide) rfl ?_
  intro p e s m args below meth c s₁ B hml hv
  obtain ⟨rfl, hsz, hP, hK, hD0⟩ := hv
  have hx := B.exec
  have hb := B.bytes
  have hr := B.returns
  have hts := atoms_spec (ws := wsX6_tick) B.pre
  have hown : s.vm.findClass RX6 = some m.cls := findClass_of_methodNamed B.named
  have hlocks := B.notSynchronized
  subst hsz
  have hD := hD0.self (sz := s.heap.size)
  generalize hAe : va_A [((q 0), .inr (6, [.ref (q 1), .ref (q 2), .int on, .int hm, .int aw, .int tk, .ref (q 3), .ref (q 4), .ref (q 5), .int (nI sn), .ref (q 6), .ref (q 7), .ref (q 8), .ref (q 9), .int (nI kn), .ref (q 10), .ref (q 11), .ref (q 12), .ref (q 13), .ref (q 14), .ref (q 15), .ref (q 16), .ref (q 17), .int th]))] s.heap.size = A at hD ⊢
  have hA : ∀ q : Nat, s.heap.size ≤ q → A q := fun q h => by rw [← hAe]; exact Or.inr h
  have hAR : ∀ q : Nat, s.heap.size ≤ q → (fun q : Nat => s.heap.size ≤ q) q := fun _ h => h
  have hS : va_S A s.heap s.heap [] := va_S.rf
  have hP : va_P D vwCl [((q 0), .inr (6, [.ref (q 1), .ref (q 2), .int on, .int hm, .int aw, .int tk, .ref (q 3), .ref (q 4), .ref (q 5), .int (nI sn), .ref (q 6), .ref (q 7), .ref (q 8), .ref (q 9), .int (nI kn), .ref (q 10), .ref (q 11), .ref (q 12), .ref (q 13), .ref (q 14), .ref (q 15), .ref (q 16), .ref (q 17), .int th]))] s.heap := hP
  have hl := lv_entry ([.ref (q 0)]) (n := 1) (Nat.le_of_ble_eq_true rfl)
  rw [lg_entry_eq]
  generalize (lg_sl ([.ref (q 0)]) ++ List.replicate (1 - (lg_sl ([.ref (q 0)])).length) Slot.unset).toArray = ls at hl ⊢
  have hl : lv_has ls 1 [(0, .ref (q 0))] := hl
  have hf_62 := hts (.fieldLink RX6 62 "PaintballAtlasModel" "thrown" "I") (by decide +kernel)
  have hi_X6 : ∀ w ∈ wsX60, w ∈ wsX6_tick := by decide +kernel
  have hf_84 := hts (.fieldLink RX6 84 "PaintballAtlasModel" "isOn" "Z") (by decide +kernel)
  have hf_107 := hts (.fieldLink RX6 107 "PaintballAtlasModel" "tick" "I") (by decide +kernel)
  refine lv_aload_n hx hb dX6_tick_0 rfl (lv_at hl 0 rfl) ?_
  refine lv_iconst (v := 0) hx hb dX6_tick_1 (by decide) ?_
  refine va_put (D := D) (ci := 6) (v := .int 0) (ty := .int) (C := RX6) (T := TX6) (N := 24) hx hb hts hi_X6 tyX6 tyX6_ok nmX6 hown hK hP hD hS 0 rfl rfl 23 (by decide) hf_62 (fun _ h9 => h9) rfl (by decide +kernel) rfl rfl (Nat.le_of_ble_eq_true rfl) dX6_tick_2 (fun H locs hP hD hS => ?_)
  have hP : va_P D vwCl [((q 0), .inr (6, [.ref (q 1), .ref (q 2), .int on, .int hm, .int aw, .int tk, .ref (q 3), .ref (q 4), .ref (q 5), .int (nI sn), .ref (q 6), .ref (q 7), .ref (q 8), .ref (q 9), .int (nI kn), .ref (q 10), .ref (q 11), .ref (q 12), .ref (q 13), .ref (q 14), .ref (q 15), .ref (q 16), .ref (q 17), .int 0]))] H := hP
  have hD : va_D A [((q 0), .inr (6, [.ref (q 1), .ref (q 2), .int on, .int hm, .int aw, .int tk, .ref (q 3), .ref (q 4), .ref (q 5), .int (nI sn), .ref (q 6), .ref (q 7), .ref (q 8), .ref (q 9), .int (nI kn), .ref (q 10), .ref (q 11), .ref (q 12), .ref (q 13), .ref (q 14), .ref (q 15), .ref (q 16), .ref (q 17), .int 0]))] := hD
  refine lv_aload_n hx hb dX6_tick_5 rfl (lv_at hl 0 rfl) ?_
  refine va_get (D := D) (ci := 6) (v := .int on) (C := RX6) (T := TX6) (N := 24) hx hb hts hi_X6 hown hK hP 0 rfl rfl 2 (by decide) hf_84 (fun _ h9 => h9) rfl dX6_tick_6 ?_
  refine lv_if_eq (tgt := 19) hx hb dX6_tick_9 (by decide) (fun c_1 => ?_) (fun c_1 => ?_)
  · refine lv_iconst (v := (-1)) hx hb dX6_tick_19 (by decide) ?_
    have hP9 := hP.sub (ws' := [((q 0), .inr (6, [.ref (q 1), .ref (q 2), .int on, .int hm, .int aw, .int tk, .ref (q 3), .ref (q 4), .ref (q 5), .int (nI sn), .ref (q 6), .ref (q 7), .ref (q 8), .ref (q 9), .int (nI kn), .ref (q 10), .ref (q 11), .ref (q 12), .ref (q 13), .ref (q 14), .ref (q 15), .ref (q 16), .ref (q 17), .int 0]))]) [0] rfl
    have hD9 := hD.sub (ws' := [((q 0), .inr (6, [.ref (q 1), .ref (q 2), .int on, .int hm, .int aw, .int tk, .ref (q 3), .ref (q 4), .ref (q 5), .int (nI sn), .ref (q 6), .ref (q 7), .ref (q 8), .ref (q 9), .int (nI kn), .ref (q 10), .ref (q 11), .ref (q 12), .ref (q 13), .ref (q 14), .ref (q 15), .ref (q 16), .ref (q 17), .int 0]))]) [0] (by decide) rfl
    -- leaf 0
    exact W.iret (v := (-1)) hx hb hr (fun t ht hW => ⟨⟨(-1), (0), rfl, ⟨(by rw [f_X6_tick, if_pos c_1]), rfl⟩, by rw [ht]; exact hP9, va_K.moved hW.alike hK, hD9⟩, hS.F ht⟩) hS.2.2 dX6_tick_20
  · refine lv_aload_n hx hb dX6_tick_12 rfl (lv_at hl 0 rfl) ?_
    refine va_get (D := D) (ci := 6) (v := .int tk) (C := RX6) (T := TX6) (N := 24) hx hb hts hi_X6 hown hK hP 0 rfl rfl 5 (by decide) hf_107 (fun _ h9 => h9) rfl dX6_tick_13 ?_
    refine lv_goto (tgt := 20) hx hb dX6_tick_16 (by decide) ?_
    have hP9 := hP.sub (ws' := [((q 0), .inr (6, [.ref (q 1), .ref (q 2), .int on, .int hm, .int aw, .int tk, .ref (q 3), .ref (q 4), .ref (q 5), .int (nI sn), .ref (q 6), .ref (q 7), .ref (q 8), .ref (q 9), .int (nI kn), .ref (q 10), .ref (q 11), .ref (q 12), .ref (q 13), .ref (q 14), .ref (q 15), .ref (q 16), .ref (q 17), .int 0]))]) [0] rfl
    have hD9 := hD.sub (ws' := [((q 0), .inr (6, [.ref (q 1), .ref (q 2), .int on, .int hm, .int aw, .int tk, .ref (q 3), .ref (q 4), .ref (q 5), .int (nI sn), .ref (q 6), .ref (q 7), .ref (q 8), .ref (q 9), .int (nI kn), .ref (q 10), .ref (q 11), .ref (q 12), .ref (q 13), .ref (q 14), .ref (q 15), .ref (q 16), .ref (q 17), .int 0]))]) [0] (by decide) rfl
    -- leaf 1
    exact W.iret (v := tk) hx hb hr (fun t ht hW => ⟨⟨tk, (0), rfl, ⟨(by rw [f_X6_tick, if_neg c_1]), rfl⟩, by rw [ht]; exact hP9, va_K.moved hW.alike hK, hD9⟩, hS.F ht⟩) hS.2.2 dX6_tick_20

noncomputable def f_X6_where (on : Int32) (hm : Int32) (aw : Int32) (tk : Int32) (ce : Nat → Int32) (sn : Nat) (kn : Nat) (th : Int32) (p1 : Int32) : Int32 := if (f_X6_isIn p1 0 5) = 0 then 0 else (if on = 0 then (-2) else ce p1.toNatClampNeg)
noncomputable def g_th_X6_where (on : Int32) (hm : Int32) (aw : Int32) (tk : Int32) (ce : Nat → Int32) (sn : Nat) (kn : Nat) (th : Int32) (p1 : Int32) : Int32 := if (f_X6_isIn p1 0 5) = 0 then 1 else 0
set_option maxHeartbeats 4000000 in
set_option maxRecDepth 100000 in
theorem c_X6_where (l : Launch) (D : va_G) (cI cZ cJ cA : ClassId) (sz : Nat) (q : Nat → Nat) (on : Int32) (hm : Int32) (aw : Int32) (tk : Int32) (ce : Nat → Int32) (sn : Nat) (kn : Nat) (th : Int32) (p1 : Int32) : Met l yX6_where wsX6_where ({ frames := 2, cells := 0, slots := 0, locals := 42 } : Room) (va_Pc [.ref (q 0), .int p1] (pcW D (tyL cI cZ cJ cA) [((q 0), .inr (6, [.ref (q 1), .ref (q 2), .int on, .int hm, .int aw, .int tk, .ref (q 3), .ref (q 4), .ref (q 5), .int (nI sn), .ref (q 6), .ref (q 7), .ref (q 8), .ref (q 9), .int (nI kn), .ref (q 10), .ref (q 11), .ref (q 12), .ref (q 13), .ref (q 14), .ref (q 15), .ref (q 16), .ref (q 17), .int th])), ((q 3), .inl (cI, 6, .inl ce))] sz)) (va_Qi (fun (r : Int32) (u : (Int32)) => r = f_X6_where on hm aw tk ce sn kn th p1 ∧ u = g_th_X6_where on hm aw tk ce sn kn th p1) (fun u t => bcW D (tyL cI cZ cJ cA) (va_A [((q 0), .inr (6, [.ref (q 1), .ref (q 2), .int on, .int hm, .int aw, .int tk, .ref (q 3), .ref (q 4), .ref (q 5), .int (nI sn), .ref (q 6), .ref (q 7), .ref (q 8), .ref (q 9), .int (nI kn), .ref (q 10), .ref (q 11), .ref (q 12), .ref (q 13), .ref (q 14), .ref (q 15), .ref (q 16), .ref (q 17), .int th])), ((q 3), .inl (cI, 6, .inl ce))] sz) [((q 0), .inr (6, [.ref (q 1), .ref (q 2), .int on, .int hm, .int aw, .int tk, .ref (q 3), .ref (q 4), .ref (q 5), .int (nI sn), .ref (q 6), .ref (q 7), .ref (q 8), .ref (q 9), .int (nI kn), .ref (q 10), .ref (q 11), .ref (q 12), .ref (q 13), .ref (q 14), .ref (q 15), .ref (q 16), .ref (q 17), .int u])), ((q 3), .inl (cI, 6, .inl ce))] t) (va_A [((q 0), .inr (6, [.ref (q 1), .ref (q 2), .int on, .int hm, .int aw, .int tk, .ref (q 3), .ref (q 4), .ref (q 5), .int (nI sn), .ref (q 6), .ref (q 7), .ref (q 8), .ref (q 9), .int (nI kn), .ref (q 10), .ref (q 11), .ref (q 12), .ref (q 13), .ref (q 14), .ref (q 15), .ref (q 16), .ref (q 17), .int th])), ((q 3), .inl (cI, 6, .inl ce))] sz)) 0 0 (va_A [((q 0), .inr (6, [.ref (q 1), .ref (q 2), .int on, .int hm, .int aw, .int tk, .ref (q 3), .ref (q 4), .ref (q 5), .int (nI sn), .ref (q 6), .ref (q 7), .ref (q 8), .ref (q 9), .int (nI kn), .ref (q 10), .ref (q 11), .ref (q 12), .ref (q 13), .ref (q 14), .ref (q 15), .ref (q 16), .ref (q 17), .int th])), ((q 3), .inl (cI, 6, .inl ce))] sz) := by
  refine Met.ofW (cc := cX6_where) (maxL := 2) (ret := (some .int)) (by decide) rfl ?_
  intro p e s m args below meth c s₁ B hml hv
  obtain ⟨rfl, hsz, hP, hK, hD0⟩ := hv
  have hx := B.exec
  have hb := B.bytes
  have hr := B.returns
  have hts := atoms_spec (ws := wsX6_where) B.pre
  have hown : s.vm.findClass RX6 = some m.cls := findClass_of_methodNamed B.named
  have hlocks := B.notSynchronized
  subst hsz
  have hD := hD0.self (sz := s.heap.size)
  generalize hAe : va_A [((q 0), .inr (6, [.ref (q 1), .ref (q 2), .int on, .int hm, .int aw, .int tk, .ref (q 3), .ref (q 4), .ref (q 5), .int (nI sn), .ref (q 6), .ref (q 7), .ref (q 8), .ref (q 9), .int (nI kn), .ref (q 10), .ref (q 11), .ref (q 12), .ref (q 13), .ref (q 14), .ref (q 15), .ref (q 16), .ref (q 17), .int th])), ((q 3), .inl (cI, 6, .inl ce))] s.heap.size = A at hD ⊢
  have hA : ∀ q : Nat, s.heap.size ≤ q → A q := fun q h => by rw [← hAe]; exact Or.inr h
  have hAR : ∀ q : Nat, s.heap.size ≤ q → (fun q : Nat => s.heap.size ≤ q) q := fun _ h => h
  have hS : va_S A s.heap s.heap [] := va_S.rf
  have hP : va_P D vwCl [((q 0), .inr (6, [.ref (q 1), .ref (q 2), .int on, .int hm, .int aw, .int tk, .ref (q 3), .ref (q 4), .ref (q 5), .int (nI sn), .ref (q 6), .ref (q 7), .ref (q 8), .ref (q 9), .int (nI kn), .ref (q 10), .ref (q 11), .ref (q 12), .ref (q 13), .ref (q 14), .ref (q 15), .ref (q 16), .ref (q 17), .int th])), ((q 3), .inl (cI, 6, .inl ce))] s.heap := hP
  have hl := lv_entry ([.ref (q 0), .int p1]) (n := 2) (Nat.le_of_ble_eq_true rfl)
  rw [lg_entry_eq]
  generalize (lg_sl ([.ref (q 0), .int p1]) ++ List.replicate (2 - (lg_sl ([.ref (q 0), .int p1])).length) Slot.unset).toArray = ls at hl ⊢
  have hl : lv_has ls 2 [(0, .ref (q 0)), (1, .int p1)] := hl
  have hf_84 := hts (.fieldLink RX6 84 "PaintballAtlasModel" "isOn" "Z") (by decide +kernel)
  have hi_X6 : ∀ w ∈ wsX60, w ∈ wsX6_where := by decide +kernel
  have hf_17 := hts (.fieldLink RX6 17 "PaintballAtlasModel" "where" "[I") (by decide +kernel)
  refine lv_aload_n hx hb dX6_where_0 rfl (lv_at hl 0 rfl) ?_
  refine lv_iload_n hx hb dX6_where_1 rfl (lv_at hl 1 rfl) ?_
  have hPc := hP.sub (ws' := []) [] rfl
  refine va_calli (va_runS (As := [.int p1]) (rest := [.ref (q 0)]) ⟨hx, hb, hml, hown, hts⟩ (c_X6_isPlayer l D cI cZ cJ cA s.heap.size p1) (va_cwS 1 hts gX6_where_X6_isPlayer rfl rfl rfl (by decide +kernel) ⟨Nat.le_of_ble_eq_true rfl, Nat.le_of_ble_eq_true rfl⟩) ⟨pcR_bl, fun U hU hW => ⟨rfl, by rw [hU], by rw [hU]; exact hPc, va_K.moved hW.alike hK⟩⟩ rfl rfl hl.1 rfl (lv_room (Nat.le_of_ble_eq_true rfl)) dX6_where_2 ⟨Nat.le_of_ble_eq_true rfl, Nat.le_of_ble_eq_true rfl⟩) hS (fun _ h1 h2 => absurd h1 (Nat.not_lt.mpr h2)) (rd_free hS hA) (fun r_1 u t H locs ht hvm hw hB hz1 hk1 hS => ?_)
  try dsimp only at hw
  have hr_1 := hw
  have hP := rd_P hP hk1
  obtain rfl := hr_1.symm
  refine W.widen (k := 0) (n := 0) (Nat.le_refl _) (Nat.le_refl _) ?_
  refine lv_if_eq (tgt := 12) hx hb dX6_where_5 (by decide) (fun c_2 => ?_) (fun c_2 => ?_)
  · refine lv_iconst (v := 1) hx hb dX6_where_12 (by decide) ?_
    have hPc := hP.sub (ws' := [((q 0), .inr (6, [.ref (q 1), .ref (q 2), .int on, .int hm, .int aw, .int tk, .ref (q 3), .ref (q 4), .ref (q 5), .int (nI sn), .ref (q 6), .ref (q 7), .ref (q 8), .ref (q 9), .int (nI kn), .ref (q 10), .ref (q 11), .ref (q 12), .ref (q 13), .ref (q 14), .ref (q 15), .ref (q 16), .ref (q 17), .int th]))]) [0] rfl
    have hDc := hD.sub (ws' := [((q 0), .inr (6, [.ref (q 1), .ref (q 2), .int on, .int hm, .int aw, .int tk, .ref (q 3), .ref (q 4), .ref (q 5), .int (nI sn), .ref (q 6), .ref (q 7), .ref (q 8), .ref (q 9), .int (nI kn), .ref (q 10), .ref (q 11), .ref (q 12), .ref (q 13), .ref (q 14), .ref (q 15), .ref (q 16), .ref (q 17), .int th]))]) [0] (by decide) rfl
    have hFc := va_free (wc := [((q 0), .inr (6, [.ref (q 1), .ref (q 2), .int on, .int hm, .int aw, .int tk, .ref (q 3), .ref (q 4), .ref (q 5), .int (nI sn), .ref (q 6), .ref (q 7), .ref (q 8), .ref (q 9), .int (nI kn), .ref (q 10), .ref (q 11), .ref (q 12), .ref (q 13), .ref (q 14), .ref (q 15), .ref (q 16), .ref (q 17), .int th]))]) hD hS hA [0] rfl
    refine va_calli (va_runV (As := [.int 1]) (rest := []) ⟨hx, hb, hml, hown, hts⟩ (c_X6_fails l D cI cZ cJ cA H.size q on hm aw tk sn kn th 1) (cwV 1 hts gX6_where_X6_fails rfl rfl rfl (by decide +kernel) ⟨Nat.le_of_ble_eq_true rfl, Nat.le_of_ble_eq_true rfl⟩) ⟨pcW_bl, va_recv hK hPc (ci := 6) (q0 := 0) rfl rfl, fun U hU hW => ⟨rfl, by rw [hU], by rw [hU]; exact hPc, va_K.moved hW.alike hK, hDc.weaken (fun _ _ _ _ => trivial)⟩⟩ rfl rfl hl.1 rfl (lv_room (Nat.le_of_ble_eq_true rfl)) dX6_where_13 ⟨Nat.le_of_ble_eq_true rfl, Nat.le_of_ble_eq_true rfl⟩) hS (fun q _ h => hFc q h) hFc (fun r_3 u t H locs ht hvm hw hB hz1 hk1 hS => ?_)
    try dsimp only at hw
    obtain ⟨u0_3, rfl⟩ : ∃ z, z = u := ⟨_, rfl⟩
    obtain ⟨hr_3, hu0_3⟩ := hw
    obtain ⟨hP1, hK1, hD1⟩ := hB
    rw [ht] at hP1
    obtain ⟨hP, hD⟩ := va_join (wr := [((q 3), .inl (cI, 6, .inl ce))]) (w1 := [((q 0), .inr (6, [.ref (q 1), .ref (q 2), .int on, .int hm, .int aw, .int tk, .ref (q 3), .ref (q 4), .ref (q 5), .int (nI sn), .ref (q 6), .ref (q 7), .ref (q 8), .ref (q 9), .int (nI kn), .ref (q 10), .ref (q 11), .ref (q 12), .ref (q 13), .ref (q 14), .ref (q 15), .ref (q 16), .ref (q 17), .int u0_3]))]) hP hD [0] [1] rfl rfl (by decide) (by decide) hk1 hFc hP1 hD1
    obtain rfl := hu0_3.symm
    have hP : va_P D vwCl [((q 3), .inl (cI, 6, .inl ce)), ((q 0), .inr (6, [.ref (q 1), .ref (q 2), .int on, .int hm, .int aw, .int tk, .ref (q 3), .ref (q 4), .ref (q 5), .int (nI sn), .ref (q 6), .ref (q 7), .ref (q 8), .ref (q 9), .int (nI kn), .ref (q 10), .ref (q 11), .ref (q 12), .ref (q 13), .ref (q 14), .ref (q 15), .ref (q 16), .ref (q 17), .int 1]))] H := hP
    have hD : va_D A [((q 3), .inl (cI, 6, .inl ce)), ((q 0), .inr (6, [.ref (q 1), .ref (q 2), .int on, .int hm, .int aw, .int tk, .ref (q 3), .ref (q 4), .ref (q 5), .int (nI sn), .ref (q 6), .ref (q 7), .ref (q 8), .ref (q 9), .int (nI kn), .ref (q 10), .ref (q 11), .ref (q 12), .ref (q 13), .ref (q 14), .ref (q 15), .ref (q 16), .ref (q 17), .int 1]))] := hD
    obtain rfl := hr_3.symm
    refine W.widen (k := 0) (n := 0) (Nat.le_refl _) (Nat.le_refl _) ?_
    refine tp_eq (y := 1) rfl ?_
    refine lv_if_eq (tgt := 23) hx hb dX6_where_16 (by decide) (fun c_4 => absurd c_4 (by decide)) (fun _ => ?_)
    refine lv_iconst (v := 0) hx hb dX6_where_19 (by decide) ?_
    refine lv_goto (tgt := 41) hx hb dX6_where_20 (by decide) ?_
    have hP9 := hP.sub (ws' := [((q 0), .inr (6, [.ref (q 1), .ref (q 2), .int on, .int hm, .int aw, .int tk, .ref (q 3), .ref (q 4), .ref (q 5), .int (nI sn), .ref (q 6), .ref (q 7), .ref (q 8), .ref (q 9), .int (nI kn), .ref (q 10), .ref (q 11), .ref (q 12), .ref (q 13), .ref (q 14), .ref (q 15), .ref (q 16), .ref (q 17), .int 1])), ((q 3), .inl (cI, 6, .inl ce))]) [1, 0] rfl
    have hD9 := hD.sub (ws' := [((q 0), .inr (6, [.ref (q 1), .ref (q 2), .int on, .int hm, .int aw, .int tk, .ref (q 3), .ref (q 4), .ref (q 5), .int (nI sn), .ref (q 6), .ref (q 7), .ref (q 8), .ref (q 9), .int (nI kn), .ref (q 10), .ref (q 11), .ref (q 12), .ref (q 13), .ref (q 14), .ref (q 15), .ref (q 16), .ref (q 17), .int 1])), ((q 3), .inl (cI, 6, .inl ce))]) [1, 0] (by decide) rfl
    -- leaf 0
    refine W.widen (k := 0) (n := 0) (Nat.le_refl _) (Nat.le_refl _) ?_
    exact W.iret (v := 0) hx hb hr (fun t ht hW => ⟨⟨0, (1), rfl, ⟨(by rw [f_X6_where, if_pos c_2]), (by rw [g_th_X6_where, if_pos c_2])⟩, by rw [ht]; exact hP9, va_K.moved hW.alike hK, hD9⟩, hS.F ht⟩) hS.2.2 dX6_where_41
  · have hvc_2 : vp_in p1 6 := isIn_vp (N := 6) c_2
    refine lv_iconst (v := 0) hx hb dX6_where_8 (by decide) ?_
    refine lv_goto (tgt := 13) hx hb dX6_where_9 (by decide) ?_
    have hPc := hP.sub (ws' := [((q 0), .inr (6, [.ref (q 1), .ref (q 2), .int on, .int hm, .int aw, .int tk, .ref (q 3), .ref (q 4), .ref (q 5), .int (nI sn), .ref (q 6), .ref (q 7), .ref (q 8), .ref (q 9), .int (nI kn), .ref (q 10), .ref (q 11), .ref (q 12), .ref (q 13), .ref (q 14), .ref (q 15), .ref (q 16), .ref (q 17), .int th]))]) [0] rfl
    have hDc := hD.sub (ws' := [((q 0), .inr (6, [.ref (q 1), .ref (q 2), .int on, .int hm, .int aw, .int tk, .ref (q 3), .ref (q 4), .ref (q 5), .int (nI sn), .ref (q 6), .ref (q 7), .ref (q 8), .ref (q 9), .int (nI kn), .ref (q 10), .ref (q 11), .ref (q 12), .ref (q 13), .ref (q 14), .ref (q 15), .ref (q 16), .ref (q 17), .int th]))]) [0] (by decide) rfl
    have hFc := va_free (wc := [((q 0), .inr (6, [.ref (q 1), .ref (q 2), .int on, .int hm, .int aw, .int tk, .ref (q 3), .ref (q 4), .ref (q 5), .int (nI sn), .ref (q 6), .ref (q 7), .ref (q 8), .ref (q 9), .int (nI kn), .ref (q 10), .ref (q 11), .ref (q 12), .ref (q 13), .ref (q 14), .ref (q 15), .ref (q 16), .ref (q 17), .int th]))]) hD hS hA [0] rfl
    refine va_calli (va_runV (As := [.int 0]) (rest := []) ⟨hx, hb, hml, hown, hts⟩ (c_X6_fails l D cI cZ cJ cA H.size q on hm aw tk sn kn th 0) (cwV 1 hts gX6_where_X6_fails rfl rfl rfl (by decide +kernel) ⟨Nat.le_of_ble_eq_true rfl, Nat.le_of_ble_eq_true rfl⟩) ⟨pcW_bl, va_recv hK hPc (ci := 6) (q0 := 0) rfl rfl, fun U hU hW => ⟨rfl, by rw [hU], by rw [hU]; exact hPc, va_K.moved hW.alike hK, hDc.weaken (fun _ _ _ _ => trivial)⟩⟩ rfl rfl hl.1 rfl (lv_room (Nat.le_of_ble_eq_true rfl)) dX6_where_13 ⟨Nat.le_of_ble_eq_true rfl, Nat.le_of_ble_eq_true rfl⟩) hS (fun q _ h => hFc q h) hFc (fun r_5 u t H locs ht hvm hw hB hz1 hk1 hS => ?_)
    try dsimp only at hw
    obtain ⟨u0_5, rfl⟩ : ∃ z, z = u := ⟨_, rfl⟩
    obtain ⟨hr_5, hu0_5⟩ := hw
    obtain ⟨hP1, hK1, hD1⟩ := hB
    rw [ht] at hP1
    obtain ⟨hP, hD⟩ := va_join (wr := [((q 3), .inl (cI, 6, .inl ce))]) (w1 := [((q 0), .inr (6, [.ref (q 1), .ref (q 2), .int on, .int hm, .int aw, .int tk, .ref (q 3), .ref (q 4), .ref (q 5), .int (nI sn), .ref (q 6), .ref (q 7), .ref (q 8), .ref (q 9), .int (nI kn), .ref (q 10), .ref (q 11), .ref (q 12), .ref (q 13), .ref (q 14), .ref (q 15), .ref (q 16), .ref (q 17), .int u0_5]))]) hP hD [0] [1] rfl rfl (by decide) (by decide) hk1 hFc hP1 hD1
    obtain rfl := hu0_5.symm
    have hP : va_P D vwCl [((q 3), .inl (cI, 6, .inl ce)), ((q 0), .inr (6, [.ref (q 1), .ref (q 2), .int on, .int hm, .int aw, .int tk, .ref (q 3), .ref (q 4), .ref (q 5), .int (nI sn), .ref (q 6), .ref (q 7), .ref (q 8), .ref (q 9), .int (nI kn), .ref (q 10), .ref (q 11), .ref (q 12), .ref (q 13), .ref (q 14), .ref (q 15), .ref (q 16), .ref (q 17), .int 0]))] H := hP
    have hD : va_D A [((q 3), .inl (cI, 6, .inl ce)), ((q 0), .inr (6, [.ref (q 1), .ref (q 2), .int on, .int hm, .int aw, .int tk, .ref (q 3), .ref (q 4), .ref (q 5), .int (nI sn), .ref (q 6), .ref (q 7), .ref (q 8), .ref (q 9), .int (nI kn), .ref (q 10), .ref (q 11), .ref (q 12), .ref (q 13), .ref (q 14), .ref (q 15), .ref (q 16), .ref (q 17), .int 0]))] := hD
    obtain rfl := hr_5.symm
    refine W.widen (k := 0) (n := 0) (Nat.le_refl _) (Nat.le_refl _) ?_
    refine tp_eq (y := 0) rfl ?_
    refine lv_if_eq (tgt := 23) hx hb dX6_where_16 (by decide) (fun _ => ?_) (fun c_6 => absurd (by decide) c_6)
    refine lv_aload_n hx hb dX6_where_23 rfl (lv_at hl 0 rfl) ?_
    refine va_get (D := D) (ci := 6) (v := .int on) (C := RX6) (T := TX6) (N := 24) hx hb hts hi_X6 hown hK hP 1 rfl rfl 2 (by decide) hf_84 (fun _ h9 => h9) rfl dX6_where_24 ?_
    refine lv_if_eq (tgt := 39) hx hb dX6_where_27 (by decide) (fun c_7 => ?_) (fun c_7 => ?_)
    · refine lv_bipush (v := (-2)) hx hb dX6_where_39 (by decide) ?_
      have hP9 := hP.sub (ws' := [((q 0), .inr (6, [.ref (q 1), .ref (q 2), .int on, .int hm, .int aw, .int tk, .ref (q 3), .ref (q 4), .ref (q 5), .int (nI sn), .ref (q 6), .ref (q 7), .ref (q 8), .ref (q 9), .int (nI kn), .ref (q 10), .ref (q 11), .ref (q 12), .ref (q 13), .ref (q 14), .ref (q 15), .ref (q 16), .ref (q 17), .int 0])), ((q 3), .inl (cI, 6, .inl ce))]) [1, 0] rfl
      have hD9 := hD.sub (ws' := [((q 0), .inr (6, [.ref (q 1), .ref (q 2), .int on, .int hm, .int aw, .int tk, .ref (q 3), .ref (q 4), .ref (q 5), .int (nI sn), .ref (q 6), .ref (q 7), .ref (q 8), .ref (q 9), .int (nI kn), .ref (q 10), .ref (q 11), .ref (q 12), .ref (q 13), .ref (q 14), .ref (q 15), .ref (q 16), .ref (q 17), .int 0])), ((q 3), .inl (cI, 6, .inl ce))]) [1, 0] (by decide) rfl
      -- leaf 1
      refine W.widen (k := 0) (n := 0) (Nat.le_refl _) (Nat.le_refl _) ?_
      exact W.iret (v := (-2)) hx hb hr (fun t ht hW => ⟨⟨(-2), (0), rfl, ⟨(by rw [f_X6_where, if_neg c_2, if_pos c_7]), (by rw [g_th_X6_where, if_neg c_2])⟩, by rw [ht]; exact hP9, va_K.moved hW.alike hK, hD9⟩, hS.F ht⟩) hS.2.2 dX6_where_41
    · refine lv_aload_n hx hb dX6_where_30 rfl (lv_at hl 0 rfl) ?_
      refine va_get (D := D) (ci := 6) (v := .ref (q 3)) (C := RX6) (T := TX6) (N := 24) hx hb hts hi_X6 hown hK hP 1 rfl rfl 6 (by decide) hf_17 (fun _ h9 => h9) rfl dX6_where_31 ?_
      refine lv_iload_n hx hb dX6_where_34 rfl (lv_at hl 1 rfl) ?_
      refine va_iald hx hb hK hP 0 0 rfl rfl (by assumption) dX6_where_35 ?_
      refine lv_goto (tgt := 41) hx hb dX6_where_36 (by decide) ?_
      have hP9 := hP.sub (ws' := [((q 0), .inr (6, [.ref (q 1), .ref (q 2), .int on, .int hm, .int aw, .int tk, .ref (q 3), .ref (q 4), .ref (q 5), .int (nI sn), .ref (q 6), .ref (q 7), .ref (q 8), .ref (q 9), .int (nI kn), .ref (q 10), .ref (q 11), .ref (q 12), .ref (q 13), .ref (q 14), .ref (q 15), .ref (q 16), .ref (q 17), .int 0])), ((q 3), .inl (cI, 6, .inl ce))]) [1, 0] rfl
      have hD9 := hD.sub (ws' := [((q 0), .inr (6, [.ref (q 1), .ref (q 2), .int on, .int hm, .int aw, .int tk, .ref (q 3), .ref (q 4), .ref (q 5), .int (nI sn), .ref (q 6), .ref (q 7), .ref (q 8), .ref (q 9), .int (nI kn), .ref (q 10), .ref (q 11), .ref (q 12), .ref (q 13), .ref (q 14), .ref (q 15), .ref (q 16), .ref (q 17), .int 0])), ((q 3), .inl (cI, 6, .inl ce))]) [1, 0] (by decide) rfl
      -- leaf 2
      refine W.widen (k := 0) (n := 0) (Nat.le_refl _) (Nat.le_refl _) ?_
      exact W.iret (v := ce p1.toNatClampNeg) hx hb hr (fun t ht hW => ⟨⟨ce p1.toNatClampNeg, (0), rfl, ⟨(by rw [f_X6_where, if_neg c_2, if_neg c_7]), (by rw [g_th_X6_where, if_neg c_2])⟩, by rw [ht]; exact hP9, va_K.moved hW.alike hK, hD9⟩, hS.F ht⟩) hS.2.2 dX6_where_41

noncomputable def f_X6_hit (on : Int32) (hm : Int32) (aw : Int32) (tk : Int32) (hi : Nat → Int32) (sn : Nat) (kn : Nat) (th : Int32) (p1 : Int32) : Int32 := if (f_X6_isIn p1 0 5) = 0 then 0 else (if on = 0 then (-1) else hi p1.toNatClampNeg)
noncomputable def g_th_X6_hit (on : Int32) (hm : Int32) (aw : Int32) (tk : Int32) (hi : Nat → Int32) (sn : Nat) (kn : Nat) (th : Int32) (p1 : Int32) : Int32 := if (f_X6_isIn p1 0 5) = 0 then 1 else 0
set_option maxHeartbeats 4000000 in
set_option maxRecDepth 100000 in
theorem c_X6_hit (l : Launch) (D : va_G) (cI cZ cJ cA : ClassId) (sz : Nat) (q : Nat → Nat) (on : Int32) (hm : Int32) (aw : Int32) (tk : Int32) (hi : Nat → Int32) (sn : Nat) (kn : Nat) (th : Int32) (p1 : Int32) : Met l yX6_hit wsX6_hit ({ frames := 2, cells := 0, slots := 0, locals := 42 } : Room) (va_Pc [.ref (q 0), .int p1] (pcW D (tyL cI cZ cJ cA) [((q 0), .inr (6, [.ref (q 1), .ref (q 2), .int on, .int hm, .int aw, .int tk, .ref (q 3), .ref (q 4), .ref (q 5), .int (nI sn), .ref (q 6), .ref (q 7), .ref (q 8), .ref (q 9), .int (nI kn), .ref (q 10), .ref (q 11), .ref (q 12), .ref (q 13), .ref (q 14), .ref (q 15), .ref (q 16), .ref (q 17), .int th])), ((q 4), .inl (cI, 6, .inl hi))] sz)) (va_Qi (fun (r : Int32) (u : (Int32)) => r = f_X6_hit on hm aw tk hi sn kn th p1 ∧ u = g_th_X6_hit on hm aw tk hi sn kn th p1) (fun u t => bcW D (tyL cI cZ cJ cA) (va_A [((q 0), .inr (6, [.ref (q 1), .ref (q 2), .int on, .int hm, .int aw, .int tk, .ref (q 3), .ref (q 4), .ref (q 5), .int (nI sn), .ref (q 6), .ref (q 7), .ref (q 8), .ref (q 9), .int (nI kn), .ref (q 10), .ref (q 11), .ref (q 12), .ref (q 13), .ref (q 14), .ref (q 15), .ref (q 16), .ref (q 17), .int th])), ((q 4), .inl (cI, 6, .inl hi))] sz) [((q 0), .inr (6, [.ref (q 1), .ref (q 2), .int on, .int hm, .int aw, .int tk, .ref (q 3), .ref (q 4), .ref (q 5), .int (nI sn), .ref (q 6), .ref (q 7), .ref (q 8), .ref (q 9), .int (nI kn), .ref (q 10), .ref (q 11), .ref (q 12), .ref (q 13), .ref (q 14), .ref (q 15), .ref (q 16), .ref (q 17), .int u])), ((q 4), .inl (cI, 6, .inl hi))] t) (va_A [((q 0), .inr (6, [.ref (q 1), .ref (q 2), .int on, .int hm, .int aw, .int tk, .ref (q 3), .ref (q 4), .ref (q 5), .int (nI sn), .ref (q 6), .ref (q 7), .ref (q 8), .ref (q 9), .int (nI kn), .ref (q 10), .ref (q 11), .ref (q 12), .ref (q 13), .ref (q 14), .ref (q 15), .ref (q 16), .ref (q 17), .int th])), ((q 4), .inl (cI, 6, .inl hi))] sz)) 0 0 (va_A [((q 0), .inr (6, [.ref (q 1), .ref (q 2), .int on, .int hm, .int aw, .int tk, .ref (q 3), .ref (q 4), .ref (q 5), .int (nI sn), .ref (q 6), .ref (q 7), .ref (q 8), .ref (q 9), .int (nI kn), .ref (q 10), .ref (q 11), .ref (q 12), .ref (q 13), .ref (q 14), .ref (q 15), .ref (q 16), .ref (q 17), .int th])), ((q 4), .inl (cI, 6, .inl hi))] sz) := by
  refine Met.ofW (cc := cX6_hit) (maxL := 2) (ret := (some .int)) (by decide) rfl ?_
  intro p e s m args below meth c s₁ B hml hv
  obtain ⟨rfl, hsz, hP, hK, hD0⟩ := hv
  have hx := B.exec
  have hb := B.bytes
  have hr := B.returns
  have hts := atoms_spec (ws := wsX6_hit) B.pre
  have hown : s.vm.findClass RX6 = some m.cls := findClass_of_methodNamed B.named
  have hlocks := B.notSynchronized
  subst hsz
  have hD := hD0.self (sz := s.heap.size)
  generalize hAe : va_A [((q 0), .inr (6, [.ref (q 1), .ref (q 2), .int on, .int hm, .int aw, .int tk, .ref (q 3), .ref (q 4), .ref (q 5), .int (nI sn), .ref (q 6), .ref (q 7), .ref (q 8), .ref (q 9), .int (nI kn), .ref (q 10), .ref (q 11), .ref (q 12), .ref (q 13), .ref (q 14), .ref (q 15), .ref (q 16), .ref (q 17), .int th])), ((q 4), .inl (cI, 6, .inl hi))] s.heap.size = A at hD ⊢
  have hA : ∀ q : Nat, s.heap.size ≤ q → A q := fun q h => by rw [← hAe]; exact Or.inr h
  have hAR : ∀ q : Nat, s.heap.size ≤ q → (fun q : Nat => s.heap.size ≤ q) q := fun _ h => h
  have hS : va_S A s.heap s.heap [] := va_S.rf
  have hP : va_P D vwCl [((q 0), .inr (6, [.ref (q 1), .ref (q 2), .int on, .int hm, .int aw, .int tk, .ref (q 3), .ref (q 4), .ref (q 5), .int (nI sn), .ref (q 6), .ref (q 7), .ref (q 8), .ref (q 9), .int (nI kn), .ref (q 10), .ref (q 11), .ref (q 12), .ref (q 13), .ref (q 14), .ref (q 15), .ref (q 16), .ref (q 17), .int th])), ((q 4), .inl (cI, 6, .inl hi))] s.heap := hP
  have hl := lv_entry ([.ref (q 0), .int p1]) (n := 2) (Nat.le_of_ble_eq_true rfl)
  rw [lg_entry_eq]
  generalize (lg_sl ([.ref (q 0), .int p1]) ++ List.replicate (2 - (lg_sl ([.ref (q 0), .int p1])).length) Slot.unset).toArray = ls at hl ⊢
  have hl : lv_has ls 2 [(0, .ref (q 0)), (1, .int p1)] := hl
  have hf_84 := hts (.fieldLink RX6 84 "PaintballAtlasModel" "isOn" "Z") (by decide +kernel)
  have hi_X6 : ∀ w ∈ wsX60, w ∈ wsX6_hit := by decide +kernel
  have hf_20 := hts (.fieldLink RX6 20 "PaintballAtlasModel" "hit" "[I") (by decide +kernel)
  refine lv_aload_n hx hb dX6_hit_0 rfl (lv_at hl 0 rfl) ?_
  refine lv_iload_n hx hb dX6_hit_1 rfl (lv_at hl 1 rfl) ?_
  have hPc := hP.sub (ws' := []) [] rfl
  refine va_calli (va_runS (As := [.int p1]) (rest := [.ref (q 0)]) ⟨hx, hb, hml, hown, hts⟩ (c_X6_isPlayer l D cI cZ cJ cA s.heap.size p1) (va_cwS 1 hts gX6_hit_X6_isPlayer rfl rfl rfl (by decide +kernel) ⟨Nat.le_of_ble_eq_true rfl, Nat.le_of_ble_eq_true rfl⟩) ⟨pcR_bl, fun U hU hW => ⟨rfl, by rw [hU], by rw [hU]; exact hPc, va_K.moved hW.alike hK⟩⟩ rfl rfl hl.1 rfl (lv_room (Nat.le_of_ble_eq_true rfl)) dX6_hit_2 ⟨Nat.le_of_ble_eq_true rfl, Nat.le_of_ble_eq_true rfl⟩) hS (fun _ h1 h2 => absurd h1 (Nat.not_lt.mpr h2)) (rd_free hS hA) (fun r_1 u t H locs ht hvm hw hB hz1 hk1 hS => ?_)
  try dsimp only at hw
  have hr_1 := hw
  have hP := rd_P hP hk1
  obtain rfl := hr_1.symm
  refine W.widen (k := 0) (n := 0) (Nat.le_refl _) (Nat.le_refl _) ?_
  refine lv_if_eq (tgt := 12) hx hb dX6_hit_5 (by decide) (fun c_2 => ?_) (fun c_2 => ?_)
  · refine lv_iconst (v := 1) hx hb dX6_hit_12 (by decide) ?_
    have hPc := hP.sub (ws' := [((q 0), .inr (6, [.ref (q 1), .ref (q 2), .int on, .int hm, .int aw, .int tk, .ref (q 3), .ref (q 4), .ref (q 5), .int (nI sn), .ref (q 6), .ref (q 7), .ref (q 8), .ref (q 9), .int (nI kn), .ref (q 10), .ref (q 11), .ref (q 12), .ref (q 13), .ref (q 14), .ref (q 15), .ref (q 16), .ref (q 17), .int th]))]) [0] rfl
    have hDc := hD.sub (ws' := [((q 0), .inr (6, [.ref (q 1), .ref (q 2), .int on, .int hm, .int aw, .int tk, .ref (q 3), .ref (q 4), .ref (q 5), .int (nI sn), .ref (q 6), .ref (q 7), .ref (q 8), .ref (q 9), .int (nI kn), .ref (q 10), .ref (q 11), .ref (q 12), .ref (q 13), .ref (q 14), .ref (q 15), .ref (q 16), .ref (q 17), .int th]))]) [0] (by decide) rfl
    have hFc := va_free (wc := [((q 0), .inr (6, [.ref (q 1), .ref (q 2), .int on, .int hm, .int aw, .int tk, .ref (q 3), .ref (q 4), .ref (q 5), .int (nI sn), .ref (q 6), .ref (q 7), .ref (q 8), .ref (q 9), .int (nI kn), .ref (q 10), .ref (q 11), .ref (q 12), .ref (q 13), .ref (q 14), .ref (q 15), .ref (q 16), .ref (q 17), .int th]))]) hD hS hA [0] rfl
    refine va_calli (va_runV (As := [.int 1]) (rest := []) ⟨hx, hb, hml, hown, hts⟩ (c_X6_fails l D cI cZ cJ cA H.size q on hm aw tk sn kn th 1) (cwV 1 hts gX6_hit_X6_fails rfl rfl rfl (by decide +kernel) ⟨Nat.le_of_ble_eq_true rfl, Nat.le_of_ble_eq_true rfl⟩) ⟨pcW_bl, va_recv hK hPc (ci := 6) (q0 := 0) rfl rfl, fun U hU hW => ⟨rfl, by rw [hU], by rw [hU]; exact hPc, va_K.moved hW.alike hK, hDc.weaken (fun _ _ _ _ => trivial)⟩⟩ rfl rfl hl.1 rfl (lv_room (Nat.le_of_ble_eq_true rfl)) dX6_hit_13 ⟨Nat.le_of_ble_eq_true rfl, Nat.le_of_ble_eq_true rfl⟩) hS (fun q _ h => hFc q h) hFc (fun r_3 u t H locs ht hvm hw hB hz1 hk1 hS => ?_)
    try dsimp only at hw
    obtain ⟨u0_3, rfl⟩ : ∃ z, z = u := ⟨_, rfl⟩
    obtain ⟨hr_3, hu0_3⟩ := hw
    obtain ⟨hP1, hK1, hD1⟩ := hB
    rw [ht] at hP1
    obtain ⟨hP, hD⟩ := va_join (wr := [((q 4), .inl (cI, 6, .inl hi))]) (w1 := [((q 0), .inr (6, [.ref (q 1), .ref (q 2), .int on, .int hm, .int aw, .int tk, .ref (q 3), .ref (q 4), .ref (q 5), .int (nI sn), .ref (q 6), .ref (q 7), .ref (q 8), .ref (q 9), .int (nI kn), .ref (q 10), .ref (q 11), .ref (q 12), .ref (q 13), .ref (q 14), .ref (q 15), .ref (q 16), .ref (q 17), .int u0_3]))]) hP hD [0] [1] rfl rfl (by decide) (by decide) hk1 hFc hP1 hD1
    obtain rfl := hu0_3.symm
    have hP : va_P D vwCl [((q 4), .inl (cI, 6, .inl hi)), ((q 0), .inr (6, [.ref (q 1), .ref (q 2), .int on, .int hm, .int aw, .int tk, .ref (q 3), .ref (q 4), .ref (q 5), .int (nI sn), .ref (q 6), .ref (q 7), .ref (q 8), .ref (q 9), .int (nI kn), .ref (q 10), .ref (q 11), .ref (q 12), .ref (q 13), .ref (q 14), .ref (q 15), .ref (q 16), .ref (q 17), .int 1]))] H := hP
    have hD : va_D A [((q 4), .inl (cI, 6, .inl hi)), ((q 0), .inr (6, [.ref (q 1), .ref (q 2), .int on, .int hm, .int aw, .int tk, .ref (q 3), .ref (q 4), .ref (q 5), .int (nI sn), .ref (q 6), .ref (q 7), .ref (q 8), .ref (q 9), .int (nI kn), .ref (q 10), .ref (q 11), .ref (q 12), .ref (q 13), .ref (q 14), .ref (q 15), .ref (q 16), .ref (q 17), .int 1]))] := hD
    obtain rfl := hr_3.symm
    refine W.widen (k := 0) (n := 0) (Nat.le_refl _) (Nat.le_refl _) ?_
    refine tp_eq (y := 1) rfl ?_
    refine lv_if_eq (tgt := 23) hx hb dX6_hit_16 (by decide) (fun c_4 => absurd c_4 (by decide)) (fun _ => ?_)
    refine lv_iconst (v := 0) hx hb dX6_hit_19 (by decide) ?_
    refine lv_goto (tgt := 40) hx hb dX6_hit_20 (by decide) ?_
    have hP9 := hP.sub (ws' := [((q 0), .inr (6, [.ref (q 1), .ref (q 2), .int on, .int hm, .int aw, .int tk, .ref (q 3), .ref (q 4), .ref (q 5), .int (nI sn), .ref (q 6), .ref (q 7), .ref (q 8), .ref (q 9), .int (nI kn), .ref (q 10), .ref (q 11), .ref (q 12), .ref (q 13), .ref (q 14), .ref (q 15), .ref (q 16), .ref (q 17), .int 1])), ((q 4), .inl (cI, 6, .inl hi))]) [1, 0] rfl
    have hD9 := hD.sub (ws' := [((q 0), .inr (6, [.ref (q 1), .ref (q 2), .int on, .int hm, .int aw, .int tk, .ref (q 3), .ref (q 4), .ref (q 5), .int (nI sn), .ref (q 6), .ref (q 7), .ref (q 8), .ref (q 9), .int (nI kn), .ref (q 10), .ref (q 11), .ref (q 12), .ref (q 13), .ref (q 14), .ref (q 15), .ref (q 16), .ref (q 17), .int 1])), ((q 4), .inl (cI, 6, .inl hi))]) [1, 0] (by decide) rfl
    -- leaf 0
    refine W.widen (k := 0) (n := 0) (Nat.le_refl _) (Nat.le_refl _) ?_
    exact W.iret (v := 0) hx hb hr (fun t ht hW => ⟨⟨0, (1), rfl, ⟨(by rw [f_X6_hit, if_pos c_2]), (by rw [g_th_X6_hit, if_pos c_2])⟩, by rw [ht]; exact hP9, va_K.moved hW.alike hK, hD9⟩, hS.F ht⟩) hS.2.2 dX6_hit_40
  · have hvc_2 : vp_in p1 6 := isIn_vp (N := 6) c_2
    refine lv_iconst (v := 0) hx hb dX6_hit_8 (by decide) ?_
    refine lv_goto (tgt := 13) hx hb dX6_hit_9 (by decide) ?_
    have hPc := hP.sub (ws' := [((q 0), .inr (6, [.ref (q 1), .ref (q 2), .int on, .int hm, .int aw, .int tk, .ref (q 3), .ref (q 4), .ref (q 5), .int (nI sn), .ref (q 6), .ref (q 7), .ref (q 8), .ref (q 9), .int (nI kn), .ref (q 10), .ref (q 11), .ref (q 12), .ref (q 13), .ref (q 14), .ref (q 15), .ref (q 16), .ref (q 17), .int th]))]) [0] rfl
    have hDc := hD.sub (ws' := [((q 0), .inr (6, [.ref (q 1), .ref (q 2), .int on, .int hm, .int aw, .int tk, .ref (q 3), .ref (q 4), .ref (q 5), .int (nI sn), .ref (q 6), .ref (q 7), .ref (q 8), .ref (q 9), .int (nI kn), .ref (q 10), .ref (q 11), .ref (q 12), .ref (q 13), .ref (q 14), .ref (q 15), .ref (q 16), .ref (q 17), .int th]))]) [0] (by decide) rfl
    have hFc := va_free (wc := [((q 0), .inr (6, [.ref (q 1), .ref (q 2), .int on, .int hm, .int aw, .int tk, .ref (q 3), .ref (q 4), .ref (q 5), .int (nI sn), .ref (q 6), .ref (q 7), .ref (q 8), .ref (q 9), .int (nI kn), .ref (q 10), .ref (q 11), .ref (q 12), .ref (q 13), .ref (q 14), .ref (q 15), .ref (q 16), .ref (q 17), .int th]))]) hD hS hA [0] rfl
    refine va_calli (va_runV (As := [.int 0]) (rest := []) ⟨hx, hb, hml, hown, hts⟩ (c_X6_fails l D cI cZ cJ cA H.size q on hm aw tk sn kn th 0) (cwV 1 hts gX6_hit_X6_fails rfl rfl rfl (by decide +kernel) ⟨Nat.le_of_ble_eq_true rfl, Nat.le_of_ble_eq_true rfl⟩) ⟨pcW_bl, va_recv hK hPc (ci := 6) (q0 := 0) rfl rfl, fun U hU hW => ⟨rfl, by rw [hU], by rw [hU]; exact hPc, va_K.moved hW.alike hK, hDc.weaken (fun _ _ _ _ => trivial)⟩⟩ rfl rfl hl.1 rfl (lv_room (Nat.le_of_ble_eq_true rfl)) dX6_hit_13 ⟨Nat.le_of_ble_eq_true rfl, Nat.le_of_ble_eq_true rfl⟩) hS (fun q _ h => hFc q h) hFc (fun r_5 u t H locs ht hvm hw hB hz1 hk1 hS => ?_)
    try dsimp only at hw
    obtain ⟨u0_5, rfl⟩ : ∃ z, z = u := ⟨_, rfl⟩
    obtain ⟨hr_5, hu0_5⟩ := hw
    obtain ⟨hP1, hK1, hD1⟩ := hB
    rw [ht] at hP1
    obtain ⟨hP, hD⟩ := va_join (wr := [((q 4), .inl (cI, 6, .inl hi))]) (w1 := [((q 0), .inr (6, [.ref (q 1), .ref (q 2), .int on, .int hm, .int aw, .int tk, .ref (q 3), .ref (q 4), .ref (q 5), .int (nI sn), .ref (q 6), .ref (q 7), .ref (q 8), .ref (q 9), .int (nI kn), .ref (q 10), .ref (q 11), .ref (q 12), .ref (q 13), .ref (q 14), .ref (q 15), .ref (q 16), .ref (q 17), .int u0_5]))]) hP hD [0] [1] rfl rfl (by decide) (by decide) hk1 hFc hP1 hD1
    obtain rfl := hu0_5.symm
    have hP : va_P D vwCl [((q 4), .inl (cI, 6, .inl hi)), ((q 0), .inr (6, [.ref (q 1), .ref (q 2), .int on, .int hm, .int aw, .int tk, .ref (q 3), .ref (q 4), .ref (q 5), .int (nI sn), .ref (q 6), .ref (q 7), .ref (q 8), .ref (q 9), .int (nI kn), .ref (q 10), .ref (q 11), .ref (q 12), .ref (q 13), .ref (q 14), .ref (q 15), .ref (q 16), .ref (q 17), .int 0]))] H := hP
    have hD : va_D A [((q 4), .inl (cI, 6, .inl hi)), ((q 0), .inr (6, [.ref (q 1), .ref (q 2), .int on, .int hm, .int aw, .int tk, .ref (q 3), .ref (q 4), .ref (q 5), .int (nI sn), .ref (q 6), .ref (q 7), .ref (q 8), .ref (q 9), .int (nI kn), .ref (q 10), .ref (q 11), .ref (q 12), .ref (q 13), .ref (q 14), .ref (q 15), .ref (q 16), .ref (q 17), .int 0]))] := hD
    obtain rfl := hr_5.symm
    refine W.widen (k := 0) (n := 0) (Nat.le_refl _) (Nat.le_refl _) ?_
    refine tp_eq (y := 0) rfl ?_
    refine lv_if_eq (tgt := 23) hx hb dX6_hit_16 (by decide) (fun _ => ?_) (fun c_6 => absurd (by decide) c_6)
    refine lv_aload_n hx hb dX6_hit_23 rfl (lv_at hl 0 rfl) ?_
    refine va_get (D := D) (ci := 6) (v := .int on) (C := RX6) (T := TX6) (N := 24) hx hb hts hi_X6 hown hK hP 1 rfl rfl 2 (by decide) hf_84 (fun _ h9 => h9) rfl dX6_hit_24 ?_
    refine lv_if_eq (tgt := 39) hx hb dX6_hit_27 (by decide) (fun c_7 => ?_) (fun c_7 => ?_)
    · refine lv_iconst (v := (-1)) hx hb dX6_hit_39 (by decide) ?_
      have hP9 := hP.sub (ws' := [((q 0), .inr (6, [.ref (q 1), .ref (q 2), .int on, .int hm, .int aw, .int tk, .ref (q 3), .ref (q 4), .ref (q 5), .int (nI sn), .ref (q 6), .ref (q 7), .ref (q 8), .ref (q 9), .int (nI kn), .ref (q 10), .ref (q 11), .ref (q 12), .ref (q 13), .ref (q 14), .ref (q 15), .ref (q 16), .ref (q 17), .int 0])), ((q 4), .inl (cI, 6, .inl hi))]) [1, 0] rfl
      have hD9 := hD.sub (ws' := [((q 0), .inr (6, [.ref (q 1), .ref (q 2), .int on, .int hm, .int aw, .int tk, .ref (q 3), .ref (q 4), .ref (q 5), .int (nI sn), .ref (q 6), .ref (q 7), .ref (q 8), .ref (q 9), .int (nI kn), .ref (q 10), .ref (q 11), .ref (q 12), .ref (q 13), .ref (q 14), .ref (q 15), .ref (q 16), .ref (q 17), .int 0])), ((q 4), .inl (cI, 6, .inl hi))]) [1, 0] (by decide) rfl
      -- leaf 1
      refine W.widen (k := 0) (n := 0) (Nat.le_refl _) (Nat.le_refl _) ?_
      exact W.iret (v := (-1)) hx hb hr (fun t ht hW => ⟨⟨(-1), (0), rfl, ⟨(by rw [f_X6_hit, if_neg c_2, if_pos c_7]), (by rw [g_th_X6_hit, if_neg c_2])⟩, by rw [ht]; exact hP9, va_K.moved hW.alike hK, hD9⟩, hS.F ht⟩) hS.2.2 dX6_hit_40
    · refine lv_aload_n hx hb dX6_hit_30 rfl (lv_at hl 0 rfl) ?_
      refine va_get (D := D) (ci := 6) (v := .ref (q 4)) (C := RX6) (T := TX6) (N := 24) hx hb hts hi_X6 hown hK hP 1 rfl rfl 7 (by decide) hf_20 (fun _ h9 => h9) rfl dX6_hit_31 ?_
      refine lv_iload_n hx hb dX6_hit_34 rfl (lv_at hl 1 rfl) ?_
      refine va_iald hx hb hK hP 0 0 rfl rfl (by assumption) dX6_hit_35 ?_
      refine lv_goto (tgt := 40) hx hb dX6_hit_36 (by decide) ?_
      have hP9 := hP.sub (ws' := [((q 0), .inr (6, [.ref (q 1), .ref (q 2), .int on, .int hm, .int aw, .int tk, .ref (q 3), .ref (q 4), .ref (q 5), .int (nI sn), .ref (q 6), .ref (q 7), .ref (q 8), .ref (q 9), .int (nI kn), .ref (q 10), .ref (q 11), .ref (q 12), .ref (q 13), .ref (q 14), .ref (q 15), .ref (q 16), .ref (q 17), .int 0])), ((q 4), .inl (cI, 6, .inl hi))]) [1, 0] rfl
      have hD9 := hD.sub (ws' := [((q 0), .inr (6, [.ref (q 1), .ref (q 2), .int on, .int hm, .int aw, .int tk, .ref (q 3), .ref (q 4), .ref (q 5), .int (nI sn), .ref (q 6), .ref (q 7), .ref (q 8), .ref (q 9), .int (nI kn), .ref (q 10), .ref (q 11), .ref (q 12), .ref (q 13), .ref (q 14), .ref (q 15), .ref (q 16), .ref (q 17), .int 0])), ((q 4), .inl (cI, 6, .inl hi))]) [1, 0] (by decide) rfl
      -- leaf 2
      refine W.widen (k := 0) (n := 0) (Nat.le_refl _) (Nat.le_refl _) ?_
      exact W.iret (v := hi p1.toNatClampNeg) hx hb hr (fun t ht hW => ⟨⟨hi p1.toNatClampNeg, (0), rfl, ⟨(by rw [f_X6_hit, if_neg c_2, if_neg c_7]), (by rw [g_th_X6_hit, if_neg c_2])⟩, by rw [ht]; exact hP9, va_K.moved hW.alike hK, hD9⟩, hS.F ht⟩) hS.2.2 dX6_hit_40
