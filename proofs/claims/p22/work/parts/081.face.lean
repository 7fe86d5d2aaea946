noncomputable def k_X5_call (rf : Nat → Int32) (bk : Nat → Int32) (hm : Int32) (aw : Int32) (tk : Int32) (ce : Nat → Int32) (kn : Nat) (ka : Nat → Int32) (kb : Nat → Int32) (kc : Nat → Int32) (kd : Nat → Int32) (p1 : Int32) (p2 : Int32) : Int32 := if (k_X5_checkReferee p1) = 0 then (if (k_X5_checkPlayer p2) = 0 then (if (k_X5_checkRound hm aw tk) = 0 then (if 0 ≤ (ce p2.toNatClampNeg) then (if (sI (SgtC bk (rf p1.toNatClampNeg).toNatClampNeg (ce p2.toNatClampNeg).toNatClampNeg)) = 0 then 3 else (if (f_X2_mayCall hm aw tk kn) = 0 then 3 else 0)) else 3) else k_X5_checkRound hm aw tk) else k_X5_checkPlayer p2) else k_X5_checkReferee p1
set_option maxHeartbeats 4000000 in
set_option maxRecDepth 100000 in
theorem c_X5_call (l : Launch) (hlt : l.stackTraces = false) (D : va_G) (cI cZ cJ cA : ClassId) (sx : Nat → Nat) (sz : Nat) (a : Nat → Nat) (rf : Nat → Int32) (bk : Nat → Int32) (hm : Int32) (aw : Int32) (tk : Int32) (ce : Nat → Int32) (kn : Nat) (ka : Nat → Int32) (kb : Nat → Int32) (kc : Nat → Int32) (kd : Nat → Int32) (p1 : Int32) (p2 : Int32) (hrf : ∀ j : Nat, j < 2 → vp_in (rf j) 144) (hce : ∀ j : Nat, j < 6 → 0 ≤ ce j → vp_in (ce j) 144) (hkn : kn ≤ 512) : vx_Met l yX5_call wsX5_call ({ frames := 7, cells := 4, slots := 24, locals := 110 } : Room) (va_Pc [.ref (a 0), .int p1, .int p2] (pcX (pcW D (tyL cI cZ cJ cA) [((a 0), .inr (5, [.ref (a 2), .ref (a 4), .ref (a 18), .ref (a 1)])), ((a 1), .inl (cI, 2, .inl rf)), ((a 4), .inr (2, [.int hm, .int aw, .int tk, .ref (a 5), .ref (a 6), .ref (a 7), .ref (a 8), .ref (a 13)])), ((a 5), .inl (cI, 6, .inl ce)), ((a 2), .inr (1, [.ref (a 3)])), ((a 3), .inl (cZ, 144, .inl bk)), ((a 13), .inr (0, [.int (nI kn), .ref (a 14), .ref (a 15), .ref (a 16), .ref (a 17)])), ((a 14), .inl (cI, 512, .inl ka)), ((a 15), .inl (cI, 512, .inl kb)), ((a 16), .inl (cI, 512, .inl kc)), ((a 17), .inl (cZ, 512, .inl kd))] sz) sx (va_A [((a 0), .inr (5, [.ref (a 2), .ref (a 4), .ref (a 18), .ref (a 1)])), ((a 1), .inl (cI, 2, .inl rf)), ((a 4), .inr (2, [.int hm, .int aw, .int tk, .ref (a 5), .ref (a 6), .ref (a 7), .ref (a 8), .ref (a 13)])), ((a 5), .inl (cI, 6, .inl ce)), ((a 2), .inr (1, [.ref (a 3)])), ((a 3), .inl (cZ, 144, .inl bk)), ((a 13), .inr (0, [.int (nI kn), .ref (a 14), .ref (a 15), .ref (a 16), .ref (a 17)])), ((a 14), .inl (cI, 512, .inl ka)), ((a 15), .inl (cI, 512, .inl kb)), ((a 16), .inl (cI, 512, .inl kc)), ((a 17), .inl (cZ, 512, .inl kd))] sz))) (va_Qi (fun (r : Int32) (u : (Nat → Int32) × (Nat) × (Nat → Int32) × (Nat → Int32) × (Nat → Int32) × (Nat → Int32)) => (k_X5_call rf bk hm aw tk ce kn ka kb kc kd p1 p2) = 0 ∧ r = nI kn ∧ u.1 = (upd ce p2.toNatClampNeg (-2)) ∧ u.2.1 = (kn + 1) ∧ u.2.2.1 = (upd ka kn p2) ∧ u.2.2.2.1 = (upd kb kn (ce p2.toNatClampNeg)) ∧ u.2.2.2.2.1 = (upd kc kn tk) ∧ u.2.2.2.2.2 = (upd kd kn 0)) (fun u t => bcW D (tyL cI cZ cJ cA) (va_A [((a 0), .inr (5, [.ref (a 2), .ref (a 4), .ref (a 18), .ref (a 1)])), ((a 1), .inl (cI, 2, .inl rf)), ((a 4), .inr (2, [.int hm, .int aw, .int tk, .ref (a 5), .ref (a 6), .ref (a 7), .ref (a 8), .ref (a 13)])), ((a 5), .inl (cI, 6, .inl ce)), ((a 2), .inr (1, [.ref (a 3)])), ((a 3), .inl (cZ, 144, .inl bk)), ((a 13), .inr (0, [.int (nI kn), .ref (a 14), .ref (a 15), .ref (a 16), .ref (a 17)])), ((a 14), .inl (cI, 512, .inl ka)), ((a 15), .inl (cI, 512, .inl kb)), ((a 16), .inl (cI, 512, .inl kc)), ((a 17), .inl (cZ, 512, .inl kd))] sz) [((a 0), .inr (5, [.ref (a 2), .ref (a 4), .ref (a 18), .ref (a 1)])), ((a 1), .inl (cI, 2, .inl rf)), ((a 4), .inr (2, [.int hm, .int aw, .int tk, .ref (a 5), .ref (a 6), .ref (a 7), .ref (a 8), .ref (a 13)])), ((a 5), .inl (cI, 6, .inl u.1)), ((a 2), .inr (1, [.ref (a 3)])), ((a 3), .inl (cZ, 144, .inl bk)), ((a 13), .inr (0, [.int (nI u.2.1), .ref (a 14), .ref (a 15), .ref (a 16), .ref (a 17)])), ((a 14), .inl (cI, 512, .inl u.2.2.1)), ((a 15), .inl (cI, 512, .inl u.2.2.2.1)), ((a 16), .inl (cI, 512, .inl u.2.2.2.2.1)), ((a 17), .inl (cZ, 512, .inl u.2.2.2.2.2))] t) (va_A [((a 0), .inr (5, [.ref (a 2), .ref (a 4), .ref (a 18), .ref (a 1)])), ((a 1), .inl (cI, 2, .inl rf)), ((a 4), .inr (2, [.int hm, .int aw, .int tk, .ref (a 5), .ref (a 6), .ref (a 7), .ref (a 8), .ref (a 13)])), ((a 5), .inl (cI, 6, .inl ce)), ((a 2), .inr (1, [.ref (a 3)])), ((a 3), .inl (cZ, 144, .inl bk)), ((a 13), .inr (0, [.int (nI kn), .ref (a 14), .ref (a 15), .ref (a 16), .ref (a 17)])), ((a 14), .inl (cI, 512, .inl ka)), ((a 15), .inl (cI, 512, .inl kb)), ((a 16), .inl (cI, 512, .inl kc)), ((a 17), .inl (cZ, 512, .inl kd))] sz)) (vx_X (fun _ : Unit => True) (fun E _ _ => thr E (k_X5_call rf bk hm aw tk ce kn ka kb kc kd p1 p2)) (fun q : Nat => sz ≤ q)) 4 24 (va_A [((a 0), .inr (5, [.ref (a 2), .ref (a 4), .ref (a 18), .ref (a 1)])), ((a 1), .inl (cI, 2, .inl rf)), ((a 4), .inr (2, [.int hm, .int aw, .int tk, .ref (a 5), .ref (a 6), .ref (a 7), .ref (a 8), .ref (a 13)])), ((a 5), .inl (cI, 6, .inl ce)), ((a 2), .inr (1, [.ref (a 3)])), ((a 3), .inl (cZ, 144, .inl bk)), ((a 13), .inr (0, [.int (nI kn), .ref (a 14), .ref (a 15), .ref (a 16), .ref (a 17)])), ((a 14), .inl (cI, 512, .inl ka)), ((a 15), .inl (cI, 512, .inl kb)), ((a 16), .inl (cI, 512, .inl kc)), ((a 17), .inl (cZ, 512, .inl kd))] sz) := by
  refine vx_ofW (cc := cX5_call) (maxL := 4) (ret := (some .int)) (by decide) rfl ?_
  intro p e s m args below meth c s₁ B hml hT0 hv
  obtain ⟨rfl, ⟨hsz, hP, hK, hD0⟩, hE⟩ := hv
  have hx := B.exec
  have hb := B.bytes
  have hr := B.returns
  have hts := atoms_spec (ws := wsX5_call) B.pre
  have hown : s.vm.findClass RX5 = some m.cls := findClass_of_methodNamed B.named
  have hlocks := B.notSynchronized
  subst hsz
  have hD := hD0.self (sz := s.heap.size)
  have hE := hE.narrow (B := fun q : Nat => s.heap.size ≤ q) (fun q h => Or.inr h)
  generalize hAe : va_A [((a 0), .inr (5, [.ref (a 2), .ref (a 4), .ref (a 18), .ref (a 1)])), ((a 1), .inl (cI, 2, .inl rf)), ((a 4), .inr (2, [.int hm, .int aw, .int tk, .ref (a 5), .ref (a 6), .ref (a 7), .ref (a 8), .ref (a 13)])), ((a 5), .inl (cI, 6, .inl ce)), ((a 2), .inr (1, [.ref (a 3)])), ((a 3), .inl (cZ, 144, .inl bk)), ((a 13), .inr (0, [.int (nI kn), .ref (a 14), .ref (a 15), .ref (a 16), .ref (a 17)])), ((a 14), .inl (cI, 512, .inl ka)), ((a 15), .inl (cI, 512, .inl kb)), ((a 16), .inl (cI, 512, .inl kc)), ((a 17), .inl (cZ, 512, .inl kd))] s.heap.size = A at hD ⊢
  have hA : ∀ q : Nat, s.heap.size ≤ q → A q := fun q h => by rw [← hAe]; exact Or.inr h
  have hAR : ∀ q : Nat, s.heap.size ≤ q → (fun q : Nat => s.heap.size ≤ q) q := fun _ h => h
  have hS : va_S (fun q : Nat => s.heap.size ≤ q) s.heap s.heap [] := va_S.rf
  have hP : va_P D vwCl [((a 0), .inr (5, [.ref (a 2), .ref (a 4), .ref (a 18), .ref (a 1)])), ((a 1), .inl (cI, 2, .inl rf)), ((a 4), .inr (2, [.int hm, .int aw, .int tk, .ref (a 5), .ref (a 6), .ref (a 7), .ref (a 8), .ref (a 13)])), ((a 5), .inl (cI, 6, .inl ce)), ((a 2), .inr (1, [.ref (a 3)])), ((a 3), .inl (cZ, 144, .inl bk)), ((a 13), .inr (0, [.int (nI kn), .ref (a 14), .ref (a 15), .ref (a 16), .ref (a 17)])), ((a 14), .inl (cI, 512, .inl ka)), ((a 15), .inl (cI, 512, .inl kb)), ((a 16), .inl (cI, 512, .inl kc)), ((a 17), .inl (cZ, 512, .inl kd))] s.heap := hP
  have hl := lv_entry ([.ref (a 0), .int p1, .int p2]) (n := 4) (Nat.le_of_ble_eq_true rfl)
  rw [lg_entry_eq]
  generalize (lg_sl ([.ref (a 0), .int p1, .int p2]) ++ List.replicate (4 - (lg_sl ([.ref (a 0), .int p1, .int p2])).length) Slot.unset).toArray = ls at hl ⊢
  have hl : lv_has ls 4 [(0, .ref (a 0)), (1, .int p1), (2, .int p2)] := hl
  have hf_19 := hts (.fieldLink RX5 19 "PaintballAtlas" "round" "LPaintballAtlas$Round;") (by decide +kernel)
  have hi_X5 : ∀ w ∈ wsX50, w ∈ wsX5_call := by decide +kernel
  have hf_12 := hts (.fieldLink RX5 12 "PaintballAtlas" "field" "LPaintballAtlas$Field;") (by decide +kernel)
  have hf_30 := hts (.fieldLink RX5 30 "PaintballAtlas" "refereeCells" "[I") (by decide +kernel)
  have hcl_42 := hts (.classLink RX5 42 "java/lang/IllegalStateException") (by decide +kernel)
  have hie_3 := hts (.initialized "java/lang/IllegalStateException") (by decide +kernel)
  have hat_46 : ∀ w ∈ (vx_atS RX5 46 "java/lang/IllegalStateException" ["java/lang/RuntimeException", "java/lang/Exception"]), w.before ([.ref (a 0), .int p1, .int p2] : List Value).toArray s = true := vx_hat (L := (vx_atS RX5 46 "java/lang/IllegalStateException" ["java/lang/RuntimeException", "java/lang/Exception"])) (B := [.castable "java/lang/IllegalStateException" "java/lang/IllegalStateException", .declares ⟨"java/lang/RuntimeException", "<init>", "(Ljava/lang/String;)V"⟩, .declares ⟨"java/lang/Exception", "<init>", "(Ljava/lang/String;)V"⟩, .declares ⟨"java/lang/Throwable", "<init>", "(Ljava/lang/String;)V"⟩]) (fun w hw => hts w ((by decide +kernel : ∀ w ∈ (vx_atS RX5 46 "java/lang/IllegalStateException" ["java/lang/RuntimeException", "java/lang/Exception"]).filter goodWord, w ∈ wsX5_call) w hw)) (by decide +kernel) (vx_c (va_Nw.use rfl hE.n3) (vx_c (va_Nw.use rfl hE.d1) (vx_c (va_Nw.use rfl hE.d2) (vx_c (va_Nw.use rfl hE.d3) vx_n))))
  refine lv_iload_n hx hb dX5_call_0 rfl (lv_at hl 1 rfl) ?_
  have hPc := hP.sub (ws' := []) [] rfl
  refine vx_callv (vx_runS (As := [.int p1]) (rest := []) ⟨hx, hb, hml, hown, hts⟩ (c_X5_checkReferee l hlt D cI cZ cJ cA sx s.heap.size p1) (va_cwS 1 hts gX5_call_X5_checkReferee rfl rfl rfl (by decide +kernel) ⟨Nat.le_of_ble_eq_true rfl, Nat.le_of_ble_eq_true rfl⟩) ⟨pcXR_bl, fun U hU hW => ⟨rfl, ⟨by rw [hU], by rw [hU]; exact hPc, va_K.moved hW.alike hK⟩, hE.call hS (rd_free hS hAR) hU hW⟩⟩ rfl rfl hl.1 rfl (lv_room (Nat.le_of_ble_eq_true rfl)) dX5_call_1 ⟨Nat.le_of_ble_eq_true rfl, Nat.le_of_ble_eq_true rfl⟩) hS (fun _ h1 h2 => absurd h1 (Nat.not_lt.mpr h2)) (rd_free hS hAR) (fun _ h1 h2 => absurd h1 (Nat.not_lt.mpr h2)) (fun E cel q9 u t H locs ht hvm hpx hb1 hz1 hk1 hS hce hcv hcl => ?_) (fun u t H locs ht hvm hw hB hz1 hk1 hS => ?_)
  · have c_2 : ¬ (k_X5_checkReferee p1) = 0 := thr_ne hb1
    refine vx_widen (k := 4) (n := 24) (Nat.le_of_ble_eq_true rfl) (Nat.le_of_ble_eq_true rfl) ?_
    refine vx_out (fun x h => absurd h (hT0 x)) hlocks hce hcv hcl (fun t1 ht1 _ => ⟨(), trivial, thr_eq (by rw [k_X5_call, if_neg c_2]) hb1, hS.F ht1⟩) (fun z hz => hA _ (hS.2.2 z hz)) (Nat.le_refl _) (Nat.le_refl _)
  · try dsimp only at hw
    have hk_1 := hw
    have hP := rd_P hP hk1
    refine W.widen (k := 1) (n := 6) (Nat.le_refl _) (Nat.le_refl _) ?_
    have hv_1 := kin_checkReferee hk_1
    refine lv_iload_n hx hb dX5_call_4 rfl (lv_at hl 2 rfl) ?_
    have hPc := hP.sub (ws' := []) [] rfl
    refine vx_callv (vx_runS (As := [.int p2]) (rest := []) ⟨hx, hb, hml, hown, hts⟩ (c_X5_checkPlayer l hlt D cI cZ cJ cA sx H.size p2) (va_cwS 1 hts gX5_call_X5_checkPlayer rfl rfl rfl (by decide +kernel) ⟨Nat.le_of_ble_eq_true rfl, Nat.le_of_ble_eq_true rfl⟩) ⟨pcXR_bl, fun U hU hW => ⟨rfl, ⟨by rw [hU], by rw [hU]; exact hPc, va_K.moved hW.alike hK⟩, hE.call hS (rd_free hS hAR) hU hW⟩⟩ rfl rfl hl.1 rfl (lv_room (Nat.le_of_ble_eq_true rfl)) dX5_call_5 ⟨Nat.le_of_ble_eq_true rfl, Nat.le_of_ble_eq_true rfl⟩) hS (fun _ h1 h2 => absurd h1 (Nat.not_lt.mpr h2)) (rd_free hS hAR) (fun _ h1 h2 => absurd h1 (Nat.not_lt.mpr h2)) (fun E cel q9 u t H locs ht hvm hpx hb1 hz1 hk1 hS hce hcv hcl => ?_) (fun u t H locs ht hvm hw hB hz1 hk1 hS => ?_)
    · have c_4 : ¬ (k_X5_checkPlayer p2) = 0 := thr_ne hb1
      refine vx_widen (k := 4) (n := 24) (Nat.le_of_ble_eq_true rfl) (Nat.le_of_ble_eq_true rfl) ?_
      refine vx_out (fun x h => absurd h (hT0 x)) hlocks hce hcv hcl (fun t1 ht1 _ => ⟨(), trivial, thr_eq (by rw [k_X5_call, if_pos hk_1, if_neg c_4]) hb1, hS.F ht1⟩) (fun z hz => hA _ (hS.2.2 z hz)) (Nat.le_refl _) (Nat.le_refl _)
    · try dsimp only at hw
      have hk_3 := hw
      have hP := rd_P hP hk1
      refine W.widen (k := 2) (n := 12) (Nat.le_refl _) (Nat.le_refl _) ?_
      have hv_3 := kin_checkPlayer hk_3
      refine lv_aload_n hx hb dX5_call_8 rfl (lv_at hl 0 rfl) ?_
      have hPc := hP.sub (ws' := [((a 0), .inr (5, [.ref (a 2), .ref (a 4), .ref (a 18), .ref (a 1)])), ((a 4), .inr (2, [.int hm, .int aw, .int tk, .ref (a 5), .ref (a 6), .ref (a 7), .ref (a 8), .ref (a 13)]))]) [0, 2] rfl
      refine vx_callv (vx_runV (As := []) (rest := []) ⟨hx, hb, hml, hown, hts⟩ (c_X5_checkRound l hlt D cI cZ cJ cA sx H.size a hm aw tk) (cwV 0 hts gX5_call_X5_checkRound rfl rfl rfl (by decide +kernel) ⟨Nat.le_of_ble_eq_true rfl, Nat.le_of_ble_eq_true rfl⟩) ⟨pcXR_bl, va_recv hK hPc (ci := 5) (q0 := 0) rfl rfl, fun U hU hW => ⟨rfl, ⟨by rw [hU], by rw [hU]; exact hPc, va_K.moved hW.alike hK⟩, hE.call hS (rd_free hS hAR) hU hW⟩⟩ rfl rfl hl.1 rfl (lv_room (Nat.le_of_ble_eq_true rfl)) dX5_call_9 ⟨Nat.le_of_ble_eq_true rfl, Nat.le_of_ble_eq_true rfl⟩) hS (fun _ h1 h2 => absurd h1 (Nat.not_lt.mpr h2)) (rd_free hS hAR) (fun _ h1 h2 => absurd h1 (Nat.not_lt.mpr h2)) (fun E cel q9 u t H locs ht hvm hpx hb1 hz1 hk1 hS hce hcv hcl => ?_) (fun u t H locs ht hvm hw hB hz1 hk1 hS => ?_)
      · have c_6 : ¬ (k_X5_checkRound hm aw tk) = 0 := thr_ne hb1
        refine vx_widen (k := 4) (n := 24) (Nat.le_of_ble_eq_true rfl) (Nat.le_of_ble_eq_true rfl) ?_
        refine vx_out (fun x h => absurd h (hT0 x)) hlocks hce hcv hcl (fun t1 ht1 _ => ⟨(), trivial, thr_eq (by rw [k_X5_call, if_pos hk_1, if_pos hk_3, if_neg c_6]) hb1, hS.F ht1⟩) (fun z hz => hA _ (hS.2.2 z hz)) (Nat.le_refl _) (Nat.le_refl _)
      · try dsimp only at hw
        have hk_5 := hw
        have hP := rd_P hP hk1
        refine W.widen (k := 3) (n := 18) (Nat.le_refl _) (Nat.le_refl _) ?_
        refine lv_aload_n hx hb dX5_call_12 rfl (lv_at hl 0 rfl) ?_
        refine va_get (D := D) (ci := 5) (v := .ref (a 4)) (C := RX5) (T := TX5) (N := 4) hx hb hts hi_X5 hown hK hP 0 rfl rfl 1 (by decide) hf_19 (fun _ h9 => h9) rfl dX5_call_13 ?_
        refine lv_iload_n hx hb dX5_call_16 rfl (lv_at hl 2 rfl) ?_
        have hPc := hP.sub (ws' := [((a 4), .inr (2, [.int hm, .int aw, .int tk, .ref (a 5), .ref (a 6), .ref (a 7), .ref (a 8), .ref (a 13)])), ((a 5), .inl (cI, 6, .inl ce))]) [2, 3] rfl
        refine va_calli (va_runV (As := [.int p2]) (rest := []) ⟨hx, hb, hml, hown, hts⟩ (c_X2_cellOf l D cI cZ cJ cA H.size a hm aw tk ce p2 (by assumption)) (cwV 1 hts gX5_call_X2_cellOf rfl rfl rfl (by decide +kernel) ⟨Nat.le_of_ble_eq_true rfl, Nat.le_of_ble_eq_true rfl⟩) ⟨pcR_bl, va_recv hK hPc (ci := 2) (q0 := 0) rfl rfl, fun U hU hW => ⟨rfl, by rw [hU], by rw [hU]; exact hPc, va_K.moved hW.alike hK⟩⟩ rfl rfl hl.1 rfl (lv_room (Nat.le_of_ble_eq_true rfl)) dX5_call_17 ⟨Nat.le_of_ble_eq_true rfl, Nat.le_of_ble_eq_true rfl⟩) hS (fun _ h1 h2 => absurd h1 (Nat.not_lt.mpr h2)) (rd_free hS hAR) (fun r_7 u t H locs ht hvm hw hB hz1 hk1 hS => ?_)
        try dsimp only at hw
        have hr_7 := hw
        have hP := rd_P hP hk1
        obtain rfl := hr_7.symm
        refine W.widen (k := 3) (n := 18) (Nat.le_refl _) (Nat.le_refl _) ?_
        refine lv_istore_n (lv' := [(3, .int (ce p2.toNatClampNeg)), (0, .ref (a 0)), (1, .int p1), (2, .int p2)]) hx hb dX5_call_20 rfl hl (by decide) rfl (fun ls hl => ?_)
        refine lv_iload_n hx hb dX5_call_21 rfl (lv_at hl 0 rfl) ?_
        refine lv_if_ge (tgt := 35) hx hb dX5_call_22 (by decide) (fun c_8 => ?_) (fun c_8 => ?_)
        · refine lv_aload_n hx hb dX5_call_35 rfl (lv_at hl 1 rfl) ?_
          refine va_get (D := D) (ci := 5) (v := .ref (a 2)) (C := RX5) (T := TX5) (N := 4) hx hb hts hi_X5 hown hK hP 0 rfl rfl 0 (by decide) hf_12 (fun _ h9 => h9) rfl dX5_call_36 ?_
          refine lv_aload_n hx hb dX5_call_39 rfl (lv_at hl 1 rfl) ?_
          refine va_get (D := D) (ci := 5) (v := .ref (a 1)) (C := RX5) (T := TX5) (N := 4) hx hb hts hi_X5 hown hK hP 0 rfl rfl 3 (by decide) hf_30 (fun _ h9 => h9) rfl dX5_call_40 ?_
          refine lv_iload_n hx hb dX5_call_43 rfl (lv_at hl 2 rfl) ?_
          refine va_iald hx hb hK hP 1 0 rfl rfl (by assumption) dX5_call_44 ?_
          refine lv_iload_n hx hb dX5_call_45 rfl (lv_at hl 0 rfl) ?_
          have hPc := hP.sub (ws' := [((a 2), .inr (1, [.ref (a 3)])), ((a 3), .inl (cZ, 144, .inl bk))]) [4, 5] rfl
          refine va_calli (va_runV (As := [.int (rf p1.toNatClampNeg), .int (ce p2.toNatClampNeg)]) (rest := []) ⟨hx, hb, hml, hown, hts⟩ (c_X1_hasSight l D cI cZ cJ cA H.size a bk (rf p1.toNatClampNeg) (ce p2.toNatClampNeg) (hrf _ (in_cl (by assumption))) (hce _ (in_cl (by assumption)) c_8)) (cwV 2 hts gX5_call_X1_hasSight rfl rfl rfl (by decide +kernel) ⟨Nat.le_of_ble_eq_true rfl, Nat.le_of_ble_eq_true rfl⟩) ⟨pcR_bl, va_recv hK hPc (ci := 1) (q0 := 0) rfl rfl, fun U hU hW => ⟨rfl, by rw [hU], by rw [hU]; exact hPc, va_K.moved hW.alike hK⟩⟩ rfl rfl hl.1 rfl (lv_room (Nat.le_of_ble_eq_true rfl)) dX5_call_46 ⟨Nat.le_of_ble_eq_true rfl, Nat.le_of_ble_eq_true rfl⟩) hS (fun _ h1 h2 => absurd h1 (Nat.not_lt.mpr h2)) (rd_free hS hAR) (fun r_9 u t H locs ht hvm hw hB hz1 hk1 hS => ?_)
          try dsimp only at hw
          have hr_9 := hw
          have hP := rd_P hP hk1
          obtain rfl := hr_9.symm
          refine W.widen (k := 3) (n := 18) (Nat.le_refl _) (Nat.le_refl _) ?_
          refine lv_if_ne (tgt := 62) hx hb dX5_call_49 (by decide) (fun c_10 => ?_) (fun c_10 => ?_)
          · refine lv_aload_n hx hb dX5_call_62 rfl (lv_at hl 1 rfl) ?_
            refine va_get (D := D) (ci := 5) (v := .ref (a 4)) (C := RX5) (T := TX5) (N := 4) hx hb hts hi_X5 hown hK hP 0 rfl rfl 1 (by decide) hf_19 (fun _ h9 => h9) rfl dX5_call_63 ?_
            have hPc := hP.sub (ws' := [((a 4), .inr (2, [.int hm, .int aw, .int tk, .ref (a 5), .ref (a 6), .ref (a 7), .ref (a 8), .ref (a 13)])), ((a 13), .inr (0, [.int (nI kn), .ref (a 14), .ref (a 15), .ref (a 16), .ref (a 17)]))]) [2, 6] rfl
            refine va_calli (va_runV (As := []) (rest := []) ⟨hx, hb, hml, hown, hts⟩ (c_X2_mayCall l D cI cZ cJ cA H.size a hm aw tk kn) (cwV 0 hts gX5_call_X2_mayCall rfl rfl rfl (by decide +kernel) ⟨Nat.le_of_ble_eq_true rfl, Nat.le_of_ble_eq_true rfl⟩) ⟨pcR_bl, va_recv hK hPc (ci := 2) (q0 := 0) rfl rfl, fun U hU hW => ⟨rfl, by rw [hU], by rw [hU]; exact hPc, va_K.moved hW.alike hK⟩⟩ rfl rfl hl.1 rfl (lv_room (Nat.le_of_ble_eq_true rfl)) dX5_call_66 ⟨Nat.le_of_ble_eq_true rfl, Nat.le_of_ble_eq_true rfl⟩) hS (fun _ h1 h2 => absurd h1 (Nat.not_lt.mpr h2)) (rd_free hS hAR) (fun r_11 u t H locs ht hvm hw hB hz1 hk1 hS => ?_)
            try dsimp only at hw
            have hr_11 := hw
            have hP := rd_P hP hk1
            obtain rfl := hr_11.symm
            refine W.widen (k := 3) (n := 18) (Nat.le_refl _) (Nat.le_refl _) ?_
            refine lv_if_ne (tgt := 82) hx hb dX5_call_69 (by decide) (fun c_12 => ?_) (fun c_12 => ?_)
            · refine lv_aload_n hx hb dX5_call_82 rfl (lv_at hl 1 rfl) ?_
              refine va_get (D := D) (ci := 5) (v := .ref (a 4)) (C := RX5) (T := TX5) (N := 4) hx hb hts hi_X5 hown hK hP 0 rfl rfl 1 (by decide) hf_19 (fun _ h9 => h9) rfl dX5_call_83 ?_
              refine lv_iload_n hx hb dX5_call_86 rfl (lv_at hl 3 rfl) ?_
              have hPc := hP.sub (ws' := [((a 4), .inr (2, [.int hm, .int aw, .int tk, .ref (a 5), .ref (a 6), .ref (a 7), .ref (a 8), .ref (a 13)])), ((a 5), .inl (cI, 6, .inl ce)), ((a 13), .inr (0, [.int (nI kn), .ref (a 14), .ref (a 15), .ref (a 16), .ref (a 17)])), ((a 14), .inl (cI, 512, .inl ka)), ((a 15), .inl (cI, 512, .inl kb)), ((a 16), .inl (cI, 512, .inl kc)), ((a 17), .inl (cZ, 512, .inl kd))]) [2, 3, 6, 7, 8, 9, 10] rfl
              have hS := va_S_mono hS hA
              have hDc := hD.sub (ws' := [((a 4), .inr (2, [.int hm, .int aw, .int tk, .ref (a 5), .ref (a 6), .ref (a 7), .ref (a 8), .ref (a 13)])), ((a 5), .inl (cI, 6, .inl ce)), ((a 13), .inr (0, [.int (nI kn), .ref (a 14), .ref (a 15), .ref (a 16), .ref (a 17)])), ((a 14), .inl (cI, 512, .inl ka)), ((a 15), .inl (cI, 512, .inl kb)), ((a 16), .inl (cI, 512, .inl kc)), ((a 17), .inl (cZ, 512, .inl kd))]) [2, 3, 6, 7, 8, 9, 10] (by decide) rfl
              have hFc := va_free (wc := [((a 4), .inr (2, [.int hm, .int aw, .int tk, .ref (a 5), .ref (a 6), .ref (a 7), .ref (a 8), .ref (a 13)])), ((a 5), .inl (cI, 6, .inl ce)), ((a 13), .inr (0, [.int (nI kn), .ref (a 14), .ref (a 15), .ref (a 16), .ref (a 17)])), ((a 14), .inl (cI, 512, .inl ka)), ((a 15), .inl (cI, 512, .inl kb)), ((a 16), .inl (cI, 512, .inl kc)), ((a 17), .inl (cZ, 512, .inl kd))]) hD hS hA [2, 3, 6, 7, 8, 9, 10] rfl
              refine va_calli (va_runV (As := [.int p2]) (rest := []) ⟨hx, hb, hml, hown, hts⟩ (c_X2_callOut l D cI cZ cJ cA H.size a hm aw tk ce kn ka kb kc kd p2 (by assumption) (mayCall_lt hkn c_12)) (cwV 1 hts gX5_call_X2_callOut rfl rfl rfl (by decide +kernel) ⟨Nat.le_of_ble_eq_true rfl, Nat.le_of_ble_eq_true rfl⟩) ⟨pcW_bl, va_recv hK hPc (ci := 2) (q0 := 0) rfl rfl, fun U hU hW => ⟨rfl, by rw [hU], by rw [hU]; exact hPc, va_K.moved hW.alike hK, hDc.weaken (fun _ _ _ _ => trivial)⟩⟩ rfl rfl hl.1 rfl (lv_room (Nat.le_of_ble_eq_true rfl)) dX5_call_87 ⟨Nat.le_of_ble_eq_true rfl, Nat.le_of_ble_eq_true rfl⟩) hS (fun q _ h => hFc q h) hFc (fun r_13 u t H locs ht hvm hw hB hz1 hk1 hS => ?_)
              try dsimp only at hw
              obtain ⟨u0_13, u1_13, u2_13, u3_13, u4_13, u5_13⟩ := u
              try dsimp only at hw
              obtain ⟨hr_13, hu0_13, hu1_13, hu2_13, hu3_13, hu4_13, hu5_13⟩ := hw
              obtain ⟨hP1, hK1, hD1⟩ := hB
              rw [ht] at hP1
              obtain ⟨hP, hD⟩ := va_join (wr := [((a 0), .inr (5, [.ref (a 2), .ref (a 4), .ref (a 18), .ref (a 1)])), ((a 1), .inl (cI, 2, .inl rf)), ((a 2), .inr (1, [.ref (a 3)])), ((a 3), .inl (cZ, 144, .inl bk))]) (w1 := [((a 4), .inr (2, [.int hm, .int aw, .int tk, .ref (a 5), .ref (a 6), .ref (a 7), .ref (a 8), .ref (a 13)])), ((a 5), .inl (cI, 6, .inl u0_13)), ((a 13), .inr (0, [.int (nI u1_13), .ref (a 14), .ref (a 15), .ref (a 16), .ref (a 17)])), ((a 14), .inl (cI, 512, .inl u2_13)), ((a 15), .inl (cI, 512, .inl u3_13)), ((a 16), .inl (cI, 512, .inl u4_13)), ((a 17), .inl (cZ, 512, .inl u5_13))]) hP hD [2, 3, 6, 7, 8, 9, 10] [0, 1, 4, 5] rfl rfl (by decide) (by decide) hk1 hFc hP1 hD1
              obtain rfl := hu0_13.symm
              obtain rfl := hu1_13.symm
              obtain rfl := hu2_13.symm
              obtain rfl := hu3_13.symm
              obtain rfl := hu4_13.symm
              obtain rfl := hu5_13.symm
              have hP : va_P D vwCl [((a 0), .inr (5, [.ref (a 2), .ref (a 4), .ref (a 18), .ref (a 1)])), ((a 1), .inl (cI, 2, .inl rf)), ((a 2), .inr (1, [.ref (a 3)])), ((a 3), .inl (cZ, 144, .inl bk)), ((a 4), .inr (2, [.int hm, .int aw, .int tk, .ref (a 5), .ref (a 6), .ref (a 7), .ref (a 8), .ref (a 13)])), ((a 5), .inl (cI, 6, .inl (upd ce p2.toNatClampNeg (-2)))), ((a 13), .inr (0, [.int (nI (kn + 1)), .ref (a 14), .ref (a 15), .ref (a 16), .ref (a 17)])), ((a 14), .inl (cI, 512, .inl (upd ka kn p2))), ((a 15), .inl (cI, 512, .inl (upd kb kn (ce p2.toNatClampNeg)))), ((a 16), .inl (cI, 512, .inl (upd kc kn tk))), ((a 17), .inl (cZ, 512, .inl (upd kd kn 0)))] H := hP
              have hD : va_D A [((a 0), .inr (5, [.ref (a 2), .ref (a 4), .ref (a 18), .ref (a 1)])), ((a 1), .inl (cI, 2, .inl rf)), ((a 2), .inr (1, [.ref (a 3)])), ((a 3), .inl (cZ, 144, .inl bk)), ((a 4), .inr (2, [.int hm, .int aw, .int tk, .ref (a 5), .ref (a 6), .ref (a 7), .ref (a 8), .ref (a 13)])), ((a 5), .inl (cI, 6, .inl (upd ce p2.toNatClampNeg (-2)))), ((a 13), .inr (0, [.int (nI (kn + 1)), .ref (a 14), .ref (a 15), .ref (a 16), .ref (a 17)])), ((a 14), .inl (cI, 512, .inl (upd ka kn p2))), ((a 15), .inl (cI, 512, .inl (upd kb kn (ce p2.toNatClampNeg)))), ((a 16), .inl (cI, 512, .inl (upd kc kn tk))), ((a 17), .inl (cZ, 512, .inl (upd kd kn 0)))] := hD
              obtain rfl := hr_13.symm
              refine W.widen (k := 3) (n := 18) (Nat.le_refl _) (Nat.le_refl _) ?_
              have hP9 := hP.sub (ws' := [((a 0), .inr (5, [.ref (a 2), .ref (a 4), .ref (a 18), .ref (a 1)])), ((a 1), .inl (cI, 2, .inl rf)), ((a 4), .inr (2, [.int hm, .int aw, .int tk, .ref (a 5), .ref (a 6), .ref (a 7), .ref (a 8), .ref (a 13)])), ((a 5), .inl (cI, 6, .inl (upd ce p2.toNatClampNeg (-2)))), ((a 2), .inr (1, [.ref (a 3)])), ((a 3), .inl (cZ, 144, .inl bk)), ((a 13), .inr (0, [.int (nI (kn + 1)), .ref (a 14), .ref (a 15), .ref (a 16), .ref (a 17)])), ((a 14), .inl (cI, 512, .inl (upd ka kn p2))), ((a 15), .inl (cI, 512, .inl (upd kb kn (ce p2.toNatClampNeg)))), ((a 16), .inl (cI, 512, .inl (upd kc kn tk))), ((a 17), .inl (cZ, 512, .inl (upd kd kn 0)))]) [0, 1, 4, 5, 2, 3, 6, 7, 8, 9, 10] rfl
              have hD9 := hD.sub (ws' := [((a 0), .inr (5, [.ref (a 2), .ref (a 4), .ref (a 18), .ref (a 1)])), ((a 1), .inl (cI, 2, .inl rf)), ((a 4), .inr (2, [.int hm, .int aw, .int tk, .ref (a 5), .ref (a 6), .ref (a 7), .ref (a 8), .ref (a 13)])), ((a 5), .inl (cI, 6, .inl (upd ce p2.toNatClampNeg (-2)))), ((a 2), .inr (1, [.ref (a 3)])), ((a 3), .inl (cZ, 144, .inl bk)), ((a 13), .inr (0, [.int (nI (kn + 1)), .ref (a 14), .ref (a 15), .ref (a 16), .ref (a 17)])), ((a 14), .inl (cI, 512, .inl (upd ka kn p2))), ((a 15), .inl (cI, 512, .inl (upd kb kn (ce p2.toNatClampNeg)))), ((a 16), .inl (cI, 512, .inl (upd kc kn tk))), ((a 17), .inl (cZ, 512, .inl (upd kd kn 0)))]) [0, 1, 4, 5, 2, 3, 6, 7, 8, 9, 10] (by decide) rfl
              -- leaf 3
              refine W.widen (k := 4) (n := 24) (Nat.le_of_ble_eq_true rfl) (Nat.le_of_ble_eq_true rfl) ?_
              exact vx_ret (W.iret (v := nI kn) hx hb hr (fun t ht hW => ⟨⟨nI kn, ((upd ce p2.toNatClampNeg (-2)), (kn + 1), (upd ka kn p2), (upd kb kn (ce p2.toNatClampNeg)), (upd kc kn tk), (upd kd kn 0)), rfl, ⟨(by rw [k_X5_call, if_pos hk_1, if_pos hk_3, if_pos hk_5, if_pos c_8, if_neg c_10, if_neg c_12]), rfl, rfl, rfl, rfl, rfl, rfl, rfl⟩, by rw [ht]; exact hP9, va_K.moved hW.alike hK, hD9⟩, hS.F ht⟩) hS.2.2 dX5_call_90)
            · exact vx_throwS (A := (fun q : Nat => s.heap.size ≤ q)) hx hb hlt hown (by decide +kernel) (by decide +kernel) hcl_42 hie_3 (hE.s127) hat_46 (by decide +kernel) hE.u hE.n hS (hl.1.trans hml.symm) dX5_call_72 dX5_call_75 dX5_call_76 dX5_call_78 dX5_call_81 (fun x h => absurd h (hT0 x)) (Nat.le_of_ble_eq_true rfl) (Nat.le_of_ble_eq_true rfl) (Nat.le_of_ble_eq_true rfl) (Nat.le_of_ble_eq_true rfl) hlocks (fun t1 h1 h2 h3 => ⟨(), trivial, thr_3 (by rw [k_X5_call, if_pos hk_1, if_pos hk_3, if_pos hk_5, if_pos c_8, if_neg c_10, if_pos c_12]), va_F_of hS h2 h3⟩) (fun z hz => hA _ (hS.2.2 z hz)) (Nat.le_of_ble_eq_true rfl) (Nat.le_of_ble_eq_true rfl)
          · exact vx_throwS (A := (fun q : Nat => s.heap.size ≤ q)) hx hb hlt hown (by decide +kernel) (by decide +kernel) hcl_42 hie_3 (hE.s122) hat_46 (by decide +kernel) hE.u hE.n hS (hl.1.trans hml.symm) dX5_call_52 dX5_call_55 dX5_call_56 dX5_call_58 dX5_call_61 (fun x h => absurd h (hT0 x)) (Nat.le_of_ble_eq_true rfl) (Nat.le_of_ble_eq_true rfl) (Nat.le_of_ble_eq_true rfl) (Nat.le_of_ble_eq_true rfl) hlocks (fun t1 h1 h2 h3 => ⟨(), trivial, thr_3 (by rw [k_X5_call, if_pos hk_1, if_pos hk_3, if_pos hk_5, if_pos c_8, if_pos c_10]), va_F_of hS h2 h3⟩) (fun z hz => hA _ (hS.2.2 z hz)) (Nat.le_of_ble_eq_true rfl) (Nat.le_of_ble_eq_true rfl)
        · exact vx_throwS (A := (fun q : Nat => s.heap.size ≤ q)) hx hb hlt hown (by decide +kernel) (by decide +kernel) hcl_42 hie_3 (hE.s104) hat_46 (by decide +kernel) hE.u hE.n hS (hl.1.trans hml.symm) dX5_call_25 dX5_call_28 dX5_call_29 dX5_call_31 dX5_call_34 (fun x h => absurd h (hT0 x)) (Nat.le_of_ble_eq_true rfl) (Nat.le_of_ble_eq_true rfl) (Nat.le_of_ble_eq_true rfl) (Nat.le_of_ble_eq_true rfl) hlocks (fun t1 h1 h2 h3 => ⟨(), trivial, thr_3 (by rw [k_X5_call, if_pos hk_1, if_pos hk_3, if_pos hk_5, if_neg c_8]), va_F_of hS h2 h3⟩) (fun z hz => hA _ (hS.2.2 z hz)) (Nat.le_of_ble_eq_true rfl) (Nat.le_of_ble_eq_true rfl)

noncomputable def k_X5_dispute (hm : Int32) (aw : Int32) (tk : Int32) (ce : Nat → Int32) (hi : Nat → Int32) (kn : Nat) (ka : Nat → Int32) (kb : Nat → Int32) (kc : Nat → Int32) (kd : Nat → Int32) (fn : Nat → Int32) (p1 : Int32) : Int32 := if (f_X2_hasCall hm aw tk kn p1) = 0 then 1 else (if (kd p1.toNatClampNeg) = 0 then 0 else 3)
noncomputable def g_fn_X5_dispute (hm : Int32) (aw : Int32) (tk : Int32) (ce : Nat → Int32) (hi : Nat → Int32) (kn : Nat) (ka : Nat → Int32) (kb : Nat → Int32) (kc : Nat → Int32) (kd : Nat → Int32) (fn : Nat → Int32) (p1 : Int32) : Nat → Int32 := if (f_X2_judge hm aw tk ce hi kn ka kb kc kd p1) = 0 then fn else (upd fn (f_X2_teamCalled hm aw tk kn ka p1).toNatClampNeg ((fn (f_X2_teamCalled hm aw tk kn ka p1).toNatClampNeg) + 1))
set_option maxHeartbeats 4000000 in
set_option maxRecDepth 100000 in
theorem c_X5_dispute (l : Launch) (hlt : l.stackTraces = false) (D : va_G) (cI cZ cJ cA : ClassId) (sx : Nat → Nat) (sz : Nat) (a : Nat → Nat) (hm : Int32) (aw : Int32) (tk : Int32) (ce : Nat → Int32) (hi : Nat → Int32) (kn : Nat) (ka : Nat → Int32) (kb : Nat → Int32) (kc : Nat → Int32) (kd : Nat → Int32) (fn : Nat → Int32) (p1 : Int32) (hkn : kn ≤ 512) (hka : ∀ j : Nat, j < kn → vp_in (ka j) 6) (hz : ∀ j : Nat, kd j = 0 ∨ kd j = 1) (hhm : vp_in hm 6) (haw : vp_in aw 6) : vx_Met l yX5_dispute wsX5_dispute ({ frames := 6, cells := 1, slots := 6, locals := 90 } : Room) (va_Pc [.ref (a 0), .int p1] (pcX (pcW D (tyL cI cZ cJ cA) [((a 0), .inr (5, [.ref (a 2), .ref (a 4), .ref (a 18), .ref (a 1)])), ((a 4), .inr (2, [.int hm, .int aw, .int tk, .ref (a 5), .ref (a 6), .ref (a 7), .ref (a 8), .ref (a 13)])), ((a 5), .inl (cI, 6, .inl ce)), ((a 6), .inl (cI, 6, .inl hi)), ((a 13), .inr (0, [.int (nI kn), .ref (a 14), .ref (a 15), .ref (a 16), .ref (a 17)])), ((a 14), .inl (cI, 512, .inl ka)), ((a 15), .inl (cI, 512, .inl kb)), ((a 16), .inl (cI, 512, .inl kc)), ((a 17), .inl (cZ, 512, .inl kd)), ((a 18), .inr (4, [.ref (a 19), .ref (a 20), .ref (a 21), .ref (a 22)])), ((a 20), .inl (cI, 6, .inl fn))] sz) sx (va_A [((a 0), .inr (5, [.ref (a 2), .ref (a 4), .ref (a 18), .ref (a 1)])), ((a 4), .inr (2, [.int hm, .int aw, .int tk, .ref (a 5), .ref (a 6), .ref (a 7), .ref (a 8), .ref (a 13)])), ((a 5), .inl (cI, 6, .inl ce)), ((a 6), .inl (cI, 6, .inl hi)), ((a 13), .inr (0, [.int (nI kn), .ref (a 14), .ref (a 15), .ref (a 16), .ref (a 17)])), ((a 14), .inl (cI, 512, .inl ka)), ((a 15), .inl (cI, 512, .inl kb)), ((a 16), .inl (cI, 512, .inl kc)), ((a 17), .inl (cZ, 512, .inl kd)), ((a 18), .inr (4, [.ref (a 19), .ref (a 20), .ref (a 21), .ref (a 22)])), ((a 20), .inl (cI, 6, .inl fn))] sz))) (va_Qi (fun (r : Int32) (u : (Nat → Int32) × (Nat → Int32) × (Nat → Int32)) => (k_X5_dispute hm aw tk ce hi kn ka kb kc kd fn p1) = 0 ∧ r = f_X2_judge hm aw tk ce hi kn ka kb kc kd p1 ∧ u.1 = (g_ce_X2_judge hm aw tk ce hi kn ka kb kc kd p1) ∧ u.2.1 = (upd kd p1.toNatClampNeg 1) ∧ u.2.2 = g_fn_X5_dispute hm aw tk ce hi kn ka kb kc kd fn p1) (fun u t => bcW D (tyL cI cZ cJ cA) (va_A [((a 0), .inr (5, [.ref (a 2), .ref (a 4), .ref (a 18), .ref (a 1)])), ((a 4), .inr (2, [.int hm, .int aw, .int tk, .ref (a 5), .ref (a 6), .ref (a 7), .ref (a 8), .ref (a 13)])), ((a 5), .inl (cI, 6, .inl ce)), ((a 6), .inl (cI, 6, .inl hi)), ((a 13), .inr (0, [.int (nI kn), .ref (a 14), .ref (a 15), .ref (a 16), .ref (a 17)])), ((a 14), .inl (cI, 512, .inl ka)), ((a 15), .inl (cI, 512, .inl kb)), ((a 16), .inl (cI, 512, .inl kc)), ((a 17), .inl (cZ, 512, .inl kd)), ((a 18), .inr (4, [.ref (a 19), .ref (a 20), .ref (a 21), .ref (a 22)])), ((a 20), .inl (cI, 6, .inl fn))] sz) [((a 0), .inr (5, [.ref (a 2), .ref (a 4), .ref (a 18), .ref (a 1)])), ((a 4), .inr (2, [.int hm, .int aw, .int tk, .ref (a 5), .ref (a 6), .ref (a 7), .ref (a 8), .ref (a 13)])), ((a 5), .inl (cI, 6, .inl u.1)), ((a 6), .inl (cI, 6, .inl hi)), ((a 13), .inr (0, [.int (nI kn), .ref (a 14), .ref (a 15), .ref (a 16), .ref (a 17)])), ((a 14), .inl (cI, 512, .inl ka)), ((a 15), .inl (cI, 512, .inl kb)), ((a 16), .inl (cI, 512, .inl kc)), ((a 17), .inl (cZ, 512, .inl u.2.1)), ((a 18), .inr (4, [.ref (a 19), .ref (a 20), .ref (a 21), .ref (a 22)])), ((a 20), .inl (cI, 6, .inl u.2.2))] t) (va_A [((a 0), .inr (5, [.ref (a 2), .ref (a 4), .ref (a 18), .ref (a 1)])), ((a 4), .inr (2, [.int hm, .int aw, .int tk, .ref (a 5), .ref (a 6), .ref (a 7), .ref (a 8), .ref (a 13)])), ((a 5), .inl (cI, 6, .inl ce)), ((a 6), .inl (cI, 6, .inl hi)), ((a 13), .inr (0, [.int (nI kn), .ref (a 14), .ref (a 15), .ref (a 16), .ref (a 17)])), ((a 14), .inl (cI, 512, .inl ka)), ((a 15), .inl (cI, 512, .inl kb)), ((a 16), .inl (cI, 512, .inl kc)), ((a 17), .inl (cZ, 512, .inl kd)), ((a 18), .inr (4, [.ref (a 19), .ref (a 20), .ref (a 21), .ref (a 22)])), ((a 20), .inl (cI, 6, .inl fn))] sz)) (vx_X (fun _ : Unit => True) (fun E _ _ => thr E (k_X5_dispute hm aw tk ce hi kn ka kb kc kd fn p1)) (fun q : Nat => sz ≤ q)) 1 6 (va_A [((a 0), .inr (5, [.ref (a 2), .ref (a 4), .ref (a 18), .ref (a 1)])), ((a 4), .inr (2, [.int hm, .int aw, .int tk, .ref (a 5), .ref (a 6), .ref (a 7), .ref (a 8), .ref (a 13)])), ((a 5), .inl (cI, 6, .inl ce)), ((a 6), .inl (cI, 6, .inl hi)), ((a 13), .inr (0, [.int (nI kn), .ref (a 14), .ref (a 15), .ref (a 16), .ref (a 17)])), ((a 14), .inl (cI, 512, .inl ka)), ((a 15), .inl (cI, 512, .inl kb)), ((a 16), .inl (cI, 512, .inl kc)), ((a 17), .inl (cZ, 512, .inl kd)), ((a 18), .inr (4, [.ref (a 19), .ref (a 20), .ref (a 21), .ref (a 22)])), ((a 20), .inl (cI, 6, .inl fn))] sz) := by
  refine vx_ofW (cc := cX5_dispute) (maxL := 3) (ret := (some .boolean)) (by decide) rfl ?_
  intro p e s m args below meth c s₁ B hml hT0 hv
  obtain ⟨rfl, ⟨hsz, hP, hK, hD0⟩, hE⟩ := hv
  have hx := B.exec
  have hb := B.bytes
  have hr := B.returns
  have hts := atoms_spec (ws := wsX5_dispute) B.pre
  have hown : s.vm.findClass RX5 = some m.cls := findClass_of_methodNamed B.named
  have hlocks := B.notSynchronized
  subst hsz
  have hD := hD0.self (sz := s.heap.size)
  have hE := hE.narrow (B := fun q : Nat => s.heap.size ≤ q) (fun q h => Or.inr h)
  generalize hAe : va_A [((a 0), .inr (5, [.ref (a 2), .ref (a 4), .ref (a 18), .ref (a 1)])), ((a 4), .inr (2, [.int hm, .int aw, .int tk, .ref (a 5), .ref (a 6), .ref (a 7), .ref (a 8), .ref (a 13)])), ((a 5), .inl (cI, 6, .inl ce)), ((a 6), .inl (cI, 6, .inl hi)), ((a 13), .inr (0, [.int (nI kn), .ref (a 14), .ref (a 15), .ref (a 16), .ref (a 17)])), ((a 14), .inl (cI, 512, .inl ka)), ((a 15), .inl (cI, 512, .inl kb)), ((a 16), .inl (cI, 512, .inl kc)), ((a 17), .inl (cZ, 512, .inl kd)), ((a 18), .inr (4, [.ref (a 19), .ref (a 20), .ref (a 21), .ref (a 22)])), ((a 20), .inl (cI, 6, .inl fn))] s.heap.size = A at hD ⊢
  have hA : ∀ q : Nat, s.heap.size ≤ q → A q := fun q h => by rw [← hAe]; exact Or.inr h
  have hAR : ∀ q : Nat, s.heap.size ≤ q → (fun q : Nat => s.heap.size ≤ q) q := fun _ h => h
  have hS : va_S (fun q : Nat => s.heap.size ≤ q) s.heap s.heap [] := va_S.rf
  have hP : va_P D vwCl [((a 0), .inr (5, [.ref (a 2), .ref (a 4), .ref (a 18), .ref (a 1)])), ((a 4), .inr (2, [.int hm, .int aw, .int tk, .ref (a 5), .ref (a 6), .ref (a 7), .ref (a 8), .ref (a 13)])), ((a 5), .inl (cI, 6, .inl ce)), ((a 6), .inl (cI, 6, .inl hi)), ((a 13), .inr (0, [.int (nI kn), .ref (a 14), .ref (a 15), .ref (a 16), .ref (a 17)])), ((a 14), .inl (cI, 512, .inl ka)), ((a 15), .inl (cI, 512, .inl kb)), ((a 16), .inl (cI, 512, .inl kc)), ((a 17), .inl (cZ, 512, .inl kd)), ((a 18), .inr (4, [.ref (a 19), .ref (a 20), .ref (a 21), .ref (a 22)])), ((a 20), .inl (cI, 6, .inl fn))] s.heap := hP
  have hl := lv_entry ([.ref (a 0), .int p1]) (n := 3) (Nat.le_of_ble_eq_true rfl)
  rw [lg_entry_eq]
  generalize (lg_sl ([.ref (a 0), .int p1]) ++ List.replicate (3 - (lg_sl ([.ref (a 0), .int p1])).length) Slot.unset).toArray = ls at hl ⊢
  have hl : lv_has ls 3 [(0, .ref (a 0)), (1, .int p1)] := hl
  have hf_19 := hts (.fieldLink RX5 19 "PaintballAtlas" "round" "LPaintballAtlas$Round;") (by decide +kernel)
  have hi_X5 : ∀ w ∈ wsX50, w ∈ wsX5_dispute := by decide +kernel
  have hf_26 := hts (.fieldLink RX5 26 "PaintballAtlas" "table" "LPaintballAtlas$Table;") (by decide +kernel)
  have hcl_42 := hts (.classLink RX5 42 "java/lang/IllegalStateException") (by decide +kernel)
  have hie_3 := hts (.initialized "java/lang/IllegalStateException") (by decide +kernel)
  have hat_46 : ∀ w ∈ (vx_atS RX5 46 "java/lang/IllegalStateException" ["java/lang/RuntimeException", "java/lang/Exception"]), w.before ([.ref (a 0), .int p1] : List Value).toArray s = true := vx_hat (L := (vx_atS RX5 46 "java/lang/IllegalStateException" ["java/lang/RuntimeException", "java/lang/Exception"])) (B := [.castable "java/lang/IllegalStateException" "java/lang/IllegalStateException", .declares ⟨"java/lang/RuntimeException", "<init>", "(Ljava/lang/String;)V"⟩, .declares ⟨"java/lang/Exception", "<init>", "(Ljava/lang/String;)V"⟩, .declares ⟨"java/lang/Throwable", "<init>", "(Ljava/lang/String;)V"⟩]) (fun w hw => hts w ((by decide +kernel : ∀ w ∈ (vx_atS RX5 46 "java/lang/IllegalStateException" ["java/lang/RuntimeException", "java/lang/Exception"]).filter goodWord, w ∈ wsX5_dispute) w hw)) (by decide +kernel) (vx_c (va_Nw.use rfl hE.n3) (vx_c (va_Nw.use rfl hE.d1) (vx_c (va_Nw.use rfl hE.d2) (vx_c (va_Nw.use rfl hE.d3) vx_n))))
  have hcl_135 := hts (.classLink RX5 135 "java/lang/IndexOutOfBoundsException") (by decide +kernel)
  have hie_1 := hts (.initialized "java/lang/IndexOutOfBoundsException") (by decide +kernel)
  have hat_139 : ∀ w ∈ (vx_atS RX5 139 "java/lang/IndexOutOfBoundsException" ["java/lang/RuntimeException", "java/lang/Exception"]), w.before ([.ref (a 0), .int p1] : List Value).toArray s = true := vx_hat (L := (vx_atS RX5 139 "java/lang/IndexOutOfBoundsException" ["java/lang/RuntimeException", "java/lang/Exception"])) (B := [.castable "java/lang/IndexOutOfBoundsException" "java/lang/IndexOutOfBoundsException", .declares ⟨"java/lang/RuntimeException", "<init>", "(Ljava/lang/String;)V"⟩, .declares ⟨"java/lang/Exception", "<init>", "(Ljava/lang/String;)V"⟩, .declares ⟨"java/lang/Throwable", "<init>", "(Ljava/lang/String;)V"⟩]) (fun w hw => hts w ((by decide +kernel : ∀ w ∈ (vx_atS RX5 139 "java/lang/IndexOutOfBoundsException" ["java/lang/RuntimeException", "java/lang/Exception"]).filter goodWord, w ∈ wsX5_dispute) w hw)) (by decide +kernel) (vx_c (va_Nw.use rfl hE.n1) (vx_c (va_Nw.use rfl hE.d1) (vx_c (va_Nw.use rfl hE.d2) (vx_c (va_Nw.use rfl hE.d3) vx_n))))
  refine lv_aload_n hx hb dX5_dispute_0 rfl (lv_at hl 0 rfl) ?_
  refine va_get (D := D) (ci := 5) (v := .ref (a 4)) (C := RX5) (T := TX5) (N := 4) hx hb hts hi_X5 hown hK hP 0 rfl rfl 1 (by decide) hf_19 (fun _ h9 => h9) rfl dX5_dispute_1 ?_
  refine lv_iload_n hx hb dX5_dispute_4 rfl (lv_at hl 1 rfl) ?_
  have hPc := hP.sub (ws' := [((a 4), .inr (2, [.int hm, .int aw, .int tk, .ref (a 5), .ref (a 6), .ref (a 7), .ref (a 8), .ref (a 13)])), ((a 13), .inr (0, [.int (nI kn), .ref (a 14), .ref (a 15), .ref (a 16), .ref (a 17)]))]) [1, 4] rfl
  refine va_calli (va_runV (As := [.int p1]) (rest := []) ⟨hx, hb, hml, hown, hts⟩ (c_X2_hasCall l D cI cZ cJ cA s.heap.size a hm aw tk kn p1) (cwV 1 hts gX5_dispute_X2_hasCall rfl rfl rfl (by decide +kernel) ⟨Nat.le_of_ble_eq_true rfl, Nat.le_of_ble_eq_true rfl⟩) ⟨pcR_bl, va_recv hK hPc (ci := 2) (q0 := 0) rfl rfl, fun U hU hW => ⟨rfl, by rw [hU], by rw [hU]; exact hPc, va_K.moved hW.alike hK⟩⟩ rfl rfl hl.1 rfl (lv_room (Nat.le_of_ble_eq_true rfl)) dX5_dispute_5 ⟨Nat.le_of_ble_eq_true rfl, Nat.le_of_ble_eq_true rfl⟩) hS (fun _ h1 h2 => absurd h1 (Nat.not_lt.mpr h2)) (rd_free hS hAR) (fun r_1 u t H locs ht hvm hw hB hz1 hk1 hS => ?_)
  try dsimp only at hw
  have hr_1 := hw
  have hP := rd_P hP hk1
  obtain rfl := hr_1.symm
  refine W.widen (k := 0) (n := 0) (Nat.le_refl _) (Nat.le_refl _) ?_
  refine lv_if_ne (tgt := 21) hx hb dX5_dispute_8 (by decide) (fun c_2 => ?_) (fun c_2 => ?_)
  · refine lv_aload_n hx hb dX5_dispute_21 rfl (lv_at hl 0 rfl) ?_
    refine va_get (D := D) (ci := 5) (v := .ref (a 4)) (C := RX5) (T := TX5) (N := 4) hx hb hts hi_X5 hown hK hP 0 rfl rfl 1 (by decide) hf_19 (fun _ h9 => h9) rfl dX5_dispute_22 ?_
    refine lv_iload_n hx hb dX5_dispute_25 rfl (lv_at hl 1 rfl) ?_
    have hPc := hP.sub (ws' := [((a 4), .inr (2, [.int hm, .int aw, .int tk, .ref (a 5), .ref (a 6), .ref (a 7), .ref (a 8), .ref (a 13)])), ((a 13), .inr (0, [.int (nI kn), .ref (a 14), .ref (a 15), .ref (a 16), .ref (a 17)])), ((a 17), .inl (cZ, 512, .inl kd))]) [1, 4, 8] rfl
    refine va_calli (va_runV (As := [.int p1]) (rest := []) ⟨hx, hb, hml, hown, hts⟩ (c_X2_isDisputed l D cI cZ cJ cA H.size a hm aw tk kn kd p1 (in_wide (hasCall_in hkn c_2) hkn) (by first | assumption | omega)) (cwV 1 hts gX5_dispute_X2_isDisputed rfl rfl rfl (by decide +kernel) ⟨Nat.le_of_ble_eq_true rfl, Nat.le_of_ble_eq_true rfl⟩) ⟨pcR_bl, va_recv hK hPc (ci := 2) (q0 := 0) rfl rfl, fun U hU hW => ⟨rfl, by rw [hU], by rw [hU]; exact hPc, va_K.moved hW.alike hK⟩⟩ rfl rfl hl.1 rfl (lv_room (Nat.le_of_ble_eq_true rfl)) dX5_dispute_26 ⟨Nat.le_of_ble_eq_true rfl, Nat.le_of_ble_eq_true rfl⟩) hS (fun _ h1 h2 => absurd h1 (Nat.not_lt.mpr h2)) (rd_free hS hAR) (fun r_3 u t H locs ht hvm hw hB hz1 hk1 hS => ?_)
    try dsimp only at hw
    have hr_3 := hw
    have hP := rd_P hP hk1
    obtain rfl := hr_3.symm
    refine W.widen (k := 0) (n := 0) (Nat.le_refl _) (Nat.le_refl _) ?_
    refine lv_if_eq (tgt := 42) hx hb dX5_dispute_29 (by decide) (fun c_4 => ?_) (fun c_4 => ?_)
    · refine lv_aload_n hx hb dX5_dispute_42 rfl (lv_at hl 0 rfl) ?_
      refine va_get (D := D) (ci := 5) (v := .ref (a 4)) (C := RX5) (T := TX5) (N := 4) hx hb hts hi_X5 hown hK hP 0 rfl rfl 1 (by decide) hf_19 (fun _ h9 => h9) rfl dX5_dispute_43 ?_
      refine lv_iload_n hx hb dX5_dispute_46 rfl (lv_at hl 1 rfl) ?_
      have hPc := hP.sub (ws' := [((a 4), .inr (2, [.int hm, .int aw, .int tk, .ref (a 5), .ref (a 6), .ref (a 7), .ref (a 8), .ref (a 13)])), ((a 5), .inl (cI, 6, .inl ce)), ((a 6), .inl (cI, 6, .inl hi)), ((a 13), .inr (0, [.int (nI kn), .ref (a 14), .ref (a 15), .ref (a 16), .ref (a 17)])), ((a 14), .inl (cI, 512, .inl ka)), ((a 15), .inl (cI, 512, .inl kb)), ((a 16), .inl (cI, 512, .inl kc)), ((a 17), .inl (cZ, 512, .inl kd))]) [1, 2, 3, 4, 5, 6, 7, 8] rfl
      have hS := va_S_mono hS hA
      have hDc := hD.sub (ws' := [((a 4), .inr (2, [.int hm, .int aw, .int tk, .ref (a 5), .ref (a 6), .ref (a 7), .ref (a 8), .ref (a 13)])), ((a 5), .inl (cI, 6, .inl ce)), ((a 6), .inl (cI, 6, .inl hi)), ((a 13), .inr (0, [.int (nI kn), .ref (a 14), .ref (a 15), .ref (a 16), .ref (a 17)])), ((a 14), .inl (cI, 512, .inl ka)), ((a 15), .inl (cI, 512, .inl kb)), ((a 16), .inl (cI, 512, .inl kc)), ((a 17), .inl (cZ, 512, .inl kd))]) [1, 2, 3, 4, 5, 6, 7, 8] (by decide) rfl
      have hFc := va_free (wc := [((a 4), .inr (2, [.int hm, .int aw, .int tk, .ref (a 5), .ref (a 6), .ref (a 7), .ref (a 8), .ref (a 13)])), ((a 5), .inl (cI, 6, .inl ce)), ((a 6), .inl (cI, 6, .inl hi)), ((a 13), .inr (0, [.int (nI kn), .ref (a 14), .ref (a 15), .ref (a 16), .ref (a 17)])), ((a 14), .inl (cI, 512, .inl ka)), ((a 15), .inl (cI, 512, .inl kb)), ((a 16), .inl (cI, 512, .inl kc)), ((a 17), .inl (cZ, 512, .inl kd))]) hD hS hA [1, 2, 3, 4, 5, 6, 7, 8] rfl
      refine va_calli (va_runV (As := [.int p1]) (rest := []) ⟨hx, hb, hml, hown, hts⟩ (c_X2_judge l D cI cZ cJ cA H.size a hm aw tk ce hi kn ka kb kc kd p1 (in_wide (hasCall_in hkn c_2) hkn) (hka _ (in_cl (hasCall_in hkn c_2)))) (cwV 1 hts gX5_dispute_X2_judge rfl rfl rfl (by decide +kernel) ⟨Nat.le_of_ble_eq_true rfl, Nat.le_of_ble_eq_true rfl⟩) ⟨pcW_bl, va_recv hK hPc (ci := 2) (q0 := 0) rfl rfl, fun U hU hW => ⟨rfl, by rw [hU], by rw [hU]; exact hPc, va_K.moved hW.alike hK, hDc.weaken (fun _ _ _ _ => trivial)⟩⟩ rfl rfl hl.1 rfl (lv_room (Nat.le_of_ble_eq_true rfl)) dX5_dispute_47 ⟨Nat.le_of_ble_eq_true rfl, Nat.le_of_ble_eq_true rfl⟩) hS (fun q _ h => hFc q h) hFc (fun r_5 u t H locs ht hvm hw hB hz1 hk1 hS => ?_)
      try dsimp only at hw
      obtain ⟨u0_5, u1_5⟩ := u
      try dsimp only at hw
      obtain ⟨hr_5, hu0_5, hu1_5⟩ := hw
      obtain ⟨hP1, hK1, hD1⟩ := hB
      rw [ht] at hP1
      obtain ⟨hP, hD⟩ := va_join (wr := [((a 0), .inr (5, [.ref (a 2), .ref (a 4), .ref (a 18), .ref (a 1)])), ((a 18), .inr (4, [.ref (a 19), .ref (a 20), .ref (a 21), .ref (a 22)])), ((a 20), .inl (cI, 6, .inl fn))]) (w1 := [((a 4), .inr (2, [.int hm, .int aw, .int tk, .ref (a 5), .ref (a 6), .ref (a 7), .ref (a 8), .ref (a 13)])), ((a 5), .inl (cI, 6, .inl u0_5)), ((a 6), .inl (cI, 6, .inl hi)), ((a 13), .inr (0, [.int (nI kn), .ref (a 14), .ref (a 15), .ref (a 16), .ref (a 17)])), ((a 14), .inl (cI, 512, .inl ka)), ((a 15), .inl (cI, 512, .inl kb)), ((a 16), .inl (cI, 512, .inl kc)), ((a 17), .inl (cZ, 512, .inl u1_5))]) hP hD [1, 2, 3, 4, 5, 6, 7, 8] [0, 9, 10] rfl rfl (by decide) (by decide) hk1 hFc hP1 hD1
      obtain rfl := hu0_5.symm
      obtain rfl := hu1_5.symm
      have hP : va_P D vwCl [((a 0), .inr (5, [.ref (a 2), .ref (a 4), .ref (a 18), .ref (a 1)])), ((a 18), .inr (4, [.ref (a 19), .ref (a 20), .ref (a 21), .ref (a 22)])), ((a 20), .inl (cI, 6, .inl fn)), ((a 4), .inr (2, [.int hm, .int aw, .int tk, .ref (a 5), .ref (a 6), .ref (a 7), .ref (a 8), .ref (a 13)])), ((a 5), .inl (cI, 6, .inl (g_ce_X2_judge hm aw tk ce hi kn ka kb kc kd p1))), ((a 6), .inl (cI, 6, .inl hi)), ((a 13), .inr (0, [.int (nI kn), .ref (a 14), .ref (a 15), .ref (a 16), .ref (a 17)])), ((a 14), .inl (cI, 512, .inl ka)), ((a 15), .inl (cI, 512, .inl kb)), ((a 16), .inl (cI, 512, .inl kc)), ((a 17), .inl (cZ, 512, .inl (upd kd p1.toNatClampNeg 1)))] H := hP
      have hD : va_D A [((a 0), .inr (5, [.ref (a 2), .ref (a 4), .ref (a 18), .ref (a 1)])), ((a 18), .inr (4, [.ref (a 19), .ref (a 20), .ref (a 21), .ref (a 22)])), ((a 20), .inl (cI, 6, .inl fn)), ((a 4), .inr (2, [.int hm, .int aw, .int tk, .ref (a 5), .ref (a 6), .ref (a 7), .ref (a 8), .ref (a 13)])), ((a 5), .inl (cI, 6, .inl (g_ce_X2_judge hm aw tk ce hi kn ka kb kc kd p1))), ((a 6), .inl (cI, 6, .inl hi)), ((a 13), .inr (0, [.int (nI kn), .ref (a 14), .ref (a 15), .ref (a 16), .ref (a 17)])), ((a 14), .inl (cI, 512, .inl ka)), ((a 15), .inl (cI, 512, .inl kb)), ((a 16), .inl (cI, 512, .inl kc)), ((a 17), .inl (cZ, 512, .inl (upd kd p1.toNatClampNeg 1)))] := hD
      obtain rfl := hr_5.symm
      refine W.widen (k := 0) (n := 0) (Nat.le_refl _) (Nat.le_refl _) ?_
      refine lv_istore_n (lv' := [(2, .int (f_X2_judge hm aw tk ce hi kn ka kb kc kd p1)), (0, .ref (a 0)), (1, .int p1)]) hx hb dX5_dispute_50 rfl hl (by decide) rfl (fun ls hl => ?_)
      refine lv_iload_n hx hb dX5_dispute_51 rfl (lv_at hl 0 rfl) ?_
      refine lv_if_eq (tgt := 70) hx hb dX5_dispute_52 (by decide) (fun c_6 => ?_) (fun c_6 => ?_)
      · refine lv_iload_n hx hb dX5_dispute_70 rfl (lv_at hl 0 rfl) ?_
        have hP9 := hP.sub (ws' := [((a 0), .inr (5, [.ref (a 2), .ref (a 4), .ref (a 18), .ref (a 1)])), ((a 4), .inr (2, [.int hm, .int aw, .int tk, .ref (a 5), .ref (a 6), .ref (a 7), .ref (a 8), .ref (a 13)])), ((a 5), .inl (cI, 6, .inl (g_ce_X2_judge hm aw tk ce hi kn ka kb kc kd p1))), ((a 6), .inl (cI, 6, .inl hi)), ((a 13), .inr (0, [.int (nI kn), .ref (a 14), .ref (a 15), .ref (a 16), .ref (a 17)])), ((a 14), .inl (cI, 512, .inl ka)), ((a 15), .inl (cI, 512, .inl kb)), ((a 16), .inl (cI, 512, .inl kc)), ((a 17), .inl (cZ, 512, .inl (upd kd p1.toNatClampNeg 1))), ((a 18), .inr (4, [.ref (a 19), .ref (a 20), .ref (a 21), .ref (a 22)])), ((a 20), .inl (cI, 6, .inl fn))]) [0, 3, 4, 5, 6, 7, 8, 9, 10, 1, 2] rfl
        have hD9 := hD.sub (ws' := [((a 0), .inr (5, [.ref (a 2), .ref (a 4), .ref (a 18), .ref (a 1)])), ((a 4), .inr (2, [.int hm, .int aw, .int tk, .ref (a 5), .ref (a 6), .ref (a 7), .ref (a 8), .ref (a 13)])), ((a 5), .inl (cI, 6, .inl (g_ce_X2_judge hm aw tk ce hi kn ka kb kc kd p1))), ((a 6), .inl (cI, 6, .inl hi)), ((a 13), .inr (0, [.int (nI kn), .ref (a 14), .ref (a 15), .ref (a 16), .ref (a 17)])), ((a 14), .inl (cI, 512, .inl ka)), ((a 15), .inl (cI, 512, .inl kb)), ((a 16), .inl (cI, 512, .inl kc)), ((a 17), .inl (cZ, 512, .inl (upd kd p1.toNatClampNeg 1))), ((a 18), .inr (4, [.ref (a 19), .ref (a 20), .ref (a 21), .ref (a 22)])), ((a 20), .inl (cI, 6, .inl fn))]) [0, 3, 4, 5, 6, 7, 8, 9, 10, 1, 2] (by decide) rfl
        -- leaf 0
        refine W.widen (k := 1) (n := 6) (Nat.le_of_ble_eq_true rfl) (Nat.le_of_ble_eq_true rfl) ?_
        exact vx_ret (W.zret (v := f_X2_judge hm aw tk ce hi kn ka kb kc kd p1) (ty := .boolean) hx hb hr (nz01 judge01) (fun t ht hW => ⟨⟨f_X2_judge hm aw tk ce hi kn ka kb kc kd p1, ((g_ce_X2_judge hm aw tk ce hi kn ka kb kc kd p1), (upd kd p1.toNatClampNeg 1), fn), rfl, ⟨(by rw [k_X5_dispute, if_neg c_2, if_pos c_4]), rfl, rfl, rfl, (by rw [g_fn_X5_dispute, if_pos c_6])⟩, by rw [ht]; exact hP9, va_K.moved hW.alike hK, hD9⟩, hS.F ht⟩) hS.2.2 dX5_dispute_71)
      · refine lv_aload_n hx hb dX5_dispute_55 rfl (lv_at hl 1 rfl) ?_
        refine va_get (D := D) (ci := 5) (v := .ref (a 18)) (C := RX5) (T := TX5) (N := 4) hx hb hts hi_X5 hown hK hP 0 rfl rfl 2 (by decide) hf_26 (fun _ h9 => h9) rfl dX5_dispute_56 ?_
        refine lv_aload_n hx hb dX5_dispute_59 rfl (lv_at hl 1 rfl) ?_
        refine va_get (D := D) (ci := 5) (v := .ref (a 4)) (C := RX5) (T := TX5) (N := 4) hx hb hts hi_X5 hown hK hP 0 rfl rfl 1 (by decide) hf_19 (fun _ h9 => h9) rfl dX5_dispute_60 ?_
        refine lv_iload_n hx hb dX5_dispute_63 rfl (lv_at hl 2 rfl) ?_
        have hPc := hP.sub (ws' := [((a 4), .inr (2, [.int hm, .int aw, .int tk, .ref (a 5), .ref (a 6), .ref (a 7), .ref (a 8), .ref (a 13)])), ((a 13), .inr (0, [.int (nI kn), .ref (a 14), .ref (a 15), .ref (a 16), .ref (a 17)])), ((a 14), .inl (cI, 512, .inl ka))]) [3, 6, 7] rfl
        refine va_calli (va_runV (As := [.int p1]) (rest := [.ref (a 18)]) ⟨hx, hb, hml, hown, hts⟩ (c_X2_teamCalled l D cI cZ cJ cA H.size a hm aw tk kn ka p1 (in_wide (hasCall_in hkn c_2) hkn)) (cwV 1 hts gX5_dispute_X2_teamCalled rfl rfl rfl (by decide +kernel) ⟨Nat.le_of_ble_eq_true rfl, Nat.le_of_ble_eq_true rfl⟩) ⟨pcR_bl, va_recv hK hPc (ci := 2) (q0 := 0) rfl rfl, fun U hU hW => ⟨rfl, by rw [hU], by rw [hU]; exact hPc, va_K.moved hW.alike hK⟩⟩ rfl rfl hl.1 rfl (lv_room (Nat.le_of_ble_eq_true rfl)) dX5_dispute_64 ⟨Nat.le_of_ble_eq_true rfl, Nat.le_of_ble_eq_true rfl⟩) hS (fun _ h1 h2 => absurd h1 (Nat.not_lt.mpr h2)) (rd_free hS hA) (fun r_7 u t H locs ht hvm hw hB hz1 hk1 hS => ?_)
        try dsimp only at hw
        have hr_7 := hw
        have hP := rd_P hP hk1
        obtain rfl := hr_7.symm
        refine W.widen (k := 0) (n := 0) (Nat.le_refl _) (Nat.le_refl _) ?_
        have hPc := hP.sub (ws' := [((a 18), .inr (4, [.ref (a 19), .ref (a 20), .ref (a 21), .ref (a 22)])), ((a 20), .inl (cI, 6, .inl fn))]) [1, 2] rfl
        have hDc := hD.sub (ws' := [((a 18), .inr (4, [.ref (a 19), .ref (a 20), .ref (a 21), .ref (a 22)])), ((a 20), .inl (cI, 6, .inl fn))]) [1, 2] (by decide) rfl
        have hFc := va_free (wc := [((a 18), .inr (4, [.ref (a 19), .ref (a 20), .ref (a 21), .ref (a 22)])), ((a 20), .inl (cI, 6, .inl fn))]) hD hS hA [1, 2] rfl
        refine va_callv (va_runV (As := [.int (f_X2_teamCalled hm aw tk kn ka p1)]) (rest := []) ⟨hx, hb, hml, hown, hts⟩ (c_X4_fine l D cI cZ cJ cA H.size a fn (f_X2_teamCalled hm aw tk kn ka p1) (team_in hhm haw)) (cwV 1 hts gX5_dispute_X4_fine rfl rfl rfl (by decide +kernel) ⟨Nat.le_of_ble_eq_true rfl, Nat.le_of_ble_eq_true rfl⟩) ⟨pcW_bl, va_recv hK hPc (ci := 4) (q0 := 0) rfl rfl, fun U hU hW => ⟨rfl, by rw [hU], by rw [hU]; exact hPc, va_K.moved hW.alike hK, hDc.weaken (fun _ _ _ _ => trivial)⟩⟩ rfl rfl hl.1 rfl (lv_room (Nat.le_of_ble_eq_true rfl)) dX5_dispute_67 ⟨Nat.le_of_ble_eq_true rfl, Nat.le_of_ble_eq_true rfl⟩) hS (fun q _ h => hFc q h) hFc (fun u t H locs ht hvm hw hB hz1 hk1 hS => ?_)
        try dsimp only at hw
        obtain ⟨u0_8, rfl⟩ : ∃ z, z = u := ⟨_, rfl⟩
        have hu0_8 := hw
        obtain ⟨hP1, hK1, hD1⟩ := hB
        rw [ht] at hP1
        obtain ⟨hP, hD⟩ := va_join (wr := [((a 0), .inr (5, [.ref (a 2), .ref (a 4), .ref (a 18), .ref (a 1)])), ((a 4), .inr (2, [.int hm, .int aw, .int tk, .ref (a 5), .ref (a 6), .ref (a 7), .ref (a 8), .ref (a 13)])), ((a 5), .inl (cI, 6, .inl (g_ce_X2_judge hm aw tk ce hi kn ka kb kc kd p1))), ((a 6), .inl (cI, 6, .inl hi)), ((a 13), .inr (0, [.int (nI kn), .ref (a 14), .ref (a 15), .ref (a 16), .ref (a 17)])), ((a 14), .inl (cI, 512, .inl ka)), ((a 15), .inl (cI, 512, .inl kb)), ((a 16), .inl (cI, 512, .inl kc)), ((a 17), .inl (cZ, 512, .inl (upd kd p1.toNatClampNeg 1)))]) (w1 := [((a 18), .inr (4, [.ref (a 19), .ref (a 20), .ref (a 21), .ref (a 22)])), ((a 20), .inl (cI, 6, .inl u0_8))]) hP hD [1, 2] [0, 3, 4, 5, 6, 7, 8, 9, 10] rfl rfl (by decide) (by decide) hk1 hFc hP1 hD1
        obtain rfl := hu0_8.symm
        have hP : va_P D vwCl [((a 0), .inr (5, [.ref (a 2), .ref (a 4), .ref (a 18), .ref (a 1)])), ((a 4), .inr (2, [.int hm, .int aw, .int tk, .ref (a 5), .ref (a 6), .ref (a 7), .ref (a 8), .ref (a 13)])), ((a 5), .inl (cI, 6, .inl (g_ce_X2_judge hm aw tk ce hi kn ka kb kc kd p1))), ((a 6), .inl (cI, 6, .inl hi)), ((a 13), .inr (0, [.int (nI kn), .ref (a 14), .ref (a 15), .ref (a 16), .ref (a 17)])), ((a 14), .inl (cI, 512, .inl ka)), ((a 15), .inl (cI, 512, .inl kb)), ((a 16), .inl (cI, 512, .inl kc)), ((a 17), .inl (cZ, 512, .inl (upd kd p1.toNatClampNeg 1))), ((a 18), .inr (4, [.ref (a 19), .ref (a 20), .ref (a 21), .ref (a 22)])), ((a 20), .inl (cI, 6, .inl (upd fn (f_X2_teamCalled hm aw tk kn ka p1).toNatClampNeg ((fn (f_X2_teamCalled hm aw tk kn ka p1).toNatClampNeg) + 1))))] H := hP
        have hD : va_D A [((a 0), .inr (5, [.ref (a 2), .ref (a 4), .ref (a 18), .ref (a 1)])), ((a 4), .inr (2, [.int hm, .int aw, .int tk, .ref (a 5), .ref (a 6), .ref (a 7), .ref (a 8), .ref (a 13)])), ((a 5), .inl (cI, 6, .inl (g_ce_X2_judge hm aw tk ce hi kn ka kb kc kd p1))), ((a 6), .inl (cI, 6, .inl hi)), ((a 13), .inr (0, [.int (nI kn), .ref (a 14), .ref (a 15), .ref (a 16), .ref (a 17)])), ((a 14), .inl (cI, 512, .inl ka)), ((a 15), .inl (cI, 512, .inl kb)), ((a 16), .inl (cI, 512, .inl kc)), ((a 17), .inl (cZ, 512, .inl (upd kd p1.toNatClampNeg 1))), ((a 18), .inr (4, [.ref (a 19), .ref (a 20), .ref (a 21), .ref (a 22)])), ((a 20), .inl (cI, 6, .inl (upd fn (f_X2_teamCalled hm aw tk kn ka p1).toNatClampNeg ((fn (f_X2_teamCalled hm aw tk kn ka p1).toNatClampNeg) + 1))))] := hD
        refine W.widen (k := 0) (n := 0) (Nat.le_refl _) (Nat.le_refl _) ?_
        refine lv_iload_n hx hb dX5_dispute_70 rfl (lv_at hl 0 rfl) ?_
        have hP9 := hP.sub (ws' := [((a 0), .inr (5, [.ref (a 2), .ref (a 4), .ref (a 18), .ref (a 1)])), ((a 4), .inr (2, [.int hm, .int aw, .int tk, .ref (a 5), .ref (a 6), .ref (a 7), .ref (a 8), .ref (a 13)])), ((a 5), .inl (cI, 6, .inl (g_ce_X2_judge hm aw tk ce hi kn ka kb kc kd p1))), ((a 6), .inl (cI, 6, .inl hi)), ((a 13), .inr (0, [.int (nI kn), .ref (a 14), .ref (a 15), .ref (a 16), .ref (a 17)])), ((a 14), .inl (cI, 512, .inl ka)), ((a 15), .inl (cI, 512, .inl kb)), ((a 16), .inl (cI, 512, .inl kc)), ((a 17), .inl (cZ, 512, .inl (upd kd p1.toNatClampNeg 1))), ((a 18), .inr (4, [.ref (a 19), .ref (a 20), .ref (a 21), .ref (a 22)])), ((a 20), .inl (cI, 6, .inl (upd fn (f_X2_teamCalled hm aw tk kn ka p1).toNatClampNeg ((fn (f_X2_teamCalled hm aw tk kn ka p1).toNatClampNeg) + 1))))]) [0, 1, 2, 3, 4, 5, 6, 7, 8, 9, 10] rfl
        have hD9 := hD.sub (ws' := [((a 0), .inr (5, [.ref (a 2), .ref (a 4), .ref (a 18), .ref (a 1)])), ((a 4), .inr (2, [.int hm, .int aw, .int tk, .ref (a 5), .ref (a 6), .ref (a 7), .ref (a 8), .ref (a 13)])), ((a 5), .inl (cI, 6, .inl (g_ce_X2_judge hm aw tk ce hi kn ka kb kc kd p1))), ((a 6), .inl (cI, 6, .inl hi)), ((a 13), .inr (0, [.int (nI kn), .ref (a 14), .ref (a 15), .ref (a 16), .ref (a 17)])), ((a 14), .inl (cI, 512, .inl ka)), ((a 15), .inl (cI, 512, .inl kb)), ((a 16), .inl (cI, 512, .inl kc)), ((a 17), .inl (cZ, 512, .inl (upd kd p1.toNatClampNeg 1))), ((a 18), .inr (4, [.ref (a 19), .ref (a 20), .ref (a 21), .ref (a 22)])), ((a 20), .inl (cI, 6, .inl (upd fn (f_X2_teamCalled hm aw tk kn ka p1).toNatClampNeg ((fn (f_X2_teamCalled hm aw tk kn ka p1).toNatClampNeg) + 1))))]) [0, 1, 2, 3, 4, 5, 6, 7, 8, 9, 10] (by decide) rfl
        -- leaf 1
        refine W.widen (k := 1) (n := 6) (Nat.le_of_ble_eq_true rfl) (Nat.le_of_ble_eq_true rfl) ?_
        exact vx_ret (W.zret (v := f_X2_judge hm aw tk ce hi kn ka kb kc kd p1) (ty := .boolean) hx hb hr (nz01 judge01) (fun t ht hW => ⟨⟨f_X2_judge hm aw tk ce hi kn ka kb kc kd p1, ((g_ce_X2_judge hm aw tk ce hi kn ka kb kc kd p1), (upd kd p1.toNatClampNeg 1), (upd fn (f_X2_teamCalled hm aw tk kn ka p1).toNatClampNeg ((fn (f_X2_teamCalled hm aw tk kn ka p1).toNatClampNeg) + 1))), rfl, ⟨(by rw [k_X5_dispute, if_neg c_2, if_pos c_4]), rfl, rfl, rfl, (by rw [g_fn_X5_dispute, if_neg c_6])⟩, by rw [ht]; exact hP9, va_K.moved hW.alike hK, hD9⟩, hS.F ht⟩) hS.2.2 dX5_dispute_71)
    · exact vx_throwS (A := (fun q : Nat => s.heap.size ≤ q)) hx hb hlt hown (by decide +kernel) (by decide +kernel) hcl_42 hie_3 (hE.s143) hat_46 (by decide +kernel) hE.u hE.n hS (hl.1.trans hml.symm) dX5_dispute_32 dX5_dispute_35 dX5_dispute_36 dX5_dispute_38 dX5_dispute_41 (fun x h => absurd h (hT0 x)) (Nat.le_of_ble_eq_true rfl) (Nat.le_of_ble_eq_true rfl) (Nat.le_of_ble_eq_true rfl) (Nat.le_of_ble_eq_true rfl) hlocks (fun t1 h1 h2 h3 => ⟨(), trivial, thr_3 (by rw [k_X5_dispute, if_neg c_2, if_neg c_4]), va_F_of hS h2 h3⟩) (fun z hz => hA _ (hS.2.2 z hz)) (Nat.le_of_ble_eq_true rfl) (Nat.le_of_ble_eq_true rfl)
  · exact vx_throwS (A := (fun q : Nat => s.heap.size ≤ q)) hx hb hlt hown (by decide +kernel) (by decide +kernel) hcl_135 hie_1 (hE.s137) hat_139 (by decide +kernel) hE.u hE.n hS (hl.1.trans hml.symm) dX5_dispute_11 dX5_dispute_14 dX5_dispute_15 dX5_dispute_17 dX5_dispute_20 (fun x h => absurd h (hT0 x)) (Nat.le_of_ble_eq_true rfl) (Nat.le_of_ble_eq_true rfl) (Nat.le_of_ble_eq_true rfl) (Nat.le_of_ble_eq_true rfl) hlocks (fun t1 h1 h2 h3 => ⟨(), trivial, thr_1 (by rw [k_X5_dispute, if_pos c_2]), va_F_of hS h2 h3⟩) (fun z hz => hA _ (hS.2.2 z hz)) (Nat.le_of_ble_eq_true rfl) (Nat.le_of_ble_eq_true rfl)

/-- class: behind n ticks: how many struck, the tick, the hits -/
noncomputable def psN (bk : Nat → Int32) (hm aw tk : Int32) (ce hi : Nat → Int32) (sn : Nat) (sa sb sc sd : Nat → Int32) : Nat → Int32 × Int32 × (Nat → Int32)
  | 0 => (0, tk, hi)
  | n + 1 => ((psN bk hm aw tk ce hi sn sa sb sc sd n).1 + (ntS bk hm aw ((psN bk hm aw tk ce hi sn sa sb sc sd n).2.1 + 1) ce (psN bk hm aw tk ce hi sn sa sb sc sd n).2.2 sn sa sb sc sd sn).1, (psN bk hm aw tk ce hi sn sa sb sc sd n).2.1 + 1, (ntS bk hm aw ((psN bk hm aw tk ce hi sn sa sb sc sd n).2.1 + 1) ce (psN bk hm aw tk ce hi sn sa sb sc sd n).2.2 sn sa sb sc sd sn).2)
termination_by n => n
noncomputable def k_X5_pass (bk : Nat → Int32) (hm : Int32) (aw : Int32) (tk : Int32) (ce : Nat → Int32) (hi : Nat → Int32) (sn : Nat) (sa : Nat → Int32) (sb : Nat → Int32) (sc : Nat → Int32) (sd : Nat → Int32) (p1 : Int32) : Int32 := if p1 < 1 then 2 else (if p1 ≤ 50 then (if (k_X5_checkRound hm aw tk) = 0 then 0 else k_X5_checkRound hm aw tk) else 2)
set_option maxHeartbeats 4000000 in
set_option maxRecDepth 100000 in
theorem c_X5_pass (l : Launch) (hlt : l.stackTraces = false) (D : va_G) (cI cZ cJ cA : ClassId) (sx : Nat → Nat) (sz : Nat) (a : Nat → Nat) (bk : Nat → Int32) (hm : Int32) (aw : Int32) (tk : Int32) (ce : Nat → Int32) (hi : Nat → Int32) (sn : Nat) (sa : Nat → Int32) (sb : Nat → Int32) (sc : Nat → Int32) (sd : Nat → Int32) (p1 : Int32) (h1 : sn ≤ 100) (h2 : ∀ j : Nat, j < sn → vp_in (sb j) 144) (h3 : ∀ j : Nat, j < sn → vp_in (sc j) 144) : vx_Met l yX5_pass wsX5_pass ({ frames := 7, cells := 2, slots := 12, locals := 124 } : Room) (va_Pc [.ref (a 0), .int p1] (pcX (pcW D (tyL cI cZ cJ cA) [((a 0), .inr (5, [.ref (a 2), .ref (a 4), .ref (a 18), .ref (a 1)])), ((a 4), .inr (2, [.int hm, .int aw, .int tk, .ref (a 5), .ref (a 6), .ref (a 7), .ref (a 8), .ref (a 13)])), ((a 5), .inl (cI, 6, .inl ce)), ((a 6), .inl (cI, 6, .inl hi)), ((a 8), .inr (3, [.int (nI sn), .ref (a 9), .ref (a 10), .ref (a 11), .ref (a 12)])), ((a 9), .inl (cI, 100, .inl sa)), ((a 10), .inl (cI, 100, .inl sb)), ((a 11), .inl (cI, 100, .inl sc)), ((a 12), .inl (cI, 100, .inl sd)), ((a 2), .inr (1, [.ref (a 3)])), ((a 3), .inl (cZ, 144, .inl bk))] sz) sx (va_A [((a 0), .inr (5, [.ref (a 2), .ref (a 4), .ref (a 18), .ref (a 1)])), ((a 4), .inr (2, [.int hm, .int aw, .int tk, .ref (a 5), .ref (a 6), .ref (a 7), .ref (a 8), .ref (a 13)])), ((a 5), .inl (cI, 6, .inl ce)), ((a 6), .inl (cI, 6, .inl hi)), ((a 8), .inr (3, [.int (nI sn), .ref (a 9), .ref (a 10), .ref (a 11), .ref (a 12)])), ((a 9), .inl (cI, 100, .inl sa)), ((a 10), .inl (cI, 100, .inl sb)), ((a 11), .inl (cI, 100, .inl sc)), ((a 12), .inl (cI, 100, .inl sd)), ((a 2), .inr (1, [.ref (a 3)])), ((a 3), .inl (cZ, 144, .inl bk))] sz))) (va_Qi (fun (r : Int32) (u : (Int32) × (Nat → Int32)) => (k_X5_pass bk hm aw tk ce hi sn sa sb sc sd p1) = 0 ∧ r = (psN bk hm aw tk ce hi sn sa sb sc sd p1.toNatClampNeg).1 ∧ u.1 = (psN bk hm aw tk ce hi sn sa sb sc sd p1.toNatClampNeg).2.1 ∧ u.2 = (psN bk hm aw tk ce hi sn sa sb sc sd p1.toNatClampNeg).2.2) (fun u t => bcW D (tyL cI cZ cJ cA) (va_A [((a 0), .inr (5, [.ref (a 2), .ref (a 4), .ref (a 18), .ref (a 1)])), ((a 4), .inr (2, [.int hm, .int aw, .int tk, .ref (a 5), .ref (a 6), .ref (a 7), .ref (a 8), .ref (a 13)])), ((a 5), .inl (cI, 6, .inl ce)), ((a 6), .inl (cI, 6, .inl hi)), ((a 8), .inr (3, [.int (nI sn), .ref (a 9), .ref (a 10), .ref (a 11), .ref (a 12)])), ((a 9), .inl (cI, 100, .inl sa)), ((a 10), .inl (cI, 100, .inl sb)), ((a 11), .inl (cI, 100, .inl sc)), ((a 12), .inl (cI, 100, .inl sd)), ((a 2), .inr (1, [.ref (a 3)])), ((a 3), .inl (cZ, 144, .inl bk))] sz) [((a 0), .inr (5, [.ref (a 2), .ref (a 4), .ref (a 18), .ref (a 1)])), ((a 4), .inr (2, [.int hm, .int aw, .int u.1, .ref (a 5), .ref (a 6), .ref (a 7), .ref (a 8), .ref (a 13)])), ((a 5), .inl (cI, 6, .inl ce)), ((a 6), .inl (cI, 6, .inl u.2)), ((a 8), .inr (3, [.int (nI sn), .ref (a 9), .ref (a 10), .ref (a 11), .ref (a 12)])), ((a 9), .inl (cI, 100, .inl sa)), ((a 10), .inl (cI, 100, .inl sb)), ((a 11), .inl (cI, 100, .inl sc)), ((a 12), .inl (cI, 100, .inl sd)), ((a 2), .inr (1, [.ref (a 3)])), ((a 3), .inl (cZ, 144, .inl bk))] t) (va_A [((a 0), .inr (5, [.ref (a 2), .ref (a 4), .ref (a 18), .ref (a 1)])), ((a 4), .inr (2, [.int hm, .int aw, .int tk, .ref (a 5), .ref (a 6), .ref (a 7), .ref (a 8), .ref (a 13)])), ((a 5), .inl (cI, 6, .inl ce)), ((a 6), .inl (cI, 6, .inl hi)), ((a 8), .inr (3, [.int (nI sn), .ref (a 9), .ref (a 10), .ref (a 11), .ref (a 12)])), ((a 9), .inl (cI, 100, .inl sa)), ((a 10), .inl (cI, 100, .inl sb)), ((a 11), .inl (cI, 100, .inl sc)), ((a 12), .inl (cI, 100, .inl sd)), ((a 2), .inr (1, [.ref (a 3)])), ((a 3), .inl (cZ, 144, .inl bk))] sz)) (vx_X (fun _ : Unit => True) (fun E _ _ => thr E (k_X5_pass bk hm aw tk ce hi sn sa sb sc sd p1)) (fun q : Nat => sz ≤ q)) 2 12 (va_A [((a 0), .inr (5, [.ref (a 2), .ref (a 4), .ref (a 18), .ref (a 1)])), ((a 4), .inr (2, [.int hm, .int aw, .int tk, .ref (a 5), .ref (a 6), .ref (a 7), .ref (a 8), .ref (a 13)])), ((a 5), .inl (cI, 6, .inl ce)), ((a 6), .inl (cI, 6, .inl hi)), ((a 8), .inr (3, [.int (nI sn), .ref (a 9), .ref (a 10), .ref (a 11), .ref (a 12)])), ((a 9), .inl (cI, 100, .inl sa)), ((a 10), .inl (cI, 100, .inl sb)), ((a 11), .inl (cI, 100, .inl sc)), ((a 12), .inl (cI, 100, .inl sd)), ((a 2), .inr (1, [.ref (a 3)])), ((a 3), .inl (cZ, 144, .inl bk))] sz) := by
  refine vx_ofW (cc := cX5_pass) (maxL := 4) (ret := (some .int)) (by decide) rfl ?_
  intro p e s m args below meth c s₁ B hml hT0 hv
  obtain ⟨rfl, ⟨hsz, hP, hK, hD0⟩, hE⟩ := hv
  have hx := B.exec
  have hb := B.bytes
  have hr := B.returns
  have hts := atoms_spec (ws := wsX5_pass) B.pre
  have hown : s.vm.findClass RX5 = some m.cls := findClass_of_methodNamed B.named
  have hlocks := B.notSynchronized
  subst hsz
  have hD := hD0.self (sz := s.heap.size)
  have hE := hE.narrow (B := fun q : Nat => s.heap.size ≤ q) (fun q h => Or.inr h)
  generalize hAe : va_A [((a 0), .inr (5, [.ref (a 2), .ref (a 4), .ref (a 18), .ref (a 1)])), ((a 4), .inr (2, [.int hm, .int aw, .int tk, .ref (a 5), .ref (a 6), .ref (a 7), .ref (a 8), .ref (a 13)])), ((a 5), .inl (cI, 6, .inl ce)), ((a 6), .inl (cI, 6, .inl hi)), ((a 8), .inr (3, [.int (nI sn), .ref (a 9), .ref (a 10), .ref (a 11), .ref (a 12)])), ((a 9), .inl (cI, 100, .inl sa)), ((a 10), .inl (cI, 100, .inl sb)), ((a 11), .inl (cI, 100, .inl sc)), ((a 12), .inl (cI, 100, .inl sd)), ((a 2), .inr (1, [.ref (a 3)])), ((a 3), .inl (cZ, 144, .inl bk))] s.heap.size = A at hD ⊢
  have hA : ∀ q : Nat, s.heap.size ≤ q → A q := fun q h => by rw [← hAe]; exact Or.inr h
  have hAR : ∀ q : Nat, s.heap.size ≤ q → (fun q : Nat => s.heap.size ≤ q) q := fun _ h => h
  have hS : va_S (fun q : Nat => s.heap.size ≤ q) s.heap s.heap [] := va_S.rf
  have hP : va_P D vwCl [((a 0), .inr (5, [.ref (a 2), .ref (a 4), .ref (a 18), .ref (a 1)])), ((a 4), .inr (2, [.int hm, .int aw, .int tk, .ref (a 5), .ref (a 6), .ref (a 7), .ref (a 8), .ref (a 13)])), ((a 5), .inl (cI, 6, .inl ce)), ((a 6), .inl (cI, 6, .inl hi)), ((a 8), .inr (3, [.int (nI sn), .ref (a 9), .ref (a 10), .ref (a 11), .ref (a 12)])), ((a 9), .inl (cI, 100, .inl sa)), ((a 10), .inl (cI, 100, .inl sb)), ((a 11), .inl (cI, 100, .inl sc)), ((a 12), .inl (cI, 100, .inl sd)), ((a 2), .inr (1, [.ref (a 3)])), ((a 3), .inl (cZ, 144, .inl bk))] s.heap := hP
  have hl := lv_entry ([.ref (a 0), .int p1]) (n := 4) (Nat.le_of_ble_eq_true rfl)
  rw [lg_entry_eq]
  generalize (lg_sl ([.ref (a 0), .int p1]) ++ List.replicate (4 - (lg_sl ([.ref (a 0), .int p1])).length) Slot.unset).toArray = ls at hl ⊢
  have hl : lv_has ls 4 [(0, .ref (a 0)), (1, .int p1)] := hl
  have hcl_67 := hts (.classLink RX5 67 "java/lang/IllegalArgumentException") (by decide +kernel)
  have hie_2 := hts (.initialized "java/lang/IllegalArgumentException") (by decide +kernel)
  have hat_71 : ∀ w ∈ (vx_atS RX5 71 "java/lang/IllegalArgumentException" ["java/lang/RuntimeException", "java/lang/Exception"]), w.before ([.ref (a 0), .int p1] : List Value).toArray s = true := vx_hat (L := (vx_atS RX5 71 "java/lang/IllegalArgumentException" ["java/lang/RuntimeException", "java/lang/Exception"])) (B := [.castable "java/lang/IllegalArgumentException" "java/lang/IllegalArgumentException", .declares ⟨"java/lang/RuntimeException", "<init>", "(Ljava/lang/String;)V"⟩, .declares ⟨"java/lang/Exception", "<init>", "(Ljava/lang/String;)V"⟩, .declares ⟨"java/lang/Throwable", "<init>", "(Ljava/lang/String;)V"⟩]) (fun w hw => hts w ((by decide +kernel : ∀ w ∈ (vx_atS RX5 71 "java/lang/IllegalArgumentException" ["java/lang/RuntimeException", "java/lang/Exception"]).filter goodWord, w ∈ wsX5_pass) w hw)) (by decide +kernel) (vx_c (va_Nw.use rfl hE.n2) (vx_c (va_Nw.use rfl hE.d1) (vx_c (va_Nw.use rfl hE.d2) (vx_c (va_Nw.use rfl hE.d3) vx_n))))
  have hf_19 := hts (.fieldLink RX5 19 "PaintballAtlas" "round" "LPaintballAtlas$Round;") (by decide +kernel)
  have hi_X5 : ∀ w ∈ wsX50, w ∈ wsX5_pass := by decide +kernel
  have hf_12 := hts (.fieldLink RX5 12 "PaintballAtlas" "field" "LPaintballAtlas$Field;") (by decide +kernel)
  refine lv_iload_n hx hb dX5_pass_0 rfl (lv_at hl 1 rfl) ?_
  refine lv_iconst (v := 1) hx hb dX5_pass_1 (by decide) ?_
  refine lv_icmp_lt (tgt := 11) hx hb dX5_pass_2 (by decide) (fun c_1 => ?_) (fun c_1 => ?_)
  · exact vx_throwS (A := (fun q : Nat => s.heap.size ≤ q)) hx hb hlt hown (by decide +kernel) (by decide +kernel) hcl_67 hie_2 (hE.s116) hat_71 (by decide +kernel) hE.u hE.n hS (hl.1.trans hml.symm) dX5_pass_11 dX5_pass_14 dX5_pass_15 dX5_pass_17 dX5_pass_20 (fun x h => absurd h (hT0 x)) (Nat.le_of_ble_eq_true rfl) (Nat.le_of_ble_eq_true rfl) (Nat.le_of_ble_eq_true rfl) (Nat.le_of_ble_eq_true rfl) hlocks (fun t1 h1 h2 h3 => ⟨(), trivial, thr_2 (by rw [k_X5_pass, if_pos c_1]), va_F_of hS h2 h3⟩) (fun z hz => hA _ (hS.2.2 z hz)) (Nat.le_of_ble_eq_true rfl) (Nat.le_of_ble_eq_true rfl)
  · refine lv_iload_n hx hb dX5_pass_5 rfl (lv_at hl 1 rfl) ?_
    refine lv_bipush (v := 50) hx hb dX5_pass_6 (by decide) ?_
    refine lv_icmp_le (tgt := 21) hx hb dX5_pass_8 (by decide) (fun c_2 => ?_) (fun c_2 => ?_)
    · refine lv_aload_n hx hb dX5_pass_21 rfl (lv_at hl 0 rfl) ?_
      have hPc := hP.sub (ws' := [((a 0), .inr (5, [.ref (a 2), .ref (a 4), .ref (a 18), .ref (a 1)])), ((a 4), .inr (2, [.int hm, .int aw, .int tk, .ref (a 5), .ref (a 6), .ref (a 7), .ref (a 8), .ref (a 13)]))]) [0, 1] rfl
      refine vx_callv (vx_runV (As := []) (rest := []) ⟨hx, hb, hml, hown, hts⟩ (c_X5_checkRound l hlt D cI cZ cJ cA sx s.heap.size a hm aw tk) (cwV 0 hts gX5_pass_X5_checkRound rfl rfl rfl (by decide +kernel) ⟨Nat.le_of_ble_eq_true rfl, Nat.le_of_ble_eq_true rfl⟩) ⟨pcXR_bl, va_recv hK hPc (ci := 5) (q0 := 0) rfl rfl, fun U hU hW => ⟨rfl, ⟨by rw [hU], by rw [hU]; exact hPc, va_K.moved hW.alike hK⟩, hE.call hS (rd_free hS hAR) hU hW⟩⟩ rfl rfl hl.1 rfl (lv_room (Nat.le_of_ble_eq_true rfl)) dX5_pass_22 ⟨Nat.le_of_ble_eq_true rfl, Nat.le_of_ble_eq_true rfl⟩) hS (fun _ h1 h2 => absurd h1 (Nat.not_lt.mpr h2)) (rd_free hS hAR) (fun _ h1 h2 => absurd h1 (Nat.not_lt.mpr h2)) (fun E cel q9 u t H locs ht hvm hpx hb1 hz1 hk1 hS hce hcv hcl => ?_) (fun u t H locs ht hvm hw hB hz1 hk1 hS => ?_)
      · have c_4 : ¬ (k_X5_checkRound hm aw tk) = 0 := thr_ne hb1
        refine vx_widen (k := 2) (n := 12) (Nat.le_of_ble_eq_true rfl) (Nat.le_of_ble_eq_true rfl) ?_
        refine vx_out (fun x h => absurd h (hT0 x)) hlocks hce hcv hcl (fun t1 ht1 _ => ⟨(), trivial, thr_eq (by rw [k_X5_pass, if_neg c_1, if_pos c_2, if_neg c_4]) hb1, hS.F ht1⟩) (fun z hz => hA _ (hS.2.2 z hz)) (Nat.le_refl _) (Nat.le_refl _)
      · try dsimp only at hw
        have hk_3 := hw
        have hP := rd_P hP hk1
        refine W.widen (k := 1) (n := 6) (Nat.le_refl _) (Nat.le_refl _) ?_
        obtain ⟨N, hN, hp1⟩ := in_50 c_1 c_2
        have hpN : p1.toNatClampNeg = N := by rw [hp1]; exact nI_clamp (by omega)
        refine lv_iconst (v := 0) hx hb dX5_pass_25 (by decide) ?_
        refine lv_istore_n (lv' := [(2, .int 0), (0, .ref (a 0)), (1, .int p1)]) hx hb dX5_pass_26 rfl hl (by decide) rfl (fun ls hl => ?_)
        refine lv_iconst (v := 0) hx hb dX5_pass_27 (by decide) ?_
        refine lv_istore_n (lv' := [(3, .int 0), (2, .int 0), (0, .ref (a 0)), (1, .int p1)]) hx hb dX5_pass_28 rfl hl (by decide) rfl (fun ls hl => ?_)
        have hS := va_S_mono hS hA
        refine lpW (σ := (Nat) × (Int32) × (Int32) × (Nat → Int32)) (I := fun x H locs ls => va_P D vwCl [((a 0), .inr (5, [.ref (a 2), .ref (a 4), .ref (a 18), .ref (a 1)])), ((a 4), .inr (2, [.int hm, .int aw, .int x.2.2.1, .ref (a 5), .ref (a 6), .ref (a 7), .ref (a 8), .ref (a 13)])), ((a 5), .inl (cI, 6, .inl ce)), ((a 6), .inl (cI, 6, .inl x.2.2.2)), ((a 8), .inr (3, [.int (nI sn), .ref (a 9), .ref (a 10), .ref (a 11), .ref (a 12)])), ((a 9), .inl (cI, 100, .inl sa)), ((a 10), .inl (cI, 100, .inl sb)), ((a 11), .inl (cI, 100, .inl sc)), ((a 12), .inl (cI, 100, .inl sd)), ((a 2), .inr (1, [.ref (a 3)])), ((a 3), .inl (cZ, 144, .inl bk))] H ∧ va_D A [((a 0), .inr (5, [.ref (a 2), .ref (a 4), .ref (a 18), .ref (a 1)])), ((a 4), .inr (2, [.int hm, .int aw, .int x.2.2.1, .ref (a 5), .ref (a 6), .ref (a 7), .ref (a 8), .ref (a 13)])), ((a 5), .inl (cI, 6, .inl ce)), ((a 6), .inl (cI, 6, .inl x.2.2.2)), ((a 8), .inr (3, [.int (nI sn), .ref (a 9), .ref (a 10), .ref (a 11), .ref (a 12)])), ((a 9), .inl (cI, 100, .inl sa)), ((a 10), .inl (cI, 100, .inl sb)), ((a 11), .inl (cI, 100, .inl sc)), ((a 12), .inl (cI, 100, .inl sd)), ((a 2), .inr (1, [.ref (a 3)])), ((a 3), .inl (cZ, 144, .inl bk))] ∧ va_S A s.heap H locs ∧ lv_has ls 4 [(0, .ref (a 0)), (1, .int p1), (2, .int x.2.1), (3, .int (nI x.1))] ∧ (x.1 ≤ N) ∧ (x.2.1 = (psN bk hm aw tk ce hi sn sa sb sc sd x.1).1) ∧ (x.2.2.1 = (psN bk hm aw tk ce hi sn sa sb sc sd x.1).2.1) ∧ (x.2.2.2 = (psN bk hm aw tk ce hi sn sa sb sc sd x.1).2.2)) (μ := fun x => N - x.1) ?_ (0, 0, tk, hi) ⟨hP, hD, hS, lv_sub hl [2, 3, 1, 0] rfl, (Nat.zero_le _), (by simp only [psN]), (by simp only [psN]), (by simp only [psN])⟩
        intro x H locs ls hI ih
        obtain ⟨i, c2, tq, e1⟩ := x
        obtain ⟨hP, hD, hS, hl, hq_hi1, hq_hc, hq_ht9, hq_he⟩ := hI
        have ih_29 := ih
        have hl : lv_has ls 4 [(0, .ref (a 0)), (1, .int p1), (2, .int c2), (3, .int (nI i))] := hl
        have hP : va_P D vwCl [((a 0), .inr (5, [.ref (a 2), .ref (a 4), .ref (a 18), .ref (a 1)])), ((a 4), .inr (2, [.int hm, .int aw, .int tq, .ref (a 5), .ref (a 6), .ref (a 7), .ref (a 8), .ref (a 13)])), ((a 5), .inl (cI, 6, .inl ce)), ((a 6), .inl (cI, 6, .inl e1)), ((a 8), .inr (3, [.int (nI sn), .ref (a 9), .ref (a 10), .ref (a 11), .ref (a 12)])), ((a 9), .inl (cI, 100, .inl sa)), ((a 10), .inl (cI, 100, .inl sb)), ((a 11), .inl (cI, 100, .inl sc)), ((a 12), .inl (cI, 100, .inl sd)), ((a 2), .inr (1, [.ref (a 3)])), ((a 3), .inl (cZ, 144, .inl bk))] H := hP
        have hD : va_D A [((a 0), .inr (5, [.ref (a 2), .ref (a 4), .ref (a 18), .ref (a 1)])), ((a 4), .inr (2, [.int hm, .int aw, .int tq, .ref (a 5), .ref (a 6), .ref (a 7), .ref (a 8), .ref (a 13)])), ((a 5), .inl (cI, 6, .inl ce)), ((a 6), .inl (cI, 6, .inl e1)), ((a 8), .inr (3, [.int (nI sn), .ref (a 9), .ref (a 10), .ref (a 11), .ref (a 12)])), ((a 9), .inl (cI, 100, .inl sa)), ((a 10), .inl (cI, 100, .inl sb)), ((a 11), .inl (cI, 100, .inl sc)), ((a 12), .inl (cI, 100, .inl sd)), ((a 2), .inr (1, [.ref (a 3)])), ((a 3), .inl (cZ, 144, .inl bk))] := hD
        have hi1 : i ≤ N := hq_hi1
        have hc : c2 = (psN bk hm aw tk ce hi sn sa sb sc sd i).1 := hq_hc
        have ht9 : tq = (psN bk hm aw tk ce hi sn sa sb sc sd i).2.1 := hq_ht9
        have he : e1 = (psN bk hm aw tk ce hi sn sa sb sc sd i).2.2 := hq_he
        clear hq_hi1 hq_hc hq_ht9 hq_he
        refine lv_iload_n hx hb dX5_pass_29 rfl (lv_at hl 3 rfl) ?_
        refine lv_iload_n hx hb dX5_pass_30 rfl (lv_at hl 1 rfl) ?_
        refine lv_icmp_ge (tgt := 54) hx hb dX5_pass_31 (by decide) (fun c_5 => ?_) (fun c_5 => ?_)
        · have he_31 : i = N := bd_eq (by omega) hi1 (by rw [← hp1]; exact c_5)
          refine lv_iload_n hx hb dX5_pass_54 rfl (lv_at hl 2 rfl) ?_
          have hP9 := hP.sub (ws' := [((a 0), .inr (5, [.ref (a 2), .ref (a 4), .ref (a 18), .ref (a 1)])), ((a 4), .inr (2, [.int hm, .int aw, .int tq, .ref (a 5), .ref (a 6), .ref (a 7), .ref (a 8), .ref (a 13)])), ((a 5), .inl (cI, 6, .inl ce)), ((a 6), .inl (cI, 6, .inl e1)), ((a 8), .inr (3, [.int (nI sn), .ref (a 9), .ref (a 10), .ref (a 11), .ref (a 12)])), ((a 9), .inl (cI, 100, .inl sa)), ((a 10), .inl (cI, 100, .inl sb)), ((a 11), .inl (cI, 100, .inl sc)), ((a 12), .inl (cI, 100, .inl sd)), ((a 2), .inr (1, [.ref (a 3)])), ((a 3), .inl (cZ, 144, .inl bk))]) [0, 1, 2, 3, 4, 5, 6, 7, 8, 9, 10] rfl
          have hD9 := hD.sub (ws' := [((a 0), .inr (5, [.ref (a 2), .ref (a 4), .ref (a 18), .ref (a 1)])), ((a 4), .inr (2, [.int hm, .int aw, .int tq, .ref (a 5), .ref (a 6), .ref (a 7), .ref (a 8), .ref (a 13)])), ((a 5), .inl (cI, 6, .inl ce)), ((a 6), .inl (cI, 6, .inl e1)), ((a 8), .inr (3, [.int (nI sn), .ref (a 9), .ref (a 10), .ref (a 11), .ref (a 12)])), ((a 9), .inl (cI, 100, .inl sa)), ((a 10), .inl (cI, 100, .inl sb)), ((a 11), .inl (cI, 100, .inl sc)), ((a 12), .inl (cI, 100, .inl sd)), ((a 2), .inr (1, [.ref (a 3)])), ((a 3), .inl (cZ, 144, .inl bk))]) [0, 1, 2, 3, 4, 5, 6, 7, 8, 9, 10] (by decide) rfl
          -- leaf 2
          refine W.widen (k := 2) (n := 12) (Nat.le_of_ble_eq_true rfl) (Nat.le_of_ble_eq_true rfl) ?_
          exact vx_ret (W.iret (v := c2) hx hb hr (fun t ht hW => ⟨⟨c2, (tq, e1), rfl, ⟨(by rw [k_X5_pass, if_neg c_1, if_pos c_2, if_pos hk_3]), (by rw [hc, he_31, hpN]), (by rw [ht9, he_31, hpN]), (by rw [he, he_31, hpN])⟩, by rw [ht]; exact hP9, va_K.moved hW.alike hK, hD9⟩, hS.F ht⟩) hS.2.2 dX5_pass_55)
        · have hlt_31 : i < N := bd_lt (by omega) hi1 (by rw [← hp1]; exact c_5)
          refine lv_iload_n hx hb dX5_pass_34 rfl (lv_at hl 2 rfl) ?_
          refine lv_aload_n hx hb dX5_pass_35 rfl (lv_at hl 0 rfl) ?_
          refine va_get (D := D) (ci := 5) (v := .ref (a 4)) (C := RX5) (T := TX5) (N := 4) hx hb hts hi_X5 hown hK hP 0 rfl rfl 1 (by decide) hf_19 (fun _ h9 => h9) rfl dX5_pass_36 ?_
          refine lv_aload_n hx hb dX5_pass_39 rfl (lv_at hl 0 rfl) ?_
          refine va_get (D := D) (ci := 5) (v := .ref (a 2)) (C := RX5) (T := TX5) (N := 4) hx hb hts hi_X5 hown hK hP 0 rfl rfl 0 (by decide) hf_12 (fun _ h9 => h9) rfl dX5_pass_40 ?_
          have hPc := hP.sub (ws' := [((a 4), .inr (2, [.int hm, .int aw, .int tq, .ref (a 5), .ref (a 6), .ref (a 7), .ref (a 8), .ref (a 13)])), ((a 5), .inl (cI, 6, .inl ce)), ((a 6), .inl (cI, 6, .inl e1)), ((a 8), .inr (3, [.int (nI sn), .ref (a 9), .ref (a 10), .ref (a 11), .ref (a 12)])), ((a 9), .inl (cI, 100, .inl sa)), ((a 10), .inl (cI, 100, .inl sb)), ((a 11), .inl (cI, 100, .inl sc)), ((a 12), .inl (cI, 100, .inl sd)), ((a 2), .inr (1, [.ref (a 3)])), ((a 3), .inl (cZ, 144, .inl bk))]) [1, 2, 3, 4, 5, 6, 7, 8, 9, 10] rfl
          have hDc := hD.sub (ws' := [((a 4), .inr (2, [.int hm, .int aw, .int tq, .ref (a 5), .ref (a 6), .ref (a 7), .ref (a 8), .ref (a 13)])), ((a 5), .inl (cI, 6, .inl ce)), ((a 6), .inl (cI, 6, .inl e1)), ((a 8), .inr (3, [.int (nI sn), .ref (a 9), .ref (a 10), .ref (a 11), .ref (a 12)])), ((a 9), .inl (cI, 100, .inl sa)), ((a 10), .inl (cI, 100, .inl sb)), ((a 11), .inl (cI, 100, .inl sc)), ((a 12), .inl (cI, 100, .inl sd)), ((a 2), .inr (1, [.ref (a 3)])), ((a 3), .inl (cZ, 144, .inl bk))]) [1, 2, 3, 4, 5, 6, 7, 8, 9, 10] (by decide) rfl
          have hFc := va_free (wc := [((a 4), .inr (2, [.int hm, .int aw, .int tq, .ref (a 5), .ref (a 6), .ref (a 7), .ref (a 8), .ref (a 13)])), ((a 5), .inl (cI, 6, .inl ce)), ((a 6), .inl (cI, 6, .inl e1)), ((a 8), .inr (3, [.int (nI sn), .ref (a 9), .ref (a 10), .ref (a 11), .ref (a 12)])), ((a 9), .inl (cI, 100, .inl sa)), ((a 10), .inl (cI, 100, .inl sb)), ((a 11), .inl (cI, 100, .inl sc)), ((a 12), .inl (cI, 100, .inl sd)), ((a 2), .inr (1, [.ref (a 3)])), ((a 3), .inl (cZ, 144, .inl bk))]) hD hS hA [1, 2, 3, 4, 5, 6, 7, 8, 9, 10] rfl
          refine va_calli (va_runV (As := [.ref (a 2)]) (rest := [.int c2]) ⟨hx, hb, hml, hown, hts⟩ (c_X2_nextTick l D cI cZ cJ cA H.size a bk hm aw tq ce e1 sn sa sb sc sd (by first | assumption | omega) (by first | assumption | omega) (by first | assumption | omega)) (cwV 1 hts gX5_pass_X2_nextTick rfl rfl rfl (by decide +kernel) ⟨Nat.le_of_ble_eq_true rfl, Nat.le_of_ble_eq_true rfl⟩) ⟨pcW_bl, va_recv hK hPc (ci := 2) (q0 := 0) rfl rfl, fun U hU hW => ⟨rfl, by rw [hU], by rw [hU]; exact hPc, va_K.moved hW.alike hK, hDc.weaken (fun _ _ _ _ => trivial)⟩⟩ rfl rfl hl.1 rfl (lv_room (Nat.le_of_ble_eq_true rfl)) dX5_pass_43 ⟨Nat.le_of_ble_eq_true rfl, Nat.le_of_ble_eq_true rfl⟩) hS (fun q _ h => hFc q h) hFc (fun r_6 u t H locs ht hvm hw hB hz1 hk1 hS => ?_)
          try dsimp only at hw
          obtain ⟨u0_6, u1_6⟩ := u
          try dsimp only at hw
          obtain ⟨hr_6, hu0_6, hu1_6⟩ := hw
          obtain ⟨hP1, hK1, hD1⟩ := hB
          rw [ht] at hP1
          obtain ⟨hP, hD⟩ := va_join (wr := [((a 0), .inr (5, [.ref (a 2), .ref (a 4), .ref (a 18), .ref (a 1)]))]) (w1 := [((a 4), .inr (2, [.int hm, .int aw, .int u0_6, .ref (a 5), .ref (a 6), .ref (a 7), .ref (a 8), .ref (a 13)])), ((a 5), .inl (cI, 6, .inl ce)), ((a 6), .inl (cI, 6, .inl u1_6)), ((a 8), .inr (3, [.int (nI sn), .ref (a 9), .ref (a 10), .ref (a 11), .ref (a 12)])), ((a 9), .inl (cI, 100, .inl sa)), ((a 10), .inl (cI, 100, .inl sb)), ((a 11), .inl (cI, 100, .inl sc)), ((a 12), .inl (cI, 100, .inl sd)), ((a 2), .inr (1, [.ref (a 3)])), ((a 3), .inl (cZ, 144, .inl bk))]) hP hD [1, 2, 3, 4, 5, 6, 7, 8, 9, 10] [0] rfl rfl (by decide) (by decide) hk1 hFc hP1 hD1
          obtain rfl := hu0_6.symm
          obtain rfl := hu1_6.symm
          have hP : va_P D vwCl [((a 0), .inr (5, [.ref (a 2), .ref (a 4), .ref (a 18), .ref (a 1)])), ((a 4), .inr (2, [.int hm, .int aw, .int (tq + 1), .ref (a 5), .ref (a 6), .ref (a 7), .ref (a 8), .ref (a 13)])), ((a 5), .inl (cI, 6, .inl ce)), ((a 6), .inl (cI, 6, .inl ((ntS bk hm aw (tq + 1) ce e1 sn sa sb sc sd sn).2))), ((a 8), .inr (3, [.int (nI sn), .ref (a 9), .ref (a 10), .ref (a 11), .ref (a 12)])), ((a 9), .inl (cI, 100, .inl sa)), ((a 10), .inl (cI, 100, .inl sb)), ((a 11), .inl (cI, 100, .inl sc)), ((a 12), .inl (cI, 100, .inl sd)), ((a 2), .inr (1, [.ref (a 3)])), ((a 3), .inl (cZ, 144, .inl bk))] H := hP
          have hD : va_D A [((a 0), .inr (5, [.ref (a 2), .ref (a 4), .ref (a 18), .ref (a 1)])), ((a 4), .inr (2, [.int hm, .int aw, .int (tq + 1), .ref (a 5), .ref (a 6), .ref (a 7), .ref (a 8), .ref (a 13)])), ((a 5), .inl (cI, 6, .inl ce)), ((a 6), .inl (cI, 6, .inl ((ntS bk hm aw (tq + 1) ce e1 sn sa sb sc sd sn).2))), ((a 8), .inr (3, [.int (nI sn), .ref (a 9), .ref (a 10), .ref (a 11), .ref (a 12)])), ((a 9), .inl (cI, 100, .inl sa)), ((a 10), .inl (cI, 100, .inl sb)), ((a 11), .inl (cI, 100, .inl sc)), ((a 12), .inl (cI, 100, .inl sd)), ((a 2), .inr (1, [.ref (a 3)])), ((a 3), .inl (cZ, 144, .inl bk))] := hD
          obtain rfl := hr_6.symm
          refine W.widen (k := 1) (n := 6) (Nat.le_refl _) (Nat.le_refl _) ?_
          refine lv_iadd hx hb dX5_pass_46 ?_
          refine lv_istore_n (lv' := [(2, .int (c2 + ((ntS bk hm aw (tq + 1) ce e1 sn sa sb sc sd sn).1))), (0, .ref (a 0)), (1, .int p1), (3, .int (nI i))]) hx hb dX5_pass_47 rfl hl (by decide) rfl (fun ls hl => ?_)
          refine lv_iinc (v := nI (i + 1)) (lv' := [(3, .int (nI (i + 1))), (2, .int (c2 + ((ntS bk hm aw (tq + 1) ce e1 sn sa sb sc sd sn).1))), (0, .ref (a 0)), (1, .int p1)]) hx hb dX5_pass_48 hl (k := 3) rfl (nI_1 i) (by decide) rfl (fun ls hl => ?_)
          refine lv_goto (tgt := 29) hx hb dX5_pass_51 (by decide) ?_
          refine W.widen (k := 1) (n := 6) (Nat.le_refl _) (Nat.le_refl _) ?_
          exact ih_29 ((i + 1), c2 + ((ntS bk hm aw (tq + 1) ce e1 sn sa sb sc sd sn).1), (tq + 1), ((ntS bk hm aw (tq + 1) ce e1 sn sa sb sc sd sn).2)) _ _ _ (by first | omega | (dsimp only; omega)) ⟨hP, hD, hS, lv_sub hl [2, 3, 1, 0] rfl, (by omega), (by rw [psN, ← ht9, ← he]; dsimp only; rw [hc]), (by rw [psN, ← ht9, ← he]), (by rw [psN, ← ht9, ← he])⟩
    · exact vx_throwS (A := (fun q : Nat => s.heap.size ≤ q)) hx hb hlt hown (by decide +kernel) (by decide +kernel) hcl_67 hie_2 (hE.s116) hat_71 (by decide +kernel) hE.u hE.n hS (hl.1.trans hml.symm) dX5_pass_11 dX5_pass_14 dX5_pass_15 dX5_pass_17 dX5_pass_20 (fun x h => absurd h (hT0 x)) (Nat.le_of_ble_eq_true rfl) (Nat.le_of_ble_eq_true rfl) (Nat.le_of_ble_eq_true rfl) (Nat.le_of_ble_eq_true rfl) hlocks (fun t1 h1 h2 h3 => ⟨(), trivial, thr_2 (by rw [k_X5_pass, if_neg c_1, if_neg c_2]), va_F_of hS h2 h3⟩) (fun z hz => hA _ (hS.2.2 z hz)) (Nat.le_of_ble_eq_true rfl) (Nat.le_of_ble_eq_true rfl)

set_option maxHeartbeats 4000000 in
set_option maxRecDepth 100000 in
theorem c_X5_tick (l : Launch) (D : va_G) (cI cZ cJ cA : ClassId) (sz : Nat) (a : Nat → Nat) (hm : Int32) (aw : Int32) (tk : Int32) : Met l yX5_tick wsX5_tick ({ frames := 1, cells := 0, slots := 0, locals := 20 } : Room) (va_Pc [.ref (a 0)] (pcR D (tyL cI cZ cJ cA) [((a 0), .inr (5, [.ref (a 2), .ref (a 4), .ref (a 18), .ref (a 1)])), ((a 4), .inr (2, [.int hm, .int aw, .int tk, .ref (a 5), .ref (a 6), .ref (a 7), .ref (a 8), .ref (a 13)]))] sz)) (va_Qi (fun (r : Int32) (u : Unit) => r = tk) (fun _ _ => True) (fun q : Nat => sz ≤ q)) 0 0 (fun q : Nat => sz ≤ q) := by
  refine Met.ofW (cc := cX5_tick) (maxL := 1) (ret := (some .int)) (by decide) rfl ?_
  intro p e s m args below meth c s₁ B hml hv
  obtain ⟨rfl, hsz, hP, hK⟩ := hv
  have hx := B.exec
  have hb := B.bytes
  have hr := B.returns
  have hts := atoms_spec (ws := wsX5_tick) B.pre
  have hown : s.vm.findClass RX5 = some m.cls := findClass_of_methodNamed B.named
  have hlocks := B.notSynchronized
  subst hsz
  have hA : ∀ q : Nat, s.heap.size ≤ q → (fun q : Nat => s.heap.size ≤ q) q := fun _ h => h
  have hS : va_S (fun q : Nat => s.heap.size ≤ q) s.heap s.heap [] := va_S.rf
  have hP : va_P D vwCl [((a 0), .inr (5, [.ref (a 2), .ref (a 4), .ref (a 18), .ref (a 1)])), ((a 4), .inr (2, [.int hm, .int aw, .int tk, .ref (a 5), .ref (a 6), .ref (a 7), .ref (a 8), .ref (a 13)]))] s.heap := hP
  have hl := lv_entry ([.ref (a 0)]) (n := 1) (Nat.le_of_ble_eq_true rfl)
  rw [lg_entry_eq]
  generalize (lg_sl ([.ref (a 0)]) ++ List.replicate (1 - (lg_sl ([.ref (a 0)])).length) Slot.unset).toArray = ls at hl ⊢
  have hl : lv_has ls 1 [(0, .ref (a 0))] := hl
  have hf_19 := hts (.fieldLink RX5 19 "PaintballAtlas" "round" "LPaintballAtlas$Round;") (by decide +kernel)
  have hi_X5 : ∀ w ∈ wsX50, w ∈ wsX5_tick := by decide +kernel
  refine lv_aload_n hx hb dX5_tick_0 rfl (lv_at hl 0 rfl) ?_
  refine va_get (D := D) (ci := 5) (v := .ref (a 4)) (C := RX5) (T := TX5) (N := 4) hx hb hts hi_X5 hown hK hP 0 rfl rfl 1 (by decide) hf_19 (fun _ h9 => h9) rfl dX5_tick_1 ?_
  have hPc := hP.sub (ws' := [((a 4), .inr (2, [.int hm, .int aw, .int tk, .ref (a 5), .ref (a 6), .ref (a 7), .ref (a 8), .ref (a 13)]))]) [1] rfl
  refine va_calli (va_runV (As := []) (rest := []) ⟨hx, hb, hml, hown, hts⟩ (c_X2_time l D cI cZ cJ cA s.heap.size a hm aw tk) (cwV 0 hts gX5_tick_X2_time rfl rfl rfl (by decide +kernel) ⟨Nat.le_of_ble_eq_true rfl, Nat.le_of_ble_eq_true rfl⟩) ⟨pcR_bl, va_recv hK hPc (ci := 2) (q0 := 0) rfl rfl, fun U hU hW => ⟨rfl, by rw [hU], by rw [hU]; exact hPc, va_K.moved hW.alike hK⟩⟩ rfl rfl hl.1 rfl (lv_room (Nat.le_of_ble_eq_true rfl)) dX5_tick_4 ⟨Nat.le_of_ble_eq_true rfl, Nat.le_of_ble_eq_true rfl⟩) hS (fun _ h1 h2 => absurd h1 (Nat.not_lt.mpr h2)) (rd_free hS hA) (fun r_1 u t H locs ht hvm hw hB hz1 hk1 hS => ?_)
  try dsimp only at hw
  have hr_1 := hw
  have hP := rd_P hP hk1
  obtain rfl := hr_1.symm
  refine W.widen (k := 0) (n := 0) (Nat.le_refl _) (Nat.le_refl _) ?_
  -- leaf 0
  refine W.widen (k := 0) (n := 0) (Nat.le_refl _) (Nat.le_refl _) ?_
  exact W.iret (v := tk) hx hb hr (fun t ht hW => ⟨⟨tk, (), rfl, rfl, trivial⟩, hS.F ht⟩) hS.2.2 dX5_tick_7

set_option maxHeartbeats 4000000 in
set_option maxRecDepth 100000 in
theorem c_X5_flying (l : Launch) (D : va_G) (cI cZ cJ cA : ClassId) (sz : Nat) (a : Nat → Nat) (hm : Int32) (aw : Int32) (tk : Int32) (sn : Nat) (sd : Nat → Int32) (h1 : sn ≤ 100) : Met l yX5_flying wsX5_flying ({ frames := 1, cells := 0, slots := 0, locals := 22 } : Room) (va_Pc [.ref (a 0)] (pcR D (tyL cI cZ cJ cA) [((a 0), .inr (5, [.ref (a 2), .ref (a 4), .ref (a 18), .ref (a 1)])), ((a 4), .inr (2, [.int hm, .int aw, .int tk, .ref (a 5), .ref (a 6), .ref (a 7), .ref (a 8), .ref (a 13)])), ((a 8), .inr (3, [.int (nI sn), .ref (a 9), .ref (a 10), .ref (a 11), .ref (a 12)])), ((a 12), .inl (cI, 100, .inl sd))] sz)) (va_Qi (fun (r : Int32) (u : Unit) => r = flyN tk sd sn) (fun _ _ => True) (fun q : Nat => sz ≤ q)) 0 0 (fun q : Nat => sz ≤ q) := by
  refine Met.ofW (cc := cX5_flying) (maxL := 1) (ret := (some .int)) (by decide) rfl ?_
  intro p e s m args below meth c s₁ B hml hv
  obtain ⟨rfl, hsz, hP, hK⟩ := hv
  have hx := B.exec
  have hb := B.bytes
  have hr := B.returns
  have hts := atoms_spec (ws := wsX5_flying) B.pre
  have hown : s.vm.findClass RX5 = some m.cls := findClass_of_methodNamed B.named
  have hlocks := B.notSynchronized
  subst hsz
  have hA : ∀ q : Nat, s.heap.size ≤ q → (fun q : Nat => s.heap.size ≤ q) q := fun _ h => h
  have hS : va_S (fun q : Nat => s.heap.size ≤ q) s.heap s.heap [] := va_S.rf
  have hP : va_P D vwCl [((a 0), .inr (5, [.ref (a 2), .ref (a 4), .ref (a 18), .ref (a 1)])), ((a 4), .inr (2, [.int hm, .int aw, .int tk, .ref (a 5), .ref (a 6), .ref (a 7), .ref (a 8), .ref (a 13)])), ((a 8), .inr (3, [.int (nI sn), .ref (a 9), .ref (a 10), .ref (a 11), .ref (a 12)])), ((a 12), .inl (cI, 100, .inl sd))] s.heap := hP
  have hl := lv_entry ([.ref (a 0)]) (n := 1) (Nat.le_of_ble_eq_true rfl)
  rw [lg_entry_eq]
  generalize (lg_sl ([.ref (a 0)]) ++ List.replicate (1 - (lg_sl ([.ref (a 0)])).length) Slot.unset).toArray = ls at hl ⊢
  have hl : lv_has ls 1 [(0, .ref (a 0))] := hl
  have hf_19 := hts (.fieldLink RX5 19 "PaintballAtlas" "round" "LPaintballAtlas$Round;") (by decide +kernel)
  have hi_X5 : ∀ w ∈ wsX50, w ∈ wsX5_flying := by decide +kernel
  refine lv_aload_n hx hb dX5_flying_0 rfl (lv_at hl 0 rfl) ?_
  refine va_get (D := D) (ci := 5) (v := .ref (a 4)) (C := RX5) (T := TX5) (N := 4) hx hb hts hi_X5 hown hK hP 0 rfl rfl 1 (by decide) hf_19 (fun _ h9 => h9) rfl dX5_flying_1 ?_
  have hPc := hP.sub (ws' := [((a 4), .inr (2, [.int hm, .int aw, .int tk, .ref (a 5), .ref (a 6), .ref (a 7), .ref (a 8), .ref (a 13)])), ((a 8), .inr (3, [.int (nI sn), .ref (a 9), .ref (a 10), .ref (a 11), .ref (a 12)])), ((a 12), .inl (cI, 100, .inl sd))]) [1, 2, 3] rfl
  refine va_calli (va_runV (As := []) (rest := []) ⟨hx, hb, hml, hown, hts⟩ (c_X2_countFlying l D cI cZ cJ cA s.heap.size a hm aw tk sn sd (by first | assumption | omega)) (cwV 0 hts gX5_flying_X2_countFlying rfl rfl rfl (by decide +kernel) ⟨Nat.le_of_ble_eq_true rfl, Nat.le_of_ble_eq_true rfl⟩) ⟨pcR_bl, va_recv hK hPc (ci := 2) (q0 := 0) rfl rfl, fun U hU hW => ⟨rfl, by rw [hU], by rw [hU]; exact hPc, va_K.moved hW.alike hK⟩⟩ rfl rfl hl.1 rfl (lv_room (Nat.le_of_ble_eq_true rfl)) dX5_flying_4 ⟨Nat.le_of_ble_eq_true rfl, Nat.le_of_ble_eq_true rfl⟩) hS (fun _ h1 h2 => absurd h1 (Nat.not_lt.mpr h2)) (rd_free hS hA) (fun r_1 u t H locs ht hvm hw hB hz1 hk1 hS => ?_)
  try dsimp only at hw
  have hr_1 := hw
  have hP := rd_P hP hk1
  obtain rfl := hr_1.symm
  refine W.widen (k := 0) (n := 0) (Nat.le_refl _) (Nat.le_refl _) ?_
  -- leaf 0
  refine W.widen (k := 0) (n := 0) (Nat.le_refl _) (Nat.le_refl _) ?_
  exact W.iret (v := flyN tk sd sn) hx hb hr (fun t ht hW => ⟨⟨flyN tk sd sn, (), rfl, rfl, trivial⟩, hS.F ht⟩) hS.2.2 dX5_flying_7

noncomputable def k_X5_where (hm : Int32) (aw : Int32) (tk : Int32) (ce : Nat → Int32) (p1 : Int32) : Int32 := if (k_X5_checkPlayer p1) = 0 then 0 else k_X5_checkPlayer p1
set_option maxHeartbeats 4000000 in
set_option maxRecDepth 100000 in
theorem c_X5_where (l : Launch) (hlt : l.stackTraces = false) (D : va_G) (cI cZ cJ cA : ClassId) (sx : Nat → Nat) (sz : Nat) (a : Nat → Nat) (hm : Int32) (aw : Int32) (tk : Int32) (ce : Nat → Int32) (p1 : Int32) : vx_Met l yX5_where wsX5_where ({ frames := 7, cells := 1, slots := 6, locals := 110 } : Room) (va_Pc [.ref (a 0), .int p1] (pcX (pcR D (tyL cI cZ cJ cA) [((a 0), .inr (5, [.ref (a 2), .ref (a 4), .ref (a 18), .ref (a 1)])), ((a 4), .inr (2, [.int hm, .int aw, .int tk, .ref (a 5), .ref (a 6), .ref (a 7), .ref (a 8), .ref (a 13)])), ((a 5), .inl (cI, 6, .inl ce))] sz) sx (fun q : Nat => sz ≤ q))) (va_Qi (fun (r : Int32) (u : Unit) => (k_X5_where hm aw tk ce p1) = 0 ∧ r = ce p1.toNatClampNeg) (fun _ _ => True) (fun q : Nat => sz ≤ q)) (vx_X (fun _ : Unit => True) (fun E _ _ => thr E (k_X5_where hm aw tk ce p1)) (fun q : Nat => sz ≤ q)) 1 6 (fun q : Nat => sz ≤ q) := by
  refine vx_ofW (cc := cX5_where) (maxL := 2) (ret := (some .int)) (by decide) rfl ?_
  intro p e s m args below meth c s₁ B hml hT0 hv
  obtain ⟨rfl, ⟨hsz, hP, hK⟩, hE⟩ := hv
  have hx := B.exec
  have hb := B.bytes
  have hr := B.returns
  have hts := atoms_spec (ws := wsX5_where) B.pre
  have hown : s.vm.findClass RX5 = some m.cls := findClass_of_methodNamed B.named
  have hlocks := B.notSynchronized
  subst hsz
  have hA : ∀ q : Nat, s.heap.size ≤ q → (fun q : Nat => s.heap.size ≤ q) q := fun _ h => h
  have hS : va_S (fun q : Nat => s.heap.size ≤ q) s.heap s.heap [] := va_S.rf
  have hP : va_P D vwCl [((a 0), .inr (5, [.ref (a 2), .ref (a 4), .ref (a 18), .ref (a 1)])), ((a 4), .inr (2, [.int hm, .int aw, .int tk, .ref (a 5), .ref (a 6), .ref (a 7), .ref (a 8), .ref (a 13)])), ((a 5), .inl (cI, 6, .inl ce))] s.heap := hP
  have hl := lv_entry ([.ref (a 0), .int p1]) (n := 2) (Nat.le_of_ble_eq_true rfl)
  rw [lg_entry_eq]
  generalize (lg_sl ([.ref (a 0), .int p1]) ++ List.replicate (2 - (lg_sl ([.ref (a 0), .int p1])).length) Slot.unset).toArray = ls at hl ⊢
  have hl : lv_has ls 2 [(0, .ref (a 0)), (1, .int p1)] := hl
  have hf_19 := hts (.fieldLink RX5 19 "PaintballAtlas" "round" "LPaintballAtlas$Round;") (by decide +kernel)
  have hi_X5 : ∀ w ∈ wsX50, w ∈ wsX5_where := by decide +kernel
  refine lv_iload_n hx hb dX5_where_0 rfl (lv_at hl 1 rfl) ?_
  have hPc := hP.sub (ws' := []) [] rfl
  refine vx_callv (vx_runS (As := [.int p1]) (rest := []) ⟨hx, hb, hml, hown, hts⟩ (c_X5_checkPlayer l hlt D cI cZ cJ cA sx s.heap.size p1) (va_cwS 1 hts gX5_where_X5_checkPlayer rfl rfl rfl (by decide +kernel) ⟨Nat.le_of_ble_eq_true rfl, Nat.le_of_ble_eq_true rfl⟩) ⟨pcXR_bl, fun U hU hW => ⟨rfl, ⟨by rw [hU], by rw [hU]; exact hPc, va_K.moved hW.alike hK⟩, hE.call hS (rd_free hS hA) hU hW⟩⟩ rfl rfl hl.1 rfl (lv_room (Nat.le_of_ble_eq_true rfl)) dX5_where_1 ⟨Nat.le_of_ble_eq_true rfl, Nat.le_of_ble_eq_true rfl⟩) hS (fun _ h1 h2 => absurd h1 (Nat.not_lt.mpr h2)) (rd_free hS hA) (fun _ h1 h2 => absurd h1 (Nat.not_lt.mpr h2)) (fun E cel q9 u t H locs ht hvm hpx hb1 hz1 hk1 hS hce hcv hcl => ?_) (fun u t H locs ht hvm hw hB hz1 hk1 hS => ?_)
  · have c_2 : ¬ (k_X5_checkPlayer p1) = 0 := thr_ne hb1
    refine vx_widen (k := 1) (n := 6) (Nat.le_of_ble_eq_true rfl) (Nat.le_of_ble_eq_true rfl) ?_
    refine vx_out (fun x h => absurd h (hT0 x)) hlocks hce hcv hcl (fun t1 ht1 _ => ⟨(), trivial, thr_eq (by rw [k_X5_where, if_neg c_2]) hb1, hS.F ht1⟩) (fun z hz => hS.2.2 z hz) (Nat.le_refl _) (Nat.le_refl _)
  · try dsimp only at hw
    have hk_1 := hw
    have hP := rd_P hP hk1
    refine W.widen (k := 1) (n := 6) (Nat.le_refl _) (Nat.le_refl _) ?_
    have hv_1 := kin_checkPlayer hk_1
    refine lv_aload_n hx hb dX5_where_4 rfl (lv_at hl 0 rfl) ?_
    refine va_get (D := D) (ci := 5) (v := .ref (a 4)) (C := RX5) (T := TX5) (N := 4) hx hb hts hi_X5 hown hK hP 0 rfl rfl 1 (by decide) hf_19 (fun _ h9 => h9) rfl dX5_where_5 ?_
    refine lv_iload_n hx hb dX5_where_8 rfl (lv_at hl 1 rfl) ?_
    have hPc := hP.sub (ws' := [((a 4), .inr (2, [.int hm, .int aw, .int tk, .ref (a 5), .ref (a 6), .ref (a 7), .ref (a 8), .ref (a 13)])), ((a 5), .inl (cI, 6, .inl ce))]) [1, 2] rfl
    refine va_calli (va_runV (As := [.int p1]) (rest := []) ⟨hx, hb, hml, hown, hts⟩ (c_X2_cellOf l D cI cZ cJ cA H.size a hm aw tk ce p1 (by assumption)) (cwV 1 hts gX5_where_X2_cellOf rfl rfl rfl (by decide +kernel) ⟨Nat.le_of_ble_eq_true rfl, Nat.le_of_ble_eq_true rfl⟩) ⟨pcR_bl, va_recv hK hPc (ci := 2) (q0 := 0) rfl rfl, fun U hU hW => ⟨rfl, by rw [hU], by rw [hU]; exact hPc, va_K.moved hW.alike hK⟩⟩ rfl rfl hl.1 rfl (lv_room (Nat.le_of_ble_eq_true rfl)) dX5_where_9 ⟨Nat.le_of_ble_eq_true rfl, Nat.le_of_ble_eq_true rfl⟩) hS (fun _ h1 h2 => absurd h1 (Nat.not_lt.mpr h2)) (rd_free hS hA) (fun r_3 u t H locs ht hvm hw hB hz1 hk1 hS => ?_)
    try dsimp only at hw
    have hr_3 := hw
    have hP := rd_P hP hk1
    obtain rfl := hr_3.symm
    refine W.widen (k := 1) (n := 6) (Nat.le_refl _) (Nat.le_refl _) ?_
    -- leaf 1
    refine W.widen (k := 1) (n := 6) (Nat.le_of_ble_eq_true rfl) (Nat.le_of_ble_eq_true rfl) ?_
    exact vx_ret (W.iret (v := ce p1.toNatClampNeg) hx hb hr (fun t ht hW => ⟨⟨ce p1.toNatClampNeg, (), rfl, ⟨(by rw [k_X5_where, if_pos hk_1]), rfl⟩, trivial⟩, hS.F ht⟩) hS.2.2 dX5_where_12)

noncomputable def k_X5_hit (hm : Int32) (aw : Int32) (tk : Int32) (hi : Nat → Int32) (p1 : Int32) : Int32 := if (k_X5_checkPlayer p1) = 0 then 0 else k_X5_checkPlayer p1
set_option maxHeartbeats 4000000 in
set_option maxRecDepth 100000 in
theorem c_X5_hit (l : Launch) (hlt : l.stackTraces = false) (D : va_G) (cI cZ cJ cA : ClassId) (sx : Nat → Nat) (sz : Nat) (a : Nat → Nat) (hm : Int32) (aw : Int32) (tk : Int32) (hi : Nat → Int32) (p1 : Int32) : vx_Met l yX5_hit wsX5_hit ({ frames := 7, cells := 1, slots := 6, locals := 110 } : Room) (va_Pc [.ref (a 0), .int p1] (pcX (pcR D (tyL cI cZ cJ cA) [((a 0), .inr (5, [.ref (a 2), .ref (a 4), .ref (a 18), .ref (a 1)])), ((a 4), .inr (2, [.int hm, .int aw, .int tk, .ref (a 5), .ref (a 6), .ref (a 7), .ref (a 8), .ref (a 13)])), ((a 6), .inl (cI, 6, .inl hi))] sz) sx (fun q : Nat => sz ≤ q))) (va_Qi (fun (r : Int32) (u : Unit) => (k_X5_hit hm aw tk hi p1) = 0 ∧ r = hi p1.toNatClampNeg) (fun _ _ => True) (fun q : Nat => sz ≤ q)) (vx_X (fun _ : Unit => True) (fun E _ _ => thr E (k_X5_hit hm aw tk hi p1)) (fun q : Nat => sz ≤ q)) 1 6 (fun q : Nat => sz ≤ q) := by
  refine vx_ofW (cc := cX5_hit) (maxL := 2) (ret := (some .int)) (by decide) rfl ?_
  intro p e s m args below meth c s₁ B hml hT0 hv
  obtain ⟨rfl, ⟨hsz, hP, hK⟩, hE⟩ := hv
  have hx := B.exec
  have hb := B.bytes
  have hr := B.returns
  have hts := atoms_spec (ws := wsX5_hit) B.pre
  have hown : s.vm.findClass RX5 = some m.cls := findClass_of_methodNamed B.named
  have hlocks := B.notSynchronized
  subst hsz
  have hA : ∀ q : Nat, s.heap.size ≤ q → (fun q : Nat => s.heap.size ≤ q) q := fun _ h => h
  have hS : va_S (fun q : Nat => s.heap.size ≤ q) s.heap s.heap [] := va_S.rf
  have hP : va_P D vwCl [((a 0), .inr (5, [.ref (a 2), .ref (a 4), .ref (a 18), .ref (a 1)])), ((a 4), .inr (2, [.int hm, .int aw, .int tk, .ref (a 5), .ref (a 6), .ref (a 7), .ref (a 8), .ref (a 13)])), ((a 6), .inl (cI, 6, .inl hi))] s.heap := hP
  have hl := lv_entry ([.ref (a 0), .int p1]) (n := 2) (Nat.le_of_ble_eq_true rfl)
  rw [lg_entry_eq]
  generalize (lg_sl ([.ref (a 0), .int p1]) ++ List.replicate (2 - (lg_sl ([.ref (a 0), .int p1])).length) Slot.unset).toArray = ls at hl ⊢
  have hl : lv_has ls 2 [(0, .ref (a 0)), (1, .int p1)] := hl
  have hf_19 := hts (.fieldLink RX5 19 "PaintballAtlas" "round" "LPaintballAtlas$Round;") (by decide +kernel)
  have hi_X5 : ∀ w ∈ wsX50, w ∈ wsX5_hit := by decide +kernel
  refine lv_iload_n hx hb dX5_hit_0 rfl (lv_at hl 1 rfl) ?_
  have hPc := hP.sub (ws' := []) [] rfl
  refine vx_callv (vx_runS (As := [.int p1]) (rest := []) ⟨hx, hb, hml, hown, hts⟩ (c_X5_checkPlayer l hlt D cI cZ cJ cA sx s.heap.size p1) (va_cwS 1 hts gX5_hit_X5_checkPlayer rfl rfl rfl (by decide +kernel) ⟨Nat.le_of_ble_eq_true rfl, Nat.le_of_ble_eq_true rfl⟩) ⟨pcXR_bl, fun U hU hW => ⟨rfl, ⟨by rw [hU], by rw [hU]; exact hPc, va_K.moved hW.alike hK⟩, hE.call hS (rd_free hS hA) hU hW⟩⟩ rfl rfl hl.1 rfl (lv_room (Nat.le_of_ble_eq_true rfl)) dX5_hit_1 ⟨Nat.le_of_ble_eq_true rfl, Nat.le_of_ble_eq_true rfl⟩) hS (fun _ h1 h2 => absurd h1 (Nat.not_lt.mpr h2)) (rd_free hS hA) (fun _ h1 h2 => absurd h1 (Nat.not_lt.mpr h2)) (fun E cel q9 u t H locs ht hvm hpx hb1 hz1 hk1 hS hce hcv hcl => ?_) (fun u t H locs ht hvm hw hB hz1 hk1 hS => ?_)
  · have c_2 : ¬ (k_X5_checkPlayer p1) = 0 := thr_ne hb1
    refine vx_widen (k := 1) (n := 6) (Nat.le_of_ble_eq_true rfl) (Nat.le_of_ble_eq_true rfl) ?_
    refine vx_out (fun x h => absurd h (hT0 x)) hlocks hce hcv hcl (fun t1 ht1 _ => ⟨(), trivial, thr_eq (by rw [k_X5_hit, if_neg c_2]) hb1, hS.F ht1⟩) (fun z hz => hS.2.2 z hz) (Nat.le_refl _) (Nat.le_refl _)
  · try dsimp only at hw
    have hk_1 := hw
    have hP := rd_P hP hk1
    refine W.widen (k := 1) (n := 6) (Nat.le_refl _) (Nat.le_refl _) ?_
    have hv_1 := kin_checkPlayer hk_1
    refine lv_aload_n hx hb dX5_hit_4 rfl (lv_at hl 0 rfl) ?_
    refine va_get (D := D) (ci := 5) (v := .ref (a 4)) (C := RX5) (T := TX5) (N := 4) hx hb hts hi_X5 hown hK hP 0 rfl rfl 1 (by decide) hf_19 (fun _ h9 => h9) rfl dX5_hit_5 ?_
    refine lv_iload_n hx hb dX5_hit_8 rfl (lv_at hl 1 rfl) ?_
    have hPc := hP.sub (ws' := [((a 4), .inr (2, [.int hm, .int aw, .int tk, .ref (a 5), .ref (a 6), .ref (a 7), .ref (a 8), .ref (a 13)])), ((a 6), .inl (cI, 6, .inl hi))]) [1, 2] rfl
    refine va_calli (va_runV (As := [.int p1]) (rest := []) ⟨hx, hb, hml, hown, hts⟩ (c_X2_hitOf l D cI cZ cJ cA H.size a hm aw tk hi p1 (by assumption)) (cwV 1 hts gX5_hit_X2_hitOf rfl rfl rfl (by decide +kernel) ⟨Nat.le_of_ble_eq_true rfl, Nat.le_of_ble_eq_true rfl⟩) ⟨pcR_bl, va_recv hK hPc (ci := 2) (q0 := 0) rfl rfl, fun U hU hW => ⟨rfl, by rw [hU], by rw [hU]; exact hPc, va_K.moved hW.alike hK⟩⟩ rfl rfl hl.1 rfl (lv_room (Nat.le_of_ble_eq_true rfl)) dX5_hit_9 ⟨Nat.le_of_ble_eq_true rfl, Nat.le_of_ble_eq_true rfl⟩) hS (fun _ h1 h2 => absurd h1 (Nat.not_lt.mpr h2)) (rd_free hS hA) (fun r_3 u t H locs ht hvm hw hB hz1 hk1 hS => ?_)
    try dsimp only at hw
    have hr_3 := hw
    have hP := rd_P hP hk1
    obtain rfl := hr_3.symm
    refine W.widen (k := 1) (n := 6) (Nat.le_refl _) (Nat.le_refl _) ?_
    -- leaf 1
    refine W.widen (k := 1) (n := 6) (Nat.le_of_ble_eq_true rfl) (Nat.le_of_ble_eq_true rfl) ?_
    exact vx_ret (W.iret (v := hi p1.toNatClampNeg) hx hb hr (fun t ht hW => ⟨⟨hi p1.toNatClampNeg, (), rfl, ⟨(by rw [k_X5_hit, if_pos hk_1]), rfl⟩, trivial⟩, hS.F ht⟩) hS.2.2 dX5_hit_12)

noncomputable def k_X5_points (pt : Nat → Int32) (p1 : Int32) : Int32 := if (k_X5_checkTeam p1) = 0 then 0 else k_X5_checkTeam p1
set_option maxHeartbeats 4000000 in
set_option maxRecDepth 100000 in
theorem c_X5_points (l : Launch) (hlt : l.stackTraces = false) (D : va_G) (cI cZ cJ cA : ClassId) (sx : Nat → Nat) (sz : Nat) (a : Nat → Nat) (pt : Nat → Int32) (p1 : Int32) : vx_Met l yX5_points wsX5_points ({ frames := 7, cells := 1, slots := 6, locals := 110 } : Room) (va_Pc [.ref (a 0), .int p1] (pcX (pcR D (tyL cI cZ cJ cA) [((a 0), .inr (5, [.ref (a 2), .ref (a 4), .ref (a 18), .ref (a 1)])), ((a 18), .inr (4, [.ref (a 19), .ref (a 20), .ref (a 21), .ref (a 22)])), ((a 19), .inl (cI, 6, .inl pt))] sz) sx (fun q : Nat => sz ≤ q))) (va_Qi (fun (r : Int32) (u : Unit) => (k_X5_points pt p1) = 0 ∧ r = pt p1.toNatClampNeg) (fun _ _ => True) (fun q : Nat => sz ≤ q)) (vx_X (fun _ : Unit => True) (fun E _ _ => thr E (k_X5_points pt p1)) (fun q : Nat => sz ≤ q)) 1 6 (fun q : Nat => sz ≤ q) := by
  refine vx_ofW (cc := cX5_points) (maxL := 2) (ret := (some .int)) (by decide) rfl ?_
  intro p e s m args below meth c s₁ B hml hT0 hv
  obtain ⟨rfl, ⟨hsz, hP, hK⟩, hE⟩ := hv
  have hx := B.exec
  have hb := B.bytes
  have hr := B.returns
  have hts := atoms_spec (ws := wsX5_points) B.pre
  have hown : s.vm.findClass RX5 = some m.cls := findClass_of_methodNamed B.named
  have hlocks := B.notSynchronized
  subst hsz
  have hA : ∀ q : Nat, s.heap.size ≤ q → (fun q : Nat => s.heap.size ≤ q) q := fun _ h => h
  have hS : va_S (fun q : Nat => s.heap.size ≤ q) s.heap s.heap [] := va_S.rf
  have hP : va_P D vwCl [((a 0), .inr (5, [.ref (a 2), .ref (a 4), .ref (a 18), .ref (a 1)])), ((a 18), .inr (4, [.ref (a 19), .ref (a 20), .ref (a 21), .ref (a 22)])), ((a 19), .inl (cI, 6, .inl pt))] s.heap := hP
  have hl := lv_entry ([.ref (a 0), .int p1]) (n := 2) (Nat.le_of_ble_eq_true rfl)
  rw [lg_entry_eq]
  generalize (lg_sl ([.ref (a 0), .int p1]) ++ List.replicate (2 - (lg_sl ([.ref (a 0), .int p1])).length) Slot.unset).toArray = ls at hl ⊢
  have hl : lv_has ls 2 [(0, .ref (a 0)), (1, .int p1)] := hl
  have hf_26 := hts (.fieldLink RX5 26 "PaintballAtlas" "table" "LPaintballAtlas$Table;") (by decide +kernel)
  have hi_X5 : ∀ w ∈ wsX50, w ∈ wsX5_points := by decide +kernel
  refine lv_iload_n hx hb dX5_points_0 rfl (lv_at hl 1 rfl) ?_
  have hPc := hP.sub (ws' := []) [] rfl
  refine vx_callv (vx_runS (As := [.int p1]) (rest := []) ⟨hx, hb, hml, hown, hts⟩ (c_X5_checkTeam l hlt D cI cZ cJ cA sx s.heap.size p1) (va_cwS 1 hts gX5_points_X5_checkTeam rfl rfl rfl (by decide +kernel) ⟨Nat.le_of_ble_eq_true rfl, Nat.le_of_ble_eq_true rfl⟩) ⟨pcXR_bl, fun U hU hW => ⟨rfl, ⟨by rw [hU], by rw [hU]; exact hPc, va_K.moved hW.alike hK⟩, hE.call hS (rd_free hS hA) hU hW⟩⟩ rfl rfl hl.1 rfl (lv_room (Nat.le_of_ble_eq_true rfl)) dX5_points_1 ⟨Nat.le_of_ble_eq_true rfl, Nat.le_of_ble_eq_true rfl⟩) hS (fun _ h1 h2 => absurd h1 (Nat.not_lt.mpr h2)) (rd_free hS hA) (fun _ h1 h2 => absurd h1 (Nat.not_lt.mpr h2)) (fun E cel q9 u t H locs ht hvm hpx hb1 hz1 hk1 hS hce hcv hcl => ?_) (fun u t H locs ht hvm hw hB hz1 hk1 hS => ?_)
  · have c_2 : ¬ (k_X5_checkTeam p1) = 0 := thr_ne hb1
    refine vx_widen (k := 1) (n := 6) (Nat.le_of_ble_eq_true rfl) (Nat.le_of_ble_eq_true rfl) ?_
    refine vx_out (fun x h => absurd h (hT0 x)) hlocks hce hcv hcl (fun t1 ht1 _ => ⟨(), trivial, thr_eq (by rw [k_X5_points, if_neg c_2]) hb1, hS.F ht1⟩) (fun z hz => hS.2.2 z hz) (Nat.le_refl _) (Nat.le_refl _)
  · try dsimp only at hw
    have hk_1 := hw
    have hP := rd_P hP hk1
    refine W.widen (k := 1) (n := 6) (Nat.le_refl _) (Nat.le_refl _) ?_
    have hv_1 := kin_checkTeam hk_1
    refine lv_aload_n hx hb dX5_points_4 rfl (lv_at hl 0 rfl) ?_
    refine va_get (D := D) (ci := 5) (v := .ref (a 18)) (C := RX5) (T := TX5) (N := 4) hx hb hts hi_X5 hown hK hP 0 rfl rfl 2 (by decide) hf_26 (fun _ h9 => h9) rfl dX5_points_5 ?_
    refine lv_iload_n hx hb dX5_points_8 rfl (lv_at hl 1 rfl) ?_
    have hPc := hP.sub (ws' := [((a 18), .inr (4, [.ref (a 19), .ref (a 20), .ref (a 21), .ref (a 22)])), ((a 19), .inl (cI, 6, .inl pt))]) [1, 2] rfl
    refine va_calli (va_runV (As := [.int p1]) (rest := []) ⟨hx, hb, hml, hown, hts⟩ (c_X4_pointsOf l D cI cZ cJ cA H.size a pt p1 (by assumption)) (cwV 1 hts gX5_points_X4_pointsOf rfl rfl rfl (by decide +kernel) ⟨Nat.le_of_ble_eq_true rfl, Nat.le_of_ble_eq_true rfl⟩) ⟨pcR_bl, va_recv hK hPc (ci := 4) (q0 := 0) rfl rfl, fun U hU hW => ⟨rfl, by rw [hU], by rw [hU]; exact hPc, va_K.moved hW.alike hK⟩⟩ rfl rfl hl.1 rfl (lv_room (Nat.le_of_ble_eq_true rfl)) dX5_points_9 ⟨Nat.le_of_ble_eq_true rfl, Nat.le_of_ble_eq_true rfl⟩) hS (fun _ h1 h2 => absurd h1 (Nat.not_lt.mpr h2)) (rd_free hS hA) (fun r_3 u t H locs ht hvm hw hB hz1 hk1 hS => ?_)
    try dsimp only at hw
    have hr_3 := hw
    have hP := rd_P hP hk1
    obtain rfl := hr_3.symm
    refine W.widen (k := 1) (n := 6) (Nat.le_refl _) (Nat.le_refl _) ?_
    -- leaf 1
    refine W.widen (k := 1) (n := 6) (Nat.le_of_ble_eq_true rfl) (Nat.le_of_ble_eq_true rfl) ?_
    exact vx_ret (W.iret (v := pt p1.toNatClampNeg) hx hb hr (fun t ht hW => ⟨⟨pt p1.toNatClampNeg, (), rfl, ⟨(by rw [k_X5_points, if_pos hk_1]), rfl⟩, trivial⟩, hS.F ht⟩) hS.2.2 dX5_points_12)

noncomputable def k_X5_fines (fn : Nat → Int32) (p1 : Int32) : Int32 := if (k_X5_checkTeam p1) = 0 then 0 else k_X5_checkTeam p1
set_option maxHeartbeats 4000000 in
set_option maxRecDepth 100000 in
theorem c_X5_fines (l : Launch) (hlt : l.stackTraces = false) (D : va_G) (cI cZ cJ cA : ClassId) (sx : Nat → Nat) (sz : Nat) (a : Nat → Nat) (fn : Nat → Int32) (p1 : Int32) : vx_Met l yX5_fines wsX5_fines ({ frames := 7, cells := 1, slots := 6, locals := 110 } : Room) (va_Pc [.ref (a 0), .int p1] (pcX (pcR D (tyL cI cZ cJ cA) [((a 0), .inr (5, [.ref (a 2), .ref (a 4), .ref (a 18), .ref (a 1)])), ((a 18), .inr (4, [.ref (a 19), .ref (a 20), .ref (a 21), .ref (a 22)])), ((a 20), .inl (cI, 6, .inl fn))] sz) sx (fun q : Nat => sz ≤ q))) (va_Qi (fun (r : Int32) (u : Unit) => (k_X5_fines fn p1) = 0 ∧ r = fn p1.toNatClampNeg) (fun _ _ => True) (fun q : Nat => sz ≤ q)) (vx_X (fun _ : Unit => True) (fun E _ _ => thr E (k_X5_fines fn p1)) (fun q : Nat => sz ≤ q)) 1 6 (fun q : Nat => sz ≤ q) := by
  refine vx_ofW (cc := cX5_fines) (maxL := 2) (ret := (some .int)) (by decide) rfl ?_
  intro p e s m args below meth c s₁ B hml hT0 hv
  obtain ⟨rfl, ⟨hsz, hP, hK⟩, hE⟩ := hv
  have hx := B.exec
  have hb := B.bytes
  have hr := B.returns
  have hts := atoms_spec (ws := wsX5_fines) B.pre
  have hown : s.vm.findClass RX5 = some m.cls := findClass_of_methodNamed B.named
  have hlocks := B.notSynchronized
  subst hsz
  have hA : ∀ q : Nat, s.heap.size ≤ q → (fun q : Nat => s.heap.size ≤ q) q := fun _ h => h
  have hS : va_S (fun q : Nat => s.heap.size ≤ q) s.heap s.heap [] := va_S.rf
  have hP : va_P D vwCl [((a 0), .inr (5, [.ref (a 2), .ref (a 4), .ref (a 18), .ref (a 1)])), ((a 18), .inr (4, [.ref (a 19), .ref (a 20), .ref (a 21), .ref (a 22)])), ((a 20), .inl (cI, 6, .inl fn))] s.heap := hP
  have hl := lv_entry ([.ref (a 0), .int p1]) (n := 2) (Nat.le_of_ble_eq_true rfl)
  rw [lg_entry_eq]
  generalize (lg_sl ([.ref (a 0), .int p1]) ++ List.replicate (2 - (lg_sl ([.ref (a 0), .int p1])).length) Slot.unset).toArray = ls at hl ⊢
  have hl : lv_has ls 2 [(0, .ref (a 0)), (1, .int p1)] := hl
  have hf_26 := hts (.fieldLink RX5 26 "PaintballAtlas" "table" "LPaintballAtlas$Table;") (by decide +kernel)
  have hi_X5 : ∀ w ∈ wsX50, w ∈ wsX5_fines := by decide +kernel
  refine lv_iload_n hx hb dX5_fines_0 rfl (lv_at hl 1 rfl) ?_
  have hPc := hP.sub (ws' := []) [] rfl
  refine vx_callv (vx_runS (As := [.int p1]) (rest := []) ⟨hx, hb, hml, hown, hts⟩ (c_X5_checkTeam l hlt D cI cZ cJ cA sx s.heap.size p1) (va_cwS 1 hts gX5_fines_X5_checkTeam rfl rfl rfl (by decide +kernel) ⟨Nat.le_of_ble_eq_true rfl, Nat.le_of_ble_eq_true rfl⟩) ⟨pcXR_bl, fun U hU hW => ⟨rfl, ⟨by rw [hU], by rw [hU]; exact hPc, va_K.moved hW.alike hK⟩, hE.call hS (rd_free hS hA) hU hW⟩⟩ rfl rfl hl.1 rfl (lv_room (Nat.le_of_ble_eq_true rfl)) dX5_fines_1 ⟨Nat.le_of_ble_eq_true rfl, Nat.le_of_ble_eq_true rfl⟩) hS (fun _ h1 h2 => absurd h1 (Nat.not_lt.mpr h2)) (rd_free hS hA) (fun _ h1 h2 => absurd h1 (Nat.not_lt.mpr h2)) (fun E cel q9 u t H locs ht hvm hpx hb1 hz1 hk1 hS hce hcv hcl => ?_) (fun u t H locs ht hvm hw hB hz1 hk1 hS => ?_)
  · have c_2 : ¬ (k_X5_checkTeam p1) = 0 := thr_ne hb1
    refine vx_widen (k := 1) (n := 6) (Nat.le_of_ble_eq_true rfl) (Nat.le_of_ble_eq_true rfl) ?_
    refine vx_out (fun x h => absurd h (hT0 x)) hlocks hce hcv hcl (fun t1 ht1 _ => ⟨(), trivial, thr_eq (by rw [k_X5_fines, if_neg c_2]) hb1, hS.F ht1⟩) (fun z hz => hS.2.2 z hz) (Nat.le_refl _) (Nat.le_refl _)
  · try dsimp only at hw
    have hk_1 := hw
    have hP := rd_P hP hk1
    refine W.widen (k := 1) (n := 6) (Nat.le_refl _) (Nat.le_refl _) ?_
    have hv_1 := kin_checkTeam hk_1
    refine lv_aload_n hx hb dX5_fines_4 rfl (lv_at hl 0 rfl) ?_
    refine va_get (D := D) (ci := 5) (v := .ref (a 18)) (C := RX5) (T := TX5) (N := 4) hx hb hts hi_X5 hown hK hP 0 rfl rfl 2 (by decide) hf_26 (fun _ h9 => h9) rfl dX5_fines_5 ?_
    refine lv_iload_n hx hb dX5_fines_8 rfl (lv_at hl 1 rfl) ?_
    have hPc := hP.sub (ws' := [((a 18), .inr (4, [.ref (a 19), .ref (a 20), .ref (a 21), .ref (a 22)])), ((a 20), .inl (cI, 6, .inl fn))]) [1, 2] rfl
    refine va_calli (va_runV (As := [.int p1]) (rest := []) ⟨hx, hb, hml, hown, hts⟩ (c_X4_finesOf l D cI cZ cJ cA H.size a fn p1 (by assumption)) (cwV 1 hts gX5_fines_X4_finesOf rfl rfl rfl (by decide +kernel) ⟨Nat.le_of_ble_eq_true rfl, Nat.le_of_ble_eq_true rfl⟩) ⟨pcR_bl, va_recv hK hPc (ci := 4) (q0 := 0) rfl rfl, fun U hU hW => ⟨rfl, by rw [hU], by rw [hU]; exact hPc, va_K.moved hW.alike hK⟩⟩ rfl rfl hl.1 rfl (lv_room (Nat.le_of_ble_eq_true rfl)) dX5_fines_9 ⟨Nat.le_of_ble_eq_true rfl, Nat.le_of_ble_eq_true rfl⟩) hS (fun _ h1 h2 => absurd h1 (Nat.not_lt.mpr h2)) (rd_free hS hA) (fun r_3 u t H locs ht hvm hw hB hz1 hk1 hS => ?_)
    try dsimp only at hw
    have hr_3 := hw
    have hP := rd_P hP hk1
    obtain rfl := hr_3.symm
    refine W.widen (k := 1) (n := 6) (Nat.le_refl _) (Nat.le_refl _) ?_
    -- leaf 1
    refine W.widen (k := 1) (n := 6) (Nat.le_of_ble_eq_true rfl) (Nat.le_of_ble_eq_true rfl) ?_
    exact vx_ret (W.iret (v := fn p1.toNatClampNeg) hx hb hr (fun t ht hW => ⟨⟨fn p1.toNatClampNeg, (), rfl, ⟨(by rw [k_X5_fines, if_pos hk_1]), rfl⟩, trivial⟩, hS.F ht⟩) hS.2.2 dX5_fines_12)

noncomputable def k_X5_difference (df : Nat → Int32) (p1 : Int32) : Int32 := if (k_X5_checkTeam p1) = 0 then 0 else k_X5_checkTeam p1
set_option maxHeartbeats 4000000 in
set_option maxRecDepth 100000 in
theorem c_X5_difference (l : Launch) (hlt : l.stackTraces = false) (D : va_G) (cI cZ cJ cA : ClassId) (sx : Nat → Nat) (sz : Nat) (a : Nat → Nat) (df : Nat → Int32) (p1 : Int32) : vx_Met l yX5_difference wsX5_difference ({ frames := 7, cells := 1, slots := 6, locals := 110 } : Room) (va_Pc [.ref (a 0), .int p1] (pcX (pcR D (tyL cI cZ cJ cA) [((a 0), .inr (5, [.ref (a 2), .ref (a 4), .ref (a 18), .ref (a 1)])), ((a 18), .inr (4, [.ref (a 19), .ref (a 20), .ref (a 21), .ref (a 22)])), ((a 21), .inl (cI, 6, .inl df))] sz) sx (fun q : Nat => sz ≤ q))) (va_Qi (fun (r : Int32) (u : Unit) => (k_X5_difference df p1) = 0 ∧ r = df p1.toNatClampNeg) (fun _ _ => True) (fun q : Nat => sz ≤ q)) (vx_X (fun _ : Unit => True) (fun E _ _ => thr E (k_X5_difference df p1)) (fun q : Nat => sz ≤ q)) 1 6 (fun q : Nat => sz ≤ q) := by
  refine vx_ofW (cc := cX5_difference) (maxL := 2) (ret := (some .int)) (by decide) rfl ?_
  intro p e s m args below meth c s₁ B hml hT0 hv
  obtain ⟨rfl, ⟨hsz, hP, hK⟩, hE⟩ := hv
  have hx := B.exec
  have hb := B.bytes
  have hr := B.returns
  have hts := atoms_spec (ws := wsX5_difference) B.pre
  have hown : s.vm.findClass RX5 = some m.cls := findClass_of_methodNamed B.named
  have hlocks := B.notSynchronized
  subst hsz
  have hA : ∀ q : Nat, s.heap.size ≤ q → (fun q : Nat => s.heap.size ≤ q) q := fun _ h => h
  have hS : va_S (fun q : Nat => s.heap.size ≤ q) s.heap s.heap [] := va_S.rf
  have hP : va_P D vwCl [((a 0), .inr (5, [.ref (a 2), .ref (a 4), .ref (a 18), .ref (a 1)])), ((a 18), .inr (4, [.ref (a 19), .ref (a 20), .ref (a 21), .ref (a 22)])), ((a 21), .inl (cI, 6, .inl df))] s.heap := hP
  have hl := lv_entry ([.ref (a 0), .int p1]) (n := 2) (Nat.le_of_ble_eq_true rfl)
  rw [lg_entry_eq]
  generalize (lg_sl ([.ref (a 0), .int p1]) ++ List.replicate (2 - (lg_sl ([.ref (a 0), .int p1])).length) Slot.unset).toArray = ls at hl ⊢
  have hl : lv_has ls 2 [(0, .ref (a 0)), (1, .int p1)] := hl
  have hf_26 := hts (.fieldLink RX5 26 "PaintballAtlas" "table" "LPaintballAtlas$Table;") (by decide +kernel)
  have hi_X5 : ∀ w ∈ wsX50, w ∈ wsX5_difference := by decide +kernel
  refine lv_iload_n hx hb dX5_difference_0 rfl (lv_at hl 1 rfl) ?_
  have hPc := hP.sub (ws' := []) [] rfl
  refine vx_callv (vx_runS (As := [.int p1]) (rest := []) ⟨hx, hb, hml, hown, hts⟩ (c_X5_checkTeam l hlt D cI cZ cJ cA sx s.heap.size p1) (va_cwS 1 hts gX5_difference_X5_checkTeam rfl rfl rfl (by decide +kernel) ⟨Nat.le_of_ble_eq_true rfl, Nat.le_of_ble_eq_true rfl⟩) ⟨pcXR_bl, fun U hU hW => ⟨rfl, ⟨by rw [hU], by rw [hU]; exact hPc, va_K.moved hW.alike hK⟩, hE.call hS (rd_free hS hA) hU hW⟩⟩ rfl rfl hl.1 rfl (lv_room (Nat.le_of_ble_eq_true rfl)) dX5_difference_1 ⟨Nat.le_of_ble_eq_true rfl, Nat.le_of_ble_eq_true rfl⟩) hS (fun _ h1 h2 => absurd h1 (Nat.not_lt.mpr h2)) (rd_free hS hA) (fun _ h1 h2 => absurd h1 (Nat.not_lt.mpr h2)) (fun E cel q9 u t H locs ht hvm hpx hb1 hz1 hk1 hS hce hcv hcl => ?_) (fun u t H locs ht hvm hw hB hz1 hk1 hS => ?_)
  · have c_2 : ¬ (k_X5_checkTeam p1) = 0 := thr_ne hb1
    refine vx_widen (k := 1) (n := 6) (Nat.le_of_ble_eq_true rfl) (Nat.le_of_ble_eq_true rfl) ?_
    refine vx_out (fun x h => absurd h (hT0 x)) hlocks hce hcv hcl (fun t1 ht1 _ => ⟨(), trivial, thr_eq (by rw [k_X5_difference, if_neg c_2]) hb1, hS.F ht1⟩) (fun z hz => hS.2.2 z hz) (Nat.le_refl _) (Nat.le_refl _)
  · try dsimp only at hw
    have hk_1 := hw
    have hP := rd_P hP hk1
    refine W.widen (k := 1) (n := 6) (Nat.le_refl _) (Nat.le_refl _) ?_
    have hv_1 := kin_checkTeam hk_1
    refine lv_aload_n hx hb dX5_difference_4 rfl (lv_at hl 0 rfl) ?_
    refine va_get (D := D) (ci := 5) (v := .ref (a 18)) (C := RX5) (T := TX5) (N := 4) hx hb hts hi_X5 hown hK hP 0 rfl rfl 2 (by decide) hf_26 (fun _ h9 => h9) rfl dX5_difference_5 ?_
    refine lv_iload_n hx hb dX5_difference_8 rfl (lv_at hl 1 rfl) ?_
    have hPc := hP.sub (ws' := [((a 18), .inr (4, [.ref (a 19), .ref (a 20), .ref (a 21), .ref (a 22)])), ((a 21), .inl (cI, 6, .inl df))]) [1, 2] rfl
    refine va_calli (va_runV (As := [.int p1]) (rest := []) ⟨hx, hb, hml, hown, hts⟩ (c_X4_differenceOf l D cI cZ cJ cA H.size a df p1 (by assumption)) (cwV 1 hts gX5_difference_X4_differenceOf rfl rfl rfl (by decide +kernel) ⟨Nat.le_of_ble_eq_true rfl, Nat.le_of_ble_eq_true rfl⟩) ⟨pcR_bl, va_recv hK hPc (ci := 4) (q0 := 0) rfl rfl, fun U hU hW => ⟨rfl, by rw [hU], by rw [hU]; exact hPc, va_K.moved hW.alike hK⟩⟩ rfl rfl hl.1 rfl (lv_room (Nat.le_of_ble_eq_true rfl)) dX5_difference_9 ⟨Nat.le_of_ble_eq_true rfl, Nat.le_of_ble_eq_true rfl⟩) hS (fun _ h1 h2 => absurd h1 (Nat.not_lt.mpr h2)) (rd_free hS hA) (fun r_3 u t H locs ht hvm hw hB hz1 hk1 hS => ?_)
    try dsimp only at hw
    have hr_3 := hw
    have hP := rd_P hP hk1
    obtain rfl := hr_3.symm
    refine W.widen (k := 1) (n := 6) (Nat.le_refl _) (Nat.le_refl _) ?_
    -- leaf 1
    refine W.widen (k := 1) (n := 6) (Nat.le_of_ble_eq_true rfl) (Nat.le_of_ble_eq_true rfl) ?_
    exact vx_ret (W.iret (v := df p1.toNatClampNeg) hx hb hr (fun t ht hW => ⟨⟨df p1.toNatClampNeg, (), rfl, ⟨(by rw [k_X5_difference, if_pos hk_1]), rfl⟩, trivial⟩, hS.F ht⟩) hS.2.2 dX5_difference_12)

noncomputable def k_X5_place (pt : Nat → Int32) (df : Nat → Int32) (wn : Nat → Nat → Int32) (p1 : Int32) : Int32 := if (k_X5_checkTeam p1) = 0 then 0 else k_X5_checkTeam p1
set_option maxHeartbeats 4000000 in
set_option maxRecDepth 100000 in
theorem c_X5_place (l : Launch) (hlt : l.stackTraces = false) (D : va_G) (cI cZ cJ cA : ClassId) (sx : Nat → Nat) (sz : Nat) (a : Nat → Nat) (pt : Nat → Int32) (df : Nat → Int32) (wn : Nat → Nat → Int32) (p1 : Int32) : vx_Met l yX5_place wsX5_place ({ frames := 7, cells := 1, slots := 6, locals := 110 } : Room) (va_Pc [.ref (a 0), .int p1] (pcX (pcR D (tyL cI cZ cJ cA) [((a 0), .inr (5, [.ref (a 2), .ref (a 4), .ref (a 18), .ref (a 1)])), ((a 18), .inr (4, [.ref (a 19), .ref (a 20), .ref (a 21), .ref (a 22)])), ((a 19), .inl (cI, 6, .inl pt)), ((a 21), .inl (cI, 6, .inl df)), ((a 22), .inl (cA, 6, .inr (.inr (.inr (.inr (fun k9 => if k9 < 6 then some (a (23 + k9)) else none)))))), ((a (23 + 0)), .inl (cI, 6, .inl (wn 0))), ((a (23 + 1)), .inl (cI, 6, .inl (wn 1))), ((a (23 + 2)), .inl (cI, 6, .inl (wn 2))), ((a (23 + 3)), .inl (cI, 6, .inl (wn 3))), ((a (23 + 4)), .inl (cI, 6, .inl (wn 4))), ((a (23 + 5)), .inl (cI, 6, .inl (wn 5)))] sz) sx (fun q : Nat => sz ≤ q))) (va_Qi (fun (r : Int32) (u : Unit) => (k_X5_place pt df wn p1) = 0 ∧ r = plN pt df wn p1 6) (fun _ _ => True) (fun q : Nat => sz ≤ q)) (vx_X (fun _ : Unit => True) (fun E _ _ => thr E (k_X5_place pt df wn p1)) (fun q : Nat => sz ≤ q)) 1 6 (fun q : Nat => sz ≤ q) := by
  refine vx_ofW (cc := cX5_place) (maxL := 2) (ret := (some .int)) (by decide) rfl ?_
  intro p e s m args below meth c s₁ B hml hT0 hv
  obtain ⟨rfl, ⟨hsz, hP, hK⟩, hE⟩ := hv
  have hx := B.exec
  have hb := B.bytes
  have hr := B.returns
  have hts := atoms_spec (ws := wsX5_place) B.pre
  have hown : s.vm.findClass RX5 = some m.cls := findClass_of_methodNamed B.named
  have hlocks := B.notSynchronized
  subst hsz
  have hA : ∀ q : Nat, s.heap.size ≤ q → (fun q : Nat => s.heap.size ≤ q) q := fun _ h => h
  have hS : va_S (fun q : Nat => s.heap.size ≤ q) s.heap s.heap [] := va_S.rf
  have hP : va_P D vwCl [((a 0), .inr (5, [.ref (a 2), .ref (a 4), .ref (a 18), .ref (a 1)])), ((a 18), .inr (4, [.ref (a 19), .ref (a 20), .ref (a 21), .ref (a 22)])), ((a 19), .inl (cI, 6, .inl pt)), ((a 21), .inl (cI, 6, .inl df)), ((a 22), .inl (cA, 6, .inr (.inr (.inr (.inr (fun k9 => if k9 < 6 then some (a (23 + k9)) else none)))))), ((a (23 + 0)), .inl (cI, 6, .inl (wn 0))), ((a (23 + 1)), .inl (cI, 6, .inl (wn 1))), ((a (23 + 2)), .inl (cI, 6, .inl (wn 2))), ((a (23 + 3)), .inl (cI, 6, .inl (wn 3))), ((a (23 + 4)), .inl (cI, 6, .inl (wn 4))), ((a (23 + 5)), .inl (cI, 6, .inl (wn 5)))] s.heap := hP
  have hl := lv_entry ([.ref (a 0), .int p1]) (n := 2) (Nat.le_of_ble_eq_true rfl)
  rw [lg_entry_eq]
  generalize (lg_sl ([.ref (a 0), .int p1]) ++ List.replicate (2 - (lg_sl ([.ref (a 0), .int p1])).length) Slot.unset).toArray = ls at hl ⊢
  have hl : lv_has ls 2 [(0, .ref (a 0)), (1, .int p1)] := hl
  have hf_26 := hts (.fieldLink RX5 26 "PaintballAtlas" "table" "LPaintballAtlas$Table;") (by decide +kernel)
  have hi_X5 : ∀ w ∈ wsX50, w ∈ wsX5_place := by decide +kernel
  refine lv_iload_n hx hb dX5_place_0 rfl (lv_at hl 1 rfl) ?_
  have hPc := hP.sub (ws' := []) [] rfl
  refine vx_callv (vx_runS (As := [.int p1]) (rest := []) ⟨hx, hb, hml, hown, hts⟩ (c_X5_checkTeam l hlt D cI cZ cJ cA sx s.heap.size p1) (va_cwS 1 hts gX5_place_X5_checkTeam rfl rfl rfl (by decide +kernel) ⟨Nat.le_of_ble_eq_true rfl, Nat.le_of_ble_eq_true rfl⟩) ⟨pcXR_bl, fun U hU hW => ⟨rfl, ⟨by rw [hU], by rw [hU]; exact hPc, va_K.moved hW.alike hK⟩, hE.call hS (rd_free hS hA) hU hW⟩⟩ rfl rfl hl.1 rfl (lv_room (Nat.le_of_ble_eq_true rfl)) dX5_place_1 ⟨Nat.le_of_ble_eq_true rfl, Nat.le_of_ble_eq_true rfl⟩) hS (fun _ h1 h2 => absurd h1 (Nat.not_lt.mpr h2)) (rd_free hS hA) (fun _ h1 h2 => absurd h1 (Nat.not_lt.mpr h2)) (fun E cel q9 u t H locs ht hvm hpx hb1 hz1 hk1 hS hce hcv hcl => ?_) (fun u t H locs ht hvm hw hB hz1 hk1 hS => ?_)
  · have c_2 : ¬ (k_X5_checkTeam p1) = 0 := thr_ne hb1
    refine vx_widen (k := 1) (n := 6) (Nat.le_of_ble_eq_true rfl) (Nat.le_of_ble_eq_true rfl) ?_
    refine vx_out (fun x h => absurd h (hT0 x)) hlocks hce hcv hcl (fun t1 ht1 _ => ⟨(), trivial, thr_eq (by rw [k_X5_place, if_neg c_2]) hb1, hS.F ht1⟩) (fun z hz => hS.2.2 z hz) (Nat.le_refl _) (Nat.le_refl _)
  · try dsimp only at hw
    have hk_1 := hw
    have hP := rd_P hP hk1
    refine W.widen (k := 1) (n := 6) (Nat.le_refl _) (Nat.le_refl _) ?_
    have hv_1 := kin_checkTeam hk_1
    refine lv_aload_n hx hb dX5_place_4 rfl (lv_at hl 0 rfl) ?_
    refine va_get (D := D) (ci := 5) (v := .ref (a 18)) (C := RX5) (T := TX5) (N := 4) hx hb hts hi_X5 hown hK hP 0 rfl rfl 2 (by decide) hf_26 (fun _ h9 => h9) rfl dX5_place_5 ?_
    refine lv_iload_n hx hb dX5_place_8 rfl (lv_at hl 1 rfl) ?_
    have hPc := hP.sub (ws' := [((a 18), .inr (4, [.ref (a 19), .ref (a 20), .ref (a 21), .ref (a 22)])), ((a 19), .inl (cI, 6, .inl pt)), ((a 21), .inl (cI, 6, .inl df)), ((a 22), .inl (cA, 6, .inr (.inr (.inr (.inr (fun k9 => if k9 < 6 then some (a (23 + k9)) else none)))))), ((a (23 + 0)), .inl (cI, 6, .inl (wn 0))), ((a (23 + 1)), .inl (cI, 6, .inl (wn 1))), ((a (23 + 2)), .inl (cI, 6, .inl (wn 2))), ((a (23 + 3)), .inl (cI, 6, .inl (wn 3))), ((a (23 + 4)), .inl (cI, 6, .inl (wn 4))), ((a (23 + 5)), .inl (cI, 6, .inl (wn 5)))]) [1, 2, 3, 4, 5, 6, 7, 8, 9, 10] rfl
    refine va_calli (va_runV (As := [.int p1]) (rest := []) ⟨hx, hb, hml, hown, hts⟩ (c_X4_placeOf l D cI cZ cJ cA H.size a pt df wn p1 (by assumption)) (cwV 1 hts gX5_place_X4_placeOf rfl rfl rfl (by decide +kernel) ⟨Nat.le_of_ble_eq_true rfl, Nat.le_of_ble_eq_true rfl⟩) ⟨pcR_bl, va_recv hK hPc (ci := 4) (q0 := 0) rfl rfl, fun U hU hW => ⟨rfl, by rw [hU], by rw [hU]; exact hPc, va_K.moved hW.alike hK⟩⟩ rfl rfl hl.1 rfl (lv_room (Nat.le_of_ble_eq_true rfl)) dX5_place_9 ⟨Nat.le_of_ble_eq_true rfl, Nat.le_of_ble_eq_true rfl⟩) hS (fun _ h1 h2 => absurd h1 (Nat.not_lt.mpr h2)) (rd_free hS hA) (fun r_3 u t H locs ht hvm hw hB hz1 hk1 hS => ?_)
    try dsimp only at hw
    have hr_3 := hw
    have hP := rd_P hP hk1
    obtain rfl := hr_3.symm
    refine W.widen (k := 1) (n := 6) (Nat.le_refl _) (Nat.le_refl _) ?_
    -- leaf 1
    refine W.widen (k := 1) (n := 6) (Nat.le_of_ble_eq_true rfl) (Nat.le_of_ble_eq_true rfl) ?_
    exact vx_ret (W.iret (v := plN pt df wn p1 6) hx hb hr (fun t ht hW => ⟨⟨plN pt df wn p1 6, (), rfl, ⟨(by rw [k_X5_place, if_pos hk_1]), rfl⟩, trivial⟩, hS.F ht⟩) hS.2.2 dX5_place_12)

noncomputable def k_X5_end (hm : Int32) (aw : Int32) (tk : Int32) (ce : Nat → Int32) (hi : Nat → Int32) (la : Nat → Int32) (sn : Nat) (kn : Nat) (pt : Nat → Int32) (fn : Nat → Int32) (df : Nat → Int32) (wn : Nat → Nat → Int32) : Int32 := if (k_X5_checkRound hm aw tk) = 0 then 0 else k_X5_checkRound hm aw tk
set_option maxHeartbeats 4000000 in
set_option maxRecDepth 100000 in
theorem c_X5_end (l : Launch) (hlt : l.stackTraces = false) (D : va_G) (cI cZ cJ cA : ClassId) (sx : Nat → Nat) (sz : Nat) (a : Nat → Nat) (hm : Int32) (aw : Int32) (tk : Int32) (ce : Nat → Int32) (hi : Nat → Int32) (la : Nat → Int32) (sn : Nat) (kn : Nat) (pt : Nat → Int32) (fn : Nat → Int32) (df : Nat → Int32) (wn : Nat → Nat → Int32) (hhm : vp_in hm 6) (haw : vp_in aw 6) : vx_Met l yX5_end wsX5_end ({ frames := 7, cells := 1, slots := 6, locals := 110 } : Room) (va_Pc [.ref (a 0)] (pcX (pcW D (tyL cI cZ cJ cA) [((a 0), .inr (5, [.ref (a 2), .ref (a 4), .ref (a 18), .ref (a 1)])), ((a 4), .inr (2, [.int hm, .int aw, .int tk, .ref (a 5), .ref (a 6), .ref (a 7), .ref (a 8), .ref (a 13)])), ((a 5), .inl (cI, 6, .inl ce)), ((a 6), .inl (cI, 6, .inl hi)), ((a 7), .inl (cI, 6, .inl la)), ((a 8), .inr (3, [.int (nI sn), .ref (a 9), .ref (a 10), .ref (a 11), .ref (a 12)])), ((a 13), .inr (0, [.int (nI kn), .ref (a 14), .ref (a 15), .ref (a 16), .ref (a 17)])), ((a 18), .inr (4, [.ref (a 19), .ref (a 20), .ref (a 21), .ref (a 22)])), ((a 19), .inl (cI, 6, .inl pt)), ((a 20), .inl (cI, 6, .inl fn)), ((a 21), .inl (cI, 6, .inl df)), ((a 22), .inl (cA, 6, .inr (.inr (.inr (.inr (fun k9 => if k9 < 6 then some (a (23 + k9)) else none)))))), ((a (23 + 0)), .inl (cI, 6, .inl (wn 0))), ((a (23 + 1)), .inl (cI, 6, .inl (wn 1))), ((a (23 + 2)), .inl (cI, 6, .inl (wn 2))), ((a (23 + 3)), .inl (cI, 6, .inl (wn 3))), ((a (23 + 4)), .inl (cI, 6, .inl (wn 4))), ((a (23 + 5)), .inl (cI, 6, .inl (wn 5)))] sz) sx (va_A [((a 0), .inr (5, [.ref (a 2), .ref (a 4), .ref (a 18), .ref (a 1)])), ((a 4), .inr (2, [.int hm, .int aw, .int tk, .ref (a 5), .ref (a 6), .ref (a 7), .ref (a 8), .ref (a 13)])), ((a 5), .inl (cI, 6, .inl ce)), ((a 6), .inl (cI, 6, .inl hi)), ((a 7), .inl (cI, 6, .inl la)), ((a 8), .inr (3, [.int (nI sn), .ref (a 9), .ref (a 10), .ref (a 11), .ref (a 12)])), ((a 13), .inr (0, [.int (nI kn), .ref (a 14), .ref (a 15), .ref (a 16), .ref (a 17)])), ((a 18), .inr (4, [.ref (a 19), .ref (a 20), .ref (a 21), .ref (a 22)])), ((a 19), .inl (cI, 6, .inl pt)), ((a 20), .inl (cI, 6, .inl fn)), ((a 21), .inl (cI, 6, .inl df)), ((a 22), .inl (cA, 6, .inr (.inr (.inr (.inr (fun k9 => if k9 < 6 then some (a (23 + k9)) else none)))))), ((a (23 + 0)), .inl (cI, 6, .inl (wn 0))), ((a (23 + 1)), .inl (cI, 6, .inl (wn 1))), ((a (23 + 2)), .inl (cI, 6, .inl (wn 2))), ((a (23 + 3)), .inl (cI, 6, .inl (wn 3))), ((a (23 + 4)), .inl (cI, 6, .inl (wn 4))), ((a (23 + 5)), .inl (cI, 6, .inl (wn 5)))] sz))) (va_Qi (fun (r : Int32) (u : (Int32) × (Nat → Int32) × (Nat → Int32) × (Nat → Int32) × (Nat) × (Nat) × (Nat → Int32) × (Nat → Int32) × (Nat → Int32) × (Nat → Nat → Int32)) => (k_X5_end hm aw tk ce hi la sn kn pt fn df wn) = 0 ∧ r = mgN ce hi 6 ∧ u.1 = (-1) ∧ u.2.1 = (fillN ce (-2) 6) ∧ u.2.2.1 = (fillN hi (-1) 6) ∧ u.2.2.2.1 = (fillN la (-1) 6) ∧ u.2.2.2.2.1 = 0 ∧ u.2.2.2.2.2.1 = 0 ∧ u.2.2.2.2.2.2.1 = (g_pt_X4_enter pt fn df wn hm aw (mgN ce hi 6)) ∧ u.2.2.2.2.2.2.2.1 = (g_fn_X4_enter pt fn df wn hm aw (mgN ce hi 6)) ∧ u.2.2.2.2.2.2.2.2.1 = (g_df_X4_enter pt fn df wn hm aw (mgN ce hi 6)) ∧ u.2.2.2.2.2.2.2.2.2 = (g_wn_X4_enter pt fn df wn hm aw (mgN ce hi 6))) (fun u t => bcW D (tyL cI cZ cJ cA) (va_A [((a 0), .inr (5, [.ref (a 2), .ref (a 4), .ref (a 18), .ref (a 1)])), ((a 4), .inr (2, [.int hm, .int aw, .int tk, .ref (a 5), .ref (a 6), .ref (a 7), .ref (a 8), .ref (a 13)])), ((a 5), .inl (cI, 6, .inl ce)), ((a 6), .inl (cI, 6, .inl hi)), ((a 7), .inl (cI, 6, .inl la)), ((a 8), .inr (3, [.int (nI sn), .ref (a 9), .ref (a 10), .ref (a 11), .ref (a 12)])), ((a 13), .inr (0, [.int (nI kn), .ref (a 14), .ref (a 15), .ref (a 16), .ref (a 17)])), ((a 18), .inr (4, [.ref (a 19), .ref (a 20), .ref (a 21), .ref (a 22)])), ((a 19), .inl (cI, 6, .inl pt)), ((a 20), .inl (cI, 6, .inl fn)), ((a 21), .inl (cI, 6, .inl df)), ((a 22), .inl (cA, 6, .inr (.inr (.inr (.inr (fun k9 => if k9 < 6 then some (a (23 + k9)) else none)))))), ((a (23 + 0)), .inl (cI, 6, .inl (wn 0))), ((a (23 + 1)), .inl (cI, 6, .inl (wn 1))), ((a (23 + 2)), .inl (cI, 6, .inl (wn 2))), ((a (23 + 3)), .inl (cI, 6, .inl (wn 3))), ((a (23 + 4)), .inl (cI, 6, .inl (wn 4))), ((a (23 + 5)), .inl (cI, 6, .inl (wn 5)))] sz) [((a 0), .inr (5, [.ref (a 2), .ref (a 4), .ref (a 18), .ref (a 1)])), ((a 4), .inr (2, [.int hm, .int aw, .int u.1, .ref (a 5), .ref (a 6), .ref (a 7), .ref (a 8), .ref (a 13)])), ((a 5), .inl (cI, 6, .inl u.2.1)), ((a 6), .inl (cI, 6, .inl u.2.2.1)), ((a 7), .inl (cI, 6, .inl u.2.2.2.1)), ((a 8), .inr (3, [.int (nI u.2.2.2.2.1), .ref (a 9), .ref (a 10), .ref (a 11), .ref (a 12)])), ((a 13), .inr (0, [.int (nI u.2.2.2.2.2.1), .ref (a 14), .ref (a 15), .ref (a 16), .ref (a 17)])), ((a 18), .inr (4, [.ref (a 19), .ref (a 20), .ref (a 21), .ref (a 22)])), ((a 19), .inl (cI, 6, .inl u.2.2.2.2.2.2.1)), ((a 20), .inl (cI, 6, .inl u.2.2.2.2.2.2.2.1)), ((a 21), .inl (cI, 6, .inl u.2.2.2.2.2.2.2.2.1)), ((a 22), .inl (cA, 6, .inr (.inr (.inr (.inr (fun k9 => if k9 < 6 then some (a (23 + k9)) else none)))))), ((a (23 + 0)), .inl (cI, 6, .inl (u.2.2.2.2.2.2.2.2.2 0))), ((a (23 + 1)), .inl (cI, 6, .inl (u.2.2.2.2.2.2.2.2.2 1))), ((a (23 + 2)), .inl (cI, 6, .inl (u.2.2.2.2.2.2.2.2.2 2))), ((a (23 + 3)), .inl (cI, 6, .inl (u.2.2.2.2.2.2.2.2.2 3))), ((a (23 + 4)), .inl (cI, 6, .inl (u.2.2.2.2.2.2.2.2.2 4))), ((a (23 + 5)), .inl (cI, 6, .inl (u.2.2.2.2.2.2.2.2.2 5)))] t) (va_A [((a 0), .inr (5, [.ref (a 2), .ref (a 4), .ref (a 18), .ref (a 1)])), ((a 4), .inr (2, [.int hm, .int aw, .int tk, .ref (a 5), .ref (a 6), .ref (a 7), .ref (a 8), .ref (a 13)])), ((a 5), .inl (cI, 6, .inl ce)), ((a 6), .inl (cI, 6, .inl hi)), ((a 7), .inl (cI, 6, .inl la)), ((a 8), .inr (3, [.int (nI sn), .ref (a 9), .ref (a 10), .ref (a 11), .ref (a 12)])), ((a 13), .inr (0, [.int (nI kn), .ref (a 14), .ref (a 15), .ref (a 16), .ref (a 17)])), ((a 18), .inr (4, [.ref (a 19), .ref (a 20), .ref (a 21), .ref (a 22)])), ((a 19), .inl (cI, 6, .inl pt)), ((a 20), .inl (cI, 6, .inl fn)), ((a 21), .inl (cI, 6, .inl df)), ((a 22), .inl (cA, 6, .inr (.inr (.inr (.inr (fun k9 => if k9 < 6 then some (a (23 + k9)) else none)))))), ((a (23 + 0)), .inl (cI, 6, .inl (wn 0))), ((a (23 + 1)), .inl (cI, 6, .inl (wn 1))), ((a (23 + 2)), .inl (cI, 6, .inl (wn 2))), ((a (23 + 3)), .inl (cI, 6, .inl (wn 3))), ((a (23 + 4)), .inl (cI, 6, .inl (wn 4))), ((a (23 + 5)), .inl (cI, 6, .inl (wn 5)))] sz)) (vx_X (fun _ : Unit => True) (fun E _ _ => thr E (k_X5_end hm aw tk ce hi la sn kn pt fn df wn)) (fun q : Nat => sz ≤ q)) 1 6 (va_A [((a 0), .inr (5, [.ref (a 2), .ref (a 4), .ref (a 18), .ref (a 1)])), ((a 4), .inr (2, [.int hm, .int aw, .int tk, .ref (a 5), .ref (a 6), .ref (a 7), .ref (a 8), .ref (a 13)])), ((a 5), .inl (cI, 6, .inl ce)), ((a 6), .inl (cI, 6, .inl hi)), ((a 7), .inl (cI, 6, .inl la)), ((a 8), .inr (3, [.int (nI sn), .ref (a 9), .ref (a 10), .ref (a 11), .ref (a 12)])), ((a 13), .inr (0, [.int (nI kn), .ref (a 14), .ref (a 15), .ref (a 16), .ref (a 17)])), ((a 18), .inr (4, [.ref (a 19), .ref (a 20), .ref (a 21), .ref (a 22)])), ((a 19), .inl (cI, 6, .inl pt)), ((a 20), .inl (cI, 6, .inl fn)), ((a 21), .inl (cI, 6, .inl df)), ((a 22), .inl (cA, 6, .inr (.inr (.inr (.inr (fun k9 => if k9 < 6 then some (a (23 + k9)) else none)))))), ((a (23 + 0)), .inl (cI, 6, .inl (wn 0))), ((a (23 + 1)), .inl (cI, 6, .inl (wn 1))), ((a (23 + 2)), .inl (cI, 6, .inl (wn 2))), ((a (23 + 3)), .inl (cI, 6, .inl (wn 3))), ((a (23 + 4)), .inl (cI, 6, .inl (wn 4))), ((a (23 + 5)), .inl (cI, 6, .inl (wn 5)))] sz) := by
  refine vx_ofW (cc := cX5_end) (maxL := 2) (ret := (some .int)) (by decide) rfl ?_
  intro p e s m args below meth c s₁ B hml hT0 hv
  obtain ⟨rfl, ⟨hsz, hP, hK, hD0⟩, hE⟩ := hv
  have hx := B.exec
  have hb := B.bytes
  have hr := B.returns
  have hts := atoms_spec (ws := wsX5_end) B.pre
  have hown : s.vm.findClass RX5 = some m.cls := findClass_of_methodNamed B.named
  have hlocks := B.notSynchronized
  subst hsz
  have hD := hD0.self (sz := s.heap.size)
  have hE := hE.narrow (B := fun q : Nat => s.heap.size ≤ q) (fun q h => Or.inr h)
  generalize hAe : va_A [((a 0), .inr (5, [.ref (a 2), .ref (a 4), .ref (a 18), .ref (a 1)])), ((a 4), .inr (2, [.int hm, .int aw, .int tk, .ref (a 5), .ref (a 6), .ref (a 7), .ref (a 8), .ref (a 13)])), ((a 5), .inl (cI, 6, .inl ce)), ((a 6), .inl (cI, 6, .inl hi)), ((a 7), .inl (cI, 6, .inl la)), ((a 8), .inr (3, [.int (nI sn), .ref (a 9), .ref (a 10), .ref (a 11), .ref (a 12)])), ((a 13), .inr (0, [.int (nI kn), .ref (a 14), .ref (a 15), .ref (a 16), .ref (a 17)])), ((a 18), .inr (4, [.ref (a 19), .ref (a 20), .ref (a 21), .ref (a 22)])), ((a 19), .inl (cI, 6, .inl pt)), ((a 20), .inl (cI, 6, .inl fn)), ((a 21), .inl (cI, 6, .inl df)), ((a 22), .inl (cA, 6, .inr (.inr (.inr (.inr (fun k9 => if k9 < 6 then some (a (23 + k9)) else none)))))), ((a (23 + 0)), .inl (cI, 6, .inl (wn 0))), ((a (23 + 1)), .inl (cI, 6, .inl (wn 1))), ((a (23 + 2)), .inl (cI, 6, .inl (wn 2))), ((a (23 + 3)), .inl (cI, 6, .inl (wn 3))), ((a (23 + 4)), .inl (cI, 6, .inl (wn 4))), ((a (23 + 5)), .inl (cI, 6, .inl (wn 5)))] s.heap.size = A at hD ⊢
  have hA : ∀ q : Nat, s.heap.size ≤ q → A q := fun q h => by rw [← hAe]; exact Or.inr h
  have hAR : ∀ q : Nat, s.heap.size ≤ q → (fun q : Nat => s.heap.size ≤ q) q := fun _ h => h
  have hS : va_S (fun q : Nat => s.heap.size ≤ q) s.heap s.heap [] := va_S.rf
  have hP : va_P D vwCl [((a 0), .inr (5, [.ref (a 2), .ref (a 4), .ref (a 18), .ref (a 1)])), ((a 4), .inr (2, [.int hm, .int aw, .int tk, .ref (a 5), .ref (a 6), .ref (a 7), .ref (a 8), .ref (a 13)])), ((a 5), .inl (cI, 6, .inl ce)), ((a 6), .inl (cI, 6, .inl hi)), ((a 7), .inl (cI, 6, .inl la)), ((a 8), .inr (3, [.int (nI sn), .ref (a 9), .ref (a 10), .ref (a 11), .ref (a 12)])), ((a 13), .inr (0, [.int (nI kn), .ref (a 14), .ref (a 15), .ref (a 16), .ref (a 17)])), ((a 18), .inr (4, [.ref (a 19), .ref (a 20), .ref (a 21), .ref (a 22)])), ((a 19), .inl (cI, 6, .inl pt)), ((a 20), .inl (cI, 6, .inl fn)), ((a 21), .inl (cI, 6, .inl df)), ((a 22), .inl (cA, 6, .inr (.inr (.inr (.inr (fun k9 => if k9 < 6 then some (a (23 + k9)) else none)))))), ((a (23 + 0)), .inl (cI, 6, .inl (wn 0))), ((a (23 + 1)), .inl (cI, 6, .inl (wn 1))), ((a (23 + 2)), .inl (cI, 6, .inl (wn 2))), ((a (23 + 3)), .inl (cI, 6, .inl (wn 3))), ((a (23 + 4)), .inl (cI, 6, .inl (wn 4))), ((a (23 + 5)), .inl (cI, 6, .inl (wn 5)))] s.heap := hP
  have hl := lv_entry ([.ref (a 0)]) (n := 2) (Nat.le_of_ble_eq_true rfl)
  rw [lg_entry_eq]
  generalize (lg_sl ([.ref (a 0)]) ++ List.replicate (2 - (lg_sl ([.ref (a 0)])).length) Slot.unset).toArray = ls at hl ⊢
  have hl : lv_has ls 2 [(0, .ref (a 0))] := hl
  have hf_19 := hts (.fieldLink RX5 19 "PaintballAtlas" "round" "LPaintballAtlas$Round;") (by decide +kernel)
  have hi_X5 : ∀ w ∈ wsX50, w ∈ wsX5_end := by decide +kernel
  have hf_26 := hts (.fieldLink RX5 26 "PaintballAtlas" "table" "LPaintballAtlas$Table;") (by decide +kernel)
  refine lv_aload_n hx hb dX5_end_0 rfl (lv_at hl 0 rfl) ?_
  have hPc := hP.sub (ws' := [((a 0), .inr (5, [.ref (a 2), .ref (a 4), .ref (a 18), .ref (a 1)])), ((a 4), .inr (2, [.int hm, .int aw, .int tk, .ref (a 5), .ref (a 6), .ref (a 7), .ref (a 8), .ref (a 13)]))]) [0, 1] rfl
  refine vx_callv (vx_runV (As := []) (rest := []) ⟨hx, hb, hml, hown, hts⟩ (c_X5_checkRound l hlt D cI cZ cJ cA sx s.heap.size a hm aw tk) (cwV 0 hts gX5_end_X5_checkRound rfl rfl rfl (by decide +kernel) ⟨Nat.le_of_ble_eq_true rfl, Nat.le_of_ble_eq_true rfl⟩) ⟨pcXR_bl, va_recv hK hPc (ci := 5) (q0 := 0) rfl rfl, fun U hU hW => ⟨rfl, ⟨by rw [hU], by rw [hU]; exact hPc, va_K.moved hW.alike hK⟩, hE.call hS (rd_free hS hAR) hU hW⟩⟩ rfl rfl hl.1 rfl (lv_room (Nat.le_of_ble_eq_true rfl)) dX5_end_1 ⟨Nat.le_of_ble_eq_true rfl, Nat.le_of_ble_eq_true rfl⟩) hS (fun _ h1 h2 => absurd h1 (Nat.not_lt.mpr h2)) (rd_free hS hAR) (fun _ h1 h2 => absurd h1 (Nat.not_lt.mpr h2)) (fun E cel q9 u t H locs ht hvm hpx hb1 hz1 hk1 hS hce hcv hcl => ?_) (fun u t H locs ht hvm hw hB hz1 hk1 hS => ?_)
  · have c_2 : ¬ (k_X5_checkRound hm aw tk) = 0 := thr_ne hb1
    refine vx_widen (k := 1) (n := 6) (Nat.le_of_ble_eq_true rfl) (Nat.le_of_ble_eq_true rfl) ?_
    refine vx_out (fun x h => absurd h (hT0 x)) hlocks hce hcv hcl (fun t1 ht1 _ => ⟨(), trivial, thr_eq (by rw [k_X5_end, if_neg c_2]) hb1, hS.F ht1⟩) (fun z hz => hA _ (hS.2.2 z hz)) (Nat.le_refl _) (Nat.le_refl _)
  · try dsimp only at hw
    have hk_1 := hw
    have hP := rd_P hP hk1
    refine W.widen (k := 1) (n := 6) (Nat.le_refl _) (Nat.le_refl _) ?_
    refine lv_aload_n hx hb dX5_end_4 rfl (lv_at hl 0 rfl) ?_
    refine va_get (D := D) (ci := 5) (v := .ref (a 4)) (C := RX5) (T := TX5) (N := 4) hx hb hts hi_X5 hown hK hP 0 rfl rfl 1 (by decide) hf_19 (fun _ h9 => h9) rfl dX5_end_5 ?_
    have hPc := hP.sub (ws' := [((a 4), .inr (2, [.int hm, .int aw, .int tk, .ref (a 5), .ref (a 6), .ref (a 7), .ref (a 8), .ref (a 13)])), ((a 5), .inl (cI, 6, .inl ce)), ((a 6), .inl (cI, 6, .inl hi))]) [1, 2, 3] rfl
    refine va_calli (va_runV (As := []) (rest := []) ⟨hx, hb, hml, hown, hts⟩ (c_X2_margin l D cI cZ cJ cA H.size a hm aw tk ce hi) (cwV 0 hts gX5_end_X2_margin rfl rfl rfl (by decide +kernel) ⟨Nat.le_of_ble_eq_true rfl, Nat.le_of_ble_eq_true rfl⟩) ⟨pcR_bl, va_recv hK hPc (ci := 2) (q0 := 0) rfl rfl, fun U hU hW => ⟨rfl, by rw [hU], by rw [hU]; exact hPc, va_K.moved hW.alike hK⟩⟩ rfl rfl hl.1 rfl (lv_room (Nat.le_of_ble_eq_true rfl)) dX5_end_8 ⟨Nat.le_of_ble_eq_true rfl, Nat.le_of_ble_eq_true rfl⟩) hS (fun _ h1 h2 => absurd h1 (Nat.not_lt.mpr h2)) (rd_free hS hAR) (fun r_3 u t H locs ht hvm hw hB hz1 hk1 hS => ?_)
    try dsimp only at hw
    have hr_3 := hw
    have hP := rd_P hP hk1
    obtain rfl := hr_3.symm
    refine W.widen (k := 1) (n := 6) (Nat.le_refl _) (Nat.le_refl _) ?_
    refine lv_istore_n (lv' := [(1, .int (mgN ce hi 6)), (0, .ref (a 0))]) hx hb dX5_end_11 rfl hl (by decide) rfl (fun ls hl => ?_)
    refine lv_aload_n hx hb dX5_end_12 rfl (lv_at hl 1 rfl) ?_
    refine va_get (D := D) (ci := 5) (v := .ref (a 18)) (C := RX5) (T := TX5) (N := 4) hx hb hts hi_X5 hown hK hP 0 rfl rfl 2 (by decide) hf_26 (fun _ h9 => h9) rfl dX5_end_13 ?_
    refine lv_aload_n hx hb dX5_end_16 rfl (lv_at hl 1 rfl) ?_
    refine va_get (D := D) (ci := 5) (v := .ref (a 4)) (C := RX5) (T := TX5) (N := 4) hx hb hts hi_X5 hown hK hP 0 rfl rfl 1 (by decide) hf_19 (fun _ h9 => h9) rfl dX5_end_17 ?_
    have hPc := hP.sub (ws' := [((a 4), .inr (2, [.int hm, .int aw, .int tk, .ref (a 5), .ref (a 6), .ref (a 7), .ref (a 8), .ref (a 13)]))]) [1] rfl
    refine va_calli (va_runV (As := []) (rest := [.ref (a 18)]) ⟨hx, hb, hml, hown, hts⟩ (c_X2_homeTeam l D cI cZ cJ cA H.size a hm aw tk) (cwV 0 hts gX5_end_X2_homeTeam rfl rfl rfl (by decide +kernel) ⟨Nat.le_of_ble_eq_true rfl, Nat.le_of_ble_eq_true rfl⟩) ⟨pcR_bl, va_recv hK hPc (ci := 2) (q0 := 0) rfl rfl, fun U hU hW => ⟨rfl, by rw [hU], by rw [hU]; exact hPc, va_K.moved hW.alike hK⟩⟩ rfl rfl hl.1 rfl (lv_room (Nat.le_of_ble_eq_true rfl)) dX5_end_20 ⟨Nat.le_of_ble_eq_true rfl, Nat.le_of_ble_eq_true rfl⟩) hS (fun _ h1 h2 => absurd h1 (Nat.not_lt.mpr h2)) (rd_free hS hAR) (fun r_4 u t H locs ht hvm hw hB hz1 hk1 hS => ?_)
    try dsimp only at hw
    have hr_4 := hw
    have hP := rd_P hP hk1
    obtain rfl := hr_4.symm
    refine W.widen (k := 1) (n := 6) (Nat.le_refl _) (Nat.le_refl _) ?_
    refine lv_aload_n hx hb dX5_end_23 rfl (lv_at hl 1 rfl) ?_
    refine va_get (D := D) (ci := 5) (v := .ref (a 4)) (C := RX5) (T := TX5) (N := 4) hx hb hts hi_X5 hown hK hP 0 rfl rfl 1 (by decide) hf_19 (fun _ h9 => h9) rfl dX5_end_24 ?_
    have hPc := hP.sub (ws' := [((a 4), .inr (2, [.int hm, .int aw, .int tk, .ref (a 5), .ref (a 6), .ref (a 7), .ref (a 8), .ref (a 13)]))]) [1] rfl
    refine va_calli (va_runV (As := []) (rest := [.int hm, .ref (a 18)]) ⟨hx, hb, hml, hown, hts⟩ (c_X2_awayTeam l D cI cZ cJ cA H.size a hm aw tk) (cwV 0 hts gX5_end_X2_awayTeam rfl rfl rfl (by decide +kernel) ⟨Nat.le_of_ble_eq_true rfl, Nat.le_of_ble_eq_true rfl⟩) ⟨pcR_bl, va_recv hK hPc (ci := 2) (q0 := 0) rfl rfl, fun U hU hW => ⟨rfl, by rw [hU], by rw [hU]; exact hPc, va_K.moved hW.alike hK⟩⟩ rfl rfl hl.1 rfl (lv_room (Nat.le_of_ble_eq_true rfl)) dX5_end_27 ⟨Nat.le_of_ble_eq_true rfl, Nat.le_of_ble_eq_true rfl⟩) hS (fun _ h1 h2 => absurd h1 (Nat.not_lt.mpr h2)) (rd_free hS hAR) (fun r_5 u t H locs ht hvm hw hB hz1 hk1 hS => ?_)
    try dsimp only at hw
    have hr_5 := hw
    have hP := rd_P hP hk1
    obtain rfl := hr_5.symm
    refine W.widen (k := 1) (n := 6) (Nat.le_refl _) (Nat.le_refl _) ?_
    refine lv_iload_n hx hb dX5_end_30 rfl (lv_at hl 0 rfl) ?_
    have hPc := hP.sub (ws' := [((a 18), .inr (4, [.ref (a 19), .ref (a 20), .ref (a 21), .ref (a 22)])), ((a 19), .inl (cI, 6, .inl pt)), ((a 20), .inl (cI, 6, .inl fn)), ((a 21), .inl (cI, 6, .inl df)), ((a 22), .inl (cA, 6, .inr (.inr (.inr (.inr (fun k9 => if k9 < 6 then some (a (23 + k9)) else none)))))), ((a (23 + 0)), .inl (cI, 6, .inl (wn 0))), ((a (23 + 1)), .inl (cI, 6, .inl (wn 1))), ((a (23 + 2)), .inl (cI, 6, .inl (wn 2))), ((a (23 + 3)), .inl (cI, 6, .inl (wn 3))), ((a (23 + 4)), .inl (cI, 6, .inl (wn 4))), ((a (23 + 5)), .inl (cI, 6, .inl (wn 5)))]) [7, 8, 9, 10, 11, 12, 13, 14, 15, 16, 17] rfl
    have hS := va_S_mono hS hA
    have hDc := hD.sub (ws' := [((a 18), .inr (4, [.ref (a 19), .ref (a 20), .ref (a 21), .ref (a 22)])), ((a 19), .inl (cI, 6, .inl pt)), ((a 20), .inl (cI, 6, .inl fn)), ((a 21), .inl (cI, 6, .inl df)), ((a 22), .inl (cA, 6, .inr (.inr (.inr (.inr (fun k9 => if k9 < 6 then some (a (23 + k9)) else none)))))), ((a (23 + 0)), .inl (cI, 6, .inl (wn 0))), ((a (23 + 1)), .inl (cI, 6, .inl (wn 1))), ((a (23 + 2)), .inl (cI, 6, .inl (wn 2))), ((a (23 + 3)), .inl (cI, 6, .inl (wn 3))), ((a (23 + 4)), .inl (cI, 6, .inl (wn 4))), ((a (23 + 5)), .inl (cI, 6, .inl (wn 5)))]) [7, 8, 9, 10, 11, 12, 13, 14, 15, 16, 17] (by decide) rfl
    have hFc := va_free (wc := [((a 18), .inr (4, [.ref (a 19), .ref (a 20), .ref (a 21), .ref (a 22)])), ((a 19), .inl (cI, 6, .inl pt)), ((a 20), .inl (cI, 6, .inl fn)), ((a 21), .inl (cI, 6, .inl df)), ((a 22), .inl (cA, 6, .inr (.inr (.inr (.inr (fun k9 => if k9 < 6 then some (a (23 + k9)) else none)))))), ((a (23 + 0)), .inl (cI, 6, .inl (wn 0))), ((a (23 + 1)), .inl (cI, 6, .inl (wn 1))), ((a (23 + 2)), .inl (cI, 6, .inl (wn 2))), ((a (23 + 3)), .inl (cI, 6, .inl (wn 3))), ((a (23 + 4)), .inl (cI, 6, .inl (wn 4))), ((a (23 + 5)), .inl (cI, 6, .inl (wn 5)))]) hD hS hA [7, 8, 9, 10, 11, 12, 13, 14, 15, 16, 17] rfl
    refine va_callv (va_runV (As := [.int hm, .int aw, .int (mgN ce hi 6)]) (rest := []) ⟨hx, hb, hml, hown, hts⟩ (c_X4_enter l D cI cZ cJ cA H.size a pt fn df wn hm aw (mgN ce hi 6) (by assumption) (by assumption)) (cwV 3 hts gX5_end_X4_enter rfl rfl rfl (by decide +kernel) ⟨Nat.le_of_ble_eq_true rfl, Nat.le_of_ble_eq_true rfl⟩) ⟨pcW_bl, va_recv hK hPc (ci := 4) (q0 := 0) rfl rfl, fun U hU hW => ⟨rfl, by rw [hU], by rw [hU]; exact hPc, va_K.moved hW.alike hK, hDc.weaken (fun _ _ _ _ => trivial)⟩⟩ rfl rfl hl.1 rfl (lv_room (Nat.le_of_ble_eq_true rfl)) dX5_end_31 ⟨Nat.le_of_ble_eq_true rfl, Nat.le_of_ble_eq_true rfl⟩) hS (fun q _ h => hFc q h) hFc (fun u t H locs ht hvm hw hB hz1 hk1 hS => ?_)
    try dsimp only at hw
    obtain ⟨u0_6, u1_6, u2_6, u3_6⟩ := u
    try dsimp only at hw
    obtain ⟨hu0_6, hu1_6, hu2_6, hu3_6⟩ := hw
    obtain ⟨hP1, hK1, hD1⟩ := hB
    rw [ht] at hP1
    obtain ⟨hP, hD⟩ := va_join (wr := [((a 0), .inr (5, [.ref (a 2), .ref (a 4), .ref (a 18), .ref (a 1)])), ((a 4), .inr (2, [.int hm, .int aw, .int tk, .ref (a 5), .ref (a 6), .ref (a 7), .ref (a 8), .ref (a 13)])), ((a 5), .inl (cI, 6, .inl ce)), ((a 6), .inl (cI, 6, .inl hi)), ((a 7), .inl (cI, 6, .inl la)), ((a 8), .inr (3, [.int (nI sn), .ref (a 9), .ref (a 10), .ref (a 11), .ref (a 12)])), ((a 13), .inr (0, [.int (nI kn), .ref (a 14), .ref (a 15), .ref (a 16), .ref (a 17)]))]) (w1 := [((a 18), .inr (4, [.ref (a 19), .ref (a 20), .ref (a 21), .ref (a 22)])), ((a 19), .inl (cI, 6, .inl u0_6)), ((a 20), .inl (cI, 6, .inl u1_6)), ((a 21), .inl (cI, 6, .inl u2_6)), ((a 22), .inl (cA, 6, .inr (.inr (.inr (.inr (fun k9 => if k9 < 6 then some (a (23 + k9)) else none)))))), ((a (23 + 0)), .inl (cI, 6, .inl (u3_6 0))), ((a (23 + 1)), .inl (cI, 6, .inl (u3_6 1))), ((a (23 + 2)), .inl (cI, 6, .inl (u3_6 2))), ((a (23 + 3)), .inl (cI, 6, .inl (u3_6 3))), ((a (23 + 4)), .inl (cI, 6, .inl (u3_6 4))), ((a (23 + 5)), .inl (cI, 6, .inl (u3_6 5)))]) hP hD [7, 8, 9, 10, 11, 12, 13, 14, 15, 16, 17] [0, 1, 2, 3, 4, 5, 6] rfl rfl (by decide) (by decide) hk1 hFc hP1 hD1
    obtain rfl := hu0_6.symm
    obtain rfl := hu1_6.symm
    obtain rfl := hu2_6.symm
    obtain rfl := hu3_6.symm
    have hP : va_P D vwCl [((a 0), .inr (5, [.ref (a 2), .ref (a 4), .ref (a 18), .ref (a 1)])), ((a 4), .inr (2, [.int hm, .int aw, .int tk, .ref (a 5), .ref (a 6), .ref (a 7), .ref (a 8), .ref (a 13)])), ((a 5), .inl (cI, 6, .inl ce)), ((a 6), .inl (cI, 6, .inl hi)), ((a 7), .inl (cI, 6, .inl la)), ((a 8), .inr (3, [.int (nI sn), .ref (a 9), .ref (a 10), .ref (a 11), .ref (a 12)])), ((a 13), .inr (0, [.int (nI kn), .ref (a 14), .ref (a 15), .ref (a 16), .ref (a 17)])), ((a 18), .inr (4, [.ref (a 19), .ref (a 20), .ref (a 21), .ref (a 22)])), ((a 19), .inl (cI, 6, .inl (g_pt_X4_enter pt fn df wn hm aw (mgN ce hi 6)))), ((a 20), .inl (cI, 6, .inl (g_fn_X4_enter pt fn df wn hm aw (mgN ce hi 6)))), ((a 21), .inl (cI, 6, .inl (g_df_X4_enter pt fn df wn hm aw (mgN ce hi 6)))), ((a 22), .inl (cA, 6, .inr (.inr (.inr (.inr (fun k9 => if k9 < 6 then some (a (23 + k9)) else none)))))), ((a (23 + 0)), .inl (cI, 6, .inl ((g_wn_X4_enter pt fn df wn hm aw (mgN ce hi 6)) 0))), ((a (23 + 1)), .inl (cI, 6, .inl ((g_wn_X4_enter pt fn df wn hm aw (mgN ce hi 6)) 1))), ((a (23 + 2)), .inl (cI, 6, .inl ((g_wn_X4_enter pt fn df wn hm aw (mgN ce hi 6)) 2))), ((a (23 + 3)), .inl (cI, 6, .inl ((g_wn_X4_enter pt fn df wn hm aw (mgN ce hi 6)) 3))), ((a (23 + 4)), .inl (cI, 6, .inl ((g_wn_X4_enter pt fn df wn hm aw (mgN ce hi 6)) 4))), ((a (23 + 5)), .inl (cI, 6, .inl ((g_wn_X4_enter pt fn df wn hm aw (mgN ce hi 6)) 5)))] H := hP
    have hD : va_D A [((a 0), .inr (5, [.ref (a 2), .ref (a 4), .ref (a 18), .ref (a 1)])), ((a 4), .inr (2, [.int hm, .int aw, .int tk, .ref (a 5), .ref (a 6), .ref (a 7), .ref (a 8), .ref (a 13)])), ((a 5), .inl (cI, 6, .inl ce)), ((a 6), .inl (cI, 6, .inl hi)), ((a 7), .inl (cI, 6, .inl la)), ((a 8), .inr (3, [.int (nI sn), .ref (a 9), .ref (a 10), .ref (a 11), .ref (a 12)])), ((a 13), .inr (0, [.int (nI kn), .ref (a 14), .ref (a 15), .ref (a 16), .ref (a 17)])), ((a 18), .inr (4, [.ref (a 19), .ref (a 20), .ref (a 21), .ref (a 22)])), ((a 19), .inl (cI, 6, .inl (g_pt_X4_enter pt fn df wn hm aw (mgN ce hi 6)))), ((a 20), .inl (cI, 6, .inl (g_fn_X4_enter pt fn df wn hm aw (mgN ce hi 6)))), ((a 21), .inl (cI, 6, .inl (g_df_X4_enter pt fn df wn hm aw (mgN ce hi 6)))), ((a 22), .inl (cA, 6, .inr (.inr (.inr (.inr (fun k9 => if k9 < 6 then some (a (23 + k9)) else none)))))), ((a (23 + 0)), .inl (cI, 6, .inl ((g_wn_X4_enter pt fn df wn hm aw (mgN ce hi 6)) 0))), ((a (23 + 1)), .inl (cI, 6, .inl ((g_wn_X4_enter pt fn df wn hm aw (mgN ce hi 6)) 1))), ((a (23 + 2)), .inl (cI, 6, .inl ((g_wn_X4_enter pt fn df wn hm aw (mgN ce hi 6)) 2))), ((a (23 + 3)), .inl (cI, 6, .inl ((g_wn_X4_enter pt fn df wn hm aw (mgN ce hi 6)) 3))), ((a (23 + 4)), .inl (cI, 6, .inl ((g_wn_X4_enter pt fn df wn hm aw (mgN ce hi 6)) 4))), ((a (23 + 5)), .inl (cI, 6, .inl ((g_wn_X4_enter pt fn df wn hm aw (mgN ce hi 6)) 5)))] := hD
    refine W.widen (k := 1) (n := 6) (Nat.le_refl _) (Nat.le_refl _) ?_
    refine lv_aload_n hx hb dX5_end_34 rfl (lv_at hl 1 rfl) ?_
    refine va_get (D := D) (ci := 5) (v := .ref (a 4)) (C := RX5) (T := TX5) (N := 4) hx hb hts hi_X5 hown hK hP 0 rfl rfl 1 (by decide) hf_19 (fun _ h9 => h9) rfl dX5_end_35 ?_
    have hPc := hP.sub (ws' := [((a 4), .inr (2, [.int hm, .int aw, .int tk, .ref (a 5), .ref (a 6), .ref (a 7), .ref (a 8), .ref (a 13)])), ((a 5), .inl (cI, 6, .inl ce)), ((a 6), .inl (cI, 6, .inl hi)), ((a 7), .inl (cI, 6, .inl la)), ((a 8), .inr (3, [.int (nI sn), .ref (a 9), .ref (a 10), .ref (a 11), .ref (a 12)])), ((a 13), .inr (0, [.int (nI kn), .ref (a 14), .ref (a 15), .ref (a 16), .ref (a 17)]))]) [1, 2, 3, 4, 5, 6] rfl
    have hDc := hD.sub (ws' := [((a 4), .inr (2, [.int hm, .int aw, .int tk, .ref (a 5), .ref (a 6), .ref (a 7), .ref (a 8), .ref (a 13)])), ((a 5), .inl (cI, 6, .inl ce)), ((a 6), .inl (cI, 6, .inl hi)), ((a 7), .inl (cI, 6, .inl la)), ((a 8), .inr (3, [.int (nI sn), .ref (a 9), .ref (a 10), .ref (a 11), .ref (a 12)])), ((a 13), .inr (0, [.int (nI kn), .ref (a 14), .ref (a 15), .ref (a 16), .ref (a 17)]))]) [1, 2, 3, 4, 5, 6] (by decide) rfl
    have hFc := va_free (wc := [((a 4), .inr (2, [.int hm, .int aw, .int tk, .ref (a 5), .ref (a 6), .ref (a 7), .ref (a 8), .ref (a 13)])), ((a 5), .inl (cI, 6, .inl ce)), ((a 6), .inl (cI, 6, .inl hi)), ((a 7), .inl (cI, 6, .inl la)), ((a 8), .inr (3, [.int (nI sn), .ref (a 9), .ref (a 10), .ref (a 11), .ref (a 12)])), ((a 13), .inr (0, [.int (nI kn), .ref (a 14), .ref (a 15), .ref (a 16), .ref (a 17)]))]) hD hS hA [1, 2, 3, 4, 5, 6] rfl
    refine va_callv (va_runV (As := []) (rest := []) ⟨hx, hb, hml, hown, hts⟩ (c_X2_close l D cI cZ cJ cA H.size a hm aw tk ce hi la sn kn) (cwV 0 hts gX5_end_X2_close rfl rfl rfl (by decide +kernel) ⟨Nat.le_of_ble_eq_true rfl, Nat.le_of_ble_eq_true rfl⟩) ⟨pcW_bl, va_recv hK hPc (ci := 2) (q0 := 0) rfl rfl, fun U hU hW => ⟨rfl, by rw [hU], by rw [hU]; exact hPc, va_K.moved hW.alike hK, hDc.weaken (fun _ _ _ _ => trivial)⟩⟩ rfl rfl hl.1 rfl (lv_room (Nat.le_of_ble_eq_true rfl)) dX5_end_38 ⟨Nat.le_of_ble_eq_true rfl, Nat.le_of_ble_eq_true rfl⟩) hS (fun q _ h => hFc q h) hFc (fun u t H locs ht hvm hw hB hz1 hk1 hS => ?_)
    try dsimp only at hw
    obtain ⟨u0_7, u1_7, u2_7, u3_7, u4_7, u5_7⟩ := u
    try dsimp only at hw
    obtain ⟨hu0_7, hu1_7, hu2_7, hu3_7, hu4_7, hu5_7⟩ := hw
    obtain ⟨hP1, hK1, hD1⟩ := hB
    rw [ht] at hP1
    obtain ⟨hP, hD⟩ := va_join (wr := [((a 0), .inr (5, [.ref (a 2), .ref (a 4), .ref (a 18), .ref (a 1)])), ((a 18), .inr (4, [.ref (a 19), .ref (a 20), .ref (a 21), .ref (a 22)])), ((a 19), .inl (cI, 6, .inl (g_pt_X4_enter pt fn df wn hm aw (mgN ce hi 6)))), ((a 20), .inl (cI, 6, .inl (g_fn_X4_enter pt fn df wn hm aw (mgN ce hi 6)))), ((a 21), .inl (cI, 6, .inl (g_df_X4_enter pt fn df wn hm aw (mgN ce hi 6)))), ((a 22), .inl (cA, 6, .inr (.inr (.inr (.inr (fun k9 => if k9 < 6 then some (a (23 + k9)) else none)))))), ((a (23 + 0)), .inl (cI, 6, .inl ((g_wn_X4_enter pt fn df wn hm aw (mgN ce hi 6)) 0))), ((a (23 + 1)), .inl (cI, 6, .inl ((g_wn_X4_enter pt fn df wn hm aw (mgN ce hi 6)) 1))), ((a (23 + 2)), .inl (cI, 6, .inl ((g_wn_X4_enter pt fn df wn hm aw (mgN ce hi 6)) 2))), ((a (23 + 3)), .inl (cI, 6, .inl ((g_wn_X4_enter pt fn df wn hm aw (mgN ce hi 6)) 3))), ((a (23 + 4)), .inl (cI, 6, .inl ((g_wn_X4_enter pt fn df wn hm aw (mgN ce hi 6)) 4))), ((a (23 + 5)), .inl (cI, 6, .inl ((g_wn_X4_enter pt fn df wn hm aw (mgN ce hi 6)) 5)))]) (w1 := [((a 4), .inr (2, [.int hm, .int aw, .int u0_7, .ref (a 5), .ref (a 6), .ref (a 7), .ref (a 8), .ref (a 13)])), ((a 5), .inl (cI, 6, .inl u1_7)), ((a 6), .inl (cI, 6, .inl u2_7)), ((a 7), .inl (cI, 6, .inl u3_7)), ((a 8), .inr (3, [.int (nI u4_7), .ref (a 9), .ref (a 10), .ref (a 11), .ref (a 12)])), ((a 13), .inr (0, [.int (nI u5_7), .ref (a 14), .ref (a 15), .ref (a 16), .ref (a 17)]))]) hP hD [1, 2, 3, 4, 5, 6] [0, 7, 8, 9, 10, 11, 12, 13, 14, 15, 16, 17] rfl rfl (by decide) (by decide) hk1 hFc hP1 hD1
    obtain rfl := hu0_7.symm
    obtain rfl := hu1_7.symm
    obtain rfl := hu2_7.symm
    obtain rfl := hu3_7.symm
    obtain rfl := hu4_7.symm
    obtain rfl := hu5_7.symm
    have hP : va_P D vwCl [((a 0), .inr (5, [.ref (a 2), .ref (a 4), .ref (a 18), .ref (a 1)])), ((a 18), .inr (4, [.ref (a 19), .ref (a 20), .ref (a 21), .ref (a 22)])), ((a 19), .inl (cI, 6, .inl (g_pt_X4_enter pt fn df wn hm aw (mgN ce hi 6)))), ((a 20), .inl (cI, 6, .inl (g_fn_X4_enter pt fn df wn hm aw (mgN ce hi 6)))), ((a 21), .inl (cI, 6, .inl (g_df_X4_enter pt fn df wn hm aw (mgN ce hi 6)))), ((a 22), .inl (cA, 6, .inr (.inr (.inr (.inr (fun k9 => if k9 < 6 then some (a (23 + k9)) else none)))))), ((a (23 + 0)), .inl (cI, 6, .inl ((g_wn_X4_enter pt fn df wn hm aw (mgN ce hi 6)) 0))), ((a (23 + 1)), .inl (cI, 6, .inl ((g_wn_X4_enter pt fn df wn hm aw (mgN ce hi 6)) 1))), ((a (23 + 2)), .inl (cI, 6, .inl ((g_wn_X4_enter pt fn df wn hm aw (mgN ce hi 6)) 2))), ((a (23 + 3)), .inl (cI, 6, .inl ((g_wn_X4_enter pt fn df wn hm aw (mgN ce hi 6)) 3))), ((a (23 + 4)), .inl (cI, 6, .inl ((g_wn_X4_enter pt fn df wn hm aw (mgN ce hi 6)) 4))), ((a (23 + 5)), .inl (cI, 6, .inl ((g_wn_X4_enter pt fn df wn hm aw (mgN ce hi 6)) 5))), ((a 4), .inr (2, [.int hm, .int aw, .int (-1), .ref (a 5), .ref (a 6), .ref (a 7), .ref (a 8), .ref (a 13)])), ((a 5), .inl (cI, 6, .inl (fillN ce (-2) 6))), ((a 6), .inl (cI, 6, .inl (fillN hi (-1) 6))), ((a 7), .inl (cI, 6, .inl (fillN la (-1) 6))), ((a 8), .inr (3, [.int (nI 0), .ref (a 9), .ref (a 10), .ref (a 11), .ref (a 12)])), ((a 13), .inr (0, [.int (nI 0), .ref (a 14), .ref (a 15), .ref (a 16), .ref (a 17)]))] H := hP
    have hD : va_D A [((a 0), .inr (5, [.ref (a 2), .ref (a 4), .ref (a 18), .ref (a 1)])), ((a 18), .inr (4, [.ref (a 19), .ref (a 20), .ref (a 21), .ref (a 22)])), ((a 19), .inl (cI, 6, .inl (g_pt_X4_enter pt fn df wn hm aw (mgN ce hi 6)))), ((a 20), .inl (cI, 6, .inl (g_fn_X4_enter pt fn df wn hm aw (mgN ce hi 6)))), ((a 21), .inl (cI, 6, .inl (g_df_X4_enter pt fn df wn hm aw (mgN ce hi 6)))), ((a 22), .inl (cA, 6, .inr (.inr (.inr (.inr (fun k9 => if k9 < 6 then some (a (23 + k9)) else none)))))), ((a (23 + 0)), .inl (cI, 6, .inl ((g_wn_X4_enter pt fn df wn hm aw (mgN ce hi 6)) 0))), ((a (23 + 1)), .inl (cI, 6, .inl ((g_wn_X4_enter pt fn df wn hm aw (mgN ce hi 6)) 1))), ((a (23 + 2)), .inl (cI, 6, .inl ((g_wn_X4_enter pt fn df wn hm aw (mgN ce hi 6)) 2))), ((a (23 + 3)), .inl (cI, 6, .inl ((g_wn_X4_enter pt fn df wn hm aw (mgN ce hi 6)) 3))), ((a (23 + 4)), .inl (cI, 6, .inl ((g_wn_X4_enter pt fn df wn hm aw (mgN ce hi 6)) 4))), ((a (23 + 5)), .inl (cI, 6, .inl ((g_wn_X4_enter pt fn df wn hm aw (mgN ce hi 6)) 5))), ((a 4), .inr (2, [.int hm, .int aw, .int (-1), .ref (a 5), .ref (a 6), .ref (a 7), .ref (a 8), .ref (a 13)])), ((a 5), .inl (cI, 6, .inl (fillN ce (-2) 6))), ((a 6), .inl (cI, 6, .inl (fillN hi (-1) 6))), ((a 7), .inl (cI, 6, .inl (fillN la (-1) 6))), ((a 8), .inr (3, [.int (nI 0), .ref (a 9), .ref (a 10), .ref (a 11), .ref (a 12)])), ((a 13), .inr (0, [.int (nI 0), .ref (a 14), .ref (a 15), .ref (a 16), .ref (a 17)]))] := hD
    refine W.widen (k := 1) (n := 6) (Nat.le_refl _) (Nat.le_refl _) ?_
    refine lv_iload_n hx hb dX5_end_41 rfl (lv_at hl 0 rfl) ?_
    have hP9 := hP.sub (ws' := [((a 0), .inr (5, [.ref (a 2), .ref (a 4), .ref (a 18), .ref (a 1)])), ((a 4), .inr (2, [.int hm, .int aw, .int (-1), .ref (a 5), .ref (a 6), .ref (a 7), .ref (a 8), .ref (a 13)])), ((a 5), .inl (cI, 6, .inl (fillN ce (-2) 6))), ((a 6), .inl (cI, 6, .inl (fillN hi (-1) 6))), ((a 7), .inl (cI, 6, .inl (fillN la (-1) 6))), ((a 8), .inr (3, [.int (nI 0), .ref (a 9), .ref (a 10), .ref (a 11), .ref (a 12)])), ((a 13), .inr (0, [.int (nI 0), .ref (a 14), .ref (a 15), .ref (a 16), .ref (a 17)])), ((a 18), .inr (4, [.ref (a 19), .ref (a 20), .ref (a 21), .ref (a 22)])), ((a 19), .inl (cI, 6, .inl (g_pt_X4_enter pt fn df wn hm aw (mgN ce hi 6)))), ((a 20), .inl (cI, 6, .inl (g_fn_X4_enter pt fn df wn hm aw (mgN ce hi 6)))), ((a 21), .inl (cI, 6, .inl (g_df_X4_enter pt fn df wn hm aw (mgN ce hi 6)))), ((a 22), .inl (cA, 6, .inr (.inr (.inr (.inr (fun k9 => if k9 < 6 then some (a (23 + k9)) else none)))))), ((a (23 + 0)), .inl (cI, 6, .inl ((g_wn_X4_enter pt fn df wn hm aw (mgN ce hi 6)) 0))), ((a (23 + 1)), .inl (cI, 6, .inl ((g_wn_X4_enter pt fn df wn hm aw (mgN ce hi 6)) 1))), ((a (23 + 2)), .inl (cI, 6, .inl ((g_wn_X4_enter pt fn df wn hm aw (mgN ce hi 6)) 2))), ((a (23 + 3)), .inl (cI, 6, .inl ((g_wn_X4_enter pt fn df wn hm aw (mgN ce hi 6)) 3))), ((a (23 + 4)), .inl (cI, 6, .inl ((g_wn_X4_enter pt fn df wn hm aw (mgN ce hi 6)) 4))), ((a (23 + 5)), .inl (cI, 6, .inl ((g_wn_X4_enter pt fn df wn hm aw (mgN ce hi 6)) 5)))]) [0, 12, 13, 14, 15, 16, 17, 1, 2, 3, 4, 5, 6, 7, 8, 9, 10, 11] rfl
    have hD9 := hD.sub (ws' := [((a 0), .inr (5, [.ref (a 2), .ref (a 4), .ref (a 18), .ref (a 1)])), ((a 4), .inr (2, [.int hm, .int aw, .int (-1), .ref (a 5), .ref (a 6), .ref (a 7), .ref (a 8), .ref (a 13)])), ((a 5), .inl (cI, 6, .inl (fillN ce (-2) 6))), ((a 6), .inl (cI, 6, .inl (fillN hi (-1) 6))), ((a 7), .inl (cI, 6, .inl (fillN la (-1) 6))), ((a 8), .inr (3, [.int (nI 0), .ref (a 9), .ref (a 10), .ref (a 11), .ref (a 12)])), ((a 13), .inr (0, [.int (nI 0), .ref (a 14), .ref (a 15), .ref (a 16), .ref (a 17)])), ((a 18), .inr (4, [.ref (a 19), .ref (a 20), .ref (a 21), .ref (a 22)])), ((a 19), .inl (cI, 6, .inl (g_pt_X4_enter pt fn df wn hm aw (mgN ce hi 6)))), ((a 20), .inl (cI, 6, .inl (g_fn_X4_enter pt fn df wn hm aw (mgN ce hi 6)))), ((a 21), .inl (cI, 6, .inl (g_df_X4_enter pt fn df wn hm aw (mgN ce hi 6)))), ((a 22), .inl (cA, 6, .inr (.inr (.inr (.inr (fun k9 => if k9 < 6 then some (a (23 + k9)) else none)))))), ((a (23 + 0)), .inl (cI, 6, .inl ((g_wn_X4_enter pt fn df wn hm aw (mgN ce hi 6)) 0))), ((a (23 + 1)), .inl (cI, 6, .inl ((g_wn_X4_enter pt fn df wn hm aw (mgN ce hi 6)) 1))), ((a (23 + 2)), .inl (cI, 6, .inl ((g_wn_X4_enter pt fn df wn hm aw (mgN ce hi 6)) 2))), ((a (23 + 3)), .inl (cI, 6, .inl ((g_wn_X4_enter pt fn df wn hm aw (mgN ce hi 6)) 3))), ((a (23 + 4)), .inl (cI, 6, .inl ((g_wn_X4_enter pt fn df wn hm aw (mgN ce hi 6)) 4))), ((a (23 + 5)), .inl (cI, 6, .inl ((g_wn_X4_enter pt fn df wn hm aw (mgN ce hi 6)) 5)))]) [0, 12, 13, 14, 15, 16, 17, 1, 2, 3, 4, 5, 6, 7, 8, 9, 10, 11] (by decide) rfl
    -- leaf 1
    refine W.widen (k := 1) (n := 6) (Nat.le_of_ble_eq_true rfl) (Nat.le_of_ble_eq_true rfl) ?_
    exact vx_ret (W.iret (v := mgN ce hi 6) hx hb hr (fun t ht hW => ⟨⟨mgN ce hi 6, ((-1), (fillN ce (-2) 6), (fillN hi (-1) 6), (fillN la (-1) 6), 0, 0, (g_pt_X4_enter pt fn df wn hm aw (mgN ce hi 6)), (g_fn_X4_enter pt fn df wn hm aw (mgN ce hi 6)), (g_df_X4_enter pt fn df wn hm aw (mgN ce hi 6)), (g_wn_X4_enter pt fn df wn hm aw (mgN ce hi 6))), rfl, ⟨(by rw [k_X5_end, if_pos hk_1]), rfl, rfl, rfl, rfl, rfl, rfl, rfl, rfl, rfl, rfl, rfl⟩, by rw [ht]; exact hP9, va_K.moved hW.alike hK, hD9⟩, hS.F ht⟩) hS.2.2 dX5_end_42)
