noncomputable def k_L_begins (hm : Int32) (aw : Int32) (tk : Int32) (ce : Nat → Int32) (hi : Nat → Int32) (la : Nat → Int32) (sn : Nat) (kn : Nat) (p1 : Int32) (p2 : Int32) : Int32 := if (k_X5_begin hm aw tk ce hi la sn kn p1 p2) = 0 then 0 else k_X5_begin hm aw tk ce hi la sn kn p1 p2
set_option maxHeartbeats 4000000 in
set_option maxRecDepth 100000 in
theorem c_L_begins (l : Launch) (hlt : l.stackTraces = false) (D : va_G) (cI cZ cJ cA : ClassId) (sx : Nat → Nat) (sz : Nat) (a : Nat → Nat) (hm : Int32) (aw : Int32) (tk : Int32) (ce : Nat → Int32) (hi : Nat → Int32) (la : Nat → Int32) (sn : Nat) (kn : Nat) (p1 : Int32) (p2 : Int32) : vx_Met l yL_begins wsL_begins ({ frames := 8, cells := 3, slots := 18, locals := 132 } : Room) (va_Pc [.ref (a 0), .int p1, .int p2] (pcX (pcW D (tyL cI cZ cJ cA) [((a 0), .inr (5, [.ref (a 2), .ref (a 4), .ref (a 18), .ref (a 1)])), ((a 4), .inr (2, [.int hm, .int aw, .int tk, .ref (a 5), .ref (a 6), .ref (a 7), .ref (a 8), .ref (a 13)])), ((a 5), .inl (cI, 6, .inl ce)), ((a 6), .inl (cI, 6, .inl hi)), ((a 7), .inl (cI, 6, .inl la)), ((a 8), .inr (3, [.int (nI sn), .ref (a 9), .ref (a 10), .ref (a 11), .ref (a 12)])), ((a 13), .inr (0, [.int (nI kn), .ref (a 14), .ref (a 15), .ref (a 16), .ref (a 17)]))] sz) sx (va_A [((a 0), .inr (5, [.ref (a 2), .ref (a 4), .ref (a 18), .ref (a 1)])), ((a 4), .inr (2, [.int hm, .int aw, .int tk, .ref (a 5), .ref (a 6), .ref (a 7), .ref (a 8), .ref (a 13)])), ((a 5), .inl (cI, 6, .inl ce)), ((a 6), .inl (cI, 6, .inl hi)), ((a 7), .inl (cI, 6, .inl la)), ((a 8), .inr (3, [.int (nI sn), .ref (a 9), .ref (a 10), .ref (a 11), .ref (a 12)])), ((a 13), .inr (0, [.int (nI kn), .ref (a 14), .ref (a 15), .ref (a 16), .ref (a 17)]))] sz))) (va_Qi (fun (r : Int32) (u : (Int32) × (Int32) × (Int32) × (Nat → Int32) × (Nat → Int32) × (Nat → Int32) × (Nat) × (Nat)) => (k_L_begins hm aw tk ce hi la sn kn p1 p2) = 0 ∧ r = 0 ∧ u.1 = p1 ∧ u.2.1 = p2 ∧ u.2.2.1 = 0 ∧ u.2.2.2.1 = (fillN ce (-1) 6) ∧ u.2.2.2.2.1 = (fillN hi (-1) 6) ∧ u.2.2.2.2.2.1 = (fillN la (-1) 6) ∧ u.2.2.2.2.2.2.1 = 0 ∧ u.2.2.2.2.2.2.2 = 0) (fun u t => bcW D (tyL cI cZ cJ cA) (va_A [((a 0), .inr (5, [.ref (a 2), .ref (a 4), .ref (a 18), .ref (a 1)])), ((a 4), .inr (2, [.int hm, .int aw, .int tk, .ref (a 5), .ref (a 6), .ref (a 7), .ref (a 8), .ref (a 13)])), ((a 5), .inl (cI, 6, .inl ce)), ((a 6), .inl (cI, 6, .inl hi)), ((a 7), .inl (cI, 6, .inl la)), ((a 8), .inr (3, [.int (nI sn), .ref (a 9), .ref (a 10), .ref (a 11), .ref (a 12)])), ((a 13), .inr (0, [.int (nI kn), .ref (a 14), .ref (a 15), .ref (a 16), .ref (a 17)]))] sz) [((a 0), .inr (5, [.ref (a 2), .ref (a 4), .ref (a 18), .ref (a 1)])), ((a 4), .inr (2, [.int u.1, .int u.2.1, .int u.2.2.1, .ref (a 5), .ref (a 6), .ref (a 7), .ref (a 8), .ref (a 13)])), ((a 5), .inl (cI, 6, .inl u.2.2.2.1)), ((a 6), .inl (cI, 6, .inl u.2.2.2.2.1)), ((a 7), .inl (cI, 6, .inl u.2.2.2.2.2.1)), ((a 8), .inr (3, [.int (nI u.2.2.2.2.2.2.1), .ref (a 9), .ref (a 10), .ref (a 11), .ref (a 12)])), ((a 13), .inr (0, [.int (nI u.2.2.2.2.2.2.2), .ref (a 14), .ref (a 15), .ref (a 16), .ref (a 17)]))] t) (va_A [((a 0), .inr (5, [.ref (a 2), .ref (a 4), .ref (a 18), .ref (a 1)])), ((a 4), .inr (2, [.int hm, .int aw, .int tk, .ref (a 5), .ref (a 6), .ref (a 7), .ref (a 8), .ref (a 13)])), ((a 5), .inl (cI, 6, .inl ce)), ((a 6), .inl (cI, 6, .inl hi)), ((a 7), .inl (cI, 6, .inl la)), ((a 8), .inr (3, [.int (nI sn), .ref (a 9), .ref (a 10), .ref (a 11), .ref (a 12)])), ((a 13), .inr (0, [.int (nI kn), .ref (a 14), .ref (a 15), .ref (a 16), .ref (a 17)]))] sz)) (vx_X (fun _ : Unit => True) (fun E _ _ => thr E (k_L_begins hm aw tk ce hi la sn kn p1 p2)) (fun q : Nat => sz ≤ q)) 3 18 (va_A [((a 0), .inr (5, [.ref (a 2), .ref (a 4), .ref (a 18), .ref (a 1)])), ((a 4), .inr (2, [.int hm, .int aw, .int tk, .ref (a 5), .ref (a 6), .ref (a 7), .ref (a 8), .ref (a 13)])), ((a 5), .inl (cI, 6, .inl ce)), ((a 6), .inl (cI, 6, .inl hi)), ((a 7), .inl (cI, 6, .inl la)), ((a 8), .inr (3, [.int (nI sn), .ref (a 9), .ref (a 10), .ref (a 11), .ref (a 12)])), ((a 13), .inr (0, [.int (nI kn), .ref (a 14), .ref (a 15), .ref (a 16), .ref (a 17)]))] sz) := by
  refine vx_ofW (cc := cL_begins) (maxL := 3) (ret := (some .int)) (by decide) rfl ?_
  intro p e s m args below meth c s₁ B hml hT0 hv
  obtain ⟨rfl, ⟨hsz, hP, hK, hD0⟩, hE⟩ := hv
  have hx := B.exec
  have hb := B.bytes
  have hr := B.returns
  have hts := atoms_spec (ws := wsL_begins) B.pre
  have hown : s.vm.findClass RL = some m.cls := findClass_of_methodNamed B.named
  have hlocks := B.notSynchronized
  subst hsz
  have hD := hD0.self (sz := s.heap.size)
  have hE0 := hE
  have hE := hE.narrow (B := fun q : Nat => s.heap.size ≤ q) (fun q h => Or.inr h)
  generalize hAe : va_A [((a 0), .inr (5, [.ref (a 2), .ref (a 4), .ref (a 18), .ref (a 1)])), ((a 4), .inr (2, [.int hm, .int aw, .int tk, .ref (a 5), .ref (a 6), .ref (a 7), .ref (a 8), .ref (a 13)])), ((a 5), .inl (cI, 6, .inl ce)), ((a 6), .inl (cI, 6, .inl hi)), ((a 7), .inl (cI, 6, .inl la)), ((a 8), .inr (3, [.int (nI sn), .ref (a 9), .ref (a 10), .ref (a 11), .ref (a 12)])), ((a 13), .inr (0, [.int (nI kn), .ref (a 14), .ref (a 15), .ref (a 16), .ref (a 17)]))] s.heap.size = A at hD hE0 ⊢
  have hA : ∀ q : Nat, s.heap.size ≤ q → A q := fun q h => by rw [← hAe]; exact Or.inr h
  have hAR : ∀ q : Nat, s.heap.size ≤ q → (fun q : Nat => s.heap.size ≤ q) q := fun _ h => h
  have hS : va_S (fun q : Nat => s.heap.size ≤ q) s.heap s.heap [] := va_S.rf
  have hP : va_P D vwCl [((a 0), .inr (5, [.ref (a 2), .ref (a 4), .ref (a 18), .ref (a 1)])), ((a 4), .inr (2, [.int hm, .int aw, .int tk, .ref (a 5), .ref (a 6), .ref (a 7), .ref (a 8), .ref (a 13)])), ((a 5), .inl (cI, 6, .inl ce)), ((a 6), .inl (cI, 6, .inl hi)), ((a 7), .inl (cI, 6, .inl la)), ((a 8), .inr (3, [.int (nI sn), .ref (a 9), .ref (a 10), .ref (a 11), .ref (a 12)])), ((a 13), .inr (0, [.int (nI kn), .ref (a 14), .ref (a 15), .ref (a 16), .ref (a 17)]))] s.heap := hP
  have hl := lv_entry ([.ref (a 0), .int p1, .int p2]) (n := 3) (Nat.le_of_ble_eq_true rfl)
  rw [lg_entry_eq]
  generalize (lg_sl ([.ref (a 0), .int p1, .int p2]) ++ List.replicate (3 - (lg_sl ([.ref (a 0), .int p1, .int p2])).length) Slot.unset).toArray = ls at hl ⊢
  have hl : lv_has ls 3 [(0, .ref (a 0)), (1, .int p1), (2, .int p2)] := hl
  refine lv_aload_n hx hb dL_begins_0 rfl (lv_at hl 0 rfl) ?_
  refine lv_iload_n hx hb dL_begins_1 rfl (lv_at hl 1 rfl) ?_
  refine lv_iload_n hx hb dL_begins_2 rfl (lv_at hl 2 rfl) ?_
  have hPc := hP
  have hS0 := hS
  have hS := va_S_mono hS hA
  have hDc := hD.sub (ws' := [((a 0), .inr (5, [.ref (a 2), .ref (a 4), .ref (a 18), .ref (a 1)])), ((a 4), .inr (2, [.int hm, .int aw, .int tk, .ref (a 5), .ref (a 6), .ref (a 7), .ref (a 8), .ref (a 13)])), ((a 5), .inl (cI, 6, .inl ce)), ((a 6), .inl (cI, 6, .inl hi)), ((a 7), .inl (cI, 6, .inl la)), ((a 8), .inr (3, [.int (nI sn), .ref (a 9), .ref (a 10), .ref (a 11), .ref (a 12)])), ((a 13), .inr (0, [.int (nI kn), .ref (a 14), .ref (a 15), .ref (a 16), .ref (a 17)]))]) [0, 1, 2, 3, 4, 5, 6] (by decide) rfl
  have hFc := va_free (wc := [((a 0), .inr (5, [.ref (a 2), .ref (a 4), .ref (a 18), .ref (a 1)])), ((a 4), .inr (2, [.int hm, .int aw, .int tk, .ref (a 5), .ref (a 6), .ref (a 7), .ref (a 8), .ref (a 13)])), ((a 5), .inl (cI, 6, .inl ce)), ((a 6), .inl (cI, 6, .inl hi)), ((a 7), .inl (cI, 6, .inl la)), ((a 8), .inr (3, [.int (nI sn), .ref (a 9), .ref (a 10), .ref (a 11), .ref (a 12)])), ((a 13), .inr (0, [.int (nI kn), .ref (a 14), .ref (a 15), .ref (a 16), .ref (a 17)]))]) hD hS hA [0, 1, 2, 3, 4, 5, 6] rfl
  refine vx_callv (vx_runV (As := [.int p1, .int p2]) (rest := []) ⟨hx, hb, hml, hown, hts⟩ (c_X5_begin l hlt D cI cZ cJ cA sx s.heap.size a hm aw tk ce hi la sn kn p1 p2) (cwV 2 hts gL_begins_X5_begin rfl rfl rfl (by decide +kernel) ⟨Nat.le_of_ble_eq_true rfl, Nat.le_of_ble_eq_true rfl⟩) ⟨pcXW_bl, va_recv hK hPc (ci := 5) (q0 := 0) rfl rfl, fun U hU hW => ⟨rfl, ⟨by rw [hU], by rw [hU]; exact hPc, va_K.moved hW.alike hK, hDc.weaken (fun _ _ _ _ => trivial)⟩, hE0.call hS hFc hU hW⟩⟩ rfl rfl hl.1 rfl (lv_room (Nat.le_of_ble_eq_true rfl)) dL_begins_3 ⟨Nat.le_of_ble_eq_true rfl, Nat.le_of_ble_eq_true rfl⟩) hS (fun q _ h => hFc q h) hFc (fun _ h1 h2 => absurd h1 (Nat.not_lt.mpr h2)) (fun E cel q9 u t H locs ht hvm hpx hb1 hz1 hk1 hS hce hcv hcl => ?_) (fun u t H locs ht hvm hw hB hz1 hk1 hS => ?_)
  · have c_2 : ¬ (k_X5_begin hm aw tk ce hi la sn kn p1 p2) = 0 := thr_ne hb1
    refine vx_widen (k := 3) (n := 18) (Nat.le_of_ble_eq_true rfl) (Nat.le_of_ble_eq_true rfl) ?_
    refine vx_out (fun x h => absurd h (hT0 x)) hlocks hce hcv hcl (fun t1 ht1 _ => ⟨(), trivial, thr_eq (by rw [k_L_begins, if_neg c_2]) hb1, va_F_of hS0 (by rw [ht1]; exact hz1) (fun q h => by rw [ht1]; exact hk1 q h (Nat.not_le.mpr h))⟩) (fun z hz => hS.2.2 z hz) (Nat.le_refl _) (Nat.le_refl _)
  · try dsimp only at hw
    obtain ⟨u0_1, u1_1, u2_1, u3_1, u4_1, u5_1, u6_1, u7_1⟩ := u
    try dsimp only at hw
    obtain ⟨hk_1, hu0_1, hu1_1, hu2_1, hu3_1, hu4_1, hu5_1, hu6_1, hu7_1⟩ := hw
    obtain ⟨hP1, hK1, hD1⟩ := hB
    rw [ht] at hP1
    obtain ⟨hP, hD⟩ := va_join (wr := []) (w1 := [((a 0), .inr (5, [.ref (a 2), .ref (a 4), .ref (a 18), .ref (a 1)])), ((a 4), .inr (2, [.int u0_1, .int u1_1, .int u2_1, .ref (a 5), .ref (a 6), .ref (a 7), .ref (a 8), .ref (a 13)])), ((a 5), .inl (cI, 6, .inl u3_1)), ((a 6), .inl (cI, 6, .inl u4_1)), ((a 7), .inl (cI, 6, .inl u5_1)), ((a 8), .inr (3, [.int (nI u6_1), .ref (a 9), .ref (a 10), .ref (a 11), .ref (a 12)])), ((a 13), .inr (0, [.int (nI u7_1), .ref (a 14), .ref (a 15), .ref (a 16), .ref (a 17)]))]) hP hD [0, 1, 2, 3, 4, 5, 6] [] rfl rfl (by decide) (by decide) hk1 hFc hP1 hD1
    obtain rfl := hu0_1.symm
    obtain rfl := hu1_1.symm
    obtain rfl := hu2_1.symm
    obtain rfl := hu3_1.symm
    obtain rfl := hu4_1.symm
    obtain rfl := hu5_1.symm
    obtain rfl := hu6_1.symm
    obtain rfl := hu7_1.symm
    have hP : va_P D vwCl [((a 0), .inr (5, [.ref (a 2), .ref (a 4), .ref (a 18), .ref (a 1)])), ((a 4), .inr (2, [.int p1, .int p2, .int 0, .ref (a 5), .ref (a 6), .ref (a 7), .ref (a 8), .ref (a 13)])), ((a 5), .inl (cI, 6, .inl (fillN ce (-1) 6))), ((a 6), .inl (cI, 6, .inl (fillN hi (-1) 6))), ((a 7), .inl (cI, 6, .inl (fillN la (-1) 6))), ((a 8), .inr (3, [.int (nI 0), .ref (a 9), .ref (a 10), .ref (a 11), .ref (a 12)])), ((a 13), .inr (0, [.int (nI 0), .ref (a 14), .ref (a 15), .ref (a 16), .ref (a 17)]))] H := hP
    have hD : va_D A [((a 0), .inr (5, [.ref (a 2), .ref (a 4), .ref (a 18), .ref (a 1)])), ((a 4), .inr (2, [.int p1, .int p2, .int 0, .ref (a 5), .ref (a 6), .ref (a 7), .ref (a 8), .ref (a 13)])), ((a 5), .inl (cI, 6, .inl (fillN ce (-1) 6))), ((a 6), .inl (cI, 6, .inl (fillN hi (-1) 6))), ((a 7), .inl (cI, 6, .inl (fillN la (-1) 6))), ((a 8), .inr (3, [.int (nI 0), .ref (a 9), .ref (a 10), .ref (a 11), .ref (a 12)])), ((a 13), .inr (0, [.int (nI 0), .ref (a 14), .ref (a 15), .ref (a 16), .ref (a 17)]))] := hD
    refine W.widen (k := 3) (n := 18) (Nat.le_refl _) (Nat.le_refl _) ?_
    refine lv_iconst (v := 0) hx hb dL_begins_6 (by decide) ?_
    have hP9 := hP.sub (ws' := [((a 0), .inr (5, [.ref (a 2), .ref (a 4), .ref (a 18), .ref (a 1)])), ((a 4), .inr (2, [.int p1, .int p2, .int 0, .ref (a 5), .ref (a 6), .ref (a 7), .ref (a 8), .ref (a 13)])), ((a 5), .inl (cI, 6, .inl (fillN ce (-1) 6))), ((a 6), .inl (cI, 6, .inl (fillN hi (-1) 6))), ((a 7), .inl (cI, 6, .inl (fillN la (-1) 6))), ((a 8), .inr (3, [.int (nI 0), .ref (a 9), .ref (a 10), .ref (a 11), .ref (a 12)])), ((a 13), .inr (0, [.int (nI 0), .ref (a 14), .ref (a 15), .ref (a 16), .ref (a 17)]))]) [0, 1, 2, 3, 4, 5, 6] rfl
    have hD9 := hD.sub (ws' := [((a 0), .inr (5, [.ref (a 2), .ref (a 4), .ref (a 18), .ref (a 1)])), ((a 4), .inr (2, [.int p1, .int p2, .int 0, .ref (a 5), .ref (a 6), .ref (a 7), .ref (a 8), .ref (a 13)])), ((a 5), .inl (cI, 6, .inl (fillN ce (-1) 6))), ((a 6), .inl (cI, 6, .inl (fillN hi (-1) 6))), ((a 7), .inl (cI, 6, .inl (fillN la (-1) 6))), ((a 8), .inr (3, [.int (nI 0), .ref (a 9), .ref (a 10), .ref (a 11), .ref (a 12)])), ((a 13), .inr (0, [.int (nI 0), .ref (a 14), .ref (a 15), .ref (a 16), .ref (a 17)]))]) [0, 1, 2, 3, 4, 5, 6] (by decide) rfl
    -- leaf 1
    refine W.widen (k := 3) (n := 18) (Nat.le_of_ble_eq_true rfl) (Nat.le_of_ble_eq_true rfl) ?_
    exact vx_ret (W.iret (v := 0) hx hb hr (fun t ht hW => ⟨⟨0, (p1, p2, 0, (fillN ce (-1) 6), (fillN hi (-1) 6), (fillN la (-1) 6), 0, 0), rfl, ⟨(by rw [k_L_begins, if_pos hk_1]), rfl, rfl, rfl, rfl, rfl, rfl, rfl, rfl, rfl⟩, by rw [ht]; exact hP9, va_K.moved hW.alike hK, hD9⟩, hS.F ht⟩) hS.2.2 dL_begins_7)
theorem kk_X5_begin {hm : Int32} {aw : Int32} {tk : Int32} {ce : Nat → Int32} {hi : Nat → Int32} {la : Nat → Int32} {sn : Nat} {kn : Nat} {p1 : Int32} {p2 : Int32} : kC (k_X5_begin hm aw tk ce hi la sn kn p1 p2) := by
  unfold k_X5_begin
  (repeat' split) <;> first | exact Or.inl rfl | exact Or.inr (Or.inl rfl) | exact Or.inr (Or.inr (Or.inl rfl)) | exact Or.inr (Or.inr (Or.inr rfl)) | exact (ka_cell _).c | exact (ka_team _).c | exact (ka_player _).c | exact (ka_referee _).c | exact (kr_round _ _ _).c
theorem kk_X5_toggleBunker {bk : Nat → Int32} {hm : Int32} {aw : Int32} {tk : Int32} {p1 : Int32} : kC (k_X5_toggleBunker bk hm aw tk p1) := by
  unfold k_X5_toggleBunker
  (repeat' split) <;> first | exact Or.inl rfl | exact Or.inr (Or.inl rfl) | exact Or.inr (Or.inr (Or.inl rfl)) | exact Or.inr (Or.inr (Or.inr rfl)) | exact (ka_cell _).c | exact (ka_team _).c | exact (ka_player _).c | exact (ka_referee _).c | exact (kr_round _ _ _).c
theorem kk_X5_setReferee {rf : Nat → Int32} {p1 : Int32} {p2 : Int32} : kC (k_X5_setReferee rf p1 p2) := by
  unfold k_X5_setReferee
  (repeat' split) <;> first | exact Or.inl rfl | exact Or.inr (Or.inl rfl) | exact Or.inr (Or.inr (Or.inl rfl)) | exact Or.inr (Or.inr (Or.inr rfl)) | exact (ka_cell _).c | exact (ka_team _).c | exact (ka_player _).c | exact (ka_referee _).c | exact (kr_round _ _ _).c
theorem kk_L_begins {hm : Int32} {aw : Int32} {tk : Int32} {ce : Nat → Int32} {hi : Nat → Int32} {la : Nat → Int32} {sn : Nat} {kn : Nat} {p1 : Int32} {p2 : Int32} : kC (k_L_begins hm aw tk ce hi la sn kn p1 p2) := by
  unfold k_L_begins
  (repeat' split) <;> first | exact Or.inl rfl | exact Or.inr (Or.inl rfl) | exact Or.inr (Or.inr (Or.inl rfl)) | exact Or.inr (Or.inr (Or.inr rfl)) | exact (ka_cell _).c | exact (ka_team _).c | exact (ka_player _).c | exact (ka_referee _).c | exact (kr_round _ _ _).c | exact kk_X5_begin
theorem kk_X5_move {bk : Nat → Int32} {hm : Int32} {aw : Int32} {tk : Int32} {ce : Nat → Int32} {p1 : Int32} {p2 : Int32} : kC (k_X5_move bk hm aw tk ce p1 p2) := by
  unfold k_X5_move
  (repeat' split) <;> first | exact Or.inl rfl | exact Or.inr (Or.inl rfl) | exact Or.inr (Or.inr (Or.inl rfl)) | exact Or.inr (Or.inr (Or.inr rfl)) | exact (ka_cell _).c | exact (ka_team _).c | exact (ka_player _).c | exact (ka_referee _).c | exact (kr_round _ _ _).c
theorem kk_X5_shoot {hm : Int32} {aw : Int32} {tk : Int32} {ce : Nat → Int32} {la : Nat → Int32} {sn : Nat} {sa : Nat → Int32} {sb : Nat → Int32} {sc : Nat → Int32} {sd : Nat → Int32} {p1 : Int32} {p2 : Int32} : kC (k_X5_shoot hm aw tk ce la sn sa sb sc sd p1 p2) := by
  unfold k_X5_shoot
  (repeat' split) <;> first | exact Or.inl rfl | exact Or.inr (Or.inl rfl) | exact Or.inr (Or.inr (Or.inl rfl)) | exact Or.inr (Or.inr (Or.inr rfl)) | exact (ka_cell _).c | exact (ka_team _).c | exact (ka_player _).c | exact (ka_referee _).c | exact (kr_round _ _ _).c
theorem kk_X5_pass {bk : Nat → Int32} {hm : Int32} {aw : Int32} {tk : Int32} {ce : Nat → Int32} {hi : Nat → Int32} {sn : Nat} {sa : Nat → Int32} {sb : Nat → Int32} {sc : Nat → Int32} {sd : Nat → Int32} {p1 : Int32} : kC (k_X5_pass bk hm aw tk ce hi sn sa sb sc sd p1) := by
  unfold k_X5_pass
  (repeat' split) <;> first | exact Or.inl rfl | exact Or.inr (Or.inl rfl) | exact Or.inr (Or.inr (Or.inl rfl)) | exact Or.inr (Or.inr (Or.inr rfl)) | exact (ka_cell _).c | exact (ka_team _).c | exact (ka_player _).c | exact (ka_referee _).c | exact (kr_round _ _ _).c
theorem kk_X5_call {rf : Nat → Int32} {bk : Nat → Int32} {hm : Int32} {aw : Int32} {tk : Int32} {ce : Nat → Int32} {kn : Nat} {ka : Nat → Int32} {kb : Nat → Int32} {kc : Nat → Int32} {kd : Nat → Int32} {p1 : Int32} {p2 : Int32} : kC (k_X5_call rf bk hm aw tk ce kn ka kb kc kd p1 p2) := by
  unfold k_X5_call
  (repeat' split) <;> first | exact Or.inl rfl | exact Or.inr (Or.inl rfl) | exact Or.inr (Or.inr (Or.inl rfl)) | exact Or.inr (Or.inr (Or.inr rfl)) | exact (ka_cell _).c | exact (ka_team _).c | exact (ka_player _).c | exact (ka_referee _).c | exact (kr_round _ _ _).c
theorem kk_X5_dispute {hm : Int32} {aw : Int32} {tk : Int32} {ce : Nat → Int32} {hi : Nat → Int32} {kn : Nat} {ka : Nat → Int32} {kb : Nat → Int32} {kc : Nat → Int32} {kd : Nat → Int32} {fn : Nat → Int32} {p1 : Int32} : kC (k_X5_dispute hm aw tk ce hi kn ka kb kc kd fn p1) := by
  unfold k_X5_dispute
  (repeat' split) <;> first | exact Or.inl rfl | exact Or.inr (Or.inl rfl) | exact Or.inr (Or.inr (Or.inl rfl)) | exact Or.inr (Or.inr (Or.inr rfl)) | exact (ka_cell _).c | exact (ka_team _).c | exact (ka_player _).c | exact (ka_referee _).c | exact (kr_round _ _ _).c
theorem kk_X5_end {hm : Int32} {aw : Int32} {tk : Int32} {ce : Nat → Int32} {hi : Nat → Int32} {la : Nat → Int32} {sn : Nat} {kn : Nat} {pt : Nat → Int32} {fn : Nat → Int32} {df : Nat → Int32} {wn : Nat → Nat → Int32} : kC (k_X5_end hm aw tk ce hi la sn kn pt fn df wn) := by
  unfold k_X5_end
  (repeat' split) <;> first | exact Or.inl rfl | exact Or.inr (Or.inl rfl) | exact Or.inr (Or.inr (Or.inl rfl)) | exact Or.inr (Or.inr (Or.inr rfl)) | exact (ka_cell _).c | exact (ka_team _).c | exact (ka_player _).c | exact (ka_referee _).c | exact (kr_round _ _ _).c
