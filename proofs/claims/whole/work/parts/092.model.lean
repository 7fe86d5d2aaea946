theorem isIn_50 {p : Int32} (h : ¬ f_X6_isIn p 1 50 = 0) : ∃ N : Nat, N ≤ 50 ∧ p = nI N := by
  unfold f_X6_isIn at h
  split at h
  · exact absurd rfl h
  · split at h
    · exact absurd rfl h
    · rename_i h1 h2
      have h0 : ¬ p < 0 := fun q => h1 (Int32.lt_trans q (by decide))
      obtain ⟨j, hj, rfl⟩ := nI_of h0
      exact ⟨j, bd_le (N := 50) (by decide) hj h2, rfl⟩
/-- model: behind n shots of the tick tk: how many hits more, the hits -/
noncomputable def pmS (bk : Nat → Int32) (tk : Int32) (ce : Nat → Int32) (c0 : Int32) (hi : Nat → Int32) (sn : Nat) (sa sb sc sd : Nat → Int32) : Nat → Int32 × (Nat → Int32)
  | 0 => (c0, hi)
  | n + 1 => if sd n = tk then (if sOn ce (sc n) 6 = (-1) then pmS bk tk ce c0 hi sn sa sb sc sd n else if sOn ce (sc n) 6 = sa n then pmS bk tk ce c0 hi sn sa sb sc sd n else if seeN bk (sb n) (sc n) 144 = 0 then pmS bk tk ce c0 hi sn sa sb sc sd n else ((pmS bk tk ce c0 hi sn sa sb sc sd n).1 + 1, upd (pmS bk tk ce c0 hi sn sa sb sc sd n).2 (sOn ce (sc n) 6).toNatClampNeg (if (pmS bk tk ce c0 hi sn sa sb sc sd n).2 (sOn ce (sc n) 6).toNatClampNeg = (-1) then tk else (pmS bk tk ce c0 hi sn sa sb sc sd n).2 (sOn ce (sc n) 6).toNatClampNeg))) else pmS bk tk ce c0 hi sn sa sb sc sd n
termination_by n => n
/-- model: behind n ticks -/
noncomputable def pmN (bk : Nat → Int32) (tk : Int32) (ce hi : Nat → Int32) (sn : Nat) (sa sb sc sd : Nat → Int32) : Nat → Int32 × Int32 × (Nat → Int32)
  | 0 => (0, tk, hi)
  | n + 1 => ((pmS bk ((pmN bk tk ce hi sn sa sb sc sd n).2.1 + 1) ce (pmN bk tk ce hi sn sa sb sc sd n).1 (pmN bk tk ce hi sn sa sb sc sd n).2.2 sn sa sb sc sd sn).1, (pmN bk tk ce hi sn sa sb sc sd n).2.1 + 1, (pmS bk ((pmN bk tk ce hi sn sa sb sc sd n).2.1 + 1) ce (pmN bk tk ce hi sn sa sb sc sd n).1 (pmN bk tk ce hi sn sa sb sc sd n).2.2 sn sa sb sc sd sn).2)
termination_by n => n
noncomputable def f_X6_pass (bk : Nat → Int32) (on : Int32) (hm : Int32) (aw : Int32) (tk : Int32) (ce : Nat → Int32) (hi : Nat → Int32) (sn : Nat) (sa : Nat → Int32) (sb : Nat → Int32) (sc : Nat → Int32) (sd : Nat → Int32) (kn : Nat) (th : Int32) (p1 : Int32) : Int32 := if (f_X6_isIn p1 1 50) = 0 then 0 else (if on = 0 then 0 else ((pmN bk tk ce hi sn sa sb sc sd p1.toNatClampNeg).1))
noncomputable def g_tk_X6_pass (bk : Nat → Int32) (on : Int32) (hm : Int32) (aw : Int32) (tk : Int32) (ce : Nat → Int32) (hi : Nat → Int32) (sn : Nat) (sa : Nat → Int32) (sb : Nat → Int32) (sc : Nat → Int32) (sd : Nat → Int32) (kn : Nat) (th : Int32) (p1 : Int32) : Int32 := if (f_X6_isIn p1 1 50) = 0 then tk else (if on = 0 then tk else ((pmN bk tk ce hi sn sa sb sc sd p1.toNatClampNeg).2.1))
noncomputable def g_hi_X6_pass (bk : Nat → Int32) (on : Int32) (hm : Int32) (aw : Int32) (tk : Int32) (ce : Nat → Int32) (hi : Nat → Int32) (sn : Nat) (sa : Nat → Int32) (sb : Nat → Int32) (sc : Nat → Int32) (sd : Nat → Int32) (kn : Nat) (th : Int32) (p1 : Int32) : Nat → Int32 := if (f_X6_isIn p1 1 50) = 0 then hi else (if on = 0 then hi else ((pmN bk tk ce hi sn sa sb sc sd p1.toNatClampNeg).2.2))
noncomputable def g_th_X6_pass (bk : Nat → Int32) (on : Int32) (hm : Int32) (aw : Int32) (tk : Int32) (ce : Nat → Int32) (hi : Nat → Int32) (sn : Nat) (sa : Nat → Int32) (sb : Nat → Int32) (sc : Nat → Int32) (sd : Nat → Int32) (kn : Nat) (th : Int32) (p1 : Int32) : Int32 := if (f_X6_isIn p1 1 50) = 0 then 1 else (if on = 0 then 2 else 0)
set_option maxHeartbeats 4000000 in
set_option maxRecDepth 100000 in
theorem c_X6_pass (l : Launch) (D : va_G) (cI cZ cJ cA : ClassId) (sz : Nat) (q : Nat → Nat) (bk : Nat → Int32) (on : Int32) (hm : Int32) (aw : Int32) (tk : Int32) (ce : Nat → Int32) (hi : Nat → Int32) (sn : Nat) (sa : Nat → Int32) (sb : Nat → Int32) (sc : Nat → Int32) (sd : Nat → Int32) (kn : Nat) (th : Int32) (p1 : Int32) (hsn : sn ≤ 100) : Met l yX6_pass wsX6_pass ({ frames := 4, cells := 0, slots := 0, locals := 94 } : Room) (va_Pc [.ref (q 0), .int p1] (pcW D (tyL cI cZ cJ cA) [((q 0), .inr (6, [.ref (q 1), .ref (q 2), .int on, .int hm, .int aw, .int tk, .ref (q 3), .ref (q 4), .ref (q 5), .int (nI sn), .ref (q 6), .ref (q 7), .ref (q 8), .ref (q 9), .int (nI kn), .ref (q 10), .ref (q 11), .ref (q 12), .ref (q 13), .ref (q 14), .ref (q 15), .ref (q 16), .ref (q 17), .int th])), ((q 3), .inl (cI, 6, .inl ce)), ((q 4), .inl (cI, 6, .inl hi)), ((q 6), .inl (cI, 100, .inl sa)), ((q 7), .inl (cI, 100, .inl sb)), ((q 8), .inl (cI, 100, .inl sc)), ((q 9), .inl (cI, 100, .inl sd)), ((q 1), .inl (cZ, 144, .inl bk))] sz)) (va_Qi (fun (r : Int32) (u : (Int32) × (Nat → Int32) × (Int32)) => r = f_X6_pass bk on hm aw tk ce hi sn sa sb sc sd kn th p1 ∧ u.1 = g_tk_X6_pass bk on hm aw tk ce hi sn sa sb sc sd kn th p1 ∧ u.2.1 = g_hi_X6_pass bk on hm aw tk ce hi sn sa sb sc sd kn th p1 ∧ u.2.2 = g_th_X6_pass bk on hm aw tk ce hi sn sa sb sc sd kn th p1) (fun u t => bcW D (tyL cI cZ cJ cA) (va_A [((q 0), .inr (6, [.ref (q 1), .ref (q 2), .int on, .int hm, .int aw, .int tk, .ref (q 3), .ref (q 4), .ref (q 5), .int (nI sn), .ref (q 6), .ref (q 7), .ref (q 8), .ref (q 9), .int (nI kn), .ref (q 10), .ref (q 11), .ref (q 12), .ref (q 13), .ref (q 14), .ref (q 15), .ref (q 16), .ref (q 17), .int th])), ((q 3), .inl (cI, 6, .inl ce)), ((q 4), .inl (cI, 6, .inl hi)), ((q 6), .inl (cI, 100, .inl sa)), ((q 7), .inl (cI, 100, .inl sb)), ((q 8), .inl (cI, 100, .inl sc)), ((q 9), .inl (cI, 100, .inl sd)), ((q 1), .inl (cZ, 144, .inl bk))] sz) [((q 0), .inr (6, [.ref (q 1), .ref (q 2), .int on, .int hm, .int aw, .int u.1, .ref (q 3), .ref (q 4), .ref (q 5), .int (nI sn), .ref (q 6), .ref (q 7), .ref (q 8), .ref (q 9), .int (nI kn), .ref (q 10), .ref (q 11), .ref (q 12), .ref (q 13), .ref (q 14), .ref (q 15), .ref (q 16), .ref (q 17), .int u.2.2])), ((q 3), .inl (cI, 6, .inl ce)), ((q 4), .inl (cI, 6, .inl u.2.1)), ((q 6), .inl (cI, 100, .inl sa)), ((q 7), .inl (cI, 100, .inl sb)), ((q 8), .inl (cI, 100, .inl sc)), ((q 9), .inl (cI, 100, .inl sd)), ((q 1), .inl (cZ, 144, .inl bk))] t) (va_A [((q 0), .inr (6, [.ref (q 1), .ref (q 2), .int on, .int hm, .int aw, .int tk, .ref (q 3), .ref (q 4), .ref (q 5), .int (nI sn), .ref (q 6), .ref (q 7), .ref (q 8), .ref (q 9), .int (nI kn), .ref (q 10), .ref (q 11), .ref (q 12), .ref (q 13), .ref (q 14), .ref (q 15), .ref (q 16), .ref (q 17), .int th])), ((q 3), .inl (cI, 6, .inl ce)), ((q 4), .inl (cI, 6, .inl hi)), ((q 6), .inl (cI, 100, .inl sa)), ((q 7), .inl (cI, 100, .inl sb)), ((q 8), .inl (cI, 100, .inl sc)), ((q 9), .inl (cI, 100, .inl sd)), ((q 1), .inl (cZ, 144, .inl bk))] sz)) 0 0 (va_A [((q 0), .inr (6, [.ref (q 1), .ref (q 2), .int on, .int hm, .int aw, .int tk, .ref (q 3), .ref (q 4), .ref (q 5), .int (nI sn), .ref (q 6), .ref (q 7), .ref (q 8), .ref (q 9), .int (nI kn), .ref (q 10), .ref (q 11), .ref (q 12), .ref (q 13), .ref (q 14), .ref (q 15), .ref (q 16), .ref (q 17), .int th])), ((q 3), .inl (cI, 6, .inl ce)), ((q 4), .inl (cI, 6, .inl hi)), ((q 6), .inl (cI, 100, .inl sa)), ((q 7), .inl (cI, 100, .inl sb)), ((q 8), .inl (cI, 100, .inl sc)), ((q 9), .inl (cI, 100, .inl sd)), ((q 1), .inl (cZ, 144, .inl bk))] sz) := by
  refine Met.ofW (cc := cX6_pass) (maxL := 6) (ret := (some .int)) (by decide) rfl ?_
  intro p e s m args below meth c s₁ B hml hv
  obtain ⟨rfl, hsz, hP, hK, hD0⟩ := hv
  have hx := B.exec
  have hb := B.bytes
  have hr := B.returns
  have hts := atoms_spec (ws := wsX6_pass) B.pre
  have hown : s.vm.findClass RX6 = some m.cls := findClass_of_methodNamed B.named
  have hlocks := B.notSynchronized
  subst hsz
  have hD := hD0.self (sz := s.heap.size)
  generalize hAe : va_A [((q 0), .inr (6, [.ref (q 1), .ref (q 2), .int on, .int hm, .int aw, .int tk, .ref (q 3), .ref (q 4), .ref (q 5), .int (nI sn), .ref (q 6), .ref (q 7), .ref (q 8), .ref (q 9), .int (nI kn), .ref (q 10), .ref (q 11), .ref (q 12), .ref (q 13), .ref (q 14), .ref (q 15), .ref (q 16), .ref (q 17), .int th])), ((q 3), .inl (cI, 6, .inl ce)), ((q 4), .inl (cI, 6, .inl hi)), ((q 6), .inl (cI, 100, .inl sa)), ((q 7), .inl (cI, 100, .inl sb)), ((q 8), .inl (cI, 100, .inl sc)), ((q 9), .inl (cI, 100, .inl sd)), ((q 1), .inl (cZ, 144, .inl bk))] s.heap.size = A at hD ⊢
  have hA : ∀ q : Nat, s.heap.size ≤ q → A q := fun q h => by rw [← hAe]; exact Or.inr h
  have hAR : ∀ q : Nat, s.heap.size ≤ q → (fun q : Nat => s.heap.size ≤ q) q := fun _ h => h
  have hS : va_S A s.heap s.heap [] := va_S.rf
  have hP : va_P D vwCl [((q 0), .inr (6, [.ref (q 1), .ref (q 2), .int on, .int hm, .int aw, .int tk, .ref (q 3), .ref (q 4), .ref (q 5), .int (nI sn), .ref (q 6), .ref (q 7), .ref (q 8), .ref (q 9), .int (nI kn), .ref (q 10), .ref (q 11), .ref (q 12), .ref (q 13), .ref (q 14), .ref (q 15), .ref (q 16), .ref (q 17), .int th])), ((q 3), .inl (cI, 6, .inl ce)), ((q 4), .inl (cI, 6, .inl hi)), ((q 6), .inl (cI, 100, .inl sa)), ((q 7), .inl (cI, 100, .inl sb)), ((q 8), .inl (cI, 100, .inl sc)), ((q 9), .inl (cI, 100, .inl sd)), ((q 1), .inl (cZ, 144, .inl bk))] s.heap := hP
  have hl := lv_entry ([.ref (q 0), .int p1]) (n := 6) (Nat.le_of_ble_eq_true rfl)
  rw [lg_entry_eq]
  generalize (lg_sl ([.ref (q 0), .int p1]) ++ List.replicate (6 - (lg_sl ([.ref (q 0), .int p1])).length) Slot.unset).toArray = ls at hl ⊢
  have hl : lv_has ls 6 [(0, .ref (q 0)), (1, .int p1)] := hl
  have hf_84 := hts (.fieldLink RX6 84 "PaintballAtlasModel" "isOn" "Z") (by decide +kernel)
  have hi_X6 : ∀ w ∈ wsX60, w ∈ wsX6_pass := by decide +kernel
  have hf_107 := hts (.fieldLink RX6 107 "PaintballAtlasModel" "tick" "I") (by decide +kernel)
  have hf_110 := hts (.fieldLink RX6 110 "PaintballAtlasModel" "shots" "I") (by decide +kernel)
  have hf_35 := hts (.fieldLink RX6 35 "PaintballAtlasModel" "comes" "[I") (by decide +kernel)
  have hf_32 := hts (.fieldLink RX6 32 "PaintballAtlasModel" "aim" "[I") (by decide +kernel)
  have hf_26 := hts (.fieldLink RX6 26 "PaintballAtlasModel" "shooter" "[I") (by decide +kernel)
  have hf_29 := hts (.fieldLink RX6 29 "PaintballAtlasModel" "from" "[I") (by decide +kernel)
  have hf_20 := hts (.fieldLink RX6 20 "PaintballAtlasModel" "hit" "[I") (by decide +kernel)
  refine lv_aload_n hx hb dX6_pass_0 rfl (lv_at hl 0 rfl) ?_
  refine lv_iload_n hx hb dX6_pass_1 rfl (lv_at hl 1 rfl) ?_
  refine lv_iconst (v := 1) hx hb dX6_pass_2 (by decide) ?_
  refine lv_bipush (v := 50) hx hb dX6_pass_3 (by decide) ?_
  have hPc := hP.sub (ws' := []) [] rfl
  refine va_calli (va_runS (As := [.int p1, .int 1, .int 50]) (rest := [.ref (q 0)]) ⟨hx, hb, hml, hown, hts⟩ (c_X6_isIn l D cI cZ cJ cA s.heap.size p1 1 50) (va_cwS 3 hts gX6_pass_X6_isIn rfl rfl rfl (by decide +kernel) ⟨Nat.le_of_ble_eq_true rfl, Nat.le_of_ble_eq_true rfl⟩) ⟨pcR_bl, fun U hU hW => ⟨rfl, by rw [hU], by rw [hU]; exact hPc, va_K.moved hW.alike hK⟩⟩ rfl rfl hl.1 rfl (lv_room (Nat.le_of_ble_eq_true rfl)) dX6_pass_5 ⟨Nat.le_of_ble_eq_true rfl, Nat.le_of_ble_eq_true rfl⟩) hS (fun _ h1 h2 => absurd h1 (Nat.not_lt.mpr h2)) (rd_free hS hA) (fun r_1 u t H locs ht hvm hw hB hz1 hk1 hS => ?_)
  try dsimp only at hw
  have hr_1 := hw
  have hP := rd_P hP hk1
  obtain rfl := hr_1.symm
  refine W.widen (k := 0) (n := 0) (Nat.le_refl _) (Nat.le_refl _) ?_
  refine lv_if_ne (tgt := 15) hx hb dX6_pass_8 (by decide) (fun c_2 => ?_) (fun c_2 => ?_)
  · refine lv_aload_n hx hb dX6_pass_15 rfl (lv_at hl 0 rfl) ?_
    refine va_get (D := D) (ci := 6) (v := .int on) (C := RX6) (T := TX6) (N := 24) hx hb hts hi_X6 hown hK hP 0 rfl rfl 2 (by decide) hf_84 (fun _ h9 => h9) rfl dX6_pass_16 ?_
    refine lv_if_eq (tgt := 26) hx hb dX6_pass_19 (by decide) (fun c_3 => ?_) (fun c_3 => ?_)
    · refine lv_iconst (v := 2) hx hb dX6_pass_26 (by decide) ?_
      have hPc := hP.sub (ws' := [((q 0), .inr (6, [.ref (q 1), .ref (q 2), .int on, .int hm, .int aw, .int tk, .ref (q 3), .ref (q 4), .ref (q 5), .int (nI sn), .ref (q 6), .ref (q 7), .ref (q 8), .ref (q 9), .int (nI kn), .ref (q 10), .ref (q 11), .ref (q 12), .ref (q 13), .ref (q 14), .ref (q 15), .ref (q 16), .ref (q 17), .int th]))]) [0] rfl
      have hDc := hD.sub (ws' := [((q 0), .inr (6, [.ref (q 1), .ref (q 2), .int on, .int hm, .int aw, .int tk, .ref (q 3), .ref (q 4), .ref (q 5), .int (nI sn), .ref (q 6), .ref (q 7), .ref (q 8), .ref (q 9), .int (nI kn), .ref (q 10), .ref (q 11), .ref (q 12), .ref (q 13), .ref (q 14), .ref (q 15), .ref (q 16), .ref (q 17), .int th]))]) [0] (by decide) rfl
      have hFc := va_free (wc := [((q 0), .inr (6, [.ref (q 1), .ref (q 2), .int on, .int hm, .int aw, .int tk, .ref (q 3), .ref (q 4), .ref (q 5), .int (nI sn), .ref (q 6), .ref (q 7), .ref (q 8), .ref (q 9), .int (nI kn), .ref (q 10), .ref (q 11), .ref (q 12), .ref (q 13), .ref (q 14), .ref (q 15), .ref (q 16), .ref (q 17), .int th]))]) hD hS hA [0] rfl
      refine va_calli (va_runV (As := [.int 2]) (rest := []) ⟨hx, hb, hml, hown, hts⟩ (c_X6_fails l D cI cZ cJ cA H.size q on hm aw tk sn kn th 2) (cwV 1 hts gX6_pass_X6_fails rfl rfl rfl (by decide +kernel) ⟨Nat.le_of_ble_eq_true rfl, Nat.le_of_ble_eq_true rfl⟩) ⟨pcW_bl, va_recv hK hPc (ci := 6) (q0 := 0) rfl rfl, fun U hU hW => ⟨rfl, by rw [hU], by rw [hU]; exact hPc, va_K.moved hW.alike hK, hDc.weaken (fun _ _ _ _ => trivial)⟩⟩ rfl rfl hl.1 rfl (lv_room (Nat.le_of_ble_eq_true rfl)) dX6_pass_27 ⟨Nat.le_of_ble_eq_true rfl, Nat.le_of_ble_eq_true rfl⟩) hS (fun q _ h => hFc q h) hFc (fun r_4 u t H locs ht hvm hw hB hz1 hk1 hS => ?_)
      try dsimp only at hw
      obtain ⟨u0_4, rfl⟩ : ∃ z, z = u := ⟨_, rfl⟩
      obtain ⟨hr_4, hu0_4⟩ := hw
      obtain ⟨hP1, hK1, hD1⟩ := hB
      rw [ht] at hP1
      obtain ⟨hP, hD⟩ := va_join (wr := [((q 3), .inl (cI, 6, .inl ce)), ((q 4), .inl (cI, 6, .inl hi)), ((q 6), .inl (cI, 100, .inl sa)), ((q 7), .inl (cI, 100, .inl sb)), ((q 8), .inl (cI, 100, .inl sc)), ((q 9), .inl (cI, 100, .inl sd)), ((q 1), .inl (cZ, 144, .inl bk))]) (w1 := [((q 0), .inr (6, [.ref (q 1), .ref (q 2), .int on, .int hm, .int aw, .int tk, .ref (q 3), .ref (q 4), .ref (q 5), .int (nI sn), .ref (q 6), .ref (q 7), .ref (q 8), .ref (q 9), .int (nI kn), .ref (q 10), .ref (q 11), .ref (q 12), .ref (q 13), .ref (q 14), .ref (q 15), .ref (q 16), .ref (q 17), .int u0_4]))]) hP hD [0] [1, 2, 3, 4, 5, 6, 7] rfl rfl (by decide) (by decide) hk1 hFc hP1 hD1
      obtain rfl := hu0_4.symm
      have hP : va_P D vwCl [((q 3), .inl (cI, 6, .inl ce)), ((q 4), .inl (cI, 6, .inl hi)), ((q 6), .inl (cI, 100, .inl sa)), ((q 7), .inl (cI, 100, .inl sb)), ((q 8), .inl (cI, 100, .inl sc)), ((q 9), .inl (cI, 100, .inl sd)), ((q 1), .inl (cZ, 144, .inl bk)), ((q 0), .inr (6, [.ref (q 1), .ref (q 2), .int on, .int hm, .int aw, .int tk, .ref (q 3), .ref (q 4), .ref (q 5), .int (nI sn), .ref (q 6), .ref (q 7), .ref (q 8), .ref (q 9), .int (nI kn), .ref (q 10), .ref (q 11), .ref (q 12), .ref (q 13), .ref (q 14), .ref (q 15), .ref (q 16), .ref (q 17), .int 2]))] H := hP
      have hD : va_D A [((q 3), .inl (cI, 6, .inl ce)), ((q 4), .inl (cI, 6, .inl hi)), ((q 6), .inl (cI, 100, .inl sa)), ((q 7), .inl (cI, 100, .inl sb)), ((q 8), .inl (cI, 100, .inl sc)), ((q 9), .inl (cI, 100, .inl sd)), ((q 1), .inl (cZ, 144, .inl bk)), ((q 0), .inr (6, [.ref (q 1), .ref (q 2), .int on, .int hm, .int aw, .int tk, .ref (q 3), .ref (q 4), .ref (q 5), .int (nI sn), .ref (q 6), .ref (q 7), .ref (q 8), .ref (q 9), .int (nI kn), .ref (q 10), .ref (q 11), .ref (q 12), .ref (q 13), .ref (q 14), .ref (q 15), .ref (q 16), .ref (q 17), .int 2]))] := hD
      obtain rfl := hr_4.symm
      refine W.widen (k := 0) (n := 0) (Nat.le_refl _) (Nat.le_refl _) ?_
      refine tp_eq (y := 1) rfl ?_
      refine lv_if_eq (tgt := 35) hx hb dX6_pass_30 (by decide) (fun c_5 => absurd c_5 (by decide)) (fun _ => ?_)
      refine lv_iconst (v := 0) hx hb dX6_pass_33 (by decide) ?_
      have hP9 := hP.sub (ws' := [((q 0), .inr (6, [.ref (q 1), .ref (q 2), .int on, .int hm, .int aw, .int tk, .ref (q 3), .ref (q 4), .ref (q 5), .int (nI sn), .ref (q 6), .ref (q 7), .ref (q 8), .ref (q 9), .int (nI kn), .ref (q 10), .ref (q 11), .ref (q 12), .ref (q 13), .ref (q 14), .ref (q 15), .ref (q 16), .ref (q 17), .int 2])), ((q 3), .inl (cI, 6, .inl ce)), ((q 4), .inl (cI, 6, .inl hi)), ((q 6), .inl (cI, 100, .inl sa)), ((q 7), .inl (cI, 100, .inl sb)), ((q 8), .inl (cI, 100, .inl sc)), ((q 9), .inl (cI, 100, .inl sd)), ((q 1), .inl (cZ, 144, .inl bk))]) [7, 0, 1, 2, 3, 4, 5, 6] rfl
      have hD9 := hD.sub (ws' := [((q 0), .inr (6, [.ref (q 1), .ref (q 2), .int on, .int hm, .int aw, .int tk, .ref (q 3), .ref (q 4), .ref (q 5), .int (nI sn), .ref (q 6), .ref (q 7), .ref (q 8), .ref (q 9), .int (nI kn), .ref (q 10), .ref (q 11), .ref (q 12), .ref (q 13), .ref (q 14), .ref (q 15), .ref (q 16), .ref (q 17), .int 2])), ((q 3), .inl (cI, 6, .inl ce)), ((q 4), .inl (cI, 6, .inl hi)), ((q 6), .inl (cI, 100, .inl sa)), ((q 7), .inl (cI, 100, .inl sb)), ((q 8), .inl (cI, 100, .inl sc)), ((q 9), .inl (cI, 100, .inl sd)), ((q 1), .inl (cZ, 144, .inl bk))]) [7, 0, 1, 2, 3, 4, 5, 6] (by decide) rfl
      -- leaf 0
      refine W.widen (k := 0) (n := 0) (Nat.le_refl _) (Nat.le_refl _) ?_
      exact W.iret (v := 0) hx hb hr (fun t ht hW => ⟨⟨0, (tk, hi, 2), rfl, ⟨(by rw [f_X6_pass, if_neg c_2, if_pos c_3]), (by rw [g_tk_X6_pass, if_neg c_2, if_pos c_3]), (by rw [g_hi_X6_pass, if_neg c_2, if_pos c_3]), (by rw [g_th_X6_pass, if_neg c_2, if_pos c_3])⟩, by rw [ht]; exact hP9, va_K.moved hW.alike hK, hD9⟩, hS.F ht⟩) hS.2.2 dX6_pass_34
    · refine lv_iconst (v := 0) hx hb dX6_pass_22 (by decide) ?_
      refine lv_goto (tgt := 27) hx hb dX6_pass_23 (by decide) ?_
      have hPc := hP.sub (ws' := [((q 0), .inr (6, [.ref (q 1), .ref (q 2), .int on, .int hm, .int aw, .int tk, .ref (q 3), .ref (q 4), .ref (q 5), .int (nI sn), .ref (q 6), .ref (q 7), .ref (q 8), .ref (q 9), .int (nI kn), .ref (q 10), .ref (q 11), .ref (q 12), .ref (q 13), .ref (q 14), .ref (q 15), .ref (q 16), .ref (q 17), .int th]))]) [0] rfl
      have hDc := hD.sub (ws' := [((q 0), .inr (6, [.ref (q 1), .ref (q 2), .int on, .int hm, .int aw, .int tk, .ref (q 3), .ref (q 4), .ref (q 5), .int (nI sn), .ref (q 6), .ref (q 7), .ref (q 8), .ref (q 9), .int (nI kn), .ref (q 10), .ref (q 11), .ref (q 12), .ref (q 13), .ref (q 14), .ref (q 15), .ref (q 16), .ref (q 17), .int th]))]) [0] (by decide) rfl
      have hFc := va_free (wc := [((q 0), .inr (6, [.ref (q 1), .ref (q 2), .int on, .int hm, .int aw, .int tk, .ref (q 3), .ref (q 4), .ref (q 5), .int (nI sn), .ref (q 6), .ref (q 7), .ref (q 8), .ref (q 9), .int (nI kn), .ref (q 10), .ref (q 11), .ref (q 12), .ref (q 13), .ref (q 14), .ref (q 15), .ref (q 16), .ref (q 17), .int th]))]) hD hS hA [0] rfl
      refine va_calli (va_runV (As := [.int 0]) (rest := []) ⟨hx, hb, hml, hown, hts⟩ (c_X6_fails l D cI cZ cJ cA H.size q on hm aw tk sn kn th 0) (cwV 1 hts gX6_pass_X6_fails rfl rfl rfl (by decide +kernel) ⟨Nat.le_of_ble_eq_true rfl, Nat.le_of_ble_eq_true rfl⟩) ⟨pcW_bl, va_recv hK hPc (ci := 6) (q0 := 0) rfl rfl, fun U hU hW => ⟨rfl, by rw [hU], by rw [hU]; exact hPc, va_K.moved hW.alike hK, hDc.weaken (fun _ _ _ _ => trivial)⟩⟩ rfl rfl hl.1 rfl (lv_room (Nat.le_of_ble_eq_true rfl)) dX6_pass_27 ⟨Nat.le_of_ble_eq_true rfl, Nat.le_of_ble_eq_true rfl⟩) hS (fun q _ h => hFc q h) hFc (fun r_6 u t H locs ht hvm hw hB hz1 hk1 hS => ?_)
      try dsimp only at hw
      obtain ⟨u0_6, rfl⟩ : ∃ z, z = u := ⟨_, rfl⟩
      obtain ⟨hr_6, hu0_6⟩ := hw
      obtain ⟨hP1, hK1, hD1⟩ := hB
      rw [ht] at hP1
      obtain ⟨hP, hD⟩ := va_join (wr := [((q 3), .inl (cI, 6, .inl ce)), ((q 4), .inl (cI, 6, .inl hi)), ((q 6), .inl (cI, 100, .inl sa)), ((q 7), .inl (cI, 100, .inl sb)), ((q 8), .inl (cI, 100, .inl sc)), ((q 9), .inl (cI, 100, .inl sd)), ((q 1), .inl (cZ, 144, .inl bk))]) (w1 := [((q 0), .inr (6, [.ref (q 1), .ref (q 2), .int on, .int hm, .int aw, .int tk, .ref (q 3), .ref (q 4), .ref (q 5), .int (nI sn), .ref (q 6), .ref (q 7), .ref (q 8), .ref (q 9), .int (nI kn), .ref (q 10), .ref (q 11), .ref (q 12), .ref (q 13), .ref (q 14), .ref (q 15), .ref (q 16), .ref (q 17), .int u0_6]))]) hP hD [0] [1, 2, 3, 4, 5, 6, 7] rfl rfl (by decide) (by decide) hk1 hFc hP1 hD1
      obtain rfl := hu0_6.symm
      have hP : va_P D vwCl [((q 3), .inl (cI, 6, .inl ce)), ((q 4), .inl (cI, 6, .inl hi)), ((q 6), .inl (cI, 100, .inl sa)), ((q 7), .inl (cI, 100, .inl sb)), ((q 8), .inl (cI, 100, .inl sc)), ((q 9), .inl (cI, 100, .inl sd)), ((q 1), .inl (cZ, 144, .inl bk)), ((q 0), .inr (6, [.ref (q 1), .ref (q 2), .int on, .int hm, .int aw, .int tk, .ref (q 3), .ref (q 4), .ref (q 5), .int (nI sn), .ref (q 6), .ref (q 7), .ref (q 8), .ref (q 9), .int (nI kn), .ref (q 10), .ref (q 11), .ref (q 12), .ref (q 13), .ref (q 14), .ref (q 15), .ref (q 16), .ref (q 17), .int 0]))] H := hP
      have hD : va_D A [((q 3), .inl (cI, 6, .inl ce)), ((q 4), .inl (cI, 6, .inl hi)), ((q 6), .inl (cI, 100, .inl sa)), ((q 7), .inl (cI, 100, .inl sb)), ((q 8), .inl (cI, 100, .inl sc)), ((q 9), .inl (cI, 100, .inl sd)), ((q 1), .inl (cZ, 144, .inl bk)), ((q 0), .inr (6, [.ref (q 1), .ref (q 2), .int on, .int hm, .int aw, .int tk, .ref (q 3), .ref (q 4), .ref (q 5), .int (nI sn), .ref (q 6), .ref (q 7), .ref (q 8), .ref (q 9), .int (nI kn), .ref (q 10), .ref (q 11), .ref (q 12), .ref (q 13), .ref (q 14), .ref (q 15), .ref (q 16), .ref (q 17), .int 0]))] := hD
      obtain rfl := hr_6.symm
      refine W.widen (k := 0) (n := 0) (Nat.le_refl _) (Nat.le_refl _) ?_
      refine tp_eq (y := 0) rfl ?_
      refine lv_if_eq (tgt := 35) hx hb dX6_pass_30 (by decide) (fun _ => ?_) (fun c_7 => absurd (by decide) c_7)
      obtain ⟨N, hN, hp1⟩ := isIn_50 c_2
      have hpN : p1.toNatClampNeg = N := by rw [hp1]; exact nI_clamp (by omega)
      refine lv_iconst (v := 0) hx hb dX6_pass_35 (by decide) ?_
      refine lv_istore_n (lv' := [(2, .int 0), (0, .ref (q 0)), (1, .int p1)]) hx hb dX6_pass_36 rfl hl (by decide) rfl (fun ls hl => ?_)
      refine lv_iconst (v := 0) hx hb dX6_pass_37 (by decide) ?_
      refine lv_istore_n (lv' := [(3, .int 0), (2, .int 0), (0, .ref (q 0)), (1, .int p1)]) hx hb dX6_pass_38 rfl hl (by decide) rfl (fun ls hl => ?_)
      refine lpW (σ := (Nat) × (Int32) × (Int32) × (Nat → Int32)) (I := fun x H locs ls => va_P D vwCl [((q 3), .inl (cI, 6, .inl ce)), ((q 4), .inl (cI, 6, .inl x.2.2.2)), ((q 6), .inl (cI, 100, .inl sa)), ((q 7), .inl (cI, 100, .inl sb)), ((q 8), .inl (cI, 100, .inl sc)), ((q 9), .inl (cI, 100, .inl sd)), ((q 1), .inl (cZ, 144, .inl bk)), ((q 0), .inr (6, [.ref (q 1), .ref (q 2), .int on, .int hm, .int aw, .int x.2.2.1, .ref (q 3), .ref (q 4), .ref (q 5), .int (nI sn), .ref (q 6), .ref (q 7), .ref (q 8), .ref (q 9), .int (nI kn), .ref (q 10), .ref (q 11), .ref (q 12), .ref (q 13), .ref (q 14), .ref (q 15), .ref (q 16), .ref (q 17), .int 0]))] H ∧ va_D A [((q 3), .inl (cI, 6, .inl ce)), ((q 4), .inl (cI, 6, .inl x.2.2.2)), ((q 6), .inl (cI, 100, .inl sa)), ((q 7), .inl (cI, 100, .inl sb)), ((q 8), .inl (cI, 100, .inl sc)), ((q 9), .inl (cI, 100, .inl sd)), ((q 1), .inl (cZ, 144, .inl bk)), ((q 0), .inr (6, [.ref (q 1), .ref (q 2), .int on, .int hm, .int aw, .int x.2.2.1, .ref (q 3), .ref (q 4), .ref (q 5), .int (nI sn), .ref (q 6), .ref (q 7), .ref (q 8), .ref (q 9), .int (nI kn), .ref (q 10), .ref (q 11), .ref (q 12), .ref (q 13), .ref (q 14), .ref (q 15), .ref (q 16), .ref (q 17), .int 0]))] ∧ va_S A s.heap H locs ∧ lv_has ls 6 [(0, .ref (q 0)), (1, .int p1), (2, .int x.2.1), (3, .int (nI x.1))] ∧ (x.1 ≤ N) ∧ (x.2.1 = (pmN bk tk ce hi sn sa sb sc sd x.1).1) ∧ (x.2.2.1 = (pmN bk tk ce hi sn sa sb sc sd x.1).2.1) ∧ (x.2.2.2 = (pmN bk tk ce hi sn sa sb sc sd x.1).2.2)) (μ := fun x => N - x.1) ?_ (0, 0, tk, hi) ⟨hP, hD, hS, lv_sub hl [2, 3, 1, 0] rfl, (Nat.zero_le _), (by simp only [pmN]), (by simp only [pmN]), (by simp only [pmN])⟩
      intro x H locs ls hI ih
      obtain ⟨i, c2, t2, e1⟩ := x
      obtain ⟨hP, hD, hS, hl, hq_hi1, hq_hc, hq_ht2, hq_he⟩ := hI
      have ih_39 := ih
      have hl : lv_has ls 6 [(0, .ref (q 0)), (1, .int p1), (2, .int c2), (3, .int (nI i))] := hl
      have hP : va_P D vwCl [((q 3), .inl (cI, 6, .inl ce)), ((q 4), .inl (cI, 6, .inl e1)), ((q 6), .inl (cI, 100, .inl sa)), ((q 7), .inl (cI, 100, .inl sb)), ((q 8), .inl (cI, 100, .inl sc)), ((q 9), .inl (cI, 100, .inl sd)), ((q 1), .inl (cZ, 144, .inl bk)), ((q 0), .inr (6, [.ref (q 1), .ref (q 2), .int on, .int hm, .int aw, .int t2, .ref (q 3), .ref (q 4), .ref (q 5), .int (nI sn), .ref (q 6), .ref (q 7), .ref (q 8), .ref (q 9), .int (nI kn), .ref (q 10), .ref (q 11), .ref (q 12), .ref (q 13), .ref (q 14), .ref (q 15), .ref (q 16), .ref (q 17), .int 0]))] H := hP
      have hD : va_D A [((q 3), .inl (cI, 6, .inl ce)), ((q 4), .inl (cI, 6, .inl e1)), ((q 6), .inl (cI, 100, .inl sa)), ((q 7), .inl (cI, 100, .inl sb)), ((q 8), .inl (cI, 100, .inl sc)), ((q 9), .inl (cI, 100, .inl sd)), ((q 1), .inl (cZ, 144, .inl bk)), ((q 0), .inr (6, [.ref (q 1), .ref (q 2), .int on, .int hm, .int aw, .int t2, .ref (q 3), .ref (q 4), .ref (q 5), .int (nI sn), .ref (q 6), .ref (q 7), .ref (q 8), .ref (q 9), .int (nI kn), .ref (q 10), .ref (q 11), .ref (q 12), .ref (q 13), .ref (q 14), .ref (q 15), .ref (q 16), .ref (q 17), .int 0]))] := hD
      have hi1 : i ≤ N := hq_hi1
      have hc : c2 = (pmN bk tk ce hi sn sa sb sc sd i).1 := hq_hc
      have ht2 : t2 = (pmN bk tk ce hi sn sa sb sc sd i).2.1 := hq_ht2
      have he : e1 = (pmN bk tk ce hi sn sa sb sc sd i).2.2 := hq_he
      clear hq_hi1 hq_hc hq_ht2 hq_he
      refine lv_iload_n hx hb dX6_pass_39 rfl (lv_at hl 3 rfl) ?_
      refine lv_iload_n hx hb dX6_pass_40 rfl (lv_at hl 1 rfl) ?_
      refine lv_icmp_ge (tgt := 183) hx hb dX6_pass_41 (by decide) (fun c_8 => ?_) (fun c_8 => ?_)
      · have he_41 : i = N := bd_eq (by omega) hi1 (by rw [← hp1]; exact c_8)
        rw [he_41, ← hpN] at hc
        obtain rfl := hc.symm
        rw [he_41, ← hpN] at ht2
        obtain rfl := ht2.symm
        rw [he_41, ← hpN] at he
        obtain rfl := he.symm
        refine lv_iload_n hx hb dX6_pass_183 rfl (lv_at hl 2 rfl) ?_
        have hP9 := hP.sub (ws' := [((q 0), .inr (6, [.ref (q 1), .ref (q 2), .int on, .int hm, .int aw, .int ((pmN bk tk ce hi sn sa sb sc sd p1.toNatClampNeg).2.1), .ref (q 3), .ref (q 4), .ref (q 5), .int (nI sn), .ref (q 6), .ref (q 7), .ref (q 8), .ref (q 9), .int (nI kn), .ref (q 10), .ref (q 11), .ref (q 12), .ref (q 13), .ref (q 14), .ref (q 15), .ref (q 16), .ref (q 17), .int 0])), ((q 3), .inl (cI, 6, .inl ce)), ((q 4), .inl (cI, 6, .inl ((pmN bk tk ce hi sn sa sb sc sd p1.toNatClampNeg).2.2))), ((q 6), .inl (cI, 100, .inl sa)), ((q 7), .inl (cI, 100, .inl sb)), ((q 8), .inl (cI, 100, .inl sc)), ((q 9), .inl (cI, 100, .inl sd)), ((q 1), .inl (cZ, 144, .inl bk))]) [7, 0, 1, 2, 3, 4, 5, 6] rfl
        have hD9 := hD.sub (ws' := [((q 0), .inr (6, [.ref (q 1), .ref (q 2), .int on, .int hm, .int aw, .int ((pmN bk tk ce hi sn sa sb sc sd p1.toNatClampNeg).2.1), .ref (q 3), .ref (q 4), .ref (q 5), .int (nI sn), .ref (q 6), .ref (q 7), .ref (q 8), .ref (q 9), .int (nI kn), .ref (q 10), .ref (q 11), .ref (q 12), .ref (q 13), .ref (q 14), .ref (q 15), .ref (q 16), .ref (q 17), .int 0])), ((q 3), .inl (cI, 6, .inl ce)), ((q 4), .inl (cI, 6, .inl ((pmN bk tk ce hi sn sa sb sc sd p1.toNatClampNeg).2.2))), ((q 6), .inl (cI, 100, .inl sa)), ((q 7), .inl (cI, 100, .inl sb)), ((q 8), .inl (cI, 100, .inl sc)), ((q 9), .inl (cI, 100, .inl sd)), ((q 1), .inl (cZ, 144, .inl bk))]) [7, 0, 1, 2, 3, 4, 5, 6] (by decide) rfl
        -- leaf 1
        refine W.widen (k := 0) (n := 0) (Nat.le_refl _) (Nat.le_refl _) ?_
        exact W.iret (v := ((pmN bk tk ce hi sn sa sb sc sd p1.toNatClampNeg).1)) hx hb hr (fun t ht hW => ⟨⟨((pmN bk tk ce hi sn sa sb sc sd p1.toNatClampNeg).1), (((pmN bk tk ce hi sn sa sb sc sd p1.toNatClampNeg).2.1), ((pmN bk tk ce hi sn sa sb sc sd p1.toNatClampNeg).2.2), 0), rfl, ⟨(by rw [f_X6_pass, if_neg c_2, if_neg c_3]), (by rw [g_tk_X6_pass, if_neg c_2, if_neg c_3]), (by rw [g_hi_X6_pass, if_neg c_2, if_neg c_3]), (by rw [g_th_X6_pass, if_neg c_2, if_neg c_3])⟩, by rw [ht]; exact hP9, va_K.moved hW.alike hK, hD9⟩, hS.F ht⟩) hS.2.2 dX6_pass_184
      · have hlt_41 : i < N := bd_lt (by omega) hi1 (by rw [← hp1]; exact c_8)
        refine lv_aload_n hx hb dX6_pass_44 rfl (lv_at hl 0 rfl) ?_
        refine lv_dup hx hb dX6_pass_45 rfl ?_
        refine va_get (D := D) (ci := 6) (v := .int t2) (C := RX6) (T := TX6) (N := 24) hx hb hts hi_X6 hown hK hP 7 rfl rfl 5 (by decide) hf_107 (fun _ h9 => h9) rfl dX6_pass_46 ?_
        refine lv_iconst (v := 1) hx hb dX6_pass_49 (by decide) ?_
        refine lv_iadd hx hb dX6_pass_50 ?_
        refine va_put (D := D) (ci := 6) (v := .int (t2 + 1)) (ty := .int) (C := RX6) (T := TX6) (N := 24) hx hb hts hi_X6 tyX6 tyX6_ok nmX6 hown hK hP hD hS 7 rfl rfl 5 (by decide) hf_107 (fun _ h9 => h9) rfl (by decide +kernel) rfl rfl (Nat.le_of_ble_eq_true rfl) dX6_pass_51 (fun H locs hP hD hS => ?_)
        have hP : va_P D vwCl [((q 3), .inl (cI, 6, .inl ce)), ((q 4), .inl (cI, 6, .inl e1)), ((q 6), .inl (cI, 100, .inl sa)), ((q 7), .inl (cI, 100, .inl sb)), ((q 8), .inl (cI, 100, .inl sc)), ((q 9), .inl (cI, 100, .inl sd)), ((q 1), .inl (cZ, 144, .inl bk)), ((q 0), .inr (6, [.ref (q 1), .ref (q 2), .int on, .int hm, .int aw, .int (t2 + 1), .ref (q 3), .ref (q 4), .ref (q 5), .int (nI sn), .ref (q 6), .ref (q 7), .ref (q 8), .ref (q 9), .int (nI kn), .ref (q 10), .ref (q 11), .ref (q 12), .ref (q 13), .ref (q 14), .ref (q 15), .ref (q 16), .ref (q 17), .int 0]))] H := hP
        have hD : va_D A [((q 3), .inl (cI, 6, .inl ce)), ((q 4), .inl (cI, 6, .inl e1)), ((q 6), .inl (cI, 100, .inl sa)), ((q 7), .inl (cI, 100, .inl sb)), ((q 8), .inl (cI, 100, .inl sc)), ((q 9), .inl (cI, 100, .inl sd)), ((q 1), .inl (cZ, 144, .inl bk)), ((q 0), .inr (6, [.ref (q 1), .ref (q 2), .int on, .int hm, .int aw, .int (t2 + 1), .ref (q 3), .ref (q 4), .ref (q 5), .int (nI sn), .ref (q 6), .ref (q 7), .ref (q 8), .ref (q 9), .int (nI kn), .ref (q 10), .ref (q 11), .ref (q 12), .ref (q 13), .ref (q 14), .ref (q 15), .ref (q 16), .ref (q 17), .int 0]))] := hD
        refine lv_iconst (v := 0) hx hb dX6_pass_54 (by decide) ?_
        refine lv_istore (lv' := [(4, .int 0), (0, .ref (q 0)), (1, .int p1), (2, .int c2), (3, .int (nI i))]) hx hb dX6_pass_55 hl (by decide) rfl (fun ls hl => ?_)
        refine lpW (σ := (Nat) × (Int32) × (Nat → Int32)) (I := fun x H locs ls => va_P D vwCl [((q 3), .inl (cI, 6, .inl ce)), ((q 4), .inl (cI, 6, .inl x.2.2)), ((q 6), .inl (cI, 100, .inl sa)), ((q 7), .inl (cI, 100, .inl sb)), ((q 8), .inl (cI, 100, .inl sc)), ((q 9), .inl (cI, 100, .inl sd)), ((q 1), .inl (cZ, 144, .inl bk)), ((q 0), .inr (6, [.ref (q 1), .ref (q 2), .int on, .int hm, .int aw, .int (t2 + 1), .ref (q 3), .ref (q 4), .ref (q 5), .int (nI sn), .ref (q 6), .ref (q 7), .ref (q 8), .ref (q 9), .int (nI kn), .ref (q 10), .ref (q 11), .ref (q 12), .ref (q 13), .ref (q 14), .ref (q 15), .ref (q 16), .ref (q 17), .int 0]))] H ∧ va_D A [((q 3), .inl (cI, 6, .inl ce)), ((q 4), .inl (cI, 6, .inl x.2.2)), ((q 6), .inl (cI, 100, .inl sa)), ((q 7), .inl (cI, 100, .inl sb)), ((q 8), .inl (cI, 100, .inl sc)), ((q 9), .inl (cI, 100, .inl sd)), ((q 1), .inl (cZ, 144, .inl bk)), ((q 0), .inr (6, [.ref (q 1), .ref (q 2), .int on, .int hm, .int aw, .int (t2 + 1), .ref (q 3), .ref (q 4), .ref (q 5), .int (nI sn), .ref (q 6), .ref (q 7), .ref (q 8), .ref (q 9), .int (nI kn), .ref (q 10), .ref (q 11), .ref (q 12), .ref (q 13), .ref (q 14), .ref (q 15), .ref (q 16), .ref (q 17), .int 0]))] ∧ va_S A s.heap H locs ∧ lv_has ls 6 [(0, .ref (q 0)), (1, .int p1), (2, .int x.2.1), (3, .int (nI i)), (4, .int (nI x.1))] ∧ (x.1 ≤ sn) ∧ (x.2.1 = (pmS bk (t2 + 1) ce c2 e1 sn sa sb sc sd x.1).1) ∧ (x.2.2 = (pmS bk (t2 + 1) ce c2 e1 sn sa sb sc sd x.1).2)) (μ := fun x => sn - x.1) ?_ (0, c2, e1) ⟨hP, hD, hS, lv_sub hl [1, 2, 3, 4, 0] rfl, (Nat.zero_le _), (by simp only [pmS]), (by simp only [pmS])⟩
        intro x H locs ls hI ih
        obtain ⟨k, d2, f2⟩ := x
        obtain ⟨hP, hD, hS, hl, hq_hk1, hq_hd, hq_hf⟩ := hI
        have ih_57 := ih
        have hl : lv_has ls 6 [(0, .ref (q 0)), (1, .int p1), (2, .int d2), (3, .int (nI i)), (4, .int (nI k))] := hl
        have hP : va_P D vwCl [((q 3), .inl (cI, 6, .inl ce)), ((q 4), .inl (cI, 6, .inl f2)), ((q 6), .inl (cI, 100, .inl sa)), ((q 7), .inl (cI, 100, .inl sb)), ((q 8), .inl (cI, 100, .inl sc)), ((q 9), .inl (cI, 100, .inl sd)), ((q 1), .inl (cZ, 144, .inl bk)), ((q 0), .inr (6, [.ref (q 1), .ref (q 2), .int on, .int hm, .int aw, .int (t2 + 1), .ref (q 3), .ref (q 4), .ref (q 5), .int (nI sn), .ref (q 6), .ref (q 7), .ref (q 8), .ref (q 9), .int (nI kn), .ref (q 10), .ref (q 11), .ref (q 12), .ref (q 13), .ref (q 14), .ref (q 15), .ref (q 16), .ref (q 17), .int 0]))] H := hP
        have hD : va_D A [((q 3), .inl (cI, 6, .inl ce)), ((q 4), .inl (cI, 6, .inl f2)), ((q 6), .inl (cI, 100, .inl sa)), ((q 7), .inl (cI, 100, .inl sb)), ((q 8), .inl (cI, 100, .inl sc)), ((q 9), .inl (cI, 100, .inl sd)), ((q 1), .inl (cZ, 144, .inl bk)), ((q 0), .inr (6, [.ref (q 1), .ref (q 2), .int on, .int hm, .int aw, .int (t2 + 1), .ref (q 3), .ref (q 4), .ref (q 5), .int (nI sn), .ref (q 6), .ref (q 7), .ref (q 8), .ref (q 9), .int (nI kn), .ref (q 10), .ref (q 11), .ref (q 12), .ref (q 13), .ref (q 14), .ref (q 15), .ref (q 16), .ref (q 17), .int 0]))] := hD
        have hk1 : k ≤ sn := hq_hk1
        have hd : d2 = (pmS bk (t2 + 1) ce c2 e1 sn sa sb sc sd k).1 := hq_hd
        have hf : f2 = (pmS bk (t2 + 1) ce c2 e1 sn sa sb sc sd k).2 := hq_hf
        clear hq_hk1 hq_hd hq_hf
        refine lv_iload hx hb dX6_pass_57 (lv_at hl 4 rfl) ?_
        refine lv_aload_n hx hb dX6_pass_59 rfl (lv_at hl 0 rfl) ?_
        refine va_get (D := D) (ci := 6) (v := .int (nI sn)) (C := RX6) (T := TX6) (N := 24) hx hb hts hi_X6 hown hK hP 7 rfl rfl 9 (by decide) hf_110 (fun _ h9 => h9) rfl dX6_pass_60 ?_
        refine lv_icmp_ge (tgt := 177) hx hb dX6_pass_63 (by decide) (fun c_9 => ?_) (fun c_9 => ?_)
        · have he_63 : k = sn := bd_eq (by omega) hk1 c_9
          rw [he_63] at hd hf
          obtain rfl := hd.symm
          obtain rfl := hf.symm
          refine lv_iinc (v := nI (i + 1)) (lv' := [(3, .int (nI (i + 1))), (0, .ref (q 0)), (1, .int p1), (2, .int ((pmS bk (t2 + 1) ce c2 e1 sn sa sb sc sd sn).1)), (4, .int (nI k))]) hx hb dX6_pass_177 hl (k := 3) rfl (nI_1 i) (by decide) rfl (fun ls hl => ?_)
          refine lv_goto (tgt := 39) hx hb dX6_pass_180 (by decide) ?_
          refine W.widen (k := 0) (n := 0) (Nat.le_refl _) (Nat.le_refl _) ?_
          exact ih_39 ((i + 1), ((pmS bk (t2 + 1) ce c2 e1 sn sa sb sc sd sn).1), t2 + 1, ((pmS bk (t2 + 1) ce c2 e1 sn sa sb sc sd sn).2)) _ _ _ (by first | omega | (dsimp only; omega)) ⟨hP, hD, hS, lv_sub hl [1, 2, 3, 0] rfl, (by omega), (by rw [pmN, ← hc, ← ht2, ← he]), (by rw [pmN, ← ht2]), (by rw [pmN, ← hc, ← ht2, ← he])⟩
        · have hlt_63 : k < sn := bd_lt (by omega) hk1 c_9
          refine lv_aload_n hx hb dX6_pass_66 rfl (lv_at hl 0 rfl) ?_
          refine va_get (D := D) (ci := 6) (v := .ref (q 9)) (C := RX6) (T := TX6) (N := 24) hx hb hts hi_X6 hown hK hP 7 rfl rfl 13 (by decide) hf_35 (fun _ h9 => h9) rfl dX6_pass_67 ?_
          refine lv_iload hx hb dX6_pass_70 (lv_at hl 4 rfl) ?_
          refine va_iald hx hb hK hP 5 0 rfl rfl (vp_in_nI (n := k) (by omega) (by decide)) dX6_pass_72 ?_
          refine tp_eq (y := sd k) (by rw [nI_clamp (n := k) (by omega)]) ?_
          refine lv_aload_n hx hb dX6_pass_73 rfl (lv_at hl 0 rfl) ?_
          refine va_get (D := D) (ci := 6) (v := .int (t2 + 1)) (C := RX6) (T := TX6) (N := 24) hx hb hts hi_X6 hown hK hP 7 rfl rfl 5 (by decide) hf_107 (fun _ h9 => h9) rfl dX6_pass_74 ?_
          refine lv_icmp_ne (tgt := 94) hx hb dX6_pass_77 (by decide) (fun c_10 => ?_) (fun c_10 => ?_)
          · refine lv_iconst (v := (-1)) hx hb dX6_pass_94 (by decide) ?_
            refine lv_istore (lv' := [(5, .int (-1)), (0, .ref (q 0)), (1, .int p1), (2, .int d2), (3, .int (nI i)), (4, .int (nI k))]) hx hb dX6_pass_95 hl (by decide) rfl (fun ls hl => ?_)
            refine lv_iload hx hb dX6_pass_97 (lv_at hl 0 rfl) ?_
            refine lv_iconst (v := (-1)) hx hb dX6_pass_99 (by decide) ?_
            refine lv_icmp_eq (tgt := 171) hx hb dX6_pass_100 (by decide) (fun _ => ?_) (fun c_11 => absurd (by decide) c_11)
            refine lv_iinc (v := nI (k + 1)) (lv' := [(4, .int (nI (k + 1))), (5, .int (-1)), (0, .ref (q 0)), (1, .int p1), (2, .int d2), (3, .int (nI i))]) hx hb dX6_pass_171 hl (k := 5) rfl (nI_1 k) (by decide) rfl (fun ls hl => ?_)
            refine lv_goto (tgt := 57) hx hb dX6_pass_174 (by decide) ?_
            refine W.widen (k := 0) (n := 0) (Nat.le_refl _) (Nat.le_refl _) ?_
            exact ih_57 ((k + 1), d2, f2) _ _ _ (by first | omega | (dsimp only; omega)) ⟨hP, hD, hS, lv_sub hl [2, 3, 4, 5, 0] rfl, (by omega), (by rw [pmS, if_neg c_10]; exact hd), (by rw [pmS, if_neg c_10]; exact hf)⟩
          · refine lv_aload_n hx hb dX6_pass_80 rfl (lv_at hl 0 rfl) ?_
            refine lv_aload_n hx hb dX6_pass_81 rfl (lv_at hl 0 rfl) ?_
            refine va_get (D := D) (ci := 6) (v := .ref (q 8)) (C := RX6) (T := TX6) (N := 24) hx hb hts hi_X6 hown hK hP 7 rfl rfl 12 (by decide) hf_32 (fun _ h9 => h9) rfl dX6_pass_82 ?_
            refine lv_iload hx hb dX6_pass_85 (lv_at hl 4 rfl) ?_
            refine va_iald hx hb hK hP 4 0 rfl rfl (vp_in_nI (n := k) (by omega) (by decide)) dX6_pass_87 ?_
            refine tp_eq (y := sc k) (by rw [nI_clamp (n := k) (by omega)]) ?_
            have hPc := hP.sub (ws' := [((q 0), .inr (6, [.ref (q 1), .ref (q 2), .int on, .int hm, .int aw, .int (t2 + 1), .ref (q 3), .ref (q 4), .ref (q 5), .int (nI sn), .ref (q 6), .ref (q 7), .ref (q 8), .ref (q 9), .int (nI kn), .ref (q 10), .ref (q 11), .ref (q 12), .ref (q 13), .ref (q 14), .ref (q 15), .ref (q 16), .ref (q 17), .int 0])), ((q 3), .inl (cI, 6, .inl ce))]) [7, 0] rfl
            refine va_calli (va_runV (As := [.int (sc k)]) (rest := []) ⟨hx, hb, hml, hown, hts⟩ (c_X6_standsOn l D cI cZ cJ cA H.size q on hm aw (t2 + 1) ce sn kn 0 (sc k)) (cwV 1 hts gX6_pass_X6_standsOn rfl rfl rfl (by decide +kernel) ⟨Nat.le_of_ble_eq_true rfl, Nat.le_of_ble_eq_true rfl⟩) ⟨pcR_bl, va_recv hK hPc (ci := 6) (q0 := 0) rfl rfl, fun U hU hW => ⟨rfl, by rw [hU], by rw [hU]; exact hPc, va_K.moved hW.alike hK⟩⟩ rfl rfl hl.1 rfl (lv_room (Nat.le_of_ble_eq_true rfl)) dX6_pass_88 ⟨Nat.le_of_ble_eq_true rfl, Nat.le_of_ble_eq_true rfl⟩) hS (fun _ h1 h2 => absurd h1 (Nat.not_lt.mpr h2)) (rd_free hS hA) (fun r_12 u t H locs ht hvm hw hB hz1 hk1 hS => ?_)
            try dsimp only at hw
            have hr_12 := hw
            have hP := rd_P hP hk1
            obtain rfl := hr_12.symm
            refine W.widen (k := 0) (n := 0) (Nat.le_refl _) (Nat.le_refl _) ?_
            refine lv_goto (tgt := 95) hx hb dX6_pass_91 (by decide) ?_
            refine lv_istore (lv' := [(5, .int (sOn ce (sc k) 6)), (0, .ref (q 0)), (1, .int p1), (2, .int d2), (3, .int (nI i)), (4, .int (nI k))]) hx hb dX6_pass_95 hl (by decide) rfl (fun ls hl => ?_)
            refine lv_iload hx hb dX6_pass_97 (lv_at hl 0 rfl) ?_
            refine lv_iconst (v := (-1)) hx hb dX6_pass_99 (by decide) ?_
            refine lv_icmp_eq (tgt := 171) hx hb dX6_pass_100 (by decide) (fun c_13 => ?_) (fun c_13 => ?_)
            · refine lv_iinc (v := nI (k + 1)) (lv' := [(4, .int (nI (k + 1))), (5, .int (sOn ce (sc k) 6)), (0, .ref (q 0)), (1, .int p1), (2, .int d2), (3, .int (nI i))]) hx hb dX6_pass_171 hl (k := 5) rfl (nI_1 k) (by decide) rfl (fun ls hl => ?_)
              refine lv_goto (tgt := 57) hx hb dX6_pass_174 (by decide) ?_
              refine W.widen (k := 0) (n := 0) (Nat.le_refl _) (Nat.le_refl _) ?_
              exact ih_57 ((k + 1), d2, f2) _ _ _ (by first | omega | (dsimp only; omega)) ⟨hP, hD, hS, lv_sub hl [2, 3, 4, 5, 0] rfl, (by omega), (by rw [pmS, if_pos c_10, if_pos c_13]; exact hd), (by rw [pmS, if_pos c_10, if_pos c_13]; exact hf)⟩
            · refine lv_iload hx hb dX6_pass_103 (lv_at hl 0 rfl) ?_
              refine lv_aload_n hx hb dX6_pass_105 rfl (lv_at hl 1 rfl) ?_
              refine va_get (D := D) (ci := 6) (v := .ref (q 6)) (C := RX6) (T := TX6) (N := 24) hx hb hts hi_X6 hown hK hP 7 rfl rfl 10 (by decide) hf_26 (fun _ h9 => h9) rfl dX6_pass_106 ?_
              refine lv_iload hx hb dX6_pass_109 (lv_at hl 5 rfl) ?_
              refine va_iald hx hb hK hP 2 0 rfl rfl (vp_in_nI (n := k) (by omega) (by decide)) dX6_pass_111 ?_
              refine tp_eq (y := sa k) (by rw [nI_clamp (n := k) (by omega)]) ?_
              refine lv_icmp_eq (tgt := 171) hx hb dX6_pass_112 (by decide) (fun c_14 => ?_) (fun c_14 => ?_)
              · refine lv_iinc (v := nI (k + 1)) (lv' := [(4, .int (nI (k + 1))), (5, .int (sOn ce (sc k) 6)), (0, .ref (q 0)), (1, .int p1), (2, .int d2), (3, .int (nI i))]) hx hb dX6_pass_171 hl (k := 5) rfl (nI_1 k) (by decide) rfl (fun ls hl => ?_)
                refine lv_goto (tgt := 57) hx hb dX6_pass_174 (by decide) ?_
                refine W.widen (k := 0) (n := 0) (Nat.le_refl _) (Nat.le_refl _) ?_
                exact ih_57 ((k + 1), d2, f2) _ _ _ (by first | omega | (dsimp only; omega)) ⟨hP, hD, hS, lv_sub hl [2, 3, 4, 5, 0] rfl, (by omega), (by rw [pmS, if_pos c_10, if_neg c_13, if_pos c_14]; exact hd), (by rw [pmS, if_pos c_10, if_neg c_13, if_pos c_14]; exact hf)⟩
              · refine lv_aload_n hx hb dX6_pass_115 rfl (lv_at hl 1 rfl) ?_
                refine lv_aload_n hx hb dX6_pass_116 rfl (lv_at hl 1 rfl) ?_
                refine va_get (D := D) (ci := 6) (v := .ref (q 7)) (C := RX6) (T := TX6) (N := 24) hx hb hts hi_X6 hown hK hP 7 rfl rfl 11 (by decide) hf_29 (fun _ h9 => h9) rfl dX6_pass_117 ?_
                refine lv_iload hx hb dX6_pass_120 (lv_at hl 5 rfl) ?_
                refine va_iald hx hb hK hP 3 0 rfl rfl (vp_in_nI (n := k) (by omega) (by decide)) dX6_pass_122 ?_
                refine tp_eq (y := sb k) (by rw [nI_clamp (n := k) (by omega)]) ?_
                refine lv_aload_n hx hb dX6_pass_123 rfl (lv_at hl 1 rfl) ?_
                refine va_get (D := D) (ci := 6) (v := .ref (q 8)) (C := RX6) (T := TX6) (N := 24) hx hb hts hi_X6 hown hK hP 7 rfl rfl 12 (by decide) hf_32 (fun _ h9 => h9) rfl dX6_pass_124 ?_
                refine lv_iload hx hb dX6_pass_127 (lv_at hl 5 rfl) ?_
                refine va_iald hx hb hK hP 4 0 rfl rfl (vp_in_nI (n := k) (by omega) (by decide)) dX6_pass_129 ?_
                refine tp_eq (y := sc k) (by rw [nI_clamp (n := k) (by omega)]) ?_
                have hPc := hP.sub (ws' := [((q 0), .inr (6, [.ref (q 1), .ref (q 2), .int on, .int hm, .int aw, .int (t2 + 1), .ref (q 3), .ref (q 4), .ref (q 5), .int (nI sn), .ref (q 6), .ref (q 7), .ref (q 8), .ref (q 9), .int (nI kn), .ref (q 10), .ref (q 11), .ref (q 12), .ref (q 13), .ref (q 14), .ref (q 15), .ref (q 16), .ref (q 17), .int 0])), ((q 1), .inl (cZ, 144, .inl bk))]) [7, 6] rfl
                refine va_calli (va_runV (As := [.int (sb k), .int (sc k)]) (rest := []) ⟨hx, hb, hml, hown, hts⟩ (c_X6_see l D cI cZ cJ cA H.size q bk on hm aw (t2 + 1) sn kn 0 (sb k) (sc k)) (cwV 2 hts gX6_pass_X6_see rfl rfl rfl (by decide +kernel) ⟨Nat.le_of_ble_eq_true rfl, Nat.le_of_ble_eq_true rfl⟩) ⟨pcR_bl, va_recv hK hPc (ci := 6) (q0 := 0) rfl rfl, fun U hU hW => ⟨rfl, by rw [hU], by rw [hU]; exact hPc, va_K.moved hW.alike hK⟩⟩ rfl rfl hl.1 rfl (lv_room (Nat.le_of_ble_eq_true rfl)) dX6_pass_130 ⟨Nat.le_of_ble_eq_true rfl, Nat.le_of_ble_eq_true rfl⟩) hS (fun _ h1 h2 => absurd h1 (Nat.not_lt.mpr h2)) (rd_free hS hA) (fun r_15 u t H locs ht hvm hw hB hz1 hk1 hS => ?_)
                try dsimp only at hw
                have hr_15 := hw
                have hP := rd_P hP hk1
                obtain rfl := hr_15.symm
                refine W.widen (k := 0) (n := 0) (Nat.le_refl _) (Nat.le_refl _) ?_
                refine lv_if_eq (tgt := 171) hx hb dX6_pass_133 (by decide) (fun c_16 => ?_) (fun c_16 => ?_)
                · refine lv_iinc (v := nI (k + 1)) (lv' := [(4, .int (nI (k + 1))), (5, .int (sOn ce (sc k) 6)), (0, .ref (q 0)), (1, .int p1), (2, .int d2), (3, .int (nI i))]) hx hb dX6_pass_171 hl (k := 5) rfl (nI_1 k) (by decide) rfl (fun ls hl => ?_)
                  refine lv_goto (tgt := 57) hx hb dX6_pass_174 (by decide) ?_
                  refine W.widen (k := 0) (n := 0) (Nat.le_refl _) (Nat.le_refl _) ?_
                  exact ih_57 ((k + 1), d2, f2) _ _ _ (by first | omega | (dsimp only; omega)) ⟨hP, hD, hS, lv_sub hl [2, 3, 4, 5, 0] rfl, (by omega), (by rw [pmS, if_pos c_10, if_neg c_13, if_neg c_14, if_pos c_16]; exact hd), (by rw [pmS, if_pos c_10, if_neg c_13, if_neg c_14, if_pos c_16]; exact hf)⟩
                · refine lv_aload_n hx hb dX6_pass_136 rfl (lv_at hl 1 rfl) ?_
                  refine va_get (D := D) (ci := 6) (v := .ref (q 4)) (C := RX6) (T := TX6) (N := 24) hx hb hts hi_X6 hown hK hP 7 rfl rfl 7 (by decide) hf_20 (fun _ h9 => h9) rfl dX6_pass_137 ?_
                  refine lv_iload hx hb dX6_pass_140 (lv_at hl 0 rfl) ?_
                  refine lv_aload_n hx hb dX6_pass_142 rfl (lv_at hl 1 rfl) ?_
                  refine va_get (D := D) (ci := 6) (v := .ref (q 4)) (C := RX6) (T := TX6) (N := 24) hx hb hts hi_X6 hown hK hP 7 rfl rfl 7 (by decide) hf_20 (fun _ h9 => h9) rfl dX6_pass_143 ?_
                  refine lv_iload hx hb dX6_pass_146 (lv_at hl 0 rfl) ?_
                  refine va_iald hx hb hK hP 1 0 rfl rfl (sOn_in 6 (by decide) c_13) dX6_pass_148 ?_
                  refine lv_iconst (v := (-1)) hx hb dX6_pass_149 (by decide) ?_
                  refine lv_icmp_ne (tgt := 160) hx hb dX6_pass_150 (by decide) (fun c_17 => ?_) (fun c_17 => ?_)
                  · refine lv_aload_n hx hb dX6_pass_160 rfl (lv_at hl 1 rfl) ?_
                    refine va_get (D := D) (ci := 6) (v := .ref (q 4)) (C := RX6) (T := TX6) (N := 24) hx hb hts hi_X6 hown hK hP 7 rfl rfl 7 (by decide) hf_20 (fun _ h9 => h9) rfl dX6_pass_161 ?_
                    refine lv_iload hx hb dX6_pass_164 (lv_at hl 0 rfl) ?_
                    refine va_iald hx hb hK hP 1 0 rfl rfl (sOn_in 6 (by decide) c_13) dX6_pass_166 ?_
                    refine va_iast hx hb hK hP hD hS 1 0 rfl rfl (sOn_in 6 (by decide) c_13) dX6_pass_167 (fun H locs hP hD hS => ?_)
                    have hP : va_P D vwCl [((q 3), .inl (cI, 6, .inl ce)), ((q 4), .inl (cI, 6, .inl (upd f2 ((sOn ce (sc k) 6).toNatClampNeg) (f2 (sOn ce (sc k) 6).toNatClampNeg)))), ((q 6), .inl (cI, 100, .inl sa)), ((q 7), .inl (cI, 100, .inl sb)), ((q 8), .inl (cI, 100, .inl sc)), ((q 9), .inl (cI, 100, .inl sd)), ((q 1), .inl (cZ, 144, .inl bk)), ((q 0), .inr (6, [.ref (q 1), .ref (q 2), .int on, .int hm, .int aw, .int (t2 + 1), .ref (q 3), .ref (q 4), .ref (q 5), .int (nI sn), .ref (q 6), .ref (q 7), .ref (q 8), .ref (q 9), .int (nI kn), .ref (q 10), .ref (q 11), .ref (q 12), .ref (q 13), .ref (q 14), .ref (q 15), .ref (q 16), .ref (q 17), .int 0]))] H := hP
                    have hD : va_D A [((q 3), .inl (cI, 6, .inl ce)), ((q 4), .inl (cI, 6, .inl (upd f2 ((sOn ce (sc k) 6).toNatClampNeg) (f2 (sOn ce (sc k) 6).toNatClampNeg)))), ((q 6), .inl (cI, 100, .inl sa)), ((q 7), .inl (cI, 100, .inl sb)), ((q 8), .inl (cI, 100, .inl sc)), ((q 9), .inl (cI, 100, .inl sd)), ((q 1), .inl (cZ, 144, .inl bk)), ((q 0), .inr (6, [.ref (q 1), .ref (q 2), .int on, .int hm, .int aw, .int (t2 + 1), .ref (q 3), .ref (q 4), .ref (q 5), .int (nI sn), .ref (q 6), .ref (q 7), .ref (q 8), .ref (q 9), .int (nI kn), .ref (q 10), .ref (q 11), .ref (q 12), .ref (q 13), .ref (q 14), .ref (q 15), .ref (q 16), .ref (q 17), .int 0]))] := hD
                    refine lv_iinc (v := d2 + 1) (lv' := [(2, .int (d2 + 1)), (5, .int (sOn ce (sc k) 6)), (0, .ref (q 0)), (1, .int p1), (3, .int (nI i)), (4, .int (nI k))]) hx hb dX6_pass_168 hl (k := 3) rfl rfl (by decide) rfl (fun ls hl => ?_)
                    refine lv_iinc (v := nI (k + 1)) (lv' := [(4, .int (nI (k + 1))), (2, .int (d2 + 1)), (5, .int (sOn ce (sc k) 6)), (0, .ref (q 0)), (1, .int p1), (3, .int (nI i))]) hx hb dX6_pass_171 hl (k := 5) rfl (nI_1 k) (by decide) rfl (fun ls hl => ?_)
                    refine lv_goto (tgt := 57) hx hb dX6_pass_174 (by decide) ?_
                    refine W.widen (k := 0) (n := 0) (Nat.le_refl _) (Nat.le_refl _) ?_
                    exact ih_57 ((k + 1), d2 + 1, upd f2 ((sOn ce (sc k) 6).toNatClampNeg) (f2 (sOn ce (sc k) 6).toNatClampNeg)) _ _ _ (by first | omega | (dsimp only; omega)) ⟨hP, hD, hS, lv_sub hl [3, 4, 1, 5, 0] rfl, (by omega), (by rw [pmS, if_pos c_10, if_neg c_13, if_neg c_14, if_neg c_16]; dsimp only; rw [hd]), (by rw [pmS, if_pos c_10, if_neg c_13, if_neg c_14, if_neg c_16]; dsimp only; rw [← hf, if_neg c_17])⟩
                  · refine lv_aload_n hx hb dX6_pass_153 rfl (lv_at hl 1 rfl) ?_
                    refine va_get (D := D) (ci := 6) (v := .int (t2 + 1)) (C := RX6) (T := TX6) (N := 24) hx hb hts hi_X6 hown hK hP 7 rfl rfl 5 (by decide) hf_107 (fun _ h9 => h9) rfl dX6_pass_154 ?_
                    refine lv_goto (tgt := 167) hx hb dX6_pass_157 (by decide) ?_
                    refine va_iast hx hb hK hP hD hS 1 0 rfl rfl (sOn_in 6 (by decide) c_13) dX6_pass_167 (fun H locs hP hD hS => ?_)
                    have hP : va_P D vwCl [((q 3), .inl (cI, 6, .inl ce)), ((q 4), .inl (cI, 6, .inl (upd f2 ((sOn ce (sc k) 6).toNatClampNeg) (t2 + 1)))), ((q 6), .inl (cI, 100, .inl sa)), ((q 7), .inl (cI, 100, .inl sb)), ((q 8), .inl (cI, 100, .inl sc)), ((q 9), .inl (cI, 100, .inl sd)), ((q 1), .inl (cZ, 144, .inl bk)), ((q 0), .inr (6, [.ref (q 1), .ref (q 2), .int on, .int hm, .int aw, .int (t2 + 1), .ref (q 3), .ref (q 4), .ref (q 5), .int (nI sn), .ref (q 6), .ref (q 7), .ref (q 8), .ref (q 9), .int (nI kn), .ref (q 10), .ref (q 11), .ref (q 12), .ref (q 13), .ref (q 14), .ref (q 15), .ref (q 16), .ref (q 17), .int 0]))] H := hP
                    have hD : va_D A [((q 3), .inl (cI, 6, .inl ce)), ((q 4), .inl (cI, 6, .inl (upd f2 ((sOn ce (sc k) 6).toNatClampNeg) (t2 + 1)))), ((q 6), .inl (cI, 100, .inl sa)), ((q 7), .inl (cI, 100, .inl sb)), ((q 8), .inl (cI, 100, .inl sc)), ((q 9), .inl (cI, 100, .inl sd)), ((q 1), .inl (cZ, 144, .inl bk)), ((q 0), .inr (6, [.ref (q 1), .ref (q 2), .int on, .int hm, .int aw, .int (t2 + 1), .ref (q 3), .ref (q 4), .ref (q 5), .int (nI sn), .ref (q 6), .ref (q 7), .ref (q 8), .ref (q 9), .int (nI kn), .ref (q 10), .ref (q 11), .ref (q 12), .ref (q 13), .ref (q 14), .ref (q 15), .ref (q 16), .ref (q 17), .int 0]))] := hD
                    refine lv_iinc (v := d2 + 1) (lv' := [(2, .int (d2 + 1)), (5, .int (sOn ce (sc k) 6)), (0, .ref (q 0)), (1, .int p1), (3, .int (nI i)), (4, .int (nI k))]) hx hb dX6_pass_168 hl (k := 3) rfl rfl (by decide) rfl (fun ls hl => ?_)
                    refine lv_iinc (v := nI (k + 1)) (lv' := [(4, .int (nI (k + 1))), (2, .int (d2 + 1)), (5, .int (sOn ce (sc k) 6)), (0, .ref (q 0)), (1, .int p1), (3, .int (nI i))]) hx hb dX6_pass_171 hl (k := 5) rfl (nI_1 k) (by decide) rfl (fun ls hl => ?_)
                    refine lv_goto (tgt := 57) hx hb dX6_pass_174 (by decide) ?_
                    refine W.widen (k := 0) (n := 0) (Nat.le_refl _) (Nat.le_refl _) ?_
                    exact ih_57 ((k + 1), d2 + 1, upd f2 ((sOn ce (sc k) 6).toNatClampNeg) (t2 + 1)) _ _ _ (by first | omega | (dsimp only; omega)) ⟨hP, hD, hS, lv_sub hl [3, 4, 1, 5, 0] rfl, (by omega), (by rw [pmS, if_pos c_10, if_neg c_13, if_neg c_14, if_neg c_16]; dsimp only; rw [hd]), (by rw [pmS, if_pos c_10, if_neg c_13, if_neg c_14, if_neg c_16]; dsimp only; rw [← hf, if_pos c_17])⟩
  · refine lv_iconst (v := 1) hx hb dX6_pass_11 (by decide) ?_
    refine lv_goto (tgt := 27) hx hb dX6_pass_12 (by decide) ?_
    have hPc := hP.sub (ws' := [((q 0), .inr (6, [.ref (q 1), .ref (q 2), .int on, .int hm, .int aw, .int tk, .ref (q 3), .ref (q 4), .ref (q 5), .int (nI sn), .ref (q 6), .ref (q 7), .ref (q 8), .ref (q 9), .int (nI kn), .ref (q 10), .ref (q 11), .ref (q 12), .ref (q 13), .ref (q 14), .ref (q 15), .ref (q 16), .ref (q 17), .int th]))]) [0] rfl
    have hDc := hD.sub (ws' := [((q 0), .inr (6, [.ref (q 1), .ref (q 2), .int on, .int hm, .int aw, .int tk, .ref (q 3), .ref (q 4), .ref (q 5), .int (nI sn), .ref (q 6), .ref (q 7), .ref (q 8), .ref (q 9), .int (nI kn), .ref (q 10), .ref (q 11), .ref (q 12), .ref (q 13), .ref (q 14), .ref (q 15), .ref (q 16), .ref (q 17), .int th]))]) [0] (by decide) rfl
    have hFc := va_free (wc := [((q 0), .inr (6, [.ref (q 1), .ref (q 2), .int on, .int hm, .int aw, .int tk, .ref (q 3), .ref (q 4), .ref (q 5), .int (nI sn), .ref (q 6), .ref (q 7), .ref (q 8), .ref (q 9), .int (nI kn), .ref (q 10), .ref (q 11), .ref (q 12), .ref (q 13), .ref (q 14), .ref (q 15), .ref (q 16), .ref (q 17), .int th]))]) hD hS hA [0] rfl
    refine va_calli (va_runV (As := [.int 1]) (rest := []) ⟨hx, hb, hml, hown, hts⟩ (c_X6_fails l D cI cZ cJ cA H.size q on hm aw tk sn kn th 1) (cwV 1 hts gX6_pass_X6_fails rfl rfl rfl (by decide +kernel) ⟨Nat.le_of_ble_eq_true rfl, Nat.le_of_ble_eq_true rfl⟩) ⟨pcW_bl, va_recv hK hPc (ci := 6) (q0 := 0) rfl rfl, fun U hU hW => ⟨rfl, by rw [hU], by rw [hU]; exact hPc, va_K.moved hW.alike hK, hDc.weaken (fun _ _ _ _ => trivial)⟩⟩ rfl rfl hl.1 rfl (lv_room (Nat.le_of_ble_eq_true rfl)) dX6_pass_27 ⟨Nat.le_of_ble_eq_true rfl, Nat.le_of_ble_eq_true rfl⟩) hS (fun q _ h => hFc q h) hFc (fun r_18 u t H locs ht hvm hw hB hz1 hk1 hS => ?_)
    try dsimp only at hw
    obtain ⟨u0_18, rfl⟩ : ∃ z, z = u := ⟨_, rfl⟩
    obtain ⟨hr_18, hu0_18⟩ := hw
    obtain ⟨hP1, hK1, hD1⟩ := hB
    rw [ht] at hP1
    obtain ⟨hP, hD⟩ := va_join (wr := [((q 3), .inl (cI, 6, .inl ce)), ((q 4), .inl (cI, 6, .inl hi)), ((q 6), .inl (cI, 100, .inl sa)), ((q 7), .inl (cI, 100, .inl sb)), ((q 8), .inl (cI, 100, .inl sc)), ((q 9), .inl (cI, 100, .inl sd)), ((q 1), .inl (cZ, 144, .inl bk))]) (w1 := [((q 0), .inr (6, [.ref (q 1), .ref (q 2), .int on, .int hm, .int aw, .int tk, .ref (q 3), .ref (q 4), .ref (q 5), .int (nI sn), .ref (q 6), .ref (q 7), .ref (q 8), .ref (q 9), .int (nI kn), .ref (q 10), .ref (q 11), .ref (q 12), .ref (q 13), .ref (q 14), .ref (q 15), .ref (q 16), .ref (q 17), .int u0_18]))]) hP hD [0] [1, 2, 3, 4, 5, 6, 7] rfl rfl (by decide) (by decide) hk1 hFc hP1 hD1
    obtain rfl := hu0_18.symm
    have hP : va_P D vwCl [((q 3), .inl (cI, 6, .inl ce)), ((q 4), .inl (cI, 6, .inl hi)), ((q 6), .inl (cI, 100, .inl sa)), ((q 7), .inl (cI, 100, .inl sb)), ((q 8), .inl (cI, 100, .inl sc)), ((q 9), .inl (cI, 100, .inl sd)), ((q 1), .inl (cZ, 144, .inl bk)), ((q 0), .inr (6, [.ref (q 1), .ref (q 2), .int on, .int hm, .int aw, .int tk, .ref (q 3), .ref (q 4), .ref (q 5), .int (nI sn), .ref (q 6), .ref (q 7), .ref (q 8), .ref (q 9), .int (nI kn), .ref (q 10), .ref (q 11), .ref (q 12), .ref (q 13), .ref (q 14), .ref (q 15), .ref (q 16), .ref (q 17), .int 1]))] H := hP
    have hD : va_D A [((q 3), .inl (cI, 6, .inl ce)), ((q 4), .inl (cI, 6, .inl hi)), ((q 6), .inl (cI, 100, .inl sa)), ((q 7), .inl (cI, 100, .inl sb)), ((q 8), .inl (cI, 100, .inl sc)), ((q 9), .inl (cI, 100, .inl sd)), ((q 1), .inl (cZ, 144, .inl bk)), ((q 0), .inr (6, [.ref (q 1), .ref (q 2), .int on, .int hm, .int aw, .int tk, .ref (q 3), .ref (q 4), .ref (q 5), .int (nI sn), .ref (q 6), .ref (q 7), .ref (q 8), .ref (q 9), .int (nI kn), .ref (q 10), .ref (q 11), .ref (q 12), .ref (q 13), .ref (q 14), .ref (q 15), .ref (q 16), .ref (q 17), .int 1]))] := hD
    obtain rfl := hr_18.symm
    refine W.widen (k := 0) (n := 0) (Nat.le_refl _) (Nat.le_refl _) ?_
    refine tp_eq (y := 1) rfl ?_
    refine lv_if_eq (tgt := 35) hx hb dX6_pass_30 (by decide) (fun c_19 => absurd c_19 (by decide)) (fun _ => ?_)
    refine lv_iconst (v := 0) hx hb dX6_pass_33 (by decide) ?_
    have hP9 := hP.sub (ws' := [((q 0), .inr (6, [.ref (q 1), .ref (q 2), .int on, .int hm, .int aw, .int tk, .ref (q 3), .ref (q 4), .ref (q 5), .int (nI sn), .ref (q 6), .ref (q 7), .ref (q 8), .ref (q 9), .int (nI kn), .ref (q 10), .ref (q 11), .ref (q 12), .ref (q 13), .ref (q 14), .ref (q 15), .ref (q 16), .ref (q 17), .int 1])), ((q 3), .inl (cI, 6, .inl ce)), ((q 4), .inl (cI, 6, .inl hi)), ((q 6), .inl (cI, 100, .inl sa)), ((q 7), .inl (cI, 100, .inl sb)), ((q 8), .inl (cI, 100, .inl sc)), ((q 9), .inl (cI, 100, .inl sd)), ((q 1), .inl (cZ, 144, .inl bk))]) [7, 0, 1, 2, 3, 4, 5, 6] rfl
    have hD9 := hD.sub (ws' := [((q 0), .inr (6, [.ref (q 1), .ref (q 2), .int on, .int hm, .int aw, .int tk, .ref (q 3), .ref (q 4), .ref (q 5), .int (nI sn), .ref (q 6), .ref (q 7), .ref (q 8), .ref (q 9), .int (nI kn), .ref (q 10), .ref (q 11), .ref (q 12), .ref (q 13), .ref (q 14), .ref (q 15), .ref (q 16), .ref (q 17), .int 1])), ((q 3), .inl (cI, 6, .inl ce)), ((q 4), .inl (cI, 6, .inl hi)), ((q 6), .inl (cI, 100, .inl sa)), ((q 7), .inl (cI, 100, .inl sb)), ((q 8), .inl (cI, 100, .inl sc)), ((q 9), .inl (cI, 100, .inl sd)), ((q 1), .inl (cZ, 144, .inl bk))]) [7, 0, 1, 2, 3, 4, 5, 6] (by decide) rfl
    -- leaf 2
    refine W.widen (k := 0) (n := 0) (Nat.le_refl _) (Nat.le_refl _) ?_
    exact W.iret (v := 0) hx hb hr (fun t ht hW => ⟨⟨0, (tk, hi, 1), rfl, ⟨(by rw [f_X6_pass, if_pos c_2]), (by rw [g_tk_X6_pass, if_pos c_2]), (by rw [g_hi_X6_pass, if_pos c_2]), (by rw [g_th_X6_pass, if_pos c_2])⟩, by rw [ht]; exact hP9, va_K.moved hW.alike hK, hD9⟩, hS.F ht⟩) hS.2.2 dX6_pass_34

noncomputable def f_X6_call (rf : Nat → Int32) (bk : Nat → Int32) (on : Int32) (hm : Int32) (aw : Int32) (tk : Int32) (ce : Nat → Int32) (sn : Nat) (kn : Nat) (ka : Nat → Int32) (kb : Nat → Int32) (kc : Nat → Int32) (kd : Nat → Int32) (th : Int32) (p1 : Int32) (p2 : Int32) : Int32 := if (f_X6_isIn p1 0 1) = 0 then 0 else (if (f_X6_isIn p2 0 5) = 0 then 0 else (if on = 0 then 0 else (if (ce p2.toNatClampNeg) < 0 then 0 else (if (seeN bk (rf p1.toNatClampNeg) (ce p2.toNatClampNeg) 144) = 0 then 0 else nI kn))))
noncomputable def g_ce_X6_call (rf : Nat → Int32) (bk : Nat → Int32) (on : Int32) (hm : Int32) (aw : Int32) (tk : Int32) (ce : Nat → Int32) (sn : Nat) (kn : Nat) (ka : Nat → Int32) (kb : Nat → Int32) (kc : Nat → Int32) (kd : Nat → Int32) (th : Int32) (p1 : Int32) (p2 : Int32) : Nat → Int32 := if (f_X6_isIn p1 0 1) = 0 then ce else (if (f_X6_isIn p2 0 5) = 0 then ce else (if on = 0 then ce else (if (ce p2.toNatClampNeg) < 0 then ce else (if (seeN bk (rf p1.toNatClampNeg) (ce p2.toNatClampNeg) 144) = 0 then ce else upd ce p2.toNatClampNeg (-2)))))
noncomputable def g_kn_X6_call (rf : Nat → Int32) (bk : Nat → Int32) (on : Int32) (hm : Int32) (aw : Int32) (tk : Int32) (ce : Nat → Int32) (sn : Nat) (kn : Nat) (ka : Nat → Int32) (kb : Nat → Int32) (kc : Nat → Int32) (kd : Nat → Int32) (th : Int32) (p1 : Int32) (p2 : Int32) : Nat := if (f_X6_isIn p1 0 1) = 0 then kn else (if (f_X6_isIn p2 0 5) = 0 then kn else (if on = 0 then kn else (if (ce p2.toNatClampNeg) < 0 then kn else (if (seeN bk (rf p1.toNatClampNeg) (ce p2.toNatClampNeg) 144) = 0 then kn else (kn + 1)))))
noncomputable def g_ka_X6_call (rf : Nat → Int32) (bk : Nat → Int32) (on : Int32) (hm : Int32) (aw : Int32) (tk : Int32) (ce : Nat → Int32) (sn : Nat) (kn : Nat) (ka : Nat → Int32) (kb : Nat → Int32) (kc : Nat → Int32) (kd : Nat → Int32) (th : Int32) (p1 : Int32) (p2 : Int32) : Nat → Int32 := if (f_X6_isIn p1 0 1) = 0 then ka else (if (f_X6_isIn p2 0 5) = 0 then ka else (if on = 0 then ka else (if (ce p2.toNatClampNeg) < 0 then ka else (if (seeN bk (rf p1.toNatClampNeg) (ce p2.toNatClampNeg) 144) = 0 then ka else upd ka kn p2))))
noncomputable def g_kb_X6_call (rf : Nat → Int32) (bk : Nat → Int32) (on : Int32) (hm : Int32) (aw : Int32) (tk : Int32) (ce : Nat → Int32) (sn : Nat) (kn : Nat) (ka : Nat → Int32) (kb : Nat → Int32) (kc : Nat → Int32) (kd : Nat → Int32) (th : Int32) (p1 : Int32) (p2 : Int32) : Nat → Int32 := if (f_X6_isIn p1 0 1) = 0 then kb else (if (f_X6_isIn p2 0 5) = 0 then kb else (if on = 0 then kb else (if (ce p2.toNatClampNeg) < 0 then kb else (if (seeN bk (rf p1.toNatClampNeg) (ce p2.toNatClampNeg) 144) = 0 then kb else upd kb kn (ce p2.toNatClampNeg)))))
noncomputable def g_kc_X6_call (rf : Nat → Int32) (bk : Nat → Int32) (on : Int32) (hm : Int32) (aw : Int32) (tk : Int32) (ce : Nat → Int32) (sn : Nat) (kn : Nat) (ka : Nat → Int32) (kb : Nat → Int32) (kc : Nat → Int32) (kd : Nat → Int32) (th : Int32) (p1 : Int32) (p2 : Int32) : Nat → Int32 := if (f_X6_isIn p1 0 1) = 0 then kc else (if (f_X6_isIn p2 0 5) = 0 then kc else (if on = 0 then kc else (if (ce p2.toNatClampNeg) < 0 then kc else (if (seeN bk (rf p1.toNatClampNeg) (ce p2.toNatClampNeg) 144) = 0 then kc else upd kc kn tk))))
noncomputable def g_kd_X6_call (rf : Nat → Int32) (bk : Nat → Int32) (on : Int32) (hm : Int32) (aw : Int32) (tk : Int32) (ce : Nat → Int32) (sn : Nat) (kn : Nat) (ka : Nat → Int32) (kb : Nat → Int32) (kc : Nat → Int32) (kd : Nat → Int32) (th : Int32) (p1 : Int32) (p2 : Int32) : Nat → Int32 := if (f_X6_isIn p1 0 1) = 0 then kd else (if (f_X6_isIn p2 0 5) = 0 then kd else (if on = 0 then kd else (if (ce p2.toNatClampNeg) < 0 then kd else (if (seeN bk (rf p1.toNatClampNeg) (ce p2.toNatClampNeg) 144) = 0 then kd else upd kd kn 0))))
noncomputable def g_th_X6_call (rf : Nat → Int32) (bk : Nat → Int32) (on : Int32) (hm : Int32) (aw : Int32) (tk : Int32) (ce : Nat → Int32) (sn : Nat) (kn : Nat) (ka : Nat → Int32) (kb : Nat → Int32) (kc : Nat → Int32) (kd : Nat → Int32) (th : Int32) (p1 : Int32) (p2 : Int32) : Int32 := if (f_X6_isIn p1 0 1) = 0 then 1 else (if (f_X6_isIn p2 0 5) = 0 then 1 else (if on = 0 then 2 else (if (ce p2.toNatClampNeg) < 0 then 2 else (if (seeN bk (rf p1.toNatClampNeg) (ce p2.toNatClampNeg) 144) = 0 then 2 else 0))))
set_option maxHeartbeats 4000000 in
set_option maxRecDepth 100000 in
theorem c_X6_call (l : Launch) (D : va_G) (cI cZ cJ cA : ClassId) (sz : Nat) (q : Nat → Nat) (rf : Nat → Int32) (bk : Nat → Int32) (on : Int32) (hm : Int32) (aw : Int32) (tk : Int32) (ce : Nat → Int32) (sn : Nat) (kn : Nat) (ka : Nat → Int32) (kb : Nat → Int32) (kc : Nat → Int32) (kd : Nat → Int32) (th : Int32) (p1 : Int32) (p2 : Int32) (hkn : kn < 4096) : Met l yX6_call wsX6_call ({ frames := 4, cells := 0, slots := 0, locals := 94 } : Room) (va_Pc [.ref (q 0), .int p1, .int p2] (pcW D (tyL cI cZ cJ cA) [((q 0), .inr (6, [.ref (q 1), .ref (q 2), .int on, .int hm, .int aw, .int tk, .ref (q 3), .ref (q 4), .ref (q 5), .int (nI sn), .ref (q 6), .ref (q 7), .ref (q 8), .ref (q 9), .int (nI kn), .ref (q 10), .ref (q 11), .ref (q 12), .ref (q 13), .ref (q 14), .ref (q 15), .ref (q 16), .ref (q 17), .int th])), ((q 2), .inl (cI, 2, .inl rf)), ((q 3), .inl (cI, 6, .inl ce)), ((q 1), .inl (cZ, 144, .inl bk)), ((q 10), .inl (cI, 4096, .inl ka)), ((q 11), .inl (cI, 4096, .inl kc)), ((q 12), .inl (cI, 4096, .inl kb)), ((q 13), .inl (cZ, 4096, .inl kd))] sz)) (va_Qi (fun (r : Int32) (u : (Nat → Int32) × (Nat) × (Nat → Int32) × (Nat → Int32) × (Nat → Int32) × (Nat → Int32) × (Int32)) => r = f_X6_call rf bk on hm aw tk ce sn kn ka kb kc kd th p1 p2 ∧ u.1 = g_ce_X6_call rf bk on hm aw tk ce sn kn ka kb kc kd th p1 p2 ∧ u.2.1 = g_kn_X6_call rf bk on hm aw tk ce sn kn ka kb kc kd th p1 p2 ∧ u.2.2.1 = g_ka_X6_call rf bk on hm aw tk ce sn kn ka kb kc kd th p1 p2 ∧ u.2.2.2.1 = g_kb_X6_call rf bk on hm aw tk ce sn kn ka kb kc kd th p1 p2 ∧ u.2.2.2.2.1 = g_kc_X6_call rf bk on hm aw tk ce sn kn ka kb kc kd th p1 p2 ∧ u.2.2.2.2.2.1 = g_kd_X6_call rf bk on hm aw tk ce sn kn ka kb kc kd th p1 p2 ∧ u.2.2.2.2.2.2 = g_th_X6_call rf bk on hm aw tk ce sn kn ka kb kc kd th p1 p2) (fun u t => bcW D (tyL cI cZ cJ cA) (va_A [((q 0), .inr (6, [.ref (q 1), .ref (q 2), .int on, .int hm, .int aw, .int tk, .ref (q 3), .ref (q 4), .ref (q 5), .int (nI sn), .ref (q 6), .ref (q 7), .ref (q 8), .ref (q 9), .int (nI kn), .ref (q 10), .ref (q 11), .ref (q 12), .ref (q 13), .ref (q 14), .ref (q 15), .ref (q 16), .ref (q 17), .int th])), ((q 2), .inl (cI, 2, .inl rf)), ((q 3), .inl (cI, 6, .inl ce)), ((q 1), .inl (cZ, 144, .inl bk)), ((q 10), .inl (cI, 4096, .inl ka)), ((q 11), .inl (cI, 4096, .inl kc)), ((q 12), .inl (cI, 4096, .inl kb)), ((q 13), .inl (cZ, 4096, .inl kd))] sz) [((q 0), .inr (6, [.ref (q 1), .ref (q 2), .int on, .int hm, .int aw, .int tk, .ref (q 3), .ref (q 4), .ref (q 5), .int (nI sn), .ref (q 6), .ref (q 7), .ref (q 8), .ref (q 9), .int (nI u.2.1), .ref (q 10), .ref (q 11), .ref (q 12), .ref (q 13), .ref (q 14), .ref (q 15), .ref (q 16), .ref (q 17), .int u.2.2.2.2.2.2])), ((q 2), .inl (cI, 2, .inl rf)), ((q 3), .inl (cI, 6, .inl u.1)), ((q 1), .inl (cZ, 144, .inl bk)), ((q 10), .inl (cI, 4096, .inl u.2.2.1)), ((q 11), .inl (cI, 4096, .inl u.2.2.2.2.1)), ((q 12), .inl (cI, 4096, .inl u.2.2.2.1)), ((q 13), .inl (cZ, 4096, .inl u.2.2.2.2.2.1))] t) (va_A [((q 0), .inr (6, [.ref (q 1), .ref (q 2), .int on, .int hm, .int aw, .int tk, .ref (q 3), .ref (q 4), .ref (q 5), .int (nI sn), .ref (q 6), .ref (q 7), .ref (q 8), .ref (q 9), .int (nI kn), .ref (q 10), .ref (q 11), .ref (q 12), .ref (q 13), .ref (q 14), .ref (q 15), .ref (q 16), .ref (q 17), .int th])), ((q 2), .inl (cI, 2, .inl rf)), ((q 3), .inl (cI, 6, .inl ce)), ((q 1), .inl (cZ, 144, .inl bk)), ((q 10), .inl (cI, 4096, .inl ka)), ((q 11), .inl (cI, 4096, .inl kc)), ((q 12), .inl (cI, 4096, .inl kb)), ((q 13), .inl (cZ, 4096, .inl kd))] sz)) 0 0 (va_A [((q 0), .inr (6, [.ref (q 1), .ref (q 2), .int on, .int hm, .int aw, .int tk, .ref (q 3), .ref (q 4), .ref (q 5), .int (nI sn), .ref (q 6), .ref (q 7), .ref (q 8), .ref (q 9), .int (nI kn), .ref (q 10), .ref (q 11), .ref (q 12), .ref (q 13), .ref (q 14), .ref (q 15), .ref (q 16), .ref (q 17), .int th])), ((q 2), .inl (cI, 2, .inl rf)), ((q 3), .inl (cI, 6, .inl ce)), ((q 1), .inl (cZ, 144, .inl bk)), ((q 10), .inl (cI, 4096, .inl ka)), ((q 11), .inl (cI, 4096, .inl kc)), ((q 12), .inl (cI, 4096, .inl kb)), ((q 13), .inl (cZ, 4096, .inl kd))] sz) := by
  refine Met.ofW (cc := cX6_call) (maxL := 5) (ret := (some .int)) (by decide) rfl ?_
  intro p e s m args below meth c s₁ B hml hv
  obtain ⟨rfl, hsz, hP, hK, hD0⟩ := hv
  have hx := B.exec
  have hb := B.bytes
  have hr := B.returns
  have hts := atoms_spec (ws := wsX6_call) B.pre
  have hown : s.vm.findClass RX6 = some m.cls := findClass_of_methodNamed B.named
  have hlocks := B.notSynchronized
  subst hsz
  have hD := hD0.self (sz := s.heap.size)
  generalize hAe : va_A [((q 0), .inr (6, [.ref (q 1), .ref (q 2), .int on, .int hm, .int aw, .int tk, .ref (q 3), .ref (q 4), .ref (q 5), .int (nI sn), .ref (q 6), .ref (q 7), .ref (q 8), .ref (q 9), .int (nI kn), .ref (q 10), .ref (q 11), .ref (q 12), .ref (q 13), .ref (q 14), .ref (q 15), .ref (q 16), .ref (q 17), .int th])), ((q 2), .inl (cI, 2, .inl rf)), ((q 3), .inl (cI, 6, .inl ce)), ((q 1), .inl (cZ, 144, .inl bk)), ((q 10), .inl (cI, 4096, .inl ka)), ((q 11), .inl (cI, 4096, .inl kc)), ((q 12), .inl (cI, 4096, .inl kb)), ((q 13), .inl (cZ, 4096, .inl kd))] s.heap.size = A at hD ⊢
  have hA : ∀ q : Nat, s.heap.size ≤ q → A q := fun q h => by rw [← hAe]; exact Or.inr h
  have hAR : ∀ q : Nat, s.heap.size ≤ q → (fun q : Nat => s.heap.size ≤ q) q := fun _ h => h
  have hS : va_S A s.heap s.heap [] := va_S.rf
  have hP : va_P D vwCl [((q 0), .inr (6, [.ref (q 1), .ref (q 2), .int on, .int hm, .int aw, .int tk, .ref (q 3), .ref (q 4), .ref (q 5), .int (nI sn), .ref (q 6), .ref (q 7), .ref (q 8), .ref (q 9), .int (nI kn), .ref (q 10), .ref (q 11), .ref (q 12), .ref (q 13), .ref (q 14), .ref (q 15), .ref (q 16), .ref (q 17), .int th])), ((q 2), .inl (cI, 2, .inl rf)), ((q 3), .inl (cI, 6, .inl ce)), ((q 1), .inl (cZ, 144, .inl bk)), ((q 10), .inl (cI, 4096, .inl ka)), ((q 11), .inl (cI, 4096, .inl kc)), ((q 12), .inl (cI, 4096, .inl kb)), ((q 13), .inl (cZ, 4096, .inl kd))] s.heap := hP
  have hl := lv_entry ([.ref (q 0), .int p1, .int p2]) (n := 5) (Nat.le_of_ble_eq_true rfl)
  rw [lg_entry_eq]
  generalize (lg_sl ([.ref (q 0), .int p1, .int p2]) ++ List.replicate (5 - (lg_sl ([.ref (q 0), .int p1, .int p2])).length) Slot.unset).toArray = ls at hl ⊢
  have hl : lv_has ls 5 [(0, .ref (q 0)), (1, .int p1), (2, .int p2)] := hl
  have hf_84 := hts (.fieldLink RX6 84 "PaintballAtlasModel" "isOn" "Z") (by decide +kernel)
  have hi_X6 : ∀ w ∈ wsX60, w ∈ wsX6_call := by decide +kernel
  have hf_17 := hts (.fieldLink RX6 17 "PaintballAtlasModel" "where" "[I") (by decide +kernel)
  have hf_13 := hts (.fieldLink RX6 13 "PaintballAtlasModel" "referee" "[I") (by decide +kernel)
  have hf_38 := hts (.fieldLink RX6 38 "PaintballAtlasModel" "called" "[I") (by decide +kernel)
  have hf_113 := hts (.fieldLink RX6 113 "PaintballAtlasModel" "calls" "I") (by decide +kernel)
  have hf_41 := hts (.fieldLink RX6 41 "PaintballAtlasModel" "calledAt" "[I") (by decide +kernel)
  have hf_107 := hts (.fieldLink RX6 107 "PaintballAtlasModel" "tick" "I") (by decide +kernel)
  have hf_44 := hts (.fieldLink RX6 44 "PaintballAtlasModel" "calledOn" "[I") (by decide +kernel)
  have hf_47 := hts (.fieldLink RX6 47 "PaintballAtlasModel" "isDisputed" "[Z") (by decide +kernel)
  refine lv_iload_n hx hb dX6_call_0 rfl (lv_at hl 1 rfl) ?_
  have hPc := hP.sub (ws' := []) [] rfl
  refine va_calli (va_runS (As := [.int p1]) (rest := []) ⟨hx, hb, hml, hown, hts⟩ (c_X6_isReferee l D cI cZ cJ cA s.heap.size p1) (va_cwS 1 hts gX6_call_X6_isReferee rfl rfl rfl (by decide +kernel) ⟨Nat.le_of_ble_eq_true rfl, Nat.le_of_ble_eq_true rfl⟩) ⟨pcR_bl, fun U hU hW => ⟨rfl, by rw [hU], by rw [hU]; exact hPc, va_K.moved hW.alike hK⟩⟩ rfl rfl hl.1 rfl (lv_room (Nat.le_of_ble_eq_true rfl)) dX6_call_1 ⟨Nat.le_of_ble_eq_true rfl, Nat.le_of_ble_eq_true rfl⟩) hS (fun _ h1 h2 => absurd h1 (Nat.not_lt.mpr h2)) (rd_free hS hA) (fun r_1 u t H locs ht hvm hw hB hz1 hk1 hS => ?_)
  try dsimp only at hw
  have hr_1 := hw
  have hP := rd_P hP hk1
  obtain rfl := hr_1.symm
  refine W.widen (k := 0) (n := 0) (Nat.le_refl _) (Nat.le_refl _) ?_
  refine lv_if_eq (tgt := 18) hx hb dX6_call_4 (by decide) (fun c_2 => ?_) (fun c_2 => ?_)
  · refine lv_iconst (v := 0) hx hb dX6_call_18 (by decide) ?_
    refine lv_istore_n (lv' := [(3, .int 0), (0, .ref (q 0)), (1, .int p1), (2, .int p2)]) hx hb dX6_call_19 rfl hl (by decide) rfl (fun ls hl => ?_)
    refine lv_iload_n hx hb dX6_call_20 rfl (lv_at hl 0 rfl) ?_
    refine lv_if_eq (tgt := 63) hx hb dX6_call_21 (by decide) (fun _ => ?_) (fun c_3 => absurd (by decide) c_3)
    refine lv_iconst (v := 0) hx hb dX6_call_63 (by decide) ?_
    refine lv_istore (lv' := [(4, .int 0), (3, .int 0), (0, .ref (q 0)), (1, .int p1), (2, .int p2)]) hx hb dX6_call_64 hl (by decide) rfl (fun ls hl => ?_)
    refine lv_aload_n hx hb dX6_call_66 rfl (lv_at hl 2 rfl) ?_
    refine lv_iload_n hx hb dX6_call_67 rfl (lv_at hl 1 rfl) ?_
    refine lv_if_ne (tgt := 75) hx hb dX6_call_68 (by decide) (fun c_4 => absurd (by decide) c_4) (fun _ => ?_)
    refine lv_iconst (v := 1) hx hb dX6_call_71 (by decide) ?_
    refine lv_goto (tgt := 85) hx hb dX6_call_72 (by decide) ?_
    have hPc := hP.sub (ws' := [((q 0), .inr (6, [.ref (q 1), .ref (q 2), .int on, .int hm, .int aw, .int tk, .ref (q 3), .ref (q 4), .ref (q 5), .int (nI sn), .ref (q 6), .ref (q 7), .ref (q 8), .ref (q 9), .int (nI kn), .ref (q 10), .ref (q 11), .ref (q 12), .ref (q 13), .ref (q 14), .ref (q 15), .ref (q 16), .ref (q 17), .int th]))]) [0] rfl
    have hDc := hD.sub (ws' := [((q 0), .inr (6, [.ref (q 1), .ref (q 2), .int on, .int hm, .int aw, .int tk, .ref (q 3), .ref (q 4), .ref (q 5), .int (nI sn), .ref (q 6), .ref (q 7), .ref (q 8), .ref (q 9), .int (nI kn), .ref (q 10), .ref (q 11), .ref (q 12), .ref (q 13), .ref (q 14), .ref (q 15), .ref (q 16), .ref (q 17), .int th]))]) [0] (by decide) rfl
    have hFc := va_free (wc := [((q 0), .inr (6, [.ref (q 1), .ref (q 2), .int on, .int hm, .int aw, .int tk, .ref (q 3), .ref (q 4), .ref (q 5), .int (nI sn), .ref (q 6), .ref (q 7), .ref (q 8), .ref (q 9), .int (nI kn), .ref (q 10), .ref (q 11), .ref (q 12), .ref (q 13), .ref (q 14), .ref (q 15), .ref (q 16), .ref (q 17), .int th]))]) hD hS hA [0] rfl
    refine va_calli (va_runV (As := [.int 1]) (rest := []) ⟨hx, hb, hml, hown, hts⟩ (c_X6_fails l D cI cZ cJ cA H.size q on hm aw tk sn kn th 1) (cwV 1 hts gX6_call_X6_fails rfl rfl rfl (by decide +kernel) ⟨Nat.le_of_ble_eq_true rfl, Nat.le_of_ble_eq_true rfl⟩) ⟨pcW_bl, va_recv hK hPc (ci := 6) (q0 := 0) rfl rfl, fun U hU hW => ⟨rfl, by rw [hU], by rw [hU]; exact hPc, va_K.moved hW.alike hK, hDc.weaken (fun _ _ _ _ => trivial)⟩⟩ rfl rfl hl.1 rfl (lv_room (Nat.le_of_ble_eq_true rfl)) dX6_call_85 ⟨Nat.le_of_ble_eq_true rfl, Nat.le_of_ble_eq_true rfl⟩) hS (fun q _ h => hFc q h) hFc (fun r_5 u t H locs ht hvm hw hB hz1 hk1 hS => ?_)
    try dsimp only at hw
    obtain ⟨u0_5, rfl⟩ : ∃ z, z = u := ⟨_, rfl⟩
    obtain ⟨hr_5, hu0_5⟩ := hw
    obtain ⟨hP1, hK1, hD1⟩ := hB
    rw [ht] at hP1
    obtain ⟨hP, hD⟩ := va_join (wr := [((q 2), .inl (cI, 2, .inl rf)), ((q 3), .inl (cI, 6, .inl ce)), ((q 1), .inl (cZ, 144, .inl bk)), ((q 10), .inl (cI, 4096, .inl ka)), ((q 11), .inl (cI, 4096, .inl kc)), ((q 12), .inl (cI, 4096, .inl kb)), ((q 13), .inl (cZ, 4096, .inl kd))]) (w1 := [((q 0), .inr (6, [.ref (q 1), .ref (q 2), .int on, .int hm, .int aw, .int tk, .ref (q 3), .ref (q 4), .ref (q 5), .int (nI sn), .ref (q 6), .ref (q 7), .ref (q 8), .ref (q 9), .int (nI kn), .ref (q 10), .ref (q 11), .ref (q 12), .ref (q 13), .ref (q 14), .ref (q 15), .ref (q 16), .ref (q 17), .int u0_5]))]) hP hD [0] [1, 2, 3, 4, 5, 6, 7] rfl rfl (by decide) (by decide) hk1 hFc hP1 hD1
    obtain rfl := hu0_5.symm
    have hP : va_P D vwCl [((q 2), .inl (cI, 2, .inl rf)), ((q 3), .inl (cI, 6, .inl ce)), ((q 1), .inl (cZ, 144, .inl bk)), ((q 10), .inl (cI, 4096, .inl ka)), ((q 11), .inl (cI, 4096, .inl kc)), ((q 12), .inl (cI, 4096, .inl kb)), ((q 13), .inl (cZ, 4096, .inl kd)), ((q 0), .inr (6, [.ref (q 1), .ref (q 2), .int on, .int hm, .int aw, .int tk, .ref (q 3), .ref (q 4), .ref (q 5), .int (nI sn), .ref (q 6), .ref (q 7), .ref (q 8), .ref (q 9), .int (nI kn), .ref (q 10), .ref (q 11), .ref (q 12), .ref (q 13), .ref (q 14), .ref (q 15), .ref (q 16), .ref (q 17), .int 1]))] H := hP
    have hD : va_D A [((q 2), .inl (cI, 2, .inl rf)), ((q 3), .inl (cI, 6, .inl ce)), ((q 1), .inl (cZ, 144, .inl bk)), ((q 10), .inl (cI, 4096, .inl ka)), ((q 11), .inl (cI, 4096, .inl kc)), ((q 12), .inl (cI, 4096, .inl kb)), ((q 13), .inl (cZ, 4096, .inl kd)), ((q 0), .inr (6, [.ref (q 1), .ref (q 2), .int on, .int hm, .int aw, .int tk, .ref (q 3), .ref (q 4), .ref (q 5), .int (nI sn), .ref (q 6), .ref (q 7), .ref (q 8), .ref (q 9), .int (nI kn), .ref (q 10), .ref (q 11), .ref (q 12), .ref (q 13), .ref (q 14), .ref (q 15), .ref (q 16), .ref (q 17), .int 1]))] := hD
    obtain rfl := hr_5.symm
    refine W.widen (k := 0) (n := 0) (Nat.le_refl _) (Nat.le_refl _) ?_
    refine tp_eq (y := 1) rfl ?_
    refine lv_if_eq (tgt := 93) hx hb dX6_call_88 (by decide) (fun c_6 => absurd c_6 (by decide)) (fun _ => ?_)
    refine lv_iconst (v := 0) hx hb dX6_call_91 (by decide) ?_
    have hP9 := hP.sub (ws' := [((q 0), .inr (6, [.ref (q 1), .ref (q 2), .int on, .int hm, .int aw, .int tk, .ref (q 3), .ref (q 4), .ref (q 5), .int (nI sn), .ref (q 6), .ref (q 7), .ref (q 8), .ref (q 9), .int (nI kn), .ref (q 10), .ref (q 11), .ref (q 12), .ref (q 13), .ref (q 14), .ref (q 15), .ref (q 16), .ref (q 17), .int 1])), ((q 2), .inl (cI, 2, .inl rf)), ((q 3), .inl (cI, 6, .inl ce)), ((q 1), .inl (cZ, 144, .inl bk)), ((q 10), .inl (cI, 4096, .inl ka)), ((q 11), .inl (cI, 4096, .inl kc)), ((q 12), .inl (cI, 4096, .inl kb)), ((q 13), .inl (cZ, 4096, .inl kd))]) [7, 0, 1, 2, 3, 4, 5, 6] rfl
    have hD9 := hD.sub (ws' := [((q 0), .inr (6, [.ref (q 1), .ref (q 2), .int on, .int hm, .int aw, .int tk, .ref (q 3), .ref (q 4), .ref (q 5), .int (nI sn), .ref (q 6), .ref (q 7), .ref (q 8), .ref (q 9), .int (nI kn), .ref (q 10), .ref (q 11), .ref (q 12), .ref (q 13), .ref (q 14), .ref (q 15), .ref (q 16), .ref (q 17), .int 1])), ((q 2), .inl (cI, 2, .inl rf)), ((q 3), .inl (cI, 6, .inl ce)), ((q 1), .inl (cZ, 144, .inl bk)), ((q 10), .inl (cI, 4096, .inl ka)), ((q 11), .inl (cI, 4096, .inl kc)), ((q 12), .inl (cI, 4096, .inl kb)), ((q 13), .inl (cZ, 4096, .inl kd))]) [7, 0, 1, 2, 3, 4, 5, 6] (by decide) rfl
    -- leaf 0
    refine W.widen (k := 0) (n := 0) (Nat.le_refl _) (Nat.le_refl _) ?_
    exact W.iret (v := 0) hx hb hr (fun t ht hW => ⟨⟨0, (ce, kn, ka, kb, kc, kd, 1), rfl, ⟨(by rw [f_X6_call, if_pos c_2]), (by rw [g_ce_X6_call, if_pos c_2]), (by rw [g_kn_X6_call, if_pos c_2]), (by rw [g_ka_X6_call, if_pos c_2]), (by rw [g_kb_X6_call, if_pos c_2]), (by rw [g_kc_X6_call, if_pos c_2]), (by rw [g_kd_X6_call, if_pos c_2]), (by rw [g_th_X6_call, if_pos c_2])⟩, by rw [ht]; exact hP9, va_K.moved hW.alike hK, hD9⟩, hS.F ht⟩) hS.2.2 dX6_call_92
  · have hvc_2 : vp_in p1 2 := isIn_vp (N := 2) c_2
    refine lv_iload_n hx hb dX6_call_7 rfl (lv_at hl 2 rfl) ?_
    have hPc := hP.sub (ws' := []) [] rfl
    refine va_calli (va_runS (As := [.int p2]) (rest := []) ⟨hx, hb, hml, hown, hts⟩ (c_X6_isPlayer l D cI cZ cJ cA H.size p2) (va_cwS 1 hts gX6_call_X6_isPlayer rfl rfl rfl (by decide +kernel) ⟨Nat.le_of_ble_eq_true rfl, Nat.le_of_ble_eq_true rfl⟩) ⟨pcR_bl, fun U hU hW => ⟨rfl, by rw [hU], by rw [hU]; exact hPc, va_K.moved hW.alike hK⟩⟩ rfl rfl hl.1 rfl (lv_room (Nat.le_of_ble_eq_true rfl)) dX6_call_8 ⟨Nat.le_of_ble_eq_true rfl, Nat.le_of_ble_eq_true rfl⟩) hS (fun _ h1 h2 => absurd h1 (Nat.not_lt.mpr h2)) (rd_free hS hA) (fun r_7 u t H locs ht hvm hw hB hz1 hk1 hS => ?_)
    try dsimp only at hw
    have hr_7 := hw
    have hP := rd_P hP hk1
    obtain rfl := hr_7.symm
    refine W.widen (k := 0) (n := 0) (Nat.le_refl _) (Nat.le_refl _) ?_
    refine lv_if_eq (tgt := 18) hx hb dX6_call_11 (by decide) (fun c_8 => ?_) (fun c_8 => ?_)
    · refine lv_iconst (v := 0) hx hb dX6_call_18 (by decide) ?_
      refine lv_istore_n (lv' := [(3, .int 0), (0, .ref (q 0)), (1, .int p1), (2, .int p2)]) hx hb dX6_call_19 rfl hl (by decide) rfl (fun ls hl => ?_)
      refine lv_iload_n hx hb dX6_call_20 rfl (lv_at hl 0 rfl) ?_
      refine lv_if_eq (tgt := 63) hx hb dX6_call_21 (by decide) (fun _ => ?_) (fun c_9 => absurd (by decide) c_9)
      refine lv_iconst (v := 0) hx hb dX6_call_63 (by decide) ?_
      refine lv_istore (lv' := [(4, .int 0), (3, .int 0), (0, .ref (q 0)), (1, .int p1), (2, .int p2)]) hx hb dX6_call_64 hl (by decide) rfl (fun ls hl => ?_)
      refine lv_aload_n hx hb dX6_call_66 rfl (lv_at hl 2 rfl) ?_
      refine lv_iload_n hx hb dX6_call_67 rfl (lv_at hl 1 rfl) ?_
      refine lv_if_ne (tgt := 75) hx hb dX6_call_68 (by decide) (fun c_10 => absurd (by decide) c_10) (fun _ => ?_)
      refine lv_iconst (v := 1) hx hb dX6_call_71 (by decide) ?_
      refine lv_goto (tgt := 85) hx hb dX6_call_72 (by decide) ?_
      have hPc := hP.sub (ws' := [((q 0), .inr (6, [.ref (q 1), .ref (q 2), .int on, .int hm, .int aw, .int tk, .ref (q 3), .ref (q 4), .ref (q 5), .int (nI sn), .ref (q 6), .ref (q 7), .ref (q 8), .ref (q 9), .int (nI kn), .ref (q 10), .ref (q 11), .ref (q 12), .ref (q 13), .ref (q 14), .ref (q 15), .ref (q 16), .ref (q 17), .int th]))]) [0] rfl
      have hDc := hD.sub (ws' := [((q 0), .inr (6, [.ref (q 1), .ref (q 2), .int on, .int hm, .int aw, .int tk, .ref (q 3), .ref (q 4), .ref (q 5), .int (nI sn), .ref (q 6), .ref (q 7), .ref (q 8), .ref (q 9), .int (nI kn), .ref (q 10), .ref (q 11), .ref (q 12), .ref (q 13), .ref (q 14), .ref (q 15), .ref (q 16), .ref (q 17), .int th]))]) [0] (by decide) rfl
      have hFc := va_free (wc := [((q 0), .inr (6, [.ref (q 1), .ref (q 2), .int on, .int hm, .int aw, .int tk, .ref (q 3), .ref (q 4), .ref (q 5), .int (nI sn), .ref (q 6), .ref (q 7), .ref (q 8), .ref (q 9), .int (nI kn), .ref (q 10), .ref (q 11), .ref (q 12), .ref (q 13), .ref (q 14), .ref (q 15), .ref (q 16), .ref (q 17), .int th]))]) hD hS hA [0] rfl
      refine va_calli (va_runV (As := [.int 1]) (rest := []) ⟨hx, hb, hml, hown, hts⟩ (c_X6_fails l D cI cZ cJ cA H.size q on hm aw tk sn kn th 1) (cwV 1 hts gX6_call_X6_fails rfl rfl rfl (by decide +kernel) ⟨Nat.le_of_ble_eq_true rfl, Nat.le_of_ble_eq_true rfl⟩) ⟨pcW_bl, va_recv hK hPc (ci := 6) (q0 := 0) rfl rfl, fun U hU hW => ⟨rfl, by rw [hU], by rw [hU]; exact hPc, va_K.moved hW.alike hK, hDc.weaken (fun _ _ _ _ => trivial)⟩⟩ rfl rfl hl.1 rfl (lv_room (Nat.le_of_ble_eq_true rfl)) dX6_call_85 ⟨Nat.le_of_ble_eq_true rfl, Nat.le_of_ble_eq_true rfl⟩) hS (fun q _ h => hFc q h) hFc (fun r_11 u t H locs ht hvm hw hB hz1 hk1 hS => ?_)
      try dsimp only at hw
      obtain ⟨u0_11, rfl⟩ : ∃ z, z = u := ⟨_, rfl⟩
      obtain ⟨hr_11, hu0_11⟩ := hw
      obtain ⟨hP1, hK1, hD1⟩ := hB
      rw [ht] at hP1
      obtain ⟨hP, hD⟩ := va_join (wr := [((q 2), .inl (cI, 2, .inl rf)), ((q 3), .inl (cI, 6, .inl ce)), ((q 1), .inl (cZ, 144, .inl bk)), ((q 10), .inl (cI, 4096, .inl ka)), ((q 11), .inl (cI, 4096, .inl kc)), ((q 12), .inl (cI, 4096, .inl kb)), ((q 13), .inl (cZ, 4096, .inl kd))]) (w1 := [((q 0), .inr (6, [.ref (q 1), .ref (q 2), .int on, .int hm, .int aw, .int tk, .ref (q 3), .ref (q 4), .ref (q 5), .int (nI sn), .ref (q 6), .ref (q 7), .ref (q 8), .ref (q 9), .int (nI kn), .ref (q 10), .ref (q 11), .ref (q 12), .ref (q 13), .ref (q 14), .ref (q 15), .ref (q 16), .ref (q 17), .int u0_11]))]) hP hD [0] [1, 2, 3, 4, 5, 6, 7] rfl rfl (by decide) (by decide) hk1 hFc hP1 hD1
      obtain rfl := hu0_11.symm
      have hP : va_P D vwCl [((q 2), .inl (cI, 2, .inl rf)), ((q 3), .inl (cI, 6, .inl ce)), ((q 1), .inl (cZ, 144, .inl bk)), ((q 10), .inl (cI, 4096, .inl ka)), ((q 11), .inl (cI, 4096, .inl kc)), ((q 12), .inl (cI, 4096, .inl kb)), ((q 13), .inl (cZ, 4096, .inl kd)), ((q 0), .inr (6, [.ref (q 1), .ref (q 2), .int on, .int hm, .int aw, .int tk, .ref (q 3), .ref (q 4), .ref (q 5), .int (nI sn), .ref (q 6), .ref (q 7), .ref (q 8), .ref (q 9), .int (nI kn), .ref (q 10), .ref (q 11), .ref (q 12), .ref (q 13), .ref (q 14), .ref (q 15), .ref (q 16), .ref (q 17), .int 1]))] H := hP
      have hD : va_D A [((q 2), .inl (cI, 2, .inl rf)), ((q 3), .inl (cI, 6, .inl ce)), ((q 1), .inl (cZ, 144, .inl bk)), ((q 10), .inl (cI, 4096, .inl ka)), ((q 11), .inl (cI, 4096, .inl kc)), ((q 12), .inl (cI, 4096, .inl kb)), ((q 13), .inl (cZ, 4096, .inl kd)), ((q 0), .inr (6, [.ref (q 1), .ref (q 2), .int on, .int hm, .int aw, .int tk, .ref (q 3), .ref (q 4), .ref (q 5), .int (nI sn), .ref (q 6), .ref (q 7), .ref (q 8), .ref (q 9), .int (nI kn), .ref (q 10), .ref (q 11), .ref (q 12), .ref (q 13), .ref (q 14), .ref (q 15), .ref (q 16), .ref (q 17), .int 1]))] := hD
      obtain rfl := hr_11.symm
      refine W.widen (k := 0) (n := 0) (Nat.le_refl _) (Nat.le_refl _) ?_
      refine tp_eq (y := 1) rfl ?_
      refine lv_if_eq (tgt := 93) hx hb dX6_call_88 (by decide) (fun c_12 => absurd c_12 (by decide)) (fun _ => ?_)
      refine lv_iconst (v := 0) hx hb dX6_call_91 (by decide) ?_
      have hP9 := hP.sub (ws' := [((q 0), .inr (6, [.ref (q 1), .ref (q 2), .int on, .int hm, .int aw, .int tk, .ref (q 3), .ref (q 4), .ref (q 5), .int (nI sn), .ref (q 6), .ref (q 7), .ref (q 8), .ref (q 9), .int (nI kn), .ref (q 10), .ref (q 11), .ref (q 12), .ref (q 13), .ref (q 14), .ref (q 15), .ref (q 16), .ref (q 17), .int 1])), ((q 2), .inl (cI, 2, .inl rf)), ((q 3), .inl (cI, 6, .inl ce)), ((q 1), .inl (cZ, 144, .inl bk)), ((q 10), .inl (cI, 4096, .inl ka)), ((q 11), .inl (cI, 4096, .inl kc)), ((q 12), .inl (cI, 4096, .inl kb)), ((q 13), .inl (cZ, 4096, .inl kd))]) [7, 0, 1, 2, 3, 4, 5, 6] rfl
      have hD9 := hD.sub (ws' := [((q 0), .inr (6, [.ref (q 1), .ref (q 2), .int on, .int hm, .int aw, .int tk, .ref (q 3), .ref (q 4), .ref (q 5), .int (nI sn), .ref (q 6), .ref (q 7), .ref (q 8), .ref (q 9), .int (nI kn), .ref (q 10), .ref (q 11), .ref (q 12), .ref (q 13), .ref (q 14), .ref (q 15), .ref (q 16), .ref (q 17), .int 1])), ((q 2), .inl (cI, 2, .inl rf)), ((q 3), .inl (cI, 6, .inl ce)), ((q 1), .inl (cZ, 144, .inl bk)), ((q 10), .inl (cI, 4096, .inl ka)), ((q 11), .inl (cI, 4096, .inl kc)), ((q 12), .inl (cI, 4096, .inl kb)), ((q 13), .inl (cZ, 4096, .inl kd))]) [7, 0, 1, 2, 3, 4, 5, 6] (by decide) rfl
      -- leaf 1
      refine W.widen (k := 0) (n := 0) (Nat.le_refl _) (Nat.le_refl _) ?_
      exact W.iret (v := 0) hx hb hr (fun t ht hW => ⟨⟨0, (ce, kn, ka, kb, kc, kd, 1), rfl, ⟨(by rw [f_X6_call, if_neg c_2, if_pos c_8]), (by rw [g_ce_X6_call, if_neg c_2, if_pos c_8]), (by rw [g_kn_X6_call, if_neg c_2, if_pos c_8]), (by rw [g_ka_X6_call, if_neg c_2, if_pos c_8]), (by rw [g_kb_X6_call, if_neg c_2, if_pos c_8]), (by rw [g_kc_X6_call, if_neg c_2, if_pos c_8]), (by rw [g_kd_X6_call, if_neg c_2, if_pos c_8]), (by rw [g_th_X6_call, if_neg c_2, if_pos c_8])⟩, by rw [ht]; exact hP9, va_K.moved hW.alike hK, hD9⟩, hS.F ht⟩) hS.2.2 dX6_call_92
    · have hvc_8 : vp_in p2 6 := isIn_vp (N := 6) c_8
      refine lv_iconst (v := 1) hx hb dX6_call_14 (by decide) ?_
      refine lv_goto (tgt := 19) hx hb dX6_call_15 (by decide) ?_
      refine lv_istore_n (lv' := [(3, .int 1), (0, .ref (q 0)), (1, .int p1), (2, .int p2)]) hx hb dX6_call_19 rfl hl (by decide) rfl (fun ls hl => ?_)
      refine lv_iload_n hx hb dX6_call_20 rfl (lv_at hl 0 rfl) ?_
      refine lv_if_eq (tgt := 63) hx hb dX6_call_21 (by decide) (fun c_13 => absurd c_13 (by decide)) (fun _ => ?_)
      refine lv_aload_n hx hb dX6_call_24 rfl (lv_at hl 1 rfl) ?_
      refine va_get (D := D) (ci := 6) (v := .int on) (C := RX6) (T := TX6) (N := 24) hx hb hts hi_X6 hown hK hP 0 rfl rfl 2 (by decide) hf_84 (fun _ h9 => h9) rfl dX6_call_25 ?_
      refine lv_if_eq (tgt := 63) hx hb dX6_call_28 (by decide) (fun c_14 => ?_) (fun c_14 => ?_)
      · refine lv_iconst (v := 0) hx hb dX6_call_63 (by decide) ?_
        refine lv_istore (lv' := [(4, .int 0), (3, .int 1), (0, .ref (q 0)), (1, .int p1), (2, .int p2)]) hx hb dX6_call_64 hl (by decide) rfl (fun ls hl => ?_)
        refine lv_aload_n hx hb dX6_call_66 rfl (lv_at hl 2 rfl) ?_
        refine lv_iload_n hx hb dX6_call_67 rfl (lv_at hl 1 rfl) ?_
        refine lv_if_ne (tgt := 75) hx hb dX6_call_68 (by decide) (fun _ => ?_) (fun c_15 => absurd c_15 (by decide))
        refine lv_iload hx hb dX6_call_75 (lv_at hl 0 rfl) ?_
        refine lv_if_eq (tgt := 84) hx hb dX6_call_77 (by decide) (fun _ => ?_) (fun c_16 => absurd (by decide) c_16)
        refine lv_iconst (v := 2) hx hb dX6_call_84 (by decide) ?_
        have hPc := hP.sub (ws' := [((q 0), .inr (6, [.ref (q 1), .ref (q 2), .int on, .int hm, .int aw, .int tk, .ref (q 3), .ref (q 4), .ref (q 5), .int (nI sn), .ref (q 6), .ref (q 7), .ref (q 8), .ref (q 9), .int (nI kn), .ref (q 10), .ref (q 11), .ref (q 12), .ref (q 13), .ref (q 14), .ref (q 15), .ref (q 16), .ref (q 17), .int th]))]) [0] rfl
        have hDc := hD.sub (ws' := [((q 0), .inr (6, [.ref (q 1), .ref (q 2), .int on, .int hm, .int aw, .int tk, .ref (q 3), .ref (q 4), .ref (q 5), .int (nI sn), .ref (q 6), .ref (q 7), .ref (q 8), .ref (q 9), .int (nI kn), .ref (q 10), .ref (q 11), .ref (q 12), .ref (q 13), .ref (q 14), .ref (q 15), .ref (q 16), .ref (q 17), .int th]))]) [0] (by decide) rfl
        have hFc := va_free (wc := [((q 0), .inr (6, [.ref (q 1), .ref (q 2), .int on, .int hm, .int aw, .int tk, .ref (q 3), .ref (q 4), .ref (q 5), .int (nI sn), .ref (q 6), .ref (q 7), .ref (q 8), .ref (q 9), .int (nI kn), .ref (q 10), .ref (q 11), .ref (q 12), .ref (q 13), .ref (q 14), .ref (q 15), .ref (q 16), .ref (q 17), .int th]))]) hD hS hA [0] rfl
        refine va_calli (va_runV (As := [.int 2]) (rest := []) ⟨hx, hb, hml, hown, hts⟩ (c_X6_fails l D cI cZ cJ cA H.size q on hm aw tk sn kn th 2) (cwV 1 hts gX6_call_X6_fails rfl rfl rfl (by decide +kernel) ⟨Nat.le_of_ble_eq_true rfl, Nat.le_of_ble_eq_true rfl⟩) ⟨pcW_bl, va_recv hK hPc (ci := 6) (q0 := 0) rfl rfl, fun U hU hW => ⟨rfl, by rw [hU], by rw [hU]; exact hPc, va_K.moved hW.alike hK, hDc.weaken (fun _ _ _ _ => trivial)⟩⟩ rfl rfl hl.1 rfl (lv_room (Nat.le_of_ble_eq_true rfl)) dX6_call_85 ⟨Nat.le_of_ble_eq_true rfl, Nat.le_of_ble_eq_true rfl⟩) hS (fun q _ h => hFc q h) hFc (fun r_17 u t H locs ht hvm hw hB hz1 hk1 hS => ?_)
        try dsimp only at hw
        obtain ⟨u0_17, rfl⟩ : ∃ z, z = u := ⟨_, rfl⟩
        obtain ⟨hr_17, hu0_17⟩ := hw
        obtain ⟨hP1, hK1, hD1⟩ := hB
        rw [ht] at hP1
        obtain ⟨hP, hD⟩ := va_join (wr := [((q 2), .inl (cI, 2, .inl rf)), ((q 3), .inl (cI, 6, .inl ce)), ((q 1), .inl (cZ, 144, .inl bk)), ((q 10), .inl (cI, 4096, .inl ka)), ((q 11), .inl (cI, 4096, .inl kc)), ((q 12), .inl (cI, 4096, .inl kb)), ((q 13), .inl (cZ, 4096, .inl kd))]) (w1 := [((q 0), .inr (6, [.ref (q 1), .ref (q 2), .int on, .int hm, .int aw, .int tk, .ref (q 3), .ref (q 4), .ref (q 5), .int (nI sn), .ref (q 6), .ref (q 7), .ref (q 8), .ref (q 9), .int (nI kn), .ref (q 10), .ref (q 11), .ref (q 12), .ref (q 13), .ref (q 14), .ref (q 15), .ref (q 16), .ref (q 17), .int u0_17]))]) hP hD [0] [1, 2, 3, 4, 5, 6, 7] rfl rfl (by decide) (by decide) hk1 hFc hP1 hD1
        obtain rfl := hu0_17.symm
        have hP : va_P D vwCl [((q 2), .inl (cI, 2, .inl rf)), ((q 3), .inl (cI, 6, .inl ce)), ((q 1), .inl (cZ, 144, .inl bk)), ((q 10), .inl (cI, 4096, .inl ka)), ((q 11), .inl (cI, 4096, .inl kc)), ((q 12), .inl (cI, 4096, .inl kb)), ((q 13), .inl (cZ, 4096, .inl kd)), ((q 0), .inr (6, [.ref (q 1), .ref (q 2), .int on, .int hm, .int aw, .int tk, .ref (q 3), .ref (q 4), .ref (q 5), .int (nI sn), .ref (q 6), .ref (q 7), .ref (q 8), .ref (q 9), .int (nI kn), .ref (q 10), .ref (q 11), .ref (q 12), .ref (q 13), .ref (q 14), .ref (q 15), .ref (q 16), .ref (q 17), .int 2]))] H := hP
        have hD : va_D A [((q 2), .inl (cI, 2, .inl rf)), ((q 3), .inl (cI, 6, .inl ce)), ((q 1), .inl (cZ, 144, .inl bk)), ((q 10), .inl (cI, 4096, .inl ka)), ((q 11), .inl (cI, 4096, .inl kc)), ((q 12), .inl (cI, 4096, .inl kb)), ((q 13), .inl (cZ, 4096, .inl kd)), ((q 0), .inr (6, [.ref (q 1), .ref (q 2), .int on, .int hm, .int aw, .int tk, .ref (q 3), .ref (q 4), .ref (q 5), .int (nI sn), .ref (q 6), .ref (q 7), .ref (q 8), .ref (q 9), .int (nI kn), .ref (q 10), .ref (q 11), .ref (q 12), .ref (q 13), .ref (q 14), .ref (q 15), .ref (q 16), .ref (q 17), .int 2]))] := hD
        obtain rfl := hr_17.symm
        refine W.widen (k := 0) (n := 0) (Nat.le_refl _) (Nat.le_refl _) ?_
        refine tp_eq (y := 1) rfl ?_
        refine lv_if_eq (tgt := 93) hx hb dX6_call_88 (by decide) (fun c_18 => absurd c_18 (by decide)) (fun _ => ?_)
        refine lv_iconst (v := 0) hx hb dX6_call_91 (by decide) ?_
        have hP9 := hP.sub (ws' := [((q 0), .inr (6, [.ref (q 1), .ref (q 2), .int on, .int hm, .int aw, .int tk, .ref (q 3), .ref (q 4), .ref (q 5), .int (nI sn), .ref (q 6), .ref (q 7), .ref (q 8), .ref (q 9), .int (nI kn), .ref (q 10), .ref (q 11), .ref (q 12), .ref (q 13), .ref (q 14), .ref (q 15), .ref (q 16), .ref (q 17), .int 2])), ((q 2), .inl (cI, 2, .inl rf)), ((q 3), .inl (cI, 6, .inl ce)), ((q 1), .inl (cZ, 144, .inl bk)), ((q 10), .inl (cI, 4096, .inl ka)), ((q 11), .inl (cI, 4096, .inl kc)), ((q 12), .inl (cI, 4096, .inl kb)), ((q 13), .inl (cZ, 4096, .inl kd))]) [7, 0, 1, 2, 3, 4, 5, 6] rfl
        have hD9 := hD.sub (ws' := [((q 0), .inr (6, [.ref (q 1), .ref (q 2), .int on, .int hm, .int aw, .int tk, .ref (q 3), .ref (q 4), .ref (q 5), .int (nI sn), .ref (q 6), .ref (q 7), .ref (q 8), .ref (q 9), .int (nI kn), .ref (q 10), .ref (q 11), .ref (q 12), .ref (q 13), .ref (q 14), .ref (q 15), .ref (q 16), .ref (q 17), .int 2])), ((q 2), .inl (cI, 2, .inl rf)), ((q 3), .inl (cI, 6, .inl ce)), ((q 1), .inl (cZ, 144, .inl bk)), ((q 10), .inl (cI, 4096, .inl ka)), ((q 11), .inl (cI, 4096, .inl kc)), ((q 12), .inl (cI, 4096, .inl kb)), ((q 13), .inl (cZ, 4096, .inl kd))]) [7, 0, 1, 2, 3, 4, 5, 6] (by decide) rfl
        -- leaf 2
        refine W.widen (k := 0) (n := 0) (Nat.le_refl _) (Nat.le_refl _) ?_
        exact W.iret (v := 0) hx hb hr (fun t ht hW => ⟨⟨0, (ce, kn, ka, kb, kc, kd, 2), rfl, ⟨(by rw [f_X6_call, if_neg c_2, if_neg c_8, if_pos c_14]), (by rw [g_ce_X6_call, if_neg c_2, if_neg c_8, if_pos c_14]), (by rw [g_kn_X6_call, if_neg c_2, if_neg c_8, if_pos c_14]), (by rw [g_ka_X6_call, if_neg c_2, if_neg c_8, if_pos c_14]), (by rw [g_kb_X6_call, if_neg c_2, if_neg c_8, if_pos c_14]), (by rw [g_kc_X6_call, if_neg c_2, if_neg c_8, if_pos c_14]), (by rw [g_kd_X6_call, if_neg c_2, if_neg c_8, if_pos c_14]), (by rw [g_th_X6_call, if_neg c_2, if_neg c_8, if_pos c_14])⟩, by rw [ht]; exact hP9, va_K.moved hW.alike hK, hD9⟩, hS.F ht⟩) hS.2.2 dX6_call_92
      · refine lv_aload_n hx hb dX6_call_31 rfl (lv_at hl 1 rfl) ?_
        refine va_get (D := D) (ci := 6) (v := .ref (q 3)) (C := RX6) (T := TX6) (N := 24) hx hb hts hi_X6 hown hK hP 0 rfl rfl 6 (by decide) hf_17 (fun _ h9 => h9) rfl dX6_call_32 ?_
        refine lv_iload_n hx hb dX6_call_35 rfl (lv_at hl 3 rfl) ?_
        refine va_iald hx hb hK hP 2 0 rfl rfl (by assumption) dX6_call_36 ?_
        refine lv_if_lt (tgt := 63) hx hb dX6_call_37 (by decide) (fun c_19 => ?_) (fun c_19 => ?_)
        · refine lv_iconst (v := 0) hx hb dX6_call_63 (by decide) ?_
          refine lv_istore (lv' := [(4, .int 0), (3, .int 1), (0, .ref (q 0)), (1, .int p1), (2, .int p2)]) hx hb dX6_call_64 hl (by decide) rfl (fun ls hl => ?_)
          refine lv_aload_n hx hb dX6_call_66 rfl (lv_at hl 2 rfl) ?_
          refine lv_iload_n hx hb dX6_call_67 rfl (lv_at hl 1 rfl) ?_
          refine lv_if_ne (tgt := 75) hx hb dX6_call_68 (by decide) (fun _ => ?_) (fun c_20 => absurd c_20 (by decide))
          refine lv_iload hx hb dX6_call_75 (lv_at hl 0 rfl) ?_
          refine lv_if_eq (tgt := 84) hx hb dX6_call_77 (by decide) (fun _ => ?_) (fun c_21 => absurd (by decide) c_21)
          refine lv_iconst (v := 2) hx hb dX6_call_84 (by decide) ?_
          have hPc := hP.sub (ws' := [((q 0), .inr (6, [.ref (q 1), .ref (q 2), .int on, .int hm, .int aw, .int tk, .ref (q 3), .ref (q 4), .ref (q 5), .int (nI sn), .ref (q 6), .ref (q 7), .ref (q 8), .ref (q 9), .int (nI kn), .ref (q 10), .ref (q 11), .ref (q 12), .ref (q 13), .ref (q 14), .ref (q 15), .ref (q 16), .ref (q 17), .int th]))]) [0] rfl
          have hDc := hD.sub (ws' := [((q 0), .inr (6, [.ref (q 1), .ref (q 2), .int on, .int hm, .int aw, .int tk, .ref (q 3), .ref (q 4), .ref (q 5), .int (nI sn), .ref (q 6), .ref (q 7), .ref (q 8), .ref (q 9), .int (nI kn), .ref (q 10), .ref (q 11), .ref (q 12), .ref (q 13), .ref (q 14), .ref (q 15), .ref (q 16), .ref (q 17), .int th]))]) [0] (by decide) rfl
          have hFc := va_free (wc := [((q 0), .inr (6, [.ref (q 1), .ref (q 2), .int on, .int hm, .int aw, .int tk, .ref (q 3), .ref (q 4), .ref (q 5), .int (nI sn), .ref (q 6), .ref (q 7), .ref (q 8), .ref (q 9), .int (nI kn), .ref (q 10), .ref (q 11), .ref (q 12), .ref (q 13), .ref (q 14), .ref (q 15), .ref (q 16), .ref (q 17), .int th]))]) hD hS hA [0] rfl
          refine va_calli (va_runV (As := [.int 2]) (rest := []) ⟨hx, hb, hml, hown, hts⟩ (c_X6_fails l D cI cZ cJ cA H.size q on hm aw tk sn kn th 2) (cwV 1 hts gX6_call_X6_fails rfl rfl rfl (by decide +kernel) ⟨Nat.le_of_ble_eq_true rfl, Nat.le_of_ble_eq_true rfl⟩) ⟨pcW_bl, va_recv hK hPc (ci := 6) (q0 := 0) rfl rfl, fun U hU hW => ⟨rfl, by rw [hU], by rw [hU]; exact hPc, va_K.moved hW.alike hK, hDc.weaken (fun _ _ _ _ => trivial)⟩⟩ rfl rfl hl.1 rfl (lv_room (Nat.le_of_ble_eq_true rfl)) dX6_call_85 ⟨Nat.le_of_ble_eq_true rfl, Nat.le_of_ble_eq_true rfl⟩) hS (fun q _ h => hFc q h) hFc (fun r_22 u t H locs ht hvm hw hB hz1 hk1 hS => ?_)
          try dsimp only at hw
          obtain ⟨u0_22, rfl⟩ : ∃ z, z = u := ⟨_, rfl⟩
          obtain ⟨hr_22, hu0_22⟩ := hw
          obtain ⟨hP1, hK1, hD1⟩ := hB
          rw [ht] at hP1
          obtain ⟨hP, hD⟩ := va_join (wr := [((q 2), .inl (cI, 2, .inl rf)), ((q 3), .inl (cI, 6, .inl ce)), ((q 1), .inl (cZ, 144, .inl bk)), ((q 10), .inl (cI, 4096, .inl ka)), ((q 11), .inl (cI, 4096, .inl kc)), ((q 12), .inl (cI, 4096, .inl kb)), ((q 13), .inl (cZ, 4096, .inl kd))]) (w1 := [((q 0), .inr (6, [.ref (q 1), .ref (q 2), .int on, .int hm, .int aw, .int tk, .ref (q 3), .ref (q 4), .ref (q 5), .int (nI sn), .ref (q 6), .ref (q 7), .ref (q 8), .ref (q 9), .int (nI kn), .ref (q 10), .ref (q 11), .ref (q 12), .ref (q 13), .ref (q 14), .ref (q 15), .ref (q 16), .ref (q 17), .int u0_22]))]) hP hD [0] [1, 2, 3, 4, 5, 6, 7] rfl rfl (by decide) (by decide) hk1 hFc hP1 hD1
          obtain rfl := hu0_22.symm
          have hP : va_P D vwCl [((q 2), .inl (cI, 2, .inl rf)), ((q 3), .inl (cI, 6, .inl ce)), ((q 1), .inl (cZ, 144, .inl bk)), ((q 10), .inl (cI, 4096, .inl ka)), ((q 11), .inl (cI, 4096, .inl kc)), ((q 12), .inl (cI, 4096, .inl kb)), ((q 13), .inl (cZ, 4096, .inl kd)), ((q 0), .inr (6, [.ref (q 1), .ref (q 2), .int on, .int hm, .int aw, .int tk, .ref (q 3), .ref (q 4), .ref (q 5), .int (nI sn), .ref (q 6), .ref (q 7), .ref (q 8), .ref (q 9), .int (nI kn), .ref (q 10), .ref (q 11), .ref (q 12), .ref (q 13), .ref (q 14), .ref (q 15), .ref (q 16), .ref (q 17), .int 2]))] H := hP
          have hD : va_D A [((q 2), .inl (cI, 2, .inl rf)), ((q 3), .inl (cI, 6, .inl ce)), ((q 1), .inl (cZ, 144, .inl bk)), ((q 10), .inl (cI, 4096, .inl ka)), ((q 11), .inl (cI, 4096, .inl kc)), ((q 12), .inl (cI, 4096, .inl kb)), ((q 13), .inl (cZ, 4096, .inl kd)), ((q 0), .inr (6, [.ref (q 1), .ref (q 2), .int on, .int hm, .int aw, .int tk, .ref (q 3), .ref (q 4), .ref (q 5), .int (nI sn), .ref (q 6), .ref (q 7), .ref (q 8), .ref (q 9), .int (nI kn), .ref (q 10), .ref (q 11), .ref (q 12), .ref (q 13), .ref (q 14), .ref (q 15), .ref (q 16), .ref (q 17), .int 2]))] := hD
          obtain rfl := hr_22.symm
          refine W.widen (k := 0) (n := 0) (Nat.le_refl _) (Nat.le_refl _) ?_
          refine tp_eq (y := 1) rfl ?_
          refine lv_if_eq (tgt := 93) hx hb dX6_call_88 (by decide) (fun c_23 => absurd c_23 (by decide)) (fun _ => ?_)
          refine lv_iconst (v := 0) hx hb dX6_call_91 (by decide) ?_
          have hP9 := hP.sub (ws' := [((q 0), .inr (6, [.ref (q 1), .ref (q 2), .int on, .int hm, .int aw, .int tk, .ref (q 3), .ref (q 4), .ref (q 5), .int (nI sn), .ref (q 6), .ref (q 7), .ref (q 8), .ref (q 9), .int (nI kn), .ref (q 10), .ref (q 11), .ref (q 12), .ref (q 13), .ref (q 14), .ref (q 15), .ref (q 16), .ref (q 17), .int 2])), ((q 2), .inl (cI, 2, .inl rf)), ((q 3), .inl (cI, 6, .inl ce)), ((q 1), .inl (cZ, 144, .inl bk)), ((q 10), .inl (cI, 4096, .inl ka)), ((q 11), .inl (cI, 4096, .inl kc)), ((q 12), .inl (cI, 4096, .inl kb)), ((q 13), .inl (cZ, 4096, .inl kd))]) [7, 0, 1, 2, 3, 4, 5, 6] rfl
          have hD9 := hD.sub (ws' := [((q 0), .inr (6, [.ref (q 1), .ref (q 2), .int on, .int hm, .int aw, .int tk, .ref (q 3), .ref (q 4), .ref (q 5), .int (nI sn), .ref (q 6), .ref (q 7), .ref (q 8), .ref (q 9), .int (nI kn), .ref (q 10), .ref (q 11), .ref (q 12), .ref (q 13), .ref (q 14), .ref (q 15), .ref (q 16), .ref (q 17), .int 2])), ((q 2), .inl (cI, 2, .inl rf)), ((q 3), .inl (cI, 6, .inl ce)), ((q 1), .inl (cZ, 144, .inl bk)), ((q 10), .inl (cI, 4096, .inl ka)), ((q 11), .inl (cI, 4096, .inl kc)), ((q 12), .inl (cI, 4096, .inl kb)), ((q 13), .inl (cZ, 4096, .inl kd))]) [7, 0, 1, 2, 3, 4, 5, 6] (by decide) rfl
          -- leaf 3
          refine W.widen (k := 0) (n := 0) (Nat.le_refl _) (Nat.le_refl _) ?_
          exact W.iret (v := 0) hx hb hr (fun t ht hW => ⟨⟨0, (ce, kn, ka, kb, kc, kd, 2), rfl, ⟨(by rw [f_X6_call, if_neg c_2, if_neg c_8, if_neg c_14, if_pos c_19]), (by rw [g_ce_X6_call, if_neg c_2, if_neg c_8, if_neg c_14, if_pos c_19]), (by rw [g_kn_X6_call, if_neg c_2, if_neg c_8, if_neg c_14, if_pos c_19]), (by rw [g_ka_X6_call, if_neg c_2, if_neg c_8, if_neg c_14, if_pos c_19]), (by rw [g_kb_X6_call, if_neg c_2, if_neg c_8, if_neg c_14, if_pos c_19]), (by rw [g_kc_X6_call, if_neg c_2, if_neg c_8, if_neg c_14, if_pos c_19]), (by rw [g_kd_X6_call, if_neg c_2, if_neg c_8, if_neg c_14, if_pos c_19]), (by rw [g_th_X6_call, if_neg c_2, if_neg c_8, if_neg c_14, if_pos c_19])⟩, by rw [ht]; exact hP9, va_K.moved hW.alike hK, hD9⟩, hS.F ht⟩) hS.2.2 dX6_call_92
        · refine lv_aload_n hx hb dX6_call_40 rfl (lv_at hl 1 rfl) ?_
          refine lv_aload_n hx hb dX6_call_41 rfl (lv_at hl 1 rfl) ?_
          refine va_get (D := D) (ci := 6) (v := .ref (q 2)) (C := RX6) (T := TX6) (N := 24) hx hb hts hi_X6 hown hK hP 0 rfl rfl 1 (by decide) hf_13 (fun _ h9 => h9) rfl dX6_call_42 ?_
          refine lv_iload_n hx hb dX6_call_45 rfl (lv_at hl 2 rfl) ?_
          refine va_iald hx hb hK hP 1 0 rfl rfl (by assumption) dX6_call_46 ?_
          refine lv_aload_n hx hb dX6_call_47 rfl (lv_at hl 1 rfl) ?_
          refine va_get (D := D) (ci := 6) (v := .ref (q 3)) (C := RX6) (T := TX6) (N := 24) hx hb hts hi_X6 hown hK hP 0 rfl rfl 6 (by decide) hf_17 (fun _ h9 => h9) rfl dX6_call_48 ?_
          refine lv_iload_n hx hb dX6_call_51 rfl (lv_at hl 3 rfl) ?_
          refine va_iald hx hb hK hP 2 0 rfl rfl (by assumption) dX6_call_52 ?_
          have hPc := hP.sub (ws' := [((q 0), .inr (6, [.ref (q 1), .ref (q 2), .int on, .int hm, .int aw, .int tk, .ref (q 3), .ref (q 4), .ref (q 5), .int (nI sn), .ref (q 6), .ref (q 7), .ref (q 8), .ref (q 9), .int (nI kn), .ref (q 10), .ref (q 11), .ref (q 12), .ref (q 13), .ref (q 14), .ref (q 15), .ref (q 16), .ref (q 17), .int th])), ((q 1), .inl (cZ, 144, .inl bk))]) [0, 3] rfl
          refine va_calli (va_runV (As := [.int (rf p1.toNatClampNeg), .int (ce p2.toNatClampNeg)]) (rest := []) ⟨hx, hb, hml, hown, hts⟩ (c_X6_see l D cI cZ cJ cA H.size q bk on hm aw tk sn kn th (rf p1.toNatClampNeg) (ce p2.toNatClampNeg)) (cwV 2 hts gX6_call_X6_see rfl rfl rfl (by decide +kernel) ⟨Nat.le_of_ble_eq_true rfl, Nat.le_of_ble_eq_true rfl⟩) ⟨pcR_bl, va_recv hK hPc (ci := 6) (q0 := 0) rfl rfl, fun U hU hW => ⟨rfl, by rw [hU], by rw [hU]; exact hPc, va_K.moved hW.alike hK⟩⟩ rfl rfl hl.1 rfl (lv_room (Nat.le_of_ble_eq_true rfl)) dX6_call_53 ⟨Nat.le_of_ble_eq_true rfl, Nat.le_of_ble_eq_true rfl⟩) hS (fun _ h1 h2 => absurd h1 (Nat.not_lt.mpr h2)) (rd_free hS hA) (fun r_24 u t H locs ht hvm hw hB hz1 hk1 hS => ?_)
          try dsimp only at hw
          have hr_24 := hw
          have hP := rd_P hP hk1
          obtain rfl := hr_24.symm
          refine W.widen (k := 0) (n := 0) (Nat.le_refl _) (Nat.le_refl _) ?_
          refine lv_if_eq (tgt := 63) hx hb dX6_call_56 (by decide) (fun c_25 => ?_) (fun c_25 => ?_)
          · refine lv_iconst (v := 0) hx hb dX6_call_63 (by decide) ?_
            refine lv_istore (lv' := [(4, .int 0), (3, .int 1), (0, .ref (q 0)), (1, .int p1), (2, .int p2)]) hx hb dX6_call_64 hl (by decide) rfl (fun ls hl => ?_)
            refine lv_aload_n hx hb dX6_call_66 rfl (lv_at hl 2 rfl) ?_
            refine lv_iload_n hx hb dX6_call_67 rfl (lv_at hl 1 rfl) ?_
            refine lv_if_ne (tgt := 75) hx hb dX6_call_68 (by decide) (fun _ => ?_) (fun c_26 => absurd c_26 (by decide))
            refine lv_iload hx hb dX6_call_75 (lv_at hl 0 rfl) ?_
            refine lv_if_eq (tgt := 84) hx hb dX6_call_77 (by decide) (fun _ => ?_) (fun c_27 => absurd (by decide) c_27)
            refine lv_iconst (v := 2) hx hb dX6_call_84 (by decide) ?_
            have hPc := hP.sub (ws' := [((q 0), .inr (6, [.ref (q 1), .ref (q 2), .int on, .int hm, .int aw, .int tk, .ref (q 3), .ref (q 4), .ref (q 5), .int (nI sn), .ref (q 6), .ref (q 7), .ref (q 8), .ref (q 9), .int (nI kn), .ref (q 10), .ref (q 11), .ref (q 12), .ref (q 13), .ref (q 14), .ref (q 15), .ref (q 16), .ref (q 17), .int th]))]) [0] rfl
            have hDc := hD.sub (ws' := [((q 0), .inr (6, [.ref (q 1), .ref (q 2), .int on, .int hm, .int aw, .int tk, .ref (q 3), .ref (q 4), .ref (q 5), .int (nI sn), .ref (q 6), .ref (q 7), .ref (q 8), .ref (q 9), .int (nI kn), .ref (q 10), .ref (q 11), .ref (q 12), .ref (q 13), .ref (q 14), .ref (q 15), .ref (q 16), .ref (q 17), .int th]))]) [0] (by decide) rfl
            have hFc := va_free (wc := [((q 0), .inr (6, [.ref (q 1), .ref (q 2), .int on, .int hm, .int aw, .int tk, .ref (q 3), .ref (q 4), .ref (q 5), .int (nI sn), .ref (q 6), .ref (q 7), .ref (q 8), .ref (q 9), .int (nI kn), .ref (q 10), .ref (q 11), .ref (q 12), .ref (q 13), .ref (q 14), .ref (q 15), .ref (q 16), .ref (q 17), .int th]))]) hD hS hA [0] rfl
            refine va_calli (va_runV (As := [.int 2]) (rest := []) ⟨hx, hb, hml, hown, hts⟩ (c_X6_fails l D cI cZ cJ cA H.size q on hm aw tk sn kn th 2) (cwV 1 hts gX6_call_X6_fails rfl rfl rfl (by decide +kernel) ⟨Nat.le_of_ble_eq_true rfl, Nat.le_of_ble_eq_true rfl⟩) ⟨pcW_bl, va_recv hK hPc (ci := 6) (q0 := 0) rfl rfl, fun U hU hW => ⟨rfl, by rw [hU], by rw [hU]; exact hPc, va_K.moved hW.alike hK, hDc.weaken (fun _ _ _ _ => trivial)⟩⟩ rfl rfl hl.1 rfl (lv_room (Nat.le_of_ble_eq_true rfl)) dX6_call_85 ⟨Nat.le_of_ble_eq_true rfl, Nat.le_of_ble_eq_true rfl⟩) hS (fun q _ h => hFc q h) hFc (fun r_28 u t H locs ht hvm hw hB hz1 hk1 hS => ?_)
            try dsimp only at hw
            obtain ⟨u0_28, rfl⟩ : ∃ z, z = u := ⟨_, rfl⟩
            obtain ⟨hr_28, hu0_28⟩ := hw
            obtain ⟨hP1, hK1, hD1⟩ := hB
            rw [ht] at hP1
            obtain ⟨hP, hD⟩ := va_join (wr := [((q 2), .inl (cI, 2, .inl rf)), ((q 3), .inl (cI, 6, .inl ce)), ((q 1), .inl (cZ, 144, .inl bk)), ((q 10), .inl (cI, 4096, .inl ka)), ((q 11), .inl (cI, 4096, .inl kc)), ((q 12), .inl (cI, 4096, .inl kb)), ((q 13), .inl (cZ, 4096, .inl kd))]) (w1 := [((q 0), .inr (6, [.ref (q 1), .ref (q 2), .int on, .int hm, .int aw, .int tk, .ref (q 3), .ref (q 4), .ref (q 5), .int (nI sn), .ref (q 6), .ref (q 7), .ref (q 8), .ref (q 9), .int (nI kn), .ref (q 10), .ref (q 11), .ref (q 12), .ref (q 13), .ref (q 14), .ref (q 15), .ref (q 16), .ref (q 17), .int u0_28]))]) hP hD [0] [1, 2, 3, 4, 5, 6, 7] rfl rfl (by decide) (by decide) hk1 hFc hP1 hD1
            obtain rfl := hu0_28.symm
            have hP : va_P D vwCl [((q 2), .inl (cI, 2, .inl rf)), ((q 3), .inl (cI, 6, .inl ce)), ((q 1), .inl (cZ, 144, .inl bk)), ((q 10), .inl (cI, 4096, .inl ka)), ((q 11), .inl (cI, 4096, .inl kc)), ((q 12), .inl (cI, 4096, .inl kb)), ((q 13), .inl (cZ, 4096, .inl kd)), ((q 0), .inr (6, [.ref (q 1), .ref (q 2), .int on, .int hm, .int aw, .int tk, .ref (q 3), .ref (q 4), .ref (q 5), .int (nI sn), .ref (q 6), .ref (q 7), .ref (q 8), .ref (q 9), .int (nI kn), .ref (q 10), .ref (q 11), .ref (q 12), .ref (q 13), .ref (q 14), .ref (q 15), .ref (q 16), .ref (q 17), .int 2]))] H := hP
            have hD : va_D A [((q 2), .inl (cI, 2, .inl rf)), ((q 3), .inl (cI, 6, .inl ce)), ((q 1), .inl (cZ, 144, .inl bk)), ((q 10), .inl (cI, 4096, .inl ka)), ((q 11), .inl (cI, 4096, .inl kc)), ((q 12), .inl (cI, 4096, .inl kb)), ((q 13), .inl (cZ, 4096, .inl kd)), ((q 0), .inr (6, [.ref (q 1), .ref (q 2), .int on, .int hm, .int aw, .int tk, .ref (q 3), .ref (q 4), .ref (q 5), .int (nI sn), .ref (q 6), .ref (q 7), .ref (q 8), .ref (q 9), .int (nI kn), .ref (q 10), .ref (q 11), .ref (q 12), .ref (q 13), .ref (q 14), .ref (q 15), .ref (q 16), .ref (q 17), .int 2]))] := hD
            obtain rfl := hr_28.symm
            refine W.widen (k := 0) (n := 0) (Nat.le_refl _) (Nat.le_refl _) ?_
            refine tp_eq (y := 1) rfl ?_
            refine lv_if_eq (tgt := 93) hx hb dX6_call_88 (by decide) (fun c_29 => absurd c_29 (by decide)) (fun _ => ?_)
            refine lv_iconst (v := 0) hx hb dX6_call_91 (by decide) ?_
            have hP9 := hP.sub (ws' := [((q 0), .inr (6, [.ref (q 1), .ref (q 2), .int on, .int hm, .int aw, .int tk, .ref (q 3), .ref (q 4), .ref (q 5), .int (nI sn), .ref (q 6), .ref (q 7), .ref (q 8), .ref (q 9), .int (nI kn), .ref (q 10), .ref (q 11), .ref (q 12), .ref (q 13), .ref (q 14), .ref (q 15), .ref (q 16), .ref (q 17), .int 2])), ((q 2), .inl (cI, 2, .inl rf)), ((q 3), .inl (cI, 6, .inl ce)), ((q 1), .inl (cZ, 144, .inl bk)), ((q 10), .inl (cI, 4096, .inl ka)), ((q 11), .inl (cI, 4096, .inl kc)), ((q 12), .inl (cI, 4096, .inl kb)), ((q 13), .inl (cZ, 4096, .inl kd))]) [7, 0, 1, 2, 3, 4, 5, 6] rfl
            have hD9 := hD.sub (ws' := [((q 0), .inr (6, [.ref (q 1), .ref (q 2), .int on, .int hm, .int aw, .int tk, .ref (q 3), .ref (q 4), .ref (q 5), .int (nI sn), .ref (q 6), .ref (q 7), .ref (q 8), .ref (q 9), .int (nI kn), .ref (q 10), .ref (q 11), .ref (q 12), .ref (q 13), .ref (q 14), .ref (q 15), .ref (q 16), .ref (q 17), .int 2])), ((q 2), .inl (cI, 2, .inl rf)), ((q 3), .inl (cI, 6, .inl ce)), ((q 1), .inl (cZ, 144, .inl bk)), ((q 10), .inl (cI, 4096, .inl ka)), ((q 11), .inl (cI, 4096, .inl kc)), ((q 12), .inl (cI, 4096, .inl kb)), ((q 13), .inl (cZ, 4096, .inl kd))]) [7, 0, 1, 2, 3, 4, 5, 6] (by decide) rfl
            -- leaf 4
            refine W.widen (k := 0) (n := 0) (Nat.le_refl _) (Nat.le_refl _) ?_
            exact W.iret (v := 0) hx hb hr (fun t ht hW => ⟨⟨0, (ce, kn, ka, kb, kc, kd, 2), rfl, ⟨(by rw [f_X6_call, if_neg c_2, if_neg c_8, if_neg c_14, if_neg c_19, if_pos c_25]), (by rw [g_ce_X6_call, if_neg c_2, if_neg c_8, if_neg c_14, if_neg c_19, if_pos c_25]), (by rw [g_kn_X6_call, if_neg c_2, if_neg c_8, if_neg c_14, if_neg c_19, if_pos c_25]), (by rw [g_ka_X6_call, if_neg c_2, if_neg c_8, if_neg c_14, if_neg c_19, if_pos c_25]), (by rw [g_kb_X6_call, if_neg c_2, if_neg c_8, if_neg c_14, if_neg c_19, if_pos c_25]), (by rw [g_kc_X6_call, if_neg c_2, if_neg c_8, if_neg c_14, if_neg c_19, if_pos c_25]), (by rw [g_kd_X6_call, if_neg c_2, if_neg c_8, if_neg c_14, if_neg c_19, if_pos c_25]), (by rw [g_th_X6_call, if_neg c_2, if_neg c_8, if_neg c_14, if_neg c_19, if_pos c_25])⟩, by rw [ht]; exact hP9, va_K.moved hW.alike hK, hD9⟩, hS.F ht⟩) hS.2.2 dX6_call_92
          · refine lv_iconst (v := 1) hx hb dX6_call_59 (by decide) ?_
            refine lv_goto (tgt := 64) hx hb dX6_call_60 (by decide) ?_
            refine lv_istore (lv' := [(4, .int 1), (3, .int 1), (0, .ref (q 0)), (1, .int p1), (2, .int p2)]) hx hb dX6_call_64 hl (by decide) rfl (fun ls hl => ?_)
            refine lv_aload_n hx hb dX6_call_66 rfl (lv_at hl 2 rfl) ?_
            refine lv_iload_n hx hb dX6_call_67 rfl (lv_at hl 1 rfl) ?_
            refine lv_if_ne (tgt := 75) hx hb dX6_call_68 (by decide) (fun _ => ?_) (fun c_30 => absurd c_30 (by decide))
            refine lv_iload hx hb dX6_call_75 (lv_at hl 0 rfl) ?_
            refine lv_if_eq (tgt := 84) hx hb dX6_call_77 (by decide) (fun c_31 => absurd c_31 (by decide)) (fun _ => ?_)
            refine lv_iconst (v := 0) hx hb dX6_call_80 (by decide) ?_
            refine lv_goto (tgt := 85) hx hb dX6_call_81 (by decide) ?_
            have hPc := hP.sub (ws' := [((q 0), .inr (6, [.ref (q 1), .ref (q 2), .int on, .int hm, .int aw, .int tk, .ref (q 3), .ref (q 4), .ref (q 5), .int (nI sn), .ref (q 6), .ref (q 7), .ref (q 8), .ref (q 9), .int (nI kn), .ref (q 10), .ref (q 11), .ref (q 12), .ref (q 13), .ref (q 14), .ref (q 15), .ref (q 16), .ref (q 17), .int th]))]) [0] rfl
            have hDc := hD.sub (ws' := [((q 0), .inr (6, [.ref (q 1), .ref (q 2), .int on, .int hm, .int aw, .int tk, .ref (q 3), .ref (q 4), .ref (q 5), .int (nI sn), .ref (q 6), .ref (q 7), .ref (q 8), .ref (q 9), .int (nI kn), .ref (q 10), .ref (q 11), .ref (q 12), .ref (q 13), .ref (q 14), .ref (q 15), .ref (q 16), .ref (q 17), .int th]))]) [0] (by decide) rfl
            have hFc := va_free (wc := [((q 0), .inr (6, [.ref (q 1), .ref (q 2), .int on, .int hm, .int aw, .int tk, .ref (q 3), .ref (q 4), .ref (q 5), .int (nI sn), .ref (q 6), .ref (q 7), .ref (q 8), .ref (q 9), .int (nI kn), .ref (q 10), .ref (q 11), .ref (q 12), .ref (q 13), .ref (q 14), .ref (q 15), .ref (q 16), .ref (q 17), .int th]))]) hD hS hA [0] rfl
            refine va_calli (va_runV (As := [.int 0]) (rest := []) ⟨hx, hb, hml, hown, hts⟩ (c_X6_fails l D cI cZ cJ cA H.size q on hm aw tk sn kn th 0) (cwV 1 hts gX6_call_X6_fails rfl rfl rfl (by decide +kernel) ⟨Nat.le_of_ble_eq_true rfl, Nat.le_of_ble_eq_true rfl⟩) ⟨pcW_bl, va_recv hK hPc (ci := 6) (q0 := 0) rfl rfl, fun U hU hW => ⟨rfl, by rw [hU], by rw [hU]; exact hPc, va_K.moved hW.alike hK, hDc.weaken (fun _ _ _ _ => trivial)⟩⟩ rfl rfl hl.1 rfl (lv_room (Nat.le_of_ble_eq_true rfl)) dX6_call_85 ⟨Nat.le_of_ble_eq_true rfl, Nat.le_of_ble_eq_true rfl⟩) hS (fun q _ h => hFc q h) hFc (fun r_32 u t H locs ht hvm hw hB hz1 hk1 hS => ?_)
            try dsimp only at hw
            obtain ⟨u0_32, rfl⟩ : ∃ z, z = u := ⟨_, rfl⟩
            obtain ⟨hr_32, hu0_32⟩ := hw
            obtain ⟨hP1, hK1, hD1⟩ := hB
            rw [ht] at hP1
            obtain ⟨hP, hD⟩ := va_join (wr := [((q 2), .inl (cI, 2, .inl rf)), ((q 3), .inl (cI, 6, .inl ce)), ((q 1), .inl (cZ, 144, .inl bk)), ((q 10), .inl (cI, 4096, .inl ka)), ((q 11), .inl (cI, 4096, .inl kc)), ((q 12), .inl (cI, 4096, .inl kb)), ((q 13), .inl (cZ, 4096, .inl kd))]) (w1 := [((q 0), .inr (6, [.ref (q 1), .ref (q 2), .int on, .int hm, .int aw, .int tk, .ref (q 3), .ref (q 4), .ref (q 5), .int (nI sn), .ref (q 6), .ref (q 7), .ref (q 8), .ref (q 9), .int (nI kn), .ref (q 10), .ref (q 11), .ref (q 12), .ref (q 13), .ref (q 14), .ref (q 15), .ref (q 16), .ref (q 17), .int u0_32]))]) hP hD [0] [1, 2, 3, 4, 5, 6, 7] rfl rfl (by decide) (by decide) hk1 hFc hP1 hD1
            obtain rfl := hu0_32.symm
            have hP : va_P D vwCl [((q 2), .inl (cI, 2, .inl rf)), ((q 3), .inl (cI, 6, .inl ce)), ((q 1), .inl (cZ, 144, .inl bk)), ((q 10), .inl (cI, 4096, .inl ka)), ((q 11), .inl (cI, 4096, .inl kc)), ((q 12), .inl (cI, 4096, .inl kb)), ((q 13), .inl (cZ, 4096, .inl kd)), ((q 0), .inr (6, [.ref (q 1), .ref (q 2), .int on, .int hm, .int aw, .int tk, .ref (q 3), .ref (q 4), .ref (q 5), .int (nI sn), .ref (q 6), .ref (q 7), .ref (q 8), .ref (q 9), .int (nI kn), .ref (q 10), .ref (q 11), .ref (q 12), .ref (q 13), .ref (q 14), .ref (q 15), .ref (q 16), .ref (q 17), .int 0]))] H := hP
            have hD : va_D A [((q 2), .inl (cI, 2, .inl rf)), ((q 3), .inl (cI, 6, .inl ce)), ((q 1), .inl (cZ, 144, .inl bk)), ((q 10), .inl (cI, 4096, .inl ka)), ((q 11), .inl (cI, 4096, .inl kc)), ((q 12), .inl (cI, 4096, .inl kb)), ((q 13), .inl (cZ, 4096, .inl kd)), ((q 0), .inr (6, [.ref (q 1), .ref (q 2), .int on, .int hm, .int aw, .int tk, .ref (q 3), .ref (q 4), .ref (q 5), .int (nI sn), .ref (q 6), .ref (q 7), .ref (q 8), .ref (q 9), .int (nI kn), .ref (q 10), .ref (q 11), .ref (q 12), .ref (q 13), .ref (q 14), .ref (q 15), .ref (q 16), .ref (q 17), .int 0]))] := hD
            obtain rfl := hr_32.symm
            refine W.widen (k := 0) (n := 0) (Nat.le_refl _) (Nat.le_refl _) ?_
            refine tp_eq (y := 0) rfl ?_
            refine lv_if_eq (tgt := 93) hx hb dX6_call_88 (by decide) (fun _ => ?_) (fun c_33 => absurd (by decide) c_33)
            refine lv_aload_n hx hb dX6_call_93 rfl (lv_at hl 2 rfl) ?_
            refine va_get (D := D) (ci := 6) (v := .ref (q 10)) (C := RX6) (T := TX6) (N := 24) hx hb hts hi_X6 hown hK hP 7 rfl rfl 15 (by decide) hf_38 (fun _ h9 => h9) rfl dX6_call_94 ?_
            refine lv_aload_n hx hb dX6_call_97 rfl (lv_at hl 2 rfl) ?_
            refine va_get (D := D) (ci := 6) (v := .int (nI kn)) (C := RX6) (T := TX6) (N := 24) hx hb hts hi_X6 hown hK hP 7 rfl rfl 14 (by decide) hf_113 (fun _ h9 => h9) rfl dX6_call_98 ?_
            refine lv_iload_n hx hb dX6_call_101 rfl (lv_at hl 4 rfl) ?_
            refine va_iast hx hb hK hP hD hS 3 0 rfl rfl (vp_in_nI (n := kn) (by omega) (by decide)) dX6_call_102 (fun H locs hP hD hS => ?_)
            rw [nI_clamp (n := kn) (by omega)] at hP hD
            have hP : va_P D vwCl [((q 2), .inl (cI, 2, .inl rf)), ((q 3), .inl (cI, 6, .inl ce)), ((q 1), .inl (cZ, 144, .inl bk)), ((q 10), .inl (cI, 4096, .inl (upd ka kn p2))), ((q 11), .inl (cI, 4096, .inl kc)), ((q 12), .inl (cI, 4096, .inl kb)), ((q 13), .inl (cZ, 4096, .inl kd)), ((q 0), .inr (6, [.ref (q 1), .ref (q 2), .int on, .int hm, .int aw, .int tk, .ref (q 3), .ref (q 4), .ref (q 5), .int (nI sn), .ref (q 6), .ref (q 7), .ref (q 8), .ref (q 9), .int (nI kn), .ref (q 10), .ref (q 11), .ref (q 12), .ref (q 13), .ref (q 14), .ref (q 15), .ref (q 16), .ref (q 17), .int 0]))] H := hP
            have hD : va_D A [((q 2), .inl (cI, 2, .inl rf)), ((q 3), .inl (cI, 6, .inl ce)), ((q 1), .inl (cZ, 144, .inl bk)), ((q 10), .inl (cI, 4096, .inl (upd ka kn p2))), ((q 11), .inl (cI, 4096, .inl kc)), ((q 12), .inl (cI, 4096, .inl kb)), ((q 13), .inl (cZ, 4096, .inl kd)), ((q 0), .inr (6, [.ref (q 1), .ref (q 2), .int on, .int hm, .int aw, .int tk, .ref (q 3), .ref (q 4), .ref (q 5), .int (nI sn), .ref (q 6), .ref (q 7), .ref (q 8), .ref (q 9), .int (nI kn), .ref (q 10), .ref (q 11), .ref (q 12), .ref (q 13), .ref (q 14), .ref (q 15), .ref (q 16), .ref (q 17), .int 0]))] := hD
            refine lv_aload_n hx hb dX6_call_103 rfl (lv_at hl 2 rfl) ?_
            refine va_get (D := D) (ci := 6) (v := .ref (q 11)) (C := RX6) (T := TX6) (N := 24) hx hb hts hi_X6 hown hK hP 7 rfl rfl 16 (by decide) hf_41 (fun _ h9 => h9) rfl dX6_call_104 ?_
            refine lv_aload_n hx hb dX6_call_107 rfl (lv_at hl 2 rfl) ?_
            refine va_get (D := D) (ci := 6) (v := .int (nI kn)) (C := RX6) (T := TX6) (N := 24) hx hb hts hi_X6 hown hK hP 7 rfl rfl 14 (by decide) hf_113 (fun _ h9 => h9) rfl dX6_call_108 ?_
            refine lv_aload_n hx hb dX6_call_111 rfl (lv_at hl 2 rfl) ?_
            refine va_get (D := D) (ci := 6) (v := .int tk) (C := RX6) (T := TX6) (N := 24) hx hb hts hi_X6 hown hK hP 7 rfl rfl 5 (by decide) hf_107 (fun _ h9 => h9) rfl dX6_call_112 ?_
            refine va_iast hx hb hK hP hD hS 4 0 rfl rfl (vp_in_nI (n := kn) (by omega) (by decide)) dX6_call_115 (fun H locs hP hD hS => ?_)
            rw [nI_clamp (n := kn) (by omega)] at hP hD
            have hP : va_P D vwCl [((q 2), .inl (cI, 2, .inl rf)), ((q 3), .inl (cI, 6, .inl ce)), ((q 1), .inl (cZ, 144, .inl bk)), ((q 10), .inl (cI, 4096, .inl (upd ka kn p2))), ((q 11), .inl (cI, 4096, .inl (upd kc kn tk))), ((q 12), .inl (cI, 4096, .inl kb)), ((q 13), .inl (cZ, 4096, .inl kd)), ((q 0), .inr (6, [.ref (q 1), .ref (q 2), .int on, .int hm, .int aw, .int tk, .ref (q 3), .ref (q 4), .ref (q 5), .int (nI sn), .ref (q 6), .ref (q 7), .ref (q 8), .ref (q 9), .int (nI kn), .ref (q 10), .ref (q 11), .ref (q 12), .ref (q 13), .ref (q 14), .ref (q 15), .ref (q 16), .ref (q 17), .int 0]))] H := hP
            have hD : va_D A [((q 2), .inl (cI, 2, .inl rf)), ((q 3), .inl (cI, 6, .inl ce)), ((q 1), .inl (cZ, 144, .inl bk)), ((q 10), .inl (cI, 4096, .inl (upd ka kn p2))), ((q 11), .inl (cI, 4096, .inl (upd kc kn tk))), ((q 12), .inl (cI, 4096, .inl kb)), ((q 13), .inl (cZ, 4096, .inl kd)), ((q 0), .inr (6, [.ref (q 1), .ref (q 2), .int on, .int hm, .int aw, .int tk, .ref (q 3), .ref (q 4), .ref (q 5), .int (nI sn), .ref (q 6), .ref (q 7), .ref (q 8), .ref (q 9), .int (nI kn), .ref (q 10), .ref (q 11), .ref (q 12), .ref (q 13), .ref (q 14), .ref (q 15), .ref (q 16), .ref (q 17), .int 0]))] := hD
            refine lv_aload_n hx hb dX6_call_116 rfl (lv_at hl 2 rfl) ?_
            refine va_get (D := D) (ci := 6) (v := .ref (q 12)) (C := RX6) (T := TX6) (N := 24) hx hb hts hi_X6 hown hK hP 7 rfl rfl 17 (by decide) hf_44 (fun _ h9 => h9) rfl dX6_call_117 ?_
            refine lv_aload_n hx hb dX6_call_120 rfl (lv_at hl 2 rfl) ?_
            refine va_get (D := D) (ci := 6) (v := .int (nI kn)) (C := RX6) (T := TX6) (N := 24) hx hb hts hi_X6 hown hK hP 7 rfl rfl 14 (by decide) hf_113 (fun _ h9 => h9) rfl dX6_call_121 ?_
            refine lv_aload_n hx hb dX6_call_124 rfl (lv_at hl 2 rfl) ?_
            refine va_get (D := D) (ci := 6) (v := .ref (q 3)) (C := RX6) (T := TX6) (N := 24) hx hb hts hi_X6 hown hK hP 7 rfl rfl 6 (by decide) hf_17 (fun _ h9 => h9) rfl dX6_call_125 ?_
            refine lv_iload_n hx hb dX6_call_128 rfl (lv_at hl 4 rfl) ?_
            refine va_iald hx hb hK hP 1 0 rfl rfl (by assumption) dX6_call_129 ?_
            refine va_iast hx hb hK hP hD hS 5 0 rfl rfl (vp_in_nI (n := kn) (by omega) (by decide)) dX6_call_130 (fun H locs hP hD hS => ?_)
            rw [nI_clamp (n := kn) (by omega)] at hP hD
            have hP : va_P D vwCl [((q 2), .inl (cI, 2, .inl rf)), ((q 3), .inl (cI, 6, .inl ce)), ((q 1), .inl (cZ, 144, .inl bk)), ((q 10), .inl (cI, 4096, .inl (upd ka kn p2))), ((q 11), .inl (cI, 4096, .inl (upd kc kn tk))), ((q 12), .inl (cI, 4096, .inl (upd kb kn (ce p2.toNatClampNeg)))), ((q 13), .inl (cZ, 4096, .inl kd)), ((q 0), .inr (6, [.ref (q 1), .ref (q 2), .int on, .int hm, .int aw, .int tk, .ref (q 3), .ref (q 4), .ref (q 5), .int (nI sn), .ref (q 6), .ref (q 7), .ref (q 8), .ref (q 9), .int (nI kn), .ref (q 10), .ref (q 11), .ref (q 12), .ref (q 13), .ref (q 14), .ref (q 15), .ref (q 16), .ref (q 17), .int 0]))] H := hP
            have hD : va_D A [((q 2), .inl (cI, 2, .inl rf)), ((q 3), .inl (cI, 6, .inl ce)), ((q 1), .inl (cZ, 144, .inl bk)), ((q 10), .inl (cI, 4096, .inl (upd ka kn p2))), ((q 11), .inl (cI, 4096, .inl (upd kc kn tk))), ((q 12), .inl (cI, 4096, .inl (upd kb kn (ce p2.toNatClampNeg)))), ((q 13), .inl (cZ, 4096, .inl kd)), ((q 0), .inr (6, [.ref (q 1), .ref (q 2), .int on, .int hm, .int aw, .int tk, .ref (q 3), .ref (q 4), .ref (q 5), .int (nI sn), .ref (q 6), .ref (q 7), .ref (q 8), .ref (q 9), .int (nI kn), .ref (q 10), .ref (q 11), .ref (q 12), .ref (q 13), .ref (q 14), .ref (q 15), .ref (q 16), .ref (q 17), .int 0]))] := hD
            refine lv_aload_n hx hb dX6_call_131 rfl (lv_at hl 2 rfl) ?_
            refine va_get (D := D) (ci := 6) (v := .ref (q 13)) (C := RX6) (T := TX6) (N := 24) hx hb hts hi_X6 hown hK hP 7 rfl rfl 18 (by decide) hf_47 (fun _ h9 => h9) rfl dX6_call_132 ?_
            refine lv_aload_n hx hb dX6_call_135 rfl (lv_at hl 2 rfl) ?_
            refine va_get (D := D) (ci := 6) (v := .int (nI kn)) (C := RX6) (T := TX6) (N := 24) hx hb hts hi_X6 hown hK hP 7 rfl rfl 14 (by decide) hf_113 (fun _ h9 => h9) rfl dX6_call_136 ?_
            refine lv_iconst (v := 0) hx hb dX6_call_139 (by decide) ?_
            refine va_zast hx hb hK hP hD hS 6 1 rfl rfl (vp_in_nI (n := kn) (by omega) (by decide)) dX6_call_140 (fun H locs hP hD hS => ?_)
            rw [nI_clamp (n := kn) (by omega)] at hP hD
            have hP : va_P D vwCl [((q 2), .inl (cI, 2, .inl rf)), ((q 3), .inl (cI, 6, .inl ce)), ((q 1), .inl (cZ, 144, .inl bk)), ((q 10), .inl (cI, 4096, .inl (upd ka kn p2))), ((q 11), .inl (cI, 4096, .inl (upd kc kn tk))), ((q 12), .inl (cI, 4096, .inl (upd kb kn (ce p2.toNatClampNeg)))), ((q 13), .inl (cZ, 4096, .inl (upd kd kn 0))), ((q 0), .inr (6, [.ref (q 1), .ref (q 2), .int on, .int hm, .int aw, .int tk, .ref (q 3), .ref (q 4), .ref (q 5), .int (nI sn), .ref (q 6), .ref (q 7), .ref (q 8), .ref (q 9), .int (nI kn), .ref (q 10), .ref (q 11), .ref (q 12), .ref (q 13), .ref (q 14), .ref (q 15), .ref (q 16), .ref (q 17), .int 0]))] H := hP
            have hD : va_D A [((q 2), .inl (cI, 2, .inl rf)), ((q 3), .inl (cI, 6, .inl ce)), ((q 1), .inl (cZ, 144, .inl bk)), ((q 10), .inl (cI, 4096, .inl (upd ka kn p2))), ((q 11), .inl (cI, 4096, .inl (upd kc kn tk))), ((q 12), .inl (cI, 4096, .inl (upd kb kn (ce p2.toNatClampNeg)))), ((q 13), .inl (cZ, 4096, .inl (upd kd kn 0))), ((q 0), .inr (6, [.ref (q 1), .ref (q 2), .int on, .int hm, .int aw, .int tk, .ref (q 3), .ref (q 4), .ref (q 5), .int (nI sn), .ref (q 6), .ref (q 7), .ref (q 8), .ref (q 9), .int (nI kn), .ref (q 10), .ref (q 11), .ref (q 12), .ref (q 13), .ref (q 14), .ref (q 15), .ref (q 16), .ref (q 17), .int 0]))] := hD
            refine lv_aload_n hx hb dX6_call_141 rfl (lv_at hl 2 rfl) ?_
            refine va_get (D := D) (ci := 6) (v := .ref (q 3)) (C := RX6) (T := TX6) (N := 24) hx hb hts hi_X6 hown hK hP 7 rfl rfl 6 (by decide) hf_17 (fun _ h9 => h9) rfl dX6_call_142 ?_
            refine lv_iload_n hx hb dX6_call_145 rfl (lv_at hl 4 rfl) ?_
            refine lv_bipush (v := (-2)) hx hb dX6_call_146 (by decide) ?_
            refine va_iast hx hb hK hP hD hS 1 0 rfl rfl (by assumption) dX6_call_148 (fun H locs hP hD hS => ?_)
            have hP : va_P D vwCl [((q 2), .inl (cI, 2, .inl rf)), ((q 3), .inl (cI, 6, .inl (upd ce p2.toNatClampNeg (-2)))), ((q 1), .inl (cZ, 144, .inl bk)), ((q 10), .inl (cI, 4096, .inl (upd ka kn p2))), ((q 11), .inl (cI, 4096, .inl (upd kc kn tk))), ((q 12), .inl (cI, 4096, .inl (upd kb kn (ce p2.toNatClampNeg)))), ((q 13), .inl (cZ, 4096, .inl (upd kd kn 0))), ((q 0), .inr (6, [.ref (q 1), .ref (q 2), .int on, .int hm, .int aw, .int tk, .ref (q 3), .ref (q 4), .ref (q 5), .int (nI sn), .ref (q 6), .ref (q 7), .ref (q 8), .ref (q 9), .int (nI kn), .ref (q 10), .ref (q 11), .ref (q 12), .ref (q 13), .ref (q 14), .ref (q 15), .ref (q 16), .ref (q 17), .int 0]))] H := hP
            have hD : va_D A [((q 2), .inl (cI, 2, .inl rf)), ((q 3), .inl (cI, 6, .inl (upd ce p2.toNatClampNeg (-2)))), ((q 1), .inl (cZ, 144, .inl bk)), ((q 10), .inl (cI, 4096, .inl (upd ka kn p2))), ((q 11), .inl (cI, 4096, .inl (upd kc kn tk))), ((q 12), .inl (cI, 4096, .inl (upd kb kn (ce p2.toNatClampNeg)))), ((q 13), .inl (cZ, 4096, .inl (upd kd kn 0))), ((q 0), .inr (6, [.ref (q 1), .ref (q 2), .int on, .int hm, .int aw, .int tk, .ref (q 3), .ref (q 4), .ref (q 5), .int (nI sn), .ref (q 6), .ref (q 7), .ref (q 8), .ref (q 9), .int (nI kn), .ref (q 10), .ref (q 11), .ref (q 12), .ref (q 13), .ref (q 14), .ref (q 15), .ref (q 16), .ref (q 17), .int 0]))] := hD
            refine lv_aload_n hx hb dX6_call_149 rfl (lv_at hl 2 rfl) ?_
            refine lv_dup hx hb dX6_call_150 rfl ?_
            refine va_get (D := D) (ci := 6) (v := .int (nI kn)) (C := RX6) (T := TX6) (N := 24) hx hb hts hi_X6 hown hK hP 7 rfl rfl 14 (by decide) hf_113 (fun _ h9 => h9) rfl dX6_call_151 ?_
            refine lv_iconst (v := 1) hx hb dX6_call_154 (by decide) ?_
            refine lv_iadd hx hb dX6_call_155 ?_
            refine tp_eq (y := nI (kn + 1)) (nI_1 kn) ?_
            refine va_put (D := D) (ci := 6) (v := .int (nI (kn + 1))) (ty := .int) (C := RX6) (T := TX6) (N := 24) hx hb hts hi_X6 tyX6 tyX6_ok nmX6 hown hK hP hD hS 7 rfl rfl 14 (by decide) hf_113 (fun _ h9 => h9) rfl (by decide +kernel) rfl rfl (Nat.le_of_ble_eq_true rfl) dX6_call_156 (fun H locs hP hD hS => ?_)
            have hP : va_P D vwCl [((q 2), .inl (cI, 2, .inl rf)), ((q 3), .inl (cI, 6, .inl (upd ce p2.toNatClampNeg (-2)))), ((q 1), .inl (cZ, 144, .inl bk)), ((q 10), .inl (cI, 4096, .inl (upd ka kn p2))), ((q 11), .inl (cI, 4096, .inl (upd kc kn tk))), ((q 12), .inl (cI, 4096, .inl (upd kb kn (ce p2.toNatClampNeg)))), ((q 13), .inl (cZ, 4096, .inl (upd kd kn 0))), ((q 0), .inr (6, [.ref (q 1), .ref (q 2), .int on, .int hm, .int aw, .int tk, .ref (q 3), .ref (q 4), .ref (q 5), .int (nI sn), .ref (q 6), .ref (q 7), .ref (q 8), .ref (q 9), .int (nI (kn + 1)), .ref (q 10), .ref (q 11), .ref (q 12), .ref (q 13), .ref (q 14), .ref (q 15), .ref (q 16), .ref (q 17), .int 0]))] H := hP
            have hD : va_D A [((q 2), .inl (cI, 2, .inl rf)), ((q 3), .inl (cI, 6, .inl (upd ce p2.toNatClampNeg (-2)))), ((q 1), .inl (cZ, 144, .inl bk)), ((q 10), .inl (cI, 4096, .inl (upd ka kn p2))), ((q 11), .inl (cI, 4096, .inl (upd kc kn tk))), ((q 12), .inl (cI, 4096, .inl (upd kb kn (ce p2.toNatClampNeg)))), ((q 13), .inl (cZ, 4096, .inl (upd kd kn 0))), ((q 0), .inr (6, [.ref (q 1), .ref (q 2), .int on, .int hm, .int aw, .int tk, .ref (q 3), .ref (q 4), .ref (q 5), .int (nI sn), .ref (q 6), .ref (q 7), .ref (q 8), .ref (q 9), .int (nI (kn + 1)), .ref (q 10), .ref (q 11), .ref (q 12), .ref (q 13), .ref (q 14), .ref (q 15), .ref (q 16), .ref (q 17), .int 0]))] := hD
            refine lv_aload_n hx hb dX6_call_159 rfl (lv_at hl 2 rfl) ?_
            refine va_get (D := D) (ci := 6) (v := .int (nI (kn + 1))) (C := RX6) (T := TX6) (N := 24) hx hb hts hi_X6 hown hK hP 7 rfl rfl 14 (by decide) hf_113 (fun _ h9 => h9) rfl dX6_call_160 ?_
            refine lv_iconst (v := 1) hx hb dX6_call_163 (by decide) ?_
            refine lv_isub hx hb dX6_call_164 ?_
            refine tp_eq (y := nI kn) (nI_pred kn) ?_
            have hP9 := hP.sub (ws' := [((q 0), .inr (6, [.ref (q 1), .ref (q 2), .int on, .int hm, .int aw, .int tk, .ref (q 3), .ref (q 4), .ref (q 5), .int (nI sn), .ref (q 6), .ref (q 7), .ref (q 8), .ref (q 9), .int (nI (kn + 1)), .ref (q 10), .ref (q 11), .ref (q 12), .ref (q 13), .ref (q 14), .ref (q 15), .ref (q 16), .ref (q 17), .int 0])), ((q 2), .inl (cI, 2, .inl rf)), ((q 3), .inl (cI, 6, .inl (upd ce p2.toNatClampNeg (-2)))), ((q 1), .inl (cZ, 144, .inl bk)), ((q 10), .inl (cI, 4096, .inl (upd ka kn p2))), ((q 11), .inl (cI, 4096, .inl (upd kc kn tk))), ((q 12), .inl (cI, 4096, .inl (upd kb kn (ce p2.toNatClampNeg)))), ((q 13), .inl (cZ, 4096, .inl (upd kd kn 0)))]) [7, 0, 1, 2, 3, 4, 5, 6] rfl
            have hD9 := hD.sub (ws' := [((q 0), .inr (6, [.ref (q 1), .ref (q 2), .int on, .int hm, .int aw, .int tk, .ref (q 3), .ref (q 4), .ref (q 5), .int (nI sn), .ref (q 6), .ref (q 7), .ref (q 8), .ref (q 9), .int (nI (kn + 1)), .ref (q 10), .ref (q 11), .ref (q 12), .ref (q 13), .ref (q 14), .ref (q 15), .ref (q 16), .ref (q 17), .int 0])), ((q 2), .inl (cI, 2, .inl rf)), ((q 3), .inl (cI, 6, .inl (upd ce p2.toNatClampNeg (-2)))), ((q 1), .inl (cZ, 144, .inl bk)), ((q 10), .inl (cI, 4096, .inl (upd ka kn p2))), ((q 11), .inl (cI, 4096, .inl (upd kc kn tk))), ((q 12), .inl (cI, 4096, .inl (upd kb kn (ce p2.toNatClampNeg)))), ((q 13), .inl (cZ, 4096, .inl (upd kd kn 0)))]) [7, 0, 1, 2, 3, 4, 5, 6] (by decide) rfl
            -- leaf 5
            refine W.widen (k := 0) (n := 0) (Nat.le_refl _) (Nat.le_refl _) ?_
            exact W.iret (v := nI kn) hx hb hr (fun t ht hW => ⟨⟨nI kn, (upd ce p2.toNatClampNeg (-2), (kn + 1), upd ka kn p2, upd kb kn (ce p2.toNatClampNeg), upd kc kn tk, upd kd kn 0, 0), rfl, ⟨(by rw [f_X6_call, if_neg c_2, if_neg c_8, if_neg c_14, if_neg c_19, if_neg c_25]), (by rw [g_ce_X6_call, if_neg c_2, if_neg c_8, if_neg c_14, if_neg c_19, if_neg c_25]), (by rw [g_kn_X6_call, if_neg c_2, if_neg c_8, if_neg c_14, if_neg c_19, if_neg c_25]), (by rw [g_ka_X6_call, if_neg c_2, if_neg c_8, if_neg c_14, if_neg c_19, if_neg c_25]), (by rw [g_kb_X6_call, if_neg c_2, if_neg c_8, if_neg c_14, if_neg c_19, if_neg c_25]), (by rw [g_kc_X6_call, if_neg c_2, if_neg c_8, if_neg c_14, if_neg c_19, if_neg c_25]), (by rw [g_kd_X6_call, if_neg c_2, if_neg c_8, if_neg c_14, if_neg c_19, if_neg c_25]), (by rw [g_th_X6_call, if_neg c_2, if_neg c_8, if_neg c_14, if_neg c_19, if_neg c_25])⟩, by rw [ht]; exact hP9, va_K.moved hW.alike hK, hD9⟩, hS.F ht⟩) hS.2.2 dX6_call_165

theorem mteam_in {on hm aw tk : Int32} {sn kn : Nat} {th p1 : Int32} (h1 : vp_in hm 6) (h2 : vp_in aw 6) : vp_in (f_X6_teamOf on hm aw tk sn kn th p1) 6 := by
  unfold f_X6_teamOf
  split <;> assumption
noncomputable def f_X6_dispute (on : Int32) (hm : Int32) (aw : Int32) (tk : Int32) (ce : Nat → Int32) (hi : Nat → Int32) (sn : Nat) (kn : Nat) (ka : Nat → Int32) (kb : Nat → Int32) (kc : Nat → Int32) (kd : Nat → Int32) (fn : Nat → Int32) (th : Int32) (p1 : Int32) : Int32 := if on = 0 then 0 else (if (f_X6_isIn p1 0 ((nI kn) - 1)) = 0 then 0 else (if (kd p1.toNatClampNeg) = 0 then (if (hi (ka p1.toNatClampNeg).toNatClampNeg) = (-1) then 0 else (if (kc p1.toNatClampNeg) < (hi (ka p1.toNatClampNeg).toNatClampNeg) then 0 else 1)) else 0))
noncomputable def g_ce_X6_dispute (on : Int32) (hm : Int32) (aw : Int32) (tk : Int32) (ce : Nat → Int32) (hi : Nat → Int32) (sn : Nat) (kn : Nat) (ka : Nat → Int32) (kb : Nat → Int32) (kc : Nat → Int32) (kd : Nat → Int32) (fn : Nat → Int32) (th : Int32) (p1 : Int32) : Nat → Int32 := if on = 0 then ce else (if (f_X6_isIn p1 0 ((nI kn) - 1)) = 0 then ce else (if (kd p1.toNatClampNeg) = 0 then (if (hi (ka p1.toNatClampNeg).toNatClampNeg) = (-1) then (if (sOn ce (kb p1.toNatClampNeg) 6) = (-1) then upd ce ((ka p1.toNatClampNeg).toNatClampNeg) (kb p1.toNatClampNeg) else upd ce ((ka p1.toNatClampNeg).toNatClampNeg) (-1)) else (if (kc p1.toNatClampNeg) < (hi (ka p1.toNatClampNeg).toNatClampNeg) then (if (sOn ce (kb p1.toNatClampNeg) 6) = (-1) then upd ce ((ka p1.toNatClampNeg).toNatClampNeg) (kb p1.toNatClampNeg) else upd ce ((ka p1.toNatClampNeg).toNatClampNeg) (-1)) else ce)) else ce))
noncomputable def g_kd_X6_dispute (on : Int32) (hm : Int32) (aw : Int32) (tk : Int32) (ce : Nat → Int32) (hi : Nat → Int32) (sn : Nat) (kn : Nat) (ka : Nat → Int32) (kb : Nat → Int32) (kc : Nat → Int32) (kd : Nat → Int32) (fn : Nat → Int32) (th : Int32) (p1 : Int32) : Nat → Int32 := if on = 0 then kd else (if (f_X6_isIn p1 0 ((nI kn) - 1)) = 0 then kd else (if (kd p1.toNatClampNeg) = 0 then upd kd p1.toNatClampNeg 1 else kd))
noncomputable def g_fn_X6_dispute (on : Int32) (hm : Int32) (aw : Int32) (tk : Int32) (ce : Nat → Int32) (hi : Nat → Int32) (sn : Nat) (kn : Nat) (ka : Nat → Int32) (kb : Nat → Int32) (kc : Nat → Int32) (kd : Nat → Int32) (fn : Nat → Int32) (th : Int32) (p1 : Int32) : Nat → Int32 := if on = 0 then fn else (if (f_X6_isIn p1 0 ((nI kn) - 1)) = 0 then fn else (if (kd p1.toNatClampNeg) = 0 then (if (hi (ka p1.toNatClampNeg).toNatClampNeg) = (-1) then fn else (if (kc p1.toNatClampNeg) < (hi (ka p1.toNatClampNeg).toNatClampNeg) then fn else upd fn ((f_X6_teamOf on hm aw tk sn kn 0 (ka p1.toNatClampNeg)).toNatClampNeg) ((fn (f_X6_teamOf on hm aw tk sn kn 0 (ka p1.toNatClampNeg)).toNatClampNeg) + 1))) else fn))
noncomputable def g_th_X6_dispute (on : Int32) (hm : Int32) (aw : Int32) (tk : Int32) (ce : Nat → Int32) (hi : Nat → Int32) (sn : Nat) (kn : Nat) (ka : Nat → Int32) (kb : Nat → Int32) (kc : Nat → Int32) (kd : Nat → Int32) (fn : Nat → Int32) (th : Int32) (p1 : Int32) : Int32 := if on = 0 then 1 else (if (f_X6_isIn p1 0 ((nI kn) - 1)) = 0 then 1 else (if (kd p1.toNatClampNeg) = 0 then 0 else 2))
set_option maxHeartbeats 4000000 in
set_option maxRecDepth 100000 in
theorem c_X6_dispute (l : Launch) (D : va_G) (cI cZ cJ cA : ClassId) (sz : Nat) (q : Nat → Nat) (on : Int32) (hm : Int32) (aw : Int32) (tk : Int32) (ce : Nat → Int32) (hi : Nat → Int32) (sn : Nat) (kn : Nat) (ka : Nat → Int32) (kb : Nat → Int32) (kc : Nat → Int32) (kd : Nat → Int32) (fn : Nat → Int32) (th : Int32) (p1 : Int32) (hkn : kn ≤ 4096) (hka : ∀ j : Nat, j < kn → vp_in (ka j) 6) (hhm : vp_in hm 6) (haw : vp_in aw 6) : Met l yX6_dispute wsX6_dispute ({ frames := 1, cells := 0, slots := 0, locals := 23 } : Room) (va_Pc [.ref (q 0), .int p1] (pcW D (tyL cI cZ cJ cA) [((q 0), .inr (6, [.ref (q 1), .ref (q 2), .int on, .int hm, .int aw, .int tk, .ref (q 3), .ref (q 4), .ref (q 5), .int (nI sn), .ref (q 6), .ref (q 7), .ref (q 8), .ref (q 9), .int (nI kn), .ref (q 10), .ref (q 11), .ref (q 12), .ref (q 13), .ref (q 14), .ref (q 15), .ref (q 16), .ref (q 17), .int th])), ((q 3), .inl (cI, 6, .inl ce)), ((q 4), .inl (cI, 6, .inl hi)), ((q 10), .inl (cI, 4096, .inl ka)), ((q 11), .inl (cI, 4096, .inl kc)), ((q 12), .inl (cI, 4096, .inl kb)), ((q 13), .inl (cZ, 4096, .inl kd)), ((q 15), .inl (cI, 6, .inl fn))] sz)) (va_Qi (fun (r : Int32) (u : (Nat → Int32) × (Nat → Int32) × (Nat → Int32) × (Int32)) => r = f_X6_dispute on hm aw tk ce hi sn kn ka kb kc kd fn th p1 ∧ u.1 = g_ce_X6_dispute on hm aw tk ce hi sn kn ka kb kc kd fn th p1 ∧ u.2.1 = g_kd_X6_dispute on hm aw tk ce hi sn kn ka kb kc kd fn th p1 ∧ u.2.2.1 = g_fn_X6_dispute on hm aw tk ce hi sn kn ka kb kc kd fn th p1 ∧ u.2.2.2 = g_th_X6_dispute on hm aw tk ce hi sn kn ka kb kc kd fn th p1) (fun u t => bcW D (tyL cI cZ cJ cA) (va_A [((q 0), .inr (6, [.ref (q 1), .ref (q 2), .int on, .int hm, .int aw, .int tk, .ref (q 3), .ref (q 4), .ref (q 5), .int (nI sn), .ref (q 6), .ref (q 7), .ref (q 8), .ref (q 9), .int (nI kn), .ref (q 10), .ref (q 11), .ref (q 12), .ref (q 13), .ref (q 14), .ref (q 15), .ref (q 16), .ref (q 17), .int th])), ((q 3), .inl (cI, 6, .inl ce)), ((q 4), .inl (cI, 6, .inl hi)), ((q 10), .inl (cI, 4096, .inl ka)), ((q 11), .inl (cI, 4096, .inl kc)), ((q 12), .inl (cI, 4096, .inl kb)), ((q 13), .inl (cZ, 4096, .inl kd)), ((q 15), .inl (cI, 6, .inl fn))] sz) [((q 0), .inr (6, [.ref (q 1), .ref (q 2), .int on, .int hm, .int aw, .int tk, .ref (q 3), .ref (q 4), .ref (q 5), .int (nI sn), .ref (q 6), .ref (q 7), .ref (q 8), .ref (q 9), .int (nI kn), .ref (q 10), .ref (q 11), .ref (q 12), .ref (q 13), .ref (q 14), .ref (q 15), .ref (q 16), .ref (q 17), .int u.2.2.2])), ((q 3), .inl (cI, 6, .inl u.1)), ((q 4), .inl (cI, 6, .inl hi)), ((q 10), .inl (cI, 4096, .inl ka)), ((q 11), .inl (cI, 4096, .inl kc)), ((q 12), .inl (cI, 4096, .inl kb)), ((q 13), .inl (cZ, 4096, .inl u.2.1)), ((q 15), .inl (cI, 6, .inl u.2.2.1))] t) (va_A [((q 0), .inr (6, [.ref (q 1), .ref (q 2), .int on, .int hm, .int aw, .int tk, .ref (q 3), .ref (q 4), .ref (q 5), .int (nI sn), .ref (q 6), .ref (q 7), .ref (q 8), .ref (q 9), .int (nI kn), .ref (q 10), .ref (q 11), .ref (q 12), .ref (q 13), .ref (q 14), .ref (q 15), .ref (q 16), .ref (q 17), .int th])), ((q 3), .inl (cI, 6, .inl ce)), ((q 4), .inl (cI, 6, .inl hi)), ((q 10), .inl (cI, 4096, .inl ka)), ((q 11), .inl (cI, 4096, .inl kc)), ((q 12), .inl (cI, 4096, .inl kb)), ((q 13), .inl (cZ, 4096, .inl kd)), ((q 15), .inl (cI, 6, .inl fn))] sz)) 0 0 (va_A [((q 0), .inr (6, [.ref (q 1), .ref (q 2), .int on, .int hm, .int aw, .int tk, .ref (q 3), .ref (q 4), .ref (q 5), .int (nI sn), .ref (q 6), .ref (q 7), .ref (q 8), .ref (q 9), .int (nI kn), .ref (q 10), .ref (q 11), .ref (q 12), .ref (q 13), .ref (q 14), .ref (q 15), .ref (q 16), .ref (q 17), .int th])), ((q 3), .inl (cI, 6, .inl ce)), ((q 4), .inl (cI, 6, .inl hi)), ((q 10), .inl (cI, 4096, .inl ka)), ((q 11), .inl (cI, 4096, .inl kc)), ((q 12), .inl (cI, 4096, .inl kb)), ((q 13), .inl (cZ, 4096, .inl kd)), ((q 15), .inl (cI, 6, .inl fn))] sz) := by
  refine Met.ofW (cc := cX6_dispute) (maxL := 5) (ret := (some .boolean)) (by decide) rfl ?_
  intro p e s m args below meth c s₁ B hml hv
  obtain ⟨rfl, hsz, hP, hK, hD0⟩ := hv
  have hx := B.exec
  have hb := B.bytes
  have hr := B.returns
  have hts := atoms_spec (ws := wsX6_dispute) B.pre
  have hown : s.vm.findClass RX6 = some m.cls := findClass_of_methodNamed B.named
  have hlocks := B.notSynchronized
  subst hsz
  have hD := hD0.self (sz := s.heap.size)
  generalize hAe : va_A [((q 0), .inr (6, [.ref (q 1), .ref (q 2), .int on, .int hm, .int aw, .int tk, .ref (q 3), .ref (q 4), .ref (q 5), .int (nI sn), .ref (q 6), .ref (q 7), .ref (q 8), .ref (q 9), .int (nI kn), .ref (q 10), .ref (q 11), .ref (q 12), .ref (q 13), .ref (q 14), .ref (q 15), .ref (q 16), .ref (q 17), .int th])), ((q 3), .inl (cI, 6, .inl ce)), ((q 4), .inl (cI, 6, .inl hi)), ((q 10), .inl (cI, 4096, .inl ka)), ((q 11), .inl (cI, 4096, .inl kc)), ((q 12), .inl (cI, 4096, .inl kb)), ((q 13), .inl (cZ, 4096, .inl kd)), ((q 15), .inl (cI, 6, .inl fn))] s.heap.size = A at hD ⊢
  have hA : ∀ q : Nat, s.heap.size ≤ q → A q := fun q h => by rw [← hAe]; exact Or.inr h
  have hAR : ∀ q : Nat, s.heap.size ≤ q → (fun q : Nat => s.heap.size ≤ q) q := fun _ h => h
  have hS : va_S A s.heap s.heap [] := va_S.rf
  have hP : va_P D vwCl [((q 0), .inr (6, [.ref (q 1), .ref (q 2), .int on, .int hm, .int aw, .int tk, .ref (q 3), .ref (q 4), .ref (q 5), .int (nI sn), .ref (q 6), .ref (q 7), .ref (q 8), .ref (q 9), .int (nI kn), .ref (q 10), .ref (q 11), .ref (q 12), .ref (q 13), .ref (q 14), .ref (q 15), .ref (q 16), .ref (q 17), .int th])), ((q 3), .inl (cI, 6, .inl ce)), ((q 4), .inl (cI, 6, .inl hi)), ((q 10), .inl (cI, 4096, .inl ka)), ((q 11), .inl (cI, 4096, .inl kc)), ((q 12), .inl (cI, 4096, .inl kb)), ((q 13), .inl (cZ, 4096, .inl kd)), ((q 15), .inl (cI, 6, .inl fn))] s.heap := hP
  have hl := lv_entry ([.ref (q 0), .int p1]) (n := 5) (Nat.le_of_ble_eq_true rfl)
  rw [lg_entry_eq]
  generalize (lg_sl ([.ref (q 0), .int p1]) ++ List.replicate (5 - (lg_sl ([.ref (q 0), .int p1])).length) Slot.unset).toArray = ls at hl ⊢
  have hl : lv_has ls 5 [(0, .ref (q 0)), (1, .int p1)] := hl
  have hf_84 := hts (.fieldLink RX6 84 "PaintballAtlasModel" "isOn" "Z") (by decide +kernel)
  have hi_X6 : ∀ w ∈ wsX60, w ∈ wsX6_dispute := by decide +kernel
  have hf_113 := hts (.fieldLink RX6 113 "PaintballAtlasModel" "calls" "I") (by decide +kernel)
  have hf_47 := hts (.fieldLink RX6 47 "PaintballAtlasModel" "isDisputed" "[Z") (by decide +kernel)
  have hf_38 := hts (.fieldLink RX6 38 "PaintballAtlasModel" "called" "[I") (by decide +kernel)
  have hf_20 := hts (.fieldLink RX6 20 "PaintballAtlasModel" "hit" "[I") (by decide +kernel)
  have hf_17 := hts (.fieldLink RX6 17 "PaintballAtlasModel" "where" "[I") (by decide +kernel)
  have hf_44 := hts (.fieldLink RX6 44 "PaintballAtlasModel" "calledOn" "[I") (by decide +kernel)
  have hf_41 := hts (.fieldLink RX6 41 "PaintballAtlasModel" "calledAt" "[I") (by decide +kernel)
  have hf_53 := hts (.fieldLink RX6 53 "PaintballAtlasModel" "fines" "[I") (by decide +kernel)
  refine lv_aload_n hx hb dX6_dispute_0 rfl (lv_at hl 0 rfl) ?_
  refine va_get (D := D) (ci := 6) (v := .int on) (C := RX6) (T := TX6) (N := 24) hx hb hts hi_X6 hown hK hP 0 rfl rfl 2 (by decide) hf_84 (fun _ h9 => h9) rfl dX6_dispute_1 ?_
  refine lv_if_eq (tgt := 25) hx hb dX6_dispute_4 (by decide) (fun c_1 => ?_) (fun c_1 => ?_)
  · refine lv_iconst (v := 0) hx hb dX6_dispute_25 (by decide) ?_
    refine lv_istore_n (lv' := [(2, .int 0), (0, .ref (q 0)), (1, .int p1)]) hx hb dX6_dispute_26 rfl hl (by decide) rfl (fun ls hl => ?_)
    refine lv_aload_n hx hb dX6_dispute_27 rfl (lv_at hl 1 rfl) ?_
    refine lv_iload_n hx hb dX6_dispute_28 rfl (lv_at hl 0 rfl) ?_
    refine lv_if_ne (tgt := 36) hx hb dX6_dispute_29 (by decide) (fun c_2 => absurd (by decide) c_2) (fun _ => ?_)
    refine lv_iconst (v := 1) hx hb dX6_dispute_32 (by decide) ?_
    refine lv_goto (tgt := 50) hx hb dX6_dispute_33 (by decide) ?_
    have hPc := hP.sub (ws' := [((q 0), .inr (6, [.ref (q 1), .ref (q 2), .int on, .int hm, .int aw, .int tk, .ref (q 3), .ref (q 4), .ref (q 5), .int (nI sn), .ref (q 6), .ref (q 7), .ref (q 8), .ref (q 9), .int (nI kn), .ref (q 10), .ref (q 11), .ref (q 12), .ref (q 13), .ref (q 14), .ref (q 15), .ref (q 16), .ref (q 17), .int th]))]) [0] rfl
    have hDc := hD.sub (ws' := [((q 0), .inr (6, [.ref (q 1), .ref (q 2), .int on, .int hm, .int aw, .int tk, .ref (q 3), .ref (q 4), .ref (q 5), .int (nI sn), .ref (q 6), .ref (q 7), .ref (q 8), .ref (q 9), .int (nI kn), .ref (q 10), .ref (q 11), .ref (q 12), .ref (q 13), .ref (q 14), .ref (q 15), .ref (q 16), .ref (q 17), .int th]))]) [0] (by decide) rfl
    have hFc := va_free (wc := [((q 0), .inr (6, [.ref (q 1), .ref (q 2), .int on, .int hm, .int aw, .int tk, .ref (q 3), .ref (q 4), .ref (q 5), .int (nI sn), .ref (q 6), .ref (q 7), .ref (q 8), .ref (q 9), .int (nI kn), .ref (q 10), .ref (q 11), .ref (q 12), .ref (q 13), .ref (q 14), .ref (q 15), .ref (q 16), .ref (q 17), .int th]))]) hD hS hA [0] rfl
    refine va_calli (va_runV (As := [.int 1]) (rest := []) ⟨hx, hb, hml, hown, hts⟩ (c_X6_fails l D cI cZ cJ cA s.heap.size q on hm aw tk sn kn th 1) (cwV 1 hts gX6_dispute_X6_fails rfl rfl rfl (by decide +kernel) ⟨Nat.le_of_ble_eq_true rfl, Nat.le_of_ble_eq_true rfl⟩) ⟨pcW_bl, va_recv hK hPc (ci := 6) (q0 := 0) rfl rfl, fun U hU hW => ⟨rfl, by rw [hU], by rw [hU]; exact hPc, va_K.moved hW.alike hK, hDc.weaken (fun _ _ _ _ => trivial)⟩⟩ rfl rfl hl.1 rfl (lv_room (Nat.le_of_ble_eq_true rfl)) dX6_dispute_50 ⟨Nat.le_of_ble_eq_true rfl, Nat.le_of_ble_eq_true rfl⟩) hS (fun q _ h => hFc q h) hFc (fun r_3 u t H locs ht hvm hw hB hz1 hk1 hS => ?_)
    try dsimp only at hw
    obtain ⟨u0_3, rfl⟩ : ∃ z, z = u := ⟨_, rfl⟩
    obtain ⟨hr_3, hu0_3⟩ := hw
    obtain ⟨hP1, hK1, hD1⟩ := hB
    rw [ht] at hP1
    obtain ⟨hP, hD⟩ := va_join (wr := [((q 3), .inl (cI, 6, .inl ce)), ((q 4), .inl (cI, 6, .inl hi)), ((q 10), .inl (cI, 4096, .inl ka)), ((q 11), .inl (cI, 4096, .inl kc)), ((q 12), .inl (cI, 4096, .inl kb)), ((q 13), .inl (cZ, 4096, .inl kd)), ((q 15), .inl (cI, 6, .inl fn))]) (w1 := [((q 0), .inr (6, [.ref (q 1), .ref (q 2), .int on, .int hm, .int aw, .int tk, .ref (q 3), .ref (q 4), .ref (q 5), .int (nI sn), .ref (q 6), .ref (q 7), .ref (q 8), .ref (q 9), .int (nI kn), .ref (q 10), .ref (q 11), .ref (q 12), .ref (q 13), .ref (q 14), .ref (q 15), .ref (q 16), .ref (q 17), .int u0_3]))]) hP hD [0] [1, 2, 3, 4, 5, 6, 7] rfl rfl (by decide) (by decide) hk1 hFc hP1 hD1
    obtain rfl := hu0_3.symm
    have hP : va_P D vwCl [((q 3), .inl (cI, 6, .inl ce)), ((q 4), .inl (cI, 6, .inl hi)), ((q 10), .inl (cI, 4096, .inl ka)), ((q 11), .inl (cI, 4096, .inl kc)), ((q 12), .inl (cI, 4096, .inl kb)), ((q 13), .inl (cZ, 4096, .inl kd)), ((q 15), .inl (cI, 6, .inl fn)), ((q 0), .inr (6, [.ref (q 1), .ref (q 2), .int on, .int hm, .int aw, .int tk, .ref (q 3), .ref (q 4), .ref (q 5), .int (nI sn), .ref (q 6), .ref (q 7), .ref (q 8), .ref (q 9), .int (nI kn), .ref (q 10), .ref (q 11), .ref (q 12), .ref (q 13), .ref (q 14), .ref (q 15), .ref (q 16), .ref (q 17), .int 1]))] H := hP
    have hD : va_D A [((q 3), .inl (cI, 6, .inl ce)), ((q 4), .inl (cI, 6, .inl hi)), ((q 10), .inl (cI, 4096, .inl ka)), ((q 11), .inl (cI, 4096, .inl kc)), ((q 12), .inl (cI, 4096, .inl kb)), ((q 13), .inl (cZ, 4096, .inl kd)), ((q 15), .inl (cI, 6, .inl fn)), ((q 0), .inr (6, [.ref (q 1), .ref (q 2), .int on, .int hm, .int aw, .int tk, .ref (q 3), .ref (q 4), .ref (q 5), .int (nI sn), .ref (q 6), .ref (q 7), .ref (q 8), .ref (q 9), .int (nI kn), .ref (q 10), .ref (q 11), .ref (q 12), .ref (q 13), .ref (q 14), .ref (q 15), .ref (q 16), .ref (q 17), .int 1]))] := hD
    obtain rfl := hr_3.symm
    refine W.widen (k := 0) (n := 0) (Nat.le_refl _) (Nat.le_refl _) ?_
    refine tp_eq (y := 1) rfl ?_
    refine lv_if_eq (tgt := 58) hx hb dX6_dispute_53 (by decide) (fun c_4 => absurd c_4 (by decide)) (fun _ => ?_)
    refine lv_iconst (v := 0) hx hb dX6_dispute_56 (by decide) ?_
    have hP9 := hP.sub (ws' := [((q 0), .inr (6, [.ref (q 1), .ref (q 2), .int on, .int hm, .int aw, .int tk, .ref (q 3), .ref (q 4), .ref (q 5), .int (nI sn), .ref (q 6), .ref (q 7), .ref (q 8), .ref (q 9), .int (nI kn), .ref (q 10), .ref (q 11), .ref (q 12), .ref (q 13), .ref (q 14), .ref (q 15), .ref (q 16), .ref (q 17), .int 1])), ((q 3), .inl (cI, 6, .inl ce)), ((q 4), .inl (cI, 6, .inl hi)), ((q 10), .inl (cI, 4096, .inl ka)), ((q 11), .inl (cI, 4096, .inl kc)), ((q 12), .inl (cI, 4096, .inl kb)), ((q 13), .inl (cZ, 4096, .inl kd)), ((q 15), .inl (cI, 6, .inl fn))]) [7, 0, 1, 2, 3, 4, 5, 6] rfl
    have hD9 := hD.sub (ws' := [((q 0), .inr (6, [.ref (q 1), .ref (q 2), .int on, .int hm, .int aw, .int tk, .ref (q 3), .ref (q 4), .ref (q 5), .int (nI sn), .ref (q 6), .ref (q 7), .ref (q 8), .ref (q 9), .int (nI kn), .ref (q 10), .ref (q 11), .ref (q 12), .ref (q 13), .ref (q 14), .ref (q 15), .ref (q 16), .ref (q 17), .int 1])), ((q 3), .inl (cI, 6, .inl ce)), ((q 4), .inl (cI, 6, .inl hi)), ((q 10), .inl (cI, 4096, .inl ka)), ((q 11), .inl (cI, 4096, .inl kc)), ((q 12), .inl (cI, 4096, .inl kb)), ((q 13), .inl (cZ, 4096, .inl kd)), ((q 15), .inl (cI, 6, .inl fn))]) [7, 0, 1, 2, 3, 4, 5, 6] (by decide) rfl
    -- leaf 0
    refine W.widen (k := 0) (n := 0) (Nat.le_refl _) (Nat.le_refl _) ?_
    exact W.zret (v := 0) (ty := .boolean) hx hb hr rfl (fun t ht hW => ⟨⟨0, (ce, kd, fn, 1), rfl, ⟨(by rw [f_X6_dispute, if_pos c_1]), (by rw [g_ce_X6_dispute, if_pos c_1]), (by rw [g_kd_X6_dispute, if_pos c_1]), (by rw [g_fn_X6_dispute, if_pos c_1]), (by rw [g_th_X6_dispute, if_pos c_1])⟩, by rw [ht]; exact hP9, va_K.moved hW.alike hK, hD9⟩, hS.F ht⟩) hS.2.2 dX6_dispute_57
  · refine lv_iload_n hx hb dX6_dispute_7 rfl (lv_at hl 1 rfl) ?_
    refine lv_iconst (v := 0) hx hb dX6_dispute_8 (by decide) ?_
    refine lv_aload_n hx hb dX6_dispute_9 rfl (lv_at hl 0 rfl) ?_
    refine va_get (D := D) (ci := 6) (v := .int (nI kn)) (C := RX6) (T := TX6) (N := 24) hx hb hts hi_X6 hown hK hP 0 rfl rfl 14 (by decide) hf_113 (fun _ h9 => h9) rfl dX6_dispute_10 ?_
    refine lv_iconst (v := 1) hx hb dX6_dispute_13 (by decide) ?_
    refine lv_isub hx hb dX6_dispute_14 ?_
    have hPc := hP.sub (ws' := []) [] rfl
    refine va_calli (va_runS (As := [.int p1, .int 0, .int ((nI kn) - 1)]) (rest := []) ⟨hx, hb, hml, hown, hts⟩ (c_X6_isIn l D cI cZ cJ cA s.heap.size p1 0 ((nI kn) - 1)) (va_cwS 3 hts gX6_dispute_X6_isIn rfl rfl rfl (by decide +kernel) ⟨Nat.le_of_ble_eq_true rfl, Nat.le_of_ble_eq_true rfl⟩) ⟨pcR_bl, fun U hU hW => ⟨rfl, by rw [hU], by rw [hU]; exact hPc, va_K.moved hW.alike hK⟩⟩ rfl rfl hl.1 rfl (lv_room (Nat.le_of_ble_eq_true rfl)) dX6_dispute_15 ⟨Nat.le_of_ble_eq_true rfl, Nat.le_of_ble_eq_true rfl⟩) hS (fun _ h1 h2 => absurd h1 (Nat.not_lt.mpr h2)) (rd_free hS hA) (fun r_5 u t H locs ht hvm hw hB hz1 hk1 hS => ?_)
    try dsimp only at hw
    have hr_5 := hw
    have hP := rd_P hP hk1
    obtain rfl := hr_5.symm
    refine W.widen (k := 0) (n := 0) (Nat.le_refl _) (Nat.le_refl _) ?_
    refine lv_if_eq (tgt := 25) hx hb dX6_dispute_18 (by decide) (fun c_6 => ?_) (fun c_6 => ?_)
    · refine lv_iconst (v := 0) hx hb dX6_dispute_25 (by decide) ?_
      refine lv_istore_n (lv' := [(2, .int 0), (0, .ref (q 0)), (1, .int p1)]) hx hb dX6_dispute_26 rfl hl (by decide) rfl (fun ls hl => ?_)
      refine lv_aload_n hx hb dX6_dispute_27 rfl (lv_at hl 1 rfl) ?_
      refine lv_iload_n hx hb dX6_dispute_28 rfl (lv_at hl 0 rfl) ?_
      refine lv_if_ne (tgt := 36) hx hb dX6_dispute_29 (by decide) (fun c_7 => absurd (by decide) c_7) (fun _ => ?_)
      refine lv_iconst (v := 1) hx hb dX6_dispute_32 (by decide) ?_
      refine lv_goto (tgt := 50) hx hb dX6_dispute_33 (by decide) ?_
      have hPc := hP.sub (ws' := [((q 0), .inr (6, [.ref (q 1), .ref (q 2), .int on, .int hm, .int aw, .int tk, .ref (q 3), .ref (q 4), .ref (q 5), .int (nI sn), .ref (q 6), .ref (q 7), .ref (q 8), .ref (q 9), .int (nI kn), .ref (q 10), .ref (q 11), .ref (q 12), .ref (q 13), .ref (q 14), .ref (q 15), .ref (q 16), .ref (q 17), .int th]))]) [0] rfl
      have hDc := hD.sub (ws' := [((q 0), .inr (6, [.ref (q 1), .ref (q 2), .int on, .int hm, .int aw, .int tk, .ref (q 3), .ref (q 4), .ref (q 5), .int (nI sn), .ref (q 6), .ref (q 7), .ref (q 8), .ref (q 9), .int (nI kn), .ref (q 10), .ref (q 11), .ref (q 12), .ref (q 13), .ref (q 14), .ref (q 15), .ref (q 16), .ref (q 17), .int th]))]) [0] (by decide) rfl
      have hFc := va_free (wc := [((q 0), .inr (6, [.ref (q 1), .ref (q 2), .int on, .int hm, .int aw, .int tk, .ref (q 3), .ref (q 4), .ref (q 5), .int (nI sn), .ref (q 6), .ref (q 7), .ref (q 8), .ref (q 9), .int (nI kn), .ref (q 10), .ref (q 11), .ref (q 12), .ref (q 13), .ref (q 14), .ref (q 15), .ref (q 16), .ref (q 17), .int th]))]) hD hS hA [0] rfl
      refine va_calli (va_runV (As := [.int 1]) (rest := []) ⟨hx, hb, hml, hown, hts⟩ (c_X6_fails l D cI cZ cJ cA H.size q on hm aw tk sn kn th 1) (cwV 1 hts gX6_dispute_X6_fails rfl rfl rfl (by decide +kernel) ⟨Nat.le_of_ble_eq_true rfl, Nat.le_of_ble_eq_true rfl⟩) ⟨pcW_bl, va_recv hK hPc (ci := 6) (q0 := 0) rfl rfl, fun U hU hW => ⟨rfl, by rw [hU], by rw [hU]; exact hPc, va_K.moved hW.alike hK, hDc.weaken (fun _ _ _ _ => trivial)⟩⟩ rfl rfl hl.1 rfl (lv_room (Nat.le_of_ble_eq_true rfl)) dX6_dispute_50 ⟨Nat.le_of_ble_eq_true rfl, Nat.le_of_ble_eq_true rfl⟩) hS (fun q _ h => hFc q h) hFc (fun r_8 u t H locs ht hvm hw hB hz1 hk1 hS => ?_)
      try dsimp only at hw
      obtain ⟨u0_8, rfl⟩ : ∃ z, z = u := ⟨_, rfl⟩
      obtain ⟨hr_8, hu0_8⟩ := hw
      obtain ⟨hP1, hK1, hD1⟩ := hB
      rw [ht] at hP1
      obtain ⟨hP, hD⟩ := va_join (wr := [((q 3), .inl (cI, 6, .inl ce)), ((q 4), .inl (cI, 6, .inl hi)), ((q 10), .inl (cI, 4096, .inl ka)), ((q 11), .inl (cI, 4096, .inl kc)), ((q 12), .inl (cI, 4096, .inl kb)), ((q 13), .inl (cZ, 4096, .inl kd)), ((q 15), .inl (cI, 6, .inl fn))]) (w1 := [((q 0), .inr (6, [.ref (q 1), .ref (q 2), .int on, .int hm, .int aw, .int tk, .ref (q 3), .ref (q 4), .ref (q 5), .int (nI sn), .ref (q 6), .ref (q 7), .ref (q 8), .ref (q 9), .int (nI kn), .ref (q 10), .ref (q 11), .ref (q 12), .ref (q 13), .ref (q 14), .ref (q 15), .ref (q 16), .ref (q 17), .int u0_8]))]) hP hD [0] [1, 2, 3, 4, 5, 6, 7] rfl rfl (by decide) (by decide) hk1 hFc hP1 hD1
      obtain rfl := hu0_8.symm
      have hP : va_P D vwCl [((q 3), .inl (cI, 6, .inl ce)), ((q 4), .inl (cI, 6, .inl hi)), ((q 10), .inl (cI, 4096, .inl ka)), ((q 11), .inl (cI, 4096, .inl kc)), ((q 12), .inl (cI, 4096, .inl kb)), ((q 13), .inl (cZ, 4096, .inl kd)), ((q 15), .inl (cI, 6, .inl fn)), ((q 0), .inr (6, [.ref (q 1), .ref (q 2), .int on, .int hm, .int aw, .int tk, .ref (q 3), .ref (q 4), .ref (q 5), .int (nI sn), .ref (q 6), .ref (q 7), .ref (q 8), .ref (q 9), .int (nI kn), .ref (q 10), .ref (q 11), .ref (q 12), .ref (q 13), .ref (q 14), .ref (q 15), .ref (q 16), .ref (q 17), .int 1]))] H := hP
      have hD : va_D A [((q 3), .inl (cI, 6, .inl ce)), ((q 4), .inl (cI, 6, .inl hi)), ((q 10), .inl (cI, 4096, .inl ka)), ((q 11), .inl (cI, 4096, .inl kc)), ((q 12), .inl (cI, 4096, .inl kb)), ((q 13), .inl (cZ, 4096, .inl kd)), ((q 15), .inl (cI, 6, .inl fn)), ((q 0), .inr (6, [.ref (q 1), .ref (q 2), .int on, .int hm, .int aw, .int tk, .ref (q 3), .ref (q 4), .ref (q 5), .int (nI sn), .ref (q 6), .ref (q 7), .ref (q 8), .ref (q 9), .int (nI kn), .ref (q 10), .ref (q 11), .ref (q 12), .ref (q 13), .ref (q 14), .ref (q 15), .ref (q 16), .ref (q 17), .int 1]))] := hD
      obtain rfl := hr_8.symm
      refine W.widen (k := 0) (n := 0) (Nat.le_refl _) (Nat.le_refl _) ?_
      refine tp_eq (y := 1) rfl ?_
      refine lv_if_eq (tgt := 58) hx hb dX6_dispute_53 (by decide) (fun c_9 => absurd c_9 (by decide)) (fun _ => ?_)
      refine lv_iconst (v := 0) hx hb dX6_dispute_56 (by decide) ?_
      have hP9 := hP.sub (ws' := [((q 0), .inr (6, [.ref (q 1), .ref (q 2), .int on, .int hm, .int aw, .int tk, .ref (q 3), .ref (q 4), .ref (q 5), .int (nI sn), .ref (q 6), .ref (q 7), .ref (q 8), .ref (q 9), .int (nI kn), .ref (q 10), .ref (q 11), .ref (q 12), .ref (q 13), .ref (q 14), .ref (q 15), .ref (q 16), .ref (q 17), .int 1])), ((q 3), .inl (cI, 6, .inl ce)), ((q 4), .inl (cI, 6, .inl hi)), ((q 10), .inl (cI, 4096, .inl ka)), ((q 11), .inl (cI, 4096, .inl kc)), ((q 12), .inl (cI, 4096, .inl kb)), ((q 13), .inl (cZ, 4096, .inl kd)), ((q 15), .inl (cI, 6, .inl fn))]) [7, 0, 1, 2, 3, 4, 5, 6] rfl
      have hD9 := hD.sub (ws' := [((q 0), .inr (6, [.ref (q 1), .ref (q 2), .int on, .int hm, .int aw, .int tk, .ref (q 3), .ref (q 4), .ref (q 5), .int (nI sn), .ref (q 6), .ref (q 7), .ref (q 8), .ref (q 9), .int (nI kn), .ref (q 10), .ref (q 11), .ref (q 12), .ref (q 13), .ref (q 14), .ref (q 15), .ref (q 16), .ref (q 17), .int 1])), ((q 3), .inl (cI, 6, .inl ce)), ((q 4), .inl (cI, 6, .inl hi)), ((q 10), .inl (cI, 4096, .inl ka)), ((q 11), .inl (cI, 4096, .inl kc)), ((q 12), .inl (cI, 4096, .inl kb)), ((q 13), .inl (cZ, 4096, .inl kd)), ((q 15), .inl (cI, 6, .inl fn))]) [7, 0, 1, 2, 3, 4, 5, 6] (by decide) rfl
      -- leaf 1
      refine W.widen (k := 0) (n := 0) (Nat.le_refl _) (Nat.le_refl _) ?_
      exact W.zret (v := 0) (ty := .boolean) hx hb hr rfl (fun t ht hW => ⟨⟨0, (ce, kd, fn, 1), rfl, ⟨(by rw [f_X6_dispute, if_neg c_1, if_pos c_6]), (by rw [g_ce_X6_dispute, if_neg c_1, if_pos c_6]), (by rw [g_kd_X6_dispute, if_neg c_1, if_pos c_6]), (by rw [g_fn_X6_dispute, if_neg c_1, if_pos c_6]), (by rw [g_th_X6_dispute, if_neg c_1, if_pos c_6])⟩, by rw [ht]; exact hP9, va_K.moved hW.alike hK, hD9⟩, hS.F ht⟩) hS.2.2 dX6_dispute_57
    · have hv0 : vp_in p1 kn := isIn_kn c_6 hkn
      have hv1 : vp_in p1 4096 := in_wide hv0 hkn
      have hv2 : vp_in (ka p1.toNatClampNeg) 6 := hka _ (in_cl hv0)
      refine lv_iconst (v := 1) hx hb dX6_dispute_21 (by decide) ?_
      refine lv_goto (tgt := 26) hx hb dX6_dispute_22 (by decide) ?_
      refine lv_istore_n (lv' := [(2, .int 1), (0, .ref (q 0)), (1, .int p1)]) hx hb dX6_dispute_26 rfl hl (by decide) rfl (fun ls hl => ?_)
      refine lv_aload_n hx hb dX6_dispute_27 rfl (lv_at hl 1 rfl) ?_
      refine lv_iload_n hx hb dX6_dispute_28 rfl (lv_at hl 0 rfl) ?_
      refine lv_if_ne (tgt := 36) hx hb dX6_dispute_29 (by decide) (fun _ => ?_) (fun c_10 => absurd c_10 (by decide))
      refine lv_aload_n hx hb dX6_dispute_36 rfl (lv_at hl 1 rfl) ?_
      refine va_get (D := D) (ci := 6) (v := .ref (q 13)) (C := RX6) (T := TX6) (N := 24) hx hb hts hi_X6 hown hK hP 0 rfl rfl 18 (by decide) hf_47 (fun _ h9 => h9) rfl dX6_dispute_37 ?_
      refine lv_iload_n hx hb dX6_dispute_40 rfl (lv_at hl 2 rfl) ?_
      refine va_zald hx hb hK hP 6 1 rfl rfl (by assumption) dX6_dispute_41 ?_
      refine lv_if_eq (tgt := 49) hx hb dX6_dispute_42 (by decide) (fun c_11 => ?_) (fun c_11 => ?_)
      · refine lv_iconst (v := 0) hx hb dX6_dispute_49 (by decide) ?_
        have hPc := hP.sub (ws' := [((q 0), .inr (6, [.ref (q 1), .ref (q 2), .int on, .int hm, .int aw, .int tk, .ref (q 3), .ref (q 4), .ref (q 5), .int (nI sn), .ref (q 6), .ref (q 7), .ref (q 8), .ref (q 9), .int (nI kn), .ref (q 10), .ref (q 11), .ref (q 12), .ref (q 13), .ref (q 14), .ref (q 15), .ref (q 16), .ref (q 17), .int th]))]) [0] rfl
        have hDc := hD.sub (ws' := [((q 0), .inr (6, [.ref (q 1), .ref (q 2), .int on, .int hm, .int aw, .int tk, .ref (q 3), .ref (q 4), .ref (q 5), .int (nI sn), .ref (q 6), .ref (q 7), .ref (q 8), .ref (q 9), .int (nI kn), .ref (q 10), .ref (q 11), .ref (q 12), .ref (q 13), .ref (q 14), .ref (q 15), .ref (q 16), .ref (q 17), .int th]))]) [0] (by decide) rfl
        have hFc := va_free (wc := [((q 0), .inr (6, [.ref (q 1), .ref (q 2), .int on, .int hm, .int aw, .int tk, .ref (q 3), .ref (q 4), .ref (q 5), .int (nI sn), .ref (q 6), .ref (q 7), .ref (q 8), .ref (q 9), .int (nI kn), .ref (q 10), .ref (q 11), .ref (q 12), .ref (q 13), .ref (q 14), .ref (q 15), .ref (q 16), .ref (q 17), .int th]))]) hD hS hA [0] rfl
        refine va_calli (va_runV (As := [.int 0]) (rest := []) ⟨hx, hb, hml, hown, hts⟩ (c_X6_fails l D cI cZ cJ cA H.size q on hm aw tk sn kn th 0) (cwV 1 hts gX6_dispute_X6_fails rfl rfl rfl (by decide +kernel) ⟨Nat.le_of_ble_eq_true rfl, Nat.le_of_ble_eq_true rfl⟩) ⟨pcW_bl, va_recv hK hPc (ci := 6) (q0 := 0) rfl rfl, fun U hU hW => ⟨rfl, by rw [hU], by rw [hU]; exact hPc, va_K.moved hW.alike hK, hDc.weaken (fun _ _ _ _ => trivial)⟩⟩ rfl rfl hl.1 rfl (lv_room (Nat.le_of_ble_eq_true rfl)) dX6_dispute_50 ⟨Nat.le_of_ble_eq_true rfl, Nat.le_of_ble_eq_true rfl⟩) hS (fun q _ h => hFc q h) hFc (fun r_12 u t H locs ht hvm hw hB hz1 hk1 hS => ?_)
        try dsimp only at hw
        obtain ⟨u0_12, rfl⟩ : ∃ z, z = u := ⟨_, rfl⟩
        obtain ⟨hr_12, hu0_12⟩ := hw
        obtain ⟨hP1, hK1, hD1⟩ := hB
        rw [ht] at hP1
        obtain ⟨hP, hD⟩ := va_join (wr := [((q 3), .inl (cI, 6, .inl ce)), ((q 4), .inl (cI, 6, .inl hi)), ((q 10), .inl (cI, 4096, .inl ka)), ((q 11), .inl (cI, 4096, .inl kc)), ((q 12), .inl (cI, 4096, .inl kb)), ((q 13), .inl (cZ, 4096, .inl kd)), ((q 15), .inl (cI, 6, .inl fn))]) (w1 := [((q 0), .inr (6, [.ref (q 1), .ref (q 2), .int on, .int hm, .int aw, .int tk, .ref (q 3), .ref (q 4), .ref (q 5), .int (nI sn), .ref (q 6), .ref (q 7), .ref (q 8), .ref (q 9), .int (nI kn), .ref (q 10), .ref (q 11), .ref (q 12), .ref (q 13), .ref (q 14), .ref (q 15), .ref (q 16), .ref (q 17), .int u0_12]))]) hP hD [0] [1, 2, 3, 4, 5, 6, 7] rfl rfl (by decide) (by decide) hk1 hFc hP1 hD1
        obtain rfl := hu0_12.symm
        have hP : va_P D vwCl [((q 3), .inl (cI, 6, .inl ce)), ((q 4), .inl (cI, 6, .inl hi)), ((q 10), .inl (cI, 4096, .inl ka)), ((q 11), .inl (cI, 4096, .inl kc)), ((q 12), .inl (cI, 4096, .inl kb)), ((q 13), .inl (cZ, 4096, .inl kd)), ((q 15), .inl (cI, 6, .inl fn)), ((q 0), .inr (6, [.ref (q 1), .ref (q 2), .int on, .int hm, .int aw, .int tk, .ref (q 3), .ref (q 4), .ref (q 5), .int (nI sn), .ref (q 6), .ref (q 7), .ref (q 8), .ref (q 9), .int (nI kn), .ref (q 10), .ref (q 11), .ref (q 12), .ref (q 13), .ref (q 14), .ref (q 15), .ref (q 16), .ref (q 17), .int 0]))] H := hP
        have hD : va_D A [((q 3), .inl (cI, 6, .inl ce)), ((q 4), .inl (cI, 6, .inl hi)), ((q 10), .inl (cI, 4096, .inl ka)), ((q 11), .inl (cI, 4096, .inl kc)), ((q 12), .inl (cI, 4096, .inl kb)), ((q 13), .inl (cZ, 4096, .inl kd)), ((q 15), .inl (cI, 6, .inl fn)), ((q 0), .inr (6, [.ref (q 1), .ref (q 2), .int on, .int hm, .int aw, .int tk, .ref (q 3), .ref (q 4), .ref (q 5), .int (nI sn), .ref (q 6), .ref (q 7), .ref (q 8), .ref (q 9), .int (nI kn), .ref (q 10), .ref (q 11), .ref (q 12), .ref (q 13), .ref (q 14), .ref (q 15), .ref (q 16), .ref (q 17), .int 0]))] := hD
        obtain rfl := hr_12.symm
        refine W.widen (k := 0) (n := 0) (Nat.le_refl _) (Nat.le_refl _) ?_
        refine tp_eq (y := 0) rfl ?_
        refine lv_if_eq (tgt := 58) hx hb dX6_dispute_53 (by decide) (fun _ => ?_) (fun c_13 => absurd (by decide) c_13)
        refine lv_aload_n hx hb dX6_dispute_58 rfl (lv_at hl 1 rfl) ?_
        refine va_get (D := D) (ci := 6) (v := .ref (q 13)) (C := RX6) (T := TX6) (N := 24) hx hb hts hi_X6 hown hK hP 7 rfl rfl 18 (by decide) hf_47 (fun _ h9 => h9) rfl dX6_dispute_59 ?_
        refine lv_iload_n hx hb dX6_dispute_62 rfl (lv_at hl 2 rfl) ?_
        refine lv_iconst (v := 1) hx hb dX6_dispute_63 (by decide) ?_
        refine va_zast hx hb hK hP hD hS 5 1 rfl rfl (by assumption) dX6_dispute_64 (fun H locs hP hD hS => ?_)
        have hP : va_P D vwCl [((q 3), .inl (cI, 6, .inl ce)), ((q 4), .inl (cI, 6, .inl hi)), ((q 10), .inl (cI, 4096, .inl ka)), ((q 11), .inl (cI, 4096, .inl kc)), ((q 12), .inl (cI, 4096, .inl kb)), ((q 13), .inl (cZ, 4096, .inl (upd kd p1.toNatClampNeg 1))), ((q 15), .inl (cI, 6, .inl fn)), ((q 0), .inr (6, [.ref (q 1), .ref (q 2), .int on, .int hm, .int aw, .int tk, .ref (q 3), .ref (q 4), .ref (q 5), .int (nI sn), .ref (q 6), .ref (q 7), .ref (q 8), .ref (q 9), .int (nI kn), .ref (q 10), .ref (q 11), .ref (q 12), .ref (q 13), .ref (q 14), .ref (q 15), .ref (q 16), .ref (q 17), .int 0]))] H := hP
        have hD : va_D A [((q 3), .inl (cI, 6, .inl ce)), ((q 4), .inl (cI, 6, .inl hi)), ((q 10), .inl (cI, 4096, .inl ka)), ((q 11), .inl (cI, 4096, .inl kc)), ((q 12), .inl (cI, 4096, .inl kb)), ((q 13), .inl (cZ, 4096, .inl (upd kd p1.toNatClampNeg 1))), ((q 15), .inl (cI, 6, .inl fn)), ((q 0), .inr (6, [.ref (q 1), .ref (q 2), .int on, .int hm, .int aw, .int tk, .ref (q 3), .ref (q 4), .ref (q 5), .int (nI sn), .ref (q 6), .ref (q 7), .ref (q 8), .ref (q 9), .int (nI kn), .ref (q 10), .ref (q 11), .ref (q 12), .ref (q 13), .ref (q 14), .ref (q 15), .ref (q 16), .ref (q 17), .int 0]))] := hD
        refine lv_aload_n hx hb dX6_dispute_65 rfl (lv_at hl 1 rfl) ?_
        refine va_get (D := D) (ci := 6) (v := .ref (q 10)) (C := RX6) (T := TX6) (N := 24) hx hb hts hi_X6 hown hK hP 7 rfl rfl 15 (by decide) hf_38 (fun _ h9 => h9) rfl dX6_dispute_66 ?_
        refine lv_iload_n hx hb dX6_dispute_69 rfl (lv_at hl 2 rfl) ?_
        refine va_iald hx hb hK hP 2 0 rfl rfl (by assumption) dX6_dispute_70 ?_
        refine lv_istore_n (lv' := [(3, .int (ka p1.toNatClampNeg)), (2, .int 1), (0, .ref (q 0)), (1, .int p1)]) hx hb dX6_dispute_71 rfl hl (by decide) rfl (fun ls hl => ?_)
        refine lv_aload_n hx hb dX6_dispute_72 rfl (lv_at hl 2 rfl) ?_
        refine va_get (D := D) (ci := 6) (v := .ref (q 4)) (C := RX6) (T := TX6) (N := 24) hx hb hts hi_X6 hown hK hP 7 rfl rfl 7 (by decide) hf_20 (fun _ h9 => h9) rfl dX6_dispute_73 ?_
        refine lv_iload_n hx hb dX6_dispute_76 rfl (lv_at hl 0 rfl) ?_
        refine va_iald hx hb hK hP 1 0 rfl rfl (by assumption) dX6_dispute_77 ?_
        refine lv_iconst (v := (-1)) hx hb dX6_dispute_78 (by decide) ?_
        refine lv_icmp_eq (tgt := 101) hx hb dX6_dispute_79 (by decide) (fun c_14 => ?_) (fun c_14 => ?_)
        · refine lv_iconst (v := 0) hx hb dX6_dispute_101 (by decide) ?_
          refine lv_istore (lv' := [(4, .int 0), (3, .int (ka p1.toNatClampNeg)), (2, .int 1), (0, .ref (q 0)), (1, .int p1)]) hx hb dX6_dispute_102 hl (by decide) rfl (fun ls hl => ?_)
          refine lv_iload hx hb dX6_dispute_104 (lv_at hl 0 rfl) ?_
          refine lv_if_eq (tgt := 126) hx hb dX6_dispute_106 (by decide) (fun _ => ?_) (fun c_15 => absurd (by decide) c_15)
          refine lv_aload_n hx hb dX6_dispute_126 rfl (lv_at hl 3 rfl) ?_
          refine va_get (D := D) (ci := 6) (v := .ref (q 3)) (C := RX6) (T := TX6) (N := 24) hx hb hts hi_X6 hown hK hP 7 rfl rfl 6 (by decide) hf_17 (fun _ h9 => h9) rfl dX6_dispute_127 ?_
          refine lv_iload_n hx hb dX6_dispute_130 rfl (lv_at hl 1 rfl) ?_
          refine lv_aload_n hx hb dX6_dispute_131 rfl (lv_at hl 3 rfl) ?_
          refine lv_aload_n hx hb dX6_dispute_132 rfl (lv_at hl 3 rfl) ?_
          refine va_get (D := D) (ci := 6) (v := .ref (q 12)) (C := RX6) (T := TX6) (N := 24) hx hb hts hi_X6 hown hK hP 7 rfl rfl 17 (by decide) hf_44 (fun _ h9 => h9) rfl dX6_dispute_133 ?_
          refine lv_iload_n hx hb dX6_dispute_136 rfl (lv_at hl 4 rfl) ?_
          refine va_iald hx hb hK hP 4 0 rfl rfl (by assumption) dX6_dispute_137 ?_
          have hPc := hP.sub (ws' := [((q 0), .inr (6, [.ref (q 1), .ref (q 2), .int on, .int hm, .int aw, .int tk, .ref (q 3), .ref (q 4), .ref (q 5), .int (nI sn), .ref (q 6), .ref (q 7), .ref (q 8), .ref (q 9), .int (nI kn), .ref (q 10), .ref (q 11), .ref (q 12), .ref (q 13), .ref (q 14), .ref (q 15), .ref (q 16), .ref (q 17), .int 0])), ((q 3), .inl (cI, 6, .inl ce))]) [7, 0] rfl
          refine va_calli (va_runV (As := [.int (kb p1.toNatClampNeg)]) (rest := [.int (ka p1.toNatClampNeg), .ref (q 3)]) ⟨hx, hb, hml, hown, hts⟩ (c_X6_standsOn l D cI cZ cJ cA H.size q on hm aw tk ce sn kn 0 (kb p1.toNatClampNeg)) (cwV 1 hts gX6_dispute_X6_standsOn rfl rfl rfl (by decide +kernel) ⟨Nat.le_of_ble_eq_true rfl, Nat.le_of_ble_eq_true rfl⟩) ⟨pcR_bl, va_recv hK hPc (ci := 6) (q0 := 0) rfl rfl, fun U hU hW => ⟨rfl, by rw [hU], by rw [hU]; exact hPc, va_K.moved hW.alike hK⟩⟩ rfl rfl hl.1 rfl (lv_room (Nat.le_of_ble_eq_true rfl)) dX6_dispute_138 ⟨Nat.le_of_ble_eq_true rfl, Nat.le_of_ble_eq_true rfl⟩) hS (fun _ h1 h2 => absurd h1 (Nat.not_lt.mpr h2)) (rd_free hS hA) (fun r_16 u t H locs ht hvm hw hB hz1 hk1 hS => ?_)
          try dsimp only at hw
          have hr_16 := hw
          have hP := rd_P hP hk1
          obtain rfl := hr_16.symm
          refine W.widen (k := 0) (n := 0) (Nat.le_refl _) (Nat.le_refl _) ?_
          refine lv_iconst (v := (-1)) hx hb dX6_dispute_141 (by decide) ?_
          refine lv_icmp_ne (tgt := 154) hx hb dX6_dispute_142 (by decide) (fun c_17 => ?_) (fun c_17 => ?_)
          · refine lv_iconst (v := (-1)) hx hb dX6_dispute_154 (by decide) ?_
            refine va_iast hx hb hK hP hD hS 0 0 rfl rfl (by assumption) dX6_dispute_155 (fun H locs hP hD hS => ?_)
            have hP : va_P D vwCl [((q 3), .inl (cI, 6, .inl (upd ce ((ka p1.toNatClampNeg).toNatClampNeg) (-1)))), ((q 4), .inl (cI, 6, .inl hi)), ((q 10), .inl (cI, 4096, .inl ka)), ((q 11), .inl (cI, 4096, .inl kc)), ((q 12), .inl (cI, 4096, .inl kb)), ((q 13), .inl (cZ, 4096, .inl (upd kd p1.toNatClampNeg 1))), ((q 15), .inl (cI, 6, .inl fn)), ((q 0), .inr (6, [.ref (q 1), .ref (q 2), .int on, .int hm, .int aw, .int tk, .ref (q 3), .ref (q 4), .ref (q 5), .int (nI sn), .ref (q 6), .ref (q 7), .ref (q 8), .ref (q 9), .int (nI kn), .ref (q 10), .ref (q 11), .ref (q 12), .ref (q 13), .ref (q 14), .ref (q 15), .ref (q 16), .ref (q 17), .int 0]))] H := hP
            have hD : va_D A [((q 3), .inl (cI, 6, .inl (upd ce ((ka p1.toNatClampNeg).toNatClampNeg) (-1)))), ((q 4), .inl (cI, 6, .inl hi)), ((q 10), .inl (cI, 4096, .inl ka)), ((q 11), .inl (cI, 4096, .inl kc)), ((q 12), .inl (cI, 4096, .inl kb)), ((q 13), .inl (cZ, 4096, .inl (upd kd p1.toNatClampNeg 1))), ((q 15), .inl (cI, 6, .inl fn)), ((q 0), .inr (6, [.ref (q 1), .ref (q 2), .int on, .int hm, .int aw, .int tk, .ref (q 3), .ref (q 4), .ref (q 5), .int (nI sn), .ref (q 6), .ref (q 7), .ref (q 8), .ref (q 9), .int (nI kn), .ref (q 10), .ref (q 11), .ref (q 12), .ref (q 13), .ref (q 14), .ref (q 15), .ref (q 16), .ref (q 17), .int 0]))] := hD
            refine lv_iload hx hb dX6_dispute_156 (lv_at hl 0 rfl) ?_
            have hP9 := hP.sub (ws' := [((q 0), .inr (6, [.ref (q 1), .ref (q 2), .int on, .int hm, .int aw, .int tk, .ref (q 3), .ref (q 4), .ref (q 5), .int (nI sn), .ref (q 6), .ref (q 7), .ref (q 8), .ref (q 9), .int (nI kn), .ref (q 10), .ref (q 11), .ref (q 12), .ref (q 13), .ref (q 14), .ref (q 15), .ref (q 16), .ref (q 17), .int 0])), ((q 3), .inl (cI, 6, .inl (upd ce ((ka p1.toNatClampNeg).toNatClampNeg) (-1)))), ((q 4), .inl (cI, 6, .inl hi)), ((q 10), .inl (cI, 4096, .inl ka)), ((q 11), .inl (cI, 4096, .inl kc)), ((q 12), .inl (cI, 4096, .inl kb)), ((q 13), .inl (cZ, 4096, .inl (upd kd p1.toNatClampNeg 1))), ((q 15), .inl (cI, 6, .inl fn))]) [7, 0, 1, 2, 3, 4, 5, 6] rfl
            have hD9 := hD.sub (ws' := [((q 0), .inr (6, [.ref (q 1), .ref (q 2), .int on, .int hm, .int aw, .int tk, .ref (q 3), .ref (q 4), .ref (q 5), .int (nI sn), .ref (q 6), .ref (q 7), .ref (q 8), .ref (q 9), .int (nI kn), .ref (q 10), .ref (q 11), .ref (q 12), .ref (q 13), .ref (q 14), .ref (q 15), .ref (q 16), .ref (q 17), .int 0])), ((q 3), .inl (cI, 6, .inl (upd ce ((ka p1.toNatClampNeg).toNatClampNeg) (-1)))), ((q 4), .inl (cI, 6, .inl hi)), ((q 10), .inl (cI, 4096, .inl ka)), ((q 11), .inl (cI, 4096, .inl kc)), ((q 12), .inl (cI, 4096, .inl kb)), ((q 13), .inl (cZ, 4096, .inl (upd kd p1.toNatClampNeg 1))), ((q 15), .inl (cI, 6, .inl fn))]) [7, 0, 1, 2, 3, 4, 5, 6] (by decide) rfl
            -- leaf 2
            refine W.widen (k := 0) (n := 0) (Nat.le_refl _) (Nat.le_refl _) ?_
            exact W.zret (v := 0) (ty := .boolean) hx hb hr rfl (fun t ht hW => ⟨⟨0, (upd ce ((ka p1.toNatClampNeg).toNatClampNeg) (-1), upd kd p1.toNatClampNeg 1, fn, 0), rfl, ⟨(by rw [f_X6_dispute, if_neg c_1, if_neg c_6, if_pos c_11, if_pos c_14]), (by rw [g_ce_X6_dispute, if_neg c_1, if_neg c_6, if_pos c_11, if_pos c_14, if_neg c_17]), (by rw [g_kd_X6_dispute, if_neg c_1, if_neg c_6, if_pos c_11]), (by rw [g_fn_X6_dispute, if_neg c_1, if_neg c_6, if_pos c_11, if_pos c_14]), (by rw [g_th_X6_dispute, if_neg c_1, if_neg c_6, if_pos c_11])⟩, by rw [ht]; exact hP9, va_K.moved hW.alike hK, hD9⟩, hS.F ht⟩) hS.2.2 dX6_dispute_158
          · refine lv_aload_n hx hb dX6_dispute_145 rfl (lv_at hl 3 rfl) ?_
            refine va_get (D := D) (ci := 6) (v := .ref (q 12)) (C := RX6) (T := TX6) (N := 24) hx hb hts hi_X6 hown hK hP 7 rfl rfl 17 (by decide) hf_44 (fun _ h9 => h9) rfl dX6_dispute_146 ?_
            refine lv_iload_n hx hb dX6_dispute_149 rfl (lv_at hl 4 rfl) ?_
            refine va_iald hx hb hK hP 4 0 rfl rfl (by assumption) dX6_dispute_150 ?_
            refine lv_goto (tgt := 155) hx hb dX6_dispute_151 (by decide) ?_
            refine va_iast hx hb hK hP hD hS 0 0 rfl rfl (by assumption) dX6_dispute_155 (fun H locs hP hD hS => ?_)
            have hP : va_P D vwCl [((q 3), .inl (cI, 6, .inl (upd ce ((ka p1.toNatClampNeg).toNatClampNeg) (kb p1.toNatClampNeg)))), ((q 4), .inl (cI, 6, .inl hi)), ((q 10), .inl (cI, 4096, .inl ka)), ((q 11), .inl (cI, 4096, .inl kc)), ((q 12), .inl (cI, 4096, .inl kb)), ((q 13), .inl (cZ, 4096, .inl (upd kd p1.toNatClampNeg 1))), ((q 15), .inl (cI, 6, .inl fn)), ((q 0), .inr (6, [.ref (q 1), .ref (q 2), .int on, .int hm, .int aw, .int tk, .ref (q 3), .ref (q 4), .ref (q 5), .int (nI sn), .ref (q 6), .ref (q 7), .ref (q 8), .ref (q 9), .int (nI kn), .ref (q 10), .ref (q 11), .ref (q 12), .ref (q 13), .ref (q 14), .ref (q 15), .ref (q 16), .ref (q 17), .int 0]))] H := hP
            have hD : va_D A [((q 3), .inl (cI, 6, .inl (upd ce ((ka p1.toNatClampNeg).toNatClampNeg) (kb p1.toNatClampNeg)))), ((q 4), .inl (cI, 6, .inl hi)), ((q 10), .inl (cI, 4096, .inl ka)), ((q 11), .inl (cI, 4096, .inl kc)), ((q 12), .inl (cI, 4096, .inl kb)), ((q 13), .inl (cZ, 4096, .inl (upd kd p1.toNatClampNeg 1))), ((q 15), .inl (cI, 6, .inl fn)), ((q 0), .inr (6, [.ref (q 1), .ref (q 2), .int on, .int hm, .int aw, .int tk, .ref (q 3), .ref (q 4), .ref (q 5), .int (nI sn), .ref (q 6), .ref (q 7), .ref (q 8), .ref (q 9), .int (nI kn), .ref (q 10), .ref (q 11), .ref (q 12), .ref (q 13), .ref (q 14), .ref (q 15), .ref (q 16), .ref (q 17), .int 0]))] := hD
            refine lv_iload hx hb dX6_dispute_156 (lv_at hl 0 rfl) ?_
            have hP9 := hP.sub (ws' := [((q 0), .inr (6, [.ref (q 1), .ref (q 2), .int on, .int hm, .int aw, .int tk, .ref (q 3), .ref (q 4), .ref (q 5), .int (nI sn), .ref (q 6), .ref (q 7), .ref (q 8), .ref (q 9), .int (nI kn), .ref (q 10), .ref (q 11), .ref (q 12), .ref (q 13), .ref (q 14), .ref (q 15), .ref (q 16), .ref (q 17), .int 0])), ((q 3), .inl (cI, 6, .inl (upd ce ((ka p1.toNatClampNeg).toNatClampNeg) (kb p1.toNatClampNeg)))), ((q 4), .inl (cI, 6, .inl hi)), ((q 10), .inl (cI, 4096, .inl ka)), ((q 11), .inl (cI, 4096, .inl kc)), ((q 12), .inl (cI, 4096, .inl kb)), ((q 13), .inl (cZ, 4096, .inl (upd kd p1.toNatClampNeg 1))), ((q 15), .inl (cI, 6, .inl fn))]) [7, 0, 1, 2, 3, 4, 5, 6] rfl
            have hD9 := hD.sub (ws' := [((q 0), .inr (6, [.ref (q 1), .ref (q 2), .int on, .int hm, .int aw, .int tk, .ref (q 3), .ref (q 4), .ref (q 5), .int (nI sn), .ref (q 6), .ref (q 7), .ref (q 8), .ref (q 9), .int (nI kn), .ref (q 10), .ref (q 11), .ref (q 12), .ref (q 13), .ref (q 14), .ref (q 15), .ref (q 16), .ref (q 17), .int 0])), ((q 3), .inl (cI, 6, .inl (upd ce ((ka p1.toNatClampNeg).toNatClampNeg) (kb p1.toNatClampNeg)))), ((q 4), .inl (cI, 6, .inl hi)), ((q 10), .inl (cI, 4096, .inl ka)), ((q 11), .inl (cI, 4096, .inl kc)), ((q 12), .inl (cI, 4096, .inl kb)), ((q 13), .inl (cZ, 4096, .inl (upd kd p1.toNatClampNeg 1))), ((q 15), .inl (cI, 6, .inl fn))]) [7, 0, 1, 2, 3, 4, 5, 6] (by decide) rfl
            -- leaf 3
            refine W.widen (k := 0) (n := 0) (Nat.le_refl _) (Nat.le_refl _) ?_
            exact W.zret (v := 0) (ty := .boolean) hx hb hr rfl (fun t ht hW => ⟨⟨0, (upd ce ((ka p1.toNatClampNeg).toNatClampNeg) (kb p1.toNatClampNeg), upd kd p1.toNatClampNeg 1, fn, 0), rfl, ⟨(by rw [f_X6_dispute, if_neg c_1, if_neg c_6, if_pos c_11, if_pos c_14]), (by rw [g_ce_X6_dispute, if_neg c_1, if_neg c_6, if_pos c_11, if_pos c_14, if_pos c_17]), (by rw [g_kd_X6_dispute, if_neg c_1, if_neg c_6, if_pos c_11]), (by rw [g_fn_X6_dispute, if_neg c_1, if_neg c_6, if_pos c_11, if_pos c_14]), (by rw [g_th_X6_dispute, if_neg c_1, if_neg c_6, if_pos c_11])⟩, by rw [ht]; exact hP9, va_K.moved hW.alike hK, hD9⟩, hS.F ht⟩) hS.2.2 dX6_dispute_158
        · refine lv_aload_n hx hb dX6_dispute_82 rfl (lv_at hl 2 rfl) ?_
          refine va_get (D := D) (ci := 6) (v := .ref (q 4)) (C := RX6) (T := TX6) (N := 24) hx hb hts hi_X6 hown hK hP 7 rfl rfl 7 (by decide) hf_20 (fun _ h9 => h9) rfl dX6_dispute_83 ?_
          refine lv_iload_n hx hb dX6_dispute_86 rfl (lv_at hl 0 rfl) ?_
          refine va_iald hx hb hK hP 1 0 rfl rfl (by assumption) dX6_dispute_87 ?_
          refine lv_aload_n hx hb dX6_dispute_88 rfl (lv_at hl 2 rfl) ?_
          refine va_get (D := D) (ci := 6) (v := .ref (q 11)) (C := RX6) (T := TX6) (N := 24) hx hb hts hi_X6 hown hK hP 7 rfl rfl 16 (by decide) hf_41 (fun _ h9 => h9) rfl dX6_dispute_89 ?_
          refine lv_iload_n hx hb dX6_dispute_92 rfl (lv_at hl 3 rfl) ?_
          refine va_iald hx hb hK hP 3 0 rfl rfl (by assumption) dX6_dispute_93 ?_
          refine lv_icmp_gt (tgt := 101) hx hb dX6_dispute_94 (by decide) (fun c_18 => ?_) (fun c_18 => ?_)
          · refine lv_iconst (v := 0) hx hb dX6_dispute_101 (by decide) ?_
            refine lv_istore (lv' := [(4, .int 0), (3, .int (ka p1.toNatClampNeg)), (2, .int 1), (0, .ref (q 0)), (1, .int p1)]) hx hb dX6_dispute_102 hl (by decide) rfl (fun ls hl => ?_)
            refine lv_iload hx hb dX6_dispute_104 (lv_at hl 0 rfl) ?_
            refine lv_if_eq (tgt := 126) hx hb dX6_dispute_106 (by decide) (fun _ => ?_) (fun c_19 => absurd (by decide) c_19)
            refine lv_aload_n hx hb dX6_dispute_126 rfl (lv_at hl 3 rfl) ?_
            refine va_get (D := D) (ci := 6) (v := .ref (q 3)) (C := RX6) (T := TX6) (N := 24) hx hb hts hi_X6 hown hK hP 7 rfl rfl 6 (by decide) hf_17 (fun _ h9 => h9) rfl dX6_dispute_127 ?_
            refine lv_iload_n hx hb dX6_dispute_130 rfl (lv_at hl 1 rfl) ?_
            refine lv_aload_n hx hb dX6_dispute_131 rfl (lv_at hl 3 rfl) ?_
            refine lv_aload_n hx hb dX6_dispute_132 rfl (lv_at hl 3 rfl) ?_
            refine va_get (D := D) (ci := 6) (v := .ref (q 12)) (C := RX6) (T := TX6) (N := 24) hx hb hts hi_X6 hown hK hP 7 rfl rfl 17 (by decide) hf_44 (fun _ h9 => h9) rfl dX6_dispute_133 ?_
            refine lv_iload_n hx hb dX6_dispute_136 rfl (lv_at hl 4 rfl) ?_
            refine va_iald hx hb hK hP 4 0 rfl rfl (by assumption) dX6_dispute_137 ?_
            have hPc := hP.sub (ws' := [((q 0), .inr (6, [.ref (q 1), .ref (q 2), .int on, .int hm, .int aw, .int tk, .ref (q 3), .ref (q 4), .ref (q 5), .int (nI sn), .ref (q 6), .ref (q 7), .ref (q 8), .ref (q 9), .int (nI kn), .ref (q 10), .ref (q 11), .ref (q 12), .ref (q 13), .ref (q 14), .ref (q 15), .ref (q 16), .ref (q 17), .int 0])), ((q 3), .inl (cI, 6, .inl ce))]) [7, 0] rfl
            refine va_calli (va_runV (As := [.int (kb p1.toNatClampNeg)]) (rest := [.int (ka p1.toNatClampNeg), .ref (q 3)]) ⟨hx, hb, hml, hown, hts⟩ (c_X6_standsOn l D cI cZ cJ cA H.size q on hm aw tk ce sn kn 0 (kb p1.toNatClampNeg)) (cwV 1 hts gX6_dispute_X6_standsOn rfl rfl rfl (by decide +kernel) ⟨Nat.le_of_ble_eq_true rfl, Nat.le_of_ble_eq_true rfl⟩) ⟨pcR_bl, va_recv hK hPc (ci := 6) (q0 := 0) rfl rfl, fun U hU hW => ⟨rfl, by rw [hU], by rw [hU]; exact hPc, va_K.moved hW.alike hK⟩⟩ rfl rfl hl.1 rfl (lv_room (Nat.le_of_ble_eq_true rfl)) dX6_dispute_138 ⟨Nat.le_of_ble_eq_true rfl, Nat.le_of_ble_eq_true rfl⟩) hS (fun _ h1 h2 => absurd h1 (Nat.not_lt.mpr h2)) (rd_free hS hA) (fun r_20 u t H locs ht hvm hw hB hz1 hk1 hS => ?_)
            try dsimp only at hw
            have hr_20 := hw
            have hP := rd_P hP hk1
            obtain rfl := hr_20.symm
            refine W.widen (k := 0) (n := 0) (Nat.le_refl _) (Nat.le_refl _) ?_
            refine lv_iconst (v := (-1)) hx hb dX6_dispute_141 (by decide) ?_
            refine lv_icmp_ne (tgt := 154) hx hb dX6_dispute_142 (by decide) (fun c_21 => ?_) (fun c_21 => ?_)
            · refine lv_iconst (v := (-1)) hx hb dX6_dispute_154 (by decide) ?_
              refine va_iast hx hb hK hP hD hS 0 0 rfl rfl (by assumption) dX6_dispute_155 (fun H locs hP hD hS => ?_)
              have hP : va_P D vwCl [((q 3), .inl (cI, 6, .inl (upd ce ((ka p1.toNatClampNeg).toNatClampNeg) (-1)))), ((q 4), .inl (cI, 6, .inl hi)), ((q 10), .inl (cI, 4096, .inl ka)), ((q 11), .inl (cI, 4096, .inl kc)), ((q 12), .inl (cI, 4096, .inl kb)), ((q 13), .inl (cZ, 4096, .inl (upd kd p1.toNatClampNeg 1))), ((q 15), .inl (cI, 6, .inl fn)), ((q 0), .inr (6, [.ref (q 1), .ref (q 2), .int on, .int hm, .int aw, .int tk, .ref (q 3), .ref (q 4), .ref (q 5), .int (nI sn), .ref (q 6), .ref (q 7), .ref (q 8), .ref (q 9), .int (nI kn), .ref (q 10), .ref (q 11), .ref (q 12), .ref (q 13), .ref (q 14), .ref (q 15), .ref (q 16), .ref (q 17), .int 0]))] H := hP
              have hD : va_D A [((q 3), .inl (cI, 6, .inl (upd ce ((ka p1.toNatClampNeg).toNatClampNeg) (-1)))), ((q 4), .inl (cI, 6, .inl hi)), ((q 10), .inl (cI, 4096, .inl ka)), ((q 11), .inl (cI, 4096, .inl kc)), ((q 12), .inl (cI, 4096, .inl kb)), ((q 13), .inl (cZ, 4096, .inl (upd kd p1.toNatClampNeg 1))), ((q 15), .inl (cI, 6, .inl fn)), ((q 0), .inr (6, [.ref (q 1), .ref (q 2), .int on, .int hm, .int aw, .int tk, .ref (q 3), .ref (q 4), .ref (q 5), .int (nI sn), .ref (q 6), .ref (q 7), .ref (q 8), .ref (q 9), .int (nI kn), .ref (q 10), .ref (q 11), .ref (q 12), .ref (q 13), .ref (q 14), .ref (q 15), .ref (q 16), .ref (q 17), .int 0]))] := hD
              refine lv_iload hx hb dX6_dispute_156 (lv_at hl 0 rfl) ?_
              have hP9 := hP.sub (ws' := [((q 0), .inr (6, [.ref (q 1), .ref (q 2), .int on, .int hm, .int aw, .int tk, .ref (q 3), .ref (q 4), .ref (q 5), .int (nI sn), .ref (q 6), .ref (q 7), .ref (q 8), .ref (q 9), .int (nI kn), .ref (q 10), .ref (q 11), .ref (q 12), .ref (q 13), .ref (q 14), .ref (q 15), .ref (q 16), .ref (q 17), .int 0])), ((q 3), .inl (cI, 6, .inl (upd ce ((ka p1.toNatClampNeg).toNatClampNeg) (-1)))), ((q 4), .inl (cI, 6, .inl hi)), ((q 10), .inl (cI, 4096, .inl ka)), ((q 11), .inl (cI, 4096, .inl kc)), ((q 12), .inl (cI, 4096, .inl kb)), ((q 13), .inl (cZ, 4096, .inl (upd kd p1.toNatClampNeg 1))), ((q 15), .inl (cI, 6, .inl fn))]) [7, 0, 1, 2, 3, 4, 5, 6] rfl
              have hD9 := hD.sub (ws' := [((q 0), .inr (6, [.ref (q 1), .ref (q 2), .int on, .int hm, .int aw, .int tk, .ref (q 3), .ref (q 4), .ref (q 5), .int (nI sn), .ref (q 6), .ref (q 7), .ref (q 8), .ref (q 9), .int (nI kn), .ref (q 10), .ref (q 11), .ref (q 12), .ref (q 13), .ref (q 14), .ref (q 15), .ref (q 16), .ref (q 17), .int 0])), ((q 3), .inl (cI, 6, .inl (upd ce ((ka p1.toNatClampNeg).toNatClampNeg) (-1)))), ((q 4), .inl (cI, 6, .inl hi)), ((q 10), .inl (cI, 4096, .inl ka)), ((q 11), .inl (cI, 4096, .inl kc)), ((q 12), .inl (cI, 4096, .inl kb)), ((q 13), .inl (cZ, 4096, .inl (upd kd p1.toNatClampNeg 1))), ((q 15), .inl (cI, 6, .inl fn))]) [7, 0, 1, 2, 3, 4, 5, 6] (by decide) rfl
              -- leaf 4
              refine W.widen (k := 0) (n := 0) (Nat.le_refl _) (Nat.le_refl _) ?_
              exact W.zret (v := 0) (ty := .boolean) hx hb hr rfl (fun t ht hW => ⟨⟨0, (upd ce ((ka p1.toNatClampNeg).toNatClampNeg) (-1), upd kd p1.toNatClampNeg 1, fn, 0), rfl, ⟨(by rw [f_X6_dispute, if_neg c_1, if_neg c_6, if_pos c_11, if_neg c_14, if_pos c_18]), (by rw [g_ce_X6_dispute, if_neg c_1, if_neg c_6, if_pos c_11, if_neg c_14, if_pos c_18, if_neg c_21]), (by rw [g_kd_X6_dispute, if_neg c_1, if_neg c_6, if_pos c_11]), (by rw [g_fn_X6_dispute, if_neg c_1, if_neg c_6, if_pos c_11, if_neg c_14, if_pos c_18]), (by rw [g_th_X6_dispute, if_neg c_1, if_neg c_6, if_pos c_11])⟩, by rw [ht]; exact hP9, va_K.moved hW.alike hK, hD9⟩, hS.F ht⟩) hS.2.2 dX6_dispute_158
            · refine lv_aload_n hx hb dX6_dispute_145 rfl (lv_at hl 3 rfl) ?_
              refine va_get (D := D) (ci := 6) (v := .ref (q 12)) (C := RX6) (T := TX6) (N := 24) hx hb hts hi_X6 hown hK hP 7 rfl rfl 17 (by decide) hf_44 (fun _ h9 => h9) rfl dX6_dispute_146 ?_
              refine lv_iload_n hx hb dX6_dispute_149 rfl (lv_at hl 4 rfl) ?_
              refine va_iald hx hb hK hP 4 0 rfl rfl (by assumption) dX6_dispute_150 ?_
              refine lv_goto (tgt := 155) hx hb dX6_dispute_151 (by decide) ?_
              refine va_iast hx hb hK hP hD hS 0 0 rfl rfl (by assumption) dX6_dispute_155 (fun H locs hP hD hS => ?_)
              have hP : va_P D vwCl [((q 3), .inl (cI, 6, .inl (upd ce ((ka p1.toNatClampNeg).toNatClampNeg) (kb p1.toNatClampNeg)))), ((q 4), .inl (cI, 6, .inl hi)), ((q 10), .inl (cI, 4096, .inl ka)), ((q 11), .inl (cI, 4096, .inl kc)), ((q 12), .inl (cI, 4096, .inl kb)), ((q 13), .inl (cZ, 4096, .inl (upd kd p1.toNatClampNeg 1))), ((q 15), .inl (cI, 6, .inl fn)), ((q 0), .inr (6, [.ref (q 1), .ref (q 2), .int on, .int hm, .int aw, .int tk, .ref (q 3), .ref (q 4), .ref (q 5), .int (nI sn), .ref (q 6), .ref (q 7), .ref (q 8), .ref (q 9), .int (nI kn), .ref (q 10), .ref (q 11), .ref (q 12), .ref (q 13), .ref (q 14), .ref (q 15), .ref (q 16), .ref (q 17), .int 0]))] H := hP
              have hD : va_D A [((q 3), .inl (cI, 6, .inl (upd ce ((ka p1.toNatClampNeg).toNatClampNeg) (kb p1.toNatClampNeg)))), ((q 4), .inl (cI, 6, .inl hi)), ((q 10), .inl (cI, 4096, .inl ka)), ((q 11), .inl (cI, 4096, .inl kc)), ((q 12), .inl (cI, 4096, .inl kb)), ((q 13), .inl (cZ, 4096, .inl (upd kd p1.toNatClampNeg 1))), ((q 15), .inl (cI, 6, .inl fn)), ((q 0), .inr (6, [.ref (q 1), .ref (q 2), .int on, .int hm, .int aw, .int tk, .ref (q 3), .ref (q 4), .ref (q 5), .int (nI sn), .ref (q 6), .ref (q 7), .ref (q 8), .ref (q 9), .int (nI kn), .ref (q 10), .ref (q 11), .ref (q 12), .ref (q 13), .ref (q 14), .ref (q 15), .ref (q 16), .ref (q 17), .int 0]))] := hD
              refine lv_iload hx hb dX6_dispute_156 (lv_at hl 0 rfl) ?_
              have hP9 := hP.sub (ws' := [((q 0), .inr (6, [.ref (q 1), .ref (q 2), .int on, .int hm, .int aw, .int tk, .ref (q 3), .ref (q 4), .ref (q 5), .int (nI sn), .ref (q 6), .ref (q 7), .ref (q 8), .ref (q 9), .int (nI kn), .ref (q 10), .ref (q 11), .ref (q 12), .ref (q 13), .ref (q 14), .ref (q 15), .ref (q 16), .ref (q 17), .int 0])), ((q 3), .inl (cI, 6, .inl (upd ce ((ka p1.toNatClampNeg).toNatClampNeg) (kb p1.toNatClampNeg)))), ((q 4), .inl (cI, 6, .inl hi)), ((q 10), .inl (cI, 4096, .inl ka)), ((q 11), .inl (cI, 4096, .inl kc)), ((q 12), .inl (cI, 4096, .inl kb)), ((q 13), .inl (cZ, 4096, .inl (upd kd p1.toNatClampNeg 1))), ((q 15), .inl (cI, 6, .inl fn))]) [7, 0, 1, 2, 3, 4, 5, 6] rfl
              have hD9 := hD.sub (ws' := [((q 0), .inr (6, [.ref (q 1), .ref (q 2), .int on, .int hm, .int aw, .int tk, .ref (q 3), .ref (q 4), .ref (q 5), .int (nI sn), .ref (q 6), .ref (q 7), .ref (q 8), .ref (q 9), .int (nI kn), .ref (q 10), .ref (q 11), .ref (q 12), .ref (q 13), .ref (q 14), .ref (q 15), .ref (q 16), .ref (q 17), .int 0])), ((q 3), .inl (cI, 6, .inl (upd ce ((ka p1.toNatClampNeg).toNatClampNeg) (kb p1.toNatClampNeg)))), ((q 4), .inl (cI, 6, .inl hi)), ((q 10), .inl (cI, 4096, .inl ka)), ((q 11), .inl (cI, 4096, .inl kc)), ((q 12), .inl (cI, 4096, .inl kb)), ((q 13), .inl (cZ, 4096, .inl (upd kd p1.toNatClampNeg 1))), ((q 15), .inl (cI, 6, .inl fn))]) [7, 0, 1, 2, 3, 4, 5, 6] (by decide) rfl
              -- leaf 5
              refine W.widen (k := 0) (n := 0) (Nat.le_refl _) (Nat.le_refl _) ?_
              exact W.zret (v := 0) (ty := .boolean) hx hb hr rfl (fun t ht hW => ⟨⟨0, (upd ce ((ka p1.toNatClampNeg).toNatClampNeg) (kb p1.toNatClampNeg), upd kd p1.toNatClampNeg 1, fn, 0), rfl, ⟨(by rw [f_X6_dispute, if_neg c_1, if_neg c_6, if_pos c_11, if_neg c_14, if_pos c_18]), (by rw [g_ce_X6_dispute, if_neg c_1, if_neg c_6, if_pos c_11, if_neg c_14, if_pos c_18, if_pos c_21]), (by rw [g_kd_X6_dispute, if_neg c_1, if_neg c_6, if_pos c_11]), (by rw [g_fn_X6_dispute, if_neg c_1, if_neg c_6, if_pos c_11, if_neg c_14, if_pos c_18]), (by rw [g_th_X6_dispute, if_neg c_1, if_neg c_6, if_pos c_11])⟩, by rw [ht]; exact hP9, va_K.moved hW.alike hK, hD9⟩, hS.F ht⟩) hS.2.2 dX6_dispute_158
          · refine lv_iconst (v := 1) hx hb dX6_dispute_97 (by decide) ?_
            refine lv_goto (tgt := 102) hx hb dX6_dispute_98 (by decide) ?_
            refine lv_istore (lv' := [(4, .int 1), (3, .int (ka p1.toNatClampNeg)), (2, .int 1), (0, .ref (q 0)), (1, .int p1)]) hx hb dX6_dispute_102 hl (by decide) rfl (fun ls hl => ?_)
            refine lv_iload hx hb dX6_dispute_104 (lv_at hl 0 rfl) ?_
            refine lv_if_eq (tgt := 126) hx hb dX6_dispute_106 (by decide) (fun c_22 => absurd c_22 (by decide)) (fun _ => ?_)
            refine lv_aload_n hx hb dX6_dispute_109 rfl (lv_at hl 3 rfl) ?_
            refine va_get (D := D) (ci := 6) (v := .ref (q 15)) (C := RX6) (T := TX6) (N := 24) hx hb hts hi_X6 hown hK hP 7 rfl rfl 20 (by decide) hf_53 (fun _ h9 => h9) rfl dX6_dispute_110 ?_
            refine lv_aload_n hx hb dX6_dispute_113 rfl (lv_at hl 3 rfl) ?_
            refine lv_iload_n hx hb dX6_dispute_114 rfl (lv_at hl 1 rfl) ?_
            have hPc := hP.sub (ws' := [((q 0), .inr (6, [.ref (q 1), .ref (q 2), .int on, .int hm, .int aw, .int tk, .ref (q 3), .ref (q 4), .ref (q 5), .int (nI sn), .ref (q 6), .ref (q 7), .ref (q 8), .ref (q 9), .int (nI kn), .ref (q 10), .ref (q 11), .ref (q 12), .ref (q 13), .ref (q 14), .ref (q 15), .ref (q 16), .ref (q 17), .int 0]))]) [7] rfl
            refine va_calli (va_runV (As := [.int (ka p1.toNatClampNeg)]) (rest := [.ref (q 15)]) ⟨hx, hb, hml, hown, hts⟩ (c_X6_teamOf l D cI cZ cJ cA H.size q on hm aw tk sn kn 0 (ka p1.toNatClampNeg)) (cwV 1 hts gX6_dispute_X6_teamOf rfl rfl rfl (by decide +kernel) ⟨Nat.le_of_ble_eq_true rfl, Nat.le_of_ble_eq_true rfl⟩) ⟨pcR_bl, va_recv hK hPc (ci := 6) (q0 := 0) rfl rfl, fun U hU hW => ⟨rfl, by rw [hU], by rw [hU]; exact hPc, va_K.moved hW.alike hK⟩⟩ rfl rfl hl.1 rfl (lv_room (Nat.le_of_ble_eq_true rfl)) dX6_dispute_115 ⟨Nat.le_of_ble_eq_true rfl, Nat.le_of_ble_eq_true rfl⟩) hS (fun _ h1 h2 => absurd h1 (Nat.not_lt.mpr h2)) (rd_free hS hA) (fun r_23 u t H locs ht hvm hw hB hz1 hk1 hS => ?_)
            try dsimp only at hw
            have hr_23 := hw
            have hP := rd_P hP hk1
            obtain rfl := hr_23.symm
            refine W.widen (k := 0) (n := 0) (Nat.le_refl _) (Nat.le_refl _) ?_
            refine lv_dup2_11 hx hb dX6_dispute_118 rfl rfl ?_
            refine va_iald hx hb hK hP 6 0 rfl rfl (mteam_in hhm haw) dX6_dispute_119 ?_
            refine lv_iconst (v := 1) hx hb dX6_dispute_120 (by decide) ?_
            refine lv_iadd hx hb dX6_dispute_121 ?_
            refine va_iast hx hb hK hP hD hS 6 0 rfl rfl (mteam_in hhm haw) dX6_dispute_122 (fun H locs hP hD hS => ?_)
            have hP : va_P D vwCl [((q 3), .inl (cI, 6, .inl ce)), ((q 4), .inl (cI, 6, .inl hi)), ((q 10), .inl (cI, 4096, .inl ka)), ((q 11), .inl (cI, 4096, .inl kc)), ((q 12), .inl (cI, 4096, .inl kb)), ((q 13), .inl (cZ, 4096, .inl (upd kd p1.toNatClampNeg 1))), ((q 15), .inl (cI, 6, .inl (upd fn ((f_X6_teamOf on hm aw tk sn kn 0 (ka p1.toNatClampNeg)).toNatClampNeg) ((fn (f_X6_teamOf on hm aw tk sn kn 0 (ka p1.toNatClampNeg)).toNatClampNeg) + 1)))), ((q 0), .inr (6, [.ref (q 1), .ref (q 2), .int on, .int hm, .int aw, .int tk, .ref (q 3), .ref (q 4), .ref (q 5), .int (nI sn), .ref (q 6), .ref (q 7), .ref (q 8), .ref (q 9), .int (nI kn), .ref (q 10), .ref (q 11), .ref (q 12), .ref (q 13), .ref (q 14), .ref (q 15), .ref (q 16), .ref (q 17), .int 0]))] H := hP
            have hD : va_D A [((q 3), .inl (cI, 6, .inl ce)), ((q 4), .inl (cI, 6, .inl hi)), ((q 10), .inl (cI, 4096, .inl ka)), ((q 11), .inl (cI, 4096, .inl kc)), ((q 12), .inl (cI, 4096, .inl kb)), ((q 13), .inl (cZ, 4096, .inl (upd kd p1.toNatClampNeg 1))), ((q 15), .inl (cI, 6, .inl (upd fn ((f_X6_teamOf on hm aw tk sn kn 0 (ka p1.toNatClampNeg)).toNatClampNeg) ((fn (f_X6_teamOf on hm aw tk sn kn 0 (ka p1.toNatClampNeg)).toNatClampNeg) + 1)))), ((q 0), .inr (6, [.ref (q 1), .ref (q 2), .int on, .int hm, .int aw, .int tk, .ref (q 3), .ref (q 4), .ref (q 5), .int (nI sn), .ref (q 6), .ref (q 7), .ref (q 8), .ref (q 9), .int (nI kn), .ref (q 10), .ref (q 11), .ref (q 12), .ref (q 13), .ref (q 14), .ref (q 15), .ref (q 16), .ref (q 17), .int 0]))] := hD
            refine lv_goto (tgt := 156) hx hb dX6_dispute_123 (by decide) ?_
            refine lv_iload hx hb dX6_dispute_156 (lv_at hl 0 rfl) ?_
            have hP9 := hP.sub (ws' := [((q 0), .inr (6, [.ref (q 1), .ref (q 2), .int on, .int hm, .int aw, .int tk, .ref (q 3), .ref (q 4), .ref (q 5), .int (nI sn), .ref (q 6), .ref (q 7), .ref (q 8), .ref (q 9), .int (nI kn), .ref (q 10), .ref (q 11), .ref (q 12), .ref (q 13), .ref (q 14), .ref (q 15), .ref (q 16), .ref (q 17), .int 0])), ((q 3), .inl (cI, 6, .inl ce)), ((q 4), .inl (cI, 6, .inl hi)), ((q 10), .inl (cI, 4096, .inl ka)), ((q 11), .inl (cI, 4096, .inl kc)), ((q 12), .inl (cI, 4096, .inl kb)), ((q 13), .inl (cZ, 4096, .inl (upd kd p1.toNatClampNeg 1))), ((q 15), .inl (cI, 6, .inl (upd fn ((f_X6_teamOf on hm aw tk sn kn 0 (ka p1.toNatClampNeg)).toNatClampNeg) ((fn (f_X6_teamOf on hm aw tk sn kn 0 (ka p1.toNatClampNeg)).toNatClampNeg) + 1))))]) [7, 0, 1, 2, 3, 4, 5, 6] rfl
            have hD9 := hD.sub (ws' := [((q 0), .inr (6, [.ref (q 1), .ref (q 2), .int on, .int hm, .int aw, .int tk, .ref (q 3), .ref (q 4), .ref (q 5), .int (nI sn), .ref (q 6), .ref (q 7), .ref (q 8), .ref (q 9), .int (nI kn), .ref (q 10), .ref (q 11), .ref (q 12), .ref (q 13), .ref (q 14), .ref (q 15), .ref (q 16), .ref (q 17), .int 0])), ((q 3), .inl (cI, 6, .inl ce)), ((q 4), .inl (cI, 6, .inl hi)), ((q 10), .inl (cI, 4096, .inl ka)), ((q 11), .inl (cI, 4096, .inl kc)), ((q 12), .inl (cI, 4096, .inl kb)), ((q 13), .inl (cZ, 4096, .inl (upd kd p1.toNatClampNeg 1))), ((q 15), .inl (cI, 6, .inl (upd fn ((f_X6_teamOf on hm aw tk sn kn 0 (ka p1.toNatClampNeg)).toNatClampNeg) ((fn (f_X6_teamOf on hm aw tk sn kn 0 (ka p1.toNatClampNeg)).toNatClampNeg) + 1))))]) [7, 0, 1, 2, 3, 4, 5, 6] (by decide) rfl
            -- leaf 6
            refine W.widen (k := 0) (n := 0) (Nat.le_refl _) (Nat.le_refl _) ?_
            exact W.zret (v := 1) (ty := .boolean) hx hb hr rfl (fun t ht hW => ⟨⟨1, (ce, upd kd p1.toNatClampNeg 1, upd fn ((f_X6_teamOf on hm aw tk sn kn 0 (ka p1.toNatClampNeg)).toNatClampNeg) ((fn (f_X6_teamOf on hm aw tk sn kn 0 (ka p1.toNatClampNeg)).toNatClampNeg) + 1), 0), rfl, ⟨(by rw [f_X6_dispute, if_neg c_1, if_neg c_6, if_pos c_11, if_neg c_14, if_neg c_18]), (by rw [g_ce_X6_dispute, if_neg c_1, if_neg c_6, if_pos c_11, if_neg c_14, if_neg c_18]), (by rw [g_kd_X6_dispute, if_neg c_1, if_neg c_6, if_pos c_11]), (by rw [g_fn_X6_dispute, if_neg c_1, if_neg c_6, if_pos c_11, if_neg c_14, if_neg c_18]), (by rw [g_th_X6_dispute, if_neg c_1, if_neg c_6, if_pos c_11])⟩, by rw [ht]; exact hP9, va_K.moved hW.alike hK, hD9⟩, hS.F ht⟩) hS.2.2 dX6_dispute_158
      · refine lv_iconst (v := 2) hx hb dX6_dispute_45 (by decide) ?_
        refine lv_goto (tgt := 50) hx hb dX6_dispute_46 (by decide) ?_
        have hPc := hP.sub (ws' := [((q 0), .inr (6, [.ref (q 1), .ref (q 2), .int on, .int hm, .int aw, .int tk, .ref (q 3), .ref (q 4), .ref (q 5), .int (nI sn), .ref (q 6), .ref (q 7), .ref (q 8), .ref (q 9), .int (nI kn), .ref (q 10), .ref (q 11), .ref (q 12), .ref (q 13), .ref (q 14), .ref (q 15), .ref (q 16), .ref (q 17), .int th]))]) [0] rfl
        have hDc := hD.sub (ws' := [((q 0), .inr (6, [.ref (q 1), .ref (q 2), .int on, .int hm, .int aw, .int tk, .ref (q 3), .ref (q 4), .ref (q 5), .int (nI sn), .ref (q 6), .ref (q 7), .ref (q 8), .ref (q 9), .int (nI kn), .ref (q 10), .ref (q 11), .ref (q 12), .ref (q 13), .ref (q 14), .ref (q 15), .ref (q 16), .ref (q 17), .int th]))]) [0] (by decide) rfl
        have hFc := va_free (wc := [((q 0), .inr (6, [.ref (q 1), .ref (q 2), .int on, .int hm, .int aw, .int tk, .ref (q 3), .ref (q 4), .ref (q 5), .int (nI sn), .ref (q 6), .ref (q 7), .ref (q 8), .ref (q 9), .int (nI kn), .ref (q 10), .ref (q 11), .ref (q 12), .ref (q 13), .ref (q 14), .ref (q 15), .ref (q 16), .ref (q 17), .int th]))]) hD hS hA [0] rfl
        refine va_calli (va_runV (As := [.int 2]) (rest := []) ⟨hx, hb, hml, hown, hts⟩ (c_X6_fails l D cI cZ cJ cA H.size q on hm aw tk sn kn th 2) (cwV 1 hts gX6_dispute_X6_fails rfl rfl rfl (by decide +kernel) ⟨Nat.le_of_ble_eq_true rfl, Nat.le_of_ble_eq_true rfl⟩) ⟨pcW_bl, va_recv hK hPc (ci := 6) (q0 := 0) rfl rfl, fun U hU hW => ⟨rfl, by rw [hU], by rw [hU]; exact hPc, va_K.moved hW.alike hK, hDc.weaken (fun _ _ _ _ => trivial)⟩⟩ rfl rfl hl.1 rfl (lv_room (Nat.le_of_ble_eq_true rfl)) dX6_dispute_50 ⟨Nat.le_of_ble_eq_true rfl, Nat.le_of_ble_eq_true rfl⟩) hS (fun q _ h => hFc q h) hFc (fun r_24 u t H locs ht hvm hw hB hz1 hk1 hS => ?_)
        try dsimp only at hw
        obtain ⟨u0_24, rfl⟩ : ∃ z, z = u := ⟨_, rfl⟩
        obtain ⟨hr_24, hu0_24⟩ := hw
        obtain ⟨hP1, hK1, hD1⟩ := hB
        rw [ht] at hP1
        obtain ⟨hP, hD⟩ := va_join (wr := [((q 3), .inl (cI, 6, .inl ce)), ((q 4), .inl (cI, 6, .inl hi)), ((q 10), .inl (cI, 4096, .inl ka)), ((q 11), .inl (cI, 4096, .inl kc)), ((q 12), .inl (cI, 4096, .inl kb)), ((q 13), .inl (cZ, 4096, .inl kd)), ((q 15), .inl (cI, 6, .inl fn))]) (w1 := [((q 0), .inr (6, [.ref (q 1), .ref (q 2), .int on, .int hm, .int aw, .int tk, .ref (q 3), .ref (q 4), .ref (q 5), .int (nI sn), .ref (q 6), .ref (q 7), .ref (q 8), .ref (q 9), .int (nI kn), .ref (q 10), .ref (q 11), .ref (q 12), .ref (q 13), .ref (q 14), .ref (q 15), .ref (q 16), .ref (q 17), .int u0_24]))]) hP hD [0] [1, 2, 3, 4, 5, 6, 7] rfl rfl (by decide) (by decide) hk1 hFc hP1 hD1
        obtain rfl := hu0_24.symm
        have hP : va_P D vwCl [((q 3), .inl (cI, 6, .inl ce)), ((q 4), .inl (cI, 6, .inl hi)), ((q 10), .inl (cI, 4096, .inl ka)), ((q 11), .inl (cI, 4096, .inl kc)), ((q 12), .inl (cI, 4096, .inl kb)), ((q 13), .inl (cZ, 4096, .inl kd)), ((q 15), .inl (cI, 6, .inl fn)), ((q 0), .inr (6, [.ref (q 1), .ref (q 2), .int on, .int hm, .int aw, .int tk, .ref (q 3), .ref (q 4), .ref (q 5), .int (nI sn), .ref (q 6), .ref (q 7), .ref (q 8), .ref (q 9), .int (nI kn), .ref (q 10), .ref (q 11), .ref (q 12), .ref (q 13), .ref (q 14), .ref (q 15), .ref (q 16), .ref (q 17), .int 2]))] H := hP
        have hD : va_D A [((q 3), .inl (cI, 6, .inl ce)), ((q 4), .inl (cI, 6, .inl hi)), ((q 10), .inl (cI, 4096, .inl ka)), ((q 11), .inl (cI, 4096, .inl kc)), ((q 12), .inl (cI, 4096, .inl kb)), ((q 13), .inl (cZ, 4096, .inl kd)), ((q 15), .inl (cI, 6, .inl fn)), ((q 0), .inr (6, [.ref (q 1), .ref (q 2), .int on, .int hm, .int aw, .int tk, .ref (q 3), .ref (q 4), .ref (q 5), .int (nI sn), .ref (q 6), .ref (q 7), .ref (q 8), .ref (q 9), .int (nI kn), .ref (q 10), .ref (q 11), .ref (q 12), .ref (q 13), .ref (q 14), .ref (q 15), .ref (q 16), .ref (q 17), .int 2]))] := hD
        obtain rfl := hr_24.symm
        refine W.widen (k := 0) (n := 0) (Nat.le_refl _) (Nat.le_refl _) ?_
        refine tp_eq (y := 1) rfl ?_
        refine lv_if_eq (tgt := 58) hx hb dX6_dispute_53 (by decide) (fun c_25 => absurd c_25 (by decide)) (fun _ => ?_)
        refine lv_iconst (v := 0) hx hb dX6_dispute_56 (by decide) ?_
        have hP9 := hP.sub (ws' := [((q 0), .inr (6, [.ref (q 1), .ref (q 2), .int on, .int hm, .int aw, .int tk, .ref (q 3), .ref (q 4), .ref (q 5), .int (nI sn), .ref (q 6), .ref (q 7), .ref (q 8), .ref (q 9), .int (nI kn), .ref (q 10), .ref (q 11), .ref (q 12), .ref (q 13), .ref (q 14), .ref (q 15), .ref (q 16), .ref (q 17), .int 2])), ((q 3), .inl (cI, 6, .inl ce)), ((q 4), .inl (cI, 6, .inl hi)), ((q 10), .inl (cI, 4096, .inl ka)), ((q 11), .inl (cI, 4096, .inl kc)), ((q 12), .inl (cI, 4096, .inl kb)), ((q 13), .inl (cZ, 4096, .inl kd)), ((q 15), .inl (cI, 6, .inl fn))]) [7, 0, 1, 2, 3, 4, 5, 6] rfl
        have hD9 := hD.sub (ws' := [((q 0), .inr (6, [.ref (q 1), .ref (q 2), .int on, .int hm, .int aw, .int tk, .ref (q 3), .ref (q 4), .ref (q 5), .int (nI sn), .ref (q 6), .ref (q 7), .ref (q 8), .ref (q 9), .int (nI kn), .ref (q 10), .ref (q 11), .ref (q 12), .ref (q 13), .ref (q 14), .ref (q 15), .ref (q 16), .ref (q 17), .int 2])), ((q 3), .inl (cI, 6, .inl ce)), ((q 4), .inl (cI, 6, .inl hi)), ((q 10), .inl (cI, 4096, .inl ka)), ((q 11), .inl (cI, 4096, .inl kc)), ((q 12), .inl (cI, 4096, .inl kb)), ((q 13), .inl (cZ, 4096, .inl kd)), ((q 15), .inl (cI, 6, .inl fn))]) [7, 0, 1, 2, 3, 4, 5, 6] (by decide) rfl
        -- leaf 7
        refine W.widen (k := 0) (n := 0) (Nat.le_refl _) (Nat.le_refl _) ?_
        exact W.zret (v := 0) (ty := .boolean) hx hb hr rfl (fun t ht hW => ⟨⟨0, (ce, kd, fn, 2), rfl, ⟨(by rw [f_X6_dispute, if_neg c_1, if_neg c_6, if_neg c_11]), (by rw [g_ce_X6_dispute, if_neg c_1, if_neg c_6, if_neg c_11]), (by rw [g_kd_X6_dispute, if_neg c_1, if_neg c_6, if_neg c_11]), (by rw [g_fn_X6_dispute, if_neg c_1, if_neg c_6, if_neg c_11]), (by rw [g_th_X6_dispute, if_neg c_1, if_neg c_6, if_neg c_11])⟩, by rw [ht]; exact hP9, va_K.moved hW.alike hK, hD9⟩, hS.F ht⟩) hS.2.2 dX6_dispute_57

noncomputable def mgM (ce hi : Nat → Int32) : Nat → Int32
  | 0 => 0
  | n + 1 => if ce n = (-2) then mgM ce hi n + 0 else if hi n = (-1) then (if 3 ≤ nI n then mgM ce hi n + (-1) else mgM ce hi n + 1) else mgM ce hi n + 0
termination_by n => n
def ptA (m : Int32) : Int32 := if m ≤ 0 then (if m = 0 then 1 else 0) else 3
def ptB (m : Int32) : Int32 := if 0 ≤ m then (if m = 0 then 1 else 0) else 3
def wnA (m : Int32) : Int32 := if m ≤ 0 then 0 else 1
def wnB (m : Int32) : Int32 := if 0 ≤ m then 0 else 1
noncomputable def f_X6_end (on : Int32) (hm : Int32) (aw : Int32) (tk : Int32) (ce : Nat → Int32) (hi : Nat → Int32) (sn : Nat) (kn : Nat) (pt : Nat → Int32) (fn : Nat → Int32) (df : Nat → Int32) (wv : Nat → Int32) (th : Int32) : Int32 := if on = 0 then 0 else (mgM ce hi 6)
noncomputable def g_on_X6_end (on : Int32) (hm : Int32) (aw : Int32) (tk : Int32) (ce : Nat → Int32) (hi : Nat → Int32) (sn : Nat) (kn : Nat) (pt : Nat → Int32) (fn : Nat → Int32) (df : Nat → Int32) (wv : Nat → Int32) (th : Int32) : Int32 := if on = 0 then on else 0
noncomputable def g_pt_X6_end (on : Int32) (hm : Int32) (aw : Int32) (tk : Int32) (ce : Nat → Int32) (hi : Nat → Int32) (sn : Nat) (kn : Nat) (pt : Nat → Int32) (fn : Nat → Int32) (df : Nat → Int32) (wv : Nat → Int32) (th : Int32) : Nat → Int32 := if on = 0 then pt else ((tpN (upd (upd pt hm.toNatClampNeg ((pt hm.toNatClampNeg) + ptA (mgM ce hi 6))) aw.toNatClampNeg (((upd pt hm.toNatClampNeg ((pt hm.toNatClampNeg) + ptA (mgM ce hi 6))) aw.toNatClampNeg) + ptB (mgM ce hi 6))) fn 6).1)
noncomputable def g_fn_X6_end (on : Int32) (hm : Int32) (aw : Int32) (tk : Int32) (ce : Nat → Int32) (hi : Nat → Int32) (sn : Nat) (kn : Nat) (pt : Nat → Int32) (fn : Nat → Int32) (df : Nat → Int32) (wv : Nat → Int32) (th : Int32) : Nat → Int32 := if on = 0 then fn else ((tpN (upd (upd pt hm.toNatClampNeg ((pt hm.toNatClampNeg) + ptA (mgM ce hi 6))) aw.toNatClampNeg (((upd pt hm.toNatClampNeg ((pt hm.toNatClampNeg) + ptA (mgM ce hi 6))) aw.toNatClampNeg) + ptB (mgM ce hi 6))) fn 6).2)
noncomputable def g_df_X6_end (on : Int32) (hm : Int32) (aw : Int32) (tk : Int32) (ce : Nat → Int32) (hi : Nat → Int32) (sn : Nat) (kn : Nat) (pt : Nat → Int32) (fn : Nat → Int32) (df : Nat → Int32) (wv : Nat → Int32) (th : Int32) : Nat → Int32 := if on = 0 then df else upd (upd df hm.toNatClampNeg ((df hm.toNatClampNeg) + (mgM ce hi 6))) aw.toNatClampNeg (((upd df hm.toNatClampNeg ((df hm.toNatClampNeg) + (mgM ce hi 6))) aw.toNatClampNeg) - (mgM ce hi 6))
noncomputable def g_wv_X6_end (on : Int32) (hm : Int32) (aw : Int32) (tk : Int32) (ce : Nat → Int32) (hi : Nat → Int32) (sn : Nat) (kn : Nat) (pt : Nat → Int32) (fn : Nat → Int32) (df : Nat → Int32) (wv : Nat → Int32) (th : Int32) : Nat → Int32 := if on = 0 then wv else upd (upd wv (((6 * hm) + aw).toNatClampNeg) ((wv ((6 * hm) + aw).toNatClampNeg) + (wnA (mgM ce hi 6)))) (((6 * aw) + hm).toNatClampNeg) (((upd wv (((6 * hm) + aw).toNatClampNeg) ((wv ((6 * hm) + aw).toNatClampNeg) + (wnA (mgM ce hi 6)))) ((6 * aw) + hm).toNatClampNeg) + (wnB (mgM ce hi 6)))
noncomputable def g_th_X6_end (on : Int32) (hm : Int32) (aw : Int32) (tk : Int32) (ce : Nat → Int32) (hi : Nat → Int32) (sn : Nat) (kn : Nat) (pt : Nat → Int32) (fn : Nat → Int32) (df : Nat → Int32) (wv : Nat → Int32) (th : Int32) : Int32 := if on = 0 then 1 else 0
set_option maxHeartbeats 4000000 in
set_option maxRecDepth 100000 in
theorem c_X6_end (l : Launch) (D : va_G) (cI cZ cJ cA : ClassId) (sz : Nat) (q : Nat → Nat) (on : Int32) (hm : Int32) (aw : Int32) (tk : Int32) (ce : Nat → Int32) (hi : Nat → Int32) (sn : Nat) (kn : Nat) (pt : Nat → Int32) (fn : Nat → Int32) (df : Nat → Int32) (wv : Nat → Int32) (th : Int32) (hhm : vp_in hm 6) (haw : vp_in aw 6) : Met l yX6_end wsX6_end ({ frames := 1, cells := 0, slots := 0, locals := 21 } : Room) (va_Pc [.ref (q 0)] (pcW D (tyL cI cZ cJ cA) [((q 0), .inr (6, [.ref (q 1), .ref (q 2), .int on, .int hm, .int aw, .int tk, .ref (q 3), .ref (q 4), .ref (q 5), .int (nI sn), .ref (q 6), .ref (q 7), .ref (q 8), .ref (q 9), .int (nI kn), .ref (q 10), .ref (q 11), .ref (q 12), .ref (q 13), .ref (q 14), .ref (q 15), .ref (q 16), .ref (q 17), .int th])), ((q 3), .inl (cI, 6, .inl ce)), ((q 4), .inl (cI, 6, .inl hi)), ((q 14), .inl (cI, 6, .inl pt)), ((q 15), .inl (cI, 6, .inl fn)), ((q 16), .inl (cI, 6, .inl df)), ((q 17), .inl (cI, 36, .inl wv))] sz)) (va_Qi (fun (r : Int32) (u : (Int32) × (Nat → Int32) × (Nat → Int32) × (Nat → Int32) × (Nat → Int32) × (Int32)) => r = f_X6_end on hm aw tk ce hi sn kn pt fn df wv th ∧ u.1 = g_on_X6_end on hm aw tk ce hi sn kn pt fn df wv th ∧ u.2.1 = g_pt_X6_end on hm aw tk ce hi sn kn pt fn df wv th ∧ u.2.2.1 = g_fn_X6_end on hm aw tk ce hi sn kn pt fn df wv th ∧ u.2.2.2.1 = g_df_X6_end on hm aw tk ce hi sn kn pt fn df wv th ∧ u.2.2.2.2.1 = g_wv_X6_end on hm aw tk ce hi sn kn pt fn df wv th ∧ u.2.2.2.2.2 = g_th_X6_end on hm aw tk ce hi sn kn pt fn df wv th) (fun u t => bcW D (tyL cI cZ cJ cA) (va_A [((q 0), .inr (6, [.ref (q 1), .ref (q 2), .int on, .int hm, .int aw, .int tk, .ref (q 3), .ref (q 4), .ref (q 5), .int (nI sn), .ref (q 6), .ref (q 7), .ref (q 8), .ref (q 9), .int (nI kn), .ref (q 10), .ref (q 11), .ref (q 12), .ref (q 13), .ref (q 14), .ref (q 15), .ref (q 16), .ref (q 17), .int th])), ((q 3), .inl (cI, 6, .inl ce)), ((q 4), .inl (cI, 6, .inl hi)), ((q 14), .inl (cI, 6, .inl pt)), ((q 15), .inl (cI, 6, .inl fn)), ((q 16), .inl (cI, 6, .inl df)), ((q 17), .inl (cI, 36, .inl wv))] sz) [((q 0), .inr (6, [.ref (q 1), .ref (q 2), .int u.1, .int hm, .int aw, .int tk, .ref (q 3), .ref (q 4), .ref (q 5), .int (nI sn), .ref (q 6), .ref (q 7), .ref (q 8), .ref (q 9), .int (nI kn), .ref (q 10), .ref (q 11), .ref (q 12), .ref (q 13), .ref (q 14), .ref (q 15), .ref (q 16), .ref (q 17), .int u.2.2.2.2.2])), ((q 3), .inl (cI, 6, .inl ce)), ((q 4), .inl (cI, 6, .inl hi)), ((q 14), .inl (cI, 6, .inl u.2.1)), ((q 15), .inl (cI, 6, .inl u.2.2.1)), ((q 16), .inl (cI, 6, .inl u.2.2.2.1)), ((q 17), .inl (cI, 36, .inl u.2.2.2.2.1))] t) (va_A [((q 0), .inr (6, [.ref (q 1), .ref (q 2), .int on, .int hm, .int aw, .int tk, .ref (q 3), .ref (q 4), .ref (q 5), .int (nI sn), .ref (q 6), .ref (q 7), .ref (q 8), .ref (q 9), .int (nI kn), .ref (q 10), .ref (q 11), .ref (q 12), .ref (q 13), .ref (q 14), .ref (q 15), .ref (q 16), .ref (q 17), .int th])), ((q 3), .inl (cI, 6, .inl ce)), ((q 4), .inl (cI, 6, .inl hi)), ((q 14), .inl (cI, 6, .inl pt)), ((q 15), .inl (cI, 6, .inl fn)), ((q 16), .inl (cI, 6, .inl df)), ((q 17), .inl (cI, 36, .inl wv))] sz)) 0 0 (va_A [((q 0), .inr (6, [.ref (q 1), .ref (q 2), .int on, .int hm, .int aw, .int tk, .ref (q 3), .ref (q 4), .ref (q 5), .int (nI sn), .ref (q 6), .ref (q 7), .ref (q 8), .ref (q 9), .int (nI kn), .ref (q 10), .ref (q 11), .ref (q 12), .ref (q 13), .ref (q 14), .ref (q 15), .ref (q 16), .ref (q 17), .int th])), ((q 3), .inl (cI, 6, .inl ce)), ((q 4), .inl (cI, 6, .inl hi)), ((q 14), .inl (cI, 6, .inl pt)), ((q 15), .inl (cI, 6, .inl fn)), ((q 16), .inl (cI, 6, .inl df)), ((q 17), .inl (cI, 36, .inl wv))] sz) := by
  refine Met.ofW (cc := cX6_end) (maxL := 4) (ret := (some .int)) (by decide) rfl ?_
  intro p e s m args below meth c s₁ B hml hv
  obtain ⟨rfl, hsz, hP, hK, hD0⟩ := hv
  have hx := B.exec
  have hb := B.bytes
  have hr := B.returns
  have hts := atoms_spec (ws := wsX6_end) B.pre
  have hown : s.vm.findClass RX6 = some m.cls := findClass_of_methodNamed B.named
  have hlocks := B.notSynchronized
  subst hsz
  have hD := hD0.self (sz := s.heap.size)
  generalize hAe : va_A [((q 0), .inr (6, [.ref (q 1), .ref (q 2), .int on, .int hm, .int aw, .int tk, .ref (q 3), .ref (q 4), .ref (q 5), .int (nI sn), .ref (q 6), .ref (q 7), .ref (q 8), .ref (q 9), .int (nI kn), .ref (q 10), .ref (q 11), .ref (q 12), .ref (q 13), .ref (q 14), .ref (q 15), .ref (q 16), .ref (q 17), .int th])), ((q 3), .inl (cI, 6, .inl ce)), ((q 4), .inl (cI, 6, .inl hi)), ((q 14), .inl (cI, 6, .inl pt)), ((q 15), .inl (cI, 6, .inl fn)), ((q 16), .inl (cI, 6, .inl df)), ((q 17), .inl (cI, 36, .inl wv))] s.heap.size = A at hD ⊢
  have hA : ∀ q : Nat, s.heap.size ≤ q → A q := fun q h => by rw [← hAe]; exact Or.inr h
  have hAR : ∀ q : Nat, s.heap.size ≤ q → (fun q : Nat => s.heap.size ≤ q) q := fun _ h => h
  have hS : va_S A s.heap s.heap [] := va_S.rf
  have hP : va_P D vwCl [((q 0), .inr (6, [.ref (q 1), .ref (q 2), .int on, .int hm, .int aw, .int tk, .ref (q 3), .ref (q 4), .ref (q 5), .int (nI sn), .ref (q 6), .ref (q 7), .ref (q 8), .ref (q 9), .int (nI kn), .ref (q 10), .ref (q 11), .ref (q 12), .ref (q 13), .ref (q 14), .ref (q 15), .ref (q 16), .ref (q 17), .int th])), ((q 3), .inl (cI, 6, .inl ce)), ((q 4), .inl (cI, 6, .inl hi)), ((q 14), .inl (cI, 6, .inl pt)), ((q 15), .inl (cI, 6, .inl fn)), ((q 16), .inl (cI, 6, .inl df)), ((q 17), .inl (cI, 36, .inl wv))] s.heap := hP
  have hl := lv_entry ([.ref (q 0)]) (n := 4) (Nat.le_of_ble_eq_true rfl)
  rw [lg_entry_eq]
  generalize (lg_sl ([.ref (q 0)]) ++ List.replicate (4 - (lg_sl ([.ref (q 0)])).length) Slot.unset).toArray = ls at hl ⊢
  have hl : lv_has ls 4 [(0, .ref (q 0))] := hl
  have hf_84 := hts (.fieldLink RX6 84 "PaintballAtlasModel" "isOn" "Z") (by decide +kernel)
  have hi_X6 : ∀ w ∈ wsX60, w ∈ wsX6_end := by decide +kernel
  have hf_50 := hts (.fieldLink RX6 50 "PaintballAtlasModel" "points" "[I") (by decide +kernel)
  have hf_101 := hts (.fieldLink RX6 101 "PaintballAtlasModel" "home" "I") (by decide +kernel)
  have hf_104 := hts (.fieldLink RX6 104 "PaintballAtlasModel" "away" "I") (by decide +kernel)
  have hf_59 := hts (.fieldLink RX6 59 "PaintballAtlasModel" "wins" "[I") (by decide +kernel)
  have hf_56 := hts (.fieldLink RX6 56 "PaintballAtlasModel" "difference" "[I") (by decide +kernel)
  have hf_53 := hts (.fieldLink RX6 53 "PaintballAtlasModel" "fines" "[I") (by decide +kernel)
  have hf_17 := hts (.fieldLink RX6 17 "PaintballAtlasModel" "where" "[I") (by decide +kernel)
  have hf_20 := hts (.fieldLink RX6 20 "PaintballAtlasModel" "hit" "[I") (by decide +kernel)
  refine lv_aload_n hx hb dX6_end_0 rfl (lv_at hl 0 rfl) ?_
  refine lv_aload_n hx hb dX6_end_1 rfl (lv_at hl 0 rfl) ?_
  refine va_get (D := D) (ci := 6) (v := .int on) (C := RX6) (T := TX6) (N := 24) hx hb hts hi_X6 hown hK hP 0 rfl rfl 2 (by decide) hf_84 (fun _ h9 => h9) rfl dX6_end_2 ?_
  refine lv_if_eq (tgt := 12) hx hb dX6_end_5 (by decide) (fun c_1 => ?_) (fun c_1 => ?_)
  · refine lv_iconst (v := 1) hx hb dX6_end_12 (by decide) ?_
    have hPc := hP.sub (ws' := [((q 0), .inr (6, [.ref (q 1), .ref (q 2), .int on, .int hm, .int aw, .int tk, .ref (q 3), .ref (q 4), .ref (q 5), .int (nI sn), .ref (q 6), .ref (q 7), .ref (q 8), .ref (q 9), .int (nI kn), .ref (q 10), .ref (q 11), .ref (q 12), .ref (q 13), .ref (q 14), .ref (q 15), .ref (q 16), .ref (q 17), .int th]))]) [0] rfl
    have hDc := hD.sub (ws' := [((q 0), .inr (6, [.ref (q 1), .ref (q 2), .int on, .int hm, .int aw, .int tk, .ref (q 3), .ref (q 4), .ref (q 5), .int (nI sn), .ref (q 6), .ref (q 7), .ref (q 8), .ref (q 9), .int (nI kn), .ref (q 10), .ref (q 11), .ref (q 12), .ref (q 13), .ref (q 14), .ref (q 15), .ref (q 16), .ref (q 17), .int th]))]) [0] (by decide) rfl
    have hFc := va_free (wc := [((q 0), .inr (6, [.ref (q 1), .ref (q 2), .int on, .int hm, .int aw, .int tk, .ref (q 3), .ref (q 4), .ref (q 5), .int (nI sn), .ref (q 6), .ref (q 7), .ref (q 8), .ref (q 9), .int (nI kn), .ref (q 10), .ref (q 11), .ref (q 12), .ref (q 13), .ref (q 14), .ref (q 15), .ref (q 16), .ref (q 17), .int th]))]) hD hS hA [0] rfl
    refine va_calli (va_runV (As := [.int 1]) (rest := []) ⟨hx, hb, hml, hown, hts⟩ (c_X6_fails l D cI cZ cJ cA s.heap.size q on hm aw tk sn kn th 1) (cwV 1 hts gX6_end_X6_fails rfl rfl rfl (by decide +kernel) ⟨Nat.le_of_ble_eq_true rfl, Nat.le_of_ble_eq_true rfl⟩) ⟨pcW_bl, va_recv hK hPc (ci := 6) (q0 := 0) rfl rfl, fun U hU hW => ⟨rfl, by rw [hU], by rw [hU]; exact hPc, va_K.moved hW.alike hK, hDc.weaken (fun _ _ _ _ => trivial)⟩⟩ rfl rfl hl.1 rfl (lv_room (Nat.le_of_ble_eq_true rfl)) dX6_end_13 ⟨Nat.le_of_ble_eq_true rfl, Nat.le_of_ble_eq_true rfl⟩) hS (fun q _ h => hFc q h) hFc (fun r_2 u t H locs ht hvm hw hB hz1 hk1 hS => ?_)
    try dsimp only at hw
    obtain ⟨u0_2, rfl⟩ : ∃ z, z = u := ⟨_, rfl⟩
    obtain ⟨hr_2, hu0_2⟩ := hw
    obtain ⟨hP1, hK1, hD1⟩ := hB
    rw [ht] at hP1
    obtain ⟨hP, hD⟩ := va_join (wr := [((q 3), .inl (cI, 6, .inl ce)), ((q 4), .inl (cI, 6, .inl hi)), ((q 14), .inl (cI, 6, .inl pt)), ((q 15), .inl (cI, 6, .inl fn)), ((q 16), .inl (cI, 6, .inl df)), ((q 17), .inl (cI, 36, .inl wv))]) (w1 := [((q 0), .inr (6, [.ref (q 1), .ref (q 2), .int on, .int hm, .int aw, .int tk, .ref (q 3), .ref (q 4), .ref (q 5), .int (nI sn), .ref (q 6), .ref (q 7), .ref (q 8), .ref (q 9), .int (nI kn), .ref (q 10), .ref (q 11), .ref (q 12), .ref (q 13), .ref (q 14), .ref (q 15), .ref (q 16), .ref (q 17), .int u0_2]))]) hP hD [0] [1, 2, 3, 4, 5, 6] rfl rfl (by decide) (by decide) hk1 hFc hP1 hD1
    obtain rfl := hu0_2.symm
    have hP : va_P D vwCl [((q 3), .inl (cI, 6, .inl ce)), ((q 4), .inl (cI, 6, .inl hi)), ((q 14), .inl (cI, 6, .inl pt)), ((q 15), .inl (cI, 6, .inl fn)), ((q 16), .inl (cI, 6, .inl df)), ((q 17), .inl (cI, 36, .inl wv)), ((q 0), .inr (6, [.ref (q 1), .ref (q 2), .int on, .int hm, .int aw, .int tk, .ref (q 3), .ref (q 4), .ref (q 5), .int (nI sn), .ref (q 6), .ref (q 7), .ref (q 8), .ref (q 9), .int (nI kn), .ref (q 10), .ref (q 11), .ref (q 12), .ref (q 13), .ref (q 14), .ref (q 15), .ref (q 16), .ref (q 17), .int 1]))] H := hP
    have hD : va_D A [((q 3), .inl (cI, 6, .inl ce)), ((q 4), .inl (cI, 6, .inl hi)), ((q 14), .inl (cI, 6, .inl pt)), ((q 15), .inl (cI, 6, .inl fn)), ((q 16), .inl (cI, 6, .inl df)), ((q 17), .inl (cI, 36, .inl wv)), ((q 0), .inr (6, [.ref (q 1), .ref (q 2), .int on, .int hm, .int aw, .int tk, .ref (q 3), .ref (q 4), .ref (q 5), .int (nI sn), .ref (q 6), .ref (q 7), .ref (q 8), .ref (q 9), .int (nI kn), .ref (q 10), .ref (q 11), .ref (q 12), .ref (q 13), .ref (q 14), .ref (q 15), .ref (q 16), .ref (q 17), .int 1]))] := hD
    obtain rfl := hr_2.symm
    refine W.widen (k := 0) (n := 0) (Nat.le_refl _) (Nat.le_refl _) ?_
    refine tp_eq (y := 1) rfl ?_
    refine lv_if_eq (tgt := 21) hx hb dX6_end_16 (by decide) (fun c_3 => absurd c_3 (by decide)) (fun _ => ?_)
    refine lv_iconst (v := 0) hx hb dX6_end_19 (by decide) ?_
    have hP9 := hP.sub (ws' := [((q 0), .inr (6, [.ref (q 1), .ref (q 2), .int on, .int hm, .int aw, .int tk, .ref (q 3), .ref (q 4), .ref (q 5), .int (nI sn), .ref (q 6), .ref (q 7), .ref (q 8), .ref (q 9), .int (nI kn), .ref (q 10), .ref (q 11), .ref (q 12), .ref (q 13), .ref (q 14), .ref (q 15), .ref (q 16), .ref (q 17), .int 1])), ((q 3), .inl (cI, 6, .inl ce)), ((q 4), .inl (cI, 6, .inl hi)), ((q 14), .inl (cI, 6, .inl pt)), ((q 15), .inl (cI, 6, .inl fn)), ((q 16), .inl (cI, 6, .inl df)), ((q 17), .inl (cI, 36, .inl wv))]) [6, 0, 1, 2, 3, 4, 5] rfl
    have hD9 := hD.sub (ws' := [((q 0), .inr (6, [.ref (q 1), .ref (q 2), .int on, .int hm, .int aw, .int tk, .ref (q 3), .ref (q 4), .ref (q 5), .int (nI sn), .ref (q 6), .ref (q 7), .ref (q 8), .ref (q 9), .int (nI kn), .ref (q 10), .ref (q 11), .ref (q 12), .ref (q 13), .ref (q 14), .ref (q 15), .ref (q 16), .ref (q 17), .int 1])), ((q 3), .inl (cI, 6, .inl ce)), ((q 4), .inl (cI, 6, .inl hi)), ((q 14), .inl (cI, 6, .inl pt)), ((q 15), .inl (cI, 6, .inl fn)), ((q 16), .inl (cI, 6, .inl df)), ((q 17), .inl (cI, 36, .inl wv))]) [6, 0, 1, 2, 3, 4, 5] (by decide) rfl
    -- leaf 0
    refine W.widen (k := 0) (n := 0) (Nat.le_refl _) (Nat.le_refl _) ?_
    exact W.iret (v := 0) hx hb hr (fun t ht hW => ⟨⟨0, (on, pt, fn, df, wv, 1), rfl, ⟨(by rw [f_X6_end, if_pos c_1]), (by rw [g_on_X6_end, if_pos c_1]), (by rw [g_pt_X6_end, if_pos c_1]), (by rw [g_fn_X6_end, if_pos c_1]), (by rw [g_df_X6_end, if_pos c_1]), (by rw [g_wv_X6_end, if_pos c_1]), (by rw [g_th_X6_end, if_pos c_1])⟩, by rw [ht]; exact hP9, va_K.moved hW.alike hK, hD9⟩, hS.F ht⟩) hS.2.2 dX6_end_20
  · refine lv_iconst (v := 0) hx hb dX6_end_8 (by decide) ?_
    refine lv_goto (tgt := 13) hx hb dX6_end_9 (by decide) ?_
    have hPc := hP.sub (ws' := [((q 0), .inr (6, [.ref (q 1), .ref (q 2), .int on, .int hm, .int aw, .int tk, .ref (q 3), .ref (q 4), .ref (q 5), .int (nI sn), .ref (q 6), .ref (q 7), .ref (q 8), .ref (q 9), .int (nI kn), .ref (q 10), .ref (q 11), .ref (q 12), .ref (q 13), .ref (q 14), .ref (q 15), .ref (q 16), .ref (q 17), .int th]))]) [0] rfl
    have hDc := hD.sub (ws' := [((q 0), .inr (6, [.ref (q 1), .ref (q 2), .int on, .int hm, .int aw, .int tk, .ref (q 3), .ref (q 4), .ref (q 5), .int (nI sn), .ref (q 6), .ref (q 7), .ref (q 8), .ref (q 9), .int (nI kn), .ref (q 10), .ref (q 11), .ref (q 12), .ref (q 13), .ref (q 14), .ref (q 15), .ref (q 16), .ref (q 17), .int th]))]) [0] (by decide) rfl
    have hFc := va_free (wc := [((q 0), .inr (6, [.ref (q 1), .ref (q 2), .int on, .int hm, .int aw, .int tk, .ref (q 3), .ref (q 4), .ref (q 5), .int (nI sn), .ref (q 6), .ref (q 7), .ref (q 8), .ref (q 9), .int (nI kn), .ref (q 10), .ref (q 11), .ref (q 12), .ref (q 13), .ref (q 14), .ref (q 15), .ref (q 16), .ref (q 17), .int th]))]) hD hS hA [0] rfl
    refine va_calli (va_runV (As := [.int 0]) (rest := []) ⟨hx, hb, hml, hown, hts⟩ (c_X6_fails l D cI cZ cJ cA s.heap.size q on hm aw tk sn kn th 0) (cwV 1 hts gX6_end_X6_fails rfl rfl rfl (by decide +kernel) ⟨Nat.le_of_ble_eq_true rfl, Nat.le_of_ble_eq_true rfl⟩) ⟨pcW_bl, va_recv hK hPc (ci := 6) (q0 := 0) rfl rfl, fun U hU hW => ⟨rfl, by rw [hU], by rw [hU]; exact hPc, va_K.moved hW.alike hK, hDc.weaken (fun _ _ _ _ => trivial)⟩⟩ rfl rfl hl.1 rfl (lv_room (Nat.le_of_ble_eq_true rfl)) dX6_end_13 ⟨Nat.le_of_ble_eq_true rfl, Nat.le_of_ble_eq_true rfl⟩) hS (fun q _ h => hFc q h) hFc (fun r_4 u t H locs ht hvm hw hB hz1 hk1 hS => ?_)
    try dsimp only at hw
    obtain ⟨u0_4, rfl⟩ : ∃ z, z = u := ⟨_, rfl⟩
    obtain ⟨hr_4, hu0_4⟩ := hw
    obtain ⟨hP1, hK1, hD1⟩ := hB
    rw [ht] at hP1
    obtain ⟨hP, hD⟩ := va_join (wr := [((q 3), .inl (cI, 6, .inl ce)), ((q 4), .inl (cI, 6, .inl hi)), ((q 14), .inl (cI, 6, .inl pt)), ((q 15), .inl (cI, 6, .inl fn)), ((q 16), .inl (cI, 6, .inl df)), ((q 17), .inl (cI, 36, .inl wv))]) (w1 := [((q 0), .inr (6, [.ref (q 1), .ref (q 2), .int on, .int hm, .int aw, .int tk, .ref (q 3), .ref (q 4), .ref (q 5), .int (nI sn), .ref (q 6), .ref (q 7), .ref (q 8), .ref (q 9), .int (nI kn), .ref (q 10), .ref (q 11), .ref (q 12), .ref (q 13), .ref (q 14), .ref (q 15), .ref (q 16), .ref (q 17), .int u0_4]))]) hP hD [0] [1, 2, 3, 4, 5, 6] rfl rfl (by decide) (by decide) hk1 hFc hP1 hD1
    obtain rfl := hu0_4.symm
    have hP : va_P D vwCl [((q 3), .inl (cI, 6, .inl ce)), ((q 4), .inl (cI, 6, .inl hi)), ((q 14), .inl (cI, 6, .inl pt)), ((q 15), .inl (cI, 6, .inl fn)), ((q 16), .inl (cI, 6, .inl df)), ((q 17), .inl (cI, 36, .inl wv)), ((q 0), .inr (6, [.ref (q 1), .ref (q 2), .int on, .int hm, .int aw, .int tk, .ref (q 3), .ref (q 4), .ref (q 5), .int (nI sn), .ref (q 6), .ref (q 7), .ref (q 8), .ref (q 9), .int (nI kn), .ref (q 10), .ref (q 11), .ref (q 12), .ref (q 13), .ref (q 14), .ref (q 15), .ref (q 16), .ref (q 17), .int 0]))] H := hP
    have hD : va_D A [((q 3), .inl (cI, 6, .inl ce)), ((q 4), .inl (cI, 6, .inl hi)), ((q 14), .inl (cI, 6, .inl pt)), ((q 15), .inl (cI, 6, .inl fn)), ((q 16), .inl (cI, 6, .inl df)), ((q 17), .inl (cI, 36, .inl wv)), ((q 0), .inr (6, [.ref (q 1), .ref (q 2), .int on, .int hm, .int aw, .int tk, .ref (q 3), .ref (q 4), .ref (q 5), .int (nI sn), .ref (q 6), .ref (q 7), .ref (q 8), .ref (q 9), .int (nI kn), .ref (q 10), .ref (q 11), .ref (q 12), .ref (q 13), .ref (q 14), .ref (q 15), .ref (q 16), .ref (q 17), .int 0]))] := hD
    obtain rfl := hr_4.symm
    refine W.widen (k := 0) (n := 0) (Nat.le_refl _) (Nat.le_refl _) ?_
    refine tp_eq (y := 0) rfl ?_
    refine lv_if_eq (tgt := 21) hx hb dX6_end_16 (by decide) (fun _ => ?_) (fun c_5 => absurd (by decide) c_5)
    refine lv_aload_n hx hb dX6_end_21 rfl (lv_at hl 0 rfl) ?_
    refine lv_iconst (v := 0) hx hb dX6_end_22 (by decide) ?_
    refine va_put (D := D) (ci := 6) (v := .int 0) (ty := .boolean) (C := RX6) (T := TX6) (N := 24) hx hb hts hi_X6 tyX6 tyX6_ok nmX6 hown hK hP hD hS 6 rfl rfl 2 (by decide) hf_84 (fun _ h9 => h9) rfl (by decide +kernel) rfl rfl (Nat.le_of_ble_eq_true rfl) dX6_end_23 (fun H locs hP hD hS => ?_)
    have hP : va_P D vwCl [((q 3), .inl (cI, 6, .inl ce)), ((q 4), .inl (cI, 6, .inl hi)), ((q 14), .inl (cI, 6, .inl pt)), ((q 15), .inl (cI, 6, .inl fn)), ((q 16), .inl (cI, 6, .inl df)), ((q 17), .inl (cI, 36, .inl wv)), ((q 0), .inr (6, [.ref (q 1), .ref (q 2), .int 0, .int hm, .int aw, .int tk, .ref (q 3), .ref (q 4), .ref (q 5), .int (nI sn), .ref (q 6), .ref (q 7), .ref (q 8), .ref (q 9), .int (nI kn), .ref (q 10), .ref (q 11), .ref (q 12), .ref (q 13), .ref (q 14), .ref (q 15), .ref (q 16), .ref (q 17), .int 0]))] H := hP
    have hD : va_D A [((q 3), .inl (cI, 6, .inl ce)), ((q 4), .inl (cI, 6, .inl hi)), ((q 14), .inl (cI, 6, .inl pt)), ((q 15), .inl (cI, 6, .inl fn)), ((q 16), .inl (cI, 6, .inl df)), ((q 17), .inl (cI, 36, .inl wv)), ((q 0), .inr (6, [.ref (q 1), .ref (q 2), .int 0, .int hm, .int aw, .int tk, .ref (q 3), .ref (q 4), .ref (q 5), .int (nI sn), .ref (q 6), .ref (q 7), .ref (q 8), .ref (q 9), .int (nI kn), .ref (q 10), .ref (q 11), .ref (q 12), .ref (q 13), .ref (q 14), .ref (q 15), .ref (q 16), .ref (q 17), .int 0]))] := hD
    refine lv_iconst (v := 0) hx hb dX6_end_26 (by decide) ?_
    refine lv_istore_n (lv' := [(1, .int 0), (0, .ref (q 0))]) hx hb dX6_end_27 rfl hl (by decide) rfl (fun ls hl => ?_)
    refine lv_iconst (v := 0) hx hb dX6_end_28 (by decide) ?_
    refine lv_istore_n (lv' := [(2, .int 0), (1, .int 0), (0, .ref (q 0))]) hx hb dX6_end_29 rfl hl (by decide) rfl (fun ls hl => ?_)
    refine lpW (σ := (Nat) × (Int32)) (I := fun x H locs ls => va_P D vwCl [((q 3), .inl (cI, 6, .inl ce)), ((q 4), .inl (cI, 6, .inl hi)), ((q 14), .inl (cI, 6, .inl pt)), ((q 15), .inl (cI, 6, .inl fn)), ((q 16), .inl (cI, 6, .inl df)), ((q 17), .inl (cI, 36, .inl wv)), ((q 0), .inr (6, [.ref (q 1), .ref (q 2), .int 0, .int hm, .int aw, .int tk, .ref (q 3), .ref (q 4), .ref (q 5), .int (nI sn), .ref (q 6), .ref (q 7), .ref (q 8), .ref (q 9), .int (nI kn), .ref (q 10), .ref (q 11), .ref (q 12), .ref (q 13), .ref (q 14), .ref (q 15), .ref (q 16), .ref (q 17), .int 0]))] H ∧ va_D A [((q 3), .inl (cI, 6, .inl ce)), ((q 4), .inl (cI, 6, .inl hi)), ((q 14), .inl (cI, 6, .inl pt)), ((q 15), .inl (cI, 6, .inl fn)), ((q 16), .inl (cI, 6, .inl df)), ((q 17), .inl (cI, 36, .inl wv)), ((q 0), .inr (6, [.ref (q 1), .ref (q 2), .int 0, .int hm, .int aw, .int tk, .ref (q 3), .ref (q 4), .ref (q 5), .int (nI sn), .ref (q 6), .ref (q 7), .ref (q 8), .ref (q 9), .int (nI kn), .ref (q 10), .ref (q 11), .ref (q 12), .ref (q 13), .ref (q 14), .ref (q 15), .ref (q 16), .ref (q 17), .int 0]))] ∧ va_S A s.heap H locs ∧ lv_has ls 4 [(0, .ref (q 0)), (1, .int x.2), (2, .int (nI x.1))] ∧ (x.1 ≤ 6) ∧ (x.2 = mgM ce hi x.1)) (μ := fun x => 6 - x.1) ?_ (0, 0) ⟨hP, hD, hS, lv_sub hl [2, 1, 0] rfl, (Nat.zero_le _), (by simp only [mgM])⟩
    intro x H locs ls hI ih
    obtain ⟨i, c1⟩ := x
    obtain ⟨hP, hD, hS, hl, hq_hi1, hq_hc⟩ := hI
    have ih_30 := ih
    have hl : lv_has ls 4 [(0, .ref (q 0)), (1, .int c1), (2, .int (nI i))] := hl
    have hP : va_P D vwCl [((q 3), .inl (cI, 6, .inl ce)), ((q 4), .inl (cI, 6, .inl hi)), ((q 14), .inl (cI, 6, .inl pt)), ((q 15), .inl (cI, 6, .inl fn)), ((q 16), .inl (cI, 6, .inl df)), ((q 17), .inl (cI, 36, .inl wv)), ((q 0), .inr (6, [.ref (q 1), .ref (q 2), .int 0, .int hm, .int aw, .int tk, .ref (q 3), .ref (q 4), .ref (q 5), .int (nI sn), .ref (q 6), .ref (q 7), .ref (q 8), .ref (q 9), .int (nI kn), .ref (q 10), .ref (q 11), .ref (q 12), .ref (q 13), .ref (q 14), .ref (q 15), .ref (q 16), .ref (q 17), .int 0]))] H := hP
    have hD : va_D A [((q 3), .inl (cI, 6, .inl ce)), ((q 4), .inl (cI, 6, .inl hi)), ((q 14), .inl (cI, 6, .inl pt)), ((q 15), .inl (cI, 6, .inl fn)), ((q 16), .inl (cI, 6, .inl df)), ((q 17), .inl (cI, 36, .inl wv)), ((q 0), .inr (6, [.ref (q 1), .ref (q 2), .int 0, .int hm, .int aw, .int tk, .ref (q 3), .ref (q 4), .ref (q 5), .int (nI sn), .ref (q 6), .ref (q 7), .ref (q 8), .ref (q 9), .int (nI kn), .ref (q 10), .ref (q 11), .ref (q 12), .ref (q 13), .ref (q 14), .ref (q 15), .ref (q 16), .ref (q 17), .int 0]))] := hD
    have hi1 : i ≤ 6 := hq_hi1
    have hc : c1 = mgM ce hi i := hq_hc
    clear hq_hi1 hq_hc
    refine lv_iload_n hx hb dX6_end_30 rfl (lv_at hl 2 rfl) ?_
    refine lv_bipush (v := 6) hx hb dX6_end_31 (by decide) ?_
    refine lv_icmp_ge (tgt := 90) hx hb dX6_end_33 (by decide) (fun c_6 => ?_) (fun c_6 => ?_)
    · have he_33 : i = 6 := bd_eq (N := 6) (by decide) hi1 c_6
      rw [he_33] at hc
      obtain rfl := hc.symm
      refine lv_aload_n hx hb dX6_end_90 rfl (lv_at hl 0 rfl) ?_
      refine va_get (D := D) (ci := 6) (v := .ref (q 14)) (C := RX6) (T := TX6) (N := 24) hx hb hts hi_X6 hown hK hP 6 rfl rfl 19 (by decide) hf_50 (fun _ h9 => h9) rfl dX6_end_91 ?_
      refine lv_aload_n hx hb dX6_end_94 rfl (lv_at hl 0 rfl) ?_
      refine va_get (D := D) (ci := 6) (v := .int hm) (C := RX6) (T := TX6) (N := 24) hx hb hts hi_X6 hown hK hP 6 rfl rfl 3 (by decide) hf_101 (fun _ h9 => h9) rfl dX6_end_95 ?_
      refine lv_dup2_11 hx hb dX6_end_98 rfl rfl ?_
      refine va_iald hx hb hK hP 2 0 rfl rfl (by assumption) dX6_end_99 ?_
      refine jn_v (pc2 := 117) (ls2 := ls) (st2 := [.int (pt hm.toNatClampNeg), .int hm, .ref (q 14)]) (ptA (mgM ce hi 6)) (fun jn_100 => ?_) ?_
      · refine lv_iload_n hx hb dX6_end_100 rfl (lv_at hl 1 rfl) ?_
        refine lv_if_le (tgt := 108) hx hb dX6_end_101 (by decide) (fun c_7 => ?_) (fun c_7 => ?_)
        · refine lv_iload_n hx hb dX6_end_108 rfl (lv_at hl 1 rfl) ?_
          refine lv_if_ne (tgt := 116) hx hb dX6_end_109 (by decide) (fun c_8 => ?_) (fun c_8 => ?_)
          · refine lv_iconst (v := 0) hx hb dX6_end_116 (by decide) ?_
            exact jn_100 _ (by rw [ptA, if_pos c_7, if_neg c_8])
          · refine lv_iconst (v := 1) hx hb dX6_end_112 (by decide) ?_
            refine lv_goto (tgt := 117) hx hb dX6_end_113 (by decide) ?_
            exact jn_100 _ (by rw [ptA, if_pos c_7, if_pos c_8])
        · refine lv_iconst (v := 3) hx hb dX6_end_104 (by decide) ?_
          refine lv_goto (tgt := 117) hx hb dX6_end_105 (by decide) ?_
          exact jn_100 _ (by rw [ptA, if_neg c_7])
      · intro v1 ev1
        obtain rfl := ev1.symm
        refine lv_iadd hx hb dX6_end_117 ?_
        refine va_iast hx hb hK hP hD hS 2 0 rfl rfl (by assumption) dX6_end_118 (fun H locs hP hD hS => ?_)
        have hP : va_P D vwCl [((q 3), .inl (cI, 6, .inl ce)), ((q 4), .inl (cI, 6, .inl hi)), ((q 14), .inl (cI, 6, .inl (upd pt hm.toNatClampNeg ((pt hm.toNatClampNeg) + (ptA (mgM ce hi 6)))))), ((q 15), .inl (cI, 6, .inl fn)), ((q 16), .inl (cI, 6, .inl df)), ((q 17), .inl (cI, 36, .inl wv)), ((q 0), .inr (6, [.ref (q 1), .ref (q 2), .int 0, .int hm, .int aw, .int tk, .ref (q 3), .ref (q 4), .ref (q 5), .int (nI sn), .ref (q 6), .ref (q 7), .ref (q 8), .ref (q 9), .int (nI kn), .ref (q 10), .ref (q 11), .ref (q 12), .ref (q 13), .ref (q 14), .ref (q 15), .ref (q 16), .ref (q 17), .int 0]))] H := hP
        have hD : va_D A [((q 3), .inl (cI, 6, .inl ce)), ((q 4), .inl (cI, 6, .inl hi)), ((q 14), .inl (cI, 6, .inl (upd pt hm.toNatClampNeg ((pt hm.toNatClampNeg) + (ptA (mgM ce hi 6)))))), ((q 15), .inl (cI, 6, .inl fn)), ((q 16), .inl (cI, 6, .inl df)), ((q 17), .inl (cI, 36, .inl wv)), ((q 0), .inr (6, [.ref (q 1), .ref (q 2), .int 0, .int hm, .int aw, .int tk, .ref (q 3), .ref (q 4), .ref (q 5), .int (nI sn), .ref (q 6), .ref (q 7), .ref (q 8), .ref (q 9), .int (nI kn), .ref (q 10), .ref (q 11), .ref (q 12), .ref (q 13), .ref (q 14), .ref (q 15), .ref (q 16), .ref (q 17), .int 0]))] := hD
        refine lv_aload_n hx hb dX6_end_119 rfl (lv_at hl 0 rfl) ?_
        refine va_get (D := D) (ci := 6) (v := .ref (q 14)) (C := RX6) (T := TX6) (N := 24) hx hb hts hi_X6 hown hK hP 6 rfl rfl 19 (by decide) hf_50 (fun _ h9 => h9) rfl dX6_end_120 ?_
        refine lv_aload_n hx hb dX6_end_123 rfl (lv_at hl 0 rfl) ?_
        refine va_get (D := D) (ci := 6) (v := .int aw) (C := RX6) (T := TX6) (N := 24) hx hb hts hi_X6 hown hK hP 6 rfl rfl 4 (by decide) hf_104 (fun _ h9 => h9) rfl dX6_end_124 ?_
        refine lv_dup2_11 hx hb dX6_end_127 rfl rfl ?_
        refine va_iald hx hb hK hP 2 0 rfl rfl (by assumption) dX6_end_128 ?_
        refine jn_v (pc2 := 146) (ls2 := ls) (st2 := [.int ((upd pt hm.toNatClampNeg ((pt hm.toNatClampNeg) + (ptA (mgM ce hi 6)))) aw.toNatClampNeg), .int aw, .ref (q 14)]) (ptB (mgM ce hi 6)) (fun jn_129 => ?_) ?_
        · refine lv_iload_n hx hb dX6_end_129 rfl (lv_at hl 1 rfl) ?_
          refine lv_if_ge (tgt := 137) hx hb dX6_end_130 (by decide) (fun c_9 => ?_) (fun c_9 => ?_)
          · refine lv_iload_n hx hb dX6_end_137 rfl (lv_at hl 1 rfl) ?_
            refine lv_if_ne (tgt := 145) hx hb dX6_end_138 (by decide) (fun c_10 => ?_) (fun c_10 => ?_)
            · refine lv_iconst (v := 0) hx hb dX6_end_145 (by decide) ?_
              exact jn_129 _ (by rw [ptB, if_pos c_9, if_neg c_10])
            · refine lv_iconst (v := 1) hx hb dX6_end_141 (by decide) ?_
              refine lv_goto (tgt := 146) hx hb dX6_end_142 (by decide) ?_
              exact jn_129 _ (by rw [ptB, if_pos c_9, if_pos c_10])
          · refine lv_iconst (v := 3) hx hb dX6_end_133 (by decide) ?_
            refine lv_goto (tgt := 146) hx hb dX6_end_134 (by decide) ?_
            exact jn_129 _ (by rw [ptB, if_neg c_9])
        · intro v2 ev2
          obtain rfl := ev2.symm
          refine lv_iadd hx hb dX6_end_146 ?_
          refine va_iast hx hb hK hP hD hS 2 0 rfl rfl (by assumption) dX6_end_147 (fun H locs hP hD hS => ?_)
          have hP : va_P D vwCl [((q 3), .inl (cI, 6, .inl ce)), ((q 4), .inl (cI, 6, .inl hi)), ((q 14), .inl (cI, 6, .inl (upd (upd pt hm.toNatClampNeg ((pt hm.toNatClampNeg) + (ptA (mgM ce hi 6)))) aw.toNatClampNeg (((upd pt hm.toNatClampNeg ((pt hm.toNatClampNeg) + (ptA (mgM ce hi 6)))) aw.toNatClampNeg) + (ptB (mgM ce hi 6)))))), ((q 15), .inl (cI, 6, .inl fn)), ((q 16), .inl (cI, 6, .inl df)), ((q 17), .inl (cI, 36, .inl wv)), ((q 0), .inr (6, [.ref (q 1), .ref (q 2), .int 0, .int hm, .int aw, .int tk, .ref (q 3), .ref (q 4), .ref (q 5), .int (nI sn), .ref (q 6), .ref (q 7), .ref (q 8), .ref (q 9), .int (nI kn), .ref (q 10), .ref (q 11), .ref (q 12), .ref (q 13), .ref (q 14), .ref (q 15), .ref (q 16), .ref (q 17), .int 0]))] H := hP
          have hD : va_D A [((q 3), .inl (cI, 6, .inl ce)), ((q 4), .inl (cI, 6, .inl hi)), ((q 14), .inl (cI, 6, .inl (upd (upd pt hm.toNatClampNeg ((pt hm.toNatClampNeg) + (ptA (mgM ce hi 6)))) aw.toNatClampNeg (((upd pt hm.toNatClampNeg ((pt hm.toNatClampNeg) + (ptA (mgM ce hi 6)))) aw.toNatClampNeg) + (ptB (mgM ce hi 6)))))), ((q 15), .inl (cI, 6, .inl fn)), ((q 16), .inl (cI, 6, .inl df)), ((q 17), .inl (cI, 36, .inl wv)), ((q 0), .inr (6, [.ref (q 1), .ref (q 2), .int 0, .int hm, .int aw, .int tk, .ref (q 3), .ref (q 4), .ref (q 5), .int (nI sn), .ref (q 6), .ref (q 7), .ref (q 8), .ref (q 9), .int (nI kn), .ref (q 10), .ref (q 11), .ref (q 12), .ref (q 13), .ref (q 14), .ref (q 15), .ref (q 16), .ref (q 17), .int 0]))] := hD
          refine lv_aload_n hx hb dX6_end_148 rfl (lv_at hl 0 rfl) ?_
          refine va_get (D := D) (ci := 6) (v := .ref (q 17)) (C := RX6) (T := TX6) (N := 24) hx hb hts hi_X6 hown hK hP 6 rfl rfl 22 (by decide) hf_59 (fun _ h9 => h9) rfl dX6_end_149 ?_
          refine lv_bipush (v := 6) hx hb dX6_end_152 (by decide) ?_
          refine lv_aload_n hx hb dX6_end_154 rfl (lv_at hl 0 rfl) ?_
          refine va_get (D := D) (ci := 6) (v := .int hm) (C := RX6) (T := TX6) (N := 24) hx hb hts hi_X6 hown hK hP 6 rfl rfl 3 (by decide) hf_101 (fun _ h9 => h9) rfl dX6_end_155 ?_
          refine lv_imul hx hb dX6_end_158 ?_
          refine lv_aload_n hx hb dX6_end_159 rfl (lv_at hl 0 rfl) ?_
          refine va_get (D := D) (ci := 6) (v := .int aw) (C := RX6) (T := TX6) (N := 24) hx hb hts hi_X6 hown hK hP 6 rfl rfl 4 (by decide) hf_104 (fun _ h9 => h9) rfl dX6_end_160 ?_
          refine lv_iadd hx hb dX6_end_163 ?_
          refine lv_dup2_11 hx hb dX6_end_164 rfl rfl ?_
          refine va_iald hx hb hK hP 5 0 rfl rfl (win_in hhm haw) dX6_end_165 ?_
          refine jn_v (pc2 := 175) (ls2 := ls) (st2 := [.int (wv ((6 * hm) + aw).toNatClampNeg), .int ((6 * hm) + aw), .ref (q 17)]) (wnA (mgM ce hi 6)) (fun jn_166 => ?_) ?_
          · refine lv_iload_n hx hb dX6_end_166 rfl (lv_at hl 1 rfl) ?_
            refine lv_if_le (tgt := 174) hx hb dX6_end_167 (by decide) (fun c_11 => ?_) (fun c_11 => ?_)
            · refine lv_iconst (v := 0) hx hb dX6_end_174 (by decide) ?_
              exact jn_166 _ (by rw [wnA, if_pos c_11])
            · refine lv_iconst (v := 1) hx hb dX6_end_170 (by decide) ?_
              refine lv_goto (tgt := 175) hx hb dX6_end_171 (by decide) ?_
              exact jn_166 _ (by rw [wnA, if_neg c_11])
          · intro v3 ev3
            obtain rfl := ev3.symm
            refine lv_iadd hx hb dX6_end_175 ?_
            refine va_iast hx hb hK hP hD hS 5 0 rfl rfl (win_in hhm haw) dX6_end_176 (fun H locs hP hD hS => ?_)
            have hP : va_P D vwCl [((q 3), .inl (cI, 6, .inl ce)), ((q 4), .inl (cI, 6, .inl hi)), ((q 14), .inl (cI, 6, .inl (upd (upd pt hm.toNatClampNeg ((pt hm.toNatClampNeg) + (ptA (mgM ce hi 6)))) aw.toNatClampNeg (((upd pt hm.toNatClampNeg ((pt hm.toNatClampNeg) + (ptA (mgM ce hi 6)))) aw.toNatClampNeg) + (ptB (mgM ce hi 6)))))), ((q 15), .inl (cI, 6, .inl fn)), ((q 16), .inl (cI, 6, .inl df)), ((q 17), .inl (cI, 36, .inl (upd wv (((6 * hm) + aw).toNatClampNeg) ((wv ((6 * hm) + aw).toNatClampNeg) + (wnA (mgM ce hi 6)))))), ((q 0), .inr (6, [.ref (q 1), .ref (q 2), .int 0, .int hm, .int aw, .int tk, .ref (q 3), .ref (q 4), .ref (q 5), .int (nI sn), .ref (q 6), .ref (q 7), .ref (q 8), .ref (q 9), .int (nI kn), .ref (q 10), .ref (q 11), .ref (q 12), .ref (q 13), .ref (q 14), .ref (q 15), .ref (q 16), .ref (q 17), .int 0]))] H := hP
            have hD : va_D A [((q 3), .inl (cI, 6, .inl ce)), ((q 4), .inl (cI, 6, .inl hi)), ((q 14), .inl (cI, 6, .inl (upd (upd pt hm.toNatClampNeg ((pt hm.toNatClampNeg) + (ptA (mgM ce hi 6)))) aw.toNatClampNeg (((upd pt hm.toNatClampNeg ((pt hm.toNatClampNeg) + (ptA (mgM ce hi 6)))) aw.toNatClampNeg) + (ptB (mgM ce hi 6)))))), ((q 15), .inl (cI, 6, .inl fn)), ((q 16), .inl (cI, 6, .inl df)), ((q 17), .inl (cI, 36, .inl (upd wv (((6 * hm) + aw).toNatClampNeg) ((wv ((6 * hm) + aw).toNatClampNeg) + (wnA (mgM ce hi 6)))))), ((q 0), .inr (6, [.ref (q 1), .ref (q 2), .int 0, .int hm, .int aw, .int tk, .ref (q 3), .ref (q 4), .ref (q 5), .int (nI sn), .ref (q 6), .ref (q 7), .ref (q 8), .ref (q 9), .int (nI kn), .ref (q 10), .ref (q 11), .ref (q 12), .ref (q 13), .ref (q 14), .ref (q 15), .ref (q 16), .ref (q 17), .int 0]))] := hD
            refine lv_aload_n hx hb dX6_end_177 rfl (lv_at hl 0 rfl) ?_
            refine va_get (D := D) (ci := 6) (v := .ref (q 17)) (C := RX6) (T := TX6) (N := 24) hx hb hts hi_X6 hown hK hP 6 rfl rfl 22 (by decide) hf_59 (fun _ h9 => h9) rfl dX6_end_178 ?_
            refine lv_bipush (v := 6) hx hb dX6_end_181 (by decide) ?_
            refine lv_aload_n hx hb dX6_end_183 rfl (lv_at hl 0 rfl) ?_
            refine va_get (D := D) (ci := 6) (v := .int aw) (C := RX6) (T := TX6) (N := 24) hx hb hts hi_X6 hown hK hP 6 rfl rfl 4 (by decide) hf_104 (fun _ h9 => h9) rfl dX6_end_184 ?_
            refine lv_imul hx hb dX6_end_187 ?_
            refine lv_aload_n hx hb dX6_end_188 rfl (lv_at hl 0 rfl) ?_
            refine va_get (D := D) (ci := 6) (v := .int hm) (C := RX6) (T := TX6) (N := 24) hx hb hts hi_X6 hown hK hP 6 rfl rfl 3 (by decide) hf_101 (fun _ h9 => h9) rfl dX6_end_189 ?_
            refine lv_iadd hx hb dX6_end_192 ?_
            refine lv_dup2_11 hx hb dX6_end_193 rfl rfl ?_
            refine va_iald hx hb hK hP 5 0 rfl rfl (win_in haw hhm) dX6_end_194 ?_
            refine jn_v (pc2 := 204) (ls2 := ls) (st2 := [.int ((upd wv (((6 * hm) + aw).toNatClampNeg) ((wv ((6 * hm) + aw).toNatClampNeg) + (wnA (mgM ce hi 6)))) ((6 * aw) + hm).toNatClampNeg), .int ((6 * aw) + hm), .ref (q 17)]) (wnB (mgM ce hi 6)) (fun jn_195 => ?_) ?_
            · refine lv_iload_n hx hb dX6_end_195 rfl (lv_at hl 1 rfl) ?_
              refine lv_if_ge (tgt := 203) hx hb dX6_end_196 (by decide) (fun c_12 => ?_) (fun c_12 => ?_)
              · refine lv_iconst (v := 0) hx hb dX6_end_203 (by decide) ?_
                exact jn_195 _ (by rw [wnB, if_pos c_12])
              · refine lv_iconst (v := 1) hx hb dX6_end_199 (by decide) ?_
                refine lv_goto (tgt := 204) hx hb dX6_end_200 (by decide) ?_
                exact jn_195 _ (by rw [wnB, if_neg c_12])
            · intro v4 ev4
              obtain rfl := ev4.symm
              refine lv_iadd hx hb dX6_end_204 ?_
              refine va_iast hx hb hK hP hD hS 5 0 rfl rfl (win_in haw hhm) dX6_end_205 (fun H locs hP hD hS => ?_)
              have hP : va_P D vwCl [((q 3), .inl (cI, 6, .inl ce)), ((q 4), .inl (cI, 6, .inl hi)), ((q 14), .inl (cI, 6, .inl (upd (upd pt hm.toNatClampNeg ((pt hm.toNatClampNeg) + (ptA (mgM ce hi 6)))) aw.toNatClampNeg (((upd pt hm.toNatClampNeg ((pt hm.toNatClampNeg) + (ptA (mgM ce hi 6)))) aw.toNatClampNeg) + (ptB (mgM ce hi 6)))))), ((q 15), .inl (cI, 6, .inl fn)), ((q 16), .inl (cI, 6, .inl df)), ((q 17), .inl (cI, 36, .inl (upd (upd wv (((6 * hm) + aw).toNatClampNeg) ((wv ((6 * hm) + aw).toNatClampNeg) + (wnA (mgM ce hi 6)))) (((6 * aw) + hm).toNatClampNeg) (((upd wv (((6 * hm) + aw).toNatClampNeg) ((wv ((6 * hm) + aw).toNatClampNeg) + (wnA (mgM ce hi 6)))) ((6 * aw) + hm).toNatClampNeg) + (wnB (mgM ce hi 6)))))), ((q 0), .inr (6, [.ref (q 1), .ref (q 2), .int 0, .int hm, .int aw, .int tk, .ref (q 3), .ref (q 4), .ref (q 5), .int (nI sn), .ref (q 6), .ref (q 7), .ref (q 8), .ref (q 9), .int (nI kn), .ref (q 10), .ref (q 11), .ref (q 12), .ref (q 13), .ref (q 14), .ref (q 15), .ref (q 16), .ref (q 17), .int 0]))] H := hP
              have hD : va_D A [((q 3), .inl (cI, 6, .inl ce)), ((q 4), .inl (cI, 6, .inl hi)), ((q 14), .inl (cI, 6, .inl (upd (upd pt hm.toNatClampNeg ((pt hm.toNatClampNeg) + (ptA (mgM ce hi 6)))) aw.toNatClampNeg (((upd pt hm.toNatClampNeg ((pt hm.toNatClampNeg) + (ptA (mgM ce hi 6)))) aw.toNatClampNeg) + (ptB (mgM ce hi 6)))))), ((q 15), .inl (cI, 6, .inl fn)), ((q 16), .inl (cI, 6, .inl df)), ((q 17), .inl (cI, 36, .inl (upd (upd wv (((6 * hm) + aw).toNatClampNeg) ((wv ((6 * hm) + aw).toNatClampNeg) + (wnA (mgM ce hi 6)))) (((6 * aw) + hm).toNatClampNeg) (((upd wv (((6 * hm) + aw).toNatClampNeg) ((wv ((6 * hm) + aw).toNatClampNeg) + (wnA (mgM ce hi 6)))) ((6 * aw) + hm).toNatClampNeg) + (wnB (mgM ce hi 6)))))), ((q 0), .inr (6, [.ref (q 1), .ref (q 2), .int 0, .int hm, .int aw, .int tk, .ref (q 3), .ref (q 4), .ref (q 5), .int (nI sn), .ref (q 6), .ref (q 7), .ref (q 8), .ref (q 9), .int (nI kn), .ref (q 10), .ref (q 11), .ref (q 12), .ref (q 13), .ref (q 14), .ref (q 15), .ref (q 16), .ref (q 17), .int 0]))] := hD
              refine lv_aload_n hx hb dX6_end_206 rfl (lv_at hl 0 rfl) ?_
              refine va_get (D := D) (ci := 6) (v := .ref (q 16)) (C := RX6) (T := TX6) (N := 24) hx hb hts hi_X6 hown hK hP 6 rfl rfl 21 (by decide) hf_56 (fun _ h9 => h9) rfl dX6_end_207 ?_
              refine lv_aload_n hx hb dX6_end_210 rfl (lv_at hl 0 rfl) ?_
              refine va_get (D := D) (ci := 6) (v := .int hm) (C := RX6) (T := TX6) (N := 24) hx hb hts hi_X6 hown hK hP 6 rfl rfl 3 (by decide) hf_101 (fun _ h9 => h9) rfl dX6_end_211 ?_
              refine lv_dup2_11 hx hb dX6_end_214 rfl rfl ?_
              refine va_iald hx hb hK hP 4 0 rfl rfl (by assumption) dX6_end_215 ?_
              refine lv_iload_n hx hb dX6_end_216 rfl (lv_at hl 1 rfl) ?_
              refine lv_iadd hx hb dX6_end_217 ?_
              refine va_iast hx hb hK hP hD hS 4 0 rfl rfl (by assumption) dX6_end_218 (fun H locs hP hD hS => ?_)
              have hP : va_P D vwCl [((q 3), .inl (cI, 6, .inl ce)), ((q 4), .inl (cI, 6, .inl hi)), ((q 14), .inl (cI, 6, .inl (upd (upd pt hm.toNatClampNeg ((pt hm.toNatClampNeg) + (ptA (mgM ce hi 6)))) aw.toNatClampNeg (((upd pt hm.toNatClampNeg ((pt hm.toNatClampNeg) + (ptA (mgM ce hi 6)))) aw.toNatClampNeg) + (ptB (mgM ce hi 6)))))), ((q 15), .inl (cI, 6, .inl fn)), ((q 16), .inl (cI, 6, .inl (upd df hm.toNatClampNeg ((df hm.toNatClampNeg) + (mgM ce hi 6))))), ((q 17), .inl (cI, 36, .inl (upd (upd wv (((6 * hm) + aw).toNatClampNeg) ((wv ((6 * hm) + aw).toNatClampNeg) + (wnA (mgM ce hi 6)))) (((6 * aw) + hm).toNatClampNeg) (((upd wv (((6 * hm) + aw).toNatClampNeg) ((wv ((6 * hm) + aw).toNatClampNeg) + (wnA (mgM ce hi 6)))) ((6 * aw) + hm).toNatClampNeg) + (wnB (mgM ce hi 6)))))), ((q 0), .inr (6, [.ref (q 1), .ref (q 2), .int 0, .int hm, .int aw, .int tk, .ref (q 3), .ref (q 4), .ref (q 5), .int (nI sn), .ref (q 6), .ref (q 7), .ref (q 8), .ref (q 9), .int (nI kn), .ref (q 10), .ref (q 11), .ref (q 12), .ref (q 13), .ref (q 14), .ref (q 15), .ref (q 16), .ref (q 17), .int 0]))] H := hP
              have hD : va_D A [((q 3), .inl (cI, 6, .inl ce)), ((q 4), .inl (cI, 6, .inl hi)), ((q 14), .inl (cI, 6, .inl (upd (upd pt hm.toNatClampNeg ((pt hm.toNatClampNeg) + (ptA (mgM ce hi 6)))) aw.toNatClampNeg (((upd pt hm.toNatClampNeg ((pt hm.toNatClampNeg) + (ptA (mgM ce hi 6)))) aw.toNatClampNeg) + (ptB (mgM ce hi 6)))))), ((q 15), .inl (cI, 6, .inl fn)), ((q 16), .inl (cI, 6, .inl (upd df hm.toNatClampNeg ((df hm.toNatClampNeg) + (mgM ce hi 6))))), ((q 17), .inl (cI, 36, .inl (upd (upd wv (((6 * hm) + aw).toNatClampNeg) ((wv ((6 * hm) + aw).toNatClampNeg) + (wnA (mgM ce hi 6)))) (((6 * aw) + hm).toNatClampNeg) (((upd wv (((6 * hm) + aw).toNatClampNeg) ((wv ((6 * hm) + aw).toNatClampNeg) + (wnA (mgM ce hi 6)))) ((6 * aw) + hm).toNatClampNeg) + (wnB (mgM ce hi 6)))))), ((q 0), .inr (6, [.ref (q 1), .ref (q 2), .int 0, .int hm, .int aw, .int tk, .ref (q 3), .ref (q 4), .ref (q 5), .int (nI sn), .ref (q 6), .ref (q 7), .ref (q 8), .ref (q 9), .int (nI kn), .ref (q 10), .ref (q 11), .ref (q 12), .ref (q 13), .ref (q 14), .ref (q 15), .ref (q 16), .ref (q 17), .int 0]))] := hD
              refine lv_aload_n hx hb dX6_end_219 rfl (lv_at hl 0 rfl) ?_
              refine va_get (D := D) (ci := 6) (v := .ref (q 16)) (C := RX6) (T := TX6) (N := 24) hx hb hts hi_X6 hown hK hP 6 rfl rfl 21 (by decide) hf_56 (fun _ h9 => h9) rfl dX6_end_220 ?_
              refine lv_aload_n hx hb dX6_end_223 rfl (lv_at hl 0 rfl) ?_
              refine va_get (D := D) (ci := 6) (v := .int aw) (C := RX6) (T := TX6) (N := 24) hx hb hts hi_X6 hown hK hP 6 rfl rfl 4 (by decide) hf_104 (fun _ h9 => h9) rfl dX6_end_224 ?_
              refine lv_dup2_11 hx hb dX6_end_227 rfl rfl ?_
              refine va_iald hx hb hK hP 4 0 rfl rfl (by assumption) dX6_end_228 ?_
              refine lv_iload_n hx hb dX6_end_229 rfl (lv_at hl 1 rfl) ?_
              refine lv_isub hx hb dX6_end_230 ?_
              refine va_iast hx hb hK hP hD hS 4 0 rfl rfl (by assumption) dX6_end_231 (fun H locs hP hD hS => ?_)
              have hP : va_P D vwCl [((q 3), .inl (cI, 6, .inl ce)), ((q 4), .inl (cI, 6, .inl hi)), ((q 14), .inl (cI, 6, .inl (upd (upd pt hm.toNatClampNeg ((pt hm.toNatClampNeg) + (ptA (mgM ce hi 6)))) aw.toNatClampNeg (((upd pt hm.toNatClampNeg ((pt hm.toNatClampNeg) + (ptA (mgM ce hi 6)))) aw.toNatClampNeg) + (ptB (mgM ce hi 6)))))), ((q 15), .inl (cI, 6, .inl fn)), ((q 16), .inl (cI, 6, .inl (upd (upd df hm.toNatClampNeg ((df hm.toNatClampNeg) + (mgM ce hi 6))) aw.toNatClampNeg (((upd df hm.toNatClampNeg ((df hm.toNatClampNeg) + (mgM ce hi 6))) aw.toNatClampNeg) - (mgM ce hi 6))))), ((q 17), .inl (cI, 36, .inl (upd (upd wv (((6 * hm) + aw).toNatClampNeg) ((wv ((6 * hm) + aw).toNatClampNeg) + (wnA (mgM ce hi 6)))) (((6 * aw) + hm).toNatClampNeg) (((upd wv (((6 * hm) + aw).toNatClampNeg) ((wv ((6 * hm) + aw).toNatClampNeg) + (wnA (mgM ce hi 6)))) ((6 * aw) + hm).toNatClampNeg) + (wnB (mgM ce hi 6)))))), ((q 0), .inr (6, [.ref (q 1), .ref (q 2), .int 0, .int hm, .int aw, .int tk, .ref (q 3), .ref (q 4), .ref (q 5), .int (nI sn), .ref (q 6), .ref (q 7), .ref (q 8), .ref (q 9), .int (nI kn), .ref (q 10), .ref (q 11), .ref (q 12), .ref (q 13), .ref (q 14), .ref (q 15), .ref (q 16), .ref (q 17), .int 0]))] H := hP
              have hD : va_D A [((q 3), .inl (cI, 6, .inl ce)), ((q 4), .inl (cI, 6, .inl hi)), ((q 14), .inl (cI, 6, .inl (upd (upd pt hm.toNatClampNeg ((pt hm.toNatClampNeg) + (ptA (mgM ce hi 6)))) aw.toNatClampNeg (((upd pt hm.toNatClampNeg ((pt hm.toNatClampNeg) + (ptA (mgM ce hi 6)))) aw.toNatClampNeg) + (ptB (mgM ce hi 6)))))), ((q 15), .inl (cI, 6, .inl fn)), ((q 16), .inl (cI, 6, .inl (upd (upd df hm.toNatClampNeg ((df hm.toNatClampNeg) + (mgM ce hi 6))) aw.toNatClampNeg (((upd df hm.toNatClampNeg ((df hm.toNatClampNeg) + (mgM ce hi 6))) aw.toNatClampNeg) - (mgM ce hi 6))))), ((q 17), .inl (cI, 36, .inl (upd (upd wv (((6 * hm) + aw).toNatClampNeg) ((wv ((6 * hm) + aw).toNatClampNeg) + (wnA (mgM ce hi 6)))) (((6 * aw) + hm).toNatClampNeg) (((upd wv (((6 * hm) + aw).toNatClampNeg) ((wv ((6 * hm) + aw).toNatClampNeg) + (wnA (mgM ce hi 6)))) ((6 * aw) + hm).toNatClampNeg) + (wnB (mgM ce hi 6)))))), ((q 0), .inr (6, [.ref (q 1), .ref (q 2), .int 0, .int hm, .int aw, .int tk, .ref (q 3), .ref (q 4), .ref (q 5), .int (nI sn), .ref (q 6), .ref (q 7), .ref (q 8), .ref (q 9), .int (nI kn), .ref (q 10), .ref (q 11), .ref (q 12), .ref (q 13), .ref (q 14), .ref (q 15), .ref (q 16), .ref (q 17), .int 0]))] := hD
              refine lv_iconst (v := 0) hx hb dX6_end_232 (by decide) ?_
              refine lv_istore_n (lv' := [(2, .int 0), (0, .ref (q 0)), (1, .int (mgM ce hi 6))]) hx hb dX6_end_233 rfl hl (by decide) rfl (fun ls hl => ?_)
              refine lpW (σ := (Nat) × (Nat → Int32) × (Nat → Int32)) (I := fun x H locs ls => va_P D vwCl [((q 3), .inl (cI, 6, .inl ce)), ((q 4), .inl (cI, 6, .inl hi)), ((q 14), .inl (cI, 6, .inl x.2.1)), ((q 15), .inl (cI, 6, .inl x.2.2)), ((q 16), .inl (cI, 6, .inl (upd (upd df hm.toNatClampNeg ((df hm.toNatClampNeg) + (mgM ce hi 6))) aw.toNatClampNeg (((upd df hm.toNatClampNeg ((df hm.toNatClampNeg) + (mgM ce hi 6))) aw.toNatClampNeg) - (mgM ce hi 6))))), ((q 17), .inl (cI, 36, .inl (upd (upd wv (((6 * hm) + aw).toNatClampNeg) ((wv ((6 * hm) + aw).toNatClampNeg) + (wnA (mgM ce hi 6)))) (((6 * aw) + hm).toNatClampNeg) (((upd wv (((6 * hm) + aw).toNatClampNeg) ((wv ((6 * hm) + aw).toNatClampNeg) + (wnA (mgM ce hi 6)))) ((6 * aw) + hm).toNatClampNeg) + (wnB (mgM ce hi 6)))))), ((q 0), .inr (6, [.ref (q 1), .ref (q 2), .int 0, .int hm, .int aw, .int tk, .ref (q 3), .ref (q 4), .ref (q 5), .int (nI sn), .ref (q 6), .ref (q 7), .ref (q 8), .ref (q 9), .int (nI kn), .ref (q 10), .ref (q 11), .ref (q 12), .ref (q 13), .ref (q 14), .ref (q 15), .ref (q 16), .ref (q 17), .int 0]))] H ∧ va_D A [((q 3), .inl (cI, 6, .inl ce)), ((q 4), .inl (cI, 6, .inl hi)), ((q 14), .inl (cI, 6, .inl x.2.1)), ((q 15), .inl (cI, 6, .inl x.2.2)), ((q 16), .inl (cI, 6, .inl (upd (upd df hm.toNatClampNeg ((df hm.toNatClampNeg) + (mgM ce hi 6))) aw.toNatClampNeg (((upd df hm.toNatClampNeg ((df hm.toNatClampNeg) + (mgM ce hi 6))) aw.toNatClampNeg) - (mgM ce hi 6))))), ((q 17), .inl (cI, 36, .inl (upd (upd wv (((6 * hm) + aw).toNatClampNeg) ((wv ((6 * hm) + aw).toNatClampNeg) + (wnA (mgM ce hi 6)))) (((6 * aw) + hm).toNatClampNeg) (((upd wv (((6 * hm) + aw).toNatClampNeg) ((wv ((6 * hm) + aw).toNatClampNeg) + (wnA (mgM ce hi 6)))) ((6 * aw) + hm).toNatClampNeg) + (wnB (mgM ce hi 6)))))), ((q 0), .inr (6, [.ref (q 1), .ref (q 2), .int 0, .int hm, .int aw, .int tk, .ref (q 3), .ref (q 4), .ref (q 5), .int (nI sn), .ref (q 6), .ref (q 7), .ref (q 8), .ref (q 9), .int (nI kn), .ref (q 10), .ref (q 11), .ref (q 12), .ref (q 13), .ref (q 14), .ref (q 15), .ref (q 16), .ref (q 17), .int 0]))] ∧ va_S A s.heap H locs ∧ lv_has ls 4 [(0, .ref (q 0)), (1, .int (mgM ce hi 6)), (2, .int (nI x.1))] ∧ (x.1 ≤ 6) ∧ ((x.2.1, x.2.2) = tpN (upd (upd pt hm.toNatClampNeg ((pt hm.toNatClampNeg) + ptA (mgM ce hi 6))) aw.toNatClampNeg (((upd pt hm.toNatClampNeg ((pt hm.toNatClampNeg) + ptA (mgM ce hi 6))) aw.toNatClampNeg) + ptB (mgM ce hi 6))) fn x.1)) (μ := fun x => 6 - x.1) ?_ (0, upd (upd pt hm.toNatClampNeg ((pt hm.toNatClampNeg) + ptA (mgM ce hi 6))) aw.toNatClampNeg (((upd pt hm.toNatClampNeg ((pt hm.toNatClampNeg) + ptA (mgM ce hi 6))) aw.toNatClampNeg) + ptB (mgM ce hi 6)), fn) ⟨hP, hD, hS, lv_sub hl [1, 2, 0] rfl, (Nat.zero_le _), (by simp only [tpN])⟩
              intro x H locs ls hI ih
              obtain ⟨i2, e1, e2⟩ := x
              obtain ⟨hP, hD, hS, hl, hq_hi2, hq_he⟩ := hI
              have ih_234 := ih
              have hl : lv_has ls 4 [(0, .ref (q 0)), (1, .int (mgM ce hi 6)), (2, .int (nI i2))] := hl
              have hP : va_P D vwCl [((q 3), .inl (cI, 6, .inl ce)), ((q 4), .inl (cI, 6, .inl hi)), ((q 14), .inl (cI, 6, .inl e1)), ((q 15), .inl (cI, 6, .inl e2)), ((q 16), .inl (cI, 6, .inl (upd (upd df hm.toNatClampNeg ((df hm.toNatClampNeg) + (mgM ce hi 6))) aw.toNatClampNeg (((upd df hm.toNatClampNeg ((df hm.toNatClampNeg) + (mgM ce hi 6))) aw.toNatClampNeg) - (mgM ce hi 6))))), ((q 17), .inl (cI, 36, .inl (upd (upd wv (((6 * hm) + aw).toNatClampNeg) ((wv ((6 * hm) + aw).toNatClampNeg) + (wnA (mgM ce hi 6)))) (((6 * aw) + hm).toNatClampNeg) (((upd wv (((6 * hm) + aw).toNatClampNeg) ((wv ((6 * hm) + aw).toNatClampNeg) + (wnA (mgM ce hi 6)))) ((6 * aw) + hm).toNatClampNeg) + (wnB (mgM ce hi 6)))))), ((q 0), .inr (6, [.ref (q 1), .ref (q 2), .int 0, .int hm, .int aw, .int tk, .ref (q 3), .ref (q 4), .ref (q 5), .int (nI sn), .ref (q 6), .ref (q 7), .ref (q 8), .ref (q 9), .int (nI kn), .ref (q 10), .ref (q 11), .ref (q 12), .ref (q 13), .ref (q 14), .ref (q 15), .ref (q 16), .ref (q 17), .int 0]))] H := hP
              have hD : va_D A [((q 3), .inl (cI, 6, .inl ce)), ((q 4), .inl (cI, 6, .inl hi)), ((q 14), .inl (cI, 6, .inl e1)), ((q 15), .inl (cI, 6, .inl e2)), ((q 16), .inl (cI, 6, .inl (upd (upd df hm.toNatClampNeg ((df hm.toNatClampNeg) + (mgM ce hi 6))) aw.toNatClampNeg (((upd df hm.toNatClampNeg ((df hm.toNatClampNeg) + (mgM ce hi 6))) aw.toNatClampNeg) - (mgM ce hi 6))))), ((q 17), .inl (cI, 36, .inl (upd (upd wv (((6 * hm) + aw).toNatClampNeg) ((wv ((6 * hm) + aw).toNatClampNeg) + (wnA (mgM ce hi 6)))) (((6 * aw) + hm).toNatClampNeg) (((upd wv (((6 * hm) + aw).toNatClampNeg) ((wv ((6 * hm) + aw).toNatClampNeg) + (wnA (mgM ce hi 6)))) ((6 * aw) + hm).toNatClampNeg) + (wnB (mgM ce hi 6)))))), ((q 0), .inr (6, [.ref (q 1), .ref (q 2), .int 0, .int hm, .int aw, .int tk, .ref (q 3), .ref (q 4), .ref (q 5), .int (nI sn), .ref (q 6), .ref (q 7), .ref (q 8), .ref (q 9), .int (nI kn), .ref (q 10), .ref (q 11), .ref (q 12), .ref (q 13), .ref (q 14), .ref (q 15), .ref (q 16), .ref (q 17), .int 0]))] := hD
              have hi2 : i2 ≤ 6 := hq_hi2
              have he : (e1, e2) = tpN (upd (upd pt hm.toNatClampNeg ((pt hm.toNatClampNeg) + ptA (mgM ce hi 6))) aw.toNatClampNeg (((upd pt hm.toNatClampNeg ((pt hm.toNatClampNeg) + ptA (mgM ce hi 6))) aw.toNatClampNeg) + ptB (mgM ce hi 6))) fn i2 := hq_he
              clear hq_hi2 hq_he
              refine lv_iload_n hx hb dX6_end_234 rfl (lv_at hl 2 rfl) ?_
              refine lv_bipush (v := 6) hx hb dX6_end_235 (by decide) ?_
              refine lv_icmp_ge (tgt := 276) hx hb dX6_end_237 (by decide) (fun c_13 => ?_) (fun c_13 => ?_)
              · have he_237 : i2 = 6 := bd_eq (N := 6) (by decide) hi2 c_13
                rw [he_237] at he
                have h1 : e1 = _ := congrArg Prod.fst he
                have h2 : e2 = _ := congrArg Prod.snd he
                clear he
                obtain rfl := h1.symm
                obtain rfl := h2.symm
                refine lv_iload_n hx hb dX6_end_276 rfl (lv_at hl 1 rfl) ?_
                have hP9 := hP.sub (ws' := [((q 0), .inr (6, [.ref (q 1), .ref (q 2), .int 0, .int hm, .int aw, .int tk, .ref (q 3), .ref (q 4), .ref (q 5), .int (nI sn), .ref (q 6), .ref (q 7), .ref (q 8), .ref (q 9), .int (nI kn), .ref (q 10), .ref (q 11), .ref (q 12), .ref (q 13), .ref (q 14), .ref (q 15), .ref (q 16), .ref (q 17), .int 0])), ((q 3), .inl (cI, 6, .inl ce)), ((q 4), .inl (cI, 6, .inl hi)), ((q 14), .inl (cI, 6, .inl ((tpN (upd (upd pt hm.toNatClampNeg ((pt hm.toNatClampNeg) + ptA (mgM ce hi 6))) aw.toNatClampNeg (((upd pt hm.toNatClampNeg ((pt hm.toNatClampNeg) + ptA (mgM ce hi 6))) aw.toNatClampNeg) + ptB (mgM ce hi 6))) fn 6).1))), ((q 15), .inl (cI, 6, .inl ((tpN (upd (upd pt hm.toNatClampNeg ((pt hm.toNatClampNeg) + ptA (mgM ce hi 6))) aw.toNatClampNeg (((upd pt hm.toNatClampNeg ((pt hm.toNatClampNeg) + ptA (mgM ce hi 6))) aw.toNatClampNeg) + ptB (mgM ce hi 6))) fn 6).2))), ((q 16), .inl (cI, 6, .inl (upd (upd df hm.toNatClampNeg ((df hm.toNatClampNeg) + (mgM ce hi 6))) aw.toNatClampNeg (((upd df hm.toNatClampNeg ((df hm.toNatClampNeg) + (mgM ce hi 6))) aw.toNatClampNeg) - (mgM ce hi 6))))), ((q 17), .inl (cI, 36, .inl (upd (upd wv (((6 * hm) + aw).toNatClampNeg) ((wv ((6 * hm) + aw).toNatClampNeg) + (wnA (mgM ce hi 6)))) (((6 * aw) + hm).toNatClampNeg) (((upd wv (((6 * hm) + aw).toNatClampNeg) ((wv ((6 * hm) + aw).toNatClampNeg) + (wnA (mgM ce hi 6)))) ((6 * aw) + hm).toNatClampNeg) + (wnB (mgM ce hi 6))))))]) [6, 0, 1, 2, 3, 4, 5] rfl
                have hD9 := hD.sub (ws' := [((q 0), .inr (6, [.ref (q 1), .ref (q 2), .int 0, .int hm, .int aw, .int tk, .ref (q 3), .ref (q 4), .ref (q 5), .int (nI sn), .ref (q 6), .ref (q 7), .ref (q 8), .ref (q 9), .int (nI kn), .ref (q 10), .ref (q 11), .ref (q 12), .ref (q 13), .ref (q 14), .ref (q 15), .ref (q 16), .ref (q 17), .int 0])), ((q 3), .inl (cI, 6, .inl ce)), ((q 4), .inl (cI, 6, .inl hi)), ((q 14), .inl (cI, 6, .inl ((tpN (upd (upd pt hm.toNatClampNeg ((pt hm.toNatClampNeg) + ptA (mgM ce hi 6))) aw.toNatClampNeg (((upd pt hm.toNatClampNeg ((pt hm.toNatClampNeg) + ptA (mgM ce hi 6))) aw.toNatClampNeg) + ptB (mgM ce hi 6))) fn 6).1))), ((q 15), .inl (cI, 6, .inl ((tpN (upd (upd pt hm.toNatClampNeg ((pt hm.toNatClampNeg) + ptA (mgM ce hi 6))) aw.toNatClampNeg (((upd pt hm.toNatClampNeg ((pt hm.toNatClampNeg) + ptA (mgM ce hi 6))) aw.toNatClampNeg) + ptB (mgM ce hi 6))) fn 6).2))), ((q 16), .inl (cI, 6, .inl (upd (upd df hm.toNatClampNeg ((df hm.toNatClampNeg) + (mgM ce hi 6))) aw.toNatClampNeg (((upd df hm.toNatClampNeg ((df hm.toNatClampNeg) + (mgM ce hi 6))) aw.toNatClampNeg) - (mgM ce hi 6))))), ((q 17), .inl (cI, 36, .inl (upd (upd wv (((6 * hm) + aw).toNatClampNeg) ((wv ((6 * hm) + aw).toNatClampNeg) + (wnA (mgM ce hi 6)))) (((6 * aw) + hm).toNatClampNeg) (((upd wv (((6 * hm) + aw).toNatClampNeg) ((wv ((6 * hm) + aw).toNatClampNeg) + (wnA (mgM ce hi 6)))) ((6 * aw) + hm).toNatClampNeg) + (wnB (mgM ce hi 6))))))]) [6, 0, 1, 2, 3, 4, 5] (by decide) rfl
                -- leaf 1
                refine W.widen (k := 0) (n := 0) (Nat.le_refl _) (Nat.le_refl _) ?_
                exact W.iret (v := (mgM ce hi 6)) hx hb hr (fun t ht hW => ⟨⟨(mgM ce hi 6), (0, ((tpN (upd (upd pt hm.toNatClampNeg ((pt hm.toNatClampNeg) + ptA (mgM ce hi 6))) aw.toNatClampNeg (((upd pt hm.toNatClampNeg ((pt hm.toNatClampNeg) + ptA (mgM ce hi 6))) aw.toNatClampNeg) + ptB (mgM ce hi 6))) fn 6).1), ((tpN (upd (upd pt hm.toNatClampNeg ((pt hm.toNatClampNeg) + ptA (mgM ce hi 6))) aw.toNatClampNeg (((upd pt hm.toNatClampNeg ((pt hm.toNatClampNeg) + ptA (mgM ce hi 6))) aw.toNatClampNeg) + ptB (mgM ce hi 6))) fn 6).2), upd (upd df hm.toNatClampNeg ((df hm.toNatClampNeg) + (mgM ce hi 6))) aw.toNatClampNeg (((upd df hm.toNatClampNeg ((df hm.toNatClampNeg) + (mgM ce hi 6))) aw.toNatClampNeg) - (mgM ce hi 6)), upd (upd wv (((6 * hm) + aw).toNatClampNeg) ((wv ((6 * hm) + aw).toNatClampNeg) + (wnA (mgM ce hi 6)))) (((6 * aw) + hm).toNatClampNeg) (((upd wv (((6 * hm) + aw).toNatClampNeg) ((wv ((6 * hm) + aw).toNatClampNeg) + (wnA (mgM ce hi 6)))) ((6 * aw) + hm).toNatClampNeg) + (wnB (mgM ce hi 6))), 0), rfl, ⟨(by rw [f_X6_end, if_neg c_1]), (by rw [g_on_X6_end, if_neg c_1]), (by rw [g_pt_X6_end, if_neg c_1]), (by rw [g_fn_X6_end, if_neg c_1]), (by rw [g_df_X6_end, if_neg c_1]), (by rw [g_wv_X6_end, if_neg c_1]), (by rw [g_th_X6_end, if_neg c_1])⟩, by rw [ht]; exact hP9, va_K.moved hW.alike hK, hD9⟩, hS.F ht⟩) hS.2.2 dX6_end_277
              · have hlt_237 : i2 < 6 := bd_lt (N := 6) (by decide) hi2 c_13
                refine lv_aload_n hx hb dX6_end_240 rfl (lv_at hl 0 rfl) ?_
                refine va_get (D := D) (ci := 6) (v := .ref (q 15)) (C := RX6) (T := TX6) (N := 24) hx hb hts hi_X6 hown hK hP 6 rfl rfl 20 (by decide) hf_53 (fun _ h9 => h9) rfl dX6_end_241 ?_
                refine lv_iload_n hx hb dX6_end_244 rfl (lv_at hl 2 rfl) ?_
                refine va_iald hx hb hK hP 3 0 rfl rfl (vp_in_nI (n := i2) (by omega) (by decide)) dX6_end_245 ?_
                refine tp_eq (y := e2 i2) (by rw [nI_clamp (n := i2) (by omega)]) ?_
                refine lv_iconst (v := 2) hx hb dX6_end_246 (by decide) ?_
                refine lv_icmp_lt (tgt := 270) hx hb dX6_end_247 (by decide) (fun c_14 => ?_) (fun c_14 => ?_)
                · refine lv_iinc (v := nI (i2 + 1)) (lv' := [(2, .int (nI (i2 + 1))), (0, .ref (q 0)), (1, .int (mgM ce hi 6))]) hx hb dX6_end_270 hl (k := 2) rfl (nI_1 i2) (by decide) rfl (fun ls hl => ?_)
                  refine lv_goto (tgt := 234) hx hb dX6_end_273 (by decide) ?_
                  refine W.widen (k := 0) (n := 0) (Nat.le_refl _) (Nat.le_refl _) ?_
                  exact ih_234 ((i2 + 1), e1, e2) _ _ _ (by first | omega | (dsimp only; omega)) ⟨hP, hD, hS, lv_sub hl [1, 2, 0] rfl, (by omega), (by rw [tpN, ← he]; dsimp only; rw [if_pos c_14])⟩
                · refine lv_aload_n hx hb dX6_end_250 rfl (lv_at hl 0 rfl) ?_
                  refine va_get (D := D) (ci := 6) (v := .ref (q 15)) (C := RX6) (T := TX6) (N := 24) hx hb hts hi_X6 hown hK hP 6 rfl rfl 20 (by decide) hf_53 (fun _ h9 => h9) rfl dX6_end_251 ?_
                  refine lv_iload_n hx hb dX6_end_254 rfl (lv_at hl 2 rfl) ?_
                  refine lv_dup2_11 hx hb dX6_end_255 rfl rfl ?_
                  refine va_iald hx hb hK hP 3 0 rfl rfl (vp_in_nI (n := i2) (by omega) (by decide)) dX6_end_256 ?_
                  refine tp_eq (y := e2 i2) (by rw [nI_clamp (n := i2) (by omega)]) ?_
                  refine lv_iconst (v := 2) hx hb dX6_end_257 (by decide) ?_
                  refine lv_isub hx hb dX6_end_258 ?_
                  refine va_iast hx hb hK hP hD hS 3 0 rfl rfl (vp_in_nI (n := i2) (by omega) (by decide)) dX6_end_259 (fun H locs hP hD hS => ?_)
                  rw [nI_clamp (n := i2) (by omega)] at hP hD
                  have hP : va_P D vwCl [((q 3), .inl (cI, 6, .inl ce)), ((q 4), .inl (cI, 6, .inl hi)), ((q 14), .inl (cI, 6, .inl e1)), ((q 15), .inl (cI, 6, .inl (upd e2 i2 ((e2 i2) - 2)))), ((q 16), .inl (cI, 6, .inl (upd (upd df hm.toNatClampNeg ((df hm.toNatClampNeg) + (mgM ce hi 6))) aw.toNatClampNeg (((upd df hm.toNatClampNeg ((df hm.toNatClampNeg) + (mgM ce hi 6))) aw.toNatClampNeg) - (mgM ce hi 6))))), ((q 17), .inl (cI, 36, .inl (upd (upd wv (((6 * hm) + aw).toNatClampNeg) ((wv ((6 * hm) + aw).toNatClampNeg) + (wnA (mgM ce hi 6)))) (((6 * aw) + hm).toNatClampNeg) (((upd wv (((6 * hm) + aw).toNatClampNeg) ((wv ((6 * hm) + aw).toNatClampNeg) + (wnA (mgM ce hi 6)))) ((6 * aw) + hm).toNatClampNeg) + (wnB (mgM ce hi 6)))))), ((q 0), .inr (6, [.ref (q 1), .ref (q 2), .int 0, .int hm, .int aw, .int tk, .ref (q 3), .ref (q 4), .ref (q 5), .int (nI sn), .ref (q 6), .ref (q 7), .ref (q 8), .ref (q 9), .int (nI kn), .ref (q 10), .ref (q 11), .ref (q 12), .ref (q 13), .ref (q 14), .ref (q 15), .ref (q 16), .ref (q 17), .int 0]))] H := hP
                  have hD : va_D A [((q 3), .inl (cI, 6, .inl ce)), ((q 4), .inl (cI, 6, .inl hi)), ((q 14), .inl (cI, 6, .inl e1)), ((q 15), .inl (cI, 6, .inl (upd e2 i2 ((e2 i2) - 2)))), ((q 16), .inl (cI, 6, .inl (upd (upd df hm.toNatClampNeg ((df hm.toNatClampNeg) + (mgM ce hi 6))) aw.toNatClampNeg (((upd df hm.toNatClampNeg ((df hm.toNatClampNeg) + (mgM ce hi 6))) aw.toNatClampNeg) - (mgM ce hi 6))))), ((q 17), .inl (cI, 36, .inl (upd (upd wv (((6 * hm) + aw).toNatClampNeg) ((wv ((6 * hm) + aw).toNatClampNeg) + (wnA (mgM ce hi 6)))) (((6 * aw) + hm).toNatClampNeg) (((upd wv (((6 * hm) + aw).toNatClampNeg) ((wv ((6 * hm) + aw).toNatClampNeg) + (wnA (mgM ce hi 6)))) ((6 * aw) + hm).toNatClampNeg) + (wnB (mgM ce hi 6)))))), ((q 0), .inr (6, [.ref (q 1), .ref (q 2), .int 0, .int hm, .int aw, .int tk, .ref (q 3), .ref (q 4), .ref (q 5), .int (nI sn), .ref (q 6), .ref (q 7), .ref (q 8), .ref (q 9), .int (nI kn), .ref (q 10), .ref (q 11), .ref (q 12), .ref (q 13), .ref (q 14), .ref (q 15), .ref (q 16), .ref (q 17), .int 0]))] := hD
                  refine lv_aload_n hx hb dX6_end_260 rfl (lv_at hl 0 rfl) ?_
                  refine va_get (D := D) (ci := 6) (v := .ref (q 14)) (C := RX6) (T := TX6) (N := 24) hx hb hts hi_X6 hown hK hP 6 rfl rfl 19 (by decide) hf_50 (fun _ h9 => h9) rfl dX6_end_261 ?_
                  refine lv_iload_n hx hb dX6_end_264 rfl (lv_at hl 2 rfl) ?_
                  refine lv_dup2_11 hx hb dX6_end_265 rfl rfl ?_
                  refine va_iald hx hb hK hP 2 0 rfl rfl (vp_in_nI (n := i2) (by omega) (by decide)) dX6_end_266 ?_
                  refine tp_eq (y := e1 i2) (by rw [nI_clamp (n := i2) (by omega)]) ?_
                  refine lv_iconst (v := 1) hx hb dX6_end_267 (by decide) ?_
                  refine lv_isub hx hb dX6_end_268 ?_
                  refine va_iast hx hb hK hP hD hS 2 0 rfl rfl (vp_in_nI (n := i2) (by omega) (by decide)) dX6_end_269 (fun H locs hP hD hS => ?_)
                  rw [nI_clamp (n := i2) (by omega)] at hP hD
                  have hP : va_P D vwCl [((q 3), .inl (cI, 6, .inl ce)), ((q 4), .inl (cI, 6, .inl hi)), ((q 14), .inl (cI, 6, .inl (upd e1 i2 ((e1 i2) - 1)))), ((q 15), .inl (cI, 6, .inl (upd e2 i2 ((e2 i2) - 2)))), ((q 16), .inl (cI, 6, .inl (upd (upd df hm.toNatClampNeg ((df hm.toNatClampNeg) + (mgM ce hi 6))) aw.toNatClampNeg (((upd df hm.toNatClampNeg ((df hm.toNatClampNeg) + (mgM ce hi 6))) aw.toNatClampNeg) - (mgM ce hi 6))))), ((q 17), .inl (cI, 36, .inl (upd (upd wv (((6 * hm) + aw).toNatClampNeg) ((wv ((6 * hm) + aw).toNatClampNeg) + (wnA (mgM ce hi 6)))) (((6 * aw) + hm).toNatClampNeg) (((upd wv (((6 * hm) + aw).toNatClampNeg) ((wv ((6 * hm) + aw).toNatClampNeg) + (wnA (mgM ce hi 6)))) ((6 * aw) + hm).toNatClampNeg) + (wnB (mgM ce hi 6)))))), ((q 0), .inr (6, [.ref (q 1), .ref (q 2), .int 0, .int hm, .int aw, .int tk, .ref (q 3), .ref (q 4), .ref (q 5), .int (nI sn), .ref (q 6), .ref (q 7), .ref (q 8), .ref (q 9), .int (nI kn), .ref (q 10), .ref (q 11), .ref (q 12), .ref (q 13), .ref (q 14), .ref (q 15), .ref (q 16), .ref (q 17), .int 0]))] H := hP
                  have hD : va_D A [((q 3), .inl (cI, 6, .inl ce)), ((q 4), .inl (cI, 6, .inl hi)), ((q 14), .inl (cI, 6, .inl (upd e1 i2 ((e1 i2) - 1)))), ((q 15), .inl (cI, 6, .inl (upd e2 i2 ((e2 i2) - 2)))), ((q 16), .inl (cI, 6, .inl (upd (upd df hm.toNatClampNeg ((df hm.toNatClampNeg) + (mgM ce hi 6))) aw.toNatClampNeg (((upd df hm.toNatClampNeg ((df hm.toNatClampNeg) + (mgM ce hi 6))) aw.toNatClampNeg) - (mgM ce hi 6))))), ((q 17), .inl (cI, 36, .inl (upd (upd wv (((6 * hm) + aw).toNatClampNeg) ((wv ((6 * hm) + aw).toNatClampNeg) + (wnA (mgM ce hi 6)))) (((6 * aw) + hm).toNatClampNeg) (((upd wv (((6 * hm) + aw).toNatClampNeg) ((wv ((6 * hm) + aw).toNatClampNeg) + (wnA (mgM ce hi 6)))) ((6 * aw) + hm).toNatClampNeg) + (wnB (mgM ce hi 6)))))), ((q 0), .inr (6, [.ref (q 1), .ref (q 2), .int 0, .int hm, .int aw, .int tk, .ref (q 3), .ref (q 4), .ref (q 5), .int (nI sn), .ref (q 6), .ref (q 7), .ref (q 8), .ref (q 9), .int (nI kn), .ref (q 10), .ref (q 11), .ref (q 12), .ref (q 13), .ref (q 14), .ref (q 15), .ref (q 16), .ref (q 17), .int 0]))] := hD
                  refine lv_iinc (v := nI (i2 + 1)) (lv' := [(2, .int (nI (i2 + 1))), (0, .ref (q 0)), (1, .int (mgM ce hi 6))]) hx hb dX6_end_270 hl (k := 2) rfl (nI_1 i2) (by decide) rfl (fun ls hl => ?_)
                  refine lv_goto (tgt := 234) hx hb dX6_end_273 (by decide) ?_
                  refine W.widen (k := 0) (n := 0) (Nat.le_refl _) (Nat.le_refl _) ?_
                  exact ih_234 ((i2 + 1), upd e1 i2 ((e1 i2) - 1), upd e2 i2 ((e2 i2) - 2)) _ _ _ (by first | omega | (dsimp only; omega)) ⟨hP, hD, hS, lv_sub hl [1, 2, 0] rfl, (by omega), (by rw [tpN, ← he]; dsimp only; rw [if_neg c_14])⟩
    · have hlt_33 : i < 6 := bd_lt (N := 6) (by decide) hi1 c_6
      refine lv_aload_n hx hb dX6_end_36 rfl (lv_at hl 0 rfl) ?_
      refine va_get (D := D) (ci := 6) (v := .ref (q 3)) (C := RX6) (T := TX6) (N := 24) hx hb hts hi_X6 hown hK hP 6 rfl rfl 6 (by decide) hf_17 (fun _ h9 => h9) rfl dX6_end_37 ?_
      refine lv_iload_n hx hb dX6_end_40 rfl (lv_at hl 2 rfl) ?_
      refine va_iald hx hb hK hP 0 0 rfl rfl (vp_in_nI (n := i) (by omega) (by decide)) dX6_end_41 ?_
      refine tp_eq (y := ce i) (by rw [nI_clamp (n := i) (by omega)]) ?_
      refine lv_bipush (v := (-2)) hx hb dX6_end_42 (by decide) ?_
      refine lv_icmp_eq (tgt := 61) hx hb dX6_end_44 (by decide) (fun c_15 => ?_) (fun c_15 => ?_)
      · refine lv_iconst (v := 0) hx hb dX6_end_61 (by decide) ?_
        refine lv_istore_n (lv' := [(3, .int 0), (0, .ref (q 0)), (1, .int c1), (2, .int (nI i))]) hx hb dX6_end_62 rfl hl (by decide) rfl (fun ls hl => ?_)
        refine lv_iload_n hx hb dX6_end_63 rfl (lv_at hl 2 rfl) ?_
        refine lv_iload_n hx hb dX6_end_64 rfl (lv_at hl 0 rfl) ?_
        refine lv_if_ne (tgt := 72) hx hb dX6_end_65 (by decide) (fun c_16 => absurd (by decide) c_16) (fun _ => ?_)
        refine lv_iconst (v := 0) hx hb dX6_end_68 (by decide) ?_
        refine lv_goto (tgt := 82) hx hb dX6_end_69 (by decide) ?_
        refine lv_iadd hx hb dX6_end_82 ?_
        refine lv_istore_n (lv' := [(1, .int (c1 + 0)), (3, .int 0), (0, .ref (q 0)), (2, .int (nI i))]) hx hb dX6_end_83 rfl hl (by decide) rfl (fun ls hl => ?_)
        refine lv_iinc (v := nI (i + 1)) (lv' := [(2, .int (nI (i + 1))), (1, .int (c1 + 0)), (3, .int 0), (0, .ref (q 0))]) hx hb dX6_end_84 hl (k := 3) rfl (nI_1 i) (by decide) rfl (fun ls hl => ?_)
        refine lv_goto (tgt := 30) hx hb dX6_end_87 (by decide) ?_
        refine W.widen (k := 0) (n := 0) (Nat.le_refl _) (Nat.le_refl _) ?_
        exact ih_30 ((i + 1), c1 + 0) _ _ _ (by first | omega | (dsimp only; omega)) ⟨hP, hD, hS, lv_sub hl [3, 1, 0] rfl, (by omega), (by rw [mgM, if_pos c_15, ← hc])⟩
      · refine lv_aload_n hx hb dX6_end_47 rfl (lv_at hl 0 rfl) ?_
        refine va_get (D := D) (ci := 6) (v := .ref (q 4)) (C := RX6) (T := TX6) (N := 24) hx hb hts hi_X6 hown hK hP 6 rfl rfl 7 (by decide) hf_20 (fun _ h9 => h9) rfl dX6_end_48 ?_
        refine lv_iload_n hx hb dX6_end_51 rfl (lv_at hl 2 rfl) ?_
        refine va_iald hx hb hK hP 1 0 rfl rfl (vp_in_nI (n := i) (by omega) (by decide)) dX6_end_52 ?_
        refine tp_eq (y := hi i) (by rw [nI_clamp (n := i) (by omega)]) ?_
        refine lv_iconst (v := (-1)) hx hb dX6_end_53 (by decide) ?_
        refine lv_icmp_ne (tgt := 61) hx hb dX6_end_54 (by decide) (fun c_17 => ?_) (fun c_17 => ?_)
        · refine lv_iconst (v := 0) hx hb dX6_end_61 (by decide) ?_
          refine lv_istore_n (lv' := [(3, .int 0), (0, .ref (q 0)), (1, .int c1), (2, .int (nI i))]) hx hb dX6_end_62 rfl hl (by decide) rfl (fun ls hl => ?_)
          refine lv_iload_n hx hb dX6_end_63 rfl (lv_at hl 2 rfl) ?_
          refine lv_iload_n hx hb dX6_end_64 rfl (lv_at hl 0 rfl) ?_
          refine lv_if_ne (tgt := 72) hx hb dX6_end_65 (by decide) (fun c_18 => absurd (by decide) c_18) (fun _ => ?_)
          refine lv_iconst (v := 0) hx hb dX6_end_68 (by decide) ?_
          refine lv_goto (tgt := 82) hx hb dX6_end_69 (by decide) ?_
          refine lv_iadd hx hb dX6_end_82 ?_
          refine lv_istore_n (lv' := [(1, .int (c1 + 0)), (3, .int 0), (0, .ref (q 0)), (2, .int (nI i))]) hx hb dX6_end_83 rfl hl (by decide) rfl (fun ls hl => ?_)
          refine lv_iinc (v := nI (i + 1)) (lv' := [(2, .int (nI (i + 1))), (1, .int (c1 + 0)), (3, .int 0), (0, .ref (q 0))]) hx hb dX6_end_84 hl (k := 3) rfl (nI_1 i) (by decide) rfl (fun ls hl => ?_)
          refine lv_goto (tgt := 30) hx hb dX6_end_87 (by decide) ?_
          refine W.widen (k := 0) (n := 0) (Nat.le_refl _) (Nat.le_refl _) ?_
          exact ih_30 ((i + 1), c1 + 0) _ _ _ (by first | omega | (dsimp only; omega)) ⟨hP, hD, hS, lv_sub hl [3, 1, 0] rfl, (by omega), (by rw [mgM, if_neg c_15, if_neg c_17, ← hc])⟩
        · refine lv_iconst (v := 1) hx hb dX6_end_57 (by decide) ?_
          refine lv_goto (tgt := 62) hx hb dX6_end_58 (by decide) ?_
          refine lv_istore_n (lv' := [(3, .int 1), (0, .ref (q 0)), (1, .int c1), (2, .int (nI i))]) hx hb dX6_end_62 rfl hl (by decide) rfl (fun ls hl => ?_)
          refine lv_iload_n hx hb dX6_end_63 rfl (lv_at hl 2 rfl) ?_
          refine lv_iload_n hx hb dX6_end_64 rfl (lv_at hl 0 rfl) ?_
          refine lv_if_ne (tgt := 72) hx hb dX6_end_65 (by decide) (fun _ => ?_) (fun c_19 => absurd c_19 (by decide))
          refine lv_iload_n hx hb dX6_end_72 rfl (lv_at hl 3 rfl) ?_
          refine lv_iconst (v := 3) hx hb dX6_end_73 (by decide) ?_
          refine lv_icmp_ge (tgt := 81) hx hb dX6_end_74 (by decide) (fun c_20 => ?_) (fun c_20 => ?_)
          · refine lv_iconst (v := (-1)) hx hb dX6_end_81 (by decide) ?_
            refine lv_iadd hx hb dX6_end_82 ?_
            refine lv_istore_n (lv' := [(1, .int (c1 + (-1))), (3, .int 1), (0, .ref (q 0)), (2, .int (nI i))]) hx hb dX6_end_83 rfl hl (by decide) rfl (fun ls hl => ?_)
            refine lv_iinc (v := nI (i + 1)) (lv' := [(2, .int (nI (i + 1))), (1, .int (c1 + (-1))), (3, .int 1), (0, .ref (q 0))]) hx hb dX6_end_84 hl (k := 3) rfl (nI_1 i) (by decide) rfl (fun ls hl => ?_)
            refine lv_goto (tgt := 30) hx hb dX6_end_87 (by decide) ?_
            refine W.widen (k := 0) (n := 0) (Nat.le_refl _) (Nat.le_refl _) ?_
            exact ih_30 ((i + 1), c1 + (-1)) _ _ _ (by first | omega | (dsimp only; omega)) ⟨hP, hD, hS, lv_sub hl [3, 1, 0] rfl, (by omega), (by rw [mgM, if_neg c_15, if_pos c_17, if_pos c_20, ← hc])⟩
          · refine lv_iconst (v := 1) hx hb dX6_end_77 (by decide) ?_
            refine lv_goto (tgt := 82) hx hb dX6_end_78 (by decide) ?_
            refine lv_iadd hx hb dX6_end_82 ?_
            refine lv_istore_n (lv' := [(1, .int (c1 + 1)), (3, .int 1), (0, .ref (q 0)), (2, .int (nI i))]) hx hb dX6_end_83 rfl hl (by decide) rfl (fun ls hl => ?_)
            refine lv_iinc (v := nI (i + 1)) (lv' := [(2, .int (nI (i + 1))), (1, .int (c1 + 1)), (3, .int 1), (0, .ref (q 0))]) hx hb dX6_end_84 hl (k := 3) rfl (nI_1 i) (by decide) rfl (fun ls hl => ?_)
            refine lv_goto (tgt := 30) hx hb dX6_end_87 (by decide) ?_
            refine W.widen (k := 0) (n := 0) (Nat.le_refl _) (Nat.le_refl _) ?_
            exact ih_30 ((i + 1), c1 + 1) _ _ _ (by first | omega | (dsimp only; omega)) ⟨hP, hD, hS, lv_sub hl [3, 1, 0] rfl, (by omega), (by rw [mgM, if_neg c_15, if_pos c_17, if_neg c_20, ← hc])⟩
