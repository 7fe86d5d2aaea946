set_option maxHeartbeats 40000000 in
set_option maxRecDepth 100000 in
theorem c_L_isSight (l : Launch) (D : va_G) (cI cZ cJ cA : ClassId) (sz : Nat) (a : Nat → Nat) (q : Nat → Nat) (lb : Nat → Int32) (bk : Nat → Int32) (p1 : Nat) (p2 : Nat) (h1 : p1 < 144) (h2 : p2 < 144) : Met l yL_isSight wsL_isSight ({ frames := 8, cells := 0, slots := 0, locals := 132 } : Room) (va_Pc [.ref (a 0), .ref (q 0), .int (nI p1), .int (nI p2)] (pcR D (tyL cI cZ cJ cA) [((a 0), .inr (5, [.ref (a 2), .ref (a 4), .ref (a 18), .ref (a 1)])), ((a 2), .inr (1, [.ref (a 3)])), ((a 3), .inl (cZ, 144, .inl bk)), ((q 0), .inl (cI, 19, .inl lb))] sz)) (va_Qi (fun (r : Int32) (u : Unit) => r = f_L_isSight lb bk p1 p2) (fun _ _ => True) (fun q : Nat => sz ≤ q)) 0 0 (fun q : Nat => sz ≤ q) := by
  refine Met.ofW (cc := cL_isSight) (maxL := 13) (ret := (some .boolean)) (by decide) rfl ?_
  intro p e s m args below meth c s₁ B hml hv
  obtain ⟨rfl, hsz, hP, hK⟩ := hv
  have hx := B.exec
  have hb := B.bytes
  have hr := B.returns
  have hts := atoms_spec (ws := wsL_isSight) B.pre
  have hown : s.vm.findClass RL = some m.cls := findClass_of_methodNamed B.named
  have hlocks := B.notSynchronized
  subst hsz
  have hA : ∀ q : Nat, s.heap.size ≤ q → (fun q : Nat => s.heap.size ≤ q) q := fun _ h => h
  have hS : va_S (fun q : Nat => s.heap.size ≤ q) s.heap s.heap [] := va_S.rf
  have hP : va_P D vwCl [((a 0), .inr (5, [.ref (a 2), .ref (a 4), .ref (a 18), .ref (a 1)])), ((a 2), .inr (1, [.ref (a 3)])), ((a 3), .inl (cZ, 144, .inl bk)), ((q 0), .inl (cI, 19, .inl lb))] s.heap := hP
  have hl := lv_entry ([.ref (a 0), .ref (q 0), .int (nI p1), .int (nI p2)]) (n := 13) (Nat.le_of_ble_eq_true rfl)
  rw [lg_entry_eq]
  generalize (lg_sl ([.ref (a 0), .ref (q 0), .int (nI p1), .int (nI p2)]) ++ List.replicate (13 - (lg_sl ([.ref (a 0), .ref (q 0), .int (nI p1), .int (nI p2)])).length) Slot.unset).toArray = ls at hl ⊢
  have hl : lv_has ls 13 [(0, .ref (a 0)), (1, .ref (q 0)), (2, .int (nI p1)), (3, .int (nI p2))] := hl
  refine lv_aload_n hx hb dL_isSight_0 rfl (lv_at hl 0 rfl) ?_
  refine lv_iload_n hx hb dL_isSight_1 rfl (lv_at hl 2 rfl) ?_
  refine lv_iload_n hx hb dL_isSight_2 rfl (lv_at hl 3 rfl) ?_
  have hPc := hP.sub (ws' := [((a 0), .inr (5, [.ref (a 2), .ref (a 4), .ref (a 18), .ref (a 1)])), ((a 2), .inr (1, [.ref (a 3)])), ((a 3), .inl (cZ, 144, .inl bk))]) [0, 1, 2] rfl
  refine va_calli (va_runV (As := [.int (nI p1), .int (nI p2)]) (rest := []) ⟨hx, hb, hml, hown, hts⟩ (c_V_sees l D cI cZ cJ cA s.heap.size a bk p1 p2 (by first | assumption | omega) (by first | assumption | omega)) (cwV 2 hts gL_isSight_X5_sees rfl rfl rfl (by decide +kernel) ⟨Nat.le_of_ble_eq_true rfl, Nat.le_of_ble_eq_true rfl⟩) ⟨pcR_bl, va_recv hK hPc (ci := 5) (q0 := 0) rfl rfl, fun U hU hW => ⟨rfl, by rw [hU], by rw [hU]; exact hPc, va_K.moved hW.alike hK⟩⟩ rfl rfl hl.1 rfl (lv_room (Nat.le_of_ble_eq_true rfl)) dL_isSight_3 ⟨Nat.le_of_ble_eq_true rfl, Nat.le_of_ble_eq_true rfl⟩) hS (fun _ h1 h2 => absurd h1 (Nat.not_lt.mpr h2)) (rd_free hS hA) (fun r_1 u t H locs ht hvm hw hB hz1 hk1 hS => ?_)
  try dsimp only at hw
  have hr_1 := hw
  have hP := rd_P hP hk1
  obtain rfl := hr_1.symm
  refine W.widen (k := 0) (n := 0) (Nat.le_refl _) (Nat.le_refl _) ?_
  refine lv_istore (lv' := [(4, .int (sI (SgtC bk p1 p2))), (0, .ref (a 0)), (1, .ref (q 0)), (2, .int (nI p1)), (3, .int (nI p2))]) hx hb dL_isSight_6 hl (by decide) rfl (fun ls hl => ?_)
  refine jn_w (cells2 := 0) (slots2 := 0) (fun H locs ls => va_P D vwCl [((a 0), .inr (5, [.ref (a 2), .ref (a 4), .ref (a 18), .ref (a 1)])), ((a 2), .inr (1, [.ref (a 3)])), ((a 3), .inl (cZ, 144, .inl bk)), ((q 0), .inl (cI, 19, .inl lb))] H ∧ va_S (fun q : Nat => s.heap.size ≤ q) s.heap H locs ∧ lv_has ls 13 [(4, .int (sI (SgtC bk p1 p2))), (0, .ref (a 0)), (1, .ref (q 0)), (2, .int (nI p1)), (3, .int (nI p2))]) (pc2 := 29) (st2 := []) (j_L_isSight_29 lb p1 p2) (fun jn_8 => ?_) ?_
  · refine lv_aload_n hx hb dL_isSight_8 rfl (lv_at hl 2 rfl) ?_
    refine lv_iload_n hx hb dL_isSight_9 rfl (lv_at hl 3 rfl) ?_
    have hPc := hP.sub (ws' := [((q 0), .inl (cI, 19, .inl lb))]) [3] rfl
    refine va_calli (va_runS (As := [.ref (q 0), .int (nI p1)]) (rest := []) ⟨hx, hb, hml, hown, hts⟩ (c_L_isBunker l D cI cZ cJ cA H.size q lb p1 (by first | assumption | omega)) (va_cwS 2 hts gL_isSight_L_isBunker rfl rfl rfl (by decide +kernel) ⟨Nat.le_of_ble_eq_true rfl, Nat.le_of_ble_eq_true rfl⟩) ⟨pcR_bl, fun U hU hW => ⟨rfl, by rw [hU], by rw [hU]; exact hPc, va_K.moved hW.alike hK⟩⟩ rfl rfl hl.1 rfl (lv_room (Nat.le_of_ble_eq_true rfl)) dL_isSight_10 ⟨Nat.le_of_ble_eq_true rfl, Nat.le_of_ble_eq_true rfl⟩) hS (fun _ h1 h2 => absurd h1 (Nat.not_lt.mpr h2)) (rd_free hS hA) (fun r_2 u t H locs ht hvm hw hB hz1 hk1 hS => ?_)
    try dsimp only at hw
    have hr_2 := hw
    have hP := rd_P hP hk1
    obtain rfl := hr_2.symm
    refine W.widen (k := 0) (n := 0) (Nat.le_refl _) (Nat.le_refl _) ?_
    refine lv_if_ne (tgt := 28) hx hb dL_isSight_13 (by decide) (fun c_3 => ?_) (fun c_3 => ?_)
    · refine lv_iconst (v := 0) hx hb dL_isSight_28 (by decide) ?_
      refine W.widen (k := 0) (n := 0) (Nat.le_of_ble_eq_true rfl) (Nat.le_of_ble_eq_true rfl) ?_
      refine tp_eq (y := j_L_isSight_29 lb p1 p2) (by rw [j_L_isSight_29, if_neg c_3]) ?_
      exact jn_8 _ _ _ ⟨hP, hS, lv_sub hl [0, 1, 2, 3, 4] rfl⟩
    · refine lv_aload_n hx hb dL_isSight_16 rfl (lv_at hl 2 rfl) ?_
      refine lv_iload_n hx hb dL_isSight_17 rfl (lv_at hl 4 rfl) ?_
      have hPc := hP.sub (ws' := [((q 0), .inl (cI, 19, .inl lb))]) [3] rfl
      refine va_calli (va_runS (As := [.ref (q 0), .int (nI p2)]) (rest := []) ⟨hx, hb, hml, hown, hts⟩ (c_L_isBunker l D cI cZ cJ cA H.size q lb p2 (by first | assumption | omega)) (va_cwS 2 hts gL_isSight_L_isBunker rfl rfl rfl (by decide +kernel) ⟨Nat.le_of_ble_eq_true rfl, Nat.le_of_ble_eq_true rfl⟩) ⟨pcR_bl, fun U hU hW => ⟨rfl, by rw [hU], by rw [hU]; exact hPc, va_K.moved hW.alike hK⟩⟩ rfl rfl hl.1 rfl (lv_room (Nat.le_of_ble_eq_true rfl)) dL_isSight_18 ⟨Nat.le_of_ble_eq_true rfl, Nat.le_of_ble_eq_true rfl⟩) hS (fun _ h1 h2 => absurd h1 (Nat.not_lt.mpr h2)) (rd_free hS hA) (fun r_4 u t H locs ht hvm hw hB hz1 hk1 hS => ?_)
      try dsimp only at hw
      have hr_4 := hw
      have hP := rd_P hP hk1
      obtain rfl := hr_4.symm
      refine W.widen (k := 0) (n := 0) (Nat.le_refl _) (Nat.le_refl _) ?_
      refine lv_if_ne (tgt := 28) hx hb dL_isSight_21 (by decide) (fun c_5 => ?_) (fun c_5 => ?_)
      · refine lv_iconst (v := 0) hx hb dL_isSight_28 (by decide) ?_
        refine W.widen (k := 0) (n := 0) (Nat.le_of_ble_eq_true rfl) (Nat.le_of_ble_eq_true rfl) ?_
        refine tp_eq (y := j_L_isSight_29 lb p1 p2) (by rw [j_L_isSight_29, if_pos c_3, if_neg c_5]) ?_
        exact jn_8 _ _ _ ⟨hP, hS, lv_sub hl [0, 1, 2, 3, 4] rfl⟩
      · refine lv_iconst (v := 1) hx hb dL_isSight_24 (by decide) ?_
        refine lv_goto (tgt := 29) hx hb dL_isSight_25 (by decide) ?_
        refine W.widen (k := 0) (n := 0) (Nat.le_of_ble_eq_true rfl) (Nat.le_of_ble_eq_true rfl) ?_
        refine tp_eq (y := j_L_isSight_29 lb p1 p2) (by rw [j_L_isSight_29, if_pos c_3, if_pos c_5]) ?_
        exact jn_8 _ _ _ ⟨hP, hS, lv_sub hl [0, 1, 2, 3, 4] rfl⟩
  · intro H locs ls hI
    obtain ⟨hP, hS, hl⟩ := hI
    have hl : lv_has ls 13 [(4, .int (sI (SgtC bk p1 p2))), (0, .ref (a 0)), (1, .ref (q 0)), (2, .int (nI p1)), (3, .int (nI p2))] := hl
    have hP : va_P D vwCl [((a 0), .inr (5, [.ref (a 2), .ref (a 4), .ref (a 18), .ref (a 1)])), ((a 2), .inr (1, [.ref (a 3)])), ((a 3), .inl (cZ, 144, .inl bk)), ((q 0), .inl (cI, 19, .inl lb))] H := hP
    refine lv_istore (lv' := [(5, .int (j_L_isSight_29 lb p1 p2)), (4, .int (sI (SgtC bk p1 p2))), (0, .ref (a 0)), (1, .ref (q 0)), (2, .int (nI p1)), (3, .int (nI p2))]) hx hb dL_isSight_29 hl (by decide) rfl (fun ls hl => ?_)
    refine lv_iload_n hx hb dL_isSight_31 rfl (lv_at hl 5 rfl) ?_
    refine lv_bipush (v := 12) hx hb dL_isSight_32 (by decide) ?_
    refine lv_idiv hx hb dL_isSight_34 (by decide) ?_
    refine tp_eq (y := nI (p2 / 12)) (pk_div (a := p2) (d := 12) (by omega) (by omega) (by omega)) ?_
    refine lv_iload_n hx hb dL_isSight_35 rfl (lv_at hl 4 rfl) ?_
    refine lv_bipush (v := 12) hx hb dL_isSight_36 (by decide) ?_
    refine lv_idiv hx hb dL_isSight_38 (by decide) ?_
    refine tp_eq (y := nI (p1 / 12)) (pk_div (a := p1) (d := 12) (by omega) (by omega) (by omega)) ?_
    refine lv_isub hx hb dL_isSight_39 ?_
    refine lv_istore (lv' := [(6, .int ((nI (p2 / 12)) - (nI (p1 / 12)))), (5, .int (j_L_isSight_29 lb p1 p2)), (4, .int (sI (SgtC bk p1 p2))), (0, .ref (a 0)), (1, .ref (q 0)), (2, .int (nI p1)), (3, .int (nI p2))]) hx hb dL_isSight_40 hl (by decide) rfl (fun ls hl => ?_)
    refine lv_iload_n hx hb dL_isSight_42 rfl (lv_at hl 6 rfl) ?_
    refine lv_bipush (v := 12) hx hb dL_isSight_43 (by decide) ?_
    refine lv_irem hx hb dL_isSight_45 (by decide) ?_
    refine tp_eq (y := nI (p2 % 12)) (pk_rem (a := p2) (d := 12) (by omega) (by omega) (by omega)) ?_
    refine lv_iload_n hx hb dL_isSight_46 rfl (lv_at hl 5 rfl) ?_
    refine lv_bipush (v := 12) hx hb dL_isSight_47 (by decide) ?_
    refine lv_irem hx hb dL_isSight_49 (by decide) ?_
    refine tp_eq (y := nI (p1 % 12)) (pk_rem (a := p1) (d := 12) (by omega) (by omega) (by omega)) ?_
    refine lv_isub hx hb dL_isSight_50 ?_
    refine lv_istore (lv' := [(7, .int ((nI (p2 % 12)) - (nI (p1 % 12)))), (6, .int ((nI (p2 / 12)) - (nI (p1 / 12)))), (5, .int (j_L_isSight_29 lb p1 p2)), (4, .int (sI (SgtC bk p1 p2))), (0, .ref (a 0)), (1, .ref (q 0)), (2, .int (nI p1)), (3, .int (nI p2))]) hx hb dL_isSight_51 hl (by decide) rfl (fun ls hl => ?_)
    refine jn_w (cells2 := 0) (slots2 := 0) (fun H locs ls => va_P D vwCl [((a 0), .inr (5, [.ref (a 2), .ref (a 4), .ref (a 18), .ref (a 1)])), ((a 2), .inr (1, [.ref (a 3)])), ((a 3), .inl (cZ, 144, .inl bk)), ((q 0), .inl (cI, 19, .inl lb))] H ∧ va_S (fun q : Nat => s.heap.size ≤ q) s.heap H locs ∧ lv_has ls 13 [(7, .int ((nI (p2 % 12)) - (nI (p1 % 12)))), (6, .int ((nI (p2 / 12)) - (nI (p1 / 12)))), (5, .int (j_L_isSight_29 lb p1 p2)), (4, .int (sI (SgtC bk p1 p2))), (0, .ref (a 0)), (1, .ref (q 0)), (2, .int (nI p1)), (3, .int (nI p2))]) (pc2 := 83) (st2 := []) (j_L_isSight_83 p2 p1) (fun jn_53 => ?_) ?_
    · refine lv_iload hx hb dL_isSight_53 (lv_at hl 1 rfl) ?_
      refine lv_if_eq (tgt := 78) hx hb dL_isSight_55 (by decide) (fun c_6 => ?_) (fun c_6 => ?_)
      · refine lv_iconst (v := 1) hx hb dL_isSight_78 (by decide) ?_
        refine lv_goto (tgt := 83) hx hb dL_isSight_79 (by decide) ?_
        refine W.widen (k := 0) (n := 0) (Nat.le_of_ble_eq_true rfl) (Nat.le_of_ble_eq_true rfl) ?_
        refine tp_eq (y := j_L_isSight_83 p2 p1) (by rw [j_L_isSight_83, if_pos c_6]) ?_
        exact jn_53 _ _ _ ⟨hP, hS, lv_sub hl [0, 1, 2, 3, 4, 5, 6, 7] rfl⟩
      · refine lv_iload hx hb dL_isSight_58 (lv_at hl 0 rfl) ?_
        refine lv_if_eq (tgt := 78) hx hb dL_isSight_60 (by decide) (fun c_7 => ?_) (fun c_7 => ?_)
        · refine lv_iconst (v := 1) hx hb dL_isSight_78 (by decide) ?_
          refine lv_goto (tgt := 83) hx hb dL_isSight_79 (by decide) ?_
          refine W.widen (k := 0) (n := 0) (Nat.le_of_ble_eq_true rfl) (Nat.le_of_ble_eq_true rfl) ?_
          refine tp_eq (y := j_L_isSight_83 p2 p1) (by rw [j_L_isSight_83, if_neg c_6, if_pos c_7]) ?_
          exact jn_53 _ _ _ ⟨hP, hS, lv_sub hl [0, 1, 2, 3, 4, 5, 6, 7] rfl⟩
        · refine lv_iload hx hb dL_isSight_63 (lv_at hl 1 rfl) ?_
          refine lv_iload hx hb dL_isSight_65 (lv_at hl 0 rfl) ?_
          refine lv_icmp_eq (tgt := 78) hx hb dL_isSight_67 (by decide) (fun c_8 => ?_) (fun c_8 => ?_)
          · refine lv_iconst (v := 1) hx hb dL_isSight_78 (by decide) ?_
            refine lv_goto (tgt := 83) hx hb dL_isSight_79 (by decide) ?_
            refine W.widen (k := 0) (n := 0) (Nat.le_of_ble_eq_true rfl) (Nat.le_of_ble_eq_true rfl) ?_
            refine tp_eq (y := j_L_isSight_83 p2 p1) (by rw [j_L_isSight_83, if_neg c_6, if_neg c_7, if_pos c_8]) ?_
            exact jn_53 _ _ _ ⟨hP, hS, lv_sub hl [0, 1, 2, 3, 4, 5, 6, 7] rfl⟩
          · refine lv_iload hx hb dL_isSight_70 (lv_at hl 1 rfl) ?_
            refine lv_iload hx hb dL_isSight_72 (lv_at hl 0 rfl) ?_
            refine lv_ineg hx hb dL_isSight_74 ?_
            refine lv_icmp_ne (tgt := 82) hx hb dL_isSight_75 (by decide) (fun c_9 => ?_) (fun c_9 => ?_)
            · refine lv_iconst (v := 0) hx hb dL_isSight_82 (by decide) ?_
              refine W.widen (k := 0) (n := 0) (Nat.le_of_ble_eq_true rfl) (Nat.le_of_ble_eq_true rfl) ?_
              refine tp_eq (y := j_L_isSight_83 p2 p1) (by rw [j_L_isSight_83, if_neg c_6, if_neg c_7, if_neg c_8, if_neg c_9]) ?_
              exact jn_53 _ _ _ ⟨hP, hS, lv_sub hl [0, 1, 2, 3, 4, 5, 6, 7] rfl⟩
            · refine lv_iconst (v := 1) hx hb dL_isSight_78 (by decide) ?_
              refine lv_goto (tgt := 83) hx hb dL_isSight_79 (by decide) ?_
              refine W.widen (k := 0) (n := 0) (Nat.le_of_ble_eq_true rfl) (Nat.le_of_ble_eq_true rfl) ?_
              refine tp_eq (y := j_L_isSight_83 p2 p1) (by rw [j_L_isSight_83, if_neg c_6, if_neg c_7, if_neg c_8, if_pos c_9]) ?_
              exact jn_53 _ _ _ ⟨hP, hS, lv_sub hl [0, 1, 2, 3, 4, 5, 6, 7] rfl⟩
    · intro H locs ls hI
      obtain ⟨hP, hS, hl⟩ := hI
      have hl : lv_has ls 13 [(7, .int ((nI (p2 % 12)) - (nI (p1 % 12)))), (6, .int ((nI (p2 / 12)) - (nI (p1 / 12)))), (5, .int (j_L_isSight_29 lb p1 p2)), (4, .int (sI (SgtC bk p1 p2))), (0, .ref (a 0)), (1, .ref (q 0)), (2, .int (nI p1)), (3, .int (nI p2))] := hl
      have hP : va_P D vwCl [((a 0), .inr (5, [.ref (a 2), .ref (a 4), .ref (a 18), .ref (a 1)])), ((a 2), .inr (1, [.ref (a 3)])), ((a 3), .inl (cZ, 144, .inl bk)), ((q 0), .inl (cI, 19, .inl lb))] H := hP
      refine lv_istore (lv' := [(8, .int (j_L_isSight_83 p2 p1)), (7, .int ((nI (p2 % 12)) - (nI (p1 % 12)))), (6, .int ((nI (p2 / 12)) - (nI (p1 / 12)))), (5, .int (j_L_isSight_29 lb p1 p2)), (4, .int (sI (SgtC bk p1 p2))), (0, .ref (a 0)), (1, .ref (q 0)), (2, .int (nI p1)), (3, .int (nI p2))]) hx hb dL_isSight_83 hl (by decide) rfl (fun ls hl => ?_)
      refine lv_iload hx hb dL_isSight_85 (lv_at hl 3 rfl) ?_
      refine lv_istore (lv' := [(9, .int (j_L_isSight_29 lb p1 p2)), (8, .int (j_L_isSight_83 p2 p1)), (7, .int ((nI (p2 % 12)) - (nI (p1 % 12)))), (6, .int ((nI (p2 / 12)) - (nI (p1 / 12)))), (5, .int (j_L_isSight_29 lb p1 p2)), (4, .int (sI (SgtC bk p1 p2))), (0, .ref (a 0)), (1, .ref (q 0)), (2, .int (nI p1)), (3, .int (nI p2))]) hx hb dL_isSight_87 hl (by decide) rfl (fun ls hl => ?_)
      refine lv_iload_n hx hb dL_isSight_89 rfl (lv_at hl 8 rfl) ?_
      refine lv_iload_n hx hb dL_isSight_90 rfl (lv_at hl 9 rfl) ?_
      have hPc := hP.sub (ws' := []) [] rfl
      refine va_calli (va_runS (As := [.int (nI p1), .int (nI p2)]) (rest := []) ⟨hx, hb, hml, hown, hts⟩ (c_L_apart l D cI cZ cJ cA H.size p1 p2 (by first | assumption | omega) (by first | assumption | omega)) (va_cwS 2 hts gL_isSight_L_apart rfl rfl rfl (by decide +kernel) ⟨Nat.le_of_ble_eq_true rfl, Nat.le_of_ble_eq_true rfl⟩) ⟨pcR_bl, fun U hU hW => ⟨rfl, by rw [hU], by rw [hU]; exact hPc, va_K.moved hW.alike hK⟩⟩ rfl rfl hl.1 rfl (lv_room (Nat.le_of_ble_eq_true rfl)) dL_isSight_91 ⟨Nat.le_of_ble_eq_true rfl, Nat.le_of_ble_eq_true rfl⟩) hS (fun _ h1 h2 => absurd h1 (Nat.not_lt.mpr h2)) (rd_free hS hA) (fun r_10 u t H locs ht hvm hw hB hz1 hk1 hS => ?_)
      try dsimp only at hw
      have hr_10 := hw
      have hP := rd_P hP hk1
      obtain rfl := hr_10.symm
      refine W.widen (k := 0) (n := 0) (Nat.le_refl _) (Nat.le_refl _) ?_
      have hap_10 : apN p1 p2 < 12 := apN_lt (by omega) (by omega)
      refine lv_istore (lv' := [(10, .int (nI (apN p1 p2))), (9, .int (j_L_isSight_29 lb p1 p2)), (8, .int (j_L_isSight_83 p2 p1)), (7, .int ((nI (p2 % 12)) - (nI (p1 % 12)))), (6, .int ((nI (p2 / 12)) - (nI (p1 / 12)))), (5, .int (j_L_isSight_29 lb p1 p2)), (4, .int (sI (SgtC bk p1 p2))), (0, .ref (a 0)), (1, .ref (q 0)), (2, .int (nI p1)), (3, .int (nI p2))]) hx hb dL_isSight_94 hl (by decide) rfl (fun ls hl => ?_)
      refine lv_iconst (v := 1) hx hb dL_isSight_96 (by decide) ?_
      refine lv_istore (lv' := [(11, .int 1), (10, .int (nI (apN p1 p2))), (9, .int (j_L_isSight_29 lb p1 p2)), (8, .int (j_L_isSight_83 p2 p1)), (7, .int ((nI (p2 % 12)) - (nI (p1 % 12)))), (6, .int ((nI (p2 / 12)) - (nI (p1 / 12)))), (5, .int (j_L_isSight_29 lb p1 p2)), (4, .int (sI (SgtC bk p1 p2))), (0, .ref (a 0)), (1, .ref (q 0)), (2, .int (nI p1)), (3, .int (nI p2))]) hx hb dL_isSight_97 hl (by decide) rfl (fun ls hl => ?_)
      by_cases sp_99 : (j_L_isSight_83 p2 p1) = 0
      · refine lv_iload hx hb dL_isSight_99 (lv_at hl 0 rfl) ?_
        refine lv_iload hx hb dL_isSight_101 (lv_at hl 1 rfl) ?_
        refine lv_icmp_ge (tgt := 155) hx hb dL_isSight_103 (by decide) (fun c_11 => ?_) (fun c_11 => ?_)
        · have nc_11 : (apN p1 p2) ≤ 1 := (nI_leI (a := (apN p1 p2)) (b := 1) (by omega) (by omega)).mp c_11
          refine lv_iconst (v := 0) hx hb dL_isSight_155 (by decide) ?_
          refine lv_istore (lv' := [(11, .int 0), (10, .int (nI (apN p1 p2))), (9, .int (j_L_isSight_29 lb p1 p2)), (8, .int (j_L_isSight_83 p2 p1)), (7, .int ((nI (p2 % 12)) - (nI (p1 % 12)))), (6, .int ((nI (p2 / 12)) - (nI (p1 / 12)))), (5, .int (j_L_isSight_29 lb p1 p2)), (4, .int (sI (SgtC bk p1 p2))), (0, .ref (a 0)), (1, .ref (q 0)), (2, .int (nI p1)), (3, .int (nI p2))]) hx hb dL_isSight_156 hl (by decide) rfl (fun ls hl => ?_)
          refine jn_w (cells2 := 0) (slots2 := 0) (fun H locs ls => va_P D vwCl [((a 0), .inr (5, [.ref (a 2), .ref (a 4), .ref (a 18), .ref (a 1)])), ((a 2), .inr (1, [.ref (a 3)])), ((a 3), .inl (cZ, 144, .inl bk)), ((q 0), .inl (cI, 19, .inl lb))] H ∧ va_S (fun q : Nat => s.heap.size ≤ q) s.heap H locs ∧ lv_has ls 13 [(11, .int 0), (10, .int (nI (apN p1 p2))), (9, .int (j_L_isSight_29 lb p1 p2)), (8, .int (j_L_isSight_83 p2 p1)), (7, .int ((nI (p2 % 12)) - (nI (p1 % 12)))), (6, .int ((nI (p2 / 12)) - (nI (p1 / 12)))), (5, .int (j_L_isSight_29 lb p1 p2)), (4, .int (sI (SgtC bk p1 p2))), (0, .ref (a 0)), (1, .ref (q 0)), (2, .int (nI p1)), (3, .int (nI p2))]) (pc2 := 180) (st2 := []) (j_L_isSight_180 p2 p1) (fun jn_158 => ?_) ?_
          · refine lv_iload_n hx hb dL_isSight_158 rfl (lv_at hl 10 rfl) ?_
            refine lv_bipush (v := 12) hx hb dL_isSight_159 (by decide) ?_
            refine lv_idiv hx hb dL_isSight_161 (by decide) ?_
            refine tp_eq (y := nI (p1 / 12)) (pk_div (a := p1) (d := 12) (by omega) (by omega) (by omega)) ?_
            refine lv_iload_n hx hb dL_isSight_162 rfl (lv_at hl 11 rfl) ?_
            refine lv_bipush (v := 12) hx hb dL_isSight_163 (by decide) ?_
            refine lv_idiv hx hb dL_isSight_165 (by decide) ?_
            refine tp_eq (y := nI (p2 / 12)) (pk_div (a := p2) (d := 12) (by omega) (by omega) (by omega)) ?_
            refine lv_icmp_ge (tgt := 176) hx hb dL_isSight_166 (by decide) (fun c_12 => ?_) (fun c_12 => ?_)
            · have nc_12 : (p2 / 12) ≤ (p1 / 12) := (nI_leI (a := (p2 / 12)) (b := (p1 / 12)) (by omega) (by omega)).mp c_12
              refine lv_iload_n hx hb dL_isSight_176 rfl (lv_at hl 11 rfl) ?_
              refine lv_bipush (v := 12) hx hb dL_isSight_177 (by decide) ?_
              refine lv_idiv hx hb dL_isSight_179 (by decide) ?_
              refine tp_eq (y := nI (p2 / 12)) (pk_div (a := p2) (d := 12) (by omega) (by omega) (by omega)) ?_
              refine W.widen (k := 0) (n := 0) (Nat.le_of_ble_eq_true rfl) (Nat.le_of_ble_eq_true rfl) ?_
              refine tp_eq (y := j_L_isSight_180 p2 p1) (by rw [j_L_isSight_180, if_pos c_12]) ?_
              exact jn_158 _ _ _ ⟨hP, hS, lv_sub hl [0, 1, 2, 3, 4, 5, 6, 7, 8, 9, 10, 11] rfl⟩
            · have nc_12 : ¬ (p2 / 12) ≤ (p1 / 12) := fun q => c_12 ((nI_leI (a := (p2 / 12)) (b := (p1 / 12)) (by omega) (by omega)).mpr q)
              refine lv_iload_n hx hb dL_isSight_169 rfl (lv_at hl 10 rfl) ?_
              refine lv_bipush (v := 12) hx hb dL_isSight_170 (by decide) ?_
              refine lv_idiv hx hb dL_isSight_172 (by decide) ?_
              refine tp_eq (y := nI (p1 / 12)) (pk_div (a := p1) (d := 12) (by omega) (by omega) (by omega)) ?_
              refine lv_goto (tgt := 180) hx hb dL_isSight_173 (by decide) ?_
              refine W.widen (k := 0) (n := 0) (Nat.le_of_ble_eq_true rfl) (Nat.le_of_ble_eq_true rfl) ?_
              refine tp_eq (y := j_L_isSight_180 p2 p1) (by rw [j_L_isSight_180, if_neg c_12]) ?_
              exact jn_158 _ _ _ ⟨hP, hS, lv_sub hl [0, 1, 2, 3, 4, 5, 6, 7, 8, 9, 10, 11] rfl⟩
          · intro H locs ls hI
            obtain ⟨hP, hS, hl⟩ := hI
            have hl : lv_has ls 13 [(11, .int 0), (10, .int (nI (apN p1 p2))), (9, .int (j_L_isSight_29 lb p1 p2)), (8, .int (j_L_isSight_83 p2 p1)), (7, .int ((nI (p2 % 12)) - (nI (p1 % 12)))), (6, .int ((nI (p2 / 12)) - (nI (p1 / 12)))), (5, .int (j_L_isSight_29 lb p1 p2)), (4, .int (sI (SgtC bk p1 p2))), (0, .ref (a 0)), (1, .ref (q 0)), (2, .int (nI p1)), (3, .int (nI p2))] := hl
            have hP : va_P D vwCl [((a 0), .inr (5, [.ref (a 2), .ref (a 4), .ref (a 18), .ref (a 1)])), ((a 2), .inr (1, [.ref (a 3)])), ((a 3), .inl (cZ, 144, .inl bk)), ((q 0), .inl (cI, 19, .inl lb))] H := hP
            refine tp_eq (y := nI (min (p1 / 12) (p2 / 12) + 0)) (mn180 h1 h2) ?_
            refine lv_istore (lv' := [(12, .int (nI (min (p1 / 12) (p2 / 12) + 0))), (11, .int 0), (10, .int (nI (apN p1 p2))), (9, .int (j_L_isSight_29 lb p1 p2)), (8, .int (j_L_isSight_83 p2 p1)), (7, .int ((nI (p2 % 12)) - (nI (p1 % 12)))), (6, .int ((nI (p2 / 12)) - (nI (p1 / 12)))), (5, .int (j_L_isSight_29 lb p1 p2)), (4, .int (sI (SgtC bk p1 p2))), (0, .ref (a 0)), (1, .ref (q 0)), (2, .int (nI p1)), (3, .int (nI p2))]) hx hb dL_isSight_180 hl (by decide) rfl (fun ls hl => ?_)
            refine lpW (σ := (Nat) × (Int32)) (I := fun x H locs ls => va_P D vwCl [((a 0), .inr (5, [.ref (a 2), .ref (a 4), .ref (a 18), .ref (a 1)])), ((a 2), .inr (1, [.ref (a 3)])), ((a 3), .inl (cZ, 144, .inl bk)), ((q 0), .inl (cI, 19, .inl lb))] H ∧ va_S (fun q : Nat => s.heap.size ≤ q) s.heap H locs ∧ lv_has ls 13 [(0, .ref (a 0)), (1, .ref (q 0)), (2, .int (nI p1)), (3, .int (nI p2)), (4, .int (sI (SgtC bk p1 p2))), (5, .int (j_L_isSight_29 lb p1 p2)), (6, .int ((nI (p2 / 12)) - (nI (p1 / 12)))), (7, .int ((nI (p2 % 12)) - (nI (p1 % 12)))), (8, .int (j_L_isSight_83 p2 p1)), (9, .int (j_L_isSight_29 lb p1 p2)), (10, .int (nI (apN p1 p2))), (11, .int x.2), (12, .int (nI (min (p1 / 12) (p2 / 12) + x.1)))] ∧ (min (p1 / 12) (p2 / 12) + x.1 ≤ max (p1 / 12) (p2 / 12) + 1) ∧ (x.2 = orN lb (min (p1 / 12) (p2 / 12)) x.1)) (μ := fun x => 13 - x.1) ?_ (0, 0) ⟨hP, hS, lv_sub hl [9, 10, 11, 12, 8, 7, 6, 5, 4, 3, 2, 1, 0] rfl, (by omega), (by rw [orN])⟩
            intro x H locs ls hI ih
            obtain ⟨r, al⟩ := x
            obtain ⟨hP, hS, hl, hq_hr1, hq_hal⟩ := hI
            have ih_182 := ih
            have hl : lv_has ls 13 [(0, .ref (a 0)), (1, .ref (q 0)), (2, .int (nI p1)), (3, .int (nI p2)), (4, .int (sI (SgtC bk p1 p2))), (5, .int (j_L_isSight_29 lb p1 p2)), (6, .int ((nI (p2 / 12)) - (nI (p1 / 12)))), (7, .int ((nI (p2 % 12)) - (nI (p1 % 12)))), (8, .int (j_L_isSight_83 p2 p1)), (9, .int (j_L_isSight_29 lb p1 p2)), (10, .int (nI (apN p1 p2))), (11, .int al), (12, .int (nI (min (p1 / 12) (p2 / 12) + r)))] := hl
            have hP : va_P D vwCl [((a 0), .inr (5, [.ref (a 2), .ref (a 4), .ref (a 18), .ref (a 1)])), ((a 2), .inr (1, [.ref (a 3)])), ((a 3), .inl (cZ, 144, .inl bk)), ((q 0), .inl (cI, 19, .inl lb))] H := hP
            have hr1 : min (p1 / 12) (p2 / 12) + r ≤ max (p1 / 12) (p2 / 12) + 1 := hq_hr1
            have hal : al = orN lb (min (p1 / 12) (p2 / 12)) r := hq_hal
            clear hq_hr1 hq_hal
            refine lv_iload hx hb dL_isSight_182 (lv_at hl 12 rfl) ?_
            refine lv_iload_n hx hb dL_isSight_184 rfl (lv_at hl 2 rfl) ?_
            refine lv_bipush (v := 12) hx hb dL_isSight_185 (by decide) ?_
            refine lv_idiv hx hb dL_isSight_187 (by decide) ?_
            refine tp_eq (y := nI (p1 / 12)) (pk_div (a := p1) (d := 12) (by omega) (by omega) (by omega)) ?_
            refine lv_icmp_le (tgt := 200) hx hb dL_isSight_188 (by decide) (fun c_13 => ?_) (fun c_13 => ?_)
            · have nc_13 : (min (p1 / 12) (p2 / 12) + r) ≤ (p1 / 12) := (nI_leI (a := (min (p1 / 12) (p2 / 12) + r)) (b := (p1 / 12)) (by omega) (by omega)).mp c_13
              refine lv_iload hx hb dL_isSight_200 (lv_at hl 11 rfl) ?_
              refine lv_aload_n hx hb dL_isSight_202 rfl (lv_at hl 1 rfl) ?_
              refine lv_iload hx hb dL_isSight_203 (lv_at hl 12 rfl) ?_
              refine va_iald hx hb hK hP 3 0 rfl rfl (vp_in_nI (n := (min (p1 / 12) (p2 / 12) + r)) (by omega) (by decide)) dL_isSight_205 ?_
              refine tp_eq (y := lb (min (p1 / 12) (p2 / 12) + r)) (by rw [nI_clamp (n := (min (p1 / 12) (p2 / 12) + r)) (by omega)]) ?_
              refine lv_ior hx hb dL_isSight_206 ?_
              refine lv_istore (lv' := [(11, .int (al ||| (lb (min (p1 / 12) (p2 / 12) + r)))), (0, .ref (a 0)), (1, .ref (q 0)), (2, .int (nI p1)), (3, .int (nI p2)), (4, .int (sI (SgtC bk p1 p2))), (5, .int (j_L_isSight_29 lb p1 p2)), (6, .int ((nI (p2 / 12)) - (nI (p1 / 12)))), (7, .int ((nI (p2 % 12)) - (nI (p1 % 12)))), (8, .int (j_L_isSight_83 p2 p1)), (9, .int (j_L_isSight_29 lb p1 p2)), (10, .int (nI (apN p1 p2))), (12, .int (nI (min (p1 / 12) (p2 / 12) + r)))]) hx hb dL_isSight_207 hl (by decide) rfl (fun ls hl => ?_)
              refine lv_iinc (v := nI ((min (p1 / 12) (p2 / 12) + r) + 1)) (lv' := [(12, .int (nI ((min (p1 / 12) (p2 / 12) + r) + 1))), (11, .int (al ||| (lb (min (p1 / 12) (p2 / 12) + r)))), (0, .ref (a 0)), (1, .ref (q 0)), (2, .int (nI p1)), (3, .int (nI p2)), (4, .int (sI (SgtC bk p1 p2))), (5, .int (j_L_isSight_29 lb p1 p2)), (6, .int ((nI (p2 / 12)) - (nI (p1 / 12)))), (7, .int ((nI (p2 % 12)) - (nI (p1 % 12)))), (8, .int (j_L_isSight_83 p2 p1)), (9, .int (j_L_isSight_29 lb p1 p2)), (10, .int (nI (apN p1 p2)))]) hx hb dL_isSight_209 hl (k := 12) rfl (nI_1 (min (p1 / 12) (p2 / 12) + r)) (by decide) rfl (fun ls hl => ?_)
              refine lv_goto (tgt := 182) hx hb dL_isSight_212 (by decide) ?_
              refine W.widen (k := 0) (n := 0) (Nat.le_refl _) (Nat.le_refl _) ?_
              exact ih_182 (r + 1, al ||| (lb (min (p1 / 12) (p2 / 12) + r))) _ _ _ (by first | omega | (dsimp only; omega)) ⟨hP, hS, lv_sub hl [2, 3, 4, 5, 6, 7, 8, 9, 10, 11, 12, 1, 0] rfl, (by omega), (by rw [orN, ← hal])⟩
            · have nc_13 : ¬ (min (p1 / 12) (p2 / 12) + r) ≤ (p1 / 12) := fun q => c_13 ((nI_leI (a := (min (p1 / 12) (p2 / 12) + r)) (b := (p1 / 12)) (by omega) (by omega)).mpr q)
              refine lv_iload hx hb dL_isSight_191 (lv_at hl 12 rfl) ?_
              refine lv_iload_n hx hb dL_isSight_193 rfl (lv_at hl 3 rfl) ?_
              refine lv_bipush (v := 12) hx hb dL_isSight_194 (by decide) ?_
              refine lv_idiv hx hb dL_isSight_196 (by decide) ?_
              refine tp_eq (y := nI (p2 / 12)) (pk_div (a := p2) (d := 12) (by omega) (by omega) (by omega)) ?_
              refine lv_icmp_gt (tgt := 215) hx hb dL_isSight_197 (by decide) (fun c_14 => ?_) (fun c_14 => ?_)
              · have nc_14 : (p2 / 12) < (min (p1 / 12) (p2 / 12) + r) := (nI_ltI (a := (p2 / 12)) (b := (min (p1 / 12) (p2 / 12) + r)) (by omega) (by omega)).mp c_14
                have he_197 : r = max (p1 / 12) (p2 / 12) + 1 - min (p1 / 12) (p2 / 12) := by omega
                rw [hal, he_197] at hl
                have hl : lv_has ls 13 [(0, .ref (a 0)), (1, .ref (q 0)), (2, .int (nI p1)), (3, .int (nI p2)), (4, .int (sI (SgtC bk p1 p2))), (5, .int (j_L_isSight_29 lb p1 p2)), (6, .int ((nI (p2 / 12)) - (nI (p1 / 12)))), (7, .int ((nI (p2 % 12)) - (nI (p1 % 12)))), (8, .int (j_L_isSight_83 p2 p1)), (9, .int (j_L_isSight_29 lb p1 p2)), (10, .int (nI (apN p1 p2))), (11, .int (orN lb (min (p1 / 12) (p2 / 12)) (max (p1 / 12) (p2 / 12) + 1 - min (p1 / 12) (p2 / 12)))), (12, .int (nI (min (p1 / 12) (p2 / 12) + (max (p1 / 12) (p2 / 12) + 1 - min (p1 / 12) (p2 / 12)))))] := hl
                refine lv_iload hx hb dL_isSight_215 (lv_at hl 4 rfl) ?_
                refine lv_aload_n hx hb dL_isSight_217 rfl (lv_at hl 0 rfl) ?_
                refine lv_iload_n hx hb dL_isSight_218 rfl (lv_at hl 3 rfl) ?_
                refine lv_iload_n hx hb dL_isSight_219 rfl (lv_at hl 2 rfl) ?_
                have hPc := hP.sub (ws' := [((a 0), .inr (5, [.ref (a 2), .ref (a 4), .ref (a 18), .ref (a 1)])), ((a 2), .inr (1, [.ref (a 3)])), ((a 3), .inl (cZ, 144, .inl bk))]) [0, 1, 2] rfl
                refine va_calli (va_runV (As := [.int (nI p2), .int (nI p1)]) (rest := [.int (sI (SgtC bk p1 p2))]) ⟨hx, hb, hml, hown, hts⟩ (c_V_sees l D cI cZ cJ cA H.size a bk p2 p1 (by first | assumption | omega) (by first | assumption | omega)) (cwV 2 hts gL_isSight_X5_sees rfl rfl rfl (by decide +kernel) ⟨Nat.le_of_ble_eq_true rfl, Nat.le_of_ble_eq_true rfl⟩) ⟨pcR_bl, va_recv hK hPc (ci := 5) (q0 := 0) rfl rfl, fun U hU hW => ⟨rfl, by rw [hU], by rw [hU]; exact hPc, va_K.moved hW.alike hK⟩⟩ rfl rfl hl.1 rfl (lv_room (Nat.le_of_ble_eq_true rfl)) dL_isSight_220 ⟨Nat.le_of_ble_eq_true rfl, Nat.le_of_ble_eq_true rfl⟩) hS (fun _ h1 h2 => absurd h1 (Nat.not_lt.mpr h2)) (rd_free hS hA) (fun r_15 u t H locs ht hvm hw hB hz1 hk1 hS => ?_)
                try dsimp only at hw
                have hr_15 := hw
                have hP := rd_P hP hk1
                obtain rfl := hr_15.symm
                refine W.widen (k := 0) (n := 0) (Nat.le_refl _) (Nat.le_refl _) ?_
                refine lv_icmp_ne (tgt := 265) hx hb dL_isSight_223 (by decide) (fun c_16 => ?_) (fun c_16 => ?_)
                · refine lv_iconst (v := 0) hx hb dL_isSight_265 (by decide) ?_
                  -- leaf 0
                  refine W.widen (k := 0) (n := 0) (Nat.le_of_ble_eq_true rfl) (Nat.le_of_ble_eq_true rfl) ?_
                  exact W.zret (v := 0) (ty := .boolean) hx hb hr rfl (fun t ht hW => ⟨⟨0, (), rfl, (by rw [f_L_isSight, if_pos sp_99, if_neg c_16]), trivial⟩, hS.F ht⟩) hS.2.2 dL_isSight_266
                · refine lv_iload hx hb dL_isSight_226 (lv_at hl 8 rfl) ?_
                  refine lv_if_eq (tgt := 241) hx hb dL_isSight_228 (by decide) (fun _ => ?_) (fun c_17 => absurd sp_99 c_17)
                  refine lv_iload hx hb dL_isSight_241 (lv_at hl 4 rfl) ?_
                  refine lv_if_eq (tgt := 251) hx hb dL_isSight_243 (by decide) (fun c_18 => ?_) (fun c_18 => ?_)
                  · refine lv_iload hx hb dL_isSight_251 (lv_at hl 11 rfl) ?_
                    refine lv_if_gt (tgt := 261) hx hb dL_isSight_253 (by decide) (fun c_19 => ?_) (fun c_19 => ?_)
                    · refine lv_iconst (v := 1) hx hb dL_isSight_261 (by decide) ?_
                      refine lv_goto (tgt := 266) hx hb dL_isSight_262 (by decide) ?_
                      -- leaf 1
                      refine W.widen (k := 0) (n := 0) (Nat.le_of_ble_eq_true rfl) (Nat.le_of_ble_eq_true rfl) ?_
                      exact W.zret (v := 1) (ty := .boolean) hx hb hr rfl (fun t ht hW => ⟨⟨1, (), rfl, (by rw [f_L_isSight, if_pos sp_99, if_pos c_16, if_pos c_18, if_pos c_19]), trivial⟩, hS.F ht⟩) hS.2.2 dL_isSight_266
                    · refine lv_iload hx hb dL_isSight_256 (lv_at hl 4 rfl) ?_
                      refine lv_if_eq (tgt := 265) hx hb dL_isSight_258 (by decide) (fun _ => ?_) (fun c_20 => absurd c_18 c_20)
                      refine lv_iconst (v := 0) hx hb dL_isSight_265 (by decide) ?_
                      -- leaf 2
                      refine W.widen (k := 0) (n := 0) (Nat.le_of_ble_eq_true rfl) (Nat.le_of_ble_eq_true rfl) ?_
                      exact W.zret (v := 0) (ty := .boolean) hx hb hr rfl (fun t ht hW => ⟨⟨0, (), rfl, (by rw [f_L_isSight, if_pos sp_99, if_pos c_16, if_pos c_18, if_neg c_19]), trivial⟩, hS.F ht⟩) hS.2.2 dL_isSight_266
                  · refine lv_iload hx hb dL_isSight_246 (lv_at hl 5 rfl) ?_
                    refine lv_if_eq (tgt := 265) hx hb dL_isSight_248 (by decide) (fun c_21 => ?_) (fun c_21 => ?_)
                    · refine lv_iconst (v := 0) hx hb dL_isSight_265 (by decide) ?_
                      -- leaf 3
                      refine W.widen (k := 0) (n := 0) (Nat.le_of_ble_eq_true rfl) (Nat.le_of_ble_eq_true rfl) ?_
                      exact W.zret (v := 0) (ty := .boolean) hx hb hr rfl (fun t ht hW => ⟨⟨0, (), rfl, (by rw [f_L_isSight, if_pos sp_99, if_pos c_16, if_neg c_18, if_pos c_21]), trivial⟩, hS.F ht⟩) hS.2.2 dL_isSight_266
                    · obtain ⟨tc_21_0, tc_21_1⟩ := tj_L_isSight_29 c_21
                      refine lv_iload hx hb dL_isSight_251 (lv_at hl 11 rfl) ?_
                      refine lv_if_gt (tgt := 261) hx hb dL_isSight_253 (by decide) (fun c_22 => ?_) (fun c_22 => ?_)
                      · refine lv_iconst (v := 1) hx hb dL_isSight_261 (by decide) ?_
                        refine lv_goto (tgt := 266) hx hb dL_isSight_262 (by decide) ?_
                        -- leaf 4
                        refine W.widen (k := 0) (n := 0) (Nat.le_of_ble_eq_true rfl) (Nat.le_of_ble_eq_true rfl) ?_
                        exact W.zret (v := 1) (ty := .boolean) hx hb hr rfl (fun t ht hW => ⟨⟨1, (), rfl, (by rw [f_L_isSight, if_pos sp_99, if_pos c_16, if_neg c_18, if_neg c_21]), trivial⟩, hS.F ht⟩) hS.2.2 dL_isSight_266
                      · refine lv_iload hx hb dL_isSight_256 (lv_at hl 4 rfl) ?_
                        refine lv_if_eq (tgt := 265) hx hb dL_isSight_258 (by decide) (fun c_23 => absurd c_23 c_18) (fun _ => ?_)
                        refine lv_iconst (v := 1) hx hb dL_isSight_261 (by decide) ?_
                        refine lv_goto (tgt := 266) hx hb dL_isSight_262 (by decide) ?_
                        -- leaf 5
                        refine W.widen (k := 0) (n := 0) (Nat.le_of_ble_eq_true rfl) (Nat.le_of_ble_eq_true rfl) ?_
                        exact W.zret (v := 1) (ty := .boolean) hx hb hr rfl (fun t ht hW => ⟨⟨1, (), rfl, (by rw [f_L_isSight, if_pos sp_99, if_pos c_16, if_neg c_18, if_neg c_21]), trivial⟩, hS.F ht⟩) hS.2.2 dL_isSight_266
              · have nc_14 : ¬ (p2 / 12) < (min (p1 / 12) (p2 / 12) + r) := fun q => c_14 ((nI_ltI (a := (p2 / 12)) (b := (min (p1 / 12) (p2 / 12) + r)) (by omega) (by omega)).mpr q)
                refine lv_iload hx hb dL_isSight_200 (lv_at hl 11 rfl) ?_
                refine lv_aload_n hx hb dL_isSight_202 rfl (lv_at hl 1 rfl) ?_
                refine lv_iload hx hb dL_isSight_203 (lv_at hl 12 rfl) ?_
                refine va_iald hx hb hK hP 3 0 rfl rfl (vp_in_nI (n := (min (p1 / 12) (p2 / 12) + r)) (by omega) (by decide)) dL_isSight_205 ?_
                refine tp_eq (y := lb (min (p1 / 12) (p2 / 12) + r)) (by rw [nI_clamp (n := (min (p1 / 12) (p2 / 12) + r)) (by omega)]) ?_
                refine lv_ior hx hb dL_isSight_206 ?_
                refine lv_istore (lv' := [(11, .int (al ||| (lb (min (p1 / 12) (p2 / 12) + r)))), (0, .ref (a 0)), (1, .ref (q 0)), (2, .int (nI p1)), (3, .int (nI p2)), (4, .int (sI (SgtC bk p1 p2))), (5, .int (j_L_isSight_29 lb p1 p2)), (6, .int ((nI (p2 / 12)) - (nI (p1 / 12)))), (7, .int ((nI (p2 % 12)) - (nI (p1 % 12)))), (8, .int (j_L_isSight_83 p2 p1)), (9, .int (j_L_isSight_29 lb p1 p2)), (10, .int (nI (apN p1 p2))), (12, .int (nI (min (p1 / 12) (p2 / 12) + r)))]) hx hb dL_isSight_207 hl (by decide) rfl (fun ls hl => ?_)
                refine lv_iinc (v := nI ((min (p1 / 12) (p2 / 12) + r) + 1)) (lv' := [(12, .int (nI ((min (p1 / 12) (p2 / 12) + r) + 1))), (11, .int (al ||| (lb (min (p1 / 12) (p2 / 12) + r)))), (0, .ref (a 0)), (1, .ref (q 0)), (2, .int (nI p1)), (3, .int (nI p2)), (4, .int (sI (SgtC bk p1 p2))), (5, .int (j_L_isSight_29 lb p1 p2)), (6, .int ((nI (p2 / 12)) - (nI (p1 / 12)))), (7, .int ((nI (p2 % 12)) - (nI (p1 % 12)))), (8, .int (j_L_isSight_83 p2 p1)), (9, .int (j_L_isSight_29 lb p1 p2)), (10, .int (nI (apN p1 p2)))]) hx hb dL_isSight_209 hl (k := 12) rfl (nI_1 (min (p1 / 12) (p2 / 12) + r)) (by decide) rfl (fun ls hl => ?_)
                refine lv_goto (tgt := 182) hx hb dL_isSight_212 (by decide) ?_
                refine W.widen (k := 0) (n := 0) (Nat.le_refl _) (Nat.le_refl _) ?_
                exact ih_182 (r + 1, al ||| (lb (min (p1 / 12) (p2 / 12) + r))) _ _ _ (by first | omega | (dsimp only; omega)) ⟨hP, hS, lv_sub hl [2, 3, 4, 5, 6, 7, 8, 9, 10, 11, 12, 1, 0] rfl, (by omega), (by rw [orN, ← hal])⟩
        · have nc_11 : ¬ (apN p1 p2) ≤ 1 := fun q => c_11 ((nI_leI (a := (apN p1 p2)) (b := 1) (by omega) (by omega)).mpr q)
          refine lv_iload hx hb dL_isSight_106 (lv_at hl 3 rfl) ?_
          refine lv_if_eq (tgt := 155) hx hb dL_isSight_108 (by decide) (fun _ => ?_) (fun c_24 => absurd sp_99 c_24)
          refine lv_iconst (v := 0) hx hb dL_isSight_155 (by decide) ?_
          refine lv_istore (lv' := [(11, .int 0), (10, .int (nI (apN p1 p2))), (9, .int (j_L_isSight_29 lb p1 p2)), (8, .int (j_L_isSight_83 p2 p1)), (7, .int ((nI (p2 % 12)) - (nI (p1 % 12)))), (6, .int ((nI (p2 / 12)) - (nI (p1 / 12)))), (5, .int (j_L_isSight_29 lb p1 p2)), (4, .int (sI (SgtC bk p1 p2))), (0, .ref (a 0)), (1, .ref (q 0)), (2, .int (nI p1)), (3, .int (nI p2))]) hx hb dL_isSight_156 hl (by decide) rfl (fun ls hl => ?_)
          refine jn_w (cells2 := 0) (slots2 := 0) (fun H locs ls => va_P D vwCl [((a 0), .inr (5, [.ref (a 2), .ref (a 4), .ref (a 18), .ref (a 1)])), ((a 2), .inr (1, [.ref (a 3)])), ((a 3), .inl (cZ, 144, .inl bk)), ((q 0), .inl (cI, 19, .inl lb))] H ∧ va_S (fun q : Nat => s.heap.size ≤ q) s.heap H locs ∧ lv_has ls 13 [(11, .int 0), (10, .int (nI (apN p1 p2))), (9, .int (j_L_isSight_29 lb p1 p2)), (8, .int (j_L_isSight_83 p2 p1)), (7, .int ((nI (p2 % 12)) - (nI (p1 % 12)))), (6, .int ((nI (p2 / 12)) - (nI (p1 / 12)))), (5, .int (j_L_isSight_29 lb p1 p2)), (4, .int (sI (SgtC bk p1 p2))), (0, .ref (a 0)), (1, .ref (q 0)), (2, .int (nI p1)), (3, .int (nI p2))]) (pc2 := 180) (st2 := []) (j_L_isSight_180 p2 p1) (fun jn_158 => ?_) ?_
          · refine lv_iload_n hx hb dL_isSight_158 rfl (lv_at hl 10 rfl) ?_
            refine lv_bipush (v := 12) hx hb dL_isSight_159 (by decide) ?_
            refine lv_idiv hx hb dL_isSight_161 (by decide) ?_
            refine tp_eq (y := nI (p1 / 12)) (pk_div (a := p1) (d := 12) (by omega) (by omega) (by omega)) ?_
            refine lv_iload_n hx hb dL_isSight_162 rfl (lv_at hl 11 rfl) ?_
            refine lv_bipush (v := 12) hx hb dL_isSight_163 (by decide) ?_
            refine lv_idiv hx hb dL_isSight_165 (by decide) ?_
            refine tp_eq (y := nI (p2 / 12)) (pk_div (a := p2) (d := 12) (by omega) (by omega) (by omega)) ?_
            refine lv_icmp_ge (tgt := 176) hx hb dL_isSight_166 (by decide) (fun c_25 => ?_) (fun c_25 => ?_)
            · have nc_25 : (p2 / 12) ≤ (p1 / 12) := (nI_leI (a := (p2 / 12)) (b := (p1 / 12)) (by omega) (by omega)).mp c_25
              refine lv_iload_n hx hb dL_isSight_176 rfl (lv_at hl 11 rfl) ?_
              refine lv_bipush (v := 12) hx hb dL_isSight_177 (by decide) ?_
              refine lv_idiv hx hb dL_isSight_179 (by decide) ?_
              refine tp_eq (y := nI (p2 / 12)) (pk_div (a := p2) (d := 12) (by omega) (by omega) (by omega)) ?_
              refine W.widen (k := 0) (n := 0) (Nat.le_of_ble_eq_true rfl) (Nat.le_of_ble_eq_true rfl) ?_
              refine tp_eq (y := j_L_isSight_180 p2 p1) (by rw [j_L_isSight_180, if_pos c_25]) ?_
              exact jn_158 _ _ _ ⟨hP, hS, lv_sub hl [0, 1, 2, 3, 4, 5, 6, 7, 8, 9, 10, 11] rfl⟩
            · have nc_25 : ¬ (p2 / 12) ≤ (p1 / 12) := fun q => c_25 ((nI_leI (a := (p2 / 12)) (b := (p1 / 12)) (by omega) (by omega)).mpr q)
              refine lv_iload_n hx hb dL_isSight_169 rfl (lv_at hl 10 rfl) ?_
              refine lv_bipush (v := 12) hx hb dL_isSight_170 (by decide) ?_
              refine lv_idiv hx hb dL_isSight_172 (by decide) ?_
              refine tp_eq (y := nI (p1 / 12)) (pk_div (a := p1) (d := 12) (by omega) (by omega) (by omega)) ?_
              refine lv_goto (tgt := 180) hx hb dL_isSight_173 (by decide) ?_
              refine W.widen (k := 0) (n := 0) (Nat.le_of_ble_eq_true rfl) (Nat.le_of_ble_eq_true rfl) ?_
              refine tp_eq (y := j_L_isSight_180 p2 p1) (by rw [j_L_isSight_180, if_neg c_25]) ?_
              exact jn_158 _ _ _ ⟨hP, hS, lv_sub hl [0, 1, 2, 3, 4, 5, 6, 7, 8, 9, 10, 11] rfl⟩
          · intro H locs ls hI
            obtain ⟨hP, hS, hl⟩ := hI
            have hl : lv_has ls 13 [(11, .int 0), (10, .int (nI (apN p1 p2))), (9, .int (j_L_isSight_29 lb p1 p2)), (8, .int (j_L_isSight_83 p2 p1)), (7, .int ((nI (p2 % 12)) - (nI (p1 % 12)))), (6, .int ((nI (p2 / 12)) - (nI (p1 / 12)))), (5, .int (j_L_isSight_29 lb p1 p2)), (4, .int (sI (SgtC bk p1 p2))), (0, .ref (a 0)), (1, .ref (q 0)), (2, .int (nI p1)), (3, .int (nI p2))] := hl
            have hP : va_P D vwCl [((a 0), .inr (5, [.ref (a 2), .ref (a 4), .ref (a 18), .ref (a 1)])), ((a 2), .inr (1, [.ref (a 3)])), ((a 3), .inl (cZ, 144, .inl bk)), ((q 0), .inl (cI, 19, .inl lb))] H := hP
            refine tp_eq (y := nI (min (p1 / 12) (p2 / 12) + 0)) (mn180 h1 h2) ?_
            refine lv_istore (lv' := [(12, .int (nI (min (p1 / 12) (p2 / 12) + 0))), (11, .int 0), (10, .int (nI (apN p1 p2))), (9, .int (j_L_isSight_29 lb p1 p2)), (8, .int (j_L_isSight_83 p2 p1)), (7, .int ((nI (p2 % 12)) - (nI (p1 % 12)))), (6, .int ((nI (p2 / 12)) - (nI (p1 / 12)))), (5, .int (j_L_isSight_29 lb p1 p2)), (4, .int (sI (SgtC bk p1 p2))), (0, .ref (a 0)), (1, .ref (q 0)), (2, .int (nI p1)), (3, .int (nI p2))]) hx hb dL_isSight_180 hl (by decide) rfl (fun ls hl => ?_)
            refine lpW (σ := (Nat) × (Int32)) (I := fun x H locs ls => va_P D vwCl [((a 0), .inr (5, [.ref (a 2), .ref (a 4), .ref (a 18), .ref (a 1)])), ((a 2), .inr (1, [.ref (a 3)])), ((a 3), .inl (cZ, 144, .inl bk)), ((q 0), .inl (cI, 19, .inl lb))] H ∧ va_S (fun q : Nat => s.heap.size ≤ q) s.heap H locs ∧ lv_has ls 13 [(0, .ref (a 0)), (1, .ref (q 0)), (2, .int (nI p1)), (3, .int (nI p2)), (4, .int (sI (SgtC bk p1 p2))), (5, .int (j_L_isSight_29 lb p1 p2)), (6, .int ((nI (p2 / 12)) - (nI (p1 / 12)))), (7, .int ((nI (p2 % 12)) - (nI (p1 % 12)))), (8, .int (j_L_isSight_83 p2 p1)), (9, .int (j_L_isSight_29 lb p1 p2)), (10, .int (nI (apN p1 p2))), (11, .int x.2), (12, .int (nI (min (p1 / 12) (p2 / 12) + x.1)))] ∧ (min (p1 / 12) (p2 / 12) + x.1 ≤ max (p1 / 12) (p2 / 12) + 1) ∧ (x.2 = orN lb (min (p1 / 12) (p2 / 12)) x.1)) (μ := fun x => 13 - x.1) ?_ (0, 0) ⟨hP, hS, lv_sub hl [9, 10, 11, 12, 8, 7, 6, 5, 4, 3, 2, 1, 0] rfl, (by omega), (by rw [orN])⟩
            intro x H locs ls hI ih
            obtain ⟨r, al⟩ := x
            obtain ⟨hP, hS, hl, hq_hr1, hq_hal⟩ := hI
            have ih_182 := ih
            have hl : lv_has ls 13 [(0, .ref (a 0)), (1, .ref (q 0)), (2, .int (nI p1)), (3, .int (nI p2)), (4, .int (sI (SgtC bk p1 p2))), (5, .int (j_L_isSight_29 lb p1 p2)), (6, .int ((nI (p2 / 12)) - (nI (p1 / 12)))), (7, .int ((nI (p2 % 12)) - (nI (p1 % 12)))), (8, .int (j_L_isSight_83 p2 p1)), (9, .int (j_L_isSight_29 lb p1 p2)), (10, .int (nI (apN p1 p2))), (11, .int al), (12, .int (nI (min (p1 / 12) (p2 / 12) + r)))] := hl
            have hP : va_P D vwCl [((a 0), .inr (5, [.ref (a 2), .ref (a 4), .ref (a 18), .ref (a 1)])), ((a 2), .inr (1, [.ref (a 3)])), ((a 3), .inl (cZ, 144, .inl bk)), ((q 0), .inl (cI, 19, .inl lb))] H := hP
            have hr1 : min (p1 / 12) (p2 / 12) + r ≤ max (p1 / 12) (p2 / 12) + 1 := hq_hr1
            have hal : al = orN lb (min (p1 / 12) (p2 / 12)) r := hq_hal
            clear hq_hr1 hq_hal
            refine lv_iload hx hb dL_isSight_182 (lv_at hl 12 rfl) ?_
            refine lv_iload_n hx hb dL_isSight_184 rfl (lv_at hl 2 rfl) ?_
            refine lv_bipush (v := 12) hx hb dL_isSight_185 (by decide) ?_
            refine lv_idiv hx hb dL_isSight_187 (by decide) ?_
            refine tp_eq (y := nI (p1 / 12)) (pk_div (a := p1) (d := 12) (by omega) (by omega) (by omega)) ?_
            refine lv_icmp_le (tgt := 200) hx hb dL_isSight_188 (by decide) (fun c_26 => ?_) (fun c_26 => ?_)
            · have nc_26 : (min (p1 / 12) (p2 / 12) + r) ≤ (p1 / 12) := (nI_leI (a := (min (p1 / 12) (p2 / 12) + r)) (b := (p1 / 12)) (by omega) (by omega)).mp c_26
              refine lv_iload hx hb dL_isSight_200 (lv_at hl 11 rfl) ?_
              refine lv_aload_n hx hb dL_isSight_202 rfl (lv_at hl 1 rfl) ?_
              refine lv_iload hx hb dL_isSight_203 (lv_at hl 12 rfl) ?_
              refine va_iald hx hb hK hP 3 0 rfl rfl (vp_in_nI (n := (min (p1 / 12) (p2 / 12) + r)) (by omega) (by decide)) dL_isSight_205 ?_
              refine tp_eq (y := lb (min (p1 / 12) (p2 / 12) + r)) (by rw [nI_clamp (n := (min (p1 / 12) (p2 / 12) + r)) (by omega)]) ?_
              refine lv_ior hx hb dL_isSight_206 ?_
              refine lv_istore (lv' := [(11, .int (al ||| (lb (min (p1 / 12) (p2 / 12) + r)))), (0, .ref (a 0)), (1, .ref (q 0)), (2, .int (nI p1)), (3, .int (nI p2)), (4, .int (sI (SgtC bk p1 p2))), (5, .int (j_L_isSight_29 lb p1 p2)), (6, .int ((nI (p2 / 12)) - (nI (p1 / 12)))), (7, .int ((nI (p2 % 12)) - (nI (p1 % 12)))), (8, .int (j_L_isSight_83 p2 p1)), (9, .int (j_L_isSight_29 lb p1 p2)), (10, .int (nI (apN p1 p2))), (12, .int (nI (min (p1 / 12) (p2 / 12) + r)))]) hx hb dL_isSight_207 hl (by decide) rfl (fun ls hl => ?_)
              refine lv_iinc (v := nI ((min (p1 / 12) (p2 / 12) + r) + 1)) (lv' := [(12, .int (nI ((min (p1 / 12) (p2 / 12) + r) + 1))), (11, .int (al ||| (lb (min (p1 / 12) (p2 / 12) + r)))), (0, .ref (a 0)), (1, .ref (q 0)), (2, .int (nI p1)), (3, .int (nI p2)), (4, .int (sI (SgtC bk p1 p2))), (5, .int (j_L_isSight_29 lb p1 p2)), (6, .int ((nI (p2 / 12)) - (nI (p1 / 12)))), (7, .int ((nI (p2 % 12)) - (nI (p1 % 12)))), (8, .int (j_L_isSight_83 p2 p1)), (9, .int (j_L_isSight_29 lb p1 p2)), (10, .int (nI (apN p1 p2)))]) hx hb dL_isSight_209 hl (k := 12) rfl (nI_1 (min (p1 / 12) (p2 / 12) + r)) (by decide) rfl (fun ls hl => ?_)
              refine lv_goto (tgt := 182) hx hb dL_isSight_212 (by decide) ?_
              refine W.widen (k := 0) (n := 0) (Nat.le_refl _) (Nat.le_refl _) ?_
              exact ih_182 (r + 1, al ||| (lb (min (p1 / 12) (p2 / 12) + r))) _ _ _ (by first | omega | (dsimp only; omega)) ⟨hP, hS, lv_sub hl [2, 3, 4, 5, 6, 7, 8, 9, 10, 11, 12, 1, 0] rfl, (by omega), (by rw [orN, ← hal])⟩
            · have nc_26 : ¬ (min (p1 / 12) (p2 / 12) + r) ≤ (p1 / 12) := fun q => c_26 ((nI_leI (a := (min (p1 / 12) (p2 / 12) + r)) (b := (p1 / 12)) (by omega) (by omega)).mpr q)
              refine lv_iload hx hb dL_isSight_191 (lv_at hl 12 rfl) ?_
              refine lv_iload_n hx hb dL_isSight_193 rfl (lv_at hl 3 rfl) ?_
              refine lv_bipush (v := 12) hx hb dL_isSight_194 (by decide) ?_
              refine lv_idiv hx hb dL_isSight_196 (by decide) ?_
              refine tp_eq (y := nI (p2 / 12)) (pk_div (a := p2) (d := 12) (by omega) (by omega) (by omega)) ?_
              refine lv_icmp_gt (tgt := 215) hx hb dL_isSight_197 (by decide) (fun c_27 => ?_) (fun c_27 => ?_)
              · have nc_27 : (p2 / 12) < (min (p1 / 12) (p2 / 12) + r) := (nI_ltI (a := (p2 / 12)) (b := (min (p1 / 12) (p2 / 12) + r)) (by omega) (by omega)).mp c_27
                have he_197 : r = max (p1 / 12) (p2 / 12) + 1 - min (p1 / 12) (p2 / 12) := by omega
                rw [hal, he_197] at hl
                have hl : lv_has ls 13 [(0, .ref (a 0)), (1, .ref (q 0)), (2, .int (nI p1)), (3, .int (nI p2)), (4, .int (sI (SgtC bk p1 p2))), (5, .int (j_L_isSight_29 lb p1 p2)), (6, .int ((nI (p2 / 12)) - (nI (p1 / 12)))), (7, .int ((nI (p2 % 12)) - (nI (p1 % 12)))), (8, .int (j_L_isSight_83 p2 p1)), (9, .int (j_L_isSight_29 lb p1 p2)), (10, .int (nI (apN p1 p2))), (11, .int (orN lb (min (p1 / 12) (p2 / 12)) (max (p1 / 12) (p2 / 12) + 1 - min (p1 / 12) (p2 / 12)))), (12, .int (nI (min (p1 / 12) (p2 / 12) + (max (p1 / 12) (p2 / 12) + 1 - min (p1 / 12) (p2 / 12)))))] := hl
                refine lv_iload hx hb dL_isSight_215 (lv_at hl 4 rfl) ?_
                refine lv_aload_n hx hb dL_isSight_217 rfl (lv_at hl 0 rfl) ?_
                refine lv_iload_n hx hb dL_isSight_218 rfl (lv_at hl 3 rfl) ?_
                refine lv_iload_n hx hb dL_isSight_219 rfl (lv_at hl 2 rfl) ?_
                have hPc := hP.sub (ws' := [((a 0), .inr (5, [.ref (a 2), .ref (a 4), .ref (a 18), .ref (a 1)])), ((a 2), .inr (1, [.ref (a 3)])), ((a 3), .inl (cZ, 144, .inl bk))]) [0, 1, 2] rfl
                refine va_calli (va_runV (As := [.int (nI p2), .int (nI p1)]) (rest := [.int (sI (SgtC bk p1 p2))]) ⟨hx, hb, hml, hown, hts⟩ (c_V_sees l D cI cZ cJ cA H.size a bk p2 p1 (by first | assumption | omega) (by first | assumption | omega)) (cwV 2 hts gL_isSight_X5_sees rfl rfl rfl (by decide +kernel) ⟨Nat.le_of_ble_eq_true rfl, Nat.le_of_ble_eq_true rfl⟩) ⟨pcR_bl, va_recv hK hPc (ci := 5) (q0 := 0) rfl rfl, fun U hU hW => ⟨rfl, by rw [hU], by rw [hU]; exact hPc, va_K.moved hW.alike hK⟩⟩ rfl rfl hl.1 rfl (lv_room (Nat.le_of_ble_eq_true rfl)) dL_isSight_220 ⟨Nat.le_of_ble_eq_true rfl, Nat.le_of_ble_eq_true rfl⟩) hS (fun _ h1 h2 => absurd h1 (Nat.not_lt.mpr h2)) (rd_free hS hA) (fun r_28 u t H locs ht hvm hw hB hz1 hk1 hS => ?_)
                try dsimp only at hw
                have hr_28 := hw
                have hP := rd_P hP hk1
                obtain rfl := hr_28.symm
                refine W.widen (k := 0) (n := 0) (Nat.le_refl _) (Nat.le_refl _) ?_
                refine lv_icmp_ne (tgt := 265) hx hb dL_isSight_223 (by decide) (fun c_29 => ?_) (fun c_29 => ?_)
                · refine lv_iconst (v := 0) hx hb dL_isSight_265 (by decide) ?_
                  -- leaf 6
                  refine W.widen (k := 0) (n := 0) (Nat.le_of_ble_eq_true rfl) (Nat.le_of_ble_eq_true rfl) ?_
                  exact W.zret (v := 0) (ty := .boolean) hx hb hr rfl (fun t ht hW => ⟨⟨0, (), rfl, (by rw [f_L_isSight, if_pos sp_99, if_neg c_29]), trivial⟩, hS.F ht⟩) hS.2.2 dL_isSight_266
                · refine lv_iload hx hb dL_isSight_226 (lv_at hl 8 rfl) ?_
                  refine lv_if_eq (tgt := 241) hx hb dL_isSight_228 (by decide) (fun _ => ?_) (fun c_30 => absurd sp_99 c_30)
                  refine lv_iload hx hb dL_isSight_241 (lv_at hl 4 rfl) ?_
                  refine lv_if_eq (tgt := 251) hx hb dL_isSight_243 (by decide) (fun c_31 => ?_) (fun c_31 => ?_)
                  · refine lv_iload hx hb dL_isSight_251 (lv_at hl 11 rfl) ?_
                    refine lv_if_gt (tgt := 261) hx hb dL_isSight_253 (by decide) (fun c_32 => ?_) (fun c_32 => ?_)
                    · refine lv_iconst (v := 1) hx hb dL_isSight_261 (by decide) ?_
                      refine lv_goto (tgt := 266) hx hb dL_isSight_262 (by decide) ?_
                      -- leaf 7
                      refine W.widen (k := 0) (n := 0) (Nat.le_of_ble_eq_true rfl) (Nat.le_of_ble_eq_true rfl) ?_
                      exact W.zret (v := 1) (ty := .boolean) hx hb hr rfl (fun t ht hW => ⟨⟨1, (), rfl, (by rw [f_L_isSight, if_pos sp_99, if_pos c_29, if_pos c_31, if_pos c_32]), trivial⟩, hS.F ht⟩) hS.2.2 dL_isSight_266
                    · refine lv_iload hx hb dL_isSight_256 (lv_at hl 4 rfl) ?_
                      refine lv_if_eq (tgt := 265) hx hb dL_isSight_258 (by decide) (fun _ => ?_) (fun c_33 => absurd c_31 c_33)
                      refine lv_iconst (v := 0) hx hb dL_isSight_265 (by decide) ?_
                      -- leaf 8
                      refine W.widen (k := 0) (n := 0) (Nat.le_of_ble_eq_true rfl) (Nat.le_of_ble_eq_true rfl) ?_
                      exact W.zret (v := 0) (ty := .boolean) hx hb hr rfl (fun t ht hW => ⟨⟨0, (), rfl, (by rw [f_L_isSight, if_pos sp_99, if_pos c_29, if_pos c_31, if_neg c_32]), trivial⟩, hS.F ht⟩) hS.2.2 dL_isSight_266
                  · refine lv_iload hx hb dL_isSight_246 (lv_at hl 5 rfl) ?_
                    refine lv_if_eq (tgt := 265) hx hb dL_isSight_248 (by decide) (fun c_34 => ?_) (fun c_34 => ?_)
                    · refine lv_iconst (v := 0) hx hb dL_isSight_265 (by decide) ?_
                      -- leaf 9
                      refine W.widen (k := 0) (n := 0) (Nat.le_of_ble_eq_true rfl) (Nat.le_of_ble_eq_true rfl) ?_
                      exact W.zret (v := 0) (ty := .boolean) hx hb hr rfl (fun t ht hW => ⟨⟨0, (), rfl, (by rw [f_L_isSight, if_pos sp_99, if_pos c_29, if_neg c_31, if_pos c_34]), trivial⟩, hS.F ht⟩) hS.2.2 dL_isSight_266
                    · obtain ⟨tc_34_0, tc_34_1⟩ := tj_L_isSight_29 c_34
                      refine lv_iload hx hb dL_isSight_251 (lv_at hl 11 rfl) ?_
                      refine lv_if_gt (tgt := 261) hx hb dL_isSight_253 (by decide) (fun c_35 => ?_) (fun c_35 => ?_)
                      · refine lv_iconst (v := 1) hx hb dL_isSight_261 (by decide) ?_
                        refine lv_goto (tgt := 266) hx hb dL_isSight_262 (by decide) ?_
                        -- leaf 10
                        refine W.widen (k := 0) (n := 0) (Nat.le_of_ble_eq_true rfl) (Nat.le_of_ble_eq_true rfl) ?_
                        exact W.zret (v := 1) (ty := .boolean) hx hb hr rfl (fun t ht hW => ⟨⟨1, (), rfl, (by rw [f_L_isSight, if_pos sp_99, if_pos c_29, if_neg c_31, if_neg c_34]), trivial⟩, hS.F ht⟩) hS.2.2 dL_isSight_266
                      · refine lv_iload hx hb dL_isSight_256 (lv_at hl 4 rfl) ?_
                        refine lv_if_eq (tgt := 265) hx hb dL_isSight_258 (by decide) (fun c_36 => absurd c_36 c_31) (fun _ => ?_)
                        refine lv_iconst (v := 1) hx hb dL_isSight_261 (by decide) ?_
                        refine lv_goto (tgt := 266) hx hb dL_isSight_262 (by decide) ?_
                        -- leaf 11
                        refine W.widen (k := 0) (n := 0) (Nat.le_of_ble_eq_true rfl) (Nat.le_of_ble_eq_true rfl) ?_
                        exact W.zret (v := 1) (ty := .boolean) hx hb hr rfl (fun t ht hW => ⟨⟨1, (), rfl, (by rw [f_L_isSight, if_pos sp_99, if_pos c_29, if_neg c_31, if_neg c_34]), trivial⟩, hS.F ht⟩) hS.2.2 dL_isSight_266
              · have nc_27 : ¬ (p2 / 12) < (min (p1 / 12) (p2 / 12) + r) := fun q => c_27 ((nI_ltI (a := (p2 / 12)) (b := (min (p1 / 12) (p2 / 12) + r)) (by omega) (by omega)).mpr q)
                refine lv_iload hx hb dL_isSight_200 (lv_at hl 11 rfl) ?_
                refine lv_aload_n hx hb dL_isSight_202 rfl (lv_at hl 1 rfl) ?_
                refine lv_iload hx hb dL_isSight_203 (lv_at hl 12 rfl) ?_
                refine va_iald hx hb hK hP 3 0 rfl rfl (vp_in_nI (n := (min (p1 / 12) (p2 / 12) + r)) (by omega) (by decide)) dL_isSight_205 ?_
                refine tp_eq (y := lb (min (p1 / 12) (p2 / 12) + r)) (by rw [nI_clamp (n := (min (p1 / 12) (p2 / 12) + r)) (by omega)]) ?_
                refine lv_ior hx hb dL_isSight_206 ?_
                refine lv_istore (lv' := [(11, .int (al ||| (lb (min (p1 / 12) (p2 / 12) + r)))), (0, .ref (a 0)), (1, .ref (q 0)), (2, .int (nI p1)), (3, .int (nI p2)), (4, .int (sI (SgtC bk p1 p2))), (5, .int (j_L_isSight_29 lb p1 p2)), (6, .int ((nI (p2 / 12)) - (nI (p1 / 12)))), (7, .int ((nI (p2 % 12)) - (nI (p1 % 12)))), (8, .int (j_L_isSight_83 p2 p1)), (9, .int (j_L_isSight_29 lb p1 p2)), (10, .int (nI (apN p1 p2))), (12, .int (nI (min (p1 / 12) (p2 / 12) + r)))]) hx hb dL_isSight_207 hl (by decide) rfl (fun ls hl => ?_)
                refine lv_iinc (v := nI ((min (p1 / 12) (p2 / 12) + r) + 1)) (lv' := [(12, .int (nI ((min (p1 / 12) (p2 / 12) + r) + 1))), (11, .int (al ||| (lb (min (p1 / 12) (p2 / 12) + r)))), (0, .ref (a 0)), (1, .ref (q 0)), (2, .int (nI p1)), (3, .int (nI p2)), (4, .int (sI (SgtC bk p1 p2))), (5, .int (j_L_isSight_29 lb p1 p2)), (6, .int ((nI (p2 / 12)) - (nI (p1 / 12)))), (7, .int ((nI (p2 % 12)) - (nI (p1 % 12)))), (8, .int (j_L_isSight_83 p2 p1)), (9, .int (j_L_isSight_29 lb p1 p2)), (10, .int (nI (apN p1 p2)))]) hx hb dL_isSight_209 hl (k := 12) rfl (nI_1 (min (p1 / 12) (p2 / 12) + r)) (by decide) rfl (fun ls hl => ?_)
                refine lv_goto (tgt := 182) hx hb dL_isSight_212 (by decide) ?_
                refine W.widen (k := 0) (n := 0) (Nat.le_refl _) (Nat.le_refl _) ?_
                exact ih_182 (r + 1, al ||| (lb (min (p1 / 12) (p2 / 12) + r))) _ _ _ (by first | omega | (dsimp only; omega)) ⟨hP, hS, lv_sub hl [2, 3, 4, 5, 6, 7, 8, 9, 10, 11, 12, 1, 0] rfl, (by omega), (by rw [orN, ← hal])⟩
      · refine lpW (σ := (Nat) × (Int32)) (I := fun x H locs ls => va_P D vwCl [((a 0), .inr (5, [.ref (a 2), .ref (a 4), .ref (a 18), .ref (a 1)])), ((a 2), .inr (1, [.ref (a 3)])), ((a 3), .inl (cZ, 144, .inl bk)), ((q 0), .inl (cI, 19, .inl lb))] H ∧ va_S (fun q : Nat => s.heap.size ≤ q) s.heap H locs ∧ lv_has ls 13 [(0, .ref (a 0)), (1, .ref (q 0)), (2, .int (nI p1)), (3, .int (nI p2)), (4, .int (sI (SgtC bk p1 p2))), (5, .int (j_L_isSight_29 lb p1 p2)), (6, .int ((nI (p2 / 12)) - (nI (p1 / 12)))), (7, .int ((nI (p2 % 12)) - (nI (p1 % 12)))), (8, .int (j_L_isSight_83 p2 p1)), (9, .int x.2), (10, .int (nI (apN p1 p2))), (11, .int (nI (x.1 + 1)))] ∧ (x.1 ≤ apN p1 p2 - 1) ∧ (x.2 = cnN lb p1 p2 x.1)) (μ := fun x => 12 - x.1) ?_ (0, j_L_isSight_29 lb p1 p2) ⟨hP, hS, lv_sub hl [8, 9, 10, 11, 7, 6, 5, 4, 3, 2, 1, 0] rfl, (Nat.zero_le _), (by rw [cnN])⟩
        intro x H locs ls hI ih
        obtain ⟨i, v⟩ := x
        obtain ⟨hP, hS, hl, hq_hi, hq_hv⟩ := hI
        have ih_99 := ih
        have hl : lv_has ls 13 [(0, .ref (a 0)), (1, .ref (q 0)), (2, .int (nI p1)), (3, .int (nI p2)), (4, .int (sI (SgtC bk p1 p2))), (5, .int (j_L_isSight_29 lb p1 p2)), (6, .int ((nI (p2 / 12)) - (nI (p1 / 12)))), (7, .int ((nI (p2 % 12)) - (nI (p1 % 12)))), (8, .int (j_L_isSight_83 p2 p1)), (9, .int v), (10, .int (nI (apN p1 p2))), (11, .int (nI (i + 1)))] := hl
        have hP : va_P D vwCl [((a 0), .inr (5, [.ref (a 2), .ref (a 4), .ref (a 18), .ref (a 1)])), ((a 2), .inr (1, [.ref (a 3)])), ((a 3), .inl (cZ, 144, .inl bk)), ((q 0), .inl (cI, 19, .inl lb))] H := hP
        have hi : i ≤ apN p1 p2 - 1 := hq_hi
        have hv : v = cnN lb p1 p2 i := hq_hv
        clear hq_hi hq_hv
        refine lv_iload hx hb dL_isSight_99 (lv_at hl 11 rfl) ?_
        refine lv_iload hx hb dL_isSight_101 (lv_at hl 10 rfl) ?_
        refine lv_icmp_ge (tgt := 155) hx hb dL_isSight_103 (by decide) (fun c_37 => ?_) (fun c_37 => ?_)
        · have nc_37 : (apN p1 p2) ≤ (i + 1) := (nI_leI (a := (apN p1 p2)) (b := (i + 1)) (by omega) (by omega)).mp c_37
          have he_103 : i = apN p1 p2 - 1 := by omega
          rw [hv, he_103] at hl
          have hl : lv_has ls 13 [(0, .ref (a 0)), (1, .ref (q 0)), (2, .int (nI p1)), (3, .int (nI p2)), (4, .int (sI (SgtC bk p1 p2))), (5, .int (j_L_isSight_29 lb p1 p2)), (6, .int ((nI (p2 / 12)) - (nI (p1 / 12)))), (7, .int ((nI (p2 % 12)) - (nI (p1 % 12)))), (8, .int (j_L_isSight_83 p2 p1)), (9, .int (cnN lb p1 p2 (apN p1 p2 - 1))), (10, .int (nI (apN p1 p2))), (11, .int (nI (apN p1 p2 - 1 + 1)))] := hl
          refine lv_iconst (v := 0) hx hb dL_isSight_155 (by decide) ?_
          refine lv_istore (lv' := [(11, .int 0), (0, .ref (a 0)), (1, .ref (q 0)), (2, .int (nI p1)), (3, .int (nI p2)), (4, .int (sI (SgtC bk p1 p2))), (5, .int (j_L_isSight_29 lb p1 p2)), (6, .int ((nI (p2 / 12)) - (nI (p1 / 12)))), (7, .int ((nI (p2 % 12)) - (nI (p1 % 12)))), (8, .int (j_L_isSight_83 p2 p1)), (9, .int (cnN lb p1 p2 (apN p1 p2 - 1))), (10, .int (nI (apN p1 p2)))]) hx hb dL_isSight_156 hl (by decide) rfl (fun ls hl => ?_)
          refine jn_w (cells2 := 0) (slots2 := 0) (fun H locs ls => va_P D vwCl [((a 0), .inr (5, [.ref (a 2), .ref (a 4), .ref (a 18), .ref (a 1)])), ((a 2), .inr (1, [.ref (a 3)])), ((a 3), .inl (cZ, 144, .inl bk)), ((q 0), .inl (cI, 19, .inl lb))] H ∧ va_S (fun q : Nat => s.heap.size ≤ q) s.heap H locs ∧ lv_has ls 13 [(11, .int 0), (0, .ref (a 0)), (1, .ref (q 0)), (2, .int (nI p1)), (3, .int (nI p2)), (4, .int (sI (SgtC bk p1 p2))), (5, .int (j_L_isSight_29 lb p1 p2)), (6, .int ((nI (p2 / 12)) - (nI (p1 / 12)))), (7, .int ((nI (p2 % 12)) - (nI (p1 % 12)))), (8, .int (j_L_isSight_83 p2 p1)), (9, .int (cnN lb p1 p2 (apN p1 p2 - 1))), (10, .int (nI (apN p1 p2)))]) (pc2 := 180) (st2 := []) (j_L_isSight_180 p2 p1) (fun jn_158 => ?_) ?_
          · refine lv_iload_n hx hb dL_isSight_158 rfl (lv_at hl 3 rfl) ?_
            refine lv_bipush (v := 12) hx hb dL_isSight_159 (by decide) ?_
            refine lv_idiv hx hb dL_isSight_161 (by decide) ?_
            refine tp_eq (y := nI (p1 / 12)) (pk_div (a := p1) (d := 12) (by omega) (by omega) (by omega)) ?_
            refine lv_iload_n hx hb dL_isSight_162 rfl (lv_at hl 4 rfl) ?_
            refine lv_bipush (v := 12) hx hb dL_isSight_163 (by decide) ?_
            refine lv_idiv hx hb dL_isSight_165 (by decide) ?_
            refine tp_eq (y := nI (p2 / 12)) (pk_div (a := p2) (d := 12) (by omega) (by omega) (by omega)) ?_
            refine lv_icmp_ge (tgt := 176) hx hb dL_isSight_166 (by decide) (fun c_38 => ?_) (fun c_38 => ?_)
            · have nc_38 : (p2 / 12) ≤ (p1 / 12) := (nI_leI (a := (p2 / 12)) (b := (p1 / 12)) (by omega) (by omega)).mp c_38
              refine lv_iload_n hx hb dL_isSight_176 rfl (lv_at hl 4 rfl) ?_
              refine lv_bipush (v := 12) hx hb dL_isSight_177 (by decide) ?_
              refine lv_idiv hx hb dL_isSight_179 (by decide) ?_
              refine tp_eq (y := nI (p2 / 12)) (pk_div (a := p2) (d := 12) (by omega) (by omega) (by omega)) ?_
              refine W.widen (k := 0) (n := 0) (Nat.le_of_ble_eq_true rfl) (Nat.le_of_ble_eq_true rfl) ?_
              refine tp_eq (y := j_L_isSight_180 p2 p1) (by rw [j_L_isSight_180, if_pos c_38]) ?_
              exact jn_158 _ _ _ ⟨hP, hS, lv_sub hl [0, 1, 2, 3, 4, 5, 6, 7, 8, 9, 10, 11] rfl⟩
            · have nc_38 : ¬ (p2 / 12) ≤ (p1 / 12) := fun q => c_38 ((nI_leI (a := (p2 / 12)) (b := (p1 / 12)) (by omega) (by omega)).mpr q)
              refine lv_iload_n hx hb dL_isSight_169 rfl (lv_at hl 3 rfl) ?_
              refine lv_bipush (v := 12) hx hb dL_isSight_170 (by decide) ?_
              refine lv_idiv hx hb dL_isSight_172 (by decide) ?_
              refine tp_eq (y := nI (p1 / 12)) (pk_div (a := p1) (d := 12) (by omega) (by omega) (by omega)) ?_
              refine lv_goto (tgt := 180) hx hb dL_isSight_173 (by decide) ?_
              refine W.widen (k := 0) (n := 0) (Nat.le_of_ble_eq_true rfl) (Nat.le_of_ble_eq_true rfl) ?_
              refine tp_eq (y := j_L_isSight_180 p2 p1) (by rw [j_L_isSight_180, if_neg c_38]) ?_
              exact jn_158 _ _ _ ⟨hP, hS, lv_sub hl [0, 1, 2, 3, 4, 5, 6, 7, 8, 9, 10, 11] rfl⟩
          · intro H locs ls hI
            obtain ⟨hP, hS, hl⟩ := hI
            have hl : lv_has ls 13 [(11, .int 0), (0, .ref (a 0)), (1, .ref (q 0)), (2, .int (nI p1)), (3, .int (nI p2)), (4, .int (sI (SgtC bk p1 p2))), (5, .int (j_L_isSight_29 lb p1 p2)), (6, .int ((nI (p2 / 12)) - (nI (p1 / 12)))), (7, .int ((nI (p2 % 12)) - (nI (p1 % 12)))), (8, .int (j_L_isSight_83 p2 p1)), (9, .int (cnN lb p1 p2 (apN p1 p2 - 1))), (10, .int (nI (apN p1 p2)))] := hl
            have hP : va_P D vwCl [((a 0), .inr (5, [.ref (a 2), .ref (a 4), .ref (a 18), .ref (a 1)])), ((a 2), .inr (1, [.ref (a 3)])), ((a 3), .inl (cZ, 144, .inl bk)), ((q 0), .inl (cI, 19, .inl lb))] H := hP
            refine tp_eq (y := nI (min (p1 / 12) (p2 / 12) + 0)) (mn180 h1 h2) ?_
            refine lv_istore (lv' := [(12, .int (nI (min (p1 / 12) (p2 / 12) + 0))), (11, .int 0), (0, .ref (a 0)), (1, .ref (q 0)), (2, .int (nI p1)), (3, .int (nI p2)), (4, .int (sI (SgtC bk p1 p2))), (5, .int (j_L_isSight_29 lb p1 p2)), (6, .int ((nI (p2 / 12)) - (nI (p1 / 12)))), (7, .int ((nI (p2 % 12)) - (nI (p1 % 12)))), (8, .int (j_L_isSight_83 p2 p1)), (9, .int (cnN lb p1 p2 (apN p1 p2 - 1))), (10, .int (nI (apN p1 p2)))]) hx hb dL_isSight_180 hl (by decide) rfl (fun ls hl => ?_)
            refine lpW (σ := (Nat) × (Int32)) (I := fun x H locs ls => va_P D vwCl [((a 0), .inr (5, [.ref (a 2), .ref (a 4), .ref (a 18), .ref (a 1)])), ((a 2), .inr (1, [.ref (a 3)])), ((a 3), .inl (cZ, 144, .inl bk)), ((q 0), .inl (cI, 19, .inl lb))] H ∧ va_S (fun q : Nat => s.heap.size ≤ q) s.heap H locs ∧ lv_has ls 13 [(0, .ref (a 0)), (1, .ref (q 0)), (2, .int (nI p1)), (3, .int (nI p2)), (4, .int (sI (SgtC bk p1 p2))), (5, .int (j_L_isSight_29 lb p1 p2)), (6, .int ((nI (p2 / 12)) - (nI (p1 / 12)))), (7, .int ((nI (p2 % 12)) - (nI (p1 % 12)))), (8, .int (j_L_isSight_83 p2 p1)), (9, .int (cnN lb p1 p2 (apN p1 p2 - 1))), (10, .int (nI (apN p1 p2))), (11, .int x.2), (12, .int (nI (min (p1 / 12) (p2 / 12) + x.1)))] ∧ (min (p1 / 12) (p2 / 12) + x.1 ≤ max (p1 / 12) (p2 / 12) + 1) ∧ (x.2 = orN lb (min (p1 / 12) (p2 / 12)) x.1)) (μ := fun x => 13 - x.1) ?_ (0, 0) ⟨hP, hS, lv_sub hl [2, 3, 4, 5, 6, 7, 8, 9, 10, 11, 12, 1, 0] rfl, (by omega), (by rw [orN])⟩
            intro x H locs ls hI ih
            obtain ⟨r, al⟩ := x
            obtain ⟨hP, hS, hl, hq_hr1, hq_hal⟩ := hI
            have ih_182 := ih
            have hl : lv_has ls 13 [(0, .ref (a 0)), (1, .ref (q 0)), (2, .int (nI p1)), (3, .int (nI p2)), (4, .int (sI (SgtC bk p1 p2))), (5, .int (j_L_isSight_29 lb p1 p2)), (6, .int ((nI (p2 / 12)) - (nI (p1 / 12)))), (7, .int ((nI (p2 % 12)) - (nI (p1 % 12)))), (8, .int (j_L_isSight_83 p2 p1)), (9, .int (cnN lb p1 p2 (apN p1 p2 - 1))), (10, .int (nI (apN p1 p2))), (11, .int al), (12, .int (nI (min (p1 / 12) (p2 / 12) + r)))] := hl
            have hP : va_P D vwCl [((a 0), .inr (5, [.ref (a 2), .ref (a 4), .ref (a 18), .ref (a 1)])), ((a 2), .inr (1, [.ref (a 3)])), ((a 3), .inl (cZ, 144, .inl bk)), ((q 0), .inl (cI, 19, .inl lb))] H := hP
            have hr1 : min (p1 / 12) (p2 / 12) + r ≤ max (p1 / 12) (p2 / 12) + 1 := hq_hr1
            have hal : al = orN lb (min (p1 / 12) (p2 / 12)) r := hq_hal
            clear hq_hr1 hq_hal
            refine lv_iload hx hb dL_isSight_182 (lv_at hl 12 rfl) ?_
            refine lv_iload_n hx hb dL_isSight_184 rfl (lv_at hl 2 rfl) ?_
            refine lv_bipush (v := 12) hx hb dL_isSight_185 (by decide) ?_
            refine lv_idiv hx hb dL_isSight_187 (by decide) ?_
            refine tp_eq (y := nI (p1 / 12)) (pk_div (a := p1) (d := 12) (by omega) (by omega) (by omega)) ?_
            refine lv_icmp_le (tgt := 200) hx hb dL_isSight_188 (by decide) (fun c_39 => ?_) (fun c_39 => ?_)
            · have nc_39 : (min (p1 / 12) (p2 / 12) + r) ≤ (p1 / 12) := (nI_leI (a := (min (p1 / 12) (p2 / 12) + r)) (b := (p1 / 12)) (by omega) (by omega)).mp c_39
              refine lv_iload hx hb dL_isSight_200 (lv_at hl 11 rfl) ?_
              refine lv_aload_n hx hb dL_isSight_202 rfl (lv_at hl 1 rfl) ?_
              refine lv_iload hx hb dL_isSight_203 (lv_at hl 12 rfl) ?_
              refine va_iald hx hb hK hP 3 0 rfl rfl (vp_in_nI (n := (min (p1 / 12) (p2 / 12) + r)) (by omega) (by decide)) dL_isSight_205 ?_
              refine tp_eq (y := lb (min (p1 / 12) (p2 / 12) + r)) (by rw [nI_clamp (n := (min (p1 / 12) (p2 / 12) + r)) (by omega)]) ?_
              refine lv_ior hx hb dL_isSight_206 ?_
              refine lv_istore (lv' := [(11, .int (al ||| (lb (min (p1 / 12) (p2 / 12) + r)))), (0, .ref (a 0)), (1, .ref (q 0)), (2, .int (nI p1)), (3, .int (nI p2)), (4, .int (sI (SgtC bk p1 p2))), (5, .int (j_L_isSight_29 lb p1 p2)), (6, .int ((nI (p2 / 12)) - (nI (p1 / 12)))), (7, .int ((nI (p2 % 12)) - (nI (p1 % 12)))), (8, .int (j_L_isSight_83 p2 p1)), (9, .int (cnN lb p1 p2 (apN p1 p2 - 1))), (10, .int (nI (apN p1 p2))), (12, .int (nI (min (p1 / 12) (p2 / 12) + r)))]) hx hb dL_isSight_207 hl (by decide) rfl (fun ls hl => ?_)
              refine lv_iinc (v := nI ((min (p1 / 12) (p2 / 12) + r) + 1)) (lv' := [(12, .int (nI ((min (p1 / 12) (p2 / 12) + r) + 1))), (11, .int (al ||| (lb (min (p1 / 12) (p2 / 12) + r)))), (0, .ref (a 0)), (1, .ref (q 0)), (2, .int (nI p1)), (3, .int (nI p2)), (4, .int (sI (SgtC bk p1 p2))), (5, .int (j_L_isSight_29 lb p1 p2)), (6, .int ((nI (p2 / 12)) - (nI (p1 / 12)))), (7, .int ((nI (p2 % 12)) - (nI (p1 % 12)))), (8, .int (j_L_isSight_83 p2 p1)), (9, .int (cnN lb p1 p2 (apN p1 p2 - 1))), (10, .int (nI (apN p1 p2)))]) hx hb dL_isSight_209 hl (k := 12) rfl (nI_1 (min (p1 / 12) (p2 / 12) + r)) (by decide) rfl (fun ls hl => ?_)
              refine lv_goto (tgt := 182) hx hb dL_isSight_212 (by decide) ?_
              refine W.widen (k := 0) (n := 0) (Nat.le_refl _) (Nat.le_refl _) ?_
              exact ih_182 (r + 1, al ||| (lb (min (p1 / 12) (p2 / 12) + r))) _ _ _ (by first | omega | (dsimp only; omega)) ⟨hP, hS, lv_sub hl [2, 3, 4, 5, 6, 7, 8, 9, 10, 11, 12, 1, 0] rfl, (by omega), (by rw [orN, ← hal])⟩
            · have nc_39 : ¬ (min (p1 / 12) (p2 / 12) + r) ≤ (p1 / 12) := fun q => c_39 ((nI_leI (a := (min (p1 / 12) (p2 / 12) + r)) (b := (p1 / 12)) (by omega) (by omega)).mpr q)
              refine lv_iload hx hb dL_isSight_191 (lv_at hl 12 rfl) ?_
              refine lv_iload_n hx hb dL_isSight_193 rfl (lv_at hl 3 rfl) ?_
              refine lv_bipush (v := 12) hx hb dL_isSight_194 (by decide) ?_
              refine lv_idiv hx hb dL_isSight_196 (by decide) ?_
              refine tp_eq (y := nI (p2 / 12)) (pk_div (a := p2) (d := 12) (by omega) (by omega) (by omega)) ?_
              refine lv_icmp_gt (tgt := 215) hx hb dL_isSight_197 (by decide) (fun c_40 => ?_) (fun c_40 => ?_)
              · have nc_40 : (p2 / 12) < (min (p1 / 12) (p2 / 12) + r) := (nI_ltI (a := (p2 / 12)) (b := (min (p1 / 12) (p2 / 12) + r)) (by omega) (by omega)).mp c_40
                have he_197 : r = max (p1 / 12) (p2 / 12) + 1 - min (p1 / 12) (p2 / 12) := by omega
                rw [hal, he_197] at hl
                have hl : lv_has ls 13 [(0, .ref (a 0)), (1, .ref (q 0)), (2, .int (nI p1)), (3, .int (nI p2)), (4, .int (sI (SgtC bk p1 p2))), (5, .int (j_L_isSight_29 lb p1 p2)), (6, .int ((nI (p2 / 12)) - (nI (p1 / 12)))), (7, .int ((nI (p2 % 12)) - (nI (p1 % 12)))), (8, .int (j_L_isSight_83 p2 p1)), (9, .int (cnN lb p1 p2 (apN p1 p2 - 1))), (10, .int (nI (apN p1 p2))), (11, .int (orN lb (min (p1 / 12) (p2 / 12)) (max (p1 / 12) (p2 / 12) + 1 - min (p1 / 12) (p2 / 12)))), (12, .int (nI (min (p1 / 12) (p2 / 12) + (max (p1 / 12) (p2 / 12) + 1 - min (p1 / 12) (p2 / 12)))))] := hl
                refine lv_iload hx hb dL_isSight_215 (lv_at hl 4 rfl) ?_
                refine lv_aload_n hx hb dL_isSight_217 rfl (lv_at hl 0 rfl) ?_
                refine lv_iload_n hx hb dL_isSight_218 rfl (lv_at hl 3 rfl) ?_
                refine lv_iload_n hx hb dL_isSight_219 rfl (lv_at hl 2 rfl) ?_
                have hPc := hP.sub (ws' := [((a 0), .inr (5, [.ref (a 2), .ref (a 4), .ref (a 18), .ref (a 1)])), ((a 2), .inr (1, [.ref (a 3)])), ((a 3), .inl (cZ, 144, .inl bk))]) [0, 1, 2] rfl
                refine va_calli (va_runV (As := [.int (nI p2), .int (nI p1)]) (rest := [.int (sI (SgtC bk p1 p2))]) ⟨hx, hb, hml, hown, hts⟩ (c_V_sees l D cI cZ cJ cA H.size a bk p2 p1 (by first | assumption | omega) (by first | assumption | omega)) (cwV 2 hts gL_isSight_X5_sees rfl rfl rfl (by decide +kernel) ⟨Nat.le_of_ble_eq_true rfl, Nat.le_of_ble_eq_true rfl⟩) ⟨pcR_bl, va_recv hK hPc (ci := 5) (q0 := 0) rfl rfl, fun U hU hW => ⟨rfl, by rw [hU], by rw [hU]; exact hPc, va_K.moved hW.alike hK⟩⟩ rfl rfl hl.1 rfl (lv_room (Nat.le_of_ble_eq_true rfl)) dL_isSight_220 ⟨Nat.le_of_ble_eq_true rfl, Nat.le_of_ble_eq_true rfl⟩) hS (fun _ h1 h2 => absurd h1 (Nat.not_lt.mpr h2)) (rd_free hS hA) (fun r_41 u t H locs ht hvm hw hB hz1 hk1 hS => ?_)
                try dsimp only at hw
                have hr_41 := hw
                have hP := rd_P hP hk1
                obtain rfl := hr_41.symm
                refine W.widen (k := 0) (n := 0) (Nat.le_refl _) (Nat.le_refl _) ?_
                refine lv_icmp_ne (tgt := 265) hx hb dL_isSight_223 (by decide) (fun c_42 => ?_) (fun c_42 => ?_)
                · refine lv_iconst (v := 0) hx hb dL_isSight_265 (by decide) ?_
                  -- leaf 12
                  refine W.widen (k := 0) (n := 0) (Nat.le_of_ble_eq_true rfl) (Nat.le_of_ble_eq_true rfl) ?_
                  exact W.zret (v := 0) (ty := .boolean) hx hb hr rfl (fun t ht hW => ⟨⟨0, (), rfl, (by rw [f_L_isSight, if_neg sp_99, if_neg c_42]), trivial⟩, hS.F ht⟩) hS.2.2 dL_isSight_266
                · refine lv_iload hx hb dL_isSight_226 (lv_at hl 8 rfl) ?_
                  refine lv_if_eq (tgt := 241) hx hb dL_isSight_228 (by decide) (fun c_43 => absurd c_43 sp_99) (fun _ => ?_)
                  refine lv_iload hx hb dL_isSight_231 (lv_at hl 4 rfl) ?_
                  refine lv_iload hx hb dL_isSight_233 (lv_at hl 9 rfl) ?_
                  refine lv_icmp_ne (tgt := 265) hx hb dL_isSight_235 (by decide) (fun c_44 => ?_) (fun c_44 => ?_)
                  · refine lv_iconst (v := 0) hx hb dL_isSight_265 (by decide) ?_
                    -- leaf 13
                    refine W.widen (k := 0) (n := 0) (Nat.le_of_ble_eq_true rfl) (Nat.le_of_ble_eq_true rfl) ?_
                    exact W.zret (v := 0) (ty := .boolean) hx hb hr rfl (fun t ht hW => ⟨⟨0, (), rfl, (by rw [f_L_isSight, if_neg sp_99, if_pos c_42, if_neg c_44]), trivial⟩, hS.F ht⟩) hS.2.2 dL_isSight_266
                  · refine lv_goto (tgt := 251) hx hb dL_isSight_238 (by decide) ?_
                    refine lv_iload hx hb dL_isSight_251 (lv_at hl 11 rfl) ?_
                    refine lv_if_gt (tgt := 261) hx hb dL_isSight_253 (by decide) (fun c_45 => ?_) (fun c_45 => ?_)
                    · refine lv_iconst (v := 1) hx hb dL_isSight_261 (by decide) ?_
                      refine lv_goto (tgt := 266) hx hb dL_isSight_262 (by decide) ?_
                      -- leaf 14
                      refine W.widen (k := 0) (n := 0) (Nat.le_of_ble_eq_true rfl) (Nat.le_of_ble_eq_true rfl) ?_
                      exact W.zret (v := 1) (ty := .boolean) hx hb hr rfl (fun t ht hW => ⟨⟨1, (), rfl, (by rw [f_L_isSight, if_neg sp_99, if_pos c_42, if_pos c_44, if_pos c_45]), trivial⟩, hS.F ht⟩) hS.2.2 dL_isSight_266
                    · refine lv_iload hx hb dL_isSight_256 (lv_at hl 4 rfl) ?_
                      refine lv_if_eq (tgt := 265) hx hb dL_isSight_258 (by decide) (fun c_46 => ?_) (fun c_46 => ?_)
                      · refine lv_iconst (v := 0) hx hb dL_isSight_265 (by decide) ?_
                        -- leaf 15
                        refine W.widen (k := 0) (n := 0) (Nat.le_of_ble_eq_true rfl) (Nat.le_of_ble_eq_true rfl) ?_
                        exact W.zret (v := 0) (ty := .boolean) hx hb hr rfl (fun t ht hW => ⟨⟨0, (), rfl, (by rw [f_L_isSight, if_neg sp_99, if_pos c_42, if_pos c_44, if_neg c_45, if_pos c_46]), trivial⟩, hS.F ht⟩) hS.2.2 dL_isSight_266
                      · refine lv_iconst (v := 1) hx hb dL_isSight_261 (by decide) ?_
                        refine lv_goto (tgt := 266) hx hb dL_isSight_262 (by decide) ?_
                        -- leaf 16
                        refine W.widen (k := 0) (n := 0) (Nat.le_of_ble_eq_true rfl) (Nat.le_of_ble_eq_true rfl) ?_
                        exact W.zret (v := 1) (ty := .boolean) hx hb hr rfl (fun t ht hW => ⟨⟨1, (), rfl, (by rw [f_L_isSight, if_neg sp_99, if_pos c_42, if_pos c_44, if_neg c_45, if_neg c_46]), trivial⟩, hS.F ht⟩) hS.2.2 dL_isSight_266
              · have nc_40 : ¬ (p2 / 12) < (min (p1 / 12) (p2 / 12) + r) := fun q => c_40 ((nI_ltI (a := (p2 / 12)) (b := (min (p1 / 12) (p2 / 12) + r)) (by omega) (by omega)).mpr q)
                refine lv_iload hx hb dL_isSight_200 (lv_at hl 11 rfl) ?_
                refine lv_aload_n hx hb dL_isSight_202 rfl (lv_at hl 1 rfl) ?_
                refine lv_iload hx hb dL_isSight_203 (lv_at hl 12 rfl) ?_
                refine va_iald hx hb hK hP 3 0 rfl rfl (vp_in_nI (n := (min (p1 / 12) (p2 / 12) + r)) (by omega) (by decide)) dL_isSight_205 ?_
                refine tp_eq (y := lb (min (p1 / 12) (p2 / 12) + r)) (by rw [nI_clamp (n := (min (p1 / 12) (p2 / 12) + r)) (by omega)]) ?_
                refine lv_ior hx hb dL_isSight_206 ?_
                refine lv_istore (lv' := [(11, .int (al ||| (lb (min (p1 / 12) (p2 / 12) + r)))), (0, .ref (a 0)), (1, .ref (q 0)), (2, .int (nI p1)), (3, .int (nI p2)), (4, .int (sI (SgtC bk p1 p2))), (5, .int (j_L_isSight_29 lb p1 p2)), (6, .int ((nI (p2 / 12)) - (nI (p1 / 12)))), (7, .int ((nI (p2 % 12)) - (nI (p1 % 12)))), (8, .int (j_L_isSight_83 p2 p1)), (9, .int (cnN lb p1 p2 (apN p1 p2 - 1))), (10, .int (nI (apN p1 p2))), (12, .int (nI (min (p1 / 12) (p2 / 12) + r)))]) hx hb dL_isSight_207 hl (by decide) rfl (fun ls hl => ?_)
                refine lv_iinc (v := nI ((min (p1 / 12) (p2 / 12) + r) + 1)) (lv' := [(12, .int (nI ((min (p1 / 12) (p2 / 12) + r) + 1))), (11, .int (al ||| (lb (min (p1 / 12) (p2 / 12) + r)))), (0, .ref (a 0)), (1, .ref (q 0)), (2, .int (nI p1)), (3, .int (nI p2)), (4, .int (sI (SgtC bk p1 p2))), (5, .int (j_L_isSight_29 lb p1 p2)), (6, .int ((nI (p2 / 12)) - (nI (p1 / 12)))), (7, .int ((nI (p2 % 12)) - (nI (p1 % 12)))), (8, .int (j_L_isSight_83 p2 p1)), (9, .int (cnN lb p1 p2 (apN p1 p2 - 1))), (10, .int (nI (apN p1 p2)))]) hx hb dL_isSight_209 hl (k := 12) rfl (nI_1 (min (p1 / 12) (p2 / 12) + r)) (by decide) rfl (fun ls hl => ?_)
                refine lv_goto (tgt := 182) hx hb dL_isSight_212 (by decide) ?_
                refine W.widen (k := 0) (n := 0) (Nat.le_refl _) (Nat.le_refl _) ?_
                exact ih_182 (r + 1, al ||| (lb (min (p1 / 12) (p2 / 12) + r))) _ _ _ (by first | omega | (dsimp only; omega)) ⟨hP, hS, lv_sub hl [2, 3, 4, 5, 6, 7, 8, 9, 10, 11, 12, 1, 0] rfl, (by omega), (by rw [orN, ← hal])⟩
        · have nc_37 : ¬ (apN p1 p2) ≤ (i + 1) := fun q => c_37 ((nI_leI (a := (apN p1 p2)) (b := (i + 1)) (by omega) (by omega)).mpr q)
          refine lv_iload hx hb dL_isSight_106 (lv_at hl 8 rfl) ?_
          refine lv_if_eq (tgt := 155) hx hb dL_isSight_108 (by decide) (fun c_47 => absurd c_47 sp_99) (fun _ => ?_)
          refine jn_w (cells2 := 0) (slots2 := 0) (fun H locs ls => va_P D vwCl [((a 0), .inr (5, [.ref (a 2), .ref (a 4), .ref (a 18), .ref (a 1)])), ((a 2), .inr (1, [.ref (a 3)])), ((a 3), .inl (cZ, 144, .inl bk)), ((q 0), .inl (cI, 19, .inl lb))] H ∧ va_S (fun q : Nat => s.heap.size ≤ q) s.heap H locs ∧ lv_has ls 13 [(0, .ref (a 0)), (1, .ref (q 0)), (2, .int (nI p1)), (3, .int (nI p2)), (4, .int (sI (SgtC bk p1 p2))), (5, .int (j_L_isSight_29 lb p1 p2)), (6, .int ((nI (p2 / 12)) - (nI (p1 / 12)))), (7, .int ((nI (p2 % 12)) - (nI (p1 % 12)))), (8, .int (j_L_isSight_83 p2 p1)), (9, .int v), (10, .int (nI (apN p1 p2))), (11, .int (nI (i + 1)))]) (pc2 := 147) (st2 := []) (j_L_isSight_147 v lb p1 p2 i) (fun jn_111 => ?_) ?_
          · refine lv_iload hx hb dL_isSight_111 (lv_at hl 9 rfl) ?_
            refine lv_if_eq (tgt := 146) hx hb dL_isSight_113 (by decide) (fun c_48 => ?_) (fun c_48 => ?_)
            · refine lv_iconst (v := 0) hx hb dL_isSight_146 (by decide) ?_
              refine W.widen (k := 0) (n := 0) (Nat.le_of_ble_eq_true rfl) (Nat.le_of_ble_eq_true rfl) ?_
              refine tp_eq (y := j_L_isSight_147 v lb p1 p2 i) (by rw [j_L_isSight_147, if_pos c_48]) ?_
              exact jn_111 _ _ _ ⟨hP, hS, lv_sub hl [0, 1, 2, 3, 4, 5, 6, 7, 8, 9, 10, 11] rfl⟩
            · refine lv_aload_n hx hb dL_isSight_116 rfl (lv_at hl 1 rfl) ?_
              refine lv_iload_n hx hb dL_isSight_117 rfl (lv_at hl 2 rfl) ?_
              refine lv_iload hx hb dL_isSight_118 (lv_at hl 11 rfl) ?_
              refine lv_iload hx hb dL_isSight_120 (lv_at hl 6 rfl) ?_
              refine lv_iload hx hb dL_isSight_122 (lv_at hl 10 rfl) ?_
              refine lv_idiv hx hb dL_isSight_124 (nI_ne0 (n := (apN p1 p2)) (by omega) (by omega)) ?_
              refine lv_bipush (v := 12) hx hb dL_isSight_125 (by decide) ?_
              refine lv_imul hx hb dL_isSight_127 ?_
              refine lv_iload hx hb dL_isSight_128 (lv_at hl 7 rfl) ?_
              refine lv_iload hx hb dL_isSight_130 (lv_at hl 10 rfl) ?_
              refine lv_idiv hx hb dL_isSight_132 (nI_ne0 (n := (apN p1 p2)) (by omega) (by omega)) ?_
              refine lv_iadd hx hb dL_isSight_133 ?_
              refine lv_imul hx hb dL_isSight_134 ?_
              refine lv_iadd hx hb dL_isSight_135 ?_
              have hst := st_eq (p1 := p1) (p2 := p2) (k := i + 1) (F := apN p1 p2) h1 h2 rfl (by omega) (st83 sp_99)
              have hst2 := hst.2.1
              refine tp_eq (y := nI (stN p1 p2 (i + 1))) hst.1 ?_
              have hPc := hP.sub (ws' := [((q 0), .inl (cI, 19, .inl lb))]) [3] rfl
              refine va_calli (va_runS (As := [.ref (q 0), .int (nI (stN p1 p2 (i + 1)))]) (rest := []) ⟨hx, hb, hml, hown, hts⟩ (c_L_isBunker l D cI cZ cJ cA H.size q lb (stN p1 p2 (i + 1)) (by first | assumption | omega)) (va_cwS 2 hts gL_isSight_L_isBunker rfl rfl rfl (by decide +kernel) ⟨Nat.le_of_ble_eq_true rfl, Nat.le_of_ble_eq_true rfl⟩) ⟨pcR_bl, fun U hU hW => ⟨rfl, by rw [hU], by rw [hU]; exact hPc, va_K.moved hW.alike hK⟩⟩ rfl rfl hl.1 rfl (lv_room (Nat.le_of_ble_eq_true rfl)) dL_isSight_136 ⟨Nat.le_of_ble_eq_true rfl, Nat.le_of_ble_eq_true rfl⟩) hS (fun _ h1 h2 => absurd h1 (Nat.not_lt.mpr h2)) (rd_free hS hA) (fun r_49 u t H locs ht hvm hw hB hz1 hk1 hS => ?_)
              try dsimp only at hw
              have hr_49 := hw
              have hP := rd_P hP hk1
              obtain rfl := hr_49.symm
              refine W.widen (k := 0) (n := 0) (Nat.le_refl _) (Nat.le_refl _) ?_
              refine lv_if_ne (tgt := 146) hx hb dL_isSight_139 (by decide) (fun c_50 => ?_) (fun c_50 => ?_)
              · refine lv_iconst (v := 0) hx hb dL_isSight_146 (by decide) ?_
                refine W.widen (k := 0) (n := 0) (Nat.le_of_ble_eq_true rfl) (Nat.le_of_ble_eq_true rfl) ?_
                refine tp_eq (y := j_L_isSight_147 v lb p1 p2 i) (by rw [j_L_isSight_147, if_neg c_48, if_neg c_50]) ?_
                exact jn_111 _ _ _ ⟨hP, hS, lv_sub hl [0, 1, 2, 3, 4, 5, 6, 7, 8, 9, 10, 11] rfl⟩
              · refine lv_iconst (v := 1) hx hb dL_isSight_142 (by decide) ?_
                refine lv_goto (tgt := 147) hx hb dL_isSight_143 (by decide) ?_
                refine W.widen (k := 0) (n := 0) (Nat.le_of_ble_eq_true rfl) (Nat.le_of_ble_eq_true rfl) ?_
                refine tp_eq (y := j_L_isSight_147 v lb p1 p2 i) (by rw [j_L_isSight_147, if_neg c_48, if_pos c_50]) ?_
                exact jn_111 _ _ _ ⟨hP, hS, lv_sub hl [0, 1, 2, 3, 4, 5, 6, 7, 8, 9, 10, 11] rfl⟩
          · intro H locs ls hI
            obtain ⟨hP, hS, hl⟩ := hI
            have hl : lv_has ls 13 [(0, .ref (a 0)), (1, .ref (q 0)), (2, .int (nI p1)), (3, .int (nI p2)), (4, .int (sI (SgtC bk p1 p2))), (5, .int (j_L_isSight_29 lb p1 p2)), (6, .int ((nI (p2 / 12)) - (nI (p1 / 12)))), (7, .int ((nI (p2 % 12)) - (nI (p1 % 12)))), (8, .int (j_L_isSight_83 p2 p1)), (9, .int v), (10, .int (nI (apN p1 p2))), (11, .int (nI (i + 1)))] := hl
            have hP : va_P D vwCl [((a 0), .inr (5, [.ref (a 2), .ref (a 4), .ref (a 18), .ref (a 1)])), ((a 2), .inr (1, [.ref (a 3)])), ((a 3), .inl (cZ, 144, .inl bk)), ((q 0), .inl (cI, 19, .inl lb))] H := hP
            refine lv_istore (lv' := [(9, .int (j_L_isSight_147 v lb p1 p2 i)), (0, .ref (a 0)), (1, .ref (q 0)), (2, .int (nI p1)), (3, .int (nI p2)), (4, .int (sI (SgtC bk p1 p2))), (5, .int (j_L_isSight_29 lb p1 p2)), (6, .int ((nI (p2 / 12)) - (nI (p1 / 12)))), (7, .int ((nI (p2 % 12)) - (nI (p1 % 12)))), (8, .int (j_L_isSight_83 p2 p1)), (10, .int (nI (apN p1 p2))), (11, .int (nI (i + 1)))]) hx hb dL_isSight_147 hl (by decide) rfl (fun ls hl => ?_)
            refine lv_iinc (v := nI ((i + 1) + 1)) (lv' := [(11, .int (nI ((i + 1) + 1))), (9, .int (j_L_isSight_147 v lb p1 p2 i)), (0, .ref (a 0)), (1, .ref (q 0)), (2, .int (nI p1)), (3, .int (nI p2)), (4, .int (sI (SgtC bk p1 p2))), (5, .int (j_L_isSight_29 lb p1 p2)), (6, .int ((nI (p2 / 12)) - (nI (p1 / 12)))), (7, .int ((nI (p2 % 12)) - (nI (p1 % 12)))), (8, .int (j_L_isSight_83 p2 p1)), (10, .int (nI (apN p1 p2)))]) hx hb dL_isSight_149 hl (k := 11) rfl (nI_1 (i + 1)) (by decide) rfl (fun ls hl => ?_)
            refine lv_goto (tgt := 99) hx hb dL_isSight_152 (by decide) ?_
            refine W.widen (k := 0) (n := 0) (Nat.le_refl _) (Nat.le_refl _) ?_
            exact ih_99 (i + 1, j_L_isSight_147 v lb p1 p2 i) _ _ _ (by first | omega | (dsimp only; omega)) ⟨hP, hS, lv_sub hl [2, 3, 4, 5, 6, 7, 8, 9, 10, 1, 11, 0] rfl, (by omega), (by rw [cnN, ← hv])⟩
