theorem le3 {L i : Nat} (hL : L ≤ 1536) (hi : i ≤ L + 3) (h : ¬ nI L - 3 < nI i) : i + 3 ≤ L := by
  have e : (nI L - nI 3).toInt = (L : Int) - 3 := pk_sub_toInt (by omega) (by decide)
  have h2 : ¬ (nI L - nI 3 < nI i) := h
  rw [Int32.lt_iff_toInt_lt, e, nI_toInt (by omega)] at h2
  omega
set_option maxHeartbeats 4000000 in
set_option maxRecDepth 100000 in
/-- THE LAW'S LOOP: at its head, n calls done -/
theorem law_loop {p : Program} {l : Launch} {e : Env} {s : State} {m : MethodId} {below : List Frame} {meth : Method} {c : Code} {D : va_G} {cI cZ cJ cA : ClassId} {b L : Nat} {xs : Nat → Int32} {sx a q : Nat → Nat} {o : Nat} (hr : meth.sig.returnType = ret) (hlocks : meth.locks = false) (hlt : l.stackTraces = false) (hL : L ≤ 1536) (hC : lawC p s m c D cI cZ cJ cA b L xs sx) :
    ∀ (k n i : Nat) (H : Heap) (locs : List Loc) (ls : Array Slot), i = 3 * n → i ≤ L + 3 → L + 4 ≤ i + 3 * k → lawS s D cI cZ cJ cA a q o n H locs → lv_has ls 7 [(0, .ref b), (1, .ref (a 0)), (2, .ref (q 0)), (3, .ref o), (4, .int (nI i))] →
      W p l e room_1 s m #[Value.ref b] below meth c H locs (48 + 5 * n) (19726 + 30 * n) (lw_Z below #[Value.ref b] s) (F0 m 23 ls []) := by
  obtain ⟨hx, hb, hml, hown, hts, hX, hbl, hE, hN, hK⟩ := id hC
  have hA : ∀ q : Nat, s.heap.size ≤ q → (fun q : Nat => s.heap.size ≤ q) q := fun _ h => h
  have hbA : ¬ (fun q : Nat => s.heap.size ≤ q) b := Nat.not_le.mpr hbl
  intro k
  induction k with
  | zero => intro n i H locs ls h1 h2 h3; omega
  | succ k ih =>
    intro n i H locs ls h1 h2 h3 hLS hl
    have hS : va_S (fun q : Nat => s.heap.size ≤ q) s.heap H locs := by
      obtain ⟨_, _, _, _, _, _, _, _, _, _, _, _, _, _, _, _, _, _, _, _, _, _, _, _, _, _, _, _, _, _, _, _, _, _, _, _, _, _, _, _, _, _, _, _, _, _, _, -, -, -, hS⟩ := hLS
      exact hS
    refine lv_iload hx hb dL_law_23 (lv_at hl 4 rfl) ?_
    refine lv_aload_n hx hb dL_law_25 rfl (lv_at hl 0 rfl) ?_
    refine va_slen hx hb hX hbl hbA hS dL_law_26 ?_
    refine lv_iconst (v := 3) hx hb dL_law_27 (by decide) ?_
    refine lv_isub hx hb dL_law_28 ?_
    refine lv_icmp_gt (tgt := 1173) hx hb dL_law_29 (by decide) (fun c_1 => ?_) (fun c_1 => ?_)
    · refine lv_iconst (v := 1) hx hb dL_law_1173 (by decide) ?_
      refine va_forget (fun q hq => hS.2.2 q hq) ?_
      refine W.widen (k := 601024) (n := 7293034) (by omega) (by omega) ?_
      exact lw_ret hx hb hr hlocks dL_law_1174
    · have hi3 : i + 3 ≤ L := le3 hL h2 c_1
      have hn : n < 512 := by omega
      have kont : ∀ (H : Heap) (locs : List Loc) (ls : Array Slot), lawS s D cI cZ cJ cA a q o (n + 1) H locs → lv_has ls 7 [(0, .ref b), (1, .ref (a 0)), (2, .ref (q 0)), (3, .ref o), (4, .int (nI i))] → W p l e room_1 s m #[Value.ref b] below meth c H locs (48 + 5 * (n + 1)) (19726 + 30 * (n + 1)) (lw_Z below #[Value.ref b] s) (F0 m 1167 ls []) := by
        intro H locs ls hLS hl
        refine lv_iinc (v := nI (i + 3)) (lv' := [(4, .int (nI (i + 3))), (0, .ref b), (1, .ref (a 0)), (2, .ref (q 0)), (3, .ref o)]) hx hb dL_law_1167 hl (k := 4) rfl (nI_add i 3) (by decide) rfl (fun ls hl => ?_)
        refine lv_goto (tgt := 23) hx hb dL_law_1170 (by decide) ?_
        exact ih (n + 1) (i + 3) H locs ls (by omega) (by omega) (by omega) hLS (lv_sub hl [1, 2, 3, 4, 0] rfl)
      refine lv_aload_n hx hb dL_law_32 rfl (lv_at hl 0 rfl) ?_
      refine lv_iload hx hb dL_law_33 (lv_at hl 4 rfl) ?_
      refine va_sld hx hb hX hbl hbA hS (vp_in_nI (n := i) (by omega) (by omega)) dL_law_35 ?_
      refine lv_bipush (v := 31) hx hb dL_law_36 (by decide) ?_
      refine lv_iand hx hb dL_law_38 ?_
      obtain ⟨j, hj, ej⟩ := pk_andE (xs (nI i).toNatClampNeg) (m := 31) 5 (by decide)
      refine tp_eq ej ?_
      rcases (show j = 0 ∨ j = 1 ∨ j = 2 ∨ j = 3 ∨ j = 4 ∨ j = 5 ∨ j = 6 ∨ j = 7 ∨ j = 8 ∨ j = 9 ∨ j = 10 ∨ j = 11 ∨ j = 12 ∨ j = 13 ∨ j = 14 ∨ j = 15 ∨ j = 16 ∨ j = 17 ∨ j = 18 ∨ (19 ≤ j ∧ j < 32) by omega) with rfl | rfl | rfl | rfl | rfl | rfl | rfl | rfl | rfl | rfl | rfl | rfl | rfl | rfl | rfl | rfl | rfl | rfl | rfl | hj9
      · refine lv_tableIn (tgt := 128) hx hb dL_law_39 (by decide) (by decide) rfl (by decide) ?_
        exact lc_toggleBunker hlt hL hi3 hn hC hLS hl kont
      · refine lv_tableIn (tgt := 191) hx hb dL_law_39 (by decide) (by decide) rfl (by decide) ?_
        exact lc_sees hlt hL hi3 hn hC hLS hl kont
      · refine lv_tableIn (tgt := 266) hx hb dL_law_39 (by decide) (by decide) rfl (by decide) ?_
        exact lc_view hlt hL hi3 hn hC hLS hl kont
      · refine lv_tableIn (tgt := 322) hx hb dL_law_39 (by decide) (by decide) rfl (by decide) ?_
        exact lc_setReferee hlt hL hi3 hn hC hLS hl kont
      · refine lv_tableIn (tgt := 390) hx hb dL_law_39 (by decide) (by decide) rfl (by decide) ?_
        exact lc_begin hlt hL hi3 hn hC hLS hl kont
      · refine lv_tableIn (tgt := 438) hx hb dL_law_39 (by decide) (by decide) rfl (by decide) ?_
        exact lc_move hlt hL hi3 hn hC hLS hl kont
      · refine lv_tableIn (tgt := 506) hx hb dL_law_39 (by decide) (by decide) rfl (by decide) ?_
        exact lc_shoot hlt hL hi3 hn hC hLS hl kont
      · refine lv_tableIn (tgt := 574) hx hb dL_law_39 (by decide) (by decide) rfl (by decide) ?_
        exact lc_pass hlt hL hi3 hn hC hLS hl kont
      · refine lv_tableIn (tgt := 630) hx hb dL_law_39 (by decide) (by decide) rfl (by decide) ?_
        exact lc_call hlt hL hi3 hn hC hLS hl kont
      · refine lv_tableIn (tgt := 698) hx hb dL_law_39 (by decide) (by decide) rfl (by decide) ?_
        exact lc_dispute hlt hL hi3 hn hC hLS hl kont
      · refine lv_tableIn (tgt := 761) hx hb dL_law_39 (by decide) (by decide) rfl (by decide) ?_
        exact lc_end hlt hL hi3 hn hC hLS hl kont
      · refine lv_tableIn (tgt := 805) hx hb dL_law_39 (by decide) (by decide) rfl (by decide) ?_
        exact lc_tick hlt hL hi3 hn hC hLS hl kont
      · refine lv_tableIn (tgt := 818) hx hb dL_law_39 (by decide) (by decide) rfl (by decide) ?_
        exact lc_where hlt hL hi3 hn hC hLS hl kont
      · refine lv_tableIn (tgt := 874) hx hb dL_law_39 (by decide) (by decide) rfl (by decide) ?_
        exact lc_hit hlt hL hi3 hn hC hLS hl kont
      · refine lv_tableIn (tgt := 930) hx hb dL_law_39 (by decide) (by decide) rfl (by decide) ?_
        exact lc_flying hlt hL hi3 hn hC hLS hl kont
      · refine lv_tableIn (tgt := 943) hx hb dL_law_39 (by decide) (by decide) rfl (by decide) ?_
        exact lc_points hlt hL hi3 hn hC hLS hl kont
      · refine lv_tableIn (tgt := 999) hx hb dL_law_39 (by decide) (by decide) rfl (by decide) ?_
        exact lc_fines hlt hL hi3 hn hC hLS hl kont
      · refine lv_tableIn (tgt := 1055) hx hb dL_law_39 (by decide) (by decide) rfl (by decide) ?_
        exact lc_difference hlt hL hi3 hn hC hLS hl kont
      · refine lv_tableIn (tgt := 1111) hx hb dL_law_39 (by decide) (by decide) rfl (by decide) ?_
        exact lc_place hlt hL hi3 hn hC hLS hl kont
      · refine lv_tableOut (tgt := 1167) hx hb dL_law_39 (Or.inr (by rw [nI_toInt (by omega)]; omega)) (by decide) ?_
        refine W.widen (k := 48 + 5 * (n + 1)) (n := 19726 + 30 * (n + 1)) (by omega) (by omega) ?_
        obtain ⟨rf, bk, hm, aw, tk, ce, hi, la, sn, sa, sb, sc, sd, kn, ka, kb, kc, kd, pt, fn, df, wn, mrf, mbk, mon, mhm, maw, mtk, mce, mhi, mla, msn, msa, msb, msc, msd, mkn, mka, mkb, mkc, mkd, mpt, mfn, mdf, mwv, mth, ou, hI, hP, hD, hS9⟩ := hLS
        exact kont H locs ls ⟨rf, bk, hm, aw, tk, ce, hi, la, sn, sa, sb, sc, sd, kn, ka, kb, kc, kd, pt, fn, df, wn, mrf, mbk, mon, mhm, maw, mtk, mce, mhi, mla, msn, msa, msb, msc, msd, mkn, mka, mkb, mkc, mkd, mpt, mfn, mdf, mwv, mth, ou, hI.step, hP, hD, hS9⟩ hl
