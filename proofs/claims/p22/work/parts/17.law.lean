/-- part: the script's int at k, or one made of k; its low bits, by n -/
noncomputable def ptV (xs : Nat → Int32) (L k : Nat) : Int32 := if L ≤ k then (431 * nI k) + ((283 * nI k) * nI k) else xs k
noncomputable def ptN (xs : Nat → Int32) (L k n : Nat) : Nat := ((ptV xs L k &&& 2147483647).toNatClampNeg) % n
theorem ptN_lt {xs : Nat → Int32} {L k n : Nat} (h : 0 < n) : ptN xs L k n < n := Nat.mod_lt _ h
theorem pt_eq {x : Int32} {n : Nat} (h0 : 0 < n) (h : n < 10000) : (x &&& 2147483647) - (x &&& 2147483647) / nI n * nI n = nI ((x &&& 2147483647).toNatClampNeg % n) := by
  obtain ⟨j, hj, e⟩ := pk_andE x (m := 2147483647) 31 (by decide)
  rw [e, nI_clamp hj]
  exact pk_rem hj h0 (by omega)
theorem pt_ne {n : Nat} (h0 : 0 < n) (h : n < 10000) : ¬ nI n = 0 := nI_ne0 h0 (by omega)
set_option maxHeartbeats 4000000 in
set_option maxRecDepth 100000 in
theorem c_L_part (l : Launch) (D : va_G) (cI cZ cJ cA : ClassId) (sz : Nat) (b L : Nat) (xs : Nat → Int32) (p1 : Nat) (p2 : Nat) (h1 : p1 < 1000) (h2 : 0 < p2 ∧ p2 < 10000) (hL : L < 2000) : Met l yL_part wsL_part ({ frames := 0, cells := 0, slots := 0, locals := 0 } : Room) (va_Pc [.ref b, .int (nI p1), .int (nI p2)] (pcS (fun q : Nat => sz ≤ q) (pcR D (tyL cI cZ cJ cA) [] sz) b L xs sz)) (va_Qi (fun (r : Int32) (u : Unit) => r = nI (ptN xs L p1 p2)) (fun _ _ => True) (fun q : Nat => sz ≤ q)) 0 0 (fun q : Nat => sz ≤ q) := by
  refine Met.ofW (cc := cL_part) (maxL := 4) (ret := (some .int)) (by decide) rfl ?_
  intro p e s m args below meth c s₁ B hml hv
  obtain ⟨rfl, ⟨hsz, hP, hK⟩, hbl, hbA, hX⟩ := hv
  have hx := B.exec
  have hb := B.bytes
  have hr := B.returns
  have hts := atoms_spec (ws := wsL_part) B.pre
  have hown : s.vm.findClass RL = some m.cls := findClass_of_methodNamed B.named
  have hlocks := B.notSynchronized
  subst hsz
  have hA : ∀ q : Nat, s.heap.size ≤ q → (fun q : Nat => s.heap.size ≤ q) q := fun _ h => h
  have hS : va_S (fun q : Nat => s.heap.size ≤ q) s.heap s.heap [] := va_S.rf
  have hP : va_P D vwCl [] s.heap := hP
  have hl := lv_entry ([.ref b, .int (nI p1), .int (nI p2)]) (n := 4) (Nat.le_of_ble_eq_true rfl)
  rw [lg_entry_eq]
  generalize (lg_sl ([.ref b, .int (nI p1), .int (nI p2)]) ++ List.replicate (4 - (lg_sl ([.ref b, .int (nI p1), .int (nI p2)])).length) Slot.unset).toArray = ls at hl ⊢
  have hl : lv_has ls 4 [(0, .ref b), (1, .int (nI p1)), (2, .int (nI p2))] := hl
  have hc_7 := hts (.constant RL 7 2147483647) (by decide +kernel)
  refine lv_iload_n hx hb dL_part_0 rfl (lv_at hl 1 rfl) ?_
  refine lv_aload_n hx hb dL_part_1 rfl (lv_at hl 0 rfl) ?_
  refine va_slen hx hb hX hbl hbA hS dL_part_2 ?_
  refine lv_icmp_ge (tgt := 12) hx hb dL_part_3 (by decide) (fun c_1 => ?_) (fun c_1 => ?_)
  · have hLk : L ≤ p1 := (nI_leI (a := L) (b := p1) (by omega) (by omega)).mp c_1
    refine lv_sipush (v := 431) hx hb dL_part_12 (by decide) ?_
    refine lv_iload_n hx hb dL_part_15 rfl (lv_at hl 1 rfl) ?_
    refine lv_imul hx hb dL_part_16 ?_
    refine lv_sipush (v := 283) hx hb dL_part_17 (by decide) ?_
    refine lv_iload_n hx hb dL_part_20 rfl (lv_at hl 1 rfl) ?_
    refine lv_imul hx hb dL_part_21 ?_
    refine lv_iload_n hx hb dL_part_22 rfl (lv_at hl 1 rfl) ?_
    refine lv_imul hx hb dL_part_23 ?_
    refine lv_iadd hx hb dL_part_24 ?_
    refine lv_istore_n (lv' := [(3, .int ((431 * (nI p1)) + ((283 * (nI p1)) * (nI p1)))), (0, .ref b), (1, .int (nI p1)), (2, .int (nI p2))]) hx hb dL_part_25 rfl hl (by decide) rfl (fun ls hl => ?_)
    refine lv_iload_n hx hb dL_part_26 rfl (lv_at hl 0 rfl) ?_
    refine lv_ldc (v := 2147483647) hx hb hown hc_7 dL_part_27 ?_
    refine lv_iand hx hb dL_part_29 ?_
    refine lv_iload_n hx hb dL_part_30 rfl (lv_at hl 3 rfl) ?_
    refine lv_irem hx hb dL_part_31 (pt_ne h2.1 h2.2) ?_
    -- leaf 0
    exact W.iret (v := (((431 * (nI p1)) + ((283 * (nI p1)) * (nI p1))) &&& 2147483647) - (((431 * (nI p1)) + ((283 * (nI p1)) * (nI p1))) &&& 2147483647) / (nI p2) * (nI p2)) hx hb hr (fun t ht hW => ⟨⟨(((431 * (nI p1)) + ((283 * (nI p1)) * (nI p1))) &&& 2147483647) - (((431 * (nI p1)) + ((283 * (nI p1)) * (nI p1))) &&& 2147483647) / (nI p2) * (nI p2), (), rfl, (by rw [ptN, ptV, if_pos hLk]; exact pt_eq h2.1 h2.2), trivial⟩, hS.F ht⟩) hS.2.2 dL_part_32
  · have hLk : ¬ L ≤ p1 := fun q => c_1 (nI_le (a := L) (b := p1) q (by omega))
    refine lv_aload_n hx hb dL_part_6 rfl (lv_at hl 0 rfl) ?_
    refine lv_iload_n hx hb dL_part_7 rfl (lv_at hl 1 rfl) ?_
    refine va_sld hx hb hX hbl hbA hS (vp_in_nI (n := p1) (by omega) (by omega)) dL_part_8 ?_
    refine tp_eq (y := xs p1) (by rw [nI_clamp (n := p1) (by omega)]) ?_
    refine lv_goto (tgt := 25) hx hb dL_part_9 (by decide) ?_
    refine lv_istore_n (lv' := [(3, .int (xs p1)), (0, .ref b), (1, .int (nI p1)), (2, .int (nI p2))]) hx hb dL_part_25 rfl hl (by decide) rfl (fun ls hl => ?_)
    refine lv_iload_n hx hb dL_part_26 rfl (lv_at hl 0 rfl) ?_
    refine lv_ldc (v := 2147483647) hx hb hown hc_7 dL_part_27 ?_
    refine lv_iand hx hb dL_part_29 ?_
    refine lv_iload_n hx hb dL_part_30 rfl (lv_at hl 3 rfl) ?_
    refine lv_irem hx hb dL_part_31 (pt_ne h2.1 h2.2) ?_
    -- leaf 1
    exact W.iret (v := ((xs p1) &&& 2147483647) - ((xs p1) &&& 2147483647) / (nI p2) * (nI p2)) hx hb hr (fun t ht hW => ⟨⟨((xs p1) &&& 2147483647) - ((xs p1) &&& 2147483647) / (nI p2) * (nI p2), (), rfl, (by rw [ptN, ptV, if_neg hLk]; exact pt_eq h2.1 h2.2), trivial⟩, hS.F ht⟩) hS.2.2 dL_part_32

noncomputable def f_L_isBunker (lb : Nat → Int32) (p1 : Nat) : Int32 := if (((lb (p1 / 12)) >>> ((nI (p1 % 12)) &&& 31)) &&& 1) = 1 then 1 else 0
set_option maxHeartbeats 4000000 in
set_option maxRecDepth 100000 in
theorem c_L_isBunker (l : Launch) (D : va_G) (cI cZ cJ cA : ClassId) (sz : Nat) (q : Nat → Nat) (lb : Nat → Int32) (p1 : Nat) (h1 : p1 < 144) : Met l yL_isBunker wsL_isBunker ({ frames := 0, cells := 0, slots := 0, locals := 0 } : Room) (va_Pc [.ref (q 0), .int (nI p1)] (pcR D (tyL cI cZ cJ cA) [((q 0), .inl (cI, 19, .inl lb))] sz)) (va_Qi (fun (r : Int32) (u : Unit) => r = f_L_isBunker lb p1) (fun _ _ => True) (fun q : Nat => sz ≤ q)) 0 0 (fun q : Nat => sz ≤ q) := by
  refine Met.ofW (cc := cL_isBunker) (maxL := 2) (ret := (some .boolean)) (by decide) rfl ?_
  intro p e s m args below meth c s₁ B hml hv
  obtain ⟨rfl, hsz, hP, hK⟩ := hv
  have hx := B.exec
  have hb := B.bytes
  have hr := B.returns
  have hts := atoms_spec (ws := wsL_isBunker) B.pre
  have hown : s.vm.findClass RL = some m.cls := findClass_of_methodNamed B.named
  have hlocks := B.notSynchronized
  subst hsz
  have hA : ∀ q : Nat, s.heap.size ≤ q → (fun q : Nat => s.heap.size ≤ q) q := fun _ h => h
  have hS : va_S (fun q : Nat => s.heap.size ≤ q) s.heap s.heap [] := va_S.rf
  have hP : va_P D vwCl [((q 0), .inl (cI, 19, .inl lb))] s.heap := hP
  have hl := lv_entry ([.ref (q 0), .int (nI p1)]) (n := 2) (Nat.le_of_ble_eq_true rfl)
  rw [lg_entry_eq]
  generalize (lg_sl ([.ref (q 0), .int (nI p1)]) ++ List.replicate (2 - (lg_sl ([.ref (q 0), .int (nI p1)])).length) Slot.unset).toArray = ls at hl ⊢
  have hl : lv_has ls 2 [(0, .ref (q 0)), (1, .int (nI p1))] := hl
  refine lv_aload_n hx hb dL_isBunker_0 rfl (lv_at hl 0 rfl) ?_
  refine lv_iload_n hx hb dL_isBunker_1 rfl (lv_at hl 1 rfl) ?_
  refine lv_bipush (v := 12) hx hb dL_isBunker_2 (by decide) ?_
  refine lv_idiv hx hb dL_isBunker_4 (by decide) ?_
  refine tp_eq (y := nI (p1 / 12)) (pk_div (a := p1) (d := 12) (by omega) (by omega) (by omega)) ?_
  refine va_iald hx hb hK hP 0 0 rfl rfl (vp_in_nI (n := (p1 / 12)) (by omega) (by decide)) dL_isBunker_5 ?_
  refine tp_eq (y := lb (p1 / 12)) (by rw [nI_clamp (n := (p1 / 12)) (by omega)]) ?_
  refine lv_iload_n hx hb dL_isBunker_6 rfl (lv_at hl 1 rfl) ?_
  refine lv_bipush (v := 12) hx hb dL_isBunker_7 (by decide) ?_
  refine lv_irem hx hb dL_isBunker_9 (by decide) ?_
  refine tp_eq (y := nI (p1 % 12)) (pk_rem (a := p1) (d := 12) (by omega) (by omega) (by omega)) ?_
  refine lv_ishr hx hb dL_isBunker_10 ?_
  refine lv_iconst (v := 1) hx hb dL_isBunker_11 (by decide) ?_
  refine lv_iand hx hb dL_isBunker_12 ?_
  refine lv_iconst (v := 1) hx hb dL_isBunker_13 (by decide) ?_
  refine lv_icmp_ne (tgt := 21) hx hb dL_isBunker_14 (by decide) (fun c_1 => ?_) (fun c_1 => ?_)
  · refine lv_iconst (v := 0) hx hb dL_isBunker_21 (by decide) ?_
    -- leaf 0
    exact W.zret (v := 0) (ty := .boolean) hx hb hr rfl (fun t ht hW => ⟨⟨0, (), rfl, (by rw [f_L_isBunker, if_neg c_1]), trivial⟩, hS.F ht⟩) hS.2.2 dL_isBunker_22
  · refine lv_iconst (v := 1) hx hb dL_isBunker_17 (by decide) ?_
    refine lv_goto (tgt := 22) hx hb dL_isBunker_18 (by decide) ?_
    -- leaf 1
    exact W.zret (v := 1) (ty := .boolean) hx hb hr rfl (fun t ht hW => ⟨⟨1, (), rfl, (by rw [f_L_isBunker, if_pos c_1]), trivial⟩, hS.F ht⟩) hS.2.2 dL_isBunker_22

/-- apart: the greater difference -/
def apN (p1 p2 : Nat) : Nat := max (max (p1 / 12 - p2 / 12) (p2 / 12 - p1 / 12)) (max (p1 % 12 - p2 % 12) (p2 % 12 - p1 % 12))
theorem apN_lt {p1 p2 : Nat} (h1 : p1 < 144) (h2 : p2 < 144) : apN p1 p2 < 12 := by unfold apN; omega
set_option maxHeartbeats 4000000 in
set_option maxRecDepth 100000 in
theorem c_L_apart (l : Launch) (D : va_G) (cI cZ cJ cA : ClassId) (sz : Nat) (p1 : Nat) (p2 : Nat) (h1 : p1 < 144) (h2 : p2 < 144) : Met l yL_apart wsL_apart ({ frames := 0, cells := 0, slots := 0, locals := 0 } : Room) (va_Pc [.int (nI p1), .int (nI p2)] (pcR D (tyL cI cZ cJ cA) [] sz)) (va_Qi (fun (r : Int32) (u : Unit) => r = nI (apN p1 p2)) (fun _ _ => True) (fun q : Nat => sz ≤ q)) 0 0 (fun q : Nat => sz ≤ q) := by
  refine Met.ofW (cc := cL_apart) (maxL := 4) (ret := (some .int)) (by decide) rfl ?_
  intro p e s m args below meth c s₁ B hml hv
  obtain ⟨rfl, hsz, hP, hK⟩ := hv
  have hx := B.exec
  have hb := B.bytes
  have hr := B.returns
  have hts := atoms_spec (ws := wsL_apart) B.pre
  have hown : s.vm.findClass RL = some m.cls := findClass_of_methodNamed B.named
  have hlocks := B.notSynchronized
  subst hsz
  have hA : ∀ q : Nat, s.heap.size ≤ q → (fun q : Nat => s.heap.size ≤ q) q := fun _ h => h
  have hS : va_S (fun q : Nat => s.heap.size ≤ q) s.heap s.heap [] := va_S.rf
  have hP : va_P D vwCl [] s.heap := hP
  have hl := lv_entry ([.int (nI p1), .int (nI p2)]) (n := 4) (Nat.le_of_ble_eq_true rfl)
  rw [lg_entry_eq]
  generalize (lg_sl ([.int (nI p1), .int (nI p2)]) ++ List.replicate (4 - (lg_sl ([.int (nI p1), .int (nI p2)])).length) Slot.unset).toArray = ls at hl ⊢
  have hl : lv_has ls 4 [(0, .int (nI p1)), (1, .int (nI p2))] := hl
  refine lv_iload_n hx hb dL_apart_0 rfl (lv_at hl 0 rfl) ?_
  refine lv_bipush (v := 12) hx hb dL_apart_1 (by decide) ?_
  refine lv_idiv hx hb dL_apart_3 (by decide) ?_
  refine tp_eq (y := nI (p1 / 12)) (pk_div (a := p1) (d := 12) (by omega) (by omega) (by omega)) ?_
  refine lv_iload_n hx hb dL_apart_4 rfl (lv_at hl 1 rfl) ?_
  refine lv_bipush (v := 12) hx hb dL_apart_5 (by decide) ?_
  refine lv_idiv hx hb dL_apart_7 (by decide) ?_
  refine tp_eq (y := nI (p2 / 12)) (pk_div (a := p2) (d := 12) (by omega) (by omega) (by omega)) ?_
  refine lv_icmp_le (tgt := 23) hx hb dL_apart_8 (by decide) (fun c_1 => ?_) (fun c_1 => ?_)
  · have nc_1 : (p1 / 12) ≤ (p2 / 12) := (nI_leI (a := (p1 / 12)) (b := (p2 / 12)) (by omega) (by omega)).mp c_1
    refine lv_iload_n hx hb dL_apart_23 rfl (lv_at hl 1 rfl) ?_
    refine lv_bipush (v := 12) hx hb dL_apart_24 (by decide) ?_
    refine lv_idiv hx hb dL_apart_26 (by decide) ?_
    refine tp_eq (y := nI (p2 / 12)) (pk_div (a := p2) (d := 12) (by omega) (by omega) (by omega)) ?_
    refine lv_iload_n hx hb dL_apart_27 rfl (lv_at hl 0 rfl) ?_
    refine lv_bipush (v := 12) hx hb dL_apart_28 (by decide) ?_
    refine lv_idiv hx hb dL_apart_30 (by decide) ?_
    refine tp_eq (y := nI (p1 / 12)) (pk_div (a := p1) (d := 12) (by omega) (by omega) (by omega)) ?_
    refine lv_isub hx hb dL_apart_31 ?_
    refine tp_eq (y := nI (((p2 / 12)) - ((p1 / 12)))) (pk_sub (by omega)) ?_
    refine lv_istore_n (lv' := [(2, .int (nI (((p2 / 12)) - ((p1 / 12))))), (0, .int (nI p1)), (1, .int (nI p2))]) hx hb dL_apart_32 rfl hl (by decide) rfl (fun ls hl => ?_)
    refine lv_iload_n hx hb dL_apart_33 rfl (lv_at hl 1 rfl) ?_
    refine lv_bipush (v := 12) hx hb dL_apart_34 (by decide) ?_
    refine lv_irem hx hb dL_apart_36 (by decide) ?_
    refine tp_eq (y := nI (p1 % 12)) (pk_rem (a := p1) (d := 12) (by omega) (by omega) (by omega)) ?_
    refine lv_iload_n hx hb dL_apart_37 rfl (lv_at hl 2 rfl) ?_
    refine lv_bipush (v := 12) hx hb dL_apart_38 (by decide) ?_
    refine lv_irem hx hb dL_apart_40 (by decide) ?_
    refine tp_eq (y := nI (p2 % 12)) (pk_rem (a := p2) (d := 12) (by omega) (by omega) (by omega)) ?_
    refine lv_icmp_le (tgt := 56) hx hb dL_apart_41 (by decide) (fun c_2 => ?_) (fun c_2 => ?_)
    · have nc_2 : (p1 % 12) ≤ (p2 % 12) := (nI_leI (a := (p1 % 12)) (b := (p2 % 12)) (by omega) (by omega)).mp c_2
      refine lv_iload_n hx hb dL_apart_56 rfl (lv_at hl 2 rfl) ?_
      refine lv_bipush (v := 12) hx hb dL_apart_57 (by decide) ?_
      refine lv_irem hx hb dL_apart_59 (by decide) ?_
      refine tp_eq (y := nI (p2 % 12)) (pk_rem (a := p2) (d := 12) (by omega) (by omega) (by omega)) ?_
      refine lv_iload_n hx hb dL_apart_60 rfl (lv_at hl 1 rfl) ?_
      refine lv_bipush (v := 12) hx hb dL_apart_61 (by decide) ?_
      refine lv_irem hx hb dL_apart_63 (by decide) ?_
      refine tp_eq (y := nI (p1 % 12)) (pk_rem (a := p1) (d := 12) (by omega) (by omega) (by omega)) ?_
      refine lv_isub hx hb dL_apart_64 ?_
      refine tp_eq (y := nI (((p2 % 12)) - ((p1 % 12)))) (pk_sub (by omega)) ?_
      refine lv_istore_n (lv' := [(3, .int (nI (((p2 % 12)) - ((p1 % 12))))), (2, .int (nI (((p2 / 12)) - ((p1 / 12))))), (0, .int (nI p1)), (1, .int (nI p2))]) hx hb dL_apart_65 rfl hl (by decide) rfl (fun ls hl => ?_)
      refine lv_iload_n hx hb dL_apart_66 rfl (lv_at hl 1 rfl) ?_
      refine lv_iload_n hx hb dL_apart_67 rfl (lv_at hl 0 rfl) ?_
      refine lv_icmp_le (tgt := 75) hx hb dL_apart_68 (by decide) (fun c_3 => ?_) (fun c_3 => ?_)
      · have nc_3 : (((p2 / 12)) - ((p1 / 12))) ≤ (((p2 % 12)) - ((p1 % 12))) := (nI_leI (a := (((p2 / 12)) - ((p1 / 12)))) (b := (((p2 % 12)) - ((p1 % 12)))) (by omega) (by omega)).mp c_3
        refine lv_iload_n hx hb dL_apart_75 rfl (lv_at hl 0 rfl) ?_
        -- leaf 0
        exact W.iret (v := nI (((p2 % 12)) - ((p1 % 12)))) hx hb hr (fun t ht hW => ⟨⟨nI (((p2 % 12)) - ((p1 % 12))), (), rfl, (by congr 1; unfold apN; omega), trivial⟩, hS.F ht⟩) hS.2.2 dL_apart_76
      · have nc_3 : ¬ (((p2 / 12)) - ((p1 / 12))) ≤ (((p2 % 12)) - ((p1 % 12))) := fun q => c_3 ((nI_leI (a := (((p2 / 12)) - ((p1 / 12)))) (b := (((p2 % 12)) - ((p1 % 12)))) (by omega) (by omega)).mpr q)
        refine lv_iload_n hx hb dL_apart_71 rfl (lv_at hl 1 rfl) ?_
        refine lv_goto (tgt := 76) hx hb dL_apart_72 (by decide) ?_
        -- leaf 1
        exact W.iret (v := nI (((p2 / 12)) - ((p1 / 12)))) hx hb hr (fun t ht hW => ⟨⟨nI (((p2 / 12)) - ((p1 / 12))), (), rfl, (by congr 1; unfold apN; omega), trivial⟩, hS.F ht⟩) hS.2.2 dL_apart_76
    · have nc_2 : ¬ (p1 % 12) ≤ (p2 % 12) := fun q => c_2 ((nI_leI (a := (p1 % 12)) (b := (p2 % 12)) (by omega) (by omega)).mpr q)
      refine lv_iload_n hx hb dL_apart_44 rfl (lv_at hl 1 rfl) ?_
      refine lv_bipush (v := 12) hx hb dL_apart_45 (by decide) ?_
      refine lv_irem hx hb dL_apart_47 (by decide) ?_
      refine tp_eq (y := nI (p1 % 12)) (pk_rem (a := p1) (d := 12) (by omega) (by omega) (by omega)) ?_
      refine lv_iload_n hx hb dL_apart_48 rfl (lv_at hl 2 rfl) ?_
      refine lv_bipush (v := 12) hx hb dL_apart_49 (by decide) ?_
      refine lv_irem hx hb dL_apart_51 (by decide) ?_
      refine tp_eq (y := nI (p2 % 12)) (pk_rem (a := p2) (d := 12) (by omega) (by omega) (by omega)) ?_
      refine lv_isub hx hb dL_apart_52 ?_
      refine lv_goto (tgt := 65) hx hb dL_apart_53 (by decide) ?_
      refine tp_eq (y := nI (((p1 % 12)) - ((p2 % 12)))) (pk_sub (by omega)) ?_
      refine lv_istore_n (lv' := [(3, .int (nI (((p1 % 12)) - ((p2 % 12))))), (2, .int (nI (((p2 / 12)) - ((p1 / 12))))), (0, .int (nI p1)), (1, .int (nI p2))]) hx hb dL_apart_65 rfl hl (by decide) rfl (fun ls hl => ?_)
      refine lv_iload_n hx hb dL_apart_66 rfl (lv_at hl 1 rfl) ?_
      refine lv_iload_n hx hb dL_apart_67 rfl (lv_at hl 0 rfl) ?_
      refine lv_icmp_le (tgt := 75) hx hb dL_apart_68 (by decide) (fun c_4 => ?_) (fun c_4 => ?_)
      · have nc_4 : (((p2 / 12)) - ((p1 / 12))) ≤ (((p1 % 12)) - ((p2 % 12))) := (nI_leI (a := (((p2 / 12)) - ((p1 / 12)))) (b := (((p1 % 12)) - ((p2 % 12)))) (by omega) (by omega)).mp c_4
        refine lv_iload_n hx hb dL_apart_75 rfl (lv_at hl 0 rfl) ?_
        -- leaf 2
        exact W.iret (v := nI (((p1 % 12)) - ((p2 % 12)))) hx hb hr (fun t ht hW => ⟨⟨nI (((p1 % 12)) - ((p2 % 12))), (), rfl, (by congr 1; unfold apN; omega), trivial⟩, hS.F ht⟩) hS.2.2 dL_apart_76
      · have nc_4 : ¬ (((p2 / 12)) - ((p1 / 12))) ≤ (((p1 % 12)) - ((p2 % 12))) := fun q => c_4 ((nI_leI (a := (((p2 / 12)) - ((p1 / 12)))) (b := (((p1 % 12)) - ((p2 % 12)))) (by omega) (by omega)).mpr q)
        refine lv_iload_n hx hb dL_apart_71 rfl (lv_at hl 1 rfl) ?_
        refine lv_goto (tgt := 76) hx hb dL_apart_72 (by decide) ?_
        -- leaf 3
        exact W.iret (v := nI (((p2 / 12)) - ((p1 / 12)))) hx hb hr (fun t ht hW => ⟨⟨nI (((p2 / 12)) - ((p1 / 12))), (), rfl, (by congr 1; unfold apN; omega), trivial⟩, hS.F ht⟩) hS.2.2 dL_apart_76
  · have nc_1 : ¬ (p1 / 12) ≤ (p2 / 12) := fun q => c_1 ((nI_leI (a := (p1 / 12)) (b := (p2 / 12)) (by omega) (by omega)).mpr q)
    refine lv_iload_n hx hb dL_apart_11 rfl (lv_at hl 0 rfl) ?_
    refine lv_bipush (v := 12) hx hb dL_apart_12 (by decide) ?_
    refine lv_idiv hx hb dL_apart_14 (by decide) ?_
    refine tp_eq (y := nI (p1 / 12)) (pk_div (a := p1) (d := 12) (by omega) (by omega) (by omega)) ?_
    refine lv_iload_n hx hb dL_apart_15 rfl (lv_at hl 1 rfl) ?_
    refine lv_bipush (v := 12) hx hb dL_apart_16 (by decide) ?_
    refine lv_idiv hx hb dL_apart_18 (by decide) ?_
    refine tp_eq (y := nI (p2 / 12)) (pk_div (a := p2) (d := 12) (by omega) (by omega) (by omega)) ?_
    refine lv_isub hx hb dL_apart_19 ?_
    refine lv_goto (tgt := 32) hx hb dL_apart_20 (by decide) ?_
    refine tp_eq (y := nI (((p1 / 12)) - ((p2 / 12)))) (pk_sub (by omega)) ?_
    refine lv_istore_n (lv' := [(2, .int (nI (((p1 / 12)) - ((p2 / 12))))), (0, .int (nI p1)), (1, .int (nI p2))]) hx hb dL_apart_32 rfl hl (by decide) rfl (fun ls hl => ?_)
    refine lv_iload_n hx hb dL_apart_33 rfl (lv_at hl 1 rfl) ?_
    refine lv_bipush (v := 12) hx hb dL_apart_34 (by decide) ?_
    refine lv_irem hx hb dL_apart_36 (by decide) ?_
    refine tp_eq (y := nI (p1 % 12)) (pk_rem (a := p1) (d := 12) (by omega) (by omega) (by omega)) ?_
    refine lv_iload_n hx hb dL_apart_37 rfl (lv_at hl 2 rfl) ?_
    refine lv_bipush (v := 12) hx hb dL_apart_38 (by decide) ?_
    refine lv_irem hx hb dL_apart_40 (by decide) ?_
    refine tp_eq (y := nI (p2 % 12)) (pk_rem (a := p2) (d := 12) (by omega) (by omega) (by omega)) ?_
    refine lv_icmp_le (tgt := 56) hx hb dL_apart_41 (by decide) (fun c_5 => ?_) (fun c_5 => ?_)
    · have nc_5 : (p1 % 12) ≤ (p2 % 12) := (nI_leI (a := (p1 % 12)) (b := (p2 % 12)) (by omega) (by omega)).mp c_5
      refine lv_iload_n hx hb dL_apart_56 rfl (lv_at hl 2 rfl) ?_
      refine lv_bipush (v := 12) hx hb dL_apart_57 (by decide) ?_
      refine lv_irem hx hb dL_apart_59 (by decide) ?_
      refine tp_eq (y := nI (p2 % 12)) (pk_rem (a := p2) (d := 12) (by omega) (by omega) (by omega)) ?_
      refine lv_iload_n hx hb dL_apart_60 rfl (lv_at hl 1 rfl) ?_
      refine lv_bipush (v := 12) hx hb dL_apart_61 (by decide) ?_
      refine lv_irem hx hb dL_apart_63 (by decide) ?_
      refine tp_eq (y := nI (p1 % 12)) (pk_rem (a := p1) (d := 12) (by omega) (by omega) (by omega)) ?_
      refine lv_isub hx hb dL_apart_64 ?_
      refine tp_eq (y := nI (((p2 % 12)) - ((p1 % 12)))) (pk_sub (by omega)) ?_
      refine lv_istore_n (lv' := [(3, .int (nI (((p2 % 12)) - ((p1 % 12))))), (2, .int (nI (((p1 / 12)) - ((p2 / 12))))), (0, .int (nI p1)), (1, .int (nI p2))]) hx hb dL_apart_65 rfl hl (by decide) rfl (fun ls hl => ?_)
      refine lv_iload_n hx hb dL_apart_66 rfl (lv_at hl 1 rfl) ?_
      refine lv_iload_n hx hb dL_apart_67 rfl (lv_at hl 0 rfl) ?_
      refine lv_icmp_le (tgt := 75) hx hb dL_apart_68 (by decide) (fun c_6 => ?_) (fun c_6 => ?_)
      · have nc_6 : (((p1 / 12)) - ((p2 / 12))) ≤ (((p2 % 12)) - ((p1 % 12))) := (nI_leI (a := (((p1 / 12)) - ((p2 / 12)))) (b := (((p2 % 12)) - ((p1 % 12)))) (by omega) (by omega)).mp c_6
        refine lv_iload_n hx hb dL_apart_75 rfl (lv_at hl 0 rfl) ?_
        -- leaf 4
        exact W.iret (v := nI (((p2 % 12)) - ((p1 % 12)))) hx hb hr (fun t ht hW => ⟨⟨nI (((p2 % 12)) - ((p1 % 12))), (), rfl, (by congr 1; unfold apN; omega), trivial⟩, hS.F ht⟩) hS.2.2 dL_apart_76
      · have nc_6 : ¬ (((p1 / 12)) - ((p2 / 12))) ≤ (((p2 % 12)) - ((p1 % 12))) := fun q => c_6 ((nI_leI (a := (((p1 / 12)) - ((p2 / 12)))) (b := (((p2 % 12)) - ((p1 % 12)))) (by omega) (by omega)).mpr q)
        refine lv_iload_n hx hb dL_apart_71 rfl (lv_at hl 1 rfl) ?_
        refine lv_goto (tgt := 76) hx hb dL_apart_72 (by decide) ?_
        -- leaf 5
        exact W.iret (v := nI (((p1 / 12)) - ((p2 / 12)))) hx hb hr (fun t ht hW => ⟨⟨nI (((p1 / 12)) - ((p2 / 12))), (), rfl, (by congr 1; unfold apN; omega), trivial⟩, hS.F ht⟩) hS.2.2 dL_apart_76
    · have nc_5 : ¬ (p1 % 12) ≤ (p2 % 12) := fun q => c_5 ((nI_leI (a := (p1 % 12)) (b := (p2 % 12)) (by omega) (by omega)).mpr q)
      refine lv_iload_n hx hb dL_apart_44 rfl (lv_at hl 1 rfl) ?_
      refine lv_bipush (v := 12) hx hb dL_apart_45 (by decide) ?_
      refine lv_irem hx hb dL_apart_47 (by decide) ?_
      refine tp_eq (y := nI (p1 % 12)) (pk_rem (a := p1) (d := 12) (by omega) (by omega) (by omega)) ?_
      refine lv_iload_n hx hb dL_apart_48 rfl (lv_at hl 2 rfl) ?_
      refine lv_bipush (v := 12) hx hb dL_apart_49 (by decide) ?_
      refine lv_irem hx hb dL_apart_51 (by decide) ?_
      refine tp_eq (y := nI (p2 % 12)) (pk_rem (a := p2) (d := 12) (by omega) (by omega) (by omega)) ?_
      refine lv_isub hx hb dL_apart_52 ?_
      refine lv_goto (tgt := 65) hx hb dL_apart_53 (by decide) ?_
      refine tp_eq (y := nI (((p1 % 12)) - ((p2 % 12)))) (pk_sub (by omega)) ?_
      refine lv_istore_n (lv' := [(3, .int (nI (((p1 % 12)) - ((p2 % 12))))), (2, .int (nI (((p1 / 12)) - ((p2 / 12))))), (0, .int (nI p1)), (1, .int (nI p2))]) hx hb dL_apart_65 rfl hl (by decide) rfl (fun ls hl => ?_)
      refine lv_iload_n hx hb dL_apart_66 rfl (lv_at hl 1 rfl) ?_
      refine lv_iload_n hx hb dL_apart_67 rfl (lv_at hl 0 rfl) ?_
      refine lv_icmp_le (tgt := 75) hx hb dL_apart_68 (by decide) (fun c_7 => ?_) (fun c_7 => ?_)
      · have nc_7 : (((p1 / 12)) - ((p2 / 12))) ≤ (((p1 % 12)) - ((p2 % 12))) := (nI_leI (a := (((p1 / 12)) - ((p2 / 12)))) (b := (((p1 % 12)) - ((p2 % 12)))) (by omega) (by omega)).mp c_7
        refine lv_iload_n hx hb dL_apart_75 rfl (lv_at hl 0 rfl) ?_
        -- leaf 6
        exact W.iret (v := nI (((p1 % 12)) - ((p2 % 12)))) hx hb hr (fun t ht hW => ⟨⟨nI (((p1 % 12)) - ((p2 % 12))), (), rfl, (by congr 1; unfold apN; omega), trivial⟩, hS.F ht⟩) hS.2.2 dL_apart_76
      · have nc_7 : ¬ (((p1 / 12)) - ((p2 / 12))) ≤ (((p1 % 12)) - ((p2 % 12))) := fun q => c_7 ((nI_leI (a := (((p1 / 12)) - ((p2 / 12)))) (b := (((p1 % 12)) - ((p2 % 12)))) (by omega) (by omega)).mpr q)
        refine lv_iload_n hx hb dL_apart_71 rfl (lv_at hl 1 rfl) ?_
        refine lv_goto (tgt := 76) hx hb dL_apart_72 (by decide) ?_
        -- leaf 7
        exact W.iret (v := nI (((p1 / 12)) - ((p2 / 12)))) hx hb hr (fun t ht hW => ⟨⟨nI (((p1 / 12)) - ((p2 / 12))), (), rfl, (by congr 1; unfold apN; omega), trivial⟩, hS.F ht⟩) hS.2.2 dL_apart_76

noncomputable def j_L_isFree_13 (lb : Nat → Int32) (p1 : Nat) : Int32 := if (f_L_isBunker lb p1) = 0 then 1 else 0
theorem zj_L_isFree_13 {lb : Nat → Int32} {p1 : Nat} : j_L_isFree_13 lb p1 = 0 ∨ j_L_isFree_13 lb p1 = 1 := by
  unfold j_L_isFree_13
  (repeat' split) <;> first | exact Or.inl rfl | exact Or.inr rfl
theorem tj_L_isFree_13 {lb : Nat → Int32} {p1 : Nat} (h : ¬ j_L_isFree_13 lb p1 = 0) : ((f_L_isBunker lb p1) = 0) := by
  unfold j_L_isFree_13 at h
  (repeat' split at h) <;> first | exact absurd rfl h | assumption
noncomputable def j_L_isFree_41 (v : Int32) (lp : Nat → Int32) (i : Nat) (p1 : Nat) : Int32 := if v = 0 then 0 else (if (lp i) = (nI p1) then 0 else 1)
theorem zj_L_isFree_41 {v : Int32} {lp : Nat → Int32} {i : Nat} {p1 : Nat} : j_L_isFree_41 v lp i p1 = 0 ∨ j_L_isFree_41 v lp i p1 = 1 := by
  unfold j_L_isFree_41
  (repeat' split) <;> first | exact Or.inl rfl | exact Or.inr rfl
theorem tj_L_isFree_41 {v : Int32} {lp : Nat → Int32} {i : Nat} {p1 : Nat} (h : ¬ j_L_isFree_41 v lp i p1 = 0) : ¬ (v = 0) ∧ ¬ ((lp i) = (nI p1)) := by
  unfold j_L_isFree_41 at h
  (repeat' split at h) <;> first | exact absurd rfl h | exact ⟨by assumption, by assumption⟩
/-- isFree: no bunker, and none of the first n stands there -/
noncomputable def frN (lb lp : Nat → Int32) (p1 : Nat) : Nat → Int32
  | 0 => j_L_isFree_13 lb p1
  | n + 1 => j_L_isFree_41 (frN lb lp p1 n) lp n p1
termination_by n => n
theorem frN_01 (lb lp : Nat → Int32) (p1 n : Nat) : frN lb lp p1 n = 0 ∨ frN lb lp p1 n = 1 := by
  cases n with
  | zero => rw [frN]; exact zj_L_isFree_13
  | succ n => rw [frN]; exact zj_L_isFree_41
set_option maxHeartbeats 4000000 in
set_option maxRecDepth 100000 in
theorem c_L_isFree (l : Launch) (D : va_G) (cI cZ cJ cA : ClassId) (sz : Nat) (q : Nat → Nat) (lb : Nat → Int32) (lp : Nat → Int32) (p1 : Nat) (h1 : p1 < 144) : Met l yL_isFree wsL_isFree ({ frames := 1, cells := 0, slots := 0, locals := 21 } : Room) (va_Pc [.ref (q 0), .ref (q 1), .int (nI p1)] (pcR D (tyL cI cZ cJ cA) [((q 0), .inl (cI, 19, .inl lb)), ((q 1), .inl (cI, 18, .inl lp))] sz)) (va_Qi (fun (r : Int32) (u : Unit) => r = frN lb lp p1 6) (fun _ _ => True) (fun q : Nat => sz ≤ q)) 0 0 (fun q : Nat => sz ≤ q) := by
  refine Met.ofW (cc := cL_isFree) (maxL := 5) (ret := (some .boolean)) (by decide) rfl ?_
  intro p e s m args below meth c s₁ B hml hv
  obtain ⟨rfl, hsz, hP, hK⟩ := hv
  have hx := B.exec
  have hb := B.bytes
  have hr := B.returns
  have hts := atoms_spec (ws := wsL_isFree) B.pre
  have hown : s.vm.findClass RL = some m.cls := findClass_of_methodNamed B.named
  have hlocks := B.notSynchronized
  subst hsz
  have hA : ∀ q : Nat, s.heap.size ≤ q → (fun q : Nat => s.heap.size ≤ q) q := fun _ h => h
  have hS : va_S (fun q : Nat => s.heap.size ≤ q) s.heap s.heap [] := va_S.rf
  have hP : va_P D vwCl [((q 0), .inl (cI, 19, .inl lb)), ((q 1), .inl (cI, 18, .inl lp))] s.heap := hP
  have hl := lv_entry ([.ref (q 0), .ref (q 1), .int (nI p1)]) (n := 5) (Nat.le_of_ble_eq_true rfl)
  rw [lg_entry_eq]
  generalize (lg_sl ([.ref (q 0), .ref (q 1), .int (nI p1)]) ++ List.replicate (5 - (lg_sl ([.ref (q 0), .ref (q 1), .int (nI p1)])).length) Slot.unset).toArray = ls at hl ⊢
  have hl : lv_has ls 5 [(0, .ref (q 0)), (1, .ref (q 1)), (2, .int (nI p1))] := hl
  refine jn_w (cells2 := 0) (slots2 := 0) (fun H locs ls => va_P D vwCl [((q 0), .inl (cI, 19, .inl lb)), ((q 1), .inl (cI, 18, .inl lp))] H ∧ va_S (fun q : Nat => s.heap.size ≤ q) s.heap H locs ∧ lv_has ls 5 [(0, .ref (q 0)), (1, .ref (q 1)), (2, .int (nI p1))]) (pc2 := 13) (st2 := []) (j_L_isFree_13 lb p1) (fun jn_0 => ?_) ?_
  · refine lv_aload_n hx hb dL_isFree_0 rfl (lv_at hl 0 rfl) ?_
    refine lv_iload_n hx hb dL_isFree_1 rfl (lv_at hl 2 rfl) ?_
    have hPc := hP.sub (ws' := [((q 0), .inl (cI, 19, .inl lb))]) [0] rfl
    refine va_calli (va_runS (As := [.ref (q 0), .int (nI p1)]) (rest := []) ⟨hx, hb, hml, hown, hts⟩ (c_L_isBunker l D cI cZ cJ cA s.heap.size q lb p1 (by first | assumption | omega)) (va_cwS 2 hts gL_isFree_L_isBunker rfl rfl rfl (by decide +kernel) ⟨Nat.le_of_ble_eq_true rfl, Nat.le_of_ble_eq_true rfl⟩) ⟨pcR_bl, fun U hU hW => ⟨rfl, by rw [hU], by rw [hU]; exact hPc, va_K.moved hW.alike hK⟩⟩ rfl rfl hl.1 rfl (lv_room (Nat.le_of_ble_eq_true rfl)) dL_isFree_2 ⟨Nat.le_of_ble_eq_true rfl, Nat.le_of_ble_eq_true rfl⟩) hS (fun _ h1 h2 => absurd h1 (Nat.not_lt.mpr h2)) (rd_free hS hA) (fun r_1 u t H locs ht hvm hw hB hz1 hk1 hS => ?_)
    try dsimp only at hw
    have hr_1 := hw
    have hP := rd_P hP hk1
    obtain rfl := hr_1.symm
    refine W.widen (k := 0) (n := 0) (Nat.le_refl _) (Nat.le_refl _) ?_
    refine lv_if_ne (tgt := 12) hx hb dL_isFree_5 (by decide) (fun c_2 => ?_) (fun c_2 => ?_)
    · refine lv_iconst (v := 0) hx hb dL_isFree_12 (by decide) ?_
      refine W.widen (k := 0) (n := 0) (Nat.le_of_ble_eq_true rfl) (Nat.le_of_ble_eq_true rfl) ?_
      refine tp_eq (y := j_L_isFree_13 lb p1) (by rw [j_L_isFree_13, if_neg c_2]) ?_
      exact jn_0 _ _ _ ⟨hP, hS, lv_sub hl [0, 1, 2] rfl⟩
    · refine lv_iconst (v := 1) hx hb dL_isFree_8 (by decide) ?_
      refine lv_goto (tgt := 13) hx hb dL_isFree_9 (by decide) ?_
      refine W.widen (k := 0) (n := 0) (Nat.le_of_ble_eq_true rfl) (Nat.le_of_ble_eq_true rfl) ?_
      refine tp_eq (y := j_L_isFree_13 lb p1) (by rw [j_L_isFree_13, if_pos c_2]) ?_
      exact jn_0 _ _ _ ⟨hP, hS, lv_sub hl [0, 1, 2] rfl⟩
  · intro H locs ls hI
    obtain ⟨hP, hS, hl⟩ := hI
    have hl : lv_has ls 5 [(0, .ref (q 0)), (1, .ref (q 1)), (2, .int (nI p1))] := hl
    have hP : va_P D vwCl [((q 0), .inl (cI, 19, .inl lb)), ((q 1), .inl (cI, 18, .inl lp))] H := hP
    refine lv_istore_n (lv' := [(3, .int (j_L_isFree_13 lb p1)), (0, .ref (q 0)), (1, .ref (q 1)), (2, .int (nI p1))]) hx hb dL_isFree_13 rfl hl (by decide) rfl (fun ls hl => ?_)
    refine lv_iconst (v := 0) hx hb dL_isFree_14 (by decide) ?_
    refine lv_istore (lv' := [(4, .int 0), (3, .int (j_L_isFree_13 lb p1)), (0, .ref (q 0)), (1, .ref (q 1)), (2, .int (nI p1))]) hx hb dL_isFree_15 hl (by decide) rfl (fun ls hl => ?_)
    refine lpW (σ := (Nat) × (Int32)) (I := fun x H locs ls => va_P D vwCl [((q 0), .inl (cI, 19, .inl lb)), ((q 1), .inl (cI, 18, .inl lp))] H ∧ va_S (fun q : Nat => s.heap.size ≤ q) s.heap H locs ∧ lv_has ls 5 [(0, .ref (q 0)), (1, .ref (q 1)), (2, .int (nI p1)), (3, .int x.2), (4, .int (nI x.1))] ∧ (x.1 ≤ 6) ∧ (x.2 = frN lb lp p1 x.1)) (μ := fun x => 6 - x.1) ?_ (0, j_L_isFree_13 lb p1) ⟨hP, hS, lv_sub hl [2, 3, 4, 1, 0] rfl, (Nat.zero_le _), (by rw [frN])⟩
    intro x H locs ls hI ih
    obtain ⟨i, v⟩ := x
    obtain ⟨hP, hS, hl, hq_hi, hq_hv⟩ := hI
    have ih_17 := ih
    have hl : lv_has ls 5 [(0, .ref (q 0)), (1, .ref (q 1)), (2, .int (nI p1)), (3, .int v), (4, .int (nI i))] := hl
    have hP : va_P D vwCl [((q 0), .inl (cI, 19, .inl lb)), ((q 1), .inl (cI, 18, .inl lp))] H := hP
    have hi : i ≤ 6 := hq_hi
    have hv : v = frN lb lp p1 i := hq_hv
    clear hq_hi hq_hv
    refine lv_iload hx hb dL_isFree_17 (lv_at hl 4 rfl) ?_
    refine lv_bipush (v := 6) hx hb dL_isFree_19 (by decide) ?_
    refine lv_icmp_ge (tgt := 48) hx hb dL_isFree_21 (by decide) (fun c_3 => ?_) (fun c_3 => ?_)
    · have nc_3 : 6 ≤ i := (nI_leI (a := 6) (b := i) (by omega) (by omega)).mp c_3
      have he_21 : i = 6 := bd_eq (N := 6) (by decide) hi c_3
      refine lv_iload_n hx hb dL_isFree_48 rfl (lv_at hl 3 rfl) ?_
      -- leaf 0
      refine W.widen (k := 0) (n := 0) (Nat.le_of_ble_eq_true rfl) (Nat.le_of_ble_eq_true rfl) ?_
      exact W.zret (v := v) (ty := .boolean) hx hb hr (nz01 (by rw [hv]; exact frN_01 _ _ _ _)) (fun t ht hW => ⟨⟨v, (), rfl, (by rw [hv, he_21]), trivial⟩, hS.F ht⟩) hS.2.2 dL_isFree_49
    · have nc_3 : ¬ 6 ≤ i := fun q => c_3 ((nI_leI (a := 6) (b := i) (by omega) (by omega)).mpr q)
      have hlt_21 : i < 6 := bd_lt (N := 6) (by decide) hi c_3
      refine jn_w (cells2 := 0) (slots2 := 0) (fun H locs ls => va_P D vwCl [((q 0), .inl (cI, 19, .inl lb)), ((q 1), .inl (cI, 18, .inl lp))] H ∧ va_S (fun q : Nat => s.heap.size ≤ q) s.heap H locs ∧ lv_has ls 5 [(0, .ref (q 0)), (1, .ref (q 1)), (2, .int (nI p1)), (3, .int v), (4, .int (nI i))]) (pc2 := 41) (st2 := []) (j_L_isFree_41 v lp i p1) (fun jn_24 => ?_) ?_
      · refine lv_iload_n hx hb dL_isFree_24 rfl (lv_at hl 3 rfl) ?_
        refine lv_if_eq (tgt := 40) hx hb dL_isFree_25 (by decide) (fun c_4 => ?_) (fun c_4 => ?_)
        · refine lv_iconst (v := 0) hx hb dL_isFree_40 (by decide) ?_
          refine W.widen (k := 0) (n := 0) (Nat.le_of_ble_eq_true rfl) (Nat.le_of_ble_eq_true rfl) ?_
          refine tp_eq (y := j_L_isFree_41 v lp i p1) (by rw [j_L_isFree_41, if_pos c_4]) ?_
          exact jn_24 _ _ _ ⟨hP, hS, lv_sub hl [0, 1, 2, 3, 4] rfl⟩
        · refine lv_aload_n hx hb dL_isFree_28 rfl (lv_at hl 1 rfl) ?_
          refine lv_iload hx hb dL_isFree_29 (lv_at hl 4 rfl) ?_
          refine va_iald hx hb hK hP 1 0 rfl rfl (vp_in_nI (n := i) (by omega) (by decide)) dL_isFree_31 ?_
          refine tp_eq (y := lp i) (by rw [nI_clamp (n := i) (by omega)]) ?_
          refine lv_iload_n hx hb dL_isFree_32 rfl (lv_at hl 2 rfl) ?_
          refine lv_icmp_eq (tgt := 40) hx hb dL_isFree_33 (by decide) (fun c_5 => ?_) (fun c_5 => ?_)
          · refine lv_iconst (v := 0) hx hb dL_isFree_40 (by decide) ?_
            refine W.widen (k := 0) (n := 0) (Nat.le_of_ble_eq_true rfl) (Nat.le_of_ble_eq_true rfl) ?_
            refine tp_eq (y := j_L_isFree_41 v lp i p1) (by rw [j_L_isFree_41, if_neg c_4, if_pos c_5]) ?_
            exact jn_24 _ _ _ ⟨hP, hS, lv_sub hl [0, 1, 2, 3, 4] rfl⟩
          · refine lv_iconst (v := 1) hx hb dL_isFree_36 (by decide) ?_
            refine lv_goto (tgt := 41) hx hb dL_isFree_37 (by decide) ?_
            refine W.widen (k := 0) (n := 0) (Nat.le_of_ble_eq_true rfl) (Nat.le_of_ble_eq_true rfl) ?_
            refine tp_eq (y := j_L_isFree_41 v lp i p1) (by rw [j_L_isFree_41, if_neg c_4, if_neg c_5]) ?_
            exact jn_24 _ _ _ ⟨hP, hS, lv_sub hl [0, 1, 2, 3, 4] rfl⟩
      · intro H locs ls hI
        obtain ⟨hP, hS, hl⟩ := hI
        have hl : lv_has ls 5 [(0, .ref (q 0)), (1, .ref (q 1)), (2, .int (nI p1)), (3, .int v), (4, .int (nI i))] := hl
        have hP : va_P D vwCl [((q 0), .inl (cI, 19, .inl lb)), ((q 1), .inl (cI, 18, .inl lp))] H := hP
        refine lv_istore_n (lv' := [(3, .int (j_L_isFree_41 v lp i p1)), (0, .ref (q 0)), (1, .ref (q 1)), (2, .int (nI p1)), (4, .int (nI i))]) hx hb dL_isFree_41 rfl hl (by decide) rfl (fun ls hl => ?_)
        refine lv_iinc (v := nI (i + 1)) (lv' := [(4, .int (nI (i + 1))), (3, .int (j_L_isFree_41 v lp i p1)), (0, .ref (q 0)), (1, .ref (q 1)), (2, .int (nI p1))]) hx hb dL_isFree_42 hl (k := 4) rfl (nI_1 i) (by decide) rfl (fun ls hl => ?_)
        refine lv_goto (tgt := 17) hx hb dL_isFree_45 (by decide) ?_
        refine W.widen (k := 0) (n := 0) (Nat.le_refl _) (Nat.le_refl _) ?_
        exact ih_17 ((i + 1), j_L_isFree_41 v lp i p1) _ _ _ (by first | omega | (dsimp only; omega)) ⟨hP, hS, lv_sub hl [2, 3, 4, 1, 0] rfl, (by omega), (by rw [frN, ← hv])⟩

noncomputable def j_L_isView_29 (bk : Nat → Int32) (p1 : Nat) (i : Nat) : Int32 := if (sI (SgtC bk p1 i)) = 0 then 0 else 1
theorem zj_L_isView_29 {bk : Nat → Int32} {p1 : Nat} {i : Nat} : j_L_isView_29 bk p1 i = 0 ∨ j_L_isView_29 bk p1 i = 1 := by
  unfold j_L_isView_29
  (repeat' split) <;> first | exact Or.inl rfl | exact Or.inr rfl
theorem tj_L_isView_29 {bk : Nat → Int32} {p1 : Nat} {i : Nat} (h : ¬ j_L_isView_29 bk p1 i = 0) : ¬ ((sI (SgtC bk p1 i)) = 0) := by
  unfold j_L_isView_29 at h
  (repeat' split at h) <;> first | exact absurd rfl h | assumption
/-- isView: of the first n cells so many are seen -/
noncomputable def vwN (bk : Nat → Int32) (p1 : Nat) : Nat → Int32
  | 0 => 0
  | n + 1 => vwN bk p1 n + j_L_isView_29 bk p1 n
termination_by n => n
noncomputable def j_L_isView_55 (bk : Nat → Int32) (p1 : Nat) : Int32 := if (vwN bk p1 144) = 0 then 1 else 0
theorem zj_L_isView_55 {bk : Nat → Int32} {p1 : Nat} : j_L_isView_55 bk p1 = 0 ∨ j_L_isView_55 bk p1 = 1 := by
  unfold j_L_isView_55
  (repeat' split) <;> first | exact Or.inl rfl | exact Or.inr rfl
theorem tj_L_isView_55 {bk : Nat → Int32} {p1 : Nat} (h : ¬ j_L_isView_55 bk p1 = 0) : ((vwN bk p1 144) = 0) := by
  unfold j_L_isView_55 at h
  (repeat' split at h) <;> first | exact absurd rfl h | assumption
noncomputable def f_L_isView (lb : Nat → Int32) (bk : Nat → Int32) (p1 : Nat) : Int32 := if (seenN bk (nI p1) 144) = (vwN bk p1 144) then (if (j_L_isView_55 bk p1) = (f_L_isBunker lb p1) then 1 else 0) else 0
set_option maxHeartbeats 4000000 in
set_option maxRecDepth 100000 in
theorem c_L_isView (l : Launch) (D : va_G) (cI cZ cJ cA : ClassId) (sz : Nat) (a : Nat → Nat) (q : Nat → Nat) (lb : Nat → Int32) (bk : Nat → Int32) (p1 : Nat) (h1 : p1 < 144) : Met l yL_isView wsL_isView ({ frames := 8, cells := 0, slots := 0, locals := 132 } : Room) (va_Pc [.ref (a 0), .ref (q 0), .int (nI p1)] (pcR D (tyL cI cZ cJ cA) [((a 0), .inr (5, [.ref (a 2), .ref (a 4), .ref (a 18), .ref (a 1)])), ((a 2), .inr (1, [.ref (a 3)])), ((a 3), .inl (cZ, 144, .inl bk)), ((q 0), .inl (cI, 19, .inl lb))] sz)) (va_Qi (fun (r : Int32) (u : Unit) => r = f_L_isView lb bk p1) (fun _ _ => True) (fun q : Nat => sz ≤ q)) 0 0 (fun q : Nat => sz ≤ q) := by
  refine Met.ofW (cc := cL_isView) (maxL := 5) (ret := (some .boolean)) (by decide) rfl ?_
  intro p e s m args below meth c s₁ B hml hv
  obtain ⟨rfl, hsz, hP, hK⟩ := hv
  have hx := B.exec
  have hb := B.bytes
  have hr := B.returns
  have hts := atoms_spec (ws := wsL_isView) B.pre
  have hown : s.vm.findClass RL = some m.cls := findClass_of_methodNamed B.named
  have hlocks := B.notSynchronized
  subst hsz
  have hA : ∀ q : Nat, s.heap.size ≤ q → (fun q : Nat => s.heap.size ≤ q) q := fun _ h => h
  have hS : va_S (fun q : Nat => s.heap.size ≤ q) s.heap s.heap [] := va_S.rf
  have hP : va_P D vwCl [((a 0), .inr (5, [.ref (a 2), .ref (a 4), .ref (a 18), .ref (a 1)])), ((a 2), .inr (1, [.ref (a 3)])), ((a 3), .inl (cZ, 144, .inl bk)), ((q 0), .inl (cI, 19, .inl lb))] s.heap := hP
  have hl := lv_entry ([.ref (a 0), .ref (q 0), .int (nI p1)]) (n := 5) (Nat.le_of_ble_eq_true rfl)
  rw [lg_entry_eq]
  generalize (lg_sl ([.ref (a 0), .ref (q 0), .int (nI p1)]) ++ List.replicate (5 - (lg_sl ([.ref (a 0), .ref (q 0), .int (nI p1)])).length) Slot.unset).toArray = ls at hl ⊢
  have hl : lv_has ls 5 [(0, .ref (a 0)), (1, .ref (q 0)), (2, .int (nI p1))] := hl
  refine lv_iconst (v := 0) hx hb dL_isView_0 (by decide) ?_
  refine lv_istore_n (lv' := [(3, .int 0), (0, .ref (a 0)), (1, .ref (q 0)), (2, .int (nI p1))]) hx hb dL_isView_1 rfl hl (by decide) rfl (fun ls hl => ?_)
  refine lv_iconst (v := 0) hx hb dL_isView_2 (by decide) ?_
  refine lv_istore (lv' := [(4, .int 0), (3, .int 0), (0, .ref (a 0)), (1, .ref (q 0)), (2, .int (nI p1))]) hx hb dL_isView_3 hl (by decide) rfl (fun ls hl => ?_)
  refine lpW (σ := (Nat) × (Int32)) (I := fun x H locs ls => va_P D vwCl [((a 0), .inr (5, [.ref (a 2), .ref (a 4), .ref (a 18), .ref (a 1)])), ((a 2), .inr (1, [.ref (a 3)])), ((a 3), .inl (cZ, 144, .inl bk)), ((q 0), .inl (cI, 19, .inl lb))] H ∧ va_S (fun q : Nat => s.heap.size ≤ q) s.heap H locs ∧ lv_has ls 5 [(0, .ref (a 0)), (1, .ref (q 0)), (2, .int (nI p1)), (3, .int x.2), (4, .int (nI x.1))] ∧ (x.1 ≤ 144) ∧ (x.2 = vwN bk p1 x.1)) (μ := fun x => 144 - x.1) ?_ (0, 0) ⟨hP, hS, lv_sub hl [2, 3, 4, 1, 0] rfl, (Nat.zero_le _), (by rw [vwN])⟩
  intro x H locs ls hI ih
  obtain ⟨i, v⟩ := x
  obtain ⟨hP, hS, hl, hq_hi, hq_hv⟩ := hI
  have ih_5 := ih
  have hl : lv_has ls 5 [(0, .ref (a 0)), (1, .ref (q 0)), (2, .int (nI p1)), (3, .int v), (4, .int (nI i))] := hl
  have hP : va_P D vwCl [((a 0), .inr (5, [.ref (a 2), .ref (a 4), .ref (a 18), .ref (a 1)])), ((a 2), .inr (1, [.ref (a 3)])), ((a 3), .inl (cZ, 144, .inl bk)), ((q 0), .inl (cI, 19, .inl lb))] H := hP
  have hi : i ≤ 144 := hq_hi
  have hv : v = vwN bk p1 i := hq_hv
  clear hq_hi hq_hv
  refine lv_iload hx hb dL_isView_5 (lv_at hl 4 rfl) ?_
  refine lv_sipush (v := 144) hx hb dL_isView_7 (by decide) ?_
  refine lv_icmp_ge (tgt := 37) hx hb dL_isView_10 (by decide) (fun c_1 => ?_) (fun c_1 => ?_)
  · have nc_1 : 144 ≤ i := (nI_leI (a := 144) (b := i) (by omega) (by omega)).mp c_1
    have he_10 : i = 144 := bd_eq (N := 144) (by decide) hi c_1
    rw [hv, he_10] at hl
    have hl : lv_has ls 5 [(0, .ref (a 0)), (1, .ref (q 0)), (2, .int (nI p1)), (3, .int (vwN bk p1 144)), (4, .int (nI 144))] := hl
    refine lv_aload_n hx hb dL_isView_37 rfl (lv_at hl 0 rfl) ?_
    refine lv_iload_n hx hb dL_isView_38 rfl (lv_at hl 2 rfl) ?_
    have hPc := hP.sub (ws' := [((a 0), .inr (5, [.ref (a 2), .ref (a 4), .ref (a 18), .ref (a 1)])), ((a 2), .inr (1, [.ref (a 3)])), ((a 3), .inl (cZ, 144, .inl bk))]) [0, 1, 2] rfl
    refine va_calli (va_runV (As := [.int (nI p1)]) (rest := []) ⟨hx, hb, hml, hown, hts⟩ (c_V_view l D cI cZ cJ cA H.size a bk p1 (by first | assumption | omega)) (cwV 1 hts gL_isView_X5_view rfl rfl rfl (by decide +kernel) ⟨Nat.le_of_ble_eq_true rfl, Nat.le_of_ble_eq_true rfl⟩) ⟨pcR_bl, va_recv hK hPc (ci := 5) (q0 := 0) rfl rfl, fun U hU hW => ⟨rfl, by rw [hU], by rw [hU]; exact hPc, va_K.moved hW.alike hK⟩⟩ rfl rfl hl.1 rfl (lv_room (Nat.le_of_ble_eq_true rfl)) dL_isView_39 ⟨Nat.le_of_ble_eq_true rfl, Nat.le_of_ble_eq_true rfl⟩) hS (fun _ h1 h2 => absurd h1 (Nat.not_lt.mpr h2)) (rd_free hS hA) (fun r_2 u t H locs ht hvm hw hB hz1 hk1 hS => ?_)
    try dsimp only at hw
    have hr_2 := hw
    have hP := rd_P hP hk1
    obtain rfl := hr_2.symm
    refine W.widen (k := 0) (n := 0) (Nat.le_refl _) (Nat.le_refl _) ?_
    refine lv_iload_n hx hb dL_isView_42 rfl (lv_at hl 3 rfl) ?_
    refine lv_icmp_ne (tgt := 67) hx hb dL_isView_43 (by decide) (fun c_3 => ?_) (fun c_3 => ?_)
    · refine lv_iconst (v := 0) hx hb dL_isView_67 (by decide) ?_
      -- leaf 0
      refine W.widen (k := 0) (n := 0) (Nat.le_of_ble_eq_true rfl) (Nat.le_of_ble_eq_true rfl) ?_
      exact W.zret (v := 0) (ty := .boolean) hx hb hr rfl (fun t ht hW => ⟨⟨0, (), rfl, (by rw [f_L_isView, if_neg c_3]), trivial⟩, hS.F ht⟩) hS.2.2 dL_isView_68
    · refine jn_w (cells2 := 0) (slots2 := 0) (fun H locs ls => va_P D vwCl [((a 0), .inr (5, [.ref (a 2), .ref (a 4), .ref (a 18), .ref (a 1)])), ((a 2), .inr (1, [.ref (a 3)])), ((a 3), .inl (cZ, 144, .inl bk)), ((q 0), .inl (cI, 19, .inl lb))] H ∧ va_S (fun q : Nat => s.heap.size ≤ q) s.heap H locs ∧ lv_has ls 5 [(0, .ref (a 0)), (1, .ref (q 0)), (2, .int (nI p1)), (3, .int (vwN bk p1 144)), (4, .int (nI 144))]) (pc2 := 55) (st2 := []) (j_L_isView_55 bk p1) (fun jn_46 => ?_) ?_
      · refine lv_iload_n hx hb dL_isView_46 rfl (lv_at hl 3 rfl) ?_
        refine lv_if_ne (tgt := 54) hx hb dL_isView_47 (by decide) (fun c_4 => ?_) (fun c_4 => ?_)
        · refine lv_iconst (v := 0) hx hb dL_isView_54 (by decide) ?_
          refine W.widen (k := 0) (n := 0) (Nat.le_of_ble_eq_true rfl) (Nat.le_of_ble_eq_true rfl) ?_
          refine tp_eq (y := j_L_isView_55 bk p1) (by rw [j_L_isView_55, if_neg c_4]) ?_
          exact jn_46 _ _ _ ⟨hP, hS, lv_sub hl [0, 1, 2, 3, 4] rfl⟩
        · refine lv_iconst (v := 1) hx hb dL_isView_50 (by decide) ?_
          refine lv_goto (tgt := 55) hx hb dL_isView_51 (by decide) ?_
          refine W.widen (k := 0) (n := 0) (Nat.le_of_ble_eq_true rfl) (Nat.le_of_ble_eq_true rfl) ?_
          refine tp_eq (y := j_L_isView_55 bk p1) (by rw [j_L_isView_55, if_pos c_4]) ?_
          exact jn_46 _ _ _ ⟨hP, hS, lv_sub hl [0, 1, 2, 3, 4] rfl⟩
      · intro H locs ls hI
        obtain ⟨hP, hS, hl⟩ := hI
        have hl : lv_has ls 5 [(0, .ref (a 0)), (1, .ref (q 0)), (2, .int (nI p1)), (3, .int (vwN bk p1 144)), (4, .int (nI 144))] := hl
        have hP : va_P D vwCl [((a 0), .inr (5, [.ref (a 2), .ref (a 4), .ref (a 18), .ref (a 1)])), ((a 2), .inr (1, [.ref (a 3)])), ((a 3), .inl (cZ, 144, .inl bk)), ((q 0), .inl (cI, 19, .inl lb))] H := hP
        refine lv_aload_n hx hb dL_isView_55 rfl (lv_at hl 1 rfl) ?_
        refine lv_iload_n hx hb dL_isView_56 rfl (lv_at hl 2 rfl) ?_
        have hPc := hP.sub (ws' := [((q 0), .inl (cI, 19, .inl lb))]) [3] rfl
        refine va_calli (va_runS (As := [.ref (q 0), .int (nI p1)]) (rest := [.int (j_L_isView_55 bk p1)]) ⟨hx, hb, hml, hown, hts⟩ (c_L_isBunker l D cI cZ cJ cA H.size q lb p1 (by first | assumption | omega)) (va_cwS 2 hts gL_isView_L_isBunker rfl rfl rfl (by decide +kernel) ⟨Nat.le_of_ble_eq_true rfl, Nat.le_of_ble_eq_true rfl⟩) ⟨pcR_bl, fun U hU hW => ⟨rfl, by rw [hU], by rw [hU]; exact hPc, va_K.moved hW.alike hK⟩⟩ rfl rfl hl.1 rfl (lv_room (Nat.le_of_ble_eq_true rfl)) dL_isView_57 ⟨Nat.le_of_ble_eq_true rfl, Nat.le_of_ble_eq_true rfl⟩) hS (fun _ h1 h2 => absurd h1 (Nat.not_lt.mpr h2)) (rd_free hS hA) (fun r_5 u t H locs ht hvm hw hB hz1 hk1 hS => ?_)
        try dsimp only at hw
        have hr_5 := hw
        have hP := rd_P hP hk1
        obtain rfl := hr_5.symm
        refine W.widen (k := 0) (n := 0) (Nat.le_refl _) (Nat.le_refl _) ?_
        refine lv_icmp_ne (tgt := 67) hx hb dL_isView_60 (by decide) (fun c_6 => ?_) (fun c_6 => ?_)
        · refine lv_iconst (v := 0) hx hb dL_isView_67 (by decide) ?_
          -- leaf 1
          refine W.widen (k := 0) (n := 0) (Nat.le_of_ble_eq_true rfl) (Nat.le_of_ble_eq_true rfl) ?_
          exact W.zret (v := 0) (ty := .boolean) hx hb hr rfl (fun t ht hW => ⟨⟨0, (), rfl, (by rw [f_L_isView, if_pos c_3, if_neg c_6]), trivial⟩, hS.F ht⟩) hS.2.2 dL_isView_68
        · refine lv_iconst (v := 1) hx hb dL_isView_63 (by decide) ?_
          refine lv_goto (tgt := 68) hx hb dL_isView_64 (by decide) ?_
          -- leaf 2
          refine W.widen (k := 0) (n := 0) (Nat.le_of_ble_eq_true rfl) (Nat.le_of_ble_eq_true rfl) ?_
          exact W.zret (v := 1) (ty := .boolean) hx hb hr rfl (fun t ht hW => ⟨⟨1, (), rfl, (by rw [f_L_isView, if_pos c_3, if_pos c_6]), trivial⟩, hS.F ht⟩) hS.2.2 dL_isView_68
  · have nc_1 : ¬ 144 ≤ i := fun q => c_1 ((nI_leI (a := 144) (b := i) (by omega) (by omega)).mpr q)
    have hlt_10 : i < 144 := bd_lt (N := 144) (by decide) hi c_1
    refine lv_iload_n hx hb dL_isView_13 rfl (lv_at hl 3 rfl) ?_
    refine jn_w (cells2 := 0) (slots2 := 0) (fun H locs ls => va_P D vwCl [((a 0), .inr (5, [.ref (a 2), .ref (a 4), .ref (a 18), .ref (a 1)])), ((a 2), .inr (1, [.ref (a 3)])), ((a 3), .inl (cZ, 144, .inl bk)), ((q 0), .inl (cI, 19, .inl lb))] H ∧ va_S (fun q : Nat => s.heap.size ≤ q) s.heap H locs ∧ lv_has ls 5 [(0, .ref (a 0)), (1, .ref (q 0)), (2, .int (nI p1)), (3, .int v), (4, .int (nI i))]) (pc2 := 29) (st2 := [.int v]) (j_L_isView_29 bk p1 i) (fun jn_14 => ?_) ?_
    · refine lv_aload_n hx hb dL_isView_14 rfl (lv_at hl 0 rfl) ?_
      refine lv_iload_n hx hb dL_isView_15 rfl (lv_at hl 2 rfl) ?_
      refine lv_iload hx hb dL_isView_16 (lv_at hl 4 rfl) ?_
      have hPc := hP.sub (ws' := [((a 0), .inr (5, [.ref (a 2), .ref (a 4), .ref (a 18), .ref (a 1)])), ((a 2), .inr (1, [.ref (a 3)])), ((a 3), .inl (cZ, 144, .inl bk))]) [0, 1, 2] rfl
      refine va_calli (va_runV (As := [.int (nI p1), .int (nI i)]) (rest := [.int v]) ⟨hx, hb, hml, hown, hts⟩ (c_V_sees l D cI cZ cJ cA H.size a bk p1 i (by first | assumption | omega) (by first | assumption | omega)) (cwV 2 hts gL_isView_X5_sees rfl rfl rfl (by decide +kernel) ⟨Nat.le_of_ble_eq_true rfl, Nat.le_of_ble_eq_true rfl⟩) ⟨pcR_bl, va_recv hK hPc (ci := 5) (q0 := 0) rfl rfl, fun U hU hW => ⟨rfl, by rw [hU], by rw [hU]; exact hPc, va_K.moved hW.alike hK⟩⟩ rfl rfl hl.1 rfl (lv_room (Nat.le_of_ble_eq_true rfl)) dL_isView_18 ⟨Nat.le_of_ble_eq_true rfl, Nat.le_of_ble_eq_true rfl⟩) hS (fun _ h1 h2 => absurd h1 (Nat.not_lt.mpr h2)) (rd_free hS hA) (fun r_7 u t H locs ht hvm hw hB hz1 hk1 hS => ?_)
      try dsimp only at hw
      have hr_7 := hw
      have hP := rd_P hP hk1
      obtain rfl := hr_7.symm
      refine W.widen (k := 0) (n := 0) (Nat.le_refl _) (Nat.le_refl _) ?_
      refine lv_if_eq (tgt := 28) hx hb dL_isView_21 (by decide) (fun c_8 => ?_) (fun c_8 => ?_)
      · refine lv_iconst (v := 0) hx hb dL_isView_28 (by decide) ?_
        refine W.widen (k := 0) (n := 0) (Nat.le_of_ble_eq_true rfl) (Nat.le_of_ble_eq_true rfl) ?_
        refine tp_eq (y := j_L_isView_29 bk p1 i) (by rw [j_L_isView_29, if_pos c_8]) ?_
        exact jn_14 _ _ _ ⟨hP, hS, lv_sub hl [0, 1, 2, 3, 4] rfl⟩
      · refine lv_iconst (v := 1) hx hb dL_isView_24 (by decide) ?_
        refine lv_goto (tgt := 29) hx hb dL_isView_25 (by decide) ?_
        refine W.widen (k := 0) (n := 0) (Nat.le_of_ble_eq_true rfl) (Nat.le_of_ble_eq_true rfl) ?_
        refine tp_eq (y := j_L_isView_29 bk p1 i) (by rw [j_L_isView_29, if_neg c_8]) ?_
        exact jn_14 _ _ _ ⟨hP, hS, lv_sub hl [0, 1, 2, 3, 4] rfl⟩
    · intro H locs ls hI
      obtain ⟨hP, hS, hl⟩ := hI
      have hl : lv_has ls 5 [(0, .ref (a 0)), (1, .ref (q 0)), (2, .int (nI p1)), (3, .int v), (4, .int (nI i))] := hl
      have hP : va_P D vwCl [((a 0), .inr (5, [.ref (a 2), .ref (a 4), .ref (a 18), .ref (a 1)])), ((a 2), .inr (1, [.ref (a 3)])), ((a 3), .inl (cZ, 144, .inl bk)), ((q 0), .inl (cI, 19, .inl lb))] H := hP
      refine lv_iadd hx hb dL_isView_29 ?_
      refine lv_istore_n (lv' := [(3, .int (v + (j_L_isView_29 bk p1 i))), (0, .ref (a 0)), (1, .ref (q 0)), (2, .int (nI p1)), (4, .int (nI i))]) hx hb dL_isView_30 rfl hl (by decide) rfl (fun ls hl => ?_)
      refine lv_iinc (v := nI (i + 1)) (lv' := [(4, .int (nI (i + 1))), (3, .int (v + (j_L_isView_29 bk p1 i))), (0, .ref (a 0)), (1, .ref (q 0)), (2, .int (nI p1))]) hx hb dL_isView_31 hl (k := 4) rfl (nI_1 i) (by decide) rfl (fun ls hl => ?_)
      refine lv_goto (tgt := 5) hx hb dL_isView_34 (by decide) ?_
      refine W.widen (k := 0) (n := 0) (Nat.le_refl _) (Nat.le_refl _) ?_
      exact ih_5 ((i + 1), v + (j_L_isView_29 bk p1 i)) _ _ _ (by first | omega | (dsimp only; omega)) ⟨hP, hS, lv_sub hl [2, 3, 4, 1, 0] rfl, (by omega), (by rw [vwN, ← hv])⟩
