/-- class: the sight between two cells -/
def SgtC (bk : Nat → Int32) (A B : Nat) : Prop := (A = B → bk A = 0) ∧ (A ≠ B → ∀ r c : Nat, min (A / 12) (B / 12) ≤ r → r ≤ max (A / 12) (B / 12) → min (A % 12) (B % 12) ≤ c → c ≤ max (A % 12) (B % 12) → bk (12 * r + c) = 0 ∨ f_X1_lineEnters (nI A) (nI B) (nI (12 * r + c)) = 0)
set_option maxHeartbeats 4000000 in
set_option maxRecDepth 100000 in
theorem c_X1_hasSight (l : Launch) (D : va_G) (cI cZ cJ cA : ClassId) (sz : Nat) (a : Nat → Nat) (bk : Nat → Int32) (p1 : Int32) (p2 : Int32) (h1 : vp_in p1 144) (h2 : vp_in p2 144) : Met l yX1_hasSight wsX1_hasSight ({ frames := 2, cells := 0, slots := 0, locals := 48 } : Room) (va_Pc [.ref (a 2), .int p1, .int p2] (pcR D (tyL cI cZ cJ cA) [((a 2), .inr (1, [.ref (a 3)])), ((a 3), .inl (cZ, 144, .inl bk))] sz)) (va_Qi (fun (r : Int32) (u : Unit) => r = sI (SgtC bk p1.toNatClampNeg p2.toNatClampNeg)) (fun _ _ => True) (fun q : Nat => sz ≤ q)) 0 0 (fun q : Nat => sz ≤ q) := by
  refine Met.ofW (cc := cX1_hasSight) (maxL := 10) (ret := (some .boolean)) (by decide) rfl ?_
  intro p e s m args below meth c s₁ B hml hv
  obtain ⟨rfl, hsz, hP, hK⟩ := hv
  have hx := B.exec
  have hb := B.bytes
  have hr := B.returns
  have hts := atoms_spec (ws := wsX1_hasSight) B.pre
  have hown : s.vm.findClass RX1 = some m.cls := findClass_of_methodNamed B.named
  have hlocks := B.notSynchronized
  subst hsz
  have hA : ∀ q : Nat, s.heap.size ≤ q → (fun q : Nat => s.heap.size ≤ q) q := fun _ h => h
  have hS : va_S (fun q : Nat => s.heap.size ≤ q) s.heap s.heap [] := va_S.rf
  have hP : va_P D vwCl [((a 2), .inr (1, [.ref (a 3)])), ((a 3), .inl (cZ, 144, .inl bk))] s.heap := hP
  have hl := lv_entry ([.ref (a 2), .int p1, .int p2]) (n := 10) (Nat.le_of_ble_eq_true rfl)
  rw [lg_entry_eq]
  generalize (lg_sl ([.ref (a 2), .int p1, .int p2]) ++ List.replicate (10 - (lg_sl ([.ref (a 2), .int p1, .int p2])).length) Slot.unset).toArray = ls at hl ⊢
  have hl : lv_has ls 10 [(0, .ref (a 2)), (1, .int p1), (2, .int p2)] := hl
  have hm_min_1 := hts (.methodLink RX1 29 Lib.Math.min.name) (by decide +kernel)
  have hm_min_2 := hts (.static Lib.Math.min.name) (by decide +kernel)
  have hm_3 := hts (.initialized "java/lang/Math") (by decide +kernel)
  have hm_min_4 := hts (.code Lib.Math.min.name Lib.Math.min.code 2 (some .int)) (by decide +kernel)
  have hm_max_1 := hts (.methodLink RX1 21 Lib.Math.max.name) (by decide +kernel)
  have hm_max_2 := hts (.static Lib.Math.max.name) (by decide +kernel)
  have hm_max_4 := hts (.code Lib.Math.max.name Lib.Math.max.code 2 (some .int)) (by decide +kernel)
  have hf_9 := hts (.fieldLink RX1 9 "PaintballAtlas$Field" "bunkers" "[Z") (by decide +kernel)
  have hi_X1 : ∀ w ∈ wsX10, w ∈ wsX1_hasSight := by decide +kernel
  obtain ⟨P1, hP1, rfl⟩ := in_nI (by decide) h1
  obtain ⟨P2, hP2, rfl⟩ := in_nI (by decide) h2
  have hq1 : (nI P1).toNatClampNeg = P1 := nI_clamp (by omega)
  have hq2 : (nI P2).toNatClampNeg = P2 := nI_clamp (by omega)
  have hl : lv_has ls 10 [(0, .ref (a 2)), (1, .int (nI P1)), (2, .int (nI P2))] := hl
  refine lv_iload_n hx hb dX1_hasSight_0 rfl (lv_at hl 1 rfl) ?_
  refine lv_iload_n hx hb dX1_hasSight_1 rfl (lv_at hl 2 rfl) ?_
  refine lv_icmp_ne (tgt := 20) hx hb dX1_hasSight_2 (by decide) (fun c_1 => ?_) (fun c_1 => ?_)
  · refine lv_iload_n hx hb dX1_hasSight_20 rfl (lv_at hl 1 rfl) ?_
    refine lv_bipush (v := 12) hx hb dX1_hasSight_21 (by decide) ?_
    refine lv_idiv hx hb dX1_hasSight_23 (by decide) ?_
    refine lv_iload_n hx hb dX1_hasSight_24 rfl (lv_at hl 2 rfl) ?_
    refine lv_bipush (v := 12) hx hb dX1_hasSight_25 (by decide) ?_
    refine lv_idiv hx hb dX1_hasSight_27 (by decide) ?_
    refine va_mmin hx hb (hml.trans hl.1.symm) hown hm_min_1 hm_min_2 hm_3 hm_min_4 (Nat.le_of_ble_eq_true rfl) (Nat.le_of_ble_eq_true rfl) (Nat.le_of_ble_eq_true rfl) (Nat.le_of_ble_eq_true rfl) dX1_hasSight_28 ?_
    refine tp_eq (y := z_min ((nI P1) / 12) ((nI P2) / 12)) rfl ?_
    refine lv_istore_n (lv' := [(3, .int (z_min ((nI P1) / 12) ((nI P2) / 12))), (0, .ref (a 2)), (1, .int (nI P1)), (2, .int (nI P2))]) hx hb dX1_hasSight_31 rfl hl (by decide) rfl (fun ls hl => ?_)
    refine lv_iload_n hx hb dX1_hasSight_32 rfl (lv_at hl 2 rfl) ?_
    refine lv_bipush (v := 12) hx hb dX1_hasSight_33 (by decide) ?_
    refine lv_idiv hx hb dX1_hasSight_35 (by decide) ?_
    refine lv_iload_n hx hb dX1_hasSight_36 rfl (lv_at hl 3 rfl) ?_
    refine lv_bipush (v := 12) hx hb dX1_hasSight_37 (by decide) ?_
    refine lv_idiv hx hb dX1_hasSight_39 (by decide) ?_
    refine va_mmax hx hb (hml.trans hl.1.symm) hown hm_max_1 hm_max_2 hm_3 hm_max_4 (Nat.le_of_ble_eq_true rfl) (Nat.le_of_ble_eq_true rfl) (Nat.le_of_ble_eq_true rfl) (Nat.le_of_ble_eq_true rfl) dX1_hasSight_40 ?_
    refine tp_eq (y := z_max ((nI P1) / 12) ((nI P2) / 12)) rfl ?_
    refine lv_istore (lv' := [(4, .int (z_max ((nI P1) / 12) ((nI P2) / 12))), (3, .int (z_min ((nI P1) / 12) ((nI P2) / 12))), (0, .ref (a 2)), (1, .int (nI P1)), (2, .int (nI P2))]) hx hb dX1_hasSight_43 hl (by decide) rfl (fun ls hl => ?_)
    refine lv_iload_n hx hb dX1_hasSight_45 rfl (lv_at hl 3 rfl) ?_
    refine lv_bipush (v := 12) hx hb dX1_hasSight_46 (by decide) ?_
    refine lv_irem hx hb dX1_hasSight_48 (by decide) ?_
    refine lv_iload_n hx hb dX1_hasSight_49 rfl (lv_at hl 4 rfl) ?_
    refine lv_bipush (v := 12) hx hb dX1_hasSight_50 (by decide) ?_
    refine lv_irem hx hb dX1_hasSight_52 (by decide) ?_
    refine va_mmin hx hb (hml.trans hl.1.symm) hown hm_min_1 hm_min_2 hm_3 hm_min_4 (Nat.le_of_ble_eq_true rfl) (Nat.le_of_ble_eq_true rfl) (Nat.le_of_ble_eq_true rfl) (Nat.le_of_ble_eq_true rfl) dX1_hasSight_53 ?_
    refine tp_eq (y := z_min ((nI P1) - (nI P1) / 12 * 12) ((nI P2) - (nI P2) / 12 * 12)) rfl ?_
    refine lv_istore (lv' := [(5, .int (z_min ((nI P1) - (nI P1) / 12 * 12) ((nI P2) - (nI P2) / 12 * 12))), (4, .int (z_max ((nI P1) / 12) ((nI P2) / 12))), (3, .int (z_min ((nI P1) / 12) ((nI P2) / 12))), (0, .ref (a 2)), (1, .int (nI P1)), (2, .int (nI P2))]) hx hb dX1_hasSight_56 hl (by decide) rfl (fun ls hl => ?_)
    refine lv_iload_n hx hb dX1_hasSight_58 rfl (lv_at hl 4 rfl) ?_
    refine lv_bipush (v := 12) hx hb dX1_hasSight_59 (by decide) ?_
    refine lv_irem hx hb dX1_hasSight_61 (by decide) ?_
    refine lv_iload_n hx hb dX1_hasSight_62 rfl (lv_at hl 5 rfl) ?_
    refine lv_bipush (v := 12) hx hb dX1_hasSight_63 (by decide) ?_
    refine lv_irem hx hb dX1_hasSight_65 (by decide) ?_
    refine va_mmax hx hb (hml.trans hl.1.symm) hown hm_max_1 hm_max_2 hm_3 hm_max_4 (Nat.le_of_ble_eq_true rfl) (Nat.le_of_ble_eq_true rfl) (Nat.le_of_ble_eq_true rfl) (Nat.le_of_ble_eq_true rfl) dX1_hasSight_66 ?_
    refine tp_eq (y := z_max ((nI P1) - (nI P1) / 12 * 12) ((nI P2) - (nI P2) / 12 * 12)) rfl ?_
    refine lv_istore (lv' := [(6, .int (z_max ((nI P1) - (nI P1) / 12 * 12) ((nI P2) - (nI P2) / 12 * 12))), (5, .int (z_min ((nI P1) - (nI P1) / 12 * 12) ((nI P2) - (nI P2) / 12 * 12))), (4, .int (z_max ((nI P1) / 12) ((nI P2) / 12))), (3, .int (z_min ((nI P1) / 12) ((nI P2) / 12))), (0, .ref (a 2)), (1, .int (nI P1)), (2, .int (nI P2))]) hx hb dX1_hasSight_69 hl (by decide) rfl (fun ls hl => ?_)
    rw [r12 hP1, r12 hP2, d12 hP1, d12 hP2, min_nI (by omega) (by omega), max_nI (by omega) (by omega), min_nI (by omega) (by omega), max_nI (by omega) (by omega)] at hl
    have hl : lv_has ls 10 [(6, .int (nI (max (P1 % 12) (P2 % 12)))), (5, .int (nI (min (P1 % 12) (P2 % 12)))), (4, .int (nI (max (P1 / 12) (P2 / 12)))), (3, .int (nI (min (P1 / 12) (P2 / 12)))), (0, .ref (a 2)), (1, .int (nI P1)), (2, .int (nI P2))] := hl
    have hb1 : max (P1 / 12) (P2 / 12) < 12 := by omega
    have hb2 : max (P1 % 12) (P2 % 12) < 12 := by omega
    obtain ⟨T, hT⟩ : ∃ z, z = min (P1 / 12) (P2 / 12) := ⟨_, rfl⟩
    obtain ⟨Bo, hBo⟩ : ∃ z, z = max (P1 / 12) (P2 / 12) := ⟨_, rfl⟩
    obtain ⟨Le, hLe⟩ : ∃ z, z = min (P1 % 12) (P2 % 12) := ⟨_, rfl⟩
    obtain ⟨Ri, hRi⟩ : ∃ z, z = max (P1 % 12) (P2 % 12) := ⟨_, rfl⟩
    rw [← hT, ← hBo, ← hLe, ← hRi] at hl
    rw [← hBo] at hb1
    rw [← hRi] at hb2
    have hTB : T ≤ Bo + 1 := by omega
    have hLR : Le ≤ Ri + 1 := by omega
    refine lv_iload_n hx hb dX1_hasSight_71 rfl (lv_at hl 3 rfl) ?_
    refine lv_istore (lv' := [(7, .int (nI T)), (6, .int (nI Ri)), (5, .int (nI Le)), (4, .int (nI Bo)), (3, .int (nI T)), (0, .ref (a 2)), (1, .int (nI P1)), (2, .int (nI P2))]) hx hb dX1_hasSight_72 hl (by decide) rfl (fun ls hl => ?_)
    refine lpW (σ := (Nat)) (I := fun x H locs ls => va_P D vwCl [((a 2), .inr (1, [.ref (a 3)])), ((a 3), .inl (cZ, 144, .inl bk))] H ∧ va_S (fun q : Nat => s.heap.size ≤ q) s.heap H locs ∧ lv_has ls 10 [(0, .ref (a 2)), (1, .int (nI P1)), (2, .int (nI P2)), (3, .int (nI T)), (4, .int (nI Bo)), (5, .int (nI Le)), (6, .int (nI Ri)), (7, .int (nI x))] ∧ (T ≤ x ∧ x ≤ Bo + 1) ∧ (∀ r1 k1 : Nat, T ≤ r1 → r1 < x → Le ≤ k1 → k1 ≤ Ri → bk (12 * r1 + k1) = 0 ∨ f_X1_lineEnters (nI P1) (nI P2) (nI (12 * r1 + k1)) = 0)) (μ := fun x => 20 - x) ?_ T ⟨hP, hS, lv_sub hl [5, 6, 7, 4, 3, 2, 1, 0] rfl, ⟨Nat.le_refl _, hTB⟩, (fun r1 k1 g1 g2 => absurd g2 (Nat.not_lt.mpr g1))⟩
    intro x H locs ls hI ih
    obtain ⟨r, rfl⟩ : ∃ z, z = x := ⟨_, rfl⟩
    obtain ⟨hP, hS, hl, hq_hrT, hq_hfr⟩ := hI
    have ih_74 := ih
    have hl : lv_has ls 10 [(0, .ref (a 2)), (1, .int (nI P1)), (2, .int (nI P2)), (3, .int (nI T)), (4, .int (nI Bo)), (5, .int (nI Le)), (6, .int (nI Ri)), (7, .int (nI r))] := hl
    have hP : va_P D vwCl [((a 2), .inr (1, [.ref (a 3)])), ((a 3), .inl (cZ, 144, .inl bk))] H := hP
    have hrT : T ≤ r ∧ r ≤ Bo + 1 := hq_hrT
    have hfr : ∀ r1 k1 : Nat, T ≤ r1 → r1 < r → Le ≤ k1 → k1 ≤ Ri → bk (12 * r1 + k1) = 0 ∨ f_X1_lineEnters (nI P1) (nI P2) (nI (12 * r1 + k1)) = 0 := hq_hfr
    clear hq_hrT hq_hfr
    refine lv_iload hx hb dX1_hasSight_74 (lv_at hl 7 rfl) ?_
    refine lv_iload hx hb dX1_hasSight_76 (lv_at hl 4 rfl) ?_
    refine lv_icmp_gt (tgt := 136) hx hb dX1_hasSight_78 (by decide) (fun c_2 => ?_) (fun c_2 => ?_)
    · have hrB : Bo < r := bd_gt (by omega) (by omega) c_2
      refine lv_iconst (v := 1) hx hb dX1_hasSight_136 (by decide) ?_
      -- leaf 0
      refine W.widen (k := 0) (n := 0) (Nat.le_refl _) (Nat.le_refl _) ?_
      exact W.zret (v := 1) (ty := .boolean) hx hb hr rfl (fun t ht hW => ⟨⟨1, (), rfl, (by rw [hq1, hq2]; have e : P1 ≠ P2 := fun q => c_1 (by rw [q]); exact (sI_pos ⟨fun q => absurd q e, fun _ r1 k1 g1 g2 g3 g4 => hfr r1 k1 (by omega) (by omega) (by omega) (by omega)⟩).symm), trivial⟩, hS.F ht⟩) hS.2.2 dX1_hasSight_137
    · have hrB : r ≤ Bo := bd_le (by omega) (by omega) c_2
      refine lv_iload hx hb dX1_hasSight_81 (lv_at hl 5 rfl) ?_
      refine lv_istore (lv' := [(8, .int (nI Le)), (0, .ref (a 2)), (1, .int (nI P1)), (2, .int (nI P2)), (3, .int (nI T)), (4, .int (nI Bo)), (5, .int (nI Le)), (6, .int (nI Ri)), (7, .int (nI r))]) hx hb dX1_hasSight_83 hl (by decide) rfl (fun ls hl => ?_)
      refine lpW (σ := (Nat)) (I := fun x H locs ls => va_P D vwCl [((a 2), .inr (1, [.ref (a 3)])), ((a 3), .inl (cZ, 144, .inl bk))] H ∧ va_S (fun q : Nat => s.heap.size ≤ q) s.heap H locs ∧ lv_has ls 10 [(0, .ref (a 2)), (1, .int (nI P1)), (2, .int (nI P2)), (3, .int (nI T)), (4, .int (nI Bo)), (5, .int (nI Le)), (6, .int (nI Ri)), (7, .int (nI r)), (8, .int (nI x))] ∧ (Le ≤ x ∧ x ≤ Ri + 1) ∧ (∀ k1 : Nat, Le ≤ k1 → k1 < x → bk (12 * r + k1) = 0 ∨ f_X1_lineEnters (nI P1) (nI P2) (nI (12 * r + k1)) = 0)) (μ := fun x => 20 - x) ?_ Le ⟨hP, hS, lv_sub hl [1, 2, 3, 4, 5, 6, 7, 8, 0] rfl, ⟨Nat.le_refl _, hLR⟩, (fun k1 g1 g2 => absurd g2 (Nat.not_lt.mpr g1))⟩
      intro x H locs ls hI ih
      obtain ⟨k, rfl⟩ : ∃ z, z = x := ⟨_, rfl⟩
      obtain ⟨hP, hS, hl, hq_hkL, hq_hfk⟩ := hI
      have ih_85 := ih
      have hl : lv_has ls 10 [(0, .ref (a 2)), (1, .int (nI P1)), (2, .int (nI P2)), (3, .int (nI T)), (4, .int (nI Bo)), (5, .int (nI Le)), (6, .int (nI Ri)), (7, .int (nI r)), (8, .int (nI k))] := hl
      have hP : va_P D vwCl [((a 2), .inr (1, [.ref (a 3)])), ((a 3), .inl (cZ, 144, .inl bk))] H := hP
      have hkL : Le ≤ k ∧ k ≤ Ri + 1 := hq_hkL
      have hfk : ∀ k1 : Nat, Le ≤ k1 → k1 < k → bk (12 * r + k1) = 0 ∨ f_X1_lineEnters (nI P1) (nI P2) (nI (12 * r + k1)) = 0 := hq_hfk
      clear hq_hkL hq_hfk
      refine lv_iload hx hb dX1_hasSight_85 (lv_at hl 8 rfl) ?_
      refine lv_iload hx hb dX1_hasSight_87 (lv_at hl 6 rfl) ?_
      refine lv_icmp_gt (tgt := 130) hx hb dX1_hasSight_89 (by decide) (fun c_3 => ?_) (fun c_3 => ?_)
      · have hkR : Ri < k := bd_gt (by omega) (by omega) c_3
        refine lv_iinc (v := nI (r + 1)) (lv' := [(7, .int (nI (r + 1))), (0, .ref (a 2)), (1, .int (nI P1)), (2, .int (nI P2)), (3, .int (nI T)), (4, .int (nI Bo)), (5, .int (nI Le)), (6, .int (nI Ri)), (8, .int (nI k))]) hx hb dX1_hasSight_130 hl (k := 7) rfl (nI_1 r) (by decide) rfl (fun ls hl => ?_)
        refine lv_goto (tgt := 74) hx hb dX1_hasSight_133 (by decide) ?_
        refine W.widen (k := 0) (n := 0) (Nat.le_refl _) (Nat.le_refl _) ?_
        exact ih_74 (r + 1) _ _ _ (by first | omega | (dsimp only; omega)) ⟨hP, hS, lv_sub hl [1, 2, 3, 4, 5, 6, 7, 0] rfl, ⟨by omega, by omega⟩, (fun r1 k1 g1 g2 g3 g4 => by rcases Nat.lt_or_ge r1 r with q | q; exact hfr r1 k1 g1 q g3 g4; have e : r1 = r := (by omega); rw [e]; exact hfk k1 g3 (by omega))⟩
      · have hkR : k ≤ Ri := bd_le (by omega) (by omega) c_3
        refine lv_bipush (v := 12) hx hb dX1_hasSight_92 (by decide) ?_
        refine lv_iload hx hb dX1_hasSight_94 (lv_at hl 7 rfl) ?_
        refine lv_imul hx hb dX1_hasSight_96 ?_
        refine lv_iload hx hb dX1_hasSight_97 (lv_at hl 8 rfl) ?_
        refine lv_iadd hx hb dX1_hasSight_99 ?_
        refine tp_eq (y := nI (12 * r + k)) (mk12 r k) ?_
        refine lv_istore (lv' := [(9, .int (nI (12 * r + k))), (0, .ref (a 2)), (1, .int (nI P1)), (2, .int (nI P2)), (3, .int (nI T)), (4, .int (nI Bo)), (5, .int (nI Le)), (6, .int (nI Ri)), (7, .int (nI r)), (8, .int (nI k))]) hx hb dX1_hasSight_100 hl (by decide) rfl (fun ls hl => ?_)
        refine lv_aload_n hx hb dX1_hasSight_102 rfl (lv_at hl 1 rfl) ?_
        refine va_get (D := D) (ci := 1) (v := .ref (a 3)) (C := RX1) (T := TX1) (N := 1) hx hb hts hi_X1 hown hK hP 0 rfl rfl 0 (by decide) hf_9 (fun _ h9 => h9) rfl dX1_hasSight_103 ?_
        refine lv_iload hx hb dX1_hasSight_106 (lv_at hl 0 rfl) ?_
        refine va_zald hx hb hK hP 1 1 rfl rfl (vp_in_nI (n := (12 * r + k)) (by omega) (by decide)) dX1_hasSight_108 ?_
        refine tp_eq (y := bk (12 * r + k)) (by rw [nI_clamp (n := (12 * r + k)) (by omega)]) ?_
        refine lv_if_eq (tgt := 124) hx hb dX1_hasSight_109 (by decide) (fun c_4 => ?_) (fun c_4 => ?_)
        · refine lv_iinc (v := nI (k + 1)) (lv' := [(8, .int (nI (k + 1))), (9, .int (nI (12 * r + k))), (0, .ref (a 2)), (1, .int (nI P1)), (2, .int (nI P2)), (3, .int (nI T)), (4, .int (nI Bo)), (5, .int (nI Le)), (6, .int (nI Ri)), (7, .int (nI r))]) hx hb dX1_hasSight_124 hl (k := 9) rfl (nI_1 k) (by decide) rfl (fun ls hl => ?_)
          refine lv_goto (tgt := 85) hx hb dX1_hasSight_127 (by decide) ?_
          refine W.widen (k := 0) (n := 0) (Nat.le_refl _) (Nat.le_refl _) ?_
          exact ih_85 (k + 1) _ _ _ (by first | omega | (dsimp only; omega)) ⟨hP, hS, lv_sub hl [2, 3, 4, 5, 6, 7, 8, 9, 0] rfl, ⟨by omega, by omega⟩, (fun k1 g1 g2 => by rcases Nat.lt_or_ge k1 k with q | q; exact hfk k1 g1 q; have e : k1 = k := (by omega); rw [e]; exact Or.inl c_4)⟩
        · refine lv_iload_n hx hb dX1_hasSight_112 rfl (lv_at hl 2 rfl) ?_
          refine lv_iload_n hx hb dX1_hasSight_113 rfl (lv_at hl 3 rfl) ?_
          refine lv_iload hx hb dX1_hasSight_114 (lv_at hl 0 rfl) ?_
          have hPc := hP.sub (ws' := []) [] rfl
          refine va_calli (va_runS (As := [.int (nI P1), .int (nI P2), .int (nI (12 * r + k))]) (rest := []) ⟨hx, hb, hml, hown, hts⟩ (c_X1_lineEnters l D cI cZ cJ cA H.size (nI P1) (nI P2) (nI (12 * r + k))) (va_cwS 3 hts gX1_hasSight_X1_lineEnters rfl rfl rfl (by decide +kernel) ⟨Nat.le_of_ble_eq_true rfl, Nat.le_of_ble_eq_true rfl⟩) ⟨pcR_bl, fun U hU hW => ⟨rfl, by rw [hU], by rw [hU]; exact hPc, va_K.moved hW.alike hK⟩⟩ rfl rfl hl.1 rfl (lv_room (Nat.le_of_ble_eq_true rfl)) dX1_hasSight_116 ⟨Nat.le_of_ble_eq_true rfl, Nat.le_of_ble_eq_true rfl⟩) hS (fun _ h1 h2 => absurd h1 (Nat.not_lt.mpr h2)) (rd_free hS hA) (fun r_5 u t H locs ht hvm hw hB hz1 hk1 hS => ?_)
          try dsimp only at hw
          have hr_5 := hw
          have hP := rd_P hP hk1
          obtain rfl := hr_5.symm
          refine W.widen (k := 0) (n := 0) (Nat.le_refl _) (Nat.le_refl _) ?_
          refine lv_if_eq (tgt := 124) hx hb dX1_hasSight_119 (by decide) (fun c_6 => ?_) (fun c_6 => ?_)
          · refine lv_iinc (v := nI (k + 1)) (lv' := [(8, .int (nI (k + 1))), (9, .int (nI (12 * r + k))), (0, .ref (a 2)), (1, .int (nI P1)), (2, .int (nI P2)), (3, .int (nI T)), (4, .int (nI Bo)), (5, .int (nI Le)), (6, .int (nI Ri)), (7, .int (nI r))]) hx hb dX1_hasSight_124 hl (k := 9) rfl (nI_1 k) (by decide) rfl (fun ls hl => ?_)
            refine lv_goto (tgt := 85) hx hb dX1_hasSight_127 (by decide) ?_
            refine W.widen (k := 0) (n := 0) (Nat.le_refl _) (Nat.le_refl _) ?_
            exact ih_85 (k + 1) _ _ _ (by first | omega | (dsimp only; omega)) ⟨hP, hS, lv_sub hl [2, 3, 4, 5, 6, 7, 8, 9, 0] rfl, ⟨by omega, by omega⟩, (fun k1 g1 g2 => by rcases Nat.lt_or_ge k1 k with q | q; exact hfk k1 g1 q; have e : k1 = k := (by omega); rw [e]; exact Or.inr c_6)⟩
          · refine lv_iconst (v := 0) hx hb dX1_hasSight_122 (by decide) ?_
            -- leaf 1
            refine W.widen (k := 0) (n := 0) (Nat.le_refl _) (Nat.le_refl _) ?_
            exact W.zret (v := 0) (ty := .boolean) hx hb hr rfl (fun t ht hW => ⟨⟨0, (), rfl, (by rw [hq1, hq2]; have e : P1 ≠ P2 := fun q => c_1 (by rw [q]); exact (sI_neg (fun q => (q.2 e r k (by omega) (by omega) (by omega) (by omega)).elim c_4 c_6)).symm), trivial⟩, hS.F ht⟩) hS.2.2 dX1_hasSight_123
  · refine lv_aload_n hx hb dX1_hasSight_5 rfl (lv_at hl 0 rfl) ?_
    refine va_get (D := D) (ci := 1) (v := .ref (a 3)) (C := RX1) (T := TX1) (N := 1) hx hb hts hi_X1 hown hK hP 0 rfl rfl 0 (by decide) hf_9 (fun _ h9 => h9) rfl dX1_hasSight_6 ?_
    refine lv_iload_n hx hb dX1_hasSight_9 rfl (lv_at hl 1 rfl) ?_
    refine va_zald hx hb hK hP 1 1 rfl rfl (vp_in_nI (n := P1) (by omega) (by decide)) dX1_hasSight_10 ?_
    refine tp_eq (y := bk P1) (by rw [nI_clamp (n := P1) (by omega)]) ?_
    refine lv_if_ne (tgt := 18) hx hb dX1_hasSight_11 (by decide) (fun c_7 => ?_) (fun c_7 => ?_)
    · refine lv_iconst (v := 0) hx hb dX1_hasSight_18 (by decide) ?_
      -- leaf 2
      exact W.zret (v := 0) (ty := .boolean) hx hb hr rfl (fun t ht hW => ⟨⟨0, (), rfl, (by rw [hq1, hq2]; have e : P1 = P2 := (nI_eq (by omega) (by omega)).mp c_1; exact (sI_neg (fun q => c_7 (q.1 e))).symm), trivial⟩, hS.F ht⟩) hS.2.2 dX1_hasSight_19
    · refine lv_iconst (v := 1) hx hb dX1_hasSight_14 (by decide) ?_
      refine lv_goto (tgt := 19) hx hb dX1_hasSight_15 (by decide) ?_
      -- leaf 3
      exact W.zret (v := 1) (ty := .boolean) hx hb hr rfl (fun t ht hW => ⟨⟨1, (), rfl, (by rw [hq1, hq2]; have e : P1 = P2 := (nI_eq (by omega) (by omega)).mp c_1; exact (sI_pos ⟨fun _ => c_7, fun q => absurd e q⟩).symm), trivial⟩, hS.F ht⟩) hS.2.2 dX1_hasSight_19

/-- class: of the first n cells so many are seen -/
noncomputable def seenN (bk : Nat → Int32) (p1 : Int32) : Nat → Int32
  | 0 => 0
  | n + 1 => if sI (SgtC bk p1.toNatClampNeg (nI n).toNatClampNeg) = 0 then seenN bk p1 n else seenN bk p1 n + 1
termination_by n => n
set_option maxHeartbeats 4000000 in
set_option maxRecDepth 100000 in
theorem c_X1_countSeen (l : Launch) (D : va_G) (cI cZ cJ cA : ClassId) (sz : Nat) (a : Nat → Nat) (bk : Nat → Int32) (p1 : Int32) (h1 : vp_in p1 144) : Met l yX1_countSeen wsX1_countSeen ({ frames := 3, cells := 0, slots := 0, locals := 77 } : Room) (va_Pc [.ref (a 2), .int p1] (pcR D (tyL cI cZ cJ cA) [((a 2), .inr (1, [.ref (a 3)])), ((a 3), .inl (cZ, 144, .inl bk))] sz)) (va_Qi (fun (r : Int32) (u : Unit) => r = seenN bk p1 144) (fun _ _ => True) (fun q : Nat => sz ≤ q)) 0 0 (fun q : Nat => sz ≤ q) := by
  refine Met.ofW (cc := cX1_countSeen) (maxL := 4) (ret := (some .int)) (by decide) rfl ?_
  intro p e s m args below meth c s₁ B hml hv
  obtain ⟨rfl, hsz, hP, hK⟩ := hv
  have hx := B.exec
  have hb := B.bytes
  have hr := B.returns
  have hts := atoms_spec (ws := wsX1_countSeen) B.pre
  have hown : s.vm.findClass RX1 = some m.cls := findClass_of_methodNamed B.named
  have hlocks := B.notSynchronized
  subst hsz
  have hA : ∀ q : Nat, s.heap.size ≤ q → (fun q : Nat => s.heap.size ≤ q) q := fun _ h => h
  have hS : va_S (fun q : Nat => s.heap.size ≤ q) s.heap s.heap [] := va_S.rf
  have hP : va_P D vwCl [((a 2), .inr (1, [.ref (a 3)])), ((a 3), .inl (cZ, 144, .inl bk))] s.heap := hP
  have hl := lv_entry ([.ref (a 2), .int p1]) (n := 4) (Nat.le_of_ble_eq_true rfl)
  rw [lg_entry_eq]
  generalize (lg_sl ([.ref (a 2), .int p1]) ++ List.replicate (4 - (lg_sl ([.ref (a 2), .int p1])).length) Slot.unset).toArray = ls at hl ⊢
  have hl : lv_has ls 4 [(0, .ref (a 2)), (1, .int p1)] := hl
  refine lv_iconst (v := 0) hx hb dX1_countSeen_0 (by decide) ?_
  refine lv_istore_n (lv' := [(2, .int 0), (0, .ref (a 2)), (1, .int p1)]) hx hb dX1_countSeen_1 rfl hl (by decide) rfl (fun ls hl => ?_)
  refine lv_iconst (v := 0) hx hb dX1_countSeen_2 (by decide) ?_
  refine lv_istore_n (lv' := [(3, .int 0), (2, .int 0), (0, .ref (a 2)), (1, .int p1)]) hx hb dX1_countSeen_3 rfl hl (by decide) rfl (fun ls hl => ?_)
  refine lpW (σ := (Nat) × (Int32)) (I := fun x H locs ls => va_P D vwCl [((a 2), .inr (1, [.ref (a 3)])), ((a 3), .inl (cZ, 144, .inl bk))] H ∧ va_S (fun q : Nat => s.heap.size ≤ q) s.heap H locs ∧ lv_has ls 4 [(0, .ref (a 2)), (1, .int p1), (2, .int x.2), (3, .int (nI x.1))] ∧ (x.1 ≤ 144) ∧ (x.2 = seenN bk p1 x.1)) (μ := fun x => 144 - x.1) ?_ (0, 0) ⟨hP, hS, lv_sub hl [2, 3, 1, 0] rfl, (Nat.zero_le _), (by simp only [seenN])⟩
  intro x H locs ls hI ih
  obtain ⟨i, c2⟩ := x
  obtain ⟨hP, hS, hl, hq_hi, hq_hc⟩ := hI
  have ih_4 := ih
  have hl : lv_has ls 4 [(0, .ref (a 2)), (1, .int p1), (2, .int c2), (3, .int (nI i))] := hl
  have hP : va_P D vwCl [((a 2), .inr (1, [.ref (a 3)])), ((a 3), .inl (cZ, 144, .inl bk))] H := hP
  have hi : i ≤ 144 := hq_hi
  have hc : c2 = seenN bk p1 i := hq_hc
  clear hq_hi hq_hc
  refine lv_iload_n hx hb dX1_countSeen_4 rfl (lv_at hl 3 rfl) ?_
  refine lv_sipush (v := 144) hx hb dX1_countSeen_5 (by decide) ?_
  refine lv_icmp_ge (tgt := 29) hx hb dX1_countSeen_8 (by decide) (fun c_1 => ?_) (fun c_1 => ?_)
  · have he_8 : i = 144 := bd_eq (N := 144) (by decide) hi c_1
    refine lv_iload_n hx hb dX1_countSeen_29 rfl (lv_at hl 2 rfl) ?_
    -- leaf 0
    refine W.widen (k := 0) (n := 0) (Nat.le_refl _) (Nat.le_refl _) ?_
    exact W.iret (v := c2) hx hb hr (fun t ht hW => ⟨⟨c2, (), rfl, (by rw [hc, he_8]), trivial⟩, hS.F ht⟩) hS.2.2 dX1_countSeen_30
  · have hlt_8 : i < 144 := bd_lt (N := 144) (by decide) hi c_1
    refine lv_aload_n hx hb dX1_countSeen_11 rfl (lv_at hl 0 rfl) ?_
    refine lv_iload_n hx hb dX1_countSeen_12 rfl (lv_at hl 1 rfl) ?_
    refine lv_iload_n hx hb dX1_countSeen_13 rfl (lv_at hl 3 rfl) ?_
    have hPc := hP
    refine va_calli (va_runV (As := [.int p1, .int (nI i)]) (rest := []) ⟨hx, hb, hml, hown, hts⟩ (c_X1_hasSight l D cI cZ cJ cA H.size a bk p1 (nI i) (by assumption) (vp_in_nI (n := i) (by omega) (by decide))) (cwV 2 hts gX1_countSeen_X1_hasSight rfl rfl rfl (by decide +kernel) ⟨Nat.le_of_ble_eq_true rfl, Nat.le_of_ble_eq_true rfl⟩) ⟨pcR_bl, va_recv hK hPc (ci := 1) (q0 := 0) rfl rfl, fun U hU hW => ⟨rfl, by rw [hU], by rw [hU]; exact hPc, va_K.moved hW.alike hK⟩⟩ rfl rfl hl.1 rfl (lv_room (Nat.le_of_ble_eq_true rfl)) dX1_countSeen_14 ⟨Nat.le_of_ble_eq_true rfl, Nat.le_of_ble_eq_true rfl⟩) hS (fun _ h1 h2 => absurd h1 (Nat.not_lt.mpr h2)) (rd_free hS hA) (fun r_2 u t H locs ht hvm hw hB hz1 hk1 hS => ?_)
    try dsimp only at hw
    have hr_2 := hw
    have hP := rd_P hP hk1
    obtain rfl := hr_2.symm
    refine W.widen (k := 0) (n := 0) (Nat.le_refl _) (Nat.le_refl _) ?_
    refine lv_if_eq (tgt := 23) hx hb dX1_countSeen_17 (by decide) (fun c_3 => ?_) (fun c_3 => ?_)
    · refine lv_iinc (v := nI (i + 1)) (lv' := [(3, .int (nI (i + 1))), (0, .ref (a 2)), (1, .int p1), (2, .int c2)]) hx hb dX1_countSeen_23 hl (k := 3) rfl (nI_1 i) (by decide) rfl (fun ls hl => ?_)
      refine lv_goto (tgt := 4) hx hb dX1_countSeen_26 (by decide) ?_
      refine W.widen (k := 0) (n := 0) (Nat.le_refl _) (Nat.le_refl _) ?_
      exact ih_4 ((i + 1), c2) _ _ _ (by first | omega | (dsimp only; omega)) ⟨hP, hS, lv_sub hl [1, 2, 3, 0] rfl, (by omega), (by rw [seenN, if_pos c_3, ← hc])⟩
    · refine lv_iinc (v := c2 + 1) (lv' := [(2, .int (c2 + 1)), (0, .ref (a 2)), (1, .int p1), (3, .int (nI i))]) hx hb dX1_countSeen_20 hl (k := 2) rfl rfl (by decide) rfl (fun ls hl => ?_)
      refine lv_iinc (v := nI (i + 1)) (lv' := [(3, .int (nI (i + 1))), (2, .int (c2 + 1)), (0, .ref (a 2)), (1, .int p1)]) hx hb dX1_countSeen_23 hl (k := 3) rfl (nI_1 i) (by decide) rfl (fun ls hl => ?_)
      refine lv_goto (tgt := 4) hx hb dX1_countSeen_26 (by decide) ?_
      refine W.widen (k := 0) (n := 0) (Nat.le_refl _) (Nat.le_refl _) ?_
      exact ih_4 ((i + 1), c2 + 1) _ _ _ (by first | omega | (dsimp only; omega)) ⟨hP, hS, lv_sub hl [2, 3, 1, 0] rfl, (by omega), (by rw [seenN, if_neg c_3, ← hc])⟩

set_option maxHeartbeats 4000000 in
set_option maxRecDepth 100000 in
theorem c_X2_playerOn (l : Launch) (D : va_G) (cI cZ cJ cA : ClassId) (sz : Nat) (a : Nat → Nat) (hm : Int32) (aw : Int32) (tk : Int32) (ce : Nat → Int32) (p1 : Int32) : Met l yX2_playerOn wsX2_playerOn ({ frames := 0, cells := 0, slots := 0, locals := 0 } : Room) (va_Pc [.ref (a 4), .int p1] (pcR D (tyL cI cZ cJ cA) [((a 4), .inr (2, [.int hm, .int aw, .int tk, .ref (a 5), .ref (a 6), .ref (a 7), .ref (a 8), .ref (a 13)])), ((a 5), .inl (cI, 6, .inl ce))] sz)) (va_Qi (fun (r : Int32) (u : Unit) => r = pOn ce p1) (fun _ _ => True) (fun q : Nat => sz ≤ q)) 0 0 (fun q : Nat => sz ≤ q) := by
  refine Met.ofW (cc := cX2_playerOn) (maxL := 3) (ret := (some .int)) (by decide) rfl ?_
  intro p e s m args below meth c s₁ B hml hv
  obtain ⟨rfl, hsz, hP, hK⟩ := hv
  have hx := B.exec
  have hb := B.bytes
  have hr := B.returns
  have hts := atoms_spec (ws := wsX2_playerOn) B.pre
  have hown : s.vm.findClass RX2 = some m.cls := findClass_of_methodNamed B.named
  have hlocks := B.notSynchronized
  subst hsz
  have hA : ∀ q : Nat, s.heap.size ≤ q → (fun q : Nat => s.heap.size ≤ q) q := fun _ h => h
  have hS : va_S (fun q : Nat => s.heap.size ≤ q) s.heap s.heap [] := va_S.rf
  have hP : va_P D vwCl [((a 4), .inr (2, [.int hm, .int aw, .int tk, .ref (a 5), .ref (a 6), .ref (a 7), .ref (a 8), .ref (a 13)])), ((a 5), .inl (cI, 6, .inl ce))] s.heap := hP
  have hl := lv_entry ([.ref (a 4), .int p1]) (n := 3) (Nat.le_of_ble_eq_true rfl)
  rw [lg_entry_eq]
  generalize (lg_sl ([.ref (a 4), .int p1]) ++ List.replicate (3 - (lg_sl ([.ref (a 4), .int p1])).length) Slot.unset).toArray = ls at hl ⊢
  have hl : lv_has ls 3 [(0, .ref (a 4)), (1, .int p1)] := hl
  have hf_15 := hts (.fieldLink RX2 15 "PaintballAtlas$Round" "cells" "[I") (by decide +kernel)
  have hi_X2 : ∀ w ∈ wsX20, w ∈ wsX2_playerOn := by decide +kernel
  refine lv_iconst (v := 0) hx hb dX2_playerOn_0 (by decide) ?_
  refine lv_istore_n (lv' := [(2, .int 0), (0, .ref (a 4)), (1, .int p1)]) hx hb dX2_playerOn_1 rfl hl (by decide) rfl (fun ls hl => ?_)
  refine lpW (σ := (Nat)) (I := fun x H locs ls => va_P D vwCl [((a 4), .inr (2, [.int hm, .int aw, .int tk, .ref (a 5), .ref (a 6), .ref (a 7), .ref (a 8), .ref (a 13)])), ((a 5), .inl (cI, 6, .inl ce))] H ∧ va_S (fun q : Nat => s.heap.size ≤ q) s.heap H locs ∧ lv_has ls 3 [(0, .ref (a 4)), (1, .int p1), (2, .int (nI x))] ∧ (x ≤ 6) ∧ (∀ j, j < x → ¬ ce j = p1)) (μ := fun x => 6 - x) ?_ 0 ⟨hP, hS, lv_sub hl [1, 2, 0] rfl, (Nat.zero_le _), (fun j h => absurd h (Nat.not_lt_zero _))⟩
  intro x H locs ls hI ih
  obtain ⟨i, rfl⟩ : ∃ z, z = x := ⟨_, rfl⟩
  obtain ⟨hP, hS, hl, hq_hi, hq_hno⟩ := hI
  have ih_2 := ih
  have hl : lv_has ls 3 [(0, .ref (a 4)), (1, .int p1), (2, .int (nI i))] := hl
  have hP : va_P D vwCl [((a 4), .inr (2, [.int hm, .int aw, .int tk, .ref (a 5), .ref (a 6), .ref (a 7), .ref (a 8), .ref (a 13)])), ((a 5), .inl (cI, 6, .inl ce))] H := hP
  have hi : i ≤ 6 := hq_hi
  have hno : ∀ j, j < i → ¬ ce j = p1 := hq_hno
  clear hq_hi hq_hno
  refine lv_iload_n hx hb dX2_playerOn_2 rfl (lv_at hl 2 rfl) ?_
  refine lv_bipush (v := 6) hx hb dX2_playerOn_3 (by decide) ?_
  refine lv_icmp_ge (tgt := 26) hx hb dX2_playerOn_5 (by decide) (fun c_1 => ?_) (fun c_1 => ?_)
  · have he_5 : i = 6 := bd_eq (N := 6) (by decide) hi c_1
    refine lv_iconst (v := (-1)) hx hb dX2_playerOn_26 (by decide) ?_
    -- leaf 0
    refine W.widen (k := 0) (n := 0) (Nat.le_refl _) (Nat.le_refl _) ?_
    exact W.iret (v := (-1)) hx hb hr (fun t ht hW => ⟨⟨(-1), (), rfl, (pOn_no (fun j h => hno j (by omega))), trivial⟩, hS.F ht⟩) hS.2.2 dX2_playerOn_27
  · have hlt_5 : i < 6 := bd_lt (N := 6) (by decide) hi c_1
    refine lv_aload_n hx hb dX2_playerOn_8 rfl (lv_at hl 0 rfl) ?_
    refine va_get (D := D) (ci := 2) (v := .ref (a 5)) (C := RX2) (T := TX2) (N := 8) hx hb hts hi_X2 hown hK hP 0 rfl rfl 3 (by decide) hf_15 (fun _ h9 => h9) rfl dX2_playerOn_9 ?_
    refine lv_iload_n hx hb dX2_playerOn_12 rfl (lv_at hl 2 rfl) ?_
    refine va_iald hx hb hK hP 1 0 rfl rfl (vp_in_nI (n := i) (by omega) (by decide)) dX2_playerOn_13 ?_
    refine tp_eq (y := ce i) (by rw [nI_clamp (n := i) (by omega)]) ?_
    refine lv_iload_n hx hb dX2_playerOn_14 rfl (lv_at hl 1 rfl) ?_
    refine lv_icmp_ne (tgt := 20) hx hb dX2_playerOn_15 (by decide) (fun c_2 => ?_) (fun c_2 => ?_)
    · refine lv_iinc (v := nI (i + 1)) (lv' := [(2, .int (nI (i + 1))), (0, .ref (a 4)), (1, .int p1)]) hx hb dX2_playerOn_20 hl (k := 2) rfl (nI_1 i) (by decide) rfl (fun ls hl => ?_)
      refine lv_goto (tgt := 2) hx hb dX2_playerOn_23 (by decide) ?_
      refine W.widen (k := 0) (n := 0) (Nat.le_refl _) (Nat.le_refl _) ?_
      exact ih_2 (i + 1) _ _ _ (by first | omega | (dsimp only; omega)) ⟨hP, hS, lv_sub hl [1, 2, 0] rfl, (by omega), (all_s hno c_2)⟩
    · refine lv_iload_n hx hb dX2_playerOn_18 rfl (lv_at hl 2 rfl) ?_
      -- leaf 1
      refine W.widen (k := 0) (n := 0) (Nat.le_refl _) (Nat.le_refl _) ?_
      exact W.iret (v := nI i) hx hb hr (fun t ht hW => ⟨⟨nI i, (), rfl, (pOn_at hlt_5 hno c_2), trivial⟩, hS.F ht⟩) hS.2.2 dX2_playerOn_19

set_option maxHeartbeats 4000000 in
set_option maxRecDepth 100000 in
theorem c_X2_reset (l : Launch) (D : va_G) (cI cZ cJ cA : ClassId) (sz : Nat) (a : Nat → Nat) (hm : Int32) (aw : Int32) (tk : Int32) (ce : Nat → Int32) (hi : Nat → Int32) (la : Nat → Int32) (sn : Nat) (kn : Nat) (p1 : Int32) : Met l yX2_reset wsX2_reset ({ frames := 0, cells := 0, slots := 0, locals := 0 } : Room) (va_Pc [.ref (a 4), .int p1] (pcW D (tyL cI cZ cJ cA) [((a 4), .inr (2, [.int hm, .int aw, .int tk, .ref (a 5), .ref (a 6), .ref (a 7), .ref (a 8), .ref (a 13)])), ((a 5), .inl (cI, 6, .inl ce)), ((a 6), .inl (cI, 6, .inl hi)), ((a 7), .inl (cI, 6, .inl la)), ((a 8), .inr (3, [.int (nI sn), .ref (a 9), .ref (a 10), .ref (a 11), .ref (a 12)])), ((a 13), .inr (0, [.int (nI kn), .ref (a 14), .ref (a 15), .ref (a 16), .ref (a 17)]))] sz)) (va_Qv (fun (u : (Nat → Int32) × (Nat → Int32) × (Nat → Int32) × (Nat) × (Nat)) => u.1 = fillN ce p1 6 ∧ u.2.1 = fillN hi (-1) 6 ∧ u.2.2.1 = fillN la (-1) 6 ∧ u.2.2.2.1 = 0 ∧ u.2.2.2.2 = 0) (fun u t => bcW D (tyL cI cZ cJ cA) (va_A [((a 4), .inr (2, [.int hm, .int aw, .int tk, .ref (a 5), .ref (a 6), .ref (a 7), .ref (a 8), .ref (a 13)])), ((a 5), .inl (cI, 6, .inl ce)), ((a 6), .inl (cI, 6, .inl hi)), ((a 7), .inl (cI, 6, .inl la)), ((a 8), .inr (3, [.int (nI sn), .ref (a 9), .ref (a 10), .ref (a 11), .ref (a 12)])), ((a 13), .inr (0, [.int (nI kn), .ref (a 14), .ref (a 15), .ref (a 16), .ref (a 17)]))] sz) [((a 4), .inr (2, [.int hm, .int aw, .int tk, .ref (a 5), .ref (a 6), .ref (a 7), .ref (a 8), .ref (a 13)])), ((a 5), .inl (cI, 6, .inl u.1)), ((a 6), .inl (cI, 6, .inl u.2.1)), ((a 7), .inl (cI, 6, .inl u.2.2.1)), ((a 8), .inr (3, [.int (nI u.2.2.2.1), .ref (a 9), .ref (a 10), .ref (a 11), .ref (a 12)])), ((a 13), .inr (0, [.int (nI u.2.2.2.2), .ref (a 14), .ref (a 15), .ref (a 16), .ref (a 17)]))] t) (va_A [((a 4), .inr (2, [.int hm, .int aw, .int tk, .ref (a 5), .ref (a 6), .ref (a 7), .ref (a 8), .ref (a 13)])), ((a 5), .inl (cI, 6, .inl ce)), ((a 6), .inl (cI, 6, .inl hi)), ((a 7), .inl (cI, 6, .inl la)), ((a 8), .inr (3, [.int (nI sn), .ref (a 9), .ref (a 10), .ref (a 11), .ref (a 12)])), ((a 13), .inr (0, [.int (nI kn), .ref (a 14), .ref (a 15), .ref (a 16), .ref (a 17)]))] sz)) 0 0 (va_A [((a 4), .inr (2, [.int hm, .int aw, .int tk, .ref (a 5), .ref (a 6), .ref (a 7), .ref (a 8), .ref (a 13)])), ((a 5), .inl (cI, 6, .inl ce)), ((a 6), .inl (cI, 6, .inl hi)), ((a 7), .inl (cI, 6, .inl la)), ((a 8), .inr (3, [.int (nI sn), .ref (a 9), .ref (a 10), .ref (a 11), .ref (a 12)])), ((a 13), .inr (0, [.int (nI kn), .ref (a 14), .ref (a 15), .ref (a 16), .ref (a 17)]))] sz) := by
  refine Met.ofW (cc := cX2_reset) (maxL := 3) (ret := none) (by decide) rfl ?_
  intro p e s m args below meth c s₁ B hml hv
  obtain ⟨rfl, hsz, hP, hK, hD0⟩ := hv
  have hx := B.exec
  have hb := B.bytes
  have hr := B.returns
  have hts := atoms_spec (ws := wsX2_reset) B.pre
  have hown : s.vm.findClass RX2 = some m.cls := findClass_of_methodNamed B.named
  have hlocks := B.notSynchronized
  subst hsz
  have hD := hD0.self (sz := s.heap.size)
  generalize hAe : va_A [((a 4), .inr (2, [.int hm, .int aw, .int tk, .ref (a 5), .ref (a 6), .ref (a 7), .ref (a 8), .ref (a 13)])), ((a 5), .inl (cI, 6, .inl ce)), ((a 6), .inl (cI, 6, .inl hi)), ((a 7), .inl (cI, 6, .inl la)), ((a 8), .inr (3, [.int (nI sn), .ref (a 9), .ref (a 10), .ref (a 11), .ref (a 12)])), ((a 13), .inr (0, [.int (nI kn), .ref (a 14), .ref (a 15), .ref (a 16), .ref (a 17)]))] s.heap.size = A at hD ⊢
  have hA : ∀ q : Nat, s.heap.size ≤ q → A q := fun q h => by rw [← hAe]; exact Or.inr h
  have hAR : ∀ q : Nat, s.heap.size ≤ q → (fun q : Nat => s.heap.size ≤ q) q := fun _ h => h
  have hS : va_S A s.heap s.heap [] := va_S.rf
  have hP : va_P D vwCl [((a 4), .inr (2, [.int hm, .int aw, .int tk, .ref (a 5), .ref (a 6), .ref (a 7), .ref (a 8), .ref (a 13)])), ((a 5), .inl (cI, 6, .inl ce)), ((a 6), .inl (cI, 6, .inl hi)), ((a 7), .inl (cI, 6, .inl la)), ((a 8), .inr (3, [.int (nI sn), .ref (a 9), .ref (a 10), .ref (a 11), .ref (a 12)])), ((a 13), .inr (0, [.int (nI kn), .ref (a 14), .ref (a 15), .ref (a 16), .ref (a 17)]))] s.heap := hP
  have hl := lv_entry ([.ref (a 4), .int p1]) (n := 3) (Nat.le_of_ble_eq_true rfl)
  rw [lg_entry_eq]
  generalize (lg_sl ([.ref (a 4), .int p1]) ++ List.replicate (3 - (lg_sl ([.ref (a 4), .int p1])).length) Slot.unset).toArray = ls at hl ⊢
  have hl : lv_has ls 3 [(0, .ref (a 4)), (1, .int p1)] := hl
  have hf_28 := hts (.fieldLink RX2 28 "PaintballAtlas$Round" "shots" "LPaintballAtlas$Shots;") (by decide +kernel)
  have hi_X2 : ∀ w ∈ wsX20, w ∈ wsX2_reset := by decide +kernel
  have hf_49 := hts (.fieldLink RX2 49 "PaintballAtlas$Shots" "count" "I") (by decide +kernel)
  have hi_X3 : ∀ w ∈ wsX30, w ∈ wsX2_reset := by decide +kernel
  have hf_35 := hts (.fieldLink RX2 35 "PaintballAtlas$Round" "calls" "LPaintballAtlas$Calls;") (by decide +kernel)
  have hf_52 := hts (.fieldLink RX2 52 "PaintballAtlas$Calls" "count" "I") (by decide +kernel)
  have hi_X0 : ∀ w ∈ wsX00, w ∈ wsX2_reset := by decide +kernel
  have hf_15 := hts (.fieldLink RX2 15 "PaintballAtlas$Round" "cells" "[I") (by decide +kernel)
  have hf_19 := hts (.fieldLink RX2 19 "PaintballAtlas$Round" "hits" "[I") (by decide +kernel)
  have hf_22 := hts (.fieldLink RX2 22 "PaintballAtlas$Round" "lastShots" "[I") (by decide +kernel)
  refine lv_iconst (v := 0) hx hb dX2_reset_0 (by decide) ?_
  refine lv_istore_n (lv' := [(2, .int 0), (0, .ref (a 4)), (1, .int p1)]) hx hb dX2_reset_1 rfl hl (by decide) rfl (fun ls hl => ?_)
  refine lpW (σ := (Nat) × (Nat → Int32) × (Nat → Int32) × (Nat → Int32)) (I := fun x H locs ls => va_P D vwCl [((a 4), .inr (2, [.int hm, .int aw, .int tk, .ref (a 5), .ref (a 6), .ref (a 7), .ref (a 8), .ref (a 13)])), ((a 5), .inl (cI, 6, .inl x.2.1)), ((a 6), .inl (cI, 6, .inl x.2.2.1)), ((a 7), .inl (cI, 6, .inl x.2.2.2)), ((a 8), .inr (3, [.int (nI sn), .ref (a 9), .ref (a 10), .ref (a 11), .ref (a 12)])), ((a 13), .inr (0, [.int (nI kn), .ref (a 14), .ref (a 15), .ref (a 16), .ref (a 17)]))] H ∧ va_D A [((a 4), .inr (2, [.int hm, .int aw, .int tk, .ref (a 5), .ref (a 6), .ref (a 7), .ref (a 8), .ref (a 13)])), ((a 5), .inl (cI, 6, .inl x.2.1)), ((a 6), .inl (cI, 6, .inl x.2.2.1)), ((a 7), .inl (cI, 6, .inl x.2.2.2)), ((a 8), .inr (3, [.int (nI sn), .ref (a 9), .ref (a 10), .ref (a 11), .ref (a 12)])), ((a 13), .inr (0, [.int (nI kn), .ref (a 14), .ref (a 15), .ref (a 16), .ref (a 17)]))] ∧ va_S A s.heap H locs ∧ lv_has ls 3 [(0, .ref (a 4)), (1, .int p1), (2, .int (nI x.1))] ∧ (x.1 ≤ 6) ∧ (x.2.1 = fillN ce p1 x.1) ∧ (x.2.2.1 = fillN hi (-1) x.1) ∧ (x.2.2.2 = fillN la (-1) x.1)) (μ := fun x => 6 - x.1) ?_ (0, ce, hi, la) ⟨hP, hD, hS, lv_sub hl [1, 2, 0] rfl, (Nat.zero_le _), rfl, rfl, rfl⟩
  intro x H locs ls hI ih
  obtain ⟨i, e1, e2, e3⟩ := x
  obtain ⟨hP, hD, hS, hl, hq_hi1, hq_h1, hq_h2, hq_h3⟩ := hI
  have ih_2 := ih
  have hl : lv_has ls 3 [(0, .ref (a 4)), (1, .int p1), (2, .int (nI i))] := hl
  have hP : va_P D vwCl [((a 4), .inr (2, [.int hm, .int aw, .int tk, .ref (a 5), .ref (a 6), .ref (a 7), .ref (a 8), .ref (a 13)])), ((a 5), .inl (cI, 6, .inl e1)), ((a 6), .inl (cI, 6, .inl e2)), ((a 7), .inl (cI, 6, .inl e3)), ((a 8), .inr (3, [.int (nI sn), .ref (a 9), .ref (a 10), .ref (a 11), .ref (a 12)])), ((a 13), .inr (0, [.int (nI kn), .ref (a 14), .ref (a 15), .ref (a 16), .ref (a 17)]))] H := hP
  have hD : va_D A [((a 4), .inr (2, [.int hm, .int aw, .int tk, .ref (a 5), .ref (a 6), .ref (a 7), .ref (a 8), .ref (a 13)])), ((a 5), .inl (cI, 6, .inl e1)), ((a 6), .inl (cI, 6, .inl e2)), ((a 7), .inl (cI, 6, .inl e3)), ((a 8), .inr (3, [.int (nI sn), .ref (a 9), .ref (a 10), .ref (a 11), .ref (a 12)])), ((a 13), .inr (0, [.int (nI kn), .ref (a 14), .ref (a 15), .ref (a 16), .ref (a 17)]))] := hD
  have hi1 : i ≤ 6 := hq_hi1
  have h1 : e1 = fillN ce p1 i := hq_h1
  have h2 : e2 = fillN hi (-1) i := hq_h2
  have h3 : e3 = fillN la (-1) i := hq_h3
  clear hq_hi1 hq_h1 hq_h2 hq_h3
  refine lv_iload_n hx hb dX2_reset_2 rfl (lv_at hl 2 rfl) ?_
  refine lv_bipush (v := 6) hx hb dX2_reset_3 (by decide) ?_
  refine lv_icmp_ge (tgt := 35) hx hb dX2_reset_5 (by decide) (fun c_1 => ?_) (fun c_1 => ?_)
  · have he_5 : i = 6 := bd_eq (N := 6) (by decide) hi1 c_1
    refine lv_aload_n hx hb dX2_reset_35 rfl (lv_at hl 0 rfl) ?_
    refine va_get (D := D) (ci := 2) (v := .ref (a 8)) (C := RX2) (T := TX2) (N := 8) hx hb hts hi_X2 hown hK hP 0 rfl rfl 6 (by decide) hf_28 (fun _ h9 => h9) rfl dX2_reset_36 ?_
    refine lv_iconst (v := 0) hx hb dX2_reset_39 (by decide) ?_
    refine va_put (D := D) (ci := 3) (v := .int 0) (ty := .int) (C := RX3) (T := TX3) (N := 5) hx hb hts hi_X3 tyX3 tyX3_ok nmX3 hown hK hP hD hS 4 rfl rfl 0 (by decide) hf_49 (fun _ h9 => h9) rfl (by decide +kernel) rfl rfl (Nat.le_of_ble_eq_true rfl) dX2_reset_40 (fun H locs hP hD hS => ?_)
    have hP : va_P D vwCl [((a 4), .inr (2, [.int hm, .int aw, .int tk, .ref (a 5), .ref (a 6), .ref (a 7), .ref (a 8), .ref (a 13)])), ((a 5), .inl (cI, 6, .inl e1)), ((a 6), .inl (cI, 6, .inl e2)), ((a 7), .inl (cI, 6, .inl e3)), ((a 8), .inr (3, [.int 0, .ref (a 9), .ref (a 10), .ref (a 11), .ref (a 12)])), ((a 13), .inr (0, [.int (nI kn), .ref (a 14), .ref (a 15), .ref (a 16), .ref (a 17)]))] H := hP
    have hD : va_D A [((a 4), .inr (2, [.int hm, .int aw, .int tk, .ref (a 5), .ref (a 6), .ref (a 7), .ref (a 8), .ref (a 13)])), ((a 5), .inl (cI, 6, .inl e1)), ((a 6), .inl (cI, 6, .inl e2)), ((a 7), .inl (cI, 6, .inl e3)), ((a 8), .inr (3, [.int 0, .ref (a 9), .ref (a 10), .ref (a 11), .ref (a 12)])), ((a 13), .inr (0, [.int (nI kn), .ref (a 14), .ref (a 15), .ref (a 16), .ref (a 17)]))] := hD
    refine lv_aload_n hx hb dX2_reset_43 rfl (lv_at hl 0 rfl) ?_
    refine va_get (D := D) (ci := 2) (v := .ref (a 13)) (C := RX2) (T := TX2) (N := 8) hx hb hts hi_X2 hown hK hP 0 rfl rfl 7 (by decide) hf_35 (fun _ h9 => h9) rfl dX2_reset_44 ?_
    refine lv_iconst (v := 0) hx hb dX2_reset_47 (by decide) ?_
    refine va_put (D := D) (ci := 0) (v := .int 0) (ty := .int) (C := RX0) (T := TX0) (N := 5) hx hb hts hi_X0 tyX0 tyX0_ok nmX0 hown hK hP hD hS 5 rfl rfl 0 (by decide) hf_52 (fun _ h9 => h9) rfl (by decide +kernel) rfl rfl (Nat.le_of_ble_eq_true rfl) dX2_reset_48 (fun H locs hP hD hS => ?_)
    have hP : va_P D vwCl [((a 4), .inr (2, [.int hm, .int aw, .int tk, .ref (a 5), .ref (a 6), .ref (a 7), .ref (a 8), .ref (a 13)])), ((a 5), .inl (cI, 6, .inl e1)), ((a 6), .inl (cI, 6, .inl e2)), ((a 7), .inl (cI, 6, .inl e3)), ((a 8), .inr (3, [.int 0, .ref (a 9), .ref (a 10), .ref (a 11), .ref (a 12)])), ((a 13), .inr (0, [.int 0, .ref (a 14), .ref (a 15), .ref (a 16), .ref (a 17)]))] H := hP
    have hD : va_D A [((a 4), .inr (2, [.int hm, .int aw, .int tk, .ref (a 5), .ref (a 6), .ref (a 7), .ref (a 8), .ref (a 13)])), ((a 5), .inl (cI, 6, .inl e1)), ((a 6), .inl (cI, 6, .inl e2)), ((a 7), .inl (cI, 6, .inl e3)), ((a 8), .inr (3, [.int 0, .ref (a 9), .ref (a 10), .ref (a 11), .ref (a 12)])), ((a 13), .inr (0, [.int 0, .ref (a 14), .ref (a 15), .ref (a 16), .ref (a 17)]))] := hD
    have hP9 := hP.sub (ws' := [((a 4), .inr (2, [.int hm, .int aw, .int tk, .ref (a 5), .ref (a 6), .ref (a 7), .ref (a 8), .ref (a 13)])), ((a 5), .inl (cI, 6, .inl e1)), ((a 6), .inl (cI, 6, .inl e2)), ((a 7), .inl (cI, 6, .inl e3)), ((a 8), .inr (3, [.int 0, .ref (a 9), .ref (a 10), .ref (a 11), .ref (a 12)])), ((a 13), .inr (0, [.int 0, .ref (a 14), .ref (a 15), .ref (a 16), .ref (a 17)]))]) [0, 1, 2, 3, 4, 5] rfl
    have hD9 := hD.sub (ws' := [((a 4), .inr (2, [.int hm, .int aw, .int tk, .ref (a 5), .ref (a 6), .ref (a 7), .ref (a 8), .ref (a 13)])), ((a 5), .inl (cI, 6, .inl e1)), ((a 6), .inl (cI, 6, .inl e2)), ((a 7), .inl (cI, 6, .inl e3)), ((a 8), .inr (3, [.int 0, .ref (a 9), .ref (a 10), .ref (a 11), .ref (a 12)])), ((a 13), .inr (0, [.int 0, .ref (a 14), .ref (a 15), .ref (a 16), .ref (a 17)]))]) [0, 1, 2, 3, 4, 5] (by decide) rfl
    -- leaf 0
    refine W.widen (k := 0) (n := 0) (Nat.le_refl _) (Nat.le_refl _) ?_
    exact W.vret hx hb hr (fun t ht hW => ⟨⟨(e1, e2, e3, 0, 0), rfl, ⟨(by rw [h1, he_5]), (by rw [h2, he_5]), (by rw [h3, he_5]), rfl, rfl⟩, by rw [ht]; exact hP9, va_K.moved hW.alike hK, hD9⟩, hS.F ht⟩) hS.2.2 dX2_reset_51
  · have hlt_5 : i < 6 := bd_lt (N := 6) (by decide) hi1 c_1
    refine lv_aload_n hx hb dX2_reset_8 rfl (lv_at hl 0 rfl) ?_
    refine va_get (D := D) (ci := 2) (v := .ref (a 5)) (C := RX2) (T := TX2) (N := 8) hx hb hts hi_X2 hown hK hP 0 rfl rfl 3 (by decide) hf_15 (fun _ h9 => h9) rfl dX2_reset_9 ?_
    refine lv_iload_n hx hb dX2_reset_12 rfl (lv_at hl 2 rfl) ?_
    refine lv_iload_n hx hb dX2_reset_13 rfl (lv_at hl 1 rfl) ?_
    refine va_iast hx hb hK hP hD hS 1 0 rfl rfl (vp_in_nI (n := i) (by omega) (by decide)) dX2_reset_14 (fun H locs hP hD hS => ?_)
    rw [nI_clamp (n := i) (by omega)] at hP hD
    have hP : va_P D vwCl [((a 4), .inr (2, [.int hm, .int aw, .int tk, .ref (a 5), .ref (a 6), .ref (a 7), .ref (a 8), .ref (a 13)])), ((a 5), .inl (cI, 6, .inl (upd e1 i p1))), ((a 6), .inl (cI, 6, .inl e2)), ((a 7), .inl (cI, 6, .inl e3)), ((a 8), .inr (3, [.int (nI sn), .ref (a 9), .ref (a 10), .ref (a 11), .ref (a 12)])), ((a 13), .inr (0, [.int (nI kn), .ref (a 14), .ref (a 15), .ref (a 16), .ref (a 17)]))] H := hP
    have hD : va_D A [((a 4), .inr (2, [.int hm, .int aw, .int tk, .ref (a 5), .ref (a 6), .ref (a 7), .ref (a 8), .ref (a 13)])), ((a 5), .inl (cI, 6, .inl (upd e1 i p1))), ((a 6), .inl (cI, 6, .inl e2)), ((a 7), .inl (cI, 6, .inl e3)), ((a 8), .inr (3, [.int (nI sn), .ref (a 9), .ref (a 10), .ref (a 11), .ref (a 12)])), ((a 13), .inr (0, [.int (nI kn), .ref (a 14), .ref (a 15), .ref (a 16), .ref (a 17)]))] := hD
    refine lv_aload_n hx hb dX2_reset_15 rfl (lv_at hl 0 rfl) ?_
    refine va_get (D := D) (ci := 2) (v := .ref (a 6)) (C := RX2) (T := TX2) (N := 8) hx hb hts hi_X2 hown hK hP 0 rfl rfl 4 (by decide) hf_19 (fun _ h9 => h9) rfl dX2_reset_16 ?_
    refine lv_iload_n hx hb dX2_reset_19 rfl (lv_at hl 2 rfl) ?_
    refine lv_iconst (v := (-1)) hx hb dX2_reset_20 (by decide) ?_
    refine va_iast hx hb hK hP hD hS 2 0 rfl rfl (vp_in_nI (n := i) (by omega) (by decide)) dX2_reset_21 (fun H locs hP hD hS => ?_)
    rw [nI_clamp (n := i) (by omega)] at hP hD
    have hP : va_P D vwCl [((a 4), .inr (2, [.int hm, .int aw, .int tk, .ref (a 5), .ref (a 6), .ref (a 7), .ref (a 8), .ref (a 13)])), ((a 5), .inl (cI, 6, .inl (upd e1 i p1))), ((a 6), .inl (cI, 6, .inl (upd e2 i (-1)))), ((a 7), .inl (cI, 6, .inl e3)), ((a 8), .inr (3, [.int (nI sn), .ref (a 9), .ref (a 10), .ref (a 11), .ref (a 12)])), ((a 13), .inr (0, [.int (nI kn), .ref (a 14), .ref (a 15), .ref (a 16), .ref (a 17)]))] H := hP
    have hD : va_D A [((a 4), .inr (2, [.int hm, .int aw, .int tk, .ref (a 5), .ref (a 6), .ref (a 7), .ref (a 8), .ref (a 13)])), ((a 5), .inl (cI, 6, .inl (upd e1 i p1))), ((a 6), .inl (cI, 6, .inl (upd e2 i (-1)))), ((a 7), .inl (cI, 6, .inl e3)), ((a 8), .inr (3, [.int (nI sn), .ref (a 9), .ref (a 10), .ref (a 11), .ref (a 12)])), ((a 13), .inr (0, [.int (nI kn), .ref (a 14), .ref (a 15), .ref (a 16), .ref (a 17)]))] := hD
    refine lv_aload_n hx hb dX2_reset_22 rfl (lv_at hl 0 rfl) ?_
    refine va_get (D := D) (ci := 2) (v := .ref (a 7)) (C := RX2) (T := TX2) (N := 8) hx hb hts hi_X2 hown hK hP 0 rfl rfl 5 (by decide) hf_22 (fun _ h9 => h9) rfl dX2_reset_23 ?_
    refine lv_iload_n hx hb dX2_reset_26 rfl (lv_at hl 2 rfl) ?_
    refine lv_iconst (v := (-1)) hx hb dX2_reset_27 (by decide) ?_
    refine va_iast hx hb hK hP hD hS 3 0 rfl rfl (vp_in_nI (n := i) (by omega) (by decide)) dX2_reset_28 (fun H locs hP hD hS => ?_)
    rw [nI_clamp (n := i) (by omega)] at hP hD
    have hP : va_P D vwCl [((a 4), .inr (2, [.int hm, .int aw, .int tk, .ref (a 5), .ref (a 6), .ref (a 7), .ref (a 8), .ref (a 13)])), ((a 5), .inl (cI, 6, .inl (upd e1 i p1))), ((a 6), .inl (cI, 6, .inl (upd e2 i (-1)))), ((a 7), .inl (cI, 6, .inl (upd e3 i (-1)))), ((a 8), .inr (3, [.int (nI sn), .ref (a 9), .ref (a 10), .ref (a 11), .ref (a 12)])), ((a 13), .inr (0, [.int (nI kn), .ref (a 14), .ref (a 15), .ref (a 16), .ref (a 17)]))] H := hP
    have hD : va_D A [((a 4), .inr (2, [.int hm, .int aw, .int tk, .ref (a 5), .ref (a 6), .ref (a 7), .ref (a 8), .ref (a 13)])), ((a 5), .inl (cI, 6, .inl (upd e1 i p1))), ((a 6), .inl (cI, 6, .inl (upd e2 i (-1)))), ((a 7), .inl (cI, 6, .inl (upd e3 i (-1)))), ((a 8), .inr (3, [.int (nI sn), .ref (a 9), .ref (a 10), .ref (a 11), .ref (a 12)])), ((a 13), .inr (0, [.int (nI kn), .ref (a 14), .ref (a 15), .ref (a 16), .ref (a 17)]))] := hD
    refine lv_iinc (v := nI (i + 1)) (lv' := [(2, .int (nI (i + 1))), (0, .ref (a 4)), (1, .int p1)]) hx hb dX2_reset_29 hl (k := 2) rfl (nI_1 i) (by decide) rfl (fun ls hl => ?_)
    refine lv_goto (tgt := 2) hx hb dX2_reset_32 (by decide) ?_
    refine W.widen (k := 0) (n := 0) (Nat.le_refl _) (Nat.le_refl _) ?_
    exact ih_2 ((i + 1), upd e1 i p1, upd e2 i (-1), upd e3 i (-1)) _ _ _ (by first | omega | (dsimp only; omega)) ⟨hP, hD, hS, lv_sub hl [1, 2, 0] rfl, (by omega), (by rw [fillN, ← h1]), (by rw [fillN, ← h2]), (by rw [fillN, ← h3])⟩

set_option maxHeartbeats 4000000 in
set_option maxRecDepth 100000 in
theorem c_X2_start (l : Launch) (D : va_G) (cI cZ cJ cA : ClassId) (sz : Nat) (a : Nat → Nat) (hm : Int32) (aw : Int32) (tk : Int32) (ce : Nat → Int32) (hi : Nat → Int32) (la : Nat → Int32) (sn : Nat) (kn : Nat) (p1 : Int32) (p2 : Int32) : Met l yX2_start wsX2_start ({ frames := 1, cells := 0, slots := 0, locals := 22 } : Room) (va_Pc [.ref (a 4), .int p1, .int p2] (pcW D (tyL cI cZ cJ cA) [((a 4), .inr (2, [.int hm, .int aw, .int tk, .ref (a 5), .ref (a 6), .ref (a 7), .ref (a 8), .ref (a 13)])), ((a 5), .inl (cI, 6, .inl ce)), ((a 6), .inl (cI, 6, .inl hi)), ((a 7), .inl (cI, 6, .inl la)), ((a 8), .inr (3, [.int (nI sn), .ref (a 9), .ref (a 10), .ref (a 11), .ref (a 12)])), ((a 13), .inr (0, [.int (nI kn), .ref (a 14), .ref (a 15), .ref (a 16), .ref (a 17)]))] sz)) (va_Qv (fun (u : (Int32) × (Int32) × (Int32) × (Nat → Int32) × (Nat → Int32) × (Nat → Int32) × (Nat) × (Nat)) => u.1 = p1 ∧ u.2.1 = p2 ∧ u.2.2.1 = 0 ∧ u.2.2.2.1 = (fillN ce (-1) 6) ∧ u.2.2.2.2.1 = (fillN hi (-1) 6) ∧ u.2.2.2.2.2.1 = (fillN la (-1) 6) ∧ u.2.2.2.2.2.2.1 = 0 ∧ u.2.2.2.2.2.2.2 = 0) (fun u t => bcW D (tyL cI cZ cJ cA) (va_A [((a 4), .inr (2, [.int hm, .int aw, .int tk, .ref (a 5), .ref (a 6), .ref (a 7), .ref (a 8), .ref (a 13)])), ((a 5), .inl (cI, 6, .inl ce)), ((a 6), .inl (cI, 6, .inl hi)), ((a 7), .inl (cI, 6, .inl la)), ((a 8), .inr (3, [.int (nI sn), .ref (a 9), .ref (a 10), .ref (a 11), .ref (a 12)])), ((a 13), .inr (0, [.int (nI kn), .ref (a 14), .ref (a 15), .ref (a 16), .ref (a 17)]))] sz) [((a 4), .inr (2, [.int u.1, .int u.2.1, .int u.2.2.1, .ref (a 5), .ref (a 6), .ref (a 7), .ref (a 8), .ref (a 13)])), ((a 5), .inl (cI, 6, .inl u.2.2.2.1)), ((a 6), .inl (cI, 6, .inl u.2.2.2.2.1)), ((a 7), .inl (cI, 6, .inl u.2.2.2.2.2.1)), ((a 8), .inr (3, [.int (nI u.2.2.2.2.2.2.1), .ref (a 9), .ref (a 10), .ref (a 11), .ref (a 12)])), ((a 13), .inr (0, [.int (nI u.2.2.2.2.2.2.2), .ref (a 14), .ref (a 15), .ref (a 16), .ref (a 17)]))] t) (va_A [((a 4), .inr (2, [.int hm, .int aw, .int tk, .ref (a 5), .ref (a 6), .ref (a 7), .ref (a 8), .ref (a 13)])), ((a 5), .inl (cI, 6, .inl ce)), ((a 6), .inl (cI, 6, .inl hi)), ((a 7), .inl (cI, 6, .inl la)), ((a 8), .inr (3, [.int (nI sn), .ref (a 9), .ref (a 10), .ref (a 11), .ref (a 12)])), ((a 13), .inr (0, [.int (nI kn), .ref (a 14), .ref (a 15), .ref (a 16), .ref (a 17)]))] sz)) 0 0 (va_A [((a 4), .inr (2, [.int hm, .int aw, .int tk, .ref (a 5), .ref (a 6), .ref (a 7), .ref (a 8), .ref (a 13)])), ((a 5), .inl (cI, 6, .inl ce)), ((a 6), .inl (cI, 6, .inl hi)), ((a 7), .inl (cI, 6, .inl la)), ((a 8), .inr (3, [.int (nI sn), .ref (a 9), .ref (a 10), .ref (a 11), .ref (a 12)])), ((a 13), .inr (0, [.int (nI kn), .ref (a 14), .ref (a 15), .ref (a 16), .ref (a 17)]))] sz) := by
  refine Met.ofW (cc := cX2_start) (maxL := 3) (ret := none) (by decide) rfl ?_
  intro p e s m args below meth c s₁ B hml hv
  obtain ⟨rfl, hsz, hP, hK, hD0⟩ := hv
  have hx := B.exec
  have hb := B.bytes
  have hr := B.returns
  have hts := atoms_spec (ws := wsX2_start) B.pre
  have hown : s.vm.findClass RX2 = some m.cls := findClass_of_methodNamed B.named
  have hlocks := B.notSynchronized
  subst hsz
  have hD := hD0.self (sz := s.heap.size)
  generalize hAe : va_A [((a 4), .inr (2, [.int hm, .int aw, .int tk, .ref (a 5), .ref (a 6), .ref (a 7), .ref (a 8), .ref (a 13)])), ((a 5), .inl (cI, 6, .inl ce)), ((a 6), .inl (cI, 6, .inl hi)), ((a 7), .inl (cI, 6, .inl la)), ((a 8), .inr (3, [.int (nI sn), .ref (a 9), .ref (a 10), .ref (a 11), .ref (a 12)])), ((a 13), .inr (0, [.int (nI kn), .ref (a 14), .ref (a 15), .ref (a 16), .ref (a 17)]))] s.heap.size = A at hD ⊢
  have hA : ∀ q : Nat, s.heap.size ≤ q → A q := fun q h => by rw [← hAe]; exact Or.inr h
  have hAR : ∀ q : Nat, s.heap.size ≤ q → (fun q : Nat => s.heap.size ≤ q) q := fun _ h => h
  have hS : va_S A s.heap s.heap [] := va_S.rf
  have hP : va_P D vwCl [((a 4), .inr (2, [.int hm, .int aw, .int tk, .ref (a 5), .ref (a 6), .ref (a 7), .ref (a 8), .ref (a 13)])), ((a 5), .inl (cI, 6, .inl ce)), ((a 6), .inl (cI, 6, .inl hi)), ((a 7), .inl (cI, 6, .inl la)), ((a 8), .inr (3, [.int (nI sn), .ref (a 9), .ref (a 10), .ref (a 11), .ref (a 12)])), ((a 13), .inr (0, [.int (nI kn), .ref (a 14), .ref (a 15), .ref (a 16), .ref (a 17)]))] s.heap := hP
  have hl := lv_entry ([.ref (a 4), .int p1, .int p2]) (n := 3) (Nat.le_of_ble_eq_true rfl)
  rw [lg_entry_eq]
  generalize (lg_sl ([.ref (a 4), .int p1, .int p2]) ++ List.replicate (3 - (lg_sl ([.ref (a 4), .int p1, .int p2])).length) Slot.unset).toArray = ls at hl ⊢
  have hl : lv_has ls 3 [(0, .ref (a 4)), (1, .int p1), (2, .int p2)] := hl
  have hf_43 := hts (.fieldLink RX2 43 "PaintballAtlas$Round" "home" "I") (by decide +kernel)
  have hi_X2 : ∀ w ∈ wsX20, w ∈ wsX2_start := by decide +kernel
  have hf_46 := hts (.fieldLink RX2 46 "PaintballAtlas$Round" "away" "I") (by decide +kernel)
  have hf_9 := hts (.fieldLink RX2 9 "PaintballAtlas$Round" "tick" "I") (by decide +kernel)
  refine lv_aload_n hx hb dX2_start_0 rfl (lv_at hl 0 rfl) ?_
  refine lv_iload_n hx hb dX2_start_1 rfl (lv_at hl 1 rfl) ?_
  refine va_put (D := D) (ci := 2) (v := .int p1) (ty := .int) (C := RX2) (T := TX2) (N := 8) hx hb hts hi_X2 tyX2 tyX2_ok nmX2 hown hK hP hD hS 0 rfl rfl 0 (by decide) hf_43 (fun _ h9 => h9) rfl (by decide +kernel) rfl rfl (Nat.le_of_ble_eq_true rfl) dX2_start_2 (fun H locs hP hD hS => ?_)
  have hP : va_P D vwCl [((a 4), .inr (2, [.int p1, .int aw, .int tk, .ref (a 5), .ref (a 6), .ref (a 7), .ref (a 8), .ref (a 13)])), ((a 5), .inl (cI, 6, .inl ce)), ((a 6), .inl (cI, 6, .inl hi)), ((a 7), .inl (cI, 6, .inl la)), ((a 8), .inr (3, [.int (nI sn), .ref (a 9), .ref (a 10), .ref (a 11), .ref (a 12)])), ((a 13), .inr (0, [.int (nI kn), .ref (a 14), .ref (a 15), .ref (a 16), .ref (a 17)]))] H := hP
  have hD : va_D A [((a 4), .inr (2, [.int p1, .int aw, .int tk, .ref (a 5), .ref (a 6), .ref (a 7), .ref (a 8), .ref (a 13)])), ((a 5), .inl (cI, 6, .inl ce)), ((a 6), .inl (cI, 6, .inl hi)), ((a 7), .inl (cI, 6, .inl la)), ((a 8), .inr (3, [.int (nI sn), .ref (a 9), .ref (a 10), .ref (a 11), .ref (a 12)])), ((a 13), .inr (0, [.int (nI kn), .ref (a 14), .ref (a 15), .ref (a 16), .ref (a 17)]))] := hD
  refine lv_aload_n hx hb dX2_start_5 rfl (lv_at hl 0 rfl) ?_
  refine lv_iload_n hx hb dX2_start_6 rfl (lv_at hl 2 rfl) ?_
  refine va_put (D := D) (ci := 2) (v := .int p2) (ty := .int) (C := RX2) (T := TX2) (N := 8) hx hb hts hi_X2 tyX2 tyX2_ok nmX2 hown hK hP hD hS 0 rfl rfl 1 (by decide) hf_46 (fun _ h9 => h9) rfl (by decide +kernel) rfl rfl (Nat.le_of_ble_eq_true rfl) dX2_start_7 (fun H locs hP hD hS => ?_)
  have hP : va_P D vwCl [((a 4), .inr (2, [.int p1, .int p2, .int tk, .ref (a 5), .ref (a 6), .ref (a 7), .ref (a 8), .ref (a 13)])), ((a 5), .inl (cI, 6, .inl ce)), ((a 6), .inl (cI, 6, .inl hi)), ((a 7), .inl (cI, 6, .inl la)), ((a 8), .inr (3, [.int (nI sn), .ref (a 9), .ref (a 10), .ref (a 11), .ref (a 12)])), ((a 13), .inr (0, [.int (nI kn), .ref (a 14), .ref (a 15), .ref (a 16), .ref (a 17)]))] H := hP
  have hD : va_D A [((a 4), .inr (2, [.int p1, .int p2, .int tk, .ref (a 5), .ref (a 6), .ref (a 7), .ref (a 8), .ref (a 13)])), ((a 5), .inl (cI, 6, .inl ce)), ((a 6), .inl (cI, 6, .inl hi)), ((a 7), .inl (cI, 6, .inl la)), ((a 8), .inr (3, [.int (nI sn), .ref (a 9), .ref (a 10), .ref (a 11), .ref (a 12)])), ((a 13), .inr (0, [.int (nI kn), .ref (a 14), .ref (a 15), .ref (a 16), .ref (a 17)]))] := hD
  refine lv_aload_n hx hb dX2_start_10 rfl (lv_at hl 0 rfl) ?_
  refine lv_iconst (v := 0) hx hb dX2_start_11 (by decide) ?_
  refine va_put (D := D) (ci := 2) (v := .int 0) (ty := .int) (C := RX2) (T := TX2) (N := 8) hx hb hts hi_X2 tyX2 tyX2_ok nmX2 hown hK hP hD hS 0 rfl rfl 2 (by decide) hf_9 (fun _ h9 => h9) rfl (by decide +kernel) rfl rfl (Nat.le_of_ble_eq_true rfl) dX2_start_12 (fun H locs hP hD hS => ?_)
  have hP : va_P D vwCl [((a 4), .inr (2, [.int p1, .int p2, .int 0, .ref (a 5), .ref (a 6), .ref (a 7), .ref (a 8), .ref (a 13)])), ((a 5), .inl (cI, 6, .inl ce)), ((a 6), .inl (cI, 6, .inl hi)), ((a 7), .inl (cI, 6, .inl la)), ((a 8), .inr (3, [.int (nI sn), .ref (a 9), .ref (a 10), .ref (a 11), .ref (a 12)])), ((a 13), .inr (0, [.int (nI kn), .ref (a 14), .ref (a 15), .ref (a 16), .ref (a 17)]))] H := hP
  have hD : va_D A [((a 4), .inr (2, [.int p1, .int p2, .int 0, .ref (a 5), .ref (a 6), .ref (a 7), .ref (a 8), .ref (a 13)])), ((a 5), .inl (cI, 6, .inl ce)), ((a 6), .inl (cI, 6, .inl hi)), ((a 7), .inl (cI, 6, .inl la)), ((a 8), .inr (3, [.int (nI sn), .ref (a 9), .ref (a 10), .ref (a 11), .ref (a 12)])), ((a 13), .inr (0, [.int (nI kn), .ref (a 14), .ref (a 15), .ref (a 16), .ref (a 17)]))] := hD
  refine lv_aload_n hx hb dX2_start_15 rfl (lv_at hl 0 rfl) ?_
  refine lv_iconst (v := (-1)) hx hb dX2_start_16 (by decide) ?_
  have hPc := hP
  have hDc := hD.sub (ws' := [((a 4), .inr (2, [.int p1, .int p2, .int 0, .ref (a 5), .ref (a 6), .ref (a 7), .ref (a 8), .ref (a 13)])), ((a 5), .inl (cI, 6, .inl ce)), ((a 6), .inl (cI, 6, .inl hi)), ((a 7), .inl (cI, 6, .inl la)), ((a 8), .inr (3, [.int (nI sn), .ref (a 9), .ref (a 10), .ref (a 11), .ref (a 12)])), ((a 13), .inr (0, [.int (nI kn), .ref (a 14), .ref (a 15), .ref (a 16), .ref (a 17)]))]) [0, 1, 2, 3, 4, 5] (by decide) rfl
  have hFc := va_free (wc := [((a 4), .inr (2, [.int p1, .int p2, .int 0, .ref (a 5), .ref (a 6), .ref (a 7), .ref (a 8), .ref (a 13)])), ((a 5), .inl (cI, 6, .inl ce)), ((a 6), .inl (cI, 6, .inl hi)), ((a 7), .inl (cI, 6, .inl la)), ((a 8), .inr (3, [.int (nI sn), .ref (a 9), .ref (a 10), .ref (a 11), .ref (a 12)])), ((a 13), .inr (0, [.int (nI kn), .ref (a 14), .ref (a 15), .ref (a 16), .ref (a 17)]))]) hD hS hA [0, 1, 2, 3, 4, 5] rfl
  refine va_callv (va_runV (As := [.int (-1)]) (rest := []) ⟨hx, hb, hml, hown, hts⟩ (c_X2_reset l D cI cZ cJ cA H.size a p1 p2 0 ce hi la sn kn (-1)) (cwV 1 hts gX2_start_X2_reset rfl rfl rfl (by decide +kernel) ⟨Nat.le_of_ble_eq_true rfl, Nat.le_of_ble_eq_true rfl⟩) ⟨pcW_bl, va_recv hK hPc (ci := 2) (q0 := 0) rfl rfl, fun U hU hW => ⟨rfl, by rw [hU], by rw [hU]; exact hPc, va_K.moved hW.alike hK, hDc.weaken (fun _ _ _ _ => trivial)⟩⟩ rfl rfl hl.1 rfl (lv_room (Nat.le_of_ble_eq_true rfl)) dX2_start_17 ⟨Nat.le_of_ble_eq_true rfl, Nat.le_of_ble_eq_true rfl⟩) hS (fun q _ h => hFc q h) hFc (fun u t H locs ht hvm hw hB hz1 hk1 hS => ?_)
  try dsimp only at hw
  obtain ⟨u0_1, u1_1, u2_1, u3_1, u4_1⟩ := u
  try dsimp only at hw
  obtain ⟨hu0_1, hu1_1, hu2_1, hu3_1, hu4_1⟩ := hw
  obtain ⟨hP1, hK1, hD1⟩ := hB
  rw [ht] at hP1
  obtain ⟨hP, hD⟩ := va_join (wr := []) (w1 := [((a 4), .inr (2, [.int p1, .int p2, .int 0, .ref (a 5), .ref (a 6), .ref (a 7), .ref (a 8), .ref (a 13)])), ((a 5), .inl (cI, 6, .inl u0_1)), ((a 6), .inl (cI, 6, .inl u1_1)), ((a 7), .inl (cI, 6, .inl u2_1)), ((a 8), .inr (3, [.int (nI u3_1), .ref (a 9), .ref (a 10), .ref (a 11), .ref (a 12)])), ((a 13), .inr (0, [.int (nI u4_1), .ref (a 14), .ref (a 15), .ref (a 16), .ref (a 17)]))]) hP hD [0, 1, 2, 3, 4, 5] [] rfl rfl (by decide) (by decide) hk1 hFc hP1 hD1
  obtain rfl := hu0_1.symm
  obtain rfl := hu1_1.symm
  obtain rfl := hu2_1.symm
  obtain rfl := hu3_1.symm
  obtain rfl := hu4_1.symm
  have hP : va_P D vwCl [((a 4), .inr (2, [.int p1, .int p2, .int 0, .ref (a 5), .ref (a 6), .ref (a 7), .ref (a 8), .ref (a 13)])), ((a 5), .inl (cI, 6, .inl (fillN ce (-1) 6))), ((a 6), .inl (cI, 6, .inl (fillN hi (-1) 6))), ((a 7), .inl (cI, 6, .inl (fillN la (-1) 6))), ((a 8), .inr (3, [.int (nI 0), .ref (a 9), .ref (a 10), .ref (a 11), .ref (a 12)])), ((a 13), .inr (0, [.int (nI 0), .ref (a 14), .ref (a 15), .ref (a 16), .ref (a 17)]))] H := hP
  have hD : va_D A [((a 4), .inr (2, [.int p1, .int p2, .int 0, .ref (a 5), .ref (a 6), .ref (a 7), .ref (a 8), .ref (a 13)])), ((a 5), .inl (cI, 6, .inl (fillN ce (-1) 6))), ((a 6), .inl (cI, 6, .inl (fillN hi (-1) 6))), ((a 7), .inl (cI, 6, .inl (fillN la (-1) 6))), ((a 8), .inr (3, [.int (nI 0), .ref (a 9), .ref (a 10), .ref (a 11), .ref (a 12)])), ((a 13), .inr (0, [.int (nI 0), .ref (a 14), .ref (a 15), .ref (a 16), .ref (a 17)]))] := hD
  refine W.widen (k := 0) (n := 0) (Nat.le_refl _) (Nat.le_refl _) ?_
  have hP9 := hP.sub (ws' := [((a 4), .inr (2, [.int p1, .int p2, .int 0, .ref (a 5), .ref (a 6), .ref (a 7), .ref (a 8), .ref (a 13)])), ((a 5), .inl (cI, 6, .inl (fillN ce (-1) 6))), ((a 6), .inl (cI, 6, .inl (fillN hi (-1) 6))), ((a 7), .inl (cI, 6, .inl (fillN la (-1) 6))), ((a 8), .inr (3, [.int (nI 0), .ref (a 9), .ref (a 10), .ref (a 11), .ref (a 12)])), ((a 13), .inr (0, [.int (nI 0), .ref (a 14), .ref (a 15), .ref (a 16), .ref (a 17)]))]) [0, 1, 2, 3, 4, 5] rfl
  have hD9 := hD.sub (ws' := [((a 4), .inr (2, [.int p1, .int p2, .int 0, .ref (a 5), .ref (a 6), .ref (a 7), .ref (a 8), .ref (a 13)])), ((a 5), .inl (cI, 6, .inl (fillN ce (-1) 6))), ((a 6), .inl (cI, 6, .inl (fillN hi (-1) 6))), ((a 7), .inl (cI, 6, .inl (fillN la (-1) 6))), ((a 8), .inr (3, [.int (nI 0), .ref (a 9), .ref (a 10), .ref (a 11), .ref (a 12)])), ((a 13), .inr (0, [.int (nI 0), .ref (a 14), .ref (a 15), .ref (a 16), .ref (a 17)]))]) [0, 1, 2, 3, 4, 5] (by decide) rfl
  -- leaf 0
  refine W.widen (k := 0) (n := 0) (Nat.le_refl _) (Nat.le_refl _) ?_
  exact W.vret hx hb hr (fun t ht hW => ⟨⟨(p1, p2, 0, (fillN ce (-1) 6), (fillN hi (-1) 6), (fillN la (-1) 6), 0, 0), rfl, ⟨rfl, rfl, rfl, rfl, rfl, rfl, rfl, rfl⟩, by rw [ht]; exact hP9, va_K.moved hW.alike hK, hD9⟩, hS.F ht⟩) hS.2.2 dX2_start_20

set_option maxHeartbeats 4000000 in
set_option maxRecDepth 100000 in
theorem c_X2_close (l : Launch) (D : va_G) (cI cZ cJ cA : ClassId) (sz : Nat) (a : Nat → Nat) (hm : Int32) (aw : Int32) (tk : Int32) (ce : Nat → Int32) (hi : Nat → Int32) (la : Nat → Int32) (sn : Nat) (kn : Nat) : Met l yX2_close wsX2_close ({ frames := 1, cells := 0, slots := 0, locals := 22 } : Room) (va_Pc [.ref (a 4)] (pcW D (tyL cI cZ cJ cA) [((a 4), .inr (2, [.int hm, .int aw, .int tk, .ref (a 5), .ref (a 6), .ref (a 7), .ref (a 8), .ref (a 13)])), ((a 5), .inl (cI, 6, .inl ce)), ((a 6), .inl (cI, 6, .inl hi)), ((a 7), .inl (cI, 6, .inl la)), ((a 8), .inr (3, [.int (nI sn), .ref (a 9), .ref (a 10), .ref (a 11), .ref (a 12)])), ((a 13), .inr (0, [.int (nI kn), .ref (a 14), .ref (a 15), .ref (a 16), .ref (a 17)]))] sz)) (va_Qv (fun (u : (Int32) × (Nat → Int32) × (Nat → Int32) × (Nat → Int32) × (Nat) × (Nat)) => u.1 = (-1) ∧ u.2.1 = (fillN ce (-2) 6) ∧ u.2.2.1 = (fillN hi (-1) 6) ∧ u.2.2.2.1 = (fillN la (-1) 6) ∧ u.2.2.2.2.1 = 0 ∧ u.2.2.2.2.2 = 0) (fun u t => bcW D (tyL cI cZ cJ cA) (va_A [((a 4), .inr (2, [.int hm, .int aw, .int tk, .ref (a 5), .ref (a 6), .ref (a 7), .ref (a 8), .ref (a 13)])), ((a 5), .inl (cI, 6, .inl ce)), ((a 6), .inl (cI, 6, .inl hi)), ((a 7), .inl (cI, 6, .inl la)), ((a 8), .inr (3, [.int (nI sn), .ref (a 9), .ref (a 10), .ref (a 11), .ref (a 12)])), ((a 13), .inr (0, [.int (nI kn), .ref (a 14), .ref (a 15), .ref (a 16), .ref (a 17)]))] sz) [((a 4), .inr (2, [.int hm, .int aw, .int u.1, .ref (a 5), .ref (a 6), .ref (a 7), .ref (a 8), .ref (a 13)])), ((a 5), .inl (cI, 6, .inl u.2.1)), ((a 6), .inl (cI, 6, .inl u.2.2.1)), ((a 7), .inl (cI, 6, .inl u.2.2.2.1)), ((a 8), .inr (3, [.int (nI u.2.2.2.2.1), .ref (a 9), .ref (a 10), .ref (a 11), .ref (a 12)])), ((a 13), .inr (0, [.int (nI u.2.2.2.2.2), .ref (a 14), .ref (a 15), .ref (a 16), .ref (a 17)]))] t) (va_A [((a 4), .inr (2, [.int hm, .int aw, .int tk, .ref (a 5), .ref (a 6), .ref (a 7), .ref (a 8), .ref (a 13)])), ((a 5), .inl (cI, 6, .inl ce)), ((a 6), .inl (cI, 6, .inl hi)), ((a 7), .inl (cI, 6, .inl la)), ((a 8), .inr (3, [.int (nI sn), .ref (a 9), .ref (a 10), .ref (a 11), .ref (a 12)])), ((a 13), .inr (0, [.int (nI kn), .ref (a 14), .ref (a 15), .ref (a 16), .ref (a 17)]))] sz)) 0 0 (va_A [((a 4), .inr (2, [.int hm, .int aw, .int tk, .ref (a 5), .ref (a 6), .ref (a 7), .ref (a 8), .ref (a 13)])), ((a 5), .inl (cI, 6, .inl ce)), ((a 6), .inl (cI, 6, .inl hi)), ((a 7), .inl (cI, 6, .inl la)), ((a 8), .inr (3, [.int (nI sn), .ref (a 9), .ref (a 10), .ref (a 11), .ref (a 12)])), ((a 13), .inr (0, [.int (nI kn), .ref (a 14), .ref (a 15), .ref (a 16), .ref (a 17)]))] sz) := by
  refine Met.ofW (cc := cX2_close) (maxL := 1) (ret := none) (by decide) rfl ?_
  intro p e s m args below meth c s₁ B hml hv
  obtain ⟨rfl, hsz, hP, hK, hD0⟩ := hv
  have hx := B.exec
  have hb := B.bytes
  have hr := B.returns
  have hts := atoms_spec (ws := wsX2_close) B.pre
  have hown : s.vm.findClass RX2 = some m.cls := findClass_of_methodNamed B.named
  have hlocks := B.notSynchronized
  subst hsz
  have hD := hD0.self (sz := s.heap.size)
  generalize hAe : va_A [((a 4), .inr (2, [.int hm, .int aw, .int tk, .ref (a 5), .ref (a 6), .ref (a 7), .ref (a 8), .ref (a 13)])), ((a 5), .inl (cI, 6, .inl ce)), ((a 6), .inl (cI, 6, .inl hi)), ((a 7), .inl (cI, 6, .inl la)), ((a 8), .inr (3, [.int (nI sn), .ref (a 9), .ref (a 10), .ref (a 11), .ref (a 12)])), ((a 13), .inr (0, [.int (nI kn), .ref (a 14), .ref (a 15), .ref (a 16), .ref (a 17)]))] s.heap.size = A at hD ⊢
  have hA : ∀ q : Nat, s.heap.size ≤ q → A q := fun q h => by rw [← hAe]; exact Or.inr h
  have hAR : ∀ q : Nat, s.heap.size ≤ q → (fun q : Nat => s.heap.size ≤ q) q := fun _ h => h
  have hS : va_S A s.heap s.heap [] := va_S.rf
  have hP : va_P D vwCl [((a 4), .inr (2, [.int hm, .int aw, .int tk, .ref (a 5), .ref (a 6), .ref (a 7), .ref (a 8), .ref (a 13)])), ((a 5), .inl (cI, 6, .inl ce)), ((a 6), .inl (cI, 6, .inl hi)), ((a 7), .inl (cI, 6, .inl la)), ((a 8), .inr (3, [.int (nI sn), .ref (a 9), .ref (a 10), .ref (a 11), .ref (a 12)])), ((a 13), .inr (0, [.int (nI kn), .ref (a 14), .ref (a 15), .ref (a 16), .ref (a 17)]))] s.heap := hP
  have hl := lv_entry ([.ref (a 4)]) (n := 1) (Nat.le_of_ble_eq_true rfl)
  rw [lg_entry_eq]
  generalize (lg_sl ([.ref (a 4)]) ++ List.replicate (1 - (lg_sl ([.ref (a 4)])).length) Slot.unset).toArray = ls at hl ⊢
  have hl : lv_has ls 1 [(0, .ref (a 4))] := hl
  have hf_9 := hts (.fieldLink RX2 9 "PaintballAtlas$Round" "tick" "I") (by decide +kernel)
  have hi_X2 : ∀ w ∈ wsX20, w ∈ wsX2_close := by decide +kernel
  refine lv_aload_n hx hb dX2_close_0 rfl (lv_at hl 0 rfl) ?_
  refine lv_iconst (v := (-1)) hx hb dX2_close_1 (by decide) ?_
  refine va_put (D := D) (ci := 2) (v := .int (-1)) (ty := .int) (C := RX2) (T := TX2) (N := 8) hx hb hts hi_X2 tyX2 tyX2_ok nmX2 hown hK hP hD hS 0 rfl rfl 2 (by decide) hf_9 (fun _ h9 => h9) rfl (by decide +kernel) rfl rfl (Nat.le_of_ble_eq_true rfl) dX2_close_2 (fun H locs hP hD hS => ?_)
  have hP : va_P D vwCl [((a 4), .inr (2, [.int hm, .int aw, .int (-1), .ref (a 5), .ref (a 6), .ref (a 7), .ref (a 8), .ref (a 13)])), ((a 5), .inl (cI, 6, .inl ce)), ((a 6), .inl (cI, 6, .inl hi)), ((a 7), .inl (cI, 6, .inl la)), ((a 8), .inr (3, [.int (nI sn), .ref (a 9), .ref (a 10), .ref (a 11), .ref (a 12)])), ((a 13), .inr (0, [.int (nI kn), .ref (a 14), .ref (a 15), .ref (a 16), .ref (a 17)]))] H := hP
  have hD : va_D A [((a 4), .inr (2, [.int hm, .int aw, .int (-1), .ref (a 5), .ref (a 6), .ref (a 7), .ref (a 8), .ref (a 13)])), ((a 5), .inl (cI, 6, .inl ce)), ((a 6), .inl (cI, 6, .inl hi)), ((a 7), .inl (cI, 6, .inl la)), ((a 8), .inr (3, [.int (nI sn), .ref (a 9), .ref (a 10), .ref (a 11), .ref (a 12)])), ((a 13), .inr (0, [.int (nI kn), .ref (a 14), .ref (a 15), .ref (a 16), .ref (a 17)]))] := hD
  refine lv_aload_n hx hb dX2_close_5 rfl (lv_at hl 0 rfl) ?_
  refine lv_bipush (v := (-2)) hx hb dX2_close_6 (by decide) ?_
  have hPc := hP
  have hDc := hD.sub (ws' := [((a 4), .inr (2, [.int hm, .int aw, .int (-1), .ref (a 5), .ref (a 6), .ref (a 7), .ref (a 8), .ref (a 13)])), ((a 5), .inl (cI, 6, .inl ce)), ((a 6), .inl (cI, 6, .inl hi)), ((a 7), .inl (cI, 6, .inl la)), ((a 8), .inr (3, [.int (nI sn), .ref (a 9), .ref (a 10), .ref (a 11), .ref (a 12)])), ((a 13), .inr (0, [.int (nI kn), .ref (a 14), .ref (a 15), .ref (a 16), .ref (a 17)]))]) [0, 1, 2, 3, 4, 5] (by decide) rfl
  have hFc := va_free (wc := [((a 4), .inr (2, [.int hm, .int aw, .int (-1), .ref (a 5), .ref (a 6), .ref (a 7), .ref (a 8), .ref (a 13)])), ((a 5), .inl (cI, 6, .inl ce)), ((a 6), .inl (cI, 6, .inl hi)), ((a 7), .inl (cI, 6, .inl la)), ((a 8), .inr (3, [.int (nI sn), .ref (a 9), .ref (a 10), .ref (a 11), .ref (a 12)])), ((a 13), .inr (0, [.int (nI kn), .ref (a 14), .ref (a 15), .ref (a 16), .ref (a 17)]))]) hD hS hA [0, 1, 2, 3, 4, 5] rfl
  refine va_callv (va_runV (As := [.int (-2)]) (rest := []) ⟨hx, hb, hml, hown, hts⟩ (c_X2_reset l D cI cZ cJ cA H.size a hm aw (-1) ce hi la sn kn (-2)) (cwV 1 hts gX2_close_X2_reset rfl rfl rfl (by decide +kernel) ⟨Nat.le_of_ble_eq_true rfl, Nat.le_of_ble_eq_true rfl⟩) ⟨pcW_bl, va_recv hK hPc (ci := 2) (q0 := 0) rfl rfl, fun U hU hW => ⟨rfl, by rw [hU], by rw [hU]; exact hPc, va_K.moved hW.alike hK, hDc.weaken (fun _ _ _ _ => trivial)⟩⟩ rfl rfl hl.1 rfl (lv_room (Nat.le_of_ble_eq_true rfl)) dX2_close_8 ⟨Nat.le_of_ble_eq_true rfl, Nat.le_of_ble_eq_true rfl⟩) hS (fun q _ h => hFc q h) hFc (fun u t H locs ht hvm hw hB hz1 hk1 hS => ?_)
  try dsimp only at hw
  obtain ⟨u0_1, u1_1, u2_1, u3_1, u4_1⟩ := u
  try dsimp only at hw
  obtain ⟨hu0_1, hu1_1, hu2_1, hu3_1, hu4_1⟩ := hw
  obtain ⟨hP1, hK1, hD1⟩ := hB
  rw [ht] at hP1
  obtain ⟨hP, hD⟩ := va_join (wr := []) (w1 := [((a 4), .inr (2, [.int hm, .int aw, .int (-1), .ref (a 5), .ref (a 6), .ref (a 7), .ref (a 8), .ref (a 13)])), ((a 5), .inl (cI, 6, .inl u0_1)), ((a 6), .inl (cI, 6, .inl u1_1)), ((a 7), .inl (cI, 6, .inl u2_1)), ((a 8), .inr (3, [.int (nI u3_1), .ref (a 9), .ref (a 10), .ref (a 11), .ref (a 12)])), ((a 13), .inr (0, [.int (nI u4_1), .ref (a 14), .ref (a 15), .ref (a 16), .ref (a 17)]))]) hP hD [0, 1, 2, 3, 4, 5] [] rfl rfl (by decide) (by decide) hk1 hFc hP1 hD1
  obtain rfl := hu0_1.symm
  obtain rfl := hu1_1.symm
  obtain rfl := hu2_1.symm
  obtain rfl := hu3_1.symm
  obtain rfl := hu4_1.symm
  have hP : va_P D vwCl [((a 4), .inr (2, [.int hm, .int aw, .int (-1), .ref (a 5), .ref (a 6), .ref (a 7), .ref (a 8), .ref (a 13)])), ((a 5), .inl (cI, 6, .inl (fillN ce (-2) 6))), ((a 6), .inl (cI, 6, .inl (fillN hi (-1) 6))), ((a 7), .inl (cI, 6, .inl (fillN la (-1) 6))), ((a 8), .inr (3, [.int (nI 0), .ref (a 9), .ref (a 10), .ref (a 11), .ref (a 12)])), ((a 13), .inr (0, [.int (nI 0), .ref (a 14), .ref (a 15), .ref (a 16), .ref (a 17)]))] H := hP
  have hD : va_D A [((a 4), .inr (2, [.int hm, .int aw, .int (-1), .ref (a 5), .ref (a 6), .ref (a 7), .ref (a 8), .ref (a 13)])), ((a 5), .inl (cI, 6, .inl (fillN ce (-2) 6))), ((a 6), .inl (cI, 6, .inl (fillN hi (-1) 6))), ((a 7), .inl (cI, 6, .inl (fillN la (-1) 6))), ((a 8), .inr (3, [.int (nI 0), .ref (a 9), .ref (a 10), .ref (a 11), .ref (a 12)])), ((a 13), .inr (0, [.int (nI 0), .ref (a 14), .ref (a 15), .ref (a 16), .ref (a 17)]))] := hD
  refine W.widen (k := 0) (n := 0) (Nat.le_refl _) (Nat.le_refl _) ?_
  have hP9 := hP.sub (ws' := [((a 4), .inr (2, [.int hm, .int aw, .int (-1), .ref (a 5), .ref (a 6), .ref (a 7), .ref (a 8), .ref (a 13)])), ((a 5), .inl (cI, 6, .inl (fillN ce (-2) 6))), ((a 6), .inl (cI, 6, .inl (fillN hi (-1) 6))), ((a 7), .inl (cI, 6, .inl (fillN la (-1) 6))), ((a 8), .inr (3, [.int (nI 0), .ref (a 9), .ref (a 10), .ref (a 11), .ref (a 12)])), ((a 13), .inr (0, [.int (nI 0), .ref (a 14), .ref (a 15), .ref (a 16), .ref (a 17)]))]) [0, 1, 2, 3, 4, 5] rfl
  have hD9 := hD.sub (ws' := [((a 4), .inr (2, [.int hm, .int aw, .int (-1), .ref (a 5), .ref (a 6), .ref (a 7), .ref (a 8), .ref (a 13)])), ((a 5), .inl (cI, 6, .inl (fillN ce (-2) 6))), ((a 6), .inl (cI, 6, .inl (fillN hi (-1) 6))), ((a 7), .inl (cI, 6, .inl (fillN la (-1) 6))), ((a 8), .inr (3, [.int (nI 0), .ref (a 9), .ref (a 10), .ref (a 11), .ref (a 12)])), ((a 13), .inr (0, [.int (nI 0), .ref (a 14), .ref (a 15), .ref (a 16), .ref (a 17)]))]) [0, 1, 2, 3, 4, 5] (by decide) rfl
  -- leaf 0
  refine W.widen (k := 0) (n := 0) (Nat.le_refl _) (Nat.le_refl _) ?_
  exact W.vret hx hb hr (fun t ht hW => ⟨⟨((-1), (fillN ce (-2) 6), (fillN hi (-1) 6), (fillN la (-1) 6), 0, 0), rfl, ⟨rfl, rfl, rfl, rfl, rfl, rfl⟩, by rw [ht]; exact hP9, va_K.moved hW.alike hK, hD9⟩, hS.F ht⟩) hS.2.2 dX2_close_11

noncomputable def g_sd_X2_fire (hm : Int32) (aw : Int32) (tk : Int32) (ce : Nat → Int32) (la : Nat → Int32) (sn : Nat) (sa : Nat → Int32) (sb : Nat → Int32) (sc : Nat → Int32) (sd : Nat → Int32) (p1 : Int32) (p2 : Int32) : Nat → Int32 := (upd sd sn (tk + (((f_X1_distance (ce p1.toNatClampNeg) p2) + 3) / 4)))
set_option maxHeartbeats 4000000 in
set_option maxRecDepth 100000 in
theorem c_X2_fire (l : Launch) (D : va_G) (cI cZ cJ cA : ClassId) (sz : Nat) (a : Nat → Nat) (hm : Int32) (aw : Int32) (tk : Int32) (ce : Nat → Int32) (la : Nat → Int32) (sn : Nat) (sa : Nat → Int32) (sb : Nat → Int32) (sc : Nat → Int32) (sd : Nat → Int32) (p1 : Int32) (p2 : Int32) (h1 : vp_in p1 6) (h2 : sn < 100) : Met l yX2_fire wsX2_fire ({ frames := 2, cells := 0, slots := 0, locals := 44 } : Room) (va_Pc [.ref (a 4), .int p1, .int p2] (pcW D (tyL cI cZ cJ cA) [((a 4), .inr (2, [.int hm, .int aw, .int tk, .ref (a 5), .ref (a 6), .ref (a 7), .ref (a 8), .ref (a 13)])), ((a 5), .inl (cI, 6, .inl ce)), ((a 7), .inl (cI, 6, .inl la)), ((a 8), .inr (3, [.int (nI sn), .ref (a 9), .ref (a 10), .ref (a 11), .ref (a 12)])), ((a 9), .inl (cI, 100, .inl sa)), ((a 10), .inl (cI, 100, .inl sb)), ((a 11), .inl (cI, 100, .inl sc)), ((a 12), .inl (cI, 100, .inl sd))] sz)) (va_Qi (fun (r : Int32) (u : (Nat → Int32) × (Nat) × (Nat → Int32) × (Nat → Int32) × (Nat → Int32) × (Nat → Int32)) => r = tk + (((f_X1_distance (ce p1.toNatClampNeg) p2) + 3) / 4) ∧ u.1 = upd la p1.toNatClampNeg tk ∧ u.2.1 = (sn + 1) ∧ u.2.2.1 = (upd sa sn p1) ∧ u.2.2.2.1 = (upd sb sn (ce p1.toNatClampNeg)) ∧ u.2.2.2.2.1 = (upd sc sn p2) ∧ u.2.2.2.2.2 = g_sd_X2_fire hm aw tk ce la sn sa sb sc sd p1 p2) (fun u t => bcW D (tyL cI cZ cJ cA) (va_A [((a 4), .inr (2, [.int hm, .int aw, .int tk, .ref (a 5), .ref (a 6), .ref (a 7), .ref (a 8), .ref (a 13)])), ((a 5), .inl (cI, 6, .inl ce)), ((a 7), .inl (cI, 6, .inl la)), ((a 8), .inr (3, [.int (nI sn), .ref (a 9), .ref (a 10), .ref (a 11), .ref (a 12)])), ((a 9), .inl (cI, 100, .inl sa)), ((a 10), .inl (cI, 100, .inl sb)), ((a 11), .inl (cI, 100, .inl sc)), ((a 12), .inl (cI, 100, .inl sd))] sz) [((a 4), .inr (2, [.int hm, .int aw, .int tk, .ref (a 5), .ref (a 6), .ref (a 7), .ref (a 8), .ref (a 13)])), ((a 5), .inl (cI, 6, .inl ce)), ((a 7), .inl (cI, 6, .inl u.1)), ((a 8), .inr (3, [.int (nI u.2.1), .ref (a 9), .ref (a 10), .ref (a 11), .ref (a 12)])), ((a 9), .inl (cI, 100, .inl u.2.2.1)), ((a 10), .inl (cI, 100, .inl u.2.2.2.1)), ((a 11), .inl (cI, 100, .inl u.2.2.2.2.1)), ((a 12), .inl (cI, 100, .inl u.2.2.2.2.2))] t) (va_A [((a 4), .inr (2, [.int hm, .int aw, .int tk, .ref (a 5), .ref (a 6), .ref (a 7), .ref (a 8), .ref (a 13)])), ((a 5), .inl (cI, 6, .inl ce)), ((a 7), .inl (cI, 6, .inl la)), ((a 8), .inr (3, [.int (nI sn), .ref (a 9), .ref (a 10), .ref (a 11), .ref (a 12)])), ((a 9), .inl (cI, 100, .inl sa)), ((a 10), .inl (cI, 100, .inl sb)), ((a 11), .inl (cI, 100, .inl sc)), ((a 12), .inl (cI, 100, .inl sd))] sz)) 0 0 (va_A [((a 4), .inr (2, [.int hm, .int aw, .int tk, .ref (a 5), .ref (a 6), .ref (a 7), .ref (a 8), .ref (a 13)])), ((a 5), .inl (cI, 6, .inl ce)), ((a 7), .inl (cI, 6, .inl la)), ((a 8), .inr (3, [.int (nI sn), .ref (a 9), .ref (a 10), .ref (a 11), .ref (a 12)])), ((a 9), .inl (cI, 100, .inl sa)), ((a 10), .inl (cI, 100, .inl sb)), ((a 11), .inl (cI, 100, .inl sc)), ((a 12), .inl (cI, 100, .inl sd))] sz) := by
  refine Met.ofW (cc := cX2_fire) (maxL := 5) (ret := (some .int)) (by decide) rfl ?_
  intro p e s m args below meth c s₁ B hml hv
  obtain ⟨rfl, hsz, hP, hK, hD0⟩ := hv
  have hx := B.exec
  have hb := B.bytes
  have hr := B.returns
  have hts := atoms_spec (ws := wsX2_fire) B.pre
  have hown : s.vm.findClass RX2 = some m.cls := findClass_of_methodNamed B.named
  have hlocks := B.notSynchronized
  subst hsz
  have hD := hD0.self (sz := s.heap.size)
  generalize hAe : va_A [((a 4), .inr (2, [.int hm, .int aw, .int tk, .ref (a 5), .ref (a 6), .ref (a 7), .ref (a 8), .ref (a 13)])), ((a 5), .inl (cI, 6, .inl ce)), ((a 7), .inl (cI, 6, .inl la)), ((a 8), .inr (3, [.int (nI sn), .ref (a 9), .ref (a 10), .ref (a 11), .ref (a 12)])), ((a 9), .inl (cI, 100, .inl sa)), ((a 10), .inl (cI, 100, .inl sb)), ((a 11), .inl (cI, 100, .inl sc)), ((a 12), .inl (cI, 100, .inl sd))] s.heap.size = A at hD ⊢
  have hA : ∀ q : Nat, s.heap.size ≤ q → A q := fun q h => by rw [← hAe]; exact Or.inr h
  have hAR : ∀ q : Nat, s.heap.size ≤ q → (fun q : Nat => s.heap.size ≤ q) q := fun _ h => h
  have hS : va_S A s.heap s.heap [] := va_S.rf
  have hP : va_P D vwCl [((a 4), .inr (2, [.int hm, .int aw, .int tk, .ref (a 5), .ref (a 6), .ref (a 7), .ref (a 8), .ref (a 13)])), ((a 5), .inl (cI, 6, .inl ce)), ((a 7), .inl (cI, 6, .inl la)), ((a 8), .inr (3, [.int (nI sn), .ref (a 9), .ref (a 10), .ref (a 11), .ref (a 12)])), ((a 9), .inl (cI, 100, .inl sa)), ((a 10), .inl (cI, 100, .inl sb)), ((a 11), .inl (cI, 100, .inl sc)), ((a 12), .inl (cI, 100, .inl sd))] s.heap := hP
  have hl := lv_entry ([.ref (a 4), .int p1, .int p2]) (n := 5) (Nat.le_of_ble_eq_true rfl)
  rw [lg_entry_eq]
  generalize (lg_sl ([.ref (a 4), .int p1, .int p2]) ++ List.replicate (5 - (lg_sl ([.ref (a 4), .int p1, .int p2])).length) Slot.unset).toArray = ls at hl ⊢
  have hl : lv_has ls 5 [(0, .ref (a 4)), (1, .int p1), (2, .int p2)] := hl
  have hf_15 := hts (.fieldLink RX2 15 "PaintballAtlas$Round" "cells" "[I") (by decide +kernel)
  have hi_X2 : ∀ w ∈ wsX20, w ∈ wsX2_fire := by decide +kernel
  have hf_9 := hts (.fieldLink RX2 9 "PaintballAtlas$Round" "tick" "I") (by decide +kernel)
  have hf_22 := hts (.fieldLink RX2 22 "PaintballAtlas$Round" "lastShots" "[I") (by decide +kernel)
  have hf_28 := hts (.fieldLink RX2 28 "PaintballAtlas$Round" "shots" "LPaintballAtlas$Shots;") (by decide +kernel)
  refine lv_aload_n hx hb dX2_fire_0 rfl (lv_at hl 0 rfl) ?_
  refine va_get (D := D) (ci := 2) (v := .ref (a 5)) (C := RX2) (T := TX2) (N := 8) hx hb hts hi_X2 hown hK hP 0 rfl rfl 3 (by decide) hf_15 (fun _ h9 => h9) rfl dX2_fire_1 ?_
  refine lv_iload_n hx hb dX2_fire_4 rfl (lv_at hl 1 rfl) ?_
  refine va_iald hx hb hK hP 1 0 rfl rfl (by assumption) dX2_fire_5 ?_
  refine lv_istore_n (lv' := [(3, .int (ce p1.toNatClampNeg)), (0, .ref (a 4)), (1, .int p1), (2, .int p2)]) hx hb dX2_fire_6 rfl hl (by decide) rfl (fun ls hl => ?_)
  refine lv_aload_n hx hb dX2_fire_7 rfl (lv_at hl 1 rfl) ?_
  refine va_get (D := D) (ci := 2) (v := .int tk) (C := RX2) (T := TX2) (N := 8) hx hb hts hi_X2 hown hK hP 0 rfl rfl 2 (by decide) hf_9 (fun _ h9 => h9) rfl dX2_fire_8 ?_
  refine lv_iload_n hx hb dX2_fire_11 rfl (lv_at hl 0 rfl) ?_
  refine lv_iload_n hx hb dX2_fire_12 rfl (lv_at hl 3 rfl) ?_
  have hPc := hP.sub (ws' := []) [] rfl
  refine va_calli (va_runS (As := [.int (ce p1.toNatClampNeg), .int p2]) (rest := [.int tk]) ⟨hx, hb, hml, hown, hts⟩ (c_X1_distance l D cI cZ cJ cA s.heap.size (ce p1.toNatClampNeg) p2) (va_cwS 2 hts gX2_fire_X1_distance rfl rfl rfl (by decide +kernel) ⟨Nat.le_of_ble_eq_true rfl, Nat.le_of_ble_eq_true rfl⟩) ⟨pcR_bl, fun U hU hW => ⟨rfl, by rw [hU], by rw [hU]; exact hPc, va_K.moved hW.alike hK⟩⟩ rfl rfl hl.1 rfl (lv_room (Nat.le_of_ble_eq_true rfl)) dX2_fire_13 ⟨Nat.le_of_ble_eq_true rfl, Nat.le_of_ble_eq_true rfl⟩) hS (fun _ h1 h2 => absurd h1 (Nat.not_lt.mpr h2)) (rd_free hS hA) (fun r_1 u t H locs ht hvm hw hB hz1 hk1 hS => ?_)
  try dsimp only at hw
  have hr_1 := hw
  have hP := rd_P hP hk1
  obtain rfl := hr_1.symm
  refine W.widen (k := 0) (n := 0) (Nat.le_refl _) (Nat.le_refl _) ?_
  refine lv_iconst (v := 3) hx hb dX2_fire_16 (by decide) ?_
  refine lv_iadd hx hb dX2_fire_17 ?_
  refine lv_iconst (v := 4) hx hb dX2_fire_18 (by decide) ?_
  refine lv_idiv hx hb dX2_fire_19 (by decide) ?_
  refine lv_iadd hx hb dX2_fire_20 ?_
  refine lv_istore (lv' := [(4, .int (tk + (((f_X1_distance (ce p1.toNatClampNeg) p2) + 3) / 4))), (3, .int (ce p1.toNatClampNeg)), (0, .ref (a 4)), (1, .int p1), (2, .int p2)]) hx hb dX2_fire_21 hl (by decide) rfl (fun ls hl => ?_)
  refine lv_aload_n hx hb dX2_fire_23 rfl (lv_at hl 2 rfl) ?_
  refine va_get (D := D) (ci := 2) (v := .ref (a 7)) (C := RX2) (T := TX2) (N := 8) hx hb hts hi_X2 hown hK hP 0 rfl rfl 5 (by decide) hf_22 (fun _ h9 => h9) rfl dX2_fire_24 ?_
  refine lv_iload_n hx hb dX2_fire_27 rfl (lv_at hl 3 rfl) ?_
  refine lv_aload_n hx hb dX2_fire_28 rfl (lv_at hl 2 rfl) ?_
  refine va_get (D := D) (ci := 2) (v := .int tk) (C := RX2) (T := TX2) (N := 8) hx hb hts hi_X2 hown hK hP 0 rfl rfl 2 (by decide) hf_9 (fun _ h9 => h9) rfl dX2_fire_29 ?_
  refine va_iast hx hb hK hP hD hS 2 0 rfl rfl (by assumption) dX2_fire_32 (fun H locs hP hD hS => ?_)
  have hP : va_P D vwCl [((a 4), .inr (2, [.int hm, .int aw, .int tk, .ref (a 5), .ref (a 6), .ref (a 7), .ref (a 8), .ref (a 13)])), ((a 5), .inl (cI, 6, .inl ce)), ((a 7), .inl (cI, 6, .inl (upd la p1.toNatClampNeg tk))), ((a 8), .inr (3, [.int (nI sn), .ref (a 9), .ref (a 10), .ref (a 11), .ref (a 12)])), ((a 9), .inl (cI, 100, .inl sa)), ((a 10), .inl (cI, 100, .inl sb)), ((a 11), .inl (cI, 100, .inl sc)), ((a 12), .inl (cI, 100, .inl sd))] H := hP
  have hD : va_D A [((a 4), .inr (2, [.int hm, .int aw, .int tk, .ref (a 5), .ref (a 6), .ref (a 7), .ref (a 8), .ref (a 13)])), ((a 5), .inl (cI, 6, .inl ce)), ((a 7), .inl (cI, 6, .inl (upd la p1.toNatClampNeg tk))), ((a 8), .inr (3, [.int (nI sn), .ref (a 9), .ref (a 10), .ref (a 11), .ref (a 12)])), ((a 9), .inl (cI, 100, .inl sa)), ((a 10), .inl (cI, 100, .inl sb)), ((a 11), .inl (cI, 100, .inl sc)), ((a 12), .inl (cI, 100, .inl sd))] := hD
  refine lv_aload_n hx hb dX2_fire_33 rfl (lv_at hl 2 rfl) ?_
  refine va_get (D := D) (ci := 2) (v := .ref (a 8)) (C := RX2) (T := TX2) (N := 8) hx hb hts hi_X2 hown hK hP 0 rfl rfl 6 (by decide) hf_28 (fun _ h9 => h9) rfl dX2_fire_34 ?_
  refine lv_iload_n hx hb dX2_fire_37 rfl (lv_at hl 3 rfl) ?_
  refine lv_iload_n hx hb dX2_fire_38 rfl (lv_at hl 1 rfl) ?_
  refine lv_iload_n hx hb dX2_fire_39 rfl (lv_at hl 4 rfl) ?_
  refine lv_iload hx hb dX2_fire_40 (lv_at hl 0 rfl) ?_
  have hPc := hP.sub (ws' := [((a 8), .inr (3, [.int (nI sn), .ref (a 9), .ref (a 10), .ref (a 11), .ref (a 12)])), ((a 9), .inl (cI, 100, .inl sa)), ((a 10), .inl (cI, 100, .inl sb)), ((a 11), .inl (cI, 100, .inl sc)), ((a 12), .inl (cI, 100, .inl sd))]) [3, 4, 5, 6, 7] rfl
  have hDc := hD.sub (ws' := [((a 8), .inr (3, [.int (nI sn), .ref (a 9), .ref (a 10), .ref (a 11), .ref (a 12)])), ((a 9), .inl (cI, 100, .inl sa)), ((a 10), .inl (cI, 100, .inl sb)), ((a 11), .inl (cI, 100, .inl sc)), ((a 12), .inl (cI, 100, .inl sd))]) [3, 4, 5, 6, 7] (by decide) rfl
  have hFc := va_free (wc := [((a 8), .inr (3, [.int (nI sn), .ref (a 9), .ref (a 10), .ref (a 11), .ref (a 12)])), ((a 9), .inl (cI, 100, .inl sa)), ((a 10), .inl (cI, 100, .inl sb)), ((a 11), .inl (cI, 100, .inl sc)), ((a 12), .inl (cI, 100, .inl sd))]) hD hS hA [3, 4, 5, 6, 7] rfl
  refine va_callv (va_runV (As := [.int p1, .int (ce p1.toNatClampNeg), .int p2, .int (tk + (((f_X1_distance (ce p1.toNatClampNeg) p2) + 3) / 4))]) (rest := []) ⟨hx, hb, hml, hown, hts⟩ (c_X3_add l D cI cZ cJ cA H.size a sn sa sb sc sd p1 (ce p1.toNatClampNeg) p2 (tk + (((f_X1_distance (ce p1.toNatClampNeg) p2) + 3) / 4)) (by first | assumption | omega)) (cwV 4 hts gX2_fire_X3_add rfl rfl rfl (by decide +kernel) ⟨Nat.le_of_ble_eq_true rfl, Nat.le_of_ble_eq_true rfl⟩) ⟨pcW_bl, va_recv hK hPc (ci := 3) (q0 := 0) rfl rfl, fun U hU hW => ⟨rfl, by rw [hU], by rw [hU]; exact hPc, va_K.moved hW.alike hK, hDc.weaken (fun _ _ _ _ => trivial)⟩⟩ rfl rfl hl.1 rfl (lv_room (Nat.le_of_ble_eq_true rfl)) dX2_fire_42 ⟨Nat.le_of_ble_eq_true rfl, Nat.le_of_ble_eq_true rfl⟩) hS (fun q _ h => hFc q h) hFc (fun u t H locs ht hvm hw hB hz1 hk1 hS => ?_)
  try dsimp only at hw
  obtain ⟨u0_2, u1_2, u2_2, u3_2, u4_2⟩ := u
  try dsimp only at hw
  obtain ⟨hu0_2, hu1_2, hu2_2, hu3_2, hu4_2⟩ := hw
  obtain ⟨hP1, hK1, hD1⟩ := hB
  rw [ht] at hP1
  obtain ⟨hP, hD⟩ := va_join (wr := [((a 4), .inr (2, [.int hm, .int aw, .int tk, .ref (a 5), .ref (a 6), .ref (a 7), .ref (a 8), .ref (a 13)])), ((a 5), .inl (cI, 6, .inl ce)), ((a 7), .inl (cI, 6, .inl (upd la p1.toNatClampNeg tk)))]) (w1 := [((a 8), .inr (3, [.int (nI u0_2), .ref (a 9), .ref (a 10), .ref (a 11), .ref (a 12)])), ((a 9), .inl (cI, 100, .inl u1_2)), ((a 10), .inl (cI, 100, .inl u2_2)), ((a 11), .inl (cI, 100, .inl u3_2)), ((a 12), .inl (cI, 100, .inl u4_2))]) hP hD [3, 4, 5, 6, 7] [0, 1, 2] rfl rfl (by decide) (by decide) hk1 hFc hP1 hD1
  obtain rfl := hu0_2.symm
  obtain rfl := hu1_2.symm
  obtain rfl := hu2_2.symm
  obtain rfl := hu3_2.symm
  obtain rfl := hu4_2.symm
  have hP : va_P D vwCl [((a 4), .inr (2, [.int hm, .int aw, .int tk, .ref (a 5), .ref (a 6), .ref (a 7), .ref (a 8), .ref (a 13)])), ((a 5), .inl (cI, 6, .inl ce)), ((a 7), .inl (cI, 6, .inl (upd la p1.toNatClampNeg tk))), ((a 8), .inr (3, [.int (nI (sn + 1)), .ref (a 9), .ref (a 10), .ref (a 11), .ref (a 12)])), ((a 9), .inl (cI, 100, .inl (upd sa sn p1))), ((a 10), .inl (cI, 100, .inl (upd sb sn (ce p1.toNatClampNeg)))), ((a 11), .inl (cI, 100, .inl (upd sc sn p2))), ((a 12), .inl (cI, 100, .inl (upd sd sn (tk + (((f_X1_distance (ce p1.toNatClampNeg) p2) + 3) / 4)))))] H := hP
  have hD : va_D A [((a 4), .inr (2, [.int hm, .int aw, .int tk, .ref (a 5), .ref (a 6), .ref (a 7), .ref (a 8), .ref (a 13)])), ((a 5), .inl (cI, 6, .inl ce)), ((a 7), .inl (cI, 6, .inl (upd la p1.toNatClampNeg tk))), ((a 8), .inr (3, [.int (nI (sn + 1)), .ref (a 9), .ref (a 10), .ref (a 11), .ref (a 12)])), ((a 9), .inl (cI, 100, .inl (upd sa sn p1))), ((a 10), .inl (cI, 100, .inl (upd sb sn (ce p1.toNatClampNeg)))), ((a 11), .inl (cI, 100, .inl (upd sc sn p2))), ((a 12), .inl (cI, 100, .inl (upd sd sn (tk + (((f_X1_distance (ce p1.toNatClampNeg) p2) + 3) / 4)))))] := hD
  refine W.widen (k := 0) (n := 0) (Nat.le_refl _) (Nat.le_refl _) ?_
  refine lv_iload hx hb dX2_fire_45 (lv_at hl 0 rfl) ?_
  have hP9 := hP.sub (ws' := [((a 4), .inr (2, [.int hm, .int aw, .int tk, .ref (a 5), .ref (a 6), .ref (a 7), .ref (a 8), .ref (a 13)])), ((a 5), .inl (cI, 6, .inl ce)), ((a 7), .inl (cI, 6, .inl (upd la p1.toNatClampNeg tk))), ((a 8), .inr (3, [.int (nI (sn + 1)), .ref (a 9), .ref (a 10), .ref (a 11), .ref (a 12)])), ((a 9), .inl (cI, 100, .inl (upd sa sn p1))), ((a 10), .inl (cI, 100, .inl (upd sb sn (ce p1.toNatClampNeg)))), ((a 11), .inl (cI, 100, .inl (upd sc sn p2))), ((a 12), .inl (cI, 100, .inl (upd sd sn (tk + (((f_X1_distance (ce p1.toNatClampNeg) p2) + 3) / 4)))))]) [0, 1, 2, 3, 4, 5, 6, 7] rfl
  have hD9 := hD.sub (ws' := [((a 4), .inr (2, [.int hm, .int aw, .int tk, .ref (a 5), .ref (a 6), .ref (a 7), .ref (a 8), .ref (a 13)])), ((a 5), .inl (cI, 6, .inl ce)), ((a 7), .inl (cI, 6, .inl (upd la p1.toNatClampNeg tk))), ((a 8), .inr (3, [.int (nI (sn + 1)), .ref (a 9), .ref (a 10), .ref (a 11), .ref (a 12)])), ((a 9), .inl (cI, 100, .inl (upd sa sn p1))), ((a 10), .inl (cI, 100, .inl (upd sb sn (ce p1.toNatClampNeg)))), ((a 11), .inl (cI, 100, .inl (upd sc sn p2))), ((a 12), .inl (cI, 100, .inl (upd sd sn (tk + (((f_X1_distance (ce p1.toNatClampNeg) p2) + 3) / 4)))))]) [0, 1, 2, 3, 4, 5, 6, 7] (by decide) rfl
  -- leaf 0
  refine W.widen (k := 0) (n := 0) (Nat.le_refl _) (Nat.le_refl _) ?_
  exact W.iret (v := tk + (((f_X1_distance (ce p1.toNatClampNeg) p2) + 3) / 4)) hx hb hr (fun t ht hW => ⟨⟨tk + (((f_X1_distance (ce p1.toNatClampNeg) p2) + 3) / 4), (upd la p1.toNatClampNeg tk, (sn + 1), (upd sa sn p1), (upd sb sn (ce p1.toNatClampNeg)), (upd sc sn p2), (upd sd sn (tk + (((f_X1_distance (ce p1.toNatClampNeg) p2) + 3) / 4)))), rfl, ⟨rfl, rfl, rfl, rfl, rfl, rfl, rfl⟩, by rw [ht]; exact hP9, va_K.moved hW.alike hK, hD9⟩, hS.F ht⟩) hS.2.2 dX2_fire_47

noncomputable def flyN (tk : Int32) (sd : Nat → Int32) : Nat → Int32
  | 0 => 0
  | n + 1 => if sd n ≤ tk then flyN tk sd n else flyN tk sd n + 1
termination_by n => n
set_option maxHeartbeats 4000000 in
set_option maxRecDepth 100000 in
theorem c_X2_countFlying (l : Launch) (D : va_G) (cI cZ cJ cA : ClassId) (sz : Nat) (a : Nat → Nat) (hm : Int32) (aw : Int32) (tk : Int32) (sn : Nat) (sd : Nat → Int32) (h1 : sn ≤ 100) : Met l yX2_countFlying wsX2_countFlying ({ frames := 0, cells := 0, slots := 0, locals := 0 } : Room) (va_Pc [.ref (a 4)] (pcR D (tyL cI cZ cJ cA) [((a 4), .inr (2, [.int hm, .int aw, .int tk, .ref (a 5), .ref (a 6), .ref (a 7), .ref (a 8), .ref (a 13)])), ((a 8), .inr (3, [.int (nI sn), .ref (a 9), .ref (a 10), .ref (a 11), .ref (a 12)])), ((a 12), .inl (cI, 100, .inl sd))] sz)) (va_Qi (fun (r : Int32) (u : Unit) => r = flyN tk sd sn) (fun _ _ => True) (fun q : Nat => sz ≤ q)) 0 0 (fun q : Nat => sz ≤ q) := by
  refine Met.ofW (cc := cX2_countFlying) (maxL := 3) (ret := (some .int)) (by decide) rfl ?_
  intro p e s m args below meth c s₁ B hml hv
  obtain ⟨rfl, hsz, hP, hK⟩ := hv
  have hx := B.exec
  have hb := B.bytes
  have hr := B.returns
  have hts := atoms_spec (ws := wsX2_countFlying) B.pre
  have hown : s.vm.findClass RX2 = some m.cls := findClass_of_methodNamed B.named
  have hlocks := B.notSynchronized
  subst hsz
  have hA : ∀ q : Nat, s.heap.size ≤ q → (fun q : Nat => s.heap.size ≤ q) q := fun _ h => h
  have hS : va_S (fun q : Nat => s.heap.size ≤ q) s.heap s.heap [] := va_S.rf
  have hP : va_P D vwCl [((a 4), .inr (2, [.int hm, .int aw, .int tk, .ref (a 5), .ref (a 6), .ref (a 7), .ref (a 8), .ref (a 13)])), ((a 8), .inr (3, [.int (nI sn), .ref (a 9), .ref (a 10), .ref (a 11), .ref (a 12)])), ((a 12), .inl (cI, 100, .inl sd))] s.heap := hP
  have hl := lv_entry ([.ref (a 4)]) (n := 3) (Nat.le_of_ble_eq_true rfl)
  rw [lg_entry_eq]
  generalize (lg_sl ([.ref (a 4)]) ++ List.replicate (3 - (lg_sl ([.ref (a 4)])).length) Slot.unset).toArray = ls at hl ⊢
  have hl : lv_has ls 3 [(0, .ref (a 4))] := hl
  have hf_28 := hts (.fieldLink RX2 28 "PaintballAtlas$Round" "shots" "LPaintballAtlas$Shots;") (by decide +kernel)
  have hi_X2 : ∀ w ∈ wsX20, w ∈ wsX2_countFlying := by decide +kernel
  have hf_49 := hts (.fieldLink RX2 49 "PaintballAtlas$Shots" "count" "I") (by decide +kernel)
  have hi_X3 : ∀ w ∈ wsX30, w ∈ wsX2_countFlying := by decide +kernel
  have hf_63 := hts (.fieldLink RX2 63 "PaintballAtlas$Shots" "arrivals" "[I") (by decide +kernel)
  have hf_9 := hts (.fieldLink RX2 9 "PaintballAtlas$Round" "tick" "I") (by decide +kernel)
  refine lv_iconst (v := 0) hx hb dX2_countFlying_0 (by decide) ?_
  refine lv_istore_n (lv' := [(1, .int 0), (0, .ref (a 4))]) hx hb dX2_countFlying_1 rfl hl (by decide) rfl (fun ls hl => ?_)
  refine lv_iconst (v := 0) hx hb dX2_countFlying_2 (by decide) ?_
  refine lv_istore_n (lv' := [(2, .int 0), (1, .int 0), (0, .ref (a 4))]) hx hb dX2_countFlying_3 rfl hl (by decide) rfl (fun ls hl => ?_)
  refine lpW (σ := (Nat) × (Int32)) (I := fun x H locs ls => va_P D vwCl [((a 4), .inr (2, [.int hm, .int aw, .int tk, .ref (a 5), .ref (a 6), .ref (a 7), .ref (a 8), .ref (a 13)])), ((a 8), .inr (3, [.int (nI sn), .ref (a 9), .ref (a 10), .ref (a 11), .ref (a 12)])), ((a 12), .inl (cI, 100, .inl sd))] H ∧ va_S (fun q : Nat => s.heap.size ≤ q) s.heap H locs ∧ lv_has ls 3 [(0, .ref (a 4)), (1, .int x.2), (2, .int (nI x.1))] ∧ (x.1 ≤ sn) ∧ (x.2 = flyN tk sd x.1)) (μ := fun x => sn - x.1) ?_ (0, 0) ⟨hP, hS, lv_sub hl [2, 1, 0] rfl, (Nat.zero_le _), (by simp only [flyN])⟩
  intro x H locs ls hI ih
  obtain ⟨i, c2⟩ := x
  obtain ⟨hP, hS, hl, hq_hi, hq_hc⟩ := hI
  have ih_4 := ih
  have hl : lv_has ls 3 [(0, .ref (a 4)), (1, .int c2), (2, .int (nI i))] := hl
  have hP : va_P D vwCl [((a 4), .inr (2, [.int hm, .int aw, .int tk, .ref (a 5), .ref (a 6), .ref (a 7), .ref (a 8), .ref (a 13)])), ((a 8), .inr (3, [.int (nI sn), .ref (a 9), .ref (a 10), .ref (a 11), .ref (a 12)])), ((a 12), .inl (cI, 100, .inl sd))] H := hP
  have hi : i ≤ sn := hq_hi
  have hc : c2 = flyN tk sd i := hq_hc
  clear hq_hi hq_hc
  refine lv_iload_n hx hb dX2_countFlying_4 rfl (lv_at hl 2 rfl) ?_
  refine lv_aload_n hx hb dX2_countFlying_5 rfl (lv_at hl 0 rfl) ?_
  refine va_get (D := D) (ci := 2) (v := .ref (a 8)) (C := RX2) (T := TX2) (N := 8) hx hb hts hi_X2 hown hK hP 0 rfl rfl 6 (by decide) hf_28 (fun _ h9 => h9) rfl dX2_countFlying_6 ?_
  refine va_get (D := D) (ci := 3) (v := .int (nI sn)) (C := RX3) (T := TX3) (N := 5) hx hb hts hi_X3 hown hK hP 1 rfl rfl 0 (by decide) hf_49 (fun _ h9 => h9) rfl dX2_countFlying_9 ?_
  refine lv_icmp_ge (tgt := 40) hx hb dX2_countFlying_12 (by decide) (fun c_1 => ?_) (fun c_1 => ?_)
  · have he_12 : i = sn := bd_eq (N := sn) (by omega) hi c_1
    refine lv_iload_n hx hb dX2_countFlying_40 rfl (lv_at hl 1 rfl) ?_
    -- leaf 0
    refine W.widen (k := 0) (n := 0) (Nat.le_refl _) (Nat.le_refl _) ?_
    exact W.iret (v := c2) hx hb hr (fun t ht hW => ⟨⟨c2, (), rfl, (by rw [hc, he_12]), trivial⟩, hS.F ht⟩) hS.2.2 dX2_countFlying_41
  · have hlt_12 : i < sn := bd_lt (N := sn) (by omega) hi c_1
    refine lv_aload_n hx hb dX2_countFlying_15 rfl (lv_at hl 0 rfl) ?_
    refine va_get (D := D) (ci := 2) (v := .ref (a 8)) (C := RX2) (T := TX2) (N := 8) hx hb hts hi_X2 hown hK hP 0 rfl rfl 6 (by decide) hf_28 (fun _ h9 => h9) rfl dX2_countFlying_16 ?_
    refine va_get (D := D) (ci := 3) (v := .ref (a 12)) (C := RX3) (T := TX3) (N := 5) hx hb hts hi_X3 hown hK hP 1 rfl rfl 4 (by decide) hf_63 (fun _ h9 => h9) rfl dX2_countFlying_19 ?_
    refine lv_iload_n hx hb dX2_countFlying_22 rfl (lv_at hl 2 rfl) ?_
    refine va_iald hx hb hK hP 2 0 rfl rfl (vp_in_nI (n := i) (by omega) (by decide)) dX2_countFlying_23 ?_
    refine tp_eq (y := sd i) (by rw [nI_clamp (n := i) (by omega)]) ?_
    refine lv_aload_n hx hb dX2_countFlying_24 rfl (lv_at hl 0 rfl) ?_
    refine va_get (D := D) (ci := 2) (v := .int tk) (C := RX2) (T := TX2) (N := 8) hx hb hts hi_X2 hown hK hP 0 rfl rfl 2 (by decide) hf_9 (fun _ h9 => h9) rfl dX2_countFlying_25 ?_
    refine lv_icmp_le (tgt := 34) hx hb dX2_countFlying_28 (by decide) (fun c_2 => ?_) (fun c_2 => ?_)
    · refine lv_iinc (v := nI (i + 1)) (lv' := [(2, .int (nI (i + 1))), (0, .ref (a 4)), (1, .int c2)]) hx hb dX2_countFlying_34 hl (k := 2) rfl (nI_1 i) (by decide) rfl (fun ls hl => ?_)
      refine lv_goto (tgt := 4) hx hb dX2_countFlying_37 (by decide) ?_
      refine W.widen (k := 0) (n := 0) (Nat.le_refl _) (Nat.le_refl _) ?_
      exact ih_4 ((i + 1), c2) _ _ _ (by first | omega | (dsimp only; omega)) ⟨hP, hS, lv_sub hl [1, 2, 0] rfl, (by omega), (by rw [flyN, if_pos c_2, ← hc])⟩
    · refine lv_iinc (v := c2 + 1) (lv' := [(1, .int (c2 + 1)), (0, .ref (a 4)), (2, .int (nI i))]) hx hb dX2_countFlying_31 hl (k := 1) rfl rfl (by decide) rfl (fun ls hl => ?_)
      refine lv_iinc (v := nI (i + 1)) (lv' := [(2, .int (nI (i + 1))), (1, .int (c2 + 1)), (0, .ref (a 4))]) hx hb dX2_countFlying_34 hl (k := 2) rfl (nI_1 i) (by decide) rfl (fun ls hl => ?_)
      refine lv_goto (tgt := 4) hx hb dX2_countFlying_37 (by decide) ?_
      refine W.widen (k := 0) (n := 0) (Nat.le_refl _) (Nat.le_refl _) ?_
      exact ih_4 ((i + 1), c2 + 1) _ _ _ (by first | omega | (dsimp only; omega)) ⟨hP, hS, lv_sub hl [2, 1, 0] rfl, (by omega), (by rw [flyN, if_neg c_2, ← hc])⟩

noncomputable def f_X2_strikes (bk : Nat → Int32) (hm : Int32) (aw : Int32) (tk : Int32) (ce : Nat → Int32) (hi : Nat → Int32) (sn : Nat) (sa : Nat → Int32) (sb : Nat → Int32) (sc : Nat → Int32) (p1 : Int32) : Int32 := if (pOn ce (sc p1.toNatClampNeg)) = (-1) then 0 else (if (pOn ce (sc p1.toNatClampNeg)) = (sa p1.toNatClampNeg) then 0 else (if (sI (SgtC bk (sb p1.toNatClampNeg).toNatClampNeg (sc p1.toNatClampNeg).toNatClampNeg)) = 0 then 0 else 1))
noncomputable def g_hi_X2_strikes (bk : Nat → Int32) (hm : Int32) (aw : Int32) (tk : Int32) (ce : Nat → Int32) (hi : Nat → Int32) (sn : Nat) (sa : Nat → Int32) (sb : Nat → Int32) (sc : Nat → Int32) (p1 : Int32) : Nat → Int32 := if (pOn ce (sc p1.toNatClampNeg)) = (-1) then hi else (if (pOn ce (sc p1.toNatClampNeg)) = (sa p1.toNatClampNeg) then hi else (if (sI (SgtC bk (sb p1.toNatClampNeg).toNatClampNeg (sc p1.toNatClampNeg).toNatClampNeg)) = 0 then hi else (if (hi (pOn ce (sc p1.toNatClampNeg)).toNatClampNeg) = (-1) then upd hi ((pOn ce (sc p1.toNatClampNeg)).toNatClampNeg) tk else hi)))
set_option maxHeartbeats 4000000 in
set_option maxRecDepth 100000 in
theorem c_X2_strikes (l : Launch) (D : va_G) (cI cZ cJ cA : ClassId) (sz : Nat) (a : Nat → Nat) (bk : Nat → Int32) (hm : Int32) (aw : Int32) (tk : Int32) (ce : Nat → Int32) (hi : Nat → Int32) (sn : Nat) (sa : Nat → Int32) (sb : Nat → Int32) (sc : Nat → Int32) (p1 : Int32) (h1 : vp_in p1 100) (h2 : vp_in (sb p1.toNatClampNeg) 144) (h3 : vp_in (sc p1.toNatClampNeg) 144) : Met l yX2_strikes wsX2_strikes ({ frames := 3, cells := 0, slots := 0, locals := 77 } : Room) (va_Pc [.ref (a 4), .int p1, .ref (a 2)] (pcW D (tyL cI cZ cJ cA) [((a 4), .inr (2, [.int hm, .int aw, .int tk, .ref (a 5), .ref (a 6), .ref (a 7), .ref (a 8), .ref (a 13)])), ((a 5), .inl (cI, 6, .inl ce)), ((a 6), .inl (cI, 6, .inl hi)), ((a 8), .inr (3, [.int (nI sn), .ref (a 9), .ref (a 10), .ref (a 11), .ref (a 12)])), ((a 9), .inl (cI, 100, .inl sa)), ((a 10), .inl (cI, 100, .inl sb)), ((a 11), .inl (cI, 100, .inl sc)), ((a 2), .inr (1, [.ref (a 3)])), ((a 3), .inl (cZ, 144, .inl bk))] sz)) (va_Qi (fun (r : Int32) (u : (Nat → Int32)) => r = f_X2_strikes bk hm aw tk ce hi sn sa sb sc p1 ∧ u = g_hi_X2_strikes bk hm aw tk ce hi sn sa sb sc p1) (fun u t => bcW D (tyL cI cZ cJ cA) (va_A [((a 4), .inr (2, [.int hm, .int aw, .int tk, .ref (a 5), .ref (a 6), .ref (a 7), .ref (a 8), .ref (a 13)])), ((a 5), .inl (cI, 6, .inl ce)), ((a 6), .inl (cI, 6, .inl hi)), ((a 8), .inr (3, [.int (nI sn), .ref (a 9), .ref (a 10), .ref (a 11), .ref (a 12)])), ((a 9), .inl (cI, 100, .inl sa)), ((a 10), .inl (cI, 100, .inl sb)), ((a 11), .inl (cI, 100, .inl sc)), ((a 2), .inr (1, [.ref (a 3)])), ((a 3), .inl (cZ, 144, .inl bk))] sz) [((a 4), .inr (2, [.int hm, .int aw, .int tk, .ref (a 5), .ref (a 6), .ref (a 7), .ref (a 8), .ref (a 13)])), ((a 5), .inl (cI, 6, .inl ce)), ((a 6), .inl (cI, 6, .inl u)), ((a 8), .inr (3, [.int (nI sn), .ref (a 9), .ref (a 10), .ref (a 11), .ref (a 12)])), ((a 9), .inl (cI, 100, .inl sa)), ((a 10), .inl (cI, 100, .inl sb)), ((a 11), .inl (cI, 100, .inl sc)), ((a 2), .inr (1, [.ref (a 3)])), ((a 3), .inl (cZ, 144, .inl bk))] t) (va_A [((a 4), .inr (2, [.int hm, .int aw, .int tk, .ref (a 5), .ref (a 6), .ref (a 7), .ref (a 8), .ref (a 13)])), ((a 5), .inl (cI, 6, .inl ce)), ((a 6), .inl (cI, 6, .inl hi)), ((a 8), .inr (3, [.int (nI sn), .ref (a 9), .ref (a 10), .ref (a 11), .ref (a 12)])), ((a 9), .inl (cI, 100, .inl sa)), ((a 10), .inl (cI, 100, .inl sb)), ((a 11), .inl (cI, 100, .inl sc)), ((a 2), .inr (1, [.ref (a 3)])), ((a 3), .inl (cZ, 144, .inl bk))] sz)) 0 0 (va_A [((a 4), .inr (2, [.int hm, .int aw, .int tk, .ref (a 5), .ref (a 6), .ref (a 7), .ref (a 8), .ref (a 13)])), ((a 5), .inl (cI, 6, .inl ce)), ((a 6), .inl (cI, 6, .inl hi)), ((a 8), .inr (3, [.int (nI sn), .ref (a 9), .ref (a 10), .ref (a 11), .ref (a 12)])), ((a 9), .inl (cI, 100, .inl sa)), ((a 10), .inl (cI, 100, .inl sb)), ((a 11), .inl (cI, 100, .inl sc)), ((a 2), .inr (1, [.ref (a 3)])), ((a 3), .inl (cZ, 144, .inl bk))] sz) := by
  refine Met.ofW (cc := cX2_strikes) (maxL := 5) (ret := (some .boolean)) (by decide) rfl ?_
  intro p e s m args below meth c s₁ B hml hv
  obtain ⟨rfl, hsz, hP, hK, hD0⟩ := hv
  have hx := B.exec
  have hb := B.bytes
  have hr := B.returns
  have hts := atoms_spec (ws := wsX2_strikes) B.pre
  have hown : s.vm.findClass RX2 = some m.cls := findClass_of_methodNamed B.named
  have hlocks := B.notSynchronized
  subst hsz
  have hD := hD0.self (sz := s.heap.size)
  generalize hAe : va_A [((a 4), .inr (2, [.int hm, .int aw, .int tk, .ref (a 5), .ref (a 6), .ref (a 7), .ref (a 8), .ref (a 13)])), ((a 5), .inl (cI, 6, .inl ce)), ((a 6), .inl (cI, 6, .inl hi)), ((a 8), .inr (3, [.int (nI sn), .ref (a 9), .ref (a 10), .ref (a 11), .ref (a 12)])), ((a 9), .inl (cI, 100, .inl sa)), ((a 10), .inl (cI, 100, .inl sb)), ((a 11), .inl (cI, 100, .inl sc)), ((a 2), .inr (1, [.ref (a 3)])), ((a 3), .inl (cZ, 144, .inl bk))] s.heap.size = A at hD ⊢
  have hA : ∀ q : Nat, s.heap.size ≤ q → A q := fun q h => by rw [← hAe]; exact Or.inr h
  have hAR : ∀ q : Nat, s.heap.size ≤ q → (fun q : Nat => s.heap.size ≤ q) q := fun _ h => h
  have hS : va_S A s.heap s.heap [] := va_S.rf
  have hP : va_P D vwCl [((a 4), .inr (2, [.int hm, .int aw, .int tk, .ref (a 5), .ref (a 6), .ref (a 7), .ref (a 8), .ref (a 13)])), ((a 5), .inl (cI, 6, .inl ce)), ((a 6), .inl (cI, 6, .inl hi)), ((a 8), .inr (3, [.int (nI sn), .ref (a 9), .ref (a 10), .ref (a 11), .ref (a 12)])), ((a 9), .inl (cI, 100, .inl sa)), ((a 10), .inl (cI, 100, .inl sb)), ((a 11), .inl (cI, 100, .inl sc)), ((a 2), .inr (1, [.ref (a 3)])), ((a 3), .inl (cZ, 144, .inl bk))] s.heap := hP
  have hl := lv_entry ([.ref (a 4), .int p1, .ref (a 2)]) (n := 5) (Nat.le_of_ble_eq_true rfl)
  rw [lg_entry_eq]
  generalize (lg_sl ([.ref (a 4), .int p1, .ref (a 2)]) ++ List.replicate (5 - (lg_sl ([.ref (a 4), .int p1, .ref (a 2)])).length) Slot.unset).toArray = ls at hl ⊢
  have hl : lv_has ls 5 [(0, .ref (a 4)), (1, .int p1), (2, .ref (a 2))] := hl
  have hf_28 := hts (.fieldLink RX2 28 "PaintballAtlas$Round" "shots" "LPaintballAtlas$Shots;") (by decide +kernel)
  have hi_X2 : ∀ w ∈ wsX20, w ∈ wsX2_strikes := by decide +kernel
  have hf_70 := hts (.fieldLink RX2 70 "PaintballAtlas$Shots" "targets" "[I") (by decide +kernel)
  have hi_X3 : ∀ w ∈ wsX30, w ∈ wsX2_strikes := by decide +kernel
  have hf_77 := hts (.fieldLink RX2 77 "PaintballAtlas$Shots" "shooters" "[I") (by decide +kernel)
  have hf_80 := hts (.fieldLink RX2 80 "PaintballAtlas$Shots" "origins" "[I") (by decide +kernel)
  have hf_19 := hts (.fieldLink RX2 19 "PaintballAtlas$Round" "hits" "[I") (by decide +kernel)
  have hf_9 := hts (.fieldLink RX2 9 "PaintballAtlas$Round" "tick" "I") (by decide +kernel)
  refine lv_aload_n hx hb dX2_strikes_0 rfl (lv_at hl 0 rfl) ?_
  refine va_get (D := D) (ci := 2) (v := .ref (a 8)) (C := RX2) (T := TX2) (N := 8) hx hb hts hi_X2 hown hK hP 0 rfl rfl 6 (by decide) hf_28 (fun _ h9 => h9) rfl dX2_strikes_1 ?_
  refine va_get (D := D) (ci := 3) (v := .ref (a 11)) (C := RX3) (T := TX3) (N := 5) hx hb hts hi_X3 hown hK hP 3 rfl rfl 3 (by decide) hf_70 (fun _ h9 => h9) rfl dX2_strikes_4 ?_
  refine lv_iload_n hx hb dX2_strikes_7 rfl (lv_at hl 1 rfl) ?_
  refine va_iald hx hb hK hP 6 0 rfl rfl (by assumption) dX2_strikes_8 ?_
  refine lv_istore_n (lv' := [(3, .int (sc p1.toNatClampNeg)), (0, .ref (a 4)), (1, .int p1), (2, .ref (a 2))]) hx hb dX2_strikes_9 rfl hl (by decide) rfl (fun ls hl => ?_)
  refine lv_aload_n hx hb dX2_strikes_10 rfl (lv_at hl 1 rfl) ?_
  refine lv_iload_n hx hb dX2_strikes_11 rfl (lv_at hl 0 rfl) ?_
  have hPc := hP.sub (ws' := [((a 4), .inr (2, [.int hm, .int aw, .int tk, .ref (a 5), .ref (a 6), .ref (a 7), .ref (a 8), .ref (a 13)])), ((a 5), .inl (cI, 6, .inl ce))]) [0, 1] rfl
  refine va_calli (va_runV (As := [.int (sc p1.toNatClampNeg)]) (rest := []) ⟨hx, hb, hml, hown, hts⟩ (c_X2_playerOn l D cI cZ cJ cA s.heap.size a hm aw tk ce (sc p1.toNatClampNeg)) (cwV 1 hts gX2_strikes_X2_playerOn rfl rfl rfl (by decide +kernel) ⟨Nat.le_of_ble_eq_true rfl, Nat.le_of_ble_eq_true rfl⟩) ⟨pcR_bl, va_recv hK hPc (ci := 2) (q0 := 0) rfl rfl, fun U hU hW => ⟨rfl, by rw [hU], by rw [hU]; exact hPc, va_K.moved hW.alike hK⟩⟩ rfl rfl hl.1 rfl (lv_room (Nat.le_of_ble_eq_true rfl)) dX2_strikes_12 ⟨Nat.le_of_ble_eq_true rfl, Nat.le_of_ble_eq_true rfl⟩) hS (fun _ h1 h2 => absurd h1 (Nat.not_lt.mpr h2)) (rd_free hS hA) (fun r_1 u t H locs ht hvm hw hB hz1 hk1 hS => ?_)
  try dsimp only at hw
  have hr_1 := hw
  have hP := rd_P hP hk1
  obtain rfl := hr_1.symm
  refine W.widen (k := 0) (n := 0) (Nat.le_refl _) (Nat.le_refl _) ?_
  refine lv_istore (lv' := [(4, .int (pOn ce (sc p1.toNatClampNeg))), (3, .int (sc p1.toNatClampNeg)), (0, .ref (a 4)), (1, .int p1), (2, .ref (a 2))]) hx hb dX2_strikes_15 hl (by decide) rfl (fun ls hl => ?_)
  refine lv_iload hx hb dX2_strikes_17 (lv_at hl 0 rfl) ?_
  refine lv_iconst (v := (-1)) hx hb dX2_strikes_19 (by decide) ?_
  refine lv_icmp_eq (tgt := 37) hx hb dX2_strikes_20 (by decide) (fun c_2 => ?_) (fun c_2 => ?_)
  · refine lv_iconst (v := 0) hx hb dX2_strikes_37 (by decide) ?_
    have hP9 := hP.sub (ws' := [((a 4), .inr (2, [.int hm, .int aw, .int tk, .ref (a 5), .ref (a 6), .ref (a 7), .ref (a 8), .ref (a 13)])), ((a 5), .inl (cI, 6, .inl ce)), ((a 6), .inl (cI, 6, .inl hi)), ((a 8), .inr (3, [.int (nI sn), .ref (a 9), .ref (a 10), .ref (a 11), .ref (a 12)])), ((a 9), .inl (cI, 100, .inl sa)), ((a 10), .inl (cI, 100, .inl sb)), ((a 11), .inl (cI, 100, .inl sc)), ((a 2), .inr (1, [.ref (a 3)])), ((a 3), .inl (cZ, 144, .inl bk))]) [0, 1, 2, 3, 4, 5, 6, 7, 8] rfl
    have hD9 := hD.sub (ws' := [((a 4), .inr (2, [.int hm, .int aw, .int tk, .ref (a 5), .ref (a 6), .ref (a 7), .ref (a 8), .ref (a 13)])), ((a 5), .inl (cI, 6, .inl ce)), ((a 6), .inl (cI, 6, .inl hi)), ((a 8), .inr (3, [.int (nI sn), .ref (a 9), .ref (a 10), .ref (a 11), .ref (a 12)])), ((a 9), .inl (cI, 100, .inl sa)), ((a 10), .inl (cI, 100, .inl sb)), ((a 11), .inl (cI, 100, .inl sc)), ((a 2), .inr (1, [.ref (a 3)])), ((a 3), .inl (cZ, 144, .inl bk))]) [0, 1, 2, 3, 4, 5, 6, 7, 8] (by decide) rfl
    -- leaf 0
    refine W.widen (k := 0) (n := 0) (Nat.le_refl _) (Nat.le_refl _) ?_
    exact W.zret (v := 0) (ty := .boolean) hx hb hr rfl (fun t ht hW => ⟨⟨0, (hi), rfl, ⟨(by rw [f_X2_strikes, if_pos c_2]), (by rw [g_hi_X2_strikes, if_pos c_2])⟩, by rw [ht]; exact hP9, va_K.moved hW.alike hK, hD9⟩, hS.F ht⟩) hS.2.2 dX2_strikes_38
  · refine lv_iload hx hb dX2_strikes_23 (lv_at hl 0 rfl) ?_
    refine lv_aload_n hx hb dX2_strikes_25 rfl (lv_at hl 2 rfl) ?_
    refine va_get (D := D) (ci := 2) (v := .ref (a 8)) (C := RX2) (T := TX2) (N := 8) hx hb hts hi_X2 hown hK hP 0 rfl rfl 6 (by decide) hf_28 (fun _ h9 => h9) rfl dX2_strikes_26 ?_
    refine va_get (D := D) (ci := 3) (v := .ref (a 9)) (C := RX3) (T := TX3) (N := 5) hx hb hts hi_X3 hown hK hP 3 rfl rfl 1 (by decide) hf_77 (fun _ h9 => h9) rfl dX2_strikes_29 ?_
    refine lv_iload_n hx hb dX2_strikes_32 rfl (lv_at hl 3 rfl) ?_
    refine va_iald hx hb hK hP 4 0 rfl rfl (by assumption) dX2_strikes_33 ?_
    refine lv_icmp_ne (tgt := 39) hx hb dX2_strikes_34 (by decide) (fun c_3 => ?_) (fun c_3 => ?_)
    · refine lv_aload_n hx hb dX2_strikes_39 rfl (lv_at hl 4 rfl) ?_
      refine lv_aload_n hx hb dX2_strikes_40 rfl (lv_at hl 2 rfl) ?_
      refine va_get (D := D) (ci := 2) (v := .ref (a 8)) (C := RX2) (T := TX2) (N := 8) hx hb hts hi_X2 hown hK hP 0 rfl rfl 6 (by decide) hf_28 (fun _ h9 => h9) rfl dX2_strikes_41 ?_
      refine va_get (D := D) (ci := 3) (v := .ref (a 10)) (C := RX3) (T := TX3) (N := 5) hx hb hts hi_X3 hown hK hP 3 rfl rfl 2 (by decide) hf_80 (fun _ h9 => h9) rfl dX2_strikes_44 ?_
      refine lv_iload_n hx hb dX2_strikes_47 rfl (lv_at hl 3 rfl) ?_
      refine va_iald hx hb hK hP 5 0 rfl rfl (by assumption) dX2_strikes_48 ?_
      refine lv_iload_n hx hb dX2_strikes_49 rfl (lv_at hl 1 rfl) ?_
      have hPc := hP.sub (ws' := [((a 2), .inr (1, [.ref (a 3)])), ((a 3), .inl (cZ, 144, .inl bk))]) [7, 8] rfl
      refine va_calli (va_runV (As := [.int (sb p1.toNatClampNeg), .int (sc p1.toNatClampNeg)]) (rest := []) ⟨hx, hb, hml, hown, hts⟩ (c_X1_hasSight l D cI cZ cJ cA H.size a bk (sb p1.toNatClampNeg) (sc p1.toNatClampNeg) (by assumption) (by assumption)) (cwV 2 hts gX2_strikes_X1_hasSight rfl rfl rfl (by decide +kernel) ⟨Nat.le_of_ble_eq_true rfl, Nat.le_of_ble_eq_true rfl⟩) ⟨pcR_bl, va_recv hK hPc (ci := 1) (q0 := 0) rfl rfl, fun U hU hW => ⟨rfl, by rw [hU], by rw [hU]; exact hPc, va_K.moved hW.alike hK⟩⟩ rfl rfl hl.1 rfl (lv_room (Nat.le_of_ble_eq_true rfl)) dX2_strikes_50 ⟨Nat.le_of_ble_eq_true rfl, Nat.le_of_ble_eq_true rfl⟩) hS (fun _ h1 h2 => absurd h1 (Nat.not_lt.mpr h2)) (rd_free hS hA) (fun r_4 u t H locs ht hvm hw hB hz1 hk1 hS => ?_)
      try dsimp only at hw
      have hr_4 := hw
      have hP := rd_P hP hk1
      obtain rfl := hr_4.symm
      refine W.widen (k := 0) (n := 0) (Nat.le_refl _) (Nat.le_refl _) ?_
      refine lv_if_ne (tgt := 58) hx hb dX2_strikes_53 (by decide) (fun c_5 => ?_) (fun c_5 => ?_)
      · refine lv_aload_n hx hb dX2_strikes_58 rfl (lv_at hl 2 rfl) ?_
        refine va_get (D := D) (ci := 2) (v := .ref (a 6)) (C := RX2) (T := TX2) (N := 8) hx hb hts hi_X2 hown hK hP 0 rfl rfl 4 (by decide) hf_19 (fun _ h9 => h9) rfl dX2_strikes_59 ?_
        refine lv_iload hx hb dX2_strikes_62 (lv_at hl 0 rfl) ?_
        refine va_iald hx hb hK hP 2 0 rfl rfl (pOn_in c_2) dX2_strikes_64 ?_
        refine lv_iconst (v := (-1)) hx hb dX2_strikes_65 (by decide) ?_
        refine lv_icmp_ne (tgt := 80) hx hb dX2_strikes_66 (by decide) (fun c_6 => ?_) (fun c_6 => ?_)
        · refine lv_iconst (v := 1) hx hb dX2_strikes_80 (by decide) ?_
          have hP9 := hP.sub (ws' := [((a 4), .inr (2, [.int hm, .int aw, .int tk, .ref (a 5), .ref (a 6), .ref (a 7), .ref (a 8), .ref (a 13)])), ((a 5), .inl (cI, 6, .inl ce)), ((a 6), .inl (cI, 6, .inl hi)), ((a 8), .inr (3, [.int (nI sn), .ref (a 9), .ref (a 10), .ref (a 11), .ref (a 12)])), ((a 9), .inl (cI, 100, .inl sa)), ((a 10), .inl (cI, 100, .inl sb)), ((a 11), .inl (cI, 100, .inl sc)), ((a 2), .inr (1, [.ref (a 3)])), ((a 3), .inl (cZ, 144, .inl bk))]) [0, 1, 2, 3, 4, 5, 6, 7, 8] rfl
          have hD9 := hD.sub (ws' := [((a 4), .inr (2, [.int hm, .int aw, .int tk, .ref (a 5), .ref (a 6), .ref (a 7), .ref (a 8), .ref (a 13)])), ((a 5), .inl (cI, 6, .inl ce)), ((a 6), .inl (cI, 6, .inl hi)), ((a 8), .inr (3, [.int (nI sn), .ref (a 9), .ref (a 10), .ref (a 11), .ref (a 12)])), ((a 9), .inl (cI, 100, .inl sa)), ((a 10), .inl (cI, 100, .inl sb)), ((a 11), .inl (cI, 100, .inl sc)), ((a 2), .inr (1, [.ref (a 3)])), ((a 3), .inl (cZ, 144, .inl bk))]) [0, 1, 2, 3, 4, 5, 6, 7, 8] (by decide) rfl
          -- leaf 1
          refine W.widen (k := 0) (n := 0) (Nat.le_refl _) (Nat.le_refl _) ?_
          exact W.zret (v := 1) (ty := .boolean) hx hb hr rfl (fun t ht hW => ⟨⟨1, (hi), rfl, ⟨(by rw [f_X2_strikes, if_neg c_2, if_neg c_3, if_neg c_5]), (by rw [g_hi_X2_strikes, if_neg c_2, if_neg c_3, if_neg c_5, if_neg c_6])⟩, by rw [ht]; exact hP9, va_K.moved hW.alike hK, hD9⟩, hS.F ht⟩) hS.2.2 dX2_strikes_81
        · refine lv_aload_n hx hb dX2_strikes_69 rfl (lv_at hl 2 rfl) ?_
          refine va_get (D := D) (ci := 2) (v := .ref (a 6)) (C := RX2) (T := TX2) (N := 8) hx hb hts hi_X2 hown hK hP 0 rfl rfl 4 (by decide) hf_19 (fun _ h9 => h9) rfl dX2_strikes_70 ?_
          refine lv_iload hx hb dX2_strikes_73 (lv_at hl 0 rfl) ?_
          refine lv_aload_n hx hb dX2_strikes_75 rfl (lv_at hl 2 rfl) ?_
          refine va_get (D := D) (ci := 2) (v := .int tk) (C := RX2) (T := TX2) (N := 8) hx hb hts hi_X2 hown hK hP 0 rfl rfl 2 (by decide) hf_9 (fun _ h9 => h9) rfl dX2_strikes_76 ?_
          refine va_iast hx hb hK hP hD hS 2 0 rfl rfl (pOn_in c_2) dX2_strikes_79 (fun H locs hP hD hS => ?_)
          have hP : va_P D vwCl [((a 4), .inr (2, [.int hm, .int aw, .int tk, .ref (a 5), .ref (a 6), .ref (a 7), .ref (a 8), .ref (a 13)])), ((a 5), .inl (cI, 6, .inl ce)), ((a 6), .inl (cI, 6, .inl (upd hi ((pOn ce (sc p1.toNatClampNeg)).toNatClampNeg) tk))), ((a 8), .inr (3, [.int (nI sn), .ref (a 9), .ref (a 10), .ref (a 11), .ref (a 12)])), ((a 9), .inl (cI, 100, .inl sa)), ((a 10), .inl (cI, 100, .inl sb)), ((a 11), .inl (cI, 100, .inl sc)), ((a 2), .inr (1, [.ref (a 3)])), ((a 3), .inl (cZ, 144, .inl bk))] H := hP
          have hD : va_D A [((a 4), .inr (2, [.int hm, .int aw, .int tk, .ref (a 5), .ref (a 6), .ref (a 7), .ref (a 8), .ref (a 13)])), ((a 5), .inl (cI, 6, .inl ce)), ((a 6), .inl (cI, 6, .inl (upd hi ((pOn ce (sc p1.toNatClampNeg)).toNatClampNeg) tk))), ((a 8), .inr (3, [.int (nI sn), .ref (a 9), .ref (a 10), .ref (a 11), .ref (a 12)])), ((a 9), .inl (cI, 100, .inl sa)), ((a 10), .inl (cI, 100, .inl sb)), ((a 11), .inl (cI, 100, .inl sc)), ((a 2), .inr (1, [.ref (a 3)])), ((a 3), .inl (cZ, 144, .inl bk))] := hD
          refine lv_iconst (v := 1) hx hb dX2_strikes_80 (by decide) ?_
          have hP9 := hP.sub (ws' := [((a 4), .inr (2, [.int hm, .int aw, .int tk, .ref (a 5), .ref (a 6), .ref (a 7), .ref (a 8), .ref (a 13)])), ((a 5), .inl (cI, 6, .inl ce)), ((a 6), .inl (cI, 6, .inl (upd hi ((pOn ce (sc p1.toNatClampNeg)).toNatClampNeg) tk))), ((a 8), .inr (3, [.int (nI sn), .ref (a 9), .ref (a 10), .ref (a 11), .ref (a 12)])), ((a 9), .inl (cI, 100, .inl sa)), ((a 10), .inl (cI, 100, .inl sb)), ((a 11), .inl (cI, 100, .inl sc)), ((a 2), .inr (1, [.ref (a 3)])), ((a 3), .inl (cZ, 144, .inl bk))]) [0, 1, 2, 3, 4, 5, 6, 7, 8] rfl
          have hD9 := hD.sub (ws' := [((a 4), .inr (2, [.int hm, .int aw, .int tk, .ref (a 5), .ref (a 6), .ref (a 7), .ref (a 8), .ref (a 13)])), ((a 5), .inl (cI, 6, .inl ce)), ((a 6), .inl (cI, 6, .inl (upd hi ((pOn ce (sc p1.toNatClampNeg)).toNatClampNeg) tk))), ((a 8), .inr (3, [.int (nI sn), .ref (a 9), .ref (a 10), .ref (a 11), .ref (a 12)])), ((a 9), .inl (cI, 100, .inl sa)), ((a 10), .inl (cI, 100, .inl sb)), ((a 11), .inl (cI, 100, .inl sc)), ((a 2), .inr (1, [.ref (a 3)])), ((a 3), .inl (cZ, 144, .inl bk))]) [0, 1, 2, 3, 4, 5, 6, 7, 8] (by decide) rfl
          -- leaf 2
          refine W.widen (k := 0) (n := 0) (Nat.le_refl _) (Nat.le_refl _) ?_
          exact W.zret (v := 1) (ty := .boolean) hx hb hr rfl (fun t ht hW => ⟨⟨1, (upd hi ((pOn ce (sc p1.toNatClampNeg)).toNatClampNeg) tk), rfl, ⟨(by rw [f_X2_strikes, if_neg c_2, if_neg c_3, if_neg c_5]), (by rw [g_hi_X2_strikes, if_neg c_2, if_neg c_3, if_neg c_5, if_pos c_6])⟩, by rw [ht]; exact hP9, va_K.moved hW.alike hK, hD9⟩, hS.F ht⟩) hS.2.2 dX2_strikes_81
      · refine lv_iconst (v := 0) hx hb dX2_strikes_56 (by decide) ?_
        have hP9 := hP.sub (ws' := [((a 4), .inr (2, [.int hm, .int aw, .int tk, .ref (a 5), .ref (a 6), .ref (a 7), .ref (a 8), .ref (a 13)])), ((a 5), .inl (cI, 6, .inl ce)), ((a 6), .inl (cI, 6, .inl hi)), ((a 8), .inr (3, [.int (nI sn), .ref (a 9), .ref (a 10), .ref (a 11), .ref (a 12)])), ((a 9), .inl (cI, 100, .inl sa)), ((a 10), .inl (cI, 100, .inl sb)), ((a 11), .inl (cI, 100, .inl sc)), ((a 2), .inr (1, [.ref (a 3)])), ((a 3), .inl (cZ, 144, .inl bk))]) [0, 1, 2, 3, 4, 5, 6, 7, 8] rfl
        have hD9 := hD.sub (ws' := [((a 4), .inr (2, [.int hm, .int aw, .int tk, .ref (a 5), .ref (a 6), .ref (a 7), .ref (a 8), .ref (a 13)])), ((a 5), .inl (cI, 6, .inl ce)), ((a 6), .inl (cI, 6, .inl hi)), ((a 8), .inr (3, [.int (nI sn), .ref (a 9), .ref (a 10), .ref (a 11), .ref (a 12)])), ((a 9), .inl (cI, 100, .inl sa)), ((a 10), .inl (cI, 100, .inl sb)), ((a 11), .inl (cI, 100, .inl sc)), ((a 2), .inr (1, [.ref (a 3)])), ((a 3), .inl (cZ, 144, .inl bk))]) [0, 1, 2, 3, 4, 5, 6, 7, 8] (by decide) rfl
        -- leaf 3
        refine W.widen (k := 0) (n := 0) (Nat.le_refl _) (Nat.le_refl _) ?_
        exact W.zret (v := 0) (ty := .boolean) hx hb hr rfl (fun t ht hW => ⟨⟨0, (hi), rfl, ⟨(by rw [f_X2_strikes, if_neg c_2, if_neg c_3, if_pos c_5]), (by rw [g_hi_X2_strikes, if_neg c_2, if_neg c_3, if_pos c_5])⟩, by rw [ht]; exact hP9, va_K.moved hW.alike hK, hD9⟩, hS.F ht⟩) hS.2.2 dX2_strikes_57
    · refine lv_iconst (v := 0) hx hb dX2_strikes_37 (by decide) ?_
      have hP9 := hP.sub (ws' := [((a 4), .inr (2, [.int hm, .int aw, .int tk, .ref (a 5), .ref (a 6), .ref (a 7), .ref (a 8), .ref (a 13)])), ((a 5), .inl (cI, 6, .inl ce)), ((a 6), .inl (cI, 6, .inl hi)), ((a 8), .inr (3, [.int (nI sn), .ref (a 9), .ref (a 10), .ref (a 11), .ref (a 12)])), ((a 9), .inl (cI, 100, .inl sa)), ((a 10), .inl (cI, 100, .inl sb)), ((a 11), .inl (cI, 100, .inl sc)), ((a 2), .inr (1, [.ref (a 3)])), ((a 3), .inl (cZ, 144, .inl bk))]) [0, 1, 2, 3, 4, 5, 6, 7, 8] rfl
      have hD9 := hD.sub (ws' := [((a 4), .inr (2, [.int hm, .int aw, .int tk, .ref (a 5), .ref (a 6), .ref (a 7), .ref (a 8), .ref (a 13)])), ((a 5), .inl (cI, 6, .inl ce)), ((a 6), .inl (cI, 6, .inl hi)), ((a 8), .inr (3, [.int (nI sn), .ref (a 9), .ref (a 10), .ref (a 11), .ref (a 12)])), ((a 9), .inl (cI, 100, .inl sa)), ((a 10), .inl (cI, 100, .inl sb)), ((a 11), .inl (cI, 100, .inl sc)), ((a 2), .inr (1, [.ref (a 3)])), ((a 3), .inl (cZ, 144, .inl bk))]) [0, 1, 2, 3, 4, 5, 6, 7, 8] (by decide) rfl
      -- leaf 4
      refine W.widen (k := 0) (n := 0) (Nat.le_refl _) (Nat.le_refl _) ?_
      exact W.zret (v := 0) (ty := .boolean) hx hb hr rfl (fun t ht hW => ⟨⟨0, (hi), rfl, ⟨(by rw [f_X2_strikes, if_neg c_2, if_pos c_3]), (by rw [g_hi_X2_strikes, if_neg c_2, if_pos c_3])⟩, by rw [ht]; exact hP9, va_K.moved hW.alike hK, hD9⟩, hS.F ht⟩) hS.2.2 dX2_strikes_38
