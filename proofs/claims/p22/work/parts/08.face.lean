theorem tb01 {bk : Nat → Int32} {p1 : Int32} : f_X1_turnBunker bk p1 = 0 ∨ f_X1_turnBunker bk p1 = 1 := by
  unfold f_X1_turnBunker
  split <;> simp [upd]
theorem mayFire_lt {hm aw tk : Int32} {la : Nat → Int32} {sn : Nat} {p1 : Int32} (h : sn ≤ 100) (h1 : ¬ f_X2_mayFire hm aw tk la sn p1 = 0) : sn < 100 := by
  refine Nat.lt_of_not_le fun q => h1 ?_
  have e : (100 : Int32) ≤ nI sn := nI_le (a := 100) q (by omega)
  unfold f_X2_mayFire
  rw [if_pos e]
  split <;> rfl
theorem mayCall_lt {hm aw tk : Int32} {kn : Nat} (h : kn ≤ 512) (h1 : ¬ f_X2_mayCall hm aw tk kn = 0) : kn < 512 := by
  refine Nat.lt_of_not_le fun q => h1 ?_
  have e : (512 : Int32) ≤ nI kn := nI_le (a := 512) q (by omega)
  unfold f_X2_mayCall
  rw [if_pos e]
theorem hasCall_in {hm aw tk : Int32} {kn : Nat} {p1 : Int32} (h : kn ≤ 512) (h1 : ¬ f_X2_hasCall hm aw tk kn p1 = 0) : vp_in p1 kn := by
  unfold f_X2_hasCall at h1
  split at h1
  · exact absurd rfl h1
  · split at h1
    · exact absurd rfl h1
    · rename_i h2 h3
      obtain ⟨j, hj, rfl⟩ := nI_of h2
      exact vp_in_nI (Nat.lt_of_not_le (fun q => h3 (nI_le q hj))) (by omega)
theorem in_wide {p : Int32} {a b : Nat} (h : vp_in p a) (hab : a ≤ b) : vp_in p b := fun q => h (q.elim Or.inl (fun q => Or.inr (Nat.le_trans hab q)))
theorem team_in {hm aw tk : Int32} {kn : Nat} {ka : Nat → Int32} {p1 : Int32} (h1 : vp_in hm 6) (h2 : vp_in aw 6) : vp_in (f_X2_teamCalled hm aw tk kn ka p1) 6 := by
  unfold f_X2_teamCalled
  split <;> assumption
theorem judge01 {hm aw tk : Int32} {ce hi : Nat → Int32} {kn : Nat} {ka kb kc kd : Nat → Int32} {p1 : Int32} : f_X2_judge hm aw tk ce hi kn ka kb kc kd p1 = 0 ∨ f_X2_judge hm aw tk ce hi kn ka kb kc kd p1 = 1 := by
  unfold f_X2_judge
  (repeat' split) <;> first | exact Or.inl rfl | exact Or.inr rfl
theorem in_50 {p : Int32} (h1 : ¬ p < 1) (h2 : p ≤ 50) : ∃ N : Nat, N ≤ 50 ∧ p = nI N := by
  have h0 : ¬ p < 0 := fun q => h1 (Int32.lt_trans q (by decide))
  obtain ⟨j, hj, rfl⟩ := nI_of h0
  exact ⟨j, (nI_leI hj (by decide)).mp h2, rfl⟩
noncomputable def k_X5_checkCell (p1 : Int32) : Int32 := if p1 < 0 then 1 else (if p1 < 144 then 0 else 1)
set_option maxHeartbeats 4000000 in
set_option maxRecDepth 100000 in
theorem c_X5_checkCell (l : Launch) (hlt : l.stackTraces = false) (D : va_G) (cI cZ cJ cA : ClassId) (sx : Nat → Nat) (sz : Nat) (p1 : Int32) : vx_Met l yX5_checkCell wsX5_checkCell ({ frames := 6, cells := 1, slots := 6, locals := 90 } : Room) (va_Pc [.int p1] (pcX (pcR D (tyL cI cZ cJ cA) [] sz) sx (fun q : Nat => sz ≤ q))) (va_Qv (fun (u : Unit) => (k_X5_checkCell p1) = 0) (fun _ _ => True) (fun q : Nat => sz ≤ q)) (vx_X (fun _ : Unit => True) (fun E _ _ => thr E (k_X5_checkCell p1)) (fun q : Nat => sz ≤ q)) 1 6 (fun q : Nat => sz ≤ q) := by
  refine vx_ofW (cc := cX5_checkCell) (maxL := 1) (ret := none) (by decide) rfl ?_
  intro p e s m args below meth c s₁ B hml hT0 hv
  obtain ⟨rfl, ⟨hsz, hP, hK⟩, hE⟩ := hv
  have hx := B.exec
  have hb := B.bytes
  have hr := B.returns
  have hts := atoms_spec (ws := wsX5_checkCell) B.pre
  have hown : s.vm.findClass RX5 = some m.cls := findClass_of_methodNamed B.named
  have hlocks := B.notSynchronized
  subst hsz
  have hA : ∀ q : Nat, s.heap.size ≤ q → (fun q : Nat => s.heap.size ≤ q) q := fun _ h => h
  have hS : va_S (fun q : Nat => s.heap.size ≤ q) s.heap s.heap [] := va_S.rf
  have hP : va_P D vwCl [] s.heap := hP
  have hl := lv_entry ([.int p1]) (n := 1) (Nat.le_of_ble_eq_true rfl)
  rw [lg_entry_eq]
  generalize (lg_sl ([.int p1]) ++ List.replicate (1 - (lg_sl ([.int p1])).length) Slot.unset).toArray = ls at hl ⊢
  have hl : lv_has ls 1 [(0, .int p1)] := hl
  have hcl_135 := hts (.classLink RX5 135 "java/lang/IndexOutOfBoundsException") (by decide +kernel)
  have hie_1 := hts (.initialized "java/lang/IndexOutOfBoundsException") (by decide +kernel)
  have hat_139 : ∀ w ∈ (vx_atS RX5 139 "java/lang/IndexOutOfBoundsException" ["java/lang/RuntimeException", "java/lang/Exception"]), w.before ([.int p1] : List Value).toArray s = true := vx_hat (L := (vx_atS RX5 139 "java/lang/IndexOutOfBoundsException" ["java/lang/RuntimeException", "java/lang/Exception"])) (B := [.castable "java/lang/IndexOutOfBoundsException" "java/lang/IndexOutOfBoundsException", .declares ⟨"java/lang/RuntimeException", "<init>", "(Ljava/lang/String;)V"⟩, .declares ⟨"java/lang/Exception", "<init>", "(Ljava/lang/String;)V"⟩, .declares ⟨"java/lang/Throwable", "<init>", "(Ljava/lang/String;)V"⟩]) (fun w hw => hts w ((by decide +kernel : ∀ w ∈ (vx_atS RX5 139 "java/lang/IndexOutOfBoundsException" ["java/lang/RuntimeException", "java/lang/Exception"]).filter goodWord, w ∈ wsX5_checkCell) w hw)) (by decide +kernel) (vx_c (va_Nw.use rfl hE.n1) (vx_c (va_Nw.use rfl hE.d1) (vx_c (va_Nw.use rfl hE.d2) (vx_c (va_Nw.use rfl hE.d3) vx_n))))
  refine lv_iload_n hx hb dX5_checkCell_0 rfl (lv_at hl 0 rfl) ?_
  refine lv_if_lt (tgt := 11) hx hb dX5_checkCell_1 (by decide) (fun c_1 => ?_) (fun c_1 => ?_)
  · exact vx_throwS (A := (fun q : Nat => s.heap.size ≤ q)) hx hb hlt hown (by decide +kernel) (by decide +kernel) hcl_135 hie_1 (hE.s192) hat_139 (by decide +kernel) hE.u hE.n hS (hl.1.trans hml.symm) dX5_checkCell_11 dX5_checkCell_14 dX5_checkCell_15 dX5_checkCell_17 dX5_checkCell_20 (fun x h => absurd h (hT0 x)) (Nat.le_of_ble_eq_true rfl) (Nat.le_of_ble_eq_true rfl) (Nat.le_of_ble_eq_true rfl) (Nat.le_of_ble_eq_true rfl) hlocks (fun t1 h1 h2 h3 => ⟨(), trivial, thr_1 (by rw [k_X5_checkCell, if_pos c_1]), va_F_of hS h2 h3⟩) (fun z hz => hS.2.2 z hz) (Nat.le_of_ble_eq_true rfl) (Nat.le_of_ble_eq_true rfl)
  · refine lv_iload_n hx hb dX5_checkCell_4 rfl (lv_at hl 0 rfl) ?_
    refine lv_sipush (v := 144) hx hb dX5_checkCell_5 (by decide) ?_
    refine lv_icmp_lt (tgt := 21) hx hb dX5_checkCell_8 (by decide) (fun c_2 => ?_) (fun c_2 => ?_)
    · -- leaf 1
      refine W.widen (k := 1) (n := 6) (Nat.le_of_ble_eq_true rfl) (Nat.le_of_ble_eq_true rfl) ?_
      exact vx_ret (W.vret hx hb hr (fun t ht hW => ⟨⟨(), rfl, (by rw [k_X5_checkCell, if_neg c_1, if_pos c_2]), trivial⟩, hS.F ht⟩) hS.2.2 dX5_checkCell_21)
    · exact vx_throwS (A := (fun q : Nat => s.heap.size ≤ q)) hx hb hlt hown (by decide +kernel) (by decide +kernel) hcl_135 hie_1 (hE.s192) hat_139 (by decide +kernel) hE.u hE.n hS (hl.1.trans hml.symm) dX5_checkCell_11 dX5_checkCell_14 dX5_checkCell_15 dX5_checkCell_17 dX5_checkCell_20 (fun x h => absurd h (hT0 x)) (Nat.le_of_ble_eq_true rfl) (Nat.le_of_ble_eq_true rfl) (Nat.le_of_ble_eq_true rfl) (Nat.le_of_ble_eq_true rfl) hlocks (fun t1 h1 h2 h3 => ⟨(), trivial, thr_1 (by rw [k_X5_checkCell, if_neg c_1, if_neg c_2]), va_F_of hS h2 h3⟩) (fun z hz => hS.2.2 z hz) (Nat.le_of_ble_eq_true rfl) (Nat.le_of_ble_eq_true rfl)
theorem kin_checkCell {p : Int32} (h : k_X5_checkCell p = 0) : vp_in p 144 := by
  unfold k_X5_checkCell at h
  split at h
  · exact absurd h (by decide)
  · split at h
    · rename_i h1 h2
      exact in_bd h1 h2 (by decide)
    · exact absurd h (by decide)

noncomputable def k_X5_checkTeam (p1 : Int32) : Int32 := if p1 < 0 then 1 else (if p1 < 6 then 0 else 1)
set_option maxHeartbeats 4000000 in
set_option maxRecDepth 100000 in
theorem c_X5_checkTeam (l : Launch) (hlt : l.stackTraces = false) (D : va_G) (cI cZ cJ cA : ClassId) (sx : Nat → Nat) (sz : Nat) (p1 : Int32) : vx_Met l yX5_checkTeam wsX5_checkTeam ({ frames := 6, cells := 1, slots := 6, locals := 90 } : Room) (va_Pc [.int p1] (pcX (pcR D (tyL cI cZ cJ cA) [] sz) sx (fun q : Nat => sz ≤ q))) (va_Qv (fun (u : Unit) => (k_X5_checkTeam p1) = 0) (fun _ _ => True) (fun q : Nat => sz ≤ q)) (vx_X (fun _ : Unit => True) (fun E _ _ => thr E (k_X5_checkTeam p1)) (fun q : Nat => sz ≤ q)) 1 6 (fun q : Nat => sz ≤ q) := by
  refine vx_ofW (cc := cX5_checkTeam) (maxL := 1) (ret := none) (by decide) rfl ?_
  intro p e s m args below meth c s₁ B hml hT0 hv
  obtain ⟨rfl, ⟨hsz, hP, hK⟩, hE⟩ := hv
  have hx := B.exec
  have hb := B.bytes
  have hr := B.returns
  have hts := atoms_spec (ws := wsX5_checkTeam) B.pre
  have hown : s.vm.findClass RX5 = some m.cls := findClass_of_methodNamed B.named
  have hlocks := B.notSynchronized
  subst hsz
  have hA : ∀ q : Nat, s.heap.size ≤ q → (fun q : Nat => s.heap.size ≤ q) q := fun _ h => h
  have hS : va_S (fun q : Nat => s.heap.size ≤ q) s.heap s.heap [] := va_S.rf
  have hP : va_P D vwCl [] s.heap := hP
  have hl := lv_entry ([.int p1]) (n := 1) (Nat.le_of_ble_eq_true rfl)
  rw [lg_entry_eq]
  generalize (lg_sl ([.int p1]) ++ List.replicate (1 - (lg_sl ([.int p1])).length) Slot.unset).toArray = ls at hl ⊢
  have hl : lv_has ls 1 [(0, .int p1)] := hl
  have hcl_135 := hts (.classLink RX5 135 "java/lang/IndexOutOfBoundsException") (by decide +kernel)
  have hie_1 := hts (.initialized "java/lang/IndexOutOfBoundsException") (by decide +kernel)
  have hat_139 : ∀ w ∈ (vx_atS RX5 139 "java/lang/IndexOutOfBoundsException" ["java/lang/RuntimeException", "java/lang/Exception"]), w.before ([.int p1] : List Value).toArray s = true := vx_hat (L := (vx_atS RX5 139 "java/lang/IndexOutOfBoundsException" ["java/lang/RuntimeException", "java/lang/Exception"])) (B := [.castable "java/lang/IndexOutOfBoundsException" "java/lang/IndexOutOfBoundsException", .declares ⟨"java/lang/RuntimeException", "<init>", "(Ljava/lang/String;)V"⟩, .declares ⟨"java/lang/Exception", "<init>", "(Ljava/lang/String;)V"⟩, .declares ⟨"java/lang/Throwable", "<init>", "(Ljava/lang/String;)V"⟩]) (fun w hw => hts w ((by decide +kernel : ∀ w ∈ (vx_atS RX5 139 "java/lang/IndexOutOfBoundsException" ["java/lang/RuntimeException", "java/lang/Exception"]).filter goodWord, w ∈ wsX5_checkTeam) w hw)) (by decide +kernel) (vx_c (va_Nw.use rfl hE.n1) (vx_c (va_Nw.use rfl hE.d1) (vx_c (va_Nw.use rfl hE.d2) (vx_c (va_Nw.use rfl hE.d3) vx_n))))
  refine lv_iload_n hx hb dX5_checkTeam_0 rfl (lv_at hl 0 rfl) ?_
  refine lv_if_lt (tgt := 10) hx hb dX5_checkTeam_1 (by decide) (fun c_1 => ?_) (fun c_1 => ?_)
  · exact vx_throwS (A := (fun q : Nat => s.heap.size ≤ q)) hx hb hlt hown (by decide +kernel) (by decide +kernel) hcl_135 hie_1 (hE.s194) hat_139 (by decide +kernel) hE.u hE.n hS (hl.1.trans hml.symm) dX5_checkTeam_10 dX5_checkTeam_13 dX5_checkTeam_14 dX5_checkTeam_16 dX5_checkTeam_19 (fun x h => absurd h (hT0 x)) (Nat.le_of_ble_eq_true rfl) (Nat.le_of_ble_eq_true rfl) (Nat.le_of_ble_eq_true rfl) (Nat.le_of_ble_eq_true rfl) hlocks (fun t1 h1 h2 h3 => ⟨(), trivial, thr_1 (by rw [k_X5_checkTeam, if_pos c_1]), va_F_of hS h2 h3⟩) (fun z hz => hS.2.2 z hz) (Nat.le_of_ble_eq_true rfl) (Nat.le_of_ble_eq_true rfl)
  · refine lv_iload_n hx hb dX5_checkTeam_4 rfl (lv_at hl 0 rfl) ?_
    refine lv_bipush (v := 6) hx hb dX5_checkTeam_5 (by decide) ?_
    refine lv_icmp_lt (tgt := 20) hx hb dX5_checkTeam_7 (by decide) (fun c_2 => ?_) (fun c_2 => ?_)
    · -- leaf 1
      refine W.widen (k := 1) (n := 6) (Nat.le_of_ble_eq_true rfl) (Nat.le_of_ble_eq_true rfl) ?_
      exact vx_ret (W.vret hx hb hr (fun t ht hW => ⟨⟨(), rfl, (by rw [k_X5_checkTeam, if_neg c_1, if_pos c_2]), trivial⟩, hS.F ht⟩) hS.2.2 dX5_checkTeam_20)
    · exact vx_throwS (A := (fun q : Nat => s.heap.size ≤ q)) hx hb hlt hown (by decide +kernel) (by decide +kernel) hcl_135 hie_1 (hE.s194) hat_139 (by decide +kernel) hE.u hE.n hS (hl.1.trans hml.symm) dX5_checkTeam_10 dX5_checkTeam_13 dX5_checkTeam_14 dX5_checkTeam_16 dX5_checkTeam_19 (fun x h => absurd h (hT0 x)) (Nat.le_of_ble_eq_true rfl) (Nat.le_of_ble_eq_true rfl) (Nat.le_of_ble_eq_true rfl) (Nat.le_of_ble_eq_true rfl) hlocks (fun t1 h1 h2 h3 => ⟨(), trivial, thr_1 (by rw [k_X5_checkTeam, if_neg c_1, if_neg c_2]), va_F_of hS h2 h3⟩) (fun z hz => hS.2.2 z hz) (Nat.le_of_ble_eq_true rfl) (Nat.le_of_ble_eq_true rfl)
theorem kin_checkTeam {p : Int32} (h : k_X5_checkTeam p = 0) : vp_in p 6 := by
  unfold k_X5_checkTeam at h
  split at h
  · exact absurd h (by decide)
  · split at h
    · rename_i h1 h2
      exact in_bd h1 h2 (by decide)
    · exact absurd h (by decide)

noncomputable def k_X5_checkPlayer (p1 : Int32) : Int32 := if p1 < 0 then 1 else (if p1 < 6 then 0 else 1)
set_option maxHeartbeats 4000000 in
set_option maxRecDepth 100000 in
theorem c_X5_checkPlayer (l : Launch) (hlt : l.stackTraces = false) (D : va_G) (cI cZ cJ cA : ClassId) (sx : Nat → Nat) (sz : Nat) (p1 : Int32) : vx_Met l yX5_checkPlayer wsX5_checkPlayer ({ frames := 6, cells := 1, slots := 6, locals := 90 } : Room) (va_Pc [.int p1] (pcX (pcR D (tyL cI cZ cJ cA) [] sz) sx (fun q : Nat => sz ≤ q))) (va_Qv (fun (u : Unit) => (k_X5_checkPlayer p1) = 0) (fun _ _ => True) (fun q : Nat => sz ≤ q)) (vx_X (fun _ : Unit => True) (fun E _ _ => thr E (k_X5_checkPlayer p1)) (fun q : Nat => sz ≤ q)) 1 6 (fun q : Nat => sz ≤ q) := by
  refine vx_ofW (cc := cX5_checkPlayer) (maxL := 1) (ret := none) (by decide) rfl ?_
  intro p e s m args below meth c s₁ B hml hT0 hv
  obtain ⟨rfl, ⟨hsz, hP, hK⟩, hE⟩ := hv
  have hx := B.exec
  have hb := B.bytes
  have hr := B.returns
  have hts := atoms_spec (ws := wsX5_checkPlayer) B.pre
  have hown : s.vm.findClass RX5 = some m.cls := findClass_of_methodNamed B.named
  have hlocks := B.notSynchronized
  subst hsz
  have hA : ∀ q : Nat, s.heap.size ≤ q → (fun q : Nat => s.heap.size ≤ q) q := fun _ h => h
  have hS : va_S (fun q : Nat => s.heap.size ≤ q) s.heap s.heap [] := va_S.rf
  have hP : va_P D vwCl [] s.heap := hP
  have hl := lv_entry ([.int p1]) (n := 1) (Nat.le_of_ble_eq_true rfl)
  rw [lg_entry_eq]
  generalize (lg_sl ([.int p1]) ++ List.replicate (1 - (lg_sl ([.int p1])).length) Slot.unset).toArray = ls at hl ⊢
  have hl : lv_has ls 1 [(0, .int p1)] := hl
  have hcl_135 := hts (.classLink RX5 135 "java/lang/IndexOutOfBoundsException") (by decide +kernel)
  have hie_1 := hts (.initialized "java/lang/IndexOutOfBoundsException") (by decide +kernel)
  have hat_139 : ∀ w ∈ (vx_atS RX5 139 "java/lang/IndexOutOfBoundsException" ["java/lang/RuntimeException", "java/lang/Exception"]), w.before ([.int p1] : List Value).toArray s = true := vx_hat (L := (vx_atS RX5 139 "java/lang/IndexOutOfBoundsException" ["java/lang/RuntimeException", "java/lang/Exception"])) (B := [.castable "java/lang/IndexOutOfBoundsException" "java/lang/IndexOutOfBoundsException", .declares ⟨"java/lang/RuntimeException", "<init>", "(Ljava/lang/String;)V"⟩, .declares ⟨"java/lang/Exception", "<init>", "(Ljava/lang/String;)V"⟩, .declares ⟨"java/lang/Throwable", "<init>", "(Ljava/lang/String;)V"⟩]) (fun w hw => hts w ((by decide +kernel : ∀ w ∈ (vx_atS RX5 139 "java/lang/IndexOutOfBoundsException" ["java/lang/RuntimeException", "java/lang/Exception"]).filter goodWord, w ∈ wsX5_checkPlayer) w hw)) (by decide +kernel) (vx_c (va_Nw.use rfl hE.n1) (vx_c (va_Nw.use rfl hE.d1) (vx_c (va_Nw.use rfl hE.d2) (vx_c (va_Nw.use rfl hE.d3) vx_n))))
  refine lv_iload_n hx hb dX5_checkPlayer_0 rfl (lv_at hl 0 rfl) ?_
  refine lv_if_lt (tgt := 10) hx hb dX5_checkPlayer_1 (by decide) (fun c_1 => ?_) (fun c_1 => ?_)
  · exact vx_throwS (A := (fun q : Nat => s.heap.size ≤ q)) hx hb hlt hown (by decide +kernel) (by decide +kernel) hcl_135 hie_1 (hE.s196) hat_139 (by decide +kernel) hE.u hE.n hS (hl.1.trans hml.symm) dX5_checkPlayer_10 dX5_checkPlayer_13 dX5_checkPlayer_14 dX5_checkPlayer_16 dX5_checkPlayer_19 (fun x h => absurd h (hT0 x)) (Nat.le_of_ble_eq_true rfl) (Nat.le_of_ble_eq_true rfl) (Nat.le_of_ble_eq_true rfl) (Nat.le_of_ble_eq_true rfl) hlocks (fun t1 h1 h2 h3 => ⟨(), trivial, thr_1 (by rw [k_X5_checkPlayer, if_pos c_1]), va_F_of hS h2 h3⟩) (fun z hz => hS.2.2 z hz) (Nat.le_of_ble_eq_true rfl) (Nat.le_of_ble_eq_true rfl)
  · refine lv_iload_n hx hb dX5_checkPlayer_4 rfl (lv_at hl 0 rfl) ?_
    refine lv_bipush (v := 6) hx hb dX5_checkPlayer_5 (by decide) ?_
    refine lv_icmp_lt (tgt := 20) hx hb dX5_checkPlayer_7 (by decide) (fun c_2 => ?_) (fun c_2 => ?_)
    · -- leaf 1
      refine W.widen (k := 1) (n := 6) (Nat.le_of_ble_eq_true rfl) (Nat.le_of_ble_eq_true rfl) ?_
      exact vx_ret (W.vret hx hb hr (fun t ht hW => ⟨⟨(), rfl, (by rw [k_X5_checkPlayer, if_neg c_1, if_pos c_2]), trivial⟩, hS.F ht⟩) hS.2.2 dX5_checkPlayer_20)
    · exact vx_throwS (A := (fun q : Nat => s.heap.size ≤ q)) hx hb hlt hown (by decide +kernel) (by decide +kernel) hcl_135 hie_1 (hE.s196) hat_139 (by decide +kernel) hE.u hE.n hS (hl.1.trans hml.symm) dX5_checkPlayer_10 dX5_checkPlayer_13 dX5_checkPlayer_14 dX5_checkPlayer_16 dX5_checkPlayer_19 (fun x h => absurd h (hT0 x)) (Nat.le_of_ble_eq_true rfl) (Nat.le_of_ble_eq_true rfl) (Nat.le_of_ble_eq_true rfl) (Nat.le_of_ble_eq_true rfl) hlocks (fun t1 h1 h2 h3 => ⟨(), trivial, thr_1 (by rw [k_X5_checkPlayer, if_neg c_1, if_neg c_2]), va_F_of hS h2 h3⟩) (fun z hz => hS.2.2 z hz) (Nat.le_of_ble_eq_true rfl) (Nat.le_of_ble_eq_true rfl)
theorem kin_checkPlayer {p : Int32} (h : k_X5_checkPlayer p = 0) : vp_in p 6 := by
  unfold k_X5_checkPlayer at h
  split at h
  · exact absurd h (by decide)
  · split at h
    · rename_i h1 h2
      exact in_bd h1 h2 (by decide)
    · exact absurd h (by decide)

noncomputable def k_X5_checkReferee (p1 : Int32) : Int32 := if p1 < 0 then 1 else (if p1 < 2 then 0 else 1)
set_option maxHeartbeats 4000000 in
set_option maxRecDepth 100000 in
theorem c_X5_checkReferee (l : Launch) (hlt : l.stackTraces = false) (D : va_G) (cI cZ cJ cA : ClassId) (sx : Nat → Nat) (sz : Nat) (p1 : Int32) : vx_Met l yX5_checkReferee wsX5_checkReferee ({ frames := 6, cells := 1, slots := 6, locals := 90 } : Room) (va_Pc [.int p1] (pcX (pcR D (tyL cI cZ cJ cA) [] sz) sx (fun q : Nat => sz ≤ q))) (va_Qv (fun (u : Unit) => (k_X5_checkReferee p1) = 0) (fun _ _ => True) (fun q : Nat => sz ≤ q)) (vx_X (fun _ : Unit => True) (fun E _ _ => thr E (k_X5_checkReferee p1)) (fun q : Nat => sz ≤ q)) 1 6 (fun q : Nat => sz ≤ q) := by
  refine vx_ofW (cc := cX5_checkReferee) (maxL := 1) (ret := none) (by decide) rfl ?_
  intro p e s m args below meth c s₁ B hml hT0 hv
  obtain ⟨rfl, ⟨hsz, hP, hK⟩, hE⟩ := hv
  have hx := B.exec
  have hb := B.bytes
  have hr := B.returns
  have hts := atoms_spec (ws := wsX5_checkReferee) B.pre
  have hown : s.vm.findClass RX5 = some m.cls := findClass_of_methodNamed B.named
  have hlocks := B.notSynchronized
  subst hsz
  have hA : ∀ q : Nat, s.heap.size ≤ q → (fun q : Nat => s.heap.size ≤ q) q := fun _ h => h
  have hS : va_S (fun q : Nat => s.heap.size ≤ q) s.heap s.heap [] := va_S.rf
  have hP : va_P D vwCl [] s.heap := hP
  have hl := lv_entry ([.int p1]) (n := 1) (Nat.le_of_ble_eq_true rfl)
  rw [lg_entry_eq]
  generalize (lg_sl ([.int p1]) ++ List.replicate (1 - (lg_sl ([.int p1])).length) Slot.unset).toArray = ls at hl ⊢
  have hl : lv_has ls 1 [(0, .int p1)] := hl
  have hcl_135 := hts (.classLink RX5 135 "java/lang/IndexOutOfBoundsException") (by decide +kernel)
  have hie_1 := hts (.initialized "java/lang/IndexOutOfBoundsException") (by decide +kernel)
  have hat_139 : ∀ w ∈ (vx_atS RX5 139 "java/lang/IndexOutOfBoundsException" ["java/lang/RuntimeException", "java/lang/Exception"]), w.before ([.int p1] : List Value).toArray s = true := vx_hat (L := (vx_atS RX5 139 "java/lang/IndexOutOfBoundsException" ["java/lang/RuntimeException", "java/lang/Exception"])) (B := [.castable "java/lang/IndexOutOfBoundsException" "java/lang/IndexOutOfBoundsException", .declares ⟨"java/lang/RuntimeException", "<init>", "(Ljava/lang/String;)V"⟩, .declares ⟨"java/lang/Exception", "<init>", "(Ljava/lang/String;)V"⟩, .declares ⟨"java/lang/Throwable", "<init>", "(Ljava/lang/String;)V"⟩]) (fun w hw => hts w ((by decide +kernel : ∀ w ∈ (vx_atS RX5 139 "java/lang/IndexOutOfBoundsException" ["java/lang/RuntimeException", "java/lang/Exception"]).filter goodWord, w ∈ wsX5_checkReferee) w hw)) (by decide +kernel) (vx_c (va_Nw.use rfl hE.n1) (vx_c (va_Nw.use rfl hE.d1) (vx_c (va_Nw.use rfl hE.d2) (vx_c (va_Nw.use rfl hE.d3) vx_n))))
  refine lv_iload_n hx hb dX5_checkReferee_0 rfl (lv_at hl 0 rfl) ?_
  refine lv_if_lt (tgt := 9) hx hb dX5_checkReferee_1 (by decide) (fun c_1 => ?_) (fun c_1 => ?_)
  · exact vx_throwS (A := (fun q : Nat => s.heap.size ≤ q)) hx hb hlt hown (by decide +kernel) (by decide +kernel) hcl_135 hie_1 (hE.s198) hat_139 (by decide +kernel) hE.u hE.n hS (hl.1.trans hml.symm) dX5_checkReferee_9 dX5_checkReferee_12 dX5_checkReferee_13 dX5_checkReferee_15 dX5_checkReferee_18 (fun x h => absurd h (hT0 x)) (Nat.le_of_ble_eq_true rfl) (Nat.le_of_ble_eq_true rfl) (Nat.le_of_ble_eq_true rfl) (Nat.le_of_ble_eq_true rfl) hlocks (fun t1 h1 h2 h3 => ⟨(), trivial, thr_1 (by rw [k_X5_checkReferee, if_pos c_1]), va_F_of hS h2 h3⟩) (fun z hz => hS.2.2 z hz) (Nat.le_of_ble_eq_true rfl) (Nat.le_of_ble_eq_true rfl)
  · refine lv_iload_n hx hb dX5_checkReferee_4 rfl (lv_at hl 0 rfl) ?_
    refine lv_iconst (v := 2) hx hb dX5_checkReferee_5 (by decide) ?_
    refine lv_icmp_lt (tgt := 19) hx hb dX5_checkReferee_6 (by decide) (fun c_2 => ?_) (fun c_2 => ?_)
    · -- leaf 1
      refine W.widen (k := 1) (n := 6) (Nat.le_of_ble_eq_true rfl) (Nat.le_of_ble_eq_true rfl) ?_
      exact vx_ret (W.vret hx hb hr (fun t ht hW => ⟨⟨(), rfl, (by rw [k_X5_checkReferee, if_neg c_1, if_pos c_2]), trivial⟩, hS.F ht⟩) hS.2.2 dX5_checkReferee_19)
    · exact vx_throwS (A := (fun q : Nat => s.heap.size ≤ q)) hx hb hlt hown (by decide +kernel) (by decide +kernel) hcl_135 hie_1 (hE.s198) hat_139 (by decide +kernel) hE.u hE.n hS (hl.1.trans hml.symm) dX5_checkReferee_9 dX5_checkReferee_12 dX5_checkReferee_13 dX5_checkReferee_15 dX5_checkReferee_18 (fun x h => absurd h (hT0 x)) (Nat.le_of_ble_eq_true rfl) (Nat.le_of_ble_eq_true rfl) (Nat.le_of_ble_eq_true rfl) (Nat.le_of_ble_eq_true rfl) hlocks (fun t1 h1 h2 h3 => ⟨(), trivial, thr_1 (by rw [k_X5_checkReferee, if_neg c_1, if_neg c_2]), va_F_of hS h2 h3⟩) (fun z hz => hS.2.2 z hz) (Nat.le_of_ble_eq_true rfl) (Nat.le_of_ble_eq_true rfl)
theorem kin_checkReferee {p : Int32} (h : k_X5_checkReferee p = 0) : vp_in p 2 := by
  unfold k_X5_checkReferee at h
  split at h
  · exact absurd h (by decide)
  · split at h
    · rename_i h1 h2
      exact in_bd h1 h2 (by decide)
    · exact absurd h (by decide)

noncomputable def k_X5_checkRound (hm : Int32) (aw : Int32) (tk : Int32) : Int32 := if (f_X2_isPlayed hm aw tk) = 0 then 3 else 0
set_option maxHeartbeats 4000000 in
set_option maxRecDepth 100000 in
theorem c_X5_checkRound (l : Launch) (hlt : l.stackTraces = false) (D : va_G) (cI cZ cJ cA : ClassId) (sx : Nat → Nat) (sz : Nat) (a : Nat → Nat) (hm : Int32) (aw : Int32) (tk : Int32) : vx_Met l yX5_checkRound wsX5_checkRound ({ frames := 6, cells := 1, slots := 6, locals := 90 } : Room) (va_Pc [.ref (a 0)] (pcX (pcR D (tyL cI cZ cJ cA) [((a 0), .inr (5, [.ref (a 2), .ref (a 4), .ref (a 18), .ref (a 1)])), ((a 4), .inr (2, [.int hm, .int aw, .int tk, .ref (a 5), .ref (a 6), .ref (a 7), .ref (a 8), .ref (a 13)]))] sz) sx (fun q : Nat => sz ≤ q))) (va_Qv (fun (u : Unit) => (k_X5_checkRound hm aw tk) = 0) (fun _ _ => True) (fun q : Nat => sz ≤ q)) (vx_X (fun _ : Unit => True) (fun E _ _ => thr E (k_X5_checkRound hm aw tk)) (fun q : Nat => sz ≤ q)) 1 6 (fun q : Nat => sz ≤ q) := by
  refine vx_ofW (cc := cX5_checkRound) (maxL := 1) (ret := none) (by decide) rfl ?_
  intro p e s m args below meth c s₁ B hml hT0 hv
  obtain ⟨rfl, ⟨hsz, hP, hK⟩, hE⟩ := hv
  have hx := B.exec
  have hb := B.bytes
  have hr := B.returns
  have hts := atoms_spec (ws := wsX5_checkRound) B.pre
  have hown : s.vm.findClass RX5 = some m.cls := findClass_of_methodNamed B.named
  have hlocks := B.notSynchronized
  subst hsz
  have hA : ∀ q : Nat, s.heap.size ≤ q → (fun q : Nat => s.heap.size ≤ q) q := fun _ h => h
  have hS : va_S (fun q : Nat => s.heap.size ≤ q) s.heap s.heap [] := va_S.rf
  have hP : va_P D vwCl [((a 0), .inr (5, [.ref (a 2), .ref (a 4), .ref (a 18), .ref (a 1)])), ((a 4), .inr (2, [.int hm, .int aw, .int tk, .ref (a 5), .ref (a 6), .ref (a 7), .ref (a 8), .ref (a 13)]))] s.heap := hP
  have hl := lv_entry ([.ref (a 0)]) (n := 1) (Nat.le_of_ble_eq_true rfl)
  rw [lg_entry_eq]
  generalize (lg_sl ([.ref (a 0)]) ++ List.replicate (1 - (lg_sl ([.ref (a 0)])).length) Slot.unset).toArray = ls at hl ⊢
  have hl : lv_has ls 1 [(0, .ref (a 0))] := hl
  have hf_19 := hts (.fieldLink RX5 19 "PaintballAtlas" "round" "LPaintballAtlas$Round;") (by decide +kernel)
  have hi_X5 : ∀ w ∈ wsX50, w ∈ wsX5_checkRound := by decide +kernel
  have hcl_42 := hts (.classLink RX5 42 "java/lang/IllegalStateException") (by decide +kernel)
  have hie_3 := hts (.initialized "java/lang/IllegalStateException") (by decide +kernel)
  have hat_46 : ∀ w ∈ (vx_atS RX5 46 "java/lang/IllegalStateException" ["java/lang/RuntimeException", "java/lang/Exception"]), w.before ([.ref (a 0)] : List Value).toArray s = true := vx_hat (L := (vx_atS RX5 46 "java/lang/IllegalStateException" ["java/lang/RuntimeException", "java/lang/Exception"])) (B := [.castable "java/lang/IllegalStateException" "java/lang/IllegalStateException", .declares ⟨"java/lang/RuntimeException", "<init>", "(Ljava/lang/String;)V"⟩, .declares ⟨"java/lang/Exception", "<init>", "(Ljava/lang/String;)V"⟩, .declares ⟨"java/lang/Throwable", "<init>", "(Ljava/lang/String;)V"⟩]) (fun w hw => hts w ((by decide +kernel : ∀ w ∈ (vx_atS RX5 46 "java/lang/IllegalStateException" ["java/lang/RuntimeException", "java/lang/Exception"]).filter goodWord, w ∈ wsX5_checkRound) w hw)) (by decide +kernel) (vx_c (va_Nw.use rfl hE.n3) (vx_c (va_Nw.use rfl hE.d1) (vx_c (va_Nw.use rfl hE.d2) (vx_c (va_Nw.use rfl hE.d3) vx_n))))
  refine lv_aload_n hx hb dX5_checkRound_0 rfl (lv_at hl 0 rfl) ?_
  refine va_get (D := D) (ci := 5) (v := .ref (a 4)) (C := RX5) (T := TX5) (N := 4) hx hb hts hi_X5 hown hK hP 0 rfl rfl 1 (by decide) hf_19 (fun _ h9 => h9) rfl dX5_checkRound_1 ?_
  have hPc := hP.sub (ws' := [((a 4), .inr (2, [.int hm, .int aw, .int tk, .ref (a 5), .ref (a 6), .ref (a 7), .ref (a 8), .ref (a 13)]))]) [1] rfl
  refine va_calli (va_runV (As := []) (rest := []) ⟨hx, hb, hml, hown, hts⟩ (c_X2_isPlayed l D cI cZ cJ cA s.heap.size a hm aw tk) (cwV 0 hts gX5_checkRound_X2_isPlayed rfl rfl rfl (by decide +kernel) ⟨Nat.le_of_ble_eq_true rfl, Nat.le_of_ble_eq_true rfl⟩) ⟨pcR_bl, va_recv hK hPc (ci := 2) (q0 := 0) rfl rfl, fun U hU hW => ⟨rfl, by rw [hU], by rw [hU]; exact hPc, va_K.moved hW.alike hK⟩⟩ rfl rfl hl.1 rfl (lv_room (Nat.le_of_ble_eq_true rfl)) dX5_checkRound_4 ⟨Nat.le_of_ble_eq_true rfl, Nat.le_of_ble_eq_true rfl⟩) hS (fun _ h1 h2 => absurd h1 (Nat.not_lt.mpr h2)) (rd_free hS hA) (fun r_1 u t H locs ht hvm hw hB hz1 hk1 hS => ?_)
  try dsimp only at hw
  have hr_1 := hw
  have hP := rd_P hP hk1
  obtain rfl := hr_1.symm
  refine W.widen (k := 0) (n := 0) (Nat.le_refl _) (Nat.le_refl _) ?_
  refine lv_if_ne (tgt := 20) hx hb dX5_checkRound_7 (by decide) (fun c_2 => ?_) (fun c_2 => ?_)
  · -- leaf 0
    refine W.widen (k := 1) (n := 6) (Nat.le_of_ble_eq_true rfl) (Nat.le_of_ble_eq_true rfl) ?_
    exact vx_ret (W.vret hx hb hr (fun t ht hW => ⟨⟨(), rfl, (by rw [k_X5_checkRound, if_neg c_2]), trivial⟩, hS.F ht⟩) hS.2.2 dX5_checkRound_20)
  · exact vx_throwS (A := (fun q : Nat => s.heap.size ≤ q)) hx hb hlt hown (by decide +kernel) (by decide +kernel) hcl_42 hie_3 (hE.s200) hat_46 (by decide +kernel) hE.u hE.n hS (hl.1.trans hml.symm) dX5_checkRound_10 dX5_checkRound_13 dX5_checkRound_14 dX5_checkRound_16 dX5_checkRound_19 (fun x h => absurd h (hT0 x)) (Nat.le_of_ble_eq_true rfl) (Nat.le_of_ble_eq_true rfl) (Nat.le_of_ble_eq_true rfl) (Nat.le_of_ble_eq_true rfl) hlocks (fun t1 h1 h2 h3 => ⟨(), trivial, thr_3 (by rw [k_X5_checkRound, if_pos c_2]), va_F_of hS h2 h3⟩) (fun z hz => hS.2.2 z hz) (Nat.le_of_ble_eq_true rfl) (Nat.le_of_ble_eq_true rfl)

noncomputable def k_X5_toggleBunker (bk : Nat → Int32) (hm : Int32) (aw : Int32) (tk : Int32) (p1 : Int32) : Int32 := if (k_X5_checkCell p1) = 0 then (if (f_X2_isPlayed hm aw tk) = 0 then 0 else 3) else k_X5_checkCell p1
set_option maxHeartbeats 4000000 in
set_option maxRecDepth 100000 in
theorem c_X5_toggleBunker (l : Launch) (hlt : l.stackTraces = false) (D : va_G) (cI cZ cJ cA : ClassId) (sx : Nat → Nat) (sz : Nat) (a : Nat → Nat) (bk : Nat → Int32) (hm : Int32) (aw : Int32) (tk : Int32) (p1 : Int32) : vx_Met l yX5_toggleBunker wsX5_toggleBunker ({ frames := 7, cells := 2, slots := 12, locals := 110 } : Room) (va_Pc [.ref (a 0), .int p1] (pcX (pcW D (tyL cI cZ cJ cA) [((a 0), .inr (5, [.ref (a 2), .ref (a 4), .ref (a 18), .ref (a 1)])), ((a 2), .inr (1, [.ref (a 3)])), ((a 3), .inl (cZ, 144, .inl bk)), ((a 4), .inr (2, [.int hm, .int aw, .int tk, .ref (a 5), .ref (a 6), .ref (a 7), .ref (a 8), .ref (a 13)]))] sz) sx (va_A [((a 0), .inr (5, [.ref (a 2), .ref (a 4), .ref (a 18), .ref (a 1)])), ((a 2), .inr (1, [.ref (a 3)])), ((a 3), .inl (cZ, 144, .inl bk)), ((a 4), .inr (2, [.int hm, .int aw, .int tk, .ref (a 5), .ref (a 6), .ref (a 7), .ref (a 8), .ref (a 13)]))] sz))) (va_Qi (fun (r : Int32) (u : (Nat → Int32)) => (k_X5_toggleBunker bk hm aw tk p1) = 0 ∧ r = f_X1_turnBunker bk p1 ∧ u = (g_bk_X1_turnBunker bk p1)) (fun u t => bcW D (tyL cI cZ cJ cA) (va_A [((a 0), .inr (5, [.ref (a 2), .ref (a 4), .ref (a 18), .ref (a 1)])), ((a 2), .inr (1, [.ref (a 3)])), ((a 3), .inl (cZ, 144, .inl bk)), ((a 4), .inr (2, [.int hm, .int aw, .int tk, .ref (a 5), .ref (a 6), .ref (a 7), .ref (a 8), .ref (a 13)]))] sz) [((a 0), .inr (5, [.ref (a 2), .ref (a 4), .ref (a 18), .ref (a 1)])), ((a 2), .inr (1, [.ref (a 3)])), ((a 3), .inl (cZ, 144, .inl u)), ((a 4), .inr (2, [.int hm, .int aw, .int tk, .ref (a 5), .ref (a 6), .ref (a 7), .ref (a 8), .ref (a 13)]))] t) (va_A [((a 0), .inr (5, [.ref (a 2), .ref (a 4), .ref (a 18), .ref (a 1)])), ((a 2), .inr (1, [.ref (a 3)])), ((a 3), .inl (cZ, 144, .inl bk)), ((a 4), .inr (2, [.int hm, .int aw, .int tk, .ref (a 5), .ref (a 6), .ref (a 7), .ref (a 8), .ref (a 13)]))] sz)) (vx_X (fun _ : Unit => True) (fun E _ _ => thr E (k_X5_toggleBunker bk hm aw tk p1)) (fun q : Nat => sz ≤ q)) 2 12 (va_A [((a 0), .inr (5, [.ref (a 2), .ref (a 4), .ref (a 18), .ref (a 1)])), ((a 2), .inr (1, [.ref (a 3)])), ((a 3), .inl (cZ, 144, .inl bk)), ((a 4), .inr (2, [.int hm, .int aw, .int tk, .ref (a 5), .ref (a 6), .ref (a 7), .ref (a 8), .ref (a 13)]))] sz) := by
  refine vx_ofW (cc := cX5_toggleBunker) (maxL := 2) (ret := (some .boolean)) (by decide) rfl ?_
  intro p e s m args below meth c s₁ B hml hT0 hv
  obtain ⟨rfl, ⟨hsz, hP, hK, hD0⟩, hE⟩ := hv
  have hx := B.exec
  have hb := B.bytes
  have hr := B.returns
  have hts := atoms_spec (ws := wsX5_toggleBunker) B.pre
  have hown : s.vm.findClass RX5 = some m.cls := findClass_of_methodNamed B.named
  have hlocks := B.notSynchronized
  subst hsz
  have hD := hD0.self (sz := s.heap.size)
  have hE := hE.narrow (B := fun q : Nat => s.heap.size ≤ q) (fun q h => Or.inr h)
  generalize hAe : va_A [((a 0), .inr (5, [.ref (a 2), .ref (a 4), .ref (a 18), .ref (a 1)])), ((a 2), .inr (1, [.ref (a 3)])), ((a 3), .inl (cZ, 144, .inl bk)), ((a 4), .inr (2, [.int hm, .int aw, .int tk, .ref (a 5), .ref (a 6), .ref (a 7), .ref (a 8), .ref (a 13)]))] s.heap.size = A at hD ⊢
  have hA : ∀ q : Nat, s.heap.size ≤ q → A q := fun q h => by rw [← hAe]; exact Or.inr h
  have hAR : ∀ q : Nat, s.heap.size ≤ q → (fun q : Nat => s.heap.size ≤ q) q := fun _ h => h
  have hS : va_S (fun q : Nat => s.heap.size ≤ q) s.heap s.heap [] := va_S.rf
  have hP : va_P D vwCl [((a 0), .inr (5, [.ref (a 2), .ref (a 4), .ref (a 18), .ref (a 1)])), ((a 2), .inr (1, [.ref (a 3)])), ((a 3), .inl (cZ, 144, .inl bk)), ((a 4), .inr (2, [.int hm, .int aw, .int tk, .ref (a 5), .ref (a 6), .ref (a 7), .ref (a 8), .ref (a 13)]))] s.heap := hP
  have hl := lv_entry ([.ref (a 0), .int p1]) (n := 2) (Nat.le_of_ble_eq_true rfl)
  rw [lg_entry_eq]
  generalize (lg_sl ([.ref (a 0), .int p1]) ++ List.replicate (2 - (lg_sl ([.ref (a 0), .int p1])).length) Slot.unset).toArray = ls at hl ⊢
  have hl : lv_has ls 2 [(0, .ref (a 0)), (1, .int p1)] := hl
  have hf_19 := hts (.fieldLink RX5 19 "PaintballAtlas" "round" "LPaintballAtlas$Round;") (by decide +kernel)
  have hi_X5 : ∀ w ∈ wsX50, w ∈ wsX5_toggleBunker := by decide +kernel
  have hf_12 := hts (.fieldLink RX5 12 "PaintballAtlas" "field" "LPaintballAtlas$Field;") (by decide +kernel)
  have hcl_42 := hts (.classLink RX5 42 "java/lang/IllegalStateException") (by decide +kernel)
  have hie_3 := hts (.initialized "java/lang/IllegalStateException") (by decide +kernel)
  have hat_46 : ∀ w ∈ (vx_atS RX5 46 "java/lang/IllegalStateException" ["java/lang/RuntimeException", "java/lang/Exception"]), w.before ([.ref (a 0), .int p1] : List Value).toArray s = true := vx_hat (L := (vx_atS RX5 46 "java/lang/IllegalStateException" ["java/lang/RuntimeException", "java/lang/Exception"])) (B := [.castable "java/lang/IllegalStateException" "java/lang/IllegalStateException", .declares ⟨"java/lang/RuntimeException", "<init>", "(Ljava/lang/String;)V"⟩, .declares ⟨"java/lang/Exception", "<init>", "(Ljava/lang/String;)V"⟩, .declares ⟨"java/lang/Throwable", "<init>", "(Ljava/lang/String;)V"⟩]) (fun w hw => hts w ((by decide +kernel : ∀ w ∈ (vx_atS RX5 46 "java/lang/IllegalStateException" ["java/lang/RuntimeException", "java/lang/Exception"]).filter goodWord, w ∈ wsX5_toggleBunker) w hw)) (by decide +kernel) (vx_c (va_Nw.use rfl hE.n3) (vx_c (va_Nw.use rfl hE.d1) (vx_c (va_Nw.use rfl hE.d2) (vx_c (va_Nw.use rfl hE.d3) vx_n))))
  refine lv_iload_n hx hb dX5_toggleBunker_0 rfl (lv_at hl 1 rfl) ?_
  have hPc := hP.sub (ws' := []) [] rfl
  refine vx_callv (vx_runS (As := [.int p1]) (rest := []) ⟨hx, hb, hml, hown, hts⟩ (c_X5_checkCell l hlt D cI cZ cJ cA sx s.heap.size p1) (va_cwS 1 hts gX5_toggleBunker_X5_checkCell rfl rfl rfl (by decide +kernel) ⟨Nat.le_of_ble_eq_true rfl, Nat.le_of_ble_eq_true rfl⟩) ⟨pcXR_bl, fun U hU hW => ⟨rfl, ⟨by rw [hU], by rw [hU]; exact hPc, va_K.moved hW.alike hK⟩, hE.call hS (rd_free hS hAR) hU hW⟩⟩ rfl rfl hl.1 rfl (lv_room (Nat.le_of_ble_eq_true rfl)) dX5_toggleBunker_1 ⟨Nat.le_of_ble_eq_true rfl, Nat.le_of_ble_eq_true rfl⟩) hS (fun _ h1 h2 => absurd h1 (Nat.not_lt.mpr h2)) (rd_free hS hAR) (fun _ h1 h2 => absurd h1 (Nat.not_lt.mpr h2)) (fun E cel q9 u t H locs ht hvm hpx hb1 hz1 hk1 hS hce hcv hcl => ?_) (fun u t H locs ht hvm hw hB hz1 hk1 hS => ?_)
  · have c_2 : ¬ (k_X5_checkCell p1) = 0 := thr_ne hb1
    refine vx_widen (k := 2) (n := 12) (Nat.le_of_ble_eq_true rfl) (Nat.le_of_ble_eq_true rfl) ?_
    refine vx_out (fun x h => absurd h (hT0 x)) hlocks hce hcv hcl (fun t1 ht1 _ => ⟨(), trivial, thr_eq (by rw [k_X5_toggleBunker, if_neg c_2]) hb1, hS.F ht1⟩) (fun z hz => hA _ (hS.2.2 z hz)) (Nat.le_refl _) (Nat.le_refl _)
  · try dsimp only at hw
    have hk_1 := hw
    have hP := rd_P hP hk1
    refine W.widen (k := 1) (n := 6) (Nat.le_refl _) (Nat.le_refl _) ?_
    have hv_1 := kin_checkCell hk_1
    refine lv_aload_n hx hb dX5_toggleBunker_4 rfl (lv_at hl 0 rfl) ?_
    refine va_get (D := D) (ci := 5) (v := .ref (a 4)) (C := RX5) (T := TX5) (N := 4) hx hb hts hi_X5 hown hK hP 0 rfl rfl 1 (by decide) hf_19 (fun _ h9 => h9) rfl dX5_toggleBunker_5 ?_
    have hPc := hP.sub (ws' := [((a 4), .inr (2, [.int hm, .int aw, .int tk, .ref (a 5), .ref (a 6), .ref (a 7), .ref (a 8), .ref (a 13)]))]) [3] rfl
    refine va_calli (va_runV (As := []) (rest := []) ⟨hx, hb, hml, hown, hts⟩ (c_X2_isPlayed l D cI cZ cJ cA H.size a hm aw tk) (cwV 0 hts gX5_toggleBunker_X2_isPlayed rfl rfl rfl (by decide +kernel) ⟨Nat.le_of_ble_eq_true rfl, Nat.le_of_ble_eq_true rfl⟩) ⟨pcR_bl, va_recv hK hPc (ci := 2) (q0 := 0) rfl rfl, fun U hU hW => ⟨rfl, by rw [hU], by rw [hU]; exact hPc, va_K.moved hW.alike hK⟩⟩ rfl rfl hl.1 rfl (lv_room (Nat.le_of_ble_eq_true rfl)) dX5_toggleBunker_8 ⟨Nat.le_of_ble_eq_true rfl, Nat.le_of_ble_eq_true rfl⟩) hS (fun _ h1 h2 => absurd h1 (Nat.not_lt.mpr h2)) (rd_free hS hAR) (fun r_3 u t H locs ht hvm hw hB hz1 hk1 hS => ?_)
    try dsimp only at hw
    have hr_3 := hw
    have hP := rd_P hP hk1
    obtain rfl := hr_3.symm
    refine W.widen (k := 1) (n := 6) (Nat.le_refl _) (Nat.le_refl _) ?_
    refine lv_if_eq (tgt := 24) hx hb dX5_toggleBunker_11 (by decide) (fun c_4 => ?_) (fun c_4 => ?_)
    · refine lv_aload_n hx hb dX5_toggleBunker_24 rfl (lv_at hl 0 rfl) ?_
      refine va_get (D := D) (ci := 5) (v := .ref (a 2)) (C := RX5) (T := TX5) (N := 4) hx hb hts hi_X5 hown hK hP 0 rfl rfl 0 (by decide) hf_12 (fun _ h9 => h9) rfl dX5_toggleBunker_25 ?_
      refine lv_iload_n hx hb dX5_toggleBunker_28 rfl (lv_at hl 1 rfl) ?_
      have hPc := hP.sub (ws' := [((a 2), .inr (1, [.ref (a 3)])), ((a 3), .inl (cZ, 144, .inl bk))]) [1, 2] rfl
      have hS := va_S_mono hS hA
      have hDc := hD.sub (ws' := [((a 2), .inr (1, [.ref (a 3)])), ((a 3), .inl (cZ, 144, .inl bk))]) [1, 2] (by decide) rfl
      have hFc := va_free (wc := [((a 2), .inr (1, [.ref (a 3)])), ((a 3), .inl (cZ, 144, .inl bk))]) hD hS hA [1, 2] rfl
      refine va_calli (va_runV (As := [.int p1]) (rest := []) ⟨hx, hb, hml, hown, hts⟩ (c_X1_turnBunker l D cI cZ cJ cA H.size a bk p1 (by assumption)) (cwV 1 hts gX5_toggleBunker_X1_turnBunker rfl rfl rfl (by decide +kernel) ⟨Nat.le_of_ble_eq_true rfl, Nat.le_of_ble_eq_true rfl⟩) ⟨pcW_bl, va_recv hK hPc (ci := 1) (q0 := 0) rfl rfl, fun U hU hW => ⟨rfl, by rw [hU], by rw [hU]; exact hPc, va_K.moved hW.alike hK, hDc.weaken (fun _ _ _ _ => trivial)⟩⟩ rfl rfl hl.1 rfl (lv_room (Nat.le_of_ble_eq_true rfl)) dX5_toggleBunker_29 ⟨Nat.le_of_ble_eq_true rfl, Nat.le_of_ble_eq_true rfl⟩) hS (fun q _ h => hFc q h) hFc (fun r_5 u t H locs ht hvm hw hB hz1 hk1 hS => ?_)
      try dsimp only at hw
      obtain ⟨u0_5, rfl⟩ : ∃ z, z = u := ⟨_, rfl⟩
      obtain ⟨hr_5, hu0_5⟩ := hw
      obtain ⟨hP1, hK1, hD1⟩ := hB
      rw [ht] at hP1
      obtain ⟨hP, hD⟩ := va_join (wr := [((a 0), .inr (5, [.ref (a 2), .ref (a 4), .ref (a 18), .ref (a 1)])), ((a 4), .inr (2, [.int hm, .int aw, .int tk, .ref (a 5), .ref (a 6), .ref (a 7), .ref (a 8), .ref (a 13)]))]) (w1 := [((a 2), .inr (1, [.ref (a 3)])), ((a 3), .inl (cZ, 144, .inl u0_5))]) hP hD [1, 2] [0, 3] rfl rfl (by decide) (by decide) hk1 hFc hP1 hD1
      obtain rfl := hu0_5.symm
      have hP : va_P D vwCl [((a 0), .inr (5, [.ref (a 2), .ref (a 4), .ref (a 18), .ref (a 1)])), ((a 4), .inr (2, [.int hm, .int aw, .int tk, .ref (a 5), .ref (a 6), .ref (a 7), .ref (a 8), .ref (a 13)])), ((a 2), .inr (1, [.ref (a 3)])), ((a 3), .inl (cZ, 144, .inl (g_bk_X1_turnBunker bk p1)))] H := hP
      have hD : va_D A [((a 0), .inr (5, [.ref (a 2), .ref (a 4), .ref (a 18), .ref (a 1)])), ((a 4), .inr (2, [.int hm, .int aw, .int tk, .ref (a 5), .ref (a 6), .ref (a 7), .ref (a 8), .ref (a 13)])), ((a 2), .inr (1, [.ref (a 3)])), ((a 3), .inl (cZ, 144, .inl (g_bk_X1_turnBunker bk p1)))] := hD
      obtain rfl := hr_5.symm
      refine W.widen (k := 1) (n := 6) (Nat.le_refl _) (Nat.le_refl _) ?_
      have hP9 := hP.sub (ws' := [((a 0), .inr (5, [.ref (a 2), .ref (a 4), .ref (a 18), .ref (a 1)])), ((a 2), .inr (1, [.ref (a 3)])), ((a 3), .inl (cZ, 144, .inl (g_bk_X1_turnBunker bk p1))), ((a 4), .inr (2, [.int hm, .int aw, .int tk, .ref (a 5), .ref (a 6), .ref (a 7), .ref (a 8), .ref (a 13)]))]) [0, 2, 3, 1] rfl
      have hD9 := hD.sub (ws' := [((a 0), .inr (5, [.ref (a 2), .ref (a 4), .ref (a 18), .ref (a 1)])), ((a 2), .inr (1, [.ref (a 3)])), ((a 3), .inl (cZ, 144, .inl (g_bk_X1_turnBunker bk p1))), ((a 4), .inr (2, [.int hm, .int aw, .int tk, .ref (a 5), .ref (a 6), .ref (a 7), .ref (a 8), .ref (a 13)]))]) [0, 2, 3, 1] (by decide) rfl
      -- leaf 1
      refine W.widen (k := 2) (n := 12) (Nat.le_of_ble_eq_true rfl) (Nat.le_of_ble_eq_true rfl) ?_
      exact vx_ret (W.zret (v := f_X1_turnBunker bk p1) (ty := .boolean) hx hb hr (nz01 tb01) (fun t ht hW => ⟨⟨f_X1_turnBunker bk p1, ((g_bk_X1_turnBunker bk p1)), rfl, ⟨(by rw [k_X5_toggleBunker, if_pos hk_1, if_pos c_4]), rfl, rfl⟩, by rw [ht]; exact hP9, va_K.moved hW.alike hK, hD9⟩, hS.F ht⟩) hS.2.2 dX5_toggleBunker_32)
    · exact vx_throwS (A := (fun q : Nat => s.heap.size ≤ q)) hx hb hlt hown (by decide +kernel) (by decide +kernel) hcl_42 hie_3 (hE.s44) hat_46 (by decide +kernel) hE.u hE.n hS (hl.1.trans hml.symm) dX5_toggleBunker_14 dX5_toggleBunker_17 dX5_toggleBunker_18 dX5_toggleBunker_20 dX5_toggleBunker_23 (fun x h => absurd h (hT0 x)) (Nat.le_of_ble_eq_true rfl) (Nat.le_of_ble_eq_true rfl) (Nat.le_of_ble_eq_true rfl) (Nat.le_of_ble_eq_true rfl) hlocks (fun t1 h1 h2 h3 => ⟨(), trivial, thr_3 (by rw [k_X5_toggleBunker, if_pos hk_1, if_neg c_4]), va_F_of hS h2 h3⟩) (fun z hz => hA _ (hS.2.2 z hz)) (Nat.le_of_ble_eq_true rfl) (Nat.le_of_ble_eq_true rfl)

noncomputable def k_X5_sees (bk : Nat → Int32) (p1 : Int32) (p2 : Int32) : Int32 := if (k_X5_checkCell p1) = 0 then (if (k_X5_checkCell p2) = 0 then 0 else k_X5_checkCell p2) else k_X5_checkCell p1
set_option maxHeartbeats 4000000 in
set_option maxRecDepth 100000 in
theorem c_X5_sees (l : Launch) (hlt : l.stackTraces = false) (D : va_G) (cI cZ cJ cA : ClassId) (sx : Nat → Nat) (sz : Nat) (a : Nat → Nat) (bk : Nat → Int32) (p1 : Int32) (p2 : Int32) : vx_Met l yX5_sees wsX5_sees ({ frames := 7, cells := 2, slots := 12, locals := 110 } : Room) (va_Pc [.ref (a 0), .int p1, .int p2] (pcX (pcR D (tyL cI cZ cJ cA) [((a 0), .inr (5, [.ref (a 2), .ref (a 4), .ref (a 18), .ref (a 1)])), ((a 2), .inr (1, [.ref (a 3)])), ((a 3), .inl (cZ, 144, .inl bk))] sz) sx (fun q : Nat => sz ≤ q))) (va_Qi (fun (r : Int32) (u : Unit) => (k_X5_sees bk p1 p2) = 0 ∧ r = sI (SgtC bk p1.toNatClampNeg p2.toNatClampNeg)) (fun _ _ => True) (fun q : Nat => sz ≤ q)) (vx_X (fun _ : Unit => True) (fun E _ _ => thr E (k_X5_sees bk p1 p2)) (fun q : Nat => sz ≤ q)) 2 12 (fun q : Nat => sz ≤ q) := by
  refine vx_ofW (cc := cX5_sees) (maxL := 3) (ret := (some .boolean)) (by decide) rfl ?_
  intro p e s m args below meth c s₁ B hml hT0 hv
  obtain ⟨rfl, ⟨hsz, hP, hK⟩, hE⟩ := hv
  have hx := B.exec
  have hb := B.bytes
  have hr := B.returns
  have hts := atoms_spec (ws := wsX5_sees) B.pre
  have hown : s.vm.findClass RX5 = some m.cls := findClass_of_methodNamed B.named
  have hlocks := B.notSynchronized
  subst hsz
  have hA : ∀ q : Nat, s.heap.size ≤ q → (fun q : Nat => s.heap.size ≤ q) q := fun _ h => h
  have hS : va_S (fun q : Nat => s.heap.size ≤ q) s.heap s.heap [] := va_S.rf
  have hP : va_P D vwCl [((a 0), .inr (5, [.ref (a 2), .ref (a 4), .ref (a 18), .ref (a 1)])), ((a 2), .inr (1, [.ref (a 3)])), ((a 3), .inl (cZ, 144, .inl bk))] s.heap := hP
  have hl := lv_entry ([.ref (a 0), .int p1, .int p2]) (n := 3) (Nat.le_of_ble_eq_true rfl)
  rw [lg_entry_eq]
  generalize (lg_sl ([.ref (a 0), .int p1, .int p2]) ++ List.replicate (3 - (lg_sl ([.ref (a 0), .int p1, .int p2])).length) Slot.unset).toArray = ls at hl ⊢
  have hl : lv_has ls 3 [(0, .ref (a 0)), (1, .int p1), (2, .int p2)] := hl
  have hf_12 := hts (.fieldLink RX5 12 "PaintballAtlas" "field" "LPaintballAtlas$Field;") (by decide +kernel)
  have hi_X5 : ∀ w ∈ wsX50, w ∈ wsX5_sees := by decide +kernel
  refine lv_iload_n hx hb dX5_sees_0 rfl (lv_at hl 1 rfl) ?_
  have hPc := hP.sub (ws' := []) [] rfl
  refine vx_callv (vx_runS (As := [.int p1]) (rest := []) ⟨hx, hb, hml, hown, hts⟩ (c_X5_checkCell l hlt D cI cZ cJ cA sx s.heap.size p1) (va_cwS 1 hts gX5_sees_X5_checkCell rfl rfl rfl (by decide +kernel) ⟨Nat.le_of_ble_eq_true rfl, Nat.le_of_ble_eq_true rfl⟩) ⟨pcXR_bl, fun U hU hW => ⟨rfl, ⟨by rw [hU], by rw [hU]; exact hPc, va_K.moved hW.alike hK⟩, hE.call hS (rd_free hS hA) hU hW⟩⟩ rfl rfl hl.1 rfl (lv_room (Nat.le_of_ble_eq_true rfl)) dX5_sees_1 ⟨Nat.le_of_ble_eq_true rfl, Nat.le_of_ble_eq_true rfl⟩) hS (fun _ h1 h2 => absurd h1 (Nat.not_lt.mpr h2)) (rd_free hS hA) (fun _ h1 h2 => absurd h1 (Nat.not_lt.mpr h2)) (fun E cel q9 u t H locs ht hvm hpx hb1 hz1 hk1 hS hce hcv hcl => ?_) (fun u t H locs ht hvm hw hB hz1 hk1 hS => ?_)
  · have c_2 : ¬ (k_X5_checkCell p1) = 0 := thr_ne hb1
    refine vx_widen (k := 2) (n := 12) (Nat.le_of_ble_eq_true rfl) (Nat.le_of_ble_eq_true rfl) ?_
    refine vx_out (fun x h => absurd h (hT0 x)) hlocks hce hcv hcl (fun t1 ht1 _ => ⟨(), trivial, thr_eq (by rw [k_X5_sees, if_neg c_2]) hb1, hS.F ht1⟩) (fun z hz => hS.2.2 z hz) (Nat.le_refl _) (Nat.le_refl _)
  · try dsimp only at hw
    have hk_1 := hw
    have hP := rd_P hP hk1
    refine W.widen (k := 1) (n := 6) (Nat.le_refl _) (Nat.le_refl _) ?_
    have hv_1 := kin_checkCell hk_1
    refine lv_iload_n hx hb dX5_sees_4 rfl (lv_at hl 2 rfl) ?_
    have hPc := hP.sub (ws' := []) [] rfl
    refine vx_callv (vx_runS (As := [.int p2]) (rest := []) ⟨hx, hb, hml, hown, hts⟩ (c_X5_checkCell l hlt D cI cZ cJ cA sx H.size p2) (va_cwS 1 hts gX5_sees_X5_checkCell rfl rfl rfl (by decide +kernel) ⟨Nat.le_of_ble_eq_true rfl, Nat.le_of_ble_eq_true rfl⟩) ⟨pcXR_bl, fun U hU hW => ⟨rfl, ⟨by rw [hU], by rw [hU]; exact hPc, va_K.moved hW.alike hK⟩, hE.call hS (rd_free hS hA) hU hW⟩⟩ rfl rfl hl.1 rfl (lv_room (Nat.le_of_ble_eq_true rfl)) dX5_sees_5 ⟨Nat.le_of_ble_eq_true rfl, Nat.le_of_ble_eq_true rfl⟩) hS (fun _ h1 h2 => absurd h1 (Nat.not_lt.mpr h2)) (rd_free hS hA) (fun _ h1 h2 => absurd h1 (Nat.not_lt.mpr h2)) (fun E cel q9 u t H locs ht hvm hpx hb1 hz1 hk1 hS hce hcv hcl => ?_) (fun u t H locs ht hvm hw hB hz1 hk1 hS => ?_)
    · have c_4 : ¬ (k_X5_checkCell p2) = 0 := thr_ne hb1
      refine vx_widen (k := 2) (n := 12) (Nat.le_of_ble_eq_true rfl) (Nat.le_of_ble_eq_true rfl) ?_
      refine vx_out (fun x h => absurd h (hT0 x)) hlocks hce hcv hcl (fun t1 ht1 _ => ⟨(), trivial, thr_eq (by rw [k_X5_sees, if_pos hk_1, if_neg c_4]) hb1, hS.F ht1⟩) (fun z hz => hS.2.2 z hz) (Nat.le_refl _) (Nat.le_refl _)
    · try dsimp only at hw
      have hk_3 := hw
      have hP := rd_P hP hk1
      refine W.widen (k := 2) (n := 12) (Nat.le_refl _) (Nat.le_refl _) ?_
      have hv_3 := kin_checkCell hk_3
      refine lv_aload_n hx hb dX5_sees_8 rfl (lv_at hl 0 rfl) ?_
      refine va_get (D := D) (ci := 5) (v := .ref (a 2)) (C := RX5) (T := TX5) (N := 4) hx hb hts hi_X5 hown hK hP 0 rfl rfl 0 (by decide) hf_12 (fun _ h9 => h9) rfl dX5_sees_9 ?_
      refine lv_iload_n hx hb dX5_sees_12 rfl (lv_at hl 1 rfl) ?_
      refine lv_iload_n hx hb dX5_sees_13 rfl (lv_at hl 2 rfl) ?_
      have hPc := hP.sub (ws' := [((a 2), .inr (1, [.ref (a 3)])), ((a 3), .inl (cZ, 144, .inl bk))]) [1, 2] rfl
      refine va_calli (va_runV (As := [.int p1, .int p2]) (rest := []) ⟨hx, hb, hml, hown, hts⟩ (c_X1_hasSight l D cI cZ cJ cA H.size a bk p1 p2 (by assumption) (by assumption)) (cwV 2 hts gX5_sees_X1_hasSight rfl rfl rfl (by decide +kernel) ⟨Nat.le_of_ble_eq_true rfl, Nat.le_of_ble_eq_true rfl⟩) ⟨pcR_bl, va_recv hK hPc (ci := 1) (q0 := 0) rfl rfl, fun U hU hW => ⟨rfl, by rw [hU], by rw [hU]; exact hPc, va_K.moved hW.alike hK⟩⟩ rfl rfl hl.1 rfl (lv_room (Nat.le_of_ble_eq_true rfl)) dX5_sees_14 ⟨Nat.le_of_ble_eq_true rfl, Nat.le_of_ble_eq_true rfl⟩) hS (fun _ h1 h2 => absurd h1 (Nat.not_lt.mpr h2)) (rd_free hS hA) (fun r_5 u t H locs ht hvm hw hB hz1 hk1 hS => ?_)
      try dsimp only at hw
      have hr_5 := hw
      have hP := rd_P hP hk1
      obtain rfl := hr_5.symm
      refine W.widen (k := 2) (n := 12) (Nat.le_refl _) (Nat.le_refl _) ?_
      -- leaf 2
      refine W.widen (k := 2) (n := 12) (Nat.le_of_ble_eq_true rfl) (Nat.le_of_ble_eq_true rfl) ?_
      exact vx_ret (W.zret (v := sI (SgtC bk p1.toNatClampNeg p2.toNatClampNeg)) (ty := .boolean) hx hb hr (nz01 (sI_01 _)) (fun t ht hW => ⟨⟨sI (SgtC bk p1.toNatClampNeg p2.toNatClampNeg), (), rfl, ⟨(by rw [k_X5_sees, if_pos hk_1, if_pos hk_3]), rfl⟩, trivial⟩, hS.F ht⟩) hS.2.2 dX5_sees_17)

noncomputable def k_X5_view (bk : Nat → Int32) (p1 : Int32) : Int32 := if (k_X5_checkCell p1) = 0 then 0 else k_X5_checkCell p1
set_option maxHeartbeats 4000000 in
set_option maxRecDepth 100000 in
theorem c_X5_view (l : Launch) (hlt : l.stackTraces = false) (D : va_G) (cI cZ cJ cA : ClassId) (sx : Nat → Nat) (sz : Nat) (a : Nat → Nat) (bk : Nat → Int32) (p1 : Int32) : vx_Met l yX5_view wsX5_view ({ frames := 7, cells := 1, slots := 6, locals := 110 } : Room) (va_Pc [.ref (a 0), .int p1] (pcX (pcR D (tyL cI cZ cJ cA) [((a 0), .inr (5, [.ref (a 2), .ref (a 4), .ref (a 18), .ref (a 1)])), ((a 2), .inr (1, [.ref (a 3)])), ((a 3), .inl (cZ, 144, .inl bk))] sz) sx (fun q : Nat => sz ≤ q))) (va_Qi (fun (r : Int32) (u : Unit) => (k_X5_view bk p1) = 0 ∧ r = seenN bk p1 144) (fun _ _ => True) (fun q : Nat => sz ≤ q)) (vx_X (fun _ : Unit => True) (fun E _ _ => thr E (k_X5_view bk p1)) (fun q : Nat => sz ≤ q)) 1 6 (fun q : Nat => sz ≤ q) := by
  refine vx_ofW (cc := cX5_view) (maxL := 2) (ret := (some .int)) (by decide) rfl ?_
  intro p e s m args below meth c s₁ B hml hT0 hv
  obtain ⟨rfl, ⟨hsz, hP, hK⟩, hE⟩ := hv
  have hx := B.exec
  have hb := B.bytes
  have hr := B.returns
  have hts := atoms_spec (ws := wsX5_view) B.pre
  have hown : s.vm.findClass RX5 = some m.cls := findClass_of_methodNamed B.named
  have hlocks := B.notSynchronized
  subst hsz
  have hA : ∀ q : Nat, s.heap.size ≤ q → (fun q : Nat => s.heap.size ≤ q) q := fun _ h => h
  have hS : va_S (fun q : Nat => s.heap.size ≤ q) s.heap s.heap [] := va_S.rf
  have hP : va_P D vwCl [((a 0), .inr (5, [.ref (a 2), .ref (a 4), .ref (a 18), .ref (a 1)])), ((a 2), .inr (1, [.ref (a 3)])), ((a 3), .inl (cZ, 144, .inl bk))] s.heap := hP
  have hl := lv_entry ([.ref (a 0), .int p1]) (n := 2) (Nat.le_of_ble_eq_true rfl)
  rw [lg_entry_eq]
  generalize (lg_sl ([.ref (a 0), .int p1]) ++ List.replicate (2 - (lg_sl ([.ref (a 0), .int p1])).length) Slot.unset).toArray = ls at hl ⊢
  have hl : lv_has ls 2 [(0, .ref (a 0)), (1, .int p1)] := hl
  have hf_12 := hts (.fieldLink RX5 12 "PaintballAtlas" "field" "LPaintballAtlas$Field;") (by decide +kernel)
  have hi_X5 : ∀ w ∈ wsX50, w ∈ wsX5_view := by decide +kernel
  refine lv_iload_n hx hb dX5_view_0 rfl (lv_at hl 1 rfl) ?_
  have hPc := hP.sub (ws' := []) [] rfl
  refine vx_callv (vx_runS (As := [.int p1]) (rest := []) ⟨hx, hb, hml, hown, hts⟩ (c_X5_checkCell l hlt D cI cZ cJ cA sx s.heap.size p1) (va_cwS 1 hts gX5_view_X5_checkCell rfl rfl rfl (by decide +kernel) ⟨Nat.le_of_ble_eq_true rfl, Nat.le_of_ble_eq_true rfl⟩) ⟨pcXR_bl, fun U hU hW => ⟨rfl, ⟨by rw [hU], by rw [hU]; exact hPc, va_K.moved hW.alike hK⟩, hE.call hS (rd_free hS hA) hU hW⟩⟩ rfl rfl hl.1 rfl (lv_room (Nat.le_of_ble_eq_true rfl)) dX5_view_1 ⟨Nat.le_of_ble_eq_true rfl, Nat.le_of_ble_eq_true rfl⟩) hS (fun _ h1 h2 => absurd h1 (Nat.not_lt.mpr h2)) (rd_free hS hA) (fun _ h1 h2 => absurd h1 (Nat.not_lt.mpr h2)) (fun E cel q9 u t H locs ht hvm hpx hb1 hz1 hk1 hS hce hcv hcl => ?_) (fun u t H locs ht hvm hw hB hz1 hk1 hS => ?_)
  · have c_2 : ¬ (k_X5_checkCell p1) = 0 := thr_ne hb1
    refine vx_widen (k := 1) (n := 6) (Nat.le_of_ble_eq_true rfl) (Nat.le_of_ble_eq_true rfl) ?_
    refine vx_out (fun x h => absurd h (hT0 x)) hlocks hce hcv hcl (fun t1 ht1 _ => ⟨(), trivial, thr_eq (by rw [k_X5_view, if_neg c_2]) hb1, hS.F ht1⟩) (fun z hz => hS.2.2 z hz) (Nat.le_refl _) (Nat.le_refl _)
  · try dsimp only at hw
    have hk_1 := hw
    have hP := rd_P hP hk1
    refine W.widen (k := 1) (n := 6) (Nat.le_refl _) (Nat.le_refl _) ?_
    have hv_1 := kin_checkCell hk_1
    refine lv_aload_n hx hb dX5_view_4 rfl (lv_at hl 0 rfl) ?_
    refine va_get (D := D) (ci := 5) (v := .ref (a 2)) (C := RX5) (T := TX5) (N := 4) hx hb hts hi_X5 hown hK hP 0 rfl rfl 0 (by decide) hf_12 (fun _ h9 => h9) rfl dX5_view_5 ?_
    refine lv_iload_n hx hb dX5_view_8 rfl (lv_at hl 1 rfl) ?_
    have hPc := hP.sub (ws' := [((a 2), .inr (1, [.ref (a 3)])), ((a 3), .inl (cZ, 144, .inl bk))]) [1, 2] rfl
    refine va_calli (va_runV (As := [.int p1]) (rest := []) ⟨hx, hb, hml, hown, hts⟩ (c_X1_countSeen l D cI cZ cJ cA H.size a bk p1 (by assumption)) (cwV 1 hts gX5_view_X1_countSeen rfl rfl rfl (by decide +kernel) ⟨Nat.le_of_ble_eq_true rfl, Nat.le_of_ble_eq_true rfl⟩) ⟨pcR_bl, va_recv hK hPc (ci := 1) (q0 := 0) rfl rfl, fun U hU hW => ⟨rfl, by rw [hU], by rw [hU]; exact hPc, va_K.moved hW.alike hK⟩⟩ rfl rfl hl.1 rfl (lv_room (Nat.le_of_ble_eq_true rfl)) dX5_view_9 ⟨Nat.le_of_ble_eq_true rfl, Nat.le_of_ble_eq_true rfl⟩) hS (fun _ h1 h2 => absurd h1 (Nat.not_lt.mpr h2)) (rd_free hS hA) (fun r_3 u t H locs ht hvm hw hB hz1 hk1 hS => ?_)
    try dsimp only at hw
    have hr_3 := hw
    have hP := rd_P hP hk1
    obtain rfl := hr_3.symm
    refine W.widen (k := 1) (n := 6) (Nat.le_refl _) (Nat.le_refl _) ?_
    -- leaf 1
    refine W.widen (k := 1) (n := 6) (Nat.le_of_ble_eq_true rfl) (Nat.le_of_ble_eq_true rfl) ?_
    exact vx_ret (W.iret (v := seenN bk p1 144) hx hb hr (fun t ht hW => ⟨⟨seenN bk p1 144, (), rfl, ⟨(by rw [k_X5_view, if_pos hk_1]), rfl⟩, trivial⟩, hS.F ht⟩) hS.2.2 dX5_view_12)

noncomputable def k_X5_setReferee (rf : Nat → Int32) (p1 : Int32) (p2 : Int32) : Int32 := if (k_X5_checkReferee p1) = 0 then (if (k_X5_checkCell p2) = 0 then 0 else k_X5_checkCell p2) else k_X5_checkReferee p1
set_option maxHeartbeats 4000000 in
set_option maxRecDepth 100000 in
theorem c_X5_setReferee (l : Launch) (hlt : l.stackTraces = false) (D : va_G) (cI cZ cJ cA : ClassId) (sx : Nat → Nat) (sz : Nat) (a : Nat → Nat) (rf : Nat → Int32) (p1 : Int32) (p2 : Int32) : vx_Met l yX5_setReferee wsX5_setReferee ({ frames := 7, cells := 2, slots := 12, locals := 110 } : Room) (va_Pc [.ref (a 0), .int p1, .int p2] (pcX (pcW D (tyL cI cZ cJ cA) [((a 0), .inr (5, [.ref (a 2), .ref (a 4), .ref (a 18), .ref (a 1)])), ((a 1), .inl (cI, 2, .inl rf))] sz) sx (va_A [((a 0), .inr (5, [.ref (a 2), .ref (a 4), .ref (a 18), .ref (a 1)])), ((a 1), .inl (cI, 2, .inl rf))] sz))) (va_Qi (fun (r : Int32) (u : (Nat → Int32)) => (k_X5_setReferee rf p1 p2) = 0 ∧ r = rf p1.toNatClampNeg ∧ u = upd rf p1.toNatClampNeg p2) (fun u t => bcW D (tyL cI cZ cJ cA) (va_A [((a 0), .inr (5, [.ref (a 2), .ref (a 4), .ref (a 18), .ref (a 1)])), ((a 1), .inl (cI, 2, .inl rf))] sz) [((a 0), .inr (5, [.ref (a 2), .ref (a 4), .ref (a 18), .ref (a 1)])), ((a 1), .inl (cI, 2, .inl u))] t) (va_A [((a 0), .inr (5, [.ref (a 2), .ref (a 4), .ref (a 18), .ref (a 1)])), ((a 1), .inl (cI, 2, .inl rf))] sz)) (vx_X (fun _ : Unit => True) (fun E _ _ => thr E (k_X5_setReferee rf p1 p2)) (fun q : Nat => sz ≤ q)) 2 12 (va_A [((a 0), .inr (5, [.ref (a 2), .ref (a 4), .ref (a 18), .ref (a 1)])), ((a 1), .inl (cI, 2, .inl rf))] sz) := by
  refine vx_ofW (cc := cX5_setReferee) (maxL := 4) (ret := (some .int)) (by decide) rfl ?_
  intro p e s m args below meth c s₁ B hml hT0 hv
  obtain ⟨rfl, ⟨hsz, hP, hK, hD0⟩, hE⟩ := hv
  have hx := B.exec
  have hb := B.bytes
  have hr := B.returns
  have hts := atoms_spec (ws := wsX5_setReferee) B.pre
  have hown : s.vm.findClass RX5 = some m.cls := findClass_of_methodNamed B.named
  have hlocks := B.notSynchronized
  subst hsz
  have hD := hD0.self (sz := s.heap.size)
  have hE := hE.narrow (B := fun q : Nat => s.heap.size ≤ q) (fun q h => Or.inr h)
  generalize hAe : va_A [((a 0), .inr (5, [.ref (a 2), .ref (a 4), .ref (a 18), .ref (a 1)])), ((a 1), .inl (cI, 2, .inl rf))] s.heap.size = A at hD ⊢
  have hA : ∀ q : Nat, s.heap.size ≤ q → A q := fun q h => by rw [← hAe]; exact Or.inr h
  have hAR : ∀ q : Nat, s.heap.size ≤ q → (fun q : Nat => s.heap.size ≤ q) q := fun _ h => h
  have hS : va_S (fun q : Nat => s.heap.size ≤ q) s.heap s.heap [] := va_S.rf
  have hP : va_P D vwCl [((a 0), .inr (5, [.ref (a 2), .ref (a 4), .ref (a 18), .ref (a 1)])), ((a 1), .inl (cI, 2, .inl rf))] s.heap := hP
  have hl := lv_entry ([.ref (a 0), .int p1, .int p2]) (n := 4) (Nat.le_of_ble_eq_true rfl)
  rw [lg_entry_eq]
  generalize (lg_sl ([.ref (a 0), .int p1, .int p2]) ++ List.replicate (4 - (lg_sl ([.ref (a 0), .int p1, .int p2])).length) Slot.unset).toArray = ls at hl ⊢
  have hl : lv_has ls 4 [(0, .ref (a 0)), (1, .int p1), (2, .int p2)] := hl
  have hf_30 := hts (.fieldLink RX5 30 "PaintballAtlas" "refereeCells" "[I") (by decide +kernel)
  have hi_X5 : ∀ w ∈ wsX50, w ∈ wsX5_setReferee := by decide +kernel
  refine lv_iload_n hx hb dX5_setReferee_0 rfl (lv_at hl 1 rfl) ?_
  have hPc := hP.sub (ws' := []) [] rfl
  refine vx_callv (vx_runS (As := [.int p1]) (rest := []) ⟨hx, hb, hml, hown, hts⟩ (c_X5_checkReferee l hlt D cI cZ cJ cA sx s.heap.size p1) (va_cwS 1 hts gX5_setReferee_X5_checkReferee rfl rfl rfl (by decide +kernel) ⟨Nat.le_of_ble_eq_true rfl, Nat.le_of_ble_eq_true rfl⟩) ⟨pcXR_bl, fun U hU hW => ⟨rfl, ⟨by rw [hU], by rw [hU]; exact hPc, va_K.moved hW.alike hK⟩, hE.call hS (rd_free hS hAR) hU hW⟩⟩ rfl rfl hl.1 rfl (lv_room (Nat.le_of_ble_eq_true rfl)) dX5_setReferee_1 ⟨Nat.le_of_ble_eq_true rfl, Nat.le_of_ble_eq_true rfl⟩) hS (fun _ h1 h2 => absurd h1 (Nat.not_lt.mpr h2)) (rd_free hS hAR) (fun _ h1 h2 => absurd h1 (Nat.not_lt.mpr h2)) (fun E cel q9 u t H locs ht hvm hpx hb1 hz1 hk1 hS hce hcv hcl => ?_) (fun u t H locs ht hvm hw hB hz1 hk1 hS => ?_)
  · have c_2 : ¬ (k_X5_checkReferee p1) = 0 := thr_ne hb1
    refine vx_widen (k := 2) (n := 12) (Nat.le_of_ble_eq_true rfl) (Nat.le_of_ble_eq_true rfl) ?_
    refine vx_out (fun x h => absurd h (hT0 x)) hlocks hce hcv hcl (fun t1 ht1 _ => ⟨(), trivial, thr_eq (by rw [k_X5_setReferee, if_neg c_2]) hb1, hS.F ht1⟩) (fun z hz => hA _ (hS.2.2 z hz)) (Nat.le_refl _) (Nat.le_refl _)
  · try dsimp only at hw
    have hk_1 := hw
    have hP := rd_P hP hk1
    refine W.widen (k := 1) (n := 6) (Nat.le_refl _) (Nat.le_refl _) ?_
    have hv_1 := kin_checkReferee hk_1
    refine lv_iload_n hx hb dX5_setReferee_4 rfl (lv_at hl 2 rfl) ?_
    have hPc := hP.sub (ws' := []) [] rfl
    refine vx_callv (vx_runS (As := [.int p2]) (rest := []) ⟨hx, hb, hml, hown, hts⟩ (c_X5_checkCell l hlt D cI cZ cJ cA sx H.size p2) (va_cwS 1 hts gX5_setReferee_X5_checkCell rfl rfl rfl (by decide +kernel) ⟨Nat.le_of_ble_eq_true rfl, Nat.le_of_ble_eq_true rfl⟩) ⟨pcXR_bl, fun U hU hW => ⟨rfl, ⟨by rw [hU], by rw [hU]; exact hPc, va_K.moved hW.alike hK⟩, hE.call hS (rd_free hS hAR) hU hW⟩⟩ rfl rfl hl.1 rfl (lv_room (Nat.le_of_ble_eq_true rfl)) dX5_setReferee_5 ⟨Nat.le_of_ble_eq_true rfl, Nat.le_of_ble_eq_true rfl⟩) hS (fun _ h1 h2 => absurd h1 (Nat.not_lt.mpr h2)) (rd_free hS hAR) (fun _ h1 h2 => absurd h1 (Nat.not_lt.mpr h2)) (fun E cel q9 u t H locs ht hvm hpx hb1 hz1 hk1 hS hce hcv hcl => ?_) (fun u t H locs ht hvm hw hB hz1 hk1 hS => ?_)
    · have c_4 : ¬ (k_X5_checkCell p2) = 0 := thr_ne hb1
      refine vx_widen (k := 2) (n := 12) (Nat.le_of_ble_eq_true rfl) (Nat.le_of_ble_eq_true rfl) ?_
      refine vx_out (fun x h => absurd h (hT0 x)) hlocks hce hcv hcl (fun t1 ht1 _ => ⟨(), trivial, thr_eq (by rw [k_X5_setReferee, if_pos hk_1, if_neg c_4]) hb1, hS.F ht1⟩) (fun z hz => hA _ (hS.2.2 z hz)) (Nat.le_refl _) (Nat.le_refl _)
    · try dsimp only at hw
      have hk_3 := hw
      have hP := rd_P hP hk1
      refine W.widen (k := 2) (n := 12) (Nat.le_refl _) (Nat.le_refl _) ?_
      have hv_3 := kin_checkCell hk_3
      refine lv_aload_n hx hb dX5_setReferee_8 rfl (lv_at hl 0 rfl) ?_
      refine va_get (D := D) (ci := 5) (v := .ref (a 1)) (C := RX5) (T := TX5) (N := 4) hx hb hts hi_X5 hown hK hP 0 rfl rfl 3 (by decide) hf_30 (fun _ h9 => h9) rfl dX5_setReferee_9 ?_
      refine lv_iload_n hx hb dX5_setReferee_12 rfl (lv_at hl 1 rfl) ?_
      refine va_iald hx hb hK hP 1 0 rfl rfl (by assumption) dX5_setReferee_13 ?_
      refine lv_istore_n (lv' := [(3, .int (rf p1.toNatClampNeg)), (0, .ref (a 0)), (1, .int p1), (2, .int p2)]) hx hb dX5_setReferee_14 rfl hl (by decide) rfl (fun ls hl => ?_)
      refine lv_aload_n hx hb dX5_setReferee_15 rfl (lv_at hl 1 rfl) ?_
      refine va_get (D := D) (ci := 5) (v := .ref (a 1)) (C := RX5) (T := TX5) (N := 4) hx hb hts hi_X5 hown hK hP 0 rfl rfl 3 (by decide) hf_30 (fun _ h9 => h9) rfl dX5_setReferee_16 ?_
      refine lv_iload_n hx hb dX5_setReferee_19 rfl (lv_at hl 2 rfl) ?_
      refine lv_iload_n hx hb dX5_setReferee_20 rfl (lv_at hl 3 rfl) ?_
      have hS := va_S_mono hS hA
      refine va_iast hx hb hK hP hD hS 1 0 rfl rfl (by assumption) dX5_setReferee_21 (fun H locs hP hD hS => ?_)
      have hP : va_P D vwCl [((a 0), .inr (5, [.ref (a 2), .ref (a 4), .ref (a 18), .ref (a 1)])), ((a 1), .inl (cI, 2, .inl (upd rf p1.toNatClampNeg p2)))] H := hP
      have hD : va_D A [((a 0), .inr (5, [.ref (a 2), .ref (a 4), .ref (a 18), .ref (a 1)])), ((a 1), .inl (cI, 2, .inl (upd rf p1.toNatClampNeg p2)))] := hD
      refine lv_iload_n hx hb dX5_setReferee_22 rfl (lv_at hl 0 rfl) ?_
      have hP9 := hP.sub (ws' := [((a 0), .inr (5, [.ref (a 2), .ref (a 4), .ref (a 18), .ref (a 1)])), ((a 1), .inl (cI, 2, .inl (upd rf p1.toNatClampNeg p2)))]) [0, 1] rfl
      have hD9 := hD.sub (ws' := [((a 0), .inr (5, [.ref (a 2), .ref (a 4), .ref (a 18), .ref (a 1)])), ((a 1), .inl (cI, 2, .inl (upd rf p1.toNatClampNeg p2)))]) [0, 1] (by decide) rfl
      -- leaf 2
      refine W.widen (k := 2) (n := 12) (Nat.le_of_ble_eq_true rfl) (Nat.le_of_ble_eq_true rfl) ?_
      exact vx_ret (W.iret (v := rf p1.toNatClampNeg) hx hb hr (fun t ht hW => ⟨⟨rf p1.toNatClampNeg, (upd rf p1.toNatClampNeg p2), rfl, ⟨(by rw [k_X5_setReferee, if_pos hk_1, if_pos hk_3]), rfl, rfl⟩, by rw [ht]; exact hP9, va_K.moved hW.alike hK, hD9⟩, hS.F ht⟩) hS.2.2 dX5_setReferee_23)

noncomputable def k_X5_begin (hm : Int32) (aw : Int32) (tk : Int32) (ce : Nat → Int32) (hi : Nat → Int32) (la : Nat → Int32) (sn : Nat) (kn : Nat) (p1 : Int32) (p2 : Int32) : Int32 := if (k_X5_checkTeam p1) = 0 then (if (k_X5_checkTeam p2) = 0 then (if p1 = p2 then 2 else (if (f_X2_isPlayed hm aw tk) = 0 then 0 else 3)) else k_X5_checkTeam p2) else k_X5_checkTeam p1
set_option maxHeartbeats 4000000 in
set_option maxRecDepth 100000 in
theorem c_X5_begin (l : Launch) (hlt : l.stackTraces = false) (D : va_G) (cI cZ cJ cA : ClassId) (sx : Nat → Nat) (sz : Nat) (a : Nat → Nat) (hm : Int32) (aw : Int32) (tk : Int32) (ce : Nat → Int32) (hi : Nat → Int32) (la : Nat → Int32) (sn : Nat) (kn : Nat) (p1 : Int32) (p2 : Int32) : vx_Met l yX5_begin wsX5_begin ({ frames := 7, cells := 3, slots := 18, locals := 110 } : Room) (va_Pc [.ref (a 0), .int p1, .int p2] (pcX (pcW D (tyL cI cZ cJ cA) [((a 0), .inr (5, [.ref (a 2), .ref (a 4), .ref (a 18), .ref (a 1)])), ((a 4), .inr (2, [.int hm, .int aw, .int tk, .ref (a 5), .ref (a 6), .ref (a 7), .ref (a 8), .ref (a 13)])), ((a 5), .inl (cI, 6, .inl ce)), ((a 6), .inl (cI, 6, .inl hi)), ((a 7), .inl (cI, 6, .inl la)), ((a 8), .inr (3, [.int (nI sn), .ref (a 9), .ref (a 10), .ref (a 11), .ref (a 12)])), ((a 13), .inr (0, [.int (nI kn), .ref (a 14), .ref (a 15), .ref (a 16), .ref (a 17)]))] sz) sx (va_A [((a 0), .inr (5, [.ref (a 2), .ref (a 4), .ref (a 18), .ref (a 1)])), ((a 4), .inr (2, [.int hm, .int aw, .int tk, .ref (a 5), .ref (a 6), .ref (a 7), .ref (a 8), .ref (a 13)])), ((a 5), .inl (cI, 6, .inl ce)), ((a 6), .inl (cI, 6, .inl hi)), ((a 7), .inl (cI, 6, .inl la)), ((a 8), .inr (3, [.int (nI sn), .ref (a 9), .ref (a 10), .ref (a 11), .ref (a 12)])), ((a 13), .inr (0, [.int (nI kn), .ref (a 14), .ref (a 15), .ref (a 16), .ref (a 17)]))] sz))) (va_Qv (fun (u : (Int32) × (Int32) × (Int32) × (Nat → Int32) × (Nat → Int32) × (Nat → Int32) × (Nat) × (Nat)) => (k_X5_begin hm aw tk ce hi la sn kn p1 p2) = 0 ∧ u.1 = p1 ∧ u.2.1 = p2 ∧ u.2.2.1 = 0 ∧ u.2.2.2.1 = (fillN ce (-1) 6) ∧ u.2.2.2.2.1 = (fillN hi (-1) 6) ∧ u.2.2.2.2.2.1 = (fillN la (-1) 6) ∧ u.2.2.2.2.2.2.1 = 0 ∧ u.2.2.2.2.2.2.2 = 0) (fun u t => bcW D (tyL cI cZ cJ cA) (va_A [((a 0), .inr (5, [.ref (a 2), .ref (a 4), .ref (a 18), .ref (a 1)])), ((a 4), .inr (2, [.int hm, .int aw, .int tk, .ref (a 5), .ref (a 6), .ref (a 7), .ref (a 8), .ref (a 13)])), ((a 5), .inl (cI, 6, .inl ce)), ((a 6), .inl (cI, 6, .inl hi)), ((a 7), .inl (cI, 6, .inl la)), ((a 8), .inr (3, [.int (nI sn), .ref (a 9), .ref (a 10), .ref (a 11), .ref (a 12)])), ((a 13), .inr (0, [.int (nI kn), .ref (a 14), .ref (a 15), .ref (a 16), .ref (a 17)]))] sz) [((a 0), .inr (5, [.ref (a 2), .ref (a 4), .ref (a 18), .ref (a 1)])), ((a 4), .inr (2, [.int u.1, .int u.2.1, .int u.2.2.1, .ref (a 5), .ref (a 6), .ref (a 7), .ref (a 8), .ref (a 13)])), ((a 5), .inl (cI, 6, .inl u.2.2.2.1)), ((a 6), .inl (cI, 6, .inl u.2.2.2.2.1)), ((a 7), .inl (cI, 6, .inl u.2.2.2.2.2.1)), ((a 8), .inr (3, [.int (nI u.2.2.2.2.2.2.1), .ref (a 9), .ref (a 10), .ref (a 11), .ref (a 12)])), ((a 13), .inr (0, [.int (nI u.2.2.2.2.2.2.2), .ref (a 14), .ref (a 15), .ref (a 16), .ref (a 17)]))] t) (va_A [((a 0), .inr (5, [.ref (a 2), .ref (a 4), .ref (a 18), .ref (a 1)])), ((a 4), .inr (2, [.int hm, .int aw, .int tk, .ref (a 5), .ref (a 6), .ref (a 7), .ref (a 8), .ref (a 13)])), ((a 5), .inl (cI, 6, .inl ce)), ((a 6), .inl (cI, 6, .inl hi)), ((a 7), .inl (cI, 6, .inl la)), ((a 8), .inr (3, [.int (nI sn), .ref (a 9), .ref (a 10), .ref (a 11), .ref (a 12)])), ((a 13), .inr (0, [.int (nI kn), .ref (a 14), .ref (a 15), .ref (a 16), .ref (a 17)]))] sz)) (vx_X (fun _ : Unit => True) (fun E _ _ => thr E (k_X5_begin hm aw tk ce hi la sn kn p1 p2)) (fun q : Nat => sz ≤ q)) 3 18 (va_A [((a 0), .inr (5, [.ref (a 2), .ref (a 4), .ref (a 18), .ref (a 1)])), ((a 4), .inr (2, [.int hm, .int aw, .int tk, .ref (a 5), .ref (a 6), .ref (a 7), .ref (a 8), .ref (a 13)])), ((a 5), .inl (cI, 6, .inl ce)), ((a 6), .inl (cI, 6, .inl hi)), ((a 7), .inl (cI, 6, .inl la)), ((a 8), .inr (3, [.int (nI sn), .ref (a 9), .ref (a 10), .ref (a 11), .ref (a 12)])), ((a 13), .inr (0, [.int (nI kn), .ref (a 14), .ref (a 15), .ref (a 16), .ref (a 17)]))] sz) := by
  refine vx_ofW (cc := cX5_begin) (maxL := 3) (ret := none) (by decide) rfl ?_
  intro p e s m args below meth c s₁ B hml hT0 hv
  obtain ⟨rfl, ⟨hsz, hP, hK, hD0⟩, hE⟩ := hv
  have hx := B.exec
  have hb := B.bytes
  have hr := B.returns
  have hts := atoms_spec (ws := wsX5_begin) B.pre
  have hown : s.vm.findClass RX5 = some m.cls := findClass_of_methodNamed B.named
  have hlocks := B.notSynchronized
  subst hsz
  have hD := hD0.self (sz := s.heap.size)
  have hE := hE.narrow (B := fun q : Nat => s.heap.size ≤ q) (fun q h => Or.inr h)
  generalize hAe : va_A [((a 0), .inr (5, [.ref (a 2), .ref (a 4), .ref (a 18), .ref (a 1)])), ((a 4), .inr (2, [.int hm, .int aw, .int tk, .ref (a 5), .ref (a 6), .ref (a 7), .ref (a 8), .ref (a 13)])), ((a 5), .inl (cI, 6, .inl ce)), ((a 6), .inl (cI, 6, .inl hi)), ((a 7), .inl (cI, 6, .inl la)), ((a 8), .inr (3, [.int (nI sn), .ref (a 9), .ref (a 10), .ref (a 11), .ref (a 12)])), ((a 13), .inr (0, [.int (nI kn), .ref (a 14), .ref (a 15), .ref (a 16), .ref (a 17)]))] s.heap.size = A at hD ⊢
  have hA : ∀ q : Nat, s.heap.size ≤ q → A q := fun q h => by rw [← hAe]; exact Or.inr h
  have hAR : ∀ q : Nat, s.heap.size ≤ q → (fun q : Nat => s.heap.size ≤ q) q := fun _ h => h
  have hS : va_S (fun q : Nat => s.heap.size ≤ q) s.heap s.heap [] := va_S.rf
  have hP : va_P D vwCl [((a 0), .inr (5, [.ref (a 2), .ref (a 4), .ref (a 18), .ref (a 1)])), ((a 4), .inr (2, [.int hm, .int aw, .int tk, .ref (a 5), .ref (a 6), .ref (a 7), .ref (a 8), .ref (a 13)])), ((a 5), .inl (cI, 6, .inl ce)), ((a 6), .inl (cI, 6, .inl hi)), ((a 7), .inl (cI, 6, .inl la)), ((a 8), .inr (3, [.int (nI sn), .ref (a 9), .ref (a 10), .ref (a 11), .ref (a 12)])), ((a 13), .inr (0, [.int (nI kn), .ref (a 14), .ref (a 15), .ref (a 16), .ref (a 17)]))] s.heap := hP
  have hl := lv_entry ([.ref (a 0), .int p1, .int p2]) (n := 3) (Nat.le_of_ble_eq_true rfl)
  rw [lg_entry_eq]
  generalize (lg_sl ([.ref (a 0), .int p1, .int p2]) ++ List.replicate (3 - (lg_sl ([.ref (a 0), .int p1, .int p2])).length) Slot.unset).toArray = ls at hl ⊢
  have hl : lv_has ls 3 [(0, .ref (a 0)), (1, .int p1), (2, .int p2)] := hl
  have hf_19 := hts (.fieldLink RX5 19 "PaintballAtlas" "round" "LPaintballAtlas$Round;") (by decide +kernel)
  have hi_X5 : ∀ w ∈ wsX50, w ∈ wsX5_begin := by decide +kernel
  have hcl_42 := hts (.classLink RX5 42 "java/lang/IllegalStateException") (by decide +kernel)
  have hie_3 := hts (.initialized "java/lang/IllegalStateException") (by decide +kernel)
  have hat_46 : ∀ w ∈ (vx_atS RX5 46 "java/lang/IllegalStateException" ["java/lang/RuntimeException", "java/lang/Exception"]), w.before ([.ref (a 0), .int p1, .int p2] : List Value).toArray s = true := vx_hat (L := (vx_atS RX5 46 "java/lang/IllegalStateException" ["java/lang/RuntimeException", "java/lang/Exception"])) (B := [.castable "java/lang/IllegalStateException" "java/lang/IllegalStateException", .declares ⟨"java/lang/RuntimeException", "<init>", "(Ljava/lang/String;)V"⟩, .declares ⟨"java/lang/Exception", "<init>", "(Ljava/lang/String;)V"⟩, .declares ⟨"java/lang/Throwable", "<init>", "(Ljava/lang/String;)V"⟩]) (fun w hw => hts w ((by decide +kernel : ∀ w ∈ (vx_atS RX5 46 "java/lang/IllegalStateException" ["java/lang/RuntimeException", "java/lang/Exception"]).filter goodWord, w ∈ wsX5_begin) w hw)) (by decide +kernel) (vx_c (va_Nw.use rfl hE.n3) (vx_c (va_Nw.use rfl hE.d1) (vx_c (va_Nw.use rfl hE.d2) (vx_c (va_Nw.use rfl hE.d3) vx_n))))
  have hcl_67 := hts (.classLink RX5 67 "java/lang/IllegalArgumentException") (by decide +kernel)
  have hie_2 := hts (.initialized "java/lang/IllegalArgumentException") (by decide +kernel)
  have hat_71 : ∀ w ∈ (vx_atS RX5 71 "java/lang/IllegalArgumentException" ["java/lang/RuntimeException", "java/lang/Exception"]), w.before ([.ref (a 0), .int p1, .int p2] : List Value).toArray s = true := vx_hat (L := (vx_atS RX5 71 "java/lang/IllegalArgumentException" ["java/lang/RuntimeException", "java/lang/Exception"])) (B := [.castable "java/lang/IllegalArgumentException" "java/lang/IllegalArgumentException", .declares ⟨"java/lang/RuntimeException", "<init>", "(Ljava/lang/String;)V"⟩, .declares ⟨"java/lang/Exception", "<init>", "(Ljava/lang/String;)V"⟩, .declares ⟨"java/lang/Throwable", "<init>", "(Ljava/lang/String;)V"⟩]) (fun w hw => hts w ((by decide +kernel : ∀ w ∈ (vx_atS RX5 71 "java/lang/IllegalArgumentException" ["java/lang/RuntimeException", "java/lang/Exception"]).filter goodWord, w ∈ wsX5_begin) w hw)) (by decide +kernel) (vx_c (va_Nw.use rfl hE.n2) (vx_c (va_Nw.use rfl hE.d1) (vx_c (va_Nw.use rfl hE.d2) (vx_c (va_Nw.use rfl hE.d3) vx_n))))
  refine lv_iload_n hx hb dX5_begin_0 rfl (lv_at hl 1 rfl) ?_
  have hPc := hP.sub (ws' := []) [] rfl
  refine vx_callv (vx_runS (As := [.int p1]) (rest := []) ⟨hx, hb, hml, hown, hts⟩ (c_X5_checkTeam l hlt D cI cZ cJ cA sx s.heap.size p1) (va_cwS 1 hts gX5_begin_X5_checkTeam rfl rfl rfl (by decide +kernel) ⟨Nat.le_of_ble_eq_true rfl, Nat.le_of_ble_eq_true rfl⟩) ⟨pcXR_bl, fun U hU hW => ⟨rfl, ⟨by rw [hU], by rw [hU]; exact hPc, va_K.moved hW.alike hK⟩, hE.call hS (rd_free hS hAR) hU hW⟩⟩ rfl rfl hl.1 rfl (lv_room (Nat.le_of_ble_eq_true rfl)) dX5_begin_1 ⟨Nat.le_of_ble_eq_true rfl, Nat.le_of_ble_eq_true rfl⟩) hS (fun _ h1 h2 => absurd h1 (Nat.not_lt.mpr h2)) (rd_free hS hAR) (fun _ h1 h2 => absurd h1 (Nat.not_lt.mpr h2)) (fun E cel q9 u t H locs ht hvm hpx hb1 hz1 hk1 hS hce hcv hcl => ?_) (fun u t H locs ht hvm hw hB hz1 hk1 hS => ?_)
  · have c_2 : ¬ (k_X5_checkTeam p1) = 0 := thr_ne hb1
    refine vx_widen (k := 3) (n := 18) (Nat.le_of_ble_eq_true rfl) (Nat.le_of_ble_eq_true rfl) ?_
    refine vx_out (fun x h => absurd h (hT0 x)) hlocks hce hcv hcl (fun t1 ht1 _ => ⟨(), trivial, thr_eq (by rw [k_X5_begin, if_neg c_2]) hb1, hS.F ht1⟩) (fun z hz => hA _ (hS.2.2 z hz)) (Nat.le_refl _) (Nat.le_refl _)
  · try dsimp only at hw
    have hk_1 := hw
    have hP := rd_P hP hk1
    refine W.widen (k := 1) (n := 6) (Nat.le_refl _) (Nat.le_refl _) ?_
    have hv_1 := kin_checkTeam hk_1
    refine lv_iload_n hx hb dX5_begin_4 rfl (lv_at hl 2 rfl) ?_
    have hPc := hP.sub (ws' := []) [] rfl
    refine vx_callv (vx_runS (As := [.int p2]) (rest := []) ⟨hx, hb, hml, hown, hts⟩ (c_X5_checkTeam l hlt D cI cZ cJ cA sx H.size p2) (va_cwS 1 hts gX5_begin_X5_checkTeam rfl rfl rfl (by decide +kernel) ⟨Nat.le_of_ble_eq_true rfl, Nat.le_of_ble_eq_true rfl⟩) ⟨pcXR_bl, fun U hU hW => ⟨rfl, ⟨by rw [hU], by rw [hU]; exact hPc, va_K.moved hW.alike hK⟩, hE.call hS (rd_free hS hAR) hU hW⟩⟩ rfl rfl hl.1 rfl (lv_room (Nat.le_of_ble_eq_true rfl)) dX5_begin_5 ⟨Nat.le_of_ble_eq_true rfl, Nat.le_of_ble_eq_true rfl⟩) hS (fun _ h1 h2 => absurd h1 (Nat.not_lt.mpr h2)) (rd_free hS hAR) (fun _ h1 h2 => absurd h1 (Nat.not_lt.mpr h2)) (fun E cel q9 u t H locs ht hvm hpx hb1 hz1 hk1 hS hce hcv hcl => ?_) (fun u t H locs ht hvm hw hB hz1 hk1 hS => ?_)
    · have c_4 : ¬ (k_X5_checkTeam p2) = 0 := thr_ne hb1
      refine vx_widen (k := 3) (n := 18) (Nat.le_of_ble_eq_true rfl) (Nat.le_of_ble_eq_true rfl) ?_
      refine vx_out (fun x h => absurd h (hT0 x)) hlocks hce hcv hcl (fun t1 ht1 _ => ⟨(), trivial, thr_eq (by rw [k_X5_begin, if_pos hk_1, if_neg c_4]) hb1, hS.F ht1⟩) (fun z hz => hA _ (hS.2.2 z hz)) (Nat.le_refl _) (Nat.le_refl _)
    · try dsimp only at hw
      have hk_3 := hw
      have hP := rd_P hP hk1
      refine W.widen (k := 2) (n := 12) (Nat.le_refl _) (Nat.le_refl _) ?_
      have hv_3 := kin_checkTeam hk_3
      refine lv_iload_n hx hb dX5_begin_8 rfl (lv_at hl 1 rfl) ?_
      refine lv_iload_n hx hb dX5_begin_9 rfl (lv_at hl 2 rfl) ?_
      refine lv_icmp_ne (tgt := 23) hx hb dX5_begin_10 (by decide) (fun c_5 => ?_) (fun c_5 => ?_)
      · refine lv_aload_n hx hb dX5_begin_23 rfl (lv_at hl 0 rfl) ?_
        refine va_get (D := D) (ci := 5) (v := .ref (a 4)) (C := RX5) (T := TX5) (N := 4) hx hb hts hi_X5 hown hK hP 0 rfl rfl 1 (by decide) hf_19 (fun _ h9 => h9) rfl dX5_begin_24 ?_
        have hPc := hP.sub (ws' := [((a 4), .inr (2, [.int hm, .int aw, .int tk, .ref (a 5), .ref (a 6), .ref (a 7), .ref (a 8), .ref (a 13)]))]) [1] rfl
        refine va_calli (va_runV (As := []) (rest := []) ⟨hx, hb, hml, hown, hts⟩ (c_X2_isPlayed l D cI cZ cJ cA H.size a hm aw tk) (cwV 0 hts gX5_begin_X2_isPlayed rfl rfl rfl (by decide +kernel) ⟨Nat.le_of_ble_eq_true rfl, Nat.le_of_ble_eq_true rfl⟩) ⟨pcR_bl, va_recv hK hPc (ci := 2) (q0 := 0) rfl rfl, fun U hU hW => ⟨rfl, by rw [hU], by rw [hU]; exact hPc, va_K.moved hW.alike hK⟩⟩ rfl rfl hl.1 rfl (lv_room (Nat.le_of_ble_eq_true rfl)) dX5_begin_27 ⟨Nat.le_of_ble_eq_true rfl, Nat.le_of_ble_eq_true rfl⟩) hS (fun _ h1 h2 => absurd h1 (Nat.not_lt.mpr h2)) (rd_free hS hAR) (fun r_6 u t H locs ht hvm hw hB hz1 hk1 hS => ?_)
        try dsimp only at hw
        have hr_6 := hw
        have hP := rd_P hP hk1
        obtain rfl := hr_6.symm
        refine W.widen (k := 2) (n := 12) (Nat.le_refl _) (Nat.le_refl _) ?_
        refine lv_if_eq (tgt := 43) hx hb dX5_begin_30 (by decide) (fun c_7 => ?_) (fun c_7 => ?_)
        · refine lv_aload_n hx hb dX5_begin_43 rfl (lv_at hl 0 rfl) ?_
          refine va_get (D := D) (ci := 5) (v := .ref (a 4)) (C := RX5) (T := TX5) (N := 4) hx hb hts hi_X5 hown hK hP 0 rfl rfl 1 (by decide) hf_19 (fun _ h9 => h9) rfl dX5_begin_44 ?_
          refine lv_iload_n hx hb dX5_begin_47 rfl (lv_at hl 1 rfl) ?_
          refine lv_iload_n hx hb dX5_begin_48 rfl (lv_at hl 2 rfl) ?_
          have hPc := hP.sub (ws' := [((a 4), .inr (2, [.int hm, .int aw, .int tk, .ref (a 5), .ref (a 6), .ref (a 7), .ref (a 8), .ref (a 13)])), ((a 5), .inl (cI, 6, .inl ce)), ((a 6), .inl (cI, 6, .inl hi)), ((a 7), .inl (cI, 6, .inl la)), ((a 8), .inr (3, [.int (nI sn), .ref (a 9), .ref (a 10), .ref (a 11), .ref (a 12)])), ((a 13), .inr (0, [.int (nI kn), .ref (a 14), .ref (a 15), .ref (a 16), .ref (a 17)]))]) [1, 2, 3, 4, 5, 6] rfl
          have hS := va_S_mono hS hA
          have hDc := hD.sub (ws' := [((a 4), .inr (2, [.int hm, .int aw, .int tk, .ref (a 5), .ref (a 6), .ref (a 7), .ref (a 8), .ref (a 13)])), ((a 5), .inl (cI, 6, .inl ce)), ((a 6), .inl (cI, 6, .inl hi)), ((a 7), .inl (cI, 6, .inl la)), ((a 8), .inr (3, [.int (nI sn), .ref (a 9), .ref (a 10), .ref (a 11), .ref (a 12)])), ((a 13), .inr (0, [.int (nI kn), .ref (a 14), .ref (a 15), .ref (a 16), .ref (a 17)]))]) [1, 2, 3, 4, 5, 6] (by decide) rfl
          have hFc := va_free (wc := [((a 4), .inr (2, [.int hm, .int aw, .int tk, .ref (a 5), .ref (a 6), .ref (a 7), .ref (a 8), .ref (a 13)])), ((a 5), .inl (cI, 6, .inl ce)), ((a 6), .inl (cI, 6, .inl hi)), ((a 7), .inl (cI, 6, .inl la)), ((a 8), .inr (3, [.int (nI sn), .ref (a 9), .ref (a 10), .ref (a 11), .ref (a 12)])), ((a 13), .inr (0, [.int (nI kn), .ref (a 14), .ref (a 15), .ref (a 16), .ref (a 17)]))]) hD hS hA [1, 2, 3, 4, 5, 6] rfl
          refine va_callv (va_runV (As := [.int p1, .int p2]) (rest := []) ⟨hx, hb, hml, hown, hts⟩ (c_X2_start l D cI cZ cJ cA H.size a hm aw tk ce hi la sn kn p1 p2) (cwV 2 hts gX5_begin_X2_start rfl rfl rfl (by decide +kernel) ⟨Nat.le_of_ble_eq_true rfl, Nat.le_of_ble_eq_true rfl⟩) ⟨pcW_bl, va_recv hK hPc (ci := 2) (q0 := 0) rfl rfl, fun U hU hW => ⟨rfl, by rw [hU], by rw [hU]; exact hPc, va_K.moved hW.alike hK, hDc.weaken (fun _ _ _ _ => trivial)⟩⟩ rfl rfl hl.1 rfl (lv_room (Nat.le_of_ble_eq_true rfl)) dX5_begin_49 ⟨Nat.le_of_ble_eq_true rfl, Nat.le_of_ble_eq_true rfl⟩) hS (fun q _ h => hFc q h) hFc (fun u t H locs ht hvm hw hB hz1 hk1 hS => ?_)
          try dsimp only at hw
          obtain ⟨u0_8, u1_8, u2_8, u3_8, u4_8, u5_8, u6_8, u7_8⟩ := u
          try dsimp only at hw
          obtain ⟨hu0_8, hu1_8, hu2_8, hu3_8, hu4_8, hu5_8, hu6_8, hu7_8⟩ := hw
          obtain ⟨hP1, hK1, hD1⟩ := hB
          rw [ht] at hP1
          obtain ⟨hP, hD⟩ := va_join (wr := [((a 0), .inr (5, [.ref (a 2), .ref (a 4), .ref (a 18), .ref (a 1)]))]) (w1 := [((a 4), .inr (2, [.int u0_8, .int u1_8, .int u2_8, .ref (a 5), .ref (a 6), .ref (a 7), .ref (a 8), .ref (a 13)])), ((a 5), .inl (cI, 6, .inl u3_8)), ((a 6), .inl (cI, 6, .inl u4_8)), ((a 7), .inl (cI, 6, .inl u5_8)), ((a 8), .inr (3, [.int (nI u6_8), .ref (a 9), .ref (a 10), .ref (a 11), .ref (a 12)])), ((a 13), .inr (0, [.int (nI u7_8), .ref (a 14), .ref (a 15), .ref (a 16), .ref (a 17)]))]) hP hD [1, 2, 3, 4, 5, 6] [0] rfl rfl (by decide) (by decide) hk1 hFc hP1 hD1
          obtain rfl := hu0_8.symm
          obtain rfl := hu1_8.symm
          obtain rfl := hu2_8.symm
          obtain rfl := hu3_8.symm
          obtain rfl := hu4_8.symm
          obtain rfl := hu5_8.symm
          obtain rfl := hu6_8.symm
          obtain rfl := hu7_8.symm
          have hP : va_P D vwCl [((a 0), .inr (5, [.ref (a 2), .ref (a 4), .ref (a 18), .ref (a 1)])), ((a 4), .inr (2, [.int p1, .int p2, .int 0, .ref (a 5), .ref (a 6), .ref (a 7), .ref (a 8), .ref (a 13)])), ((a 5), .inl (cI, 6, .inl (fillN ce (-1) 6))), ((a 6), .inl (cI, 6, .inl (fillN hi (-1) 6))), ((a 7), .inl (cI, 6, .inl (fillN la (-1) 6))), ((a 8), .inr (3, [.int (nI 0), .ref (a 9), .ref (a 10), .ref (a 11), .ref (a 12)])), ((a 13), .inr (0, [.int (nI 0), .ref (a 14), .ref (a 15), .ref (a 16), .ref (a 17)]))] H := hP
          have hD : va_D A [((a 0), .inr (5, [.ref (a 2), .ref (a 4), .ref (a 18), .ref (a 1)])), ((a 4), .inr (2, [.int p1, .int p2, .int 0, .ref (a 5), .ref (a 6), .ref (a 7), .ref (a 8), .ref (a 13)])), ((a 5), .inl (cI, 6, .inl (fillN ce (-1) 6))), ((a 6), .inl (cI, 6, .inl (fillN hi (-1) 6))), ((a 7), .inl (cI, 6, .inl (fillN la (-1) 6))), ((a 8), .inr (3, [.int (nI 0), .ref (a 9), .ref (a 10), .ref (a 11), .ref (a 12)])), ((a 13), .inr (0, [.int (nI 0), .ref (a 14), .ref (a 15), .ref (a 16), .ref (a 17)]))] := hD
          refine W.widen (k := 2) (n := 12) (Nat.le_refl _) (Nat.le_refl _) ?_
          have hP9 := hP.sub (ws' := [((a 0), .inr (5, [.ref (a 2), .ref (a 4), .ref (a 18), .ref (a 1)])), ((a 4), .inr (2, [.int p1, .int p2, .int 0, .ref (a 5), .ref (a 6), .ref (a 7), .ref (a 8), .ref (a 13)])), ((a 5), .inl (cI, 6, .inl (fillN ce (-1) 6))), ((a 6), .inl (cI, 6, .inl (fillN hi (-1) 6))), ((a 7), .inl (cI, 6, .inl (fillN la (-1) 6))), ((a 8), .inr (3, [.int (nI 0), .ref (a 9), .ref (a 10), .ref (a 11), .ref (a 12)])), ((a 13), .inr (0, [.int (nI 0), .ref (a 14), .ref (a 15), .ref (a 16), .ref (a 17)]))]) [0, 1, 2, 3, 4, 5, 6] rfl
          have hD9 := hD.sub (ws' := [((a 0), .inr (5, [.ref (a 2), .ref (a 4), .ref (a 18), .ref (a 1)])), ((a 4), .inr (2, [.int p1, .int p2, .int 0, .ref (a 5), .ref (a 6), .ref (a 7), .ref (a 8), .ref (a 13)])), ((a 5), .inl (cI, 6, .inl (fillN ce (-1) 6))), ((a 6), .inl (cI, 6, .inl (fillN hi (-1) 6))), ((a 7), .inl (cI, 6, .inl (fillN la (-1) 6))), ((a 8), .inr (3, [.int (nI 0), .ref (a 9), .ref (a 10), .ref (a 11), .ref (a 12)])), ((a 13), .inr (0, [.int (nI 0), .ref (a 14), .ref (a 15), .ref (a 16), .ref (a 17)]))]) [0, 1, 2, 3, 4, 5, 6] (by decide) rfl
          -- leaf 2
          refine W.widen (k := 3) (n := 18) (Nat.le_of_ble_eq_true rfl) (Nat.le_of_ble_eq_true rfl) ?_
          exact vx_ret (W.vret hx hb hr (fun t ht hW => ⟨⟨(p1, p2, 0, (fillN ce (-1) 6), (fillN hi (-1) 6), (fillN la (-1) 6), 0, 0), rfl, ⟨(by rw [k_X5_begin, if_pos hk_1, if_pos hk_3, if_neg c_5, if_pos c_7]), rfl, rfl, rfl, rfl, rfl, rfl, rfl, rfl⟩, by rw [ht]; exact hP9, va_K.moved hW.alike hK, hD9⟩, hS.F ht⟩) hS.2.2 dX5_begin_52)
        · exact vx_throwS (A := (fun q : Nat => s.heap.size ≤ q)) hx hb hlt hown (by decide +kernel) (by decide +kernel) hcl_42 hie_3 (hE.s44) hat_46 (by decide +kernel) hE.u hE.n hS (hl.1.trans hml.symm) dX5_begin_33 dX5_begin_36 dX5_begin_37 dX5_begin_39 dX5_begin_42 (fun x h => absurd h (hT0 x)) (Nat.le_of_ble_eq_true rfl) (Nat.le_of_ble_eq_true rfl) (Nat.le_of_ble_eq_true rfl) (Nat.le_of_ble_eq_true rfl) hlocks (fun t1 h1 h2 h3 => ⟨(), trivial, thr_3 (by rw [k_X5_begin, if_pos hk_1, if_pos hk_3, if_neg c_5, if_neg c_7]), va_F_of hS h2 h3⟩) (fun z hz => hA _ (hS.2.2 z hz)) (Nat.le_of_ble_eq_true rfl) (Nat.le_of_ble_eq_true rfl)
      · exact vx_throwS (A := (fun q : Nat => s.heap.size ≤ q)) hx hb hlt hown (by decide +kernel) (by decide +kernel) hcl_67 hie_2 (hE.s69) hat_71 (by decide +kernel) hE.u hE.n hS (hl.1.trans hml.symm) dX5_begin_13 dX5_begin_16 dX5_begin_17 dX5_begin_19 dX5_begin_22 (fun x h => absurd h (hT0 x)) (Nat.le_of_ble_eq_true rfl) (Nat.le_of_ble_eq_true rfl) (Nat.le_of_ble_eq_true rfl) (Nat.le_of_ble_eq_true rfl) hlocks (fun t1 h1 h2 h3 => ⟨(), trivial, thr_2 (by rw [k_X5_begin, if_pos hk_1, if_pos hk_3, if_pos c_5]), va_F_of hS h2 h3⟩) (fun z hz => hA _ (hS.2.2 z hz)) (Nat.le_of_ble_eq_true rfl) (Nat.le_of_ble_eq_true rfl)

noncomputable def k_X5_move (bk : Nat → Int32) (hm : Int32) (aw : Int32) (tk : Int32) (ce : Nat → Int32) (p1 : Int32) (p2 : Int32) : Int32 := if (k_X5_checkPlayer p1) = 0 then (if (k_X5_checkCell p2) = 0 then (if (k_X5_checkRound hm aw tk) = 0 then (if (ce p1.toNatClampNeg) = (-2) then 3 else (if (ce p1.toNatClampNeg) < 0 then (if (bk p2.toNatClampNeg) = 0 then (if (pOn ce p2) = (-1) then 0 else 3) else 3) else (if (f_X1_distance (ce p1.toNatClampNeg) p2) = 1 then (if (bk p2.toNatClampNeg) = 0 then (if (pOn ce p2) = (-1) then 0 else 3) else 3) else 3))) else k_X5_checkRound hm aw tk) else k_X5_checkCell p2) else k_X5_checkPlayer p1
set_option maxHeartbeats 4000000 in
set_option maxRecDepth 100000 in
theorem c_X5_move (l : Launch) (hlt : l.stackTraces = false) (D : va_G) (cI cZ cJ cA : ClassId) (sx : Nat → Nat) (sz : Nat) (a : Nat → Nat) (bk : Nat → Int32) (hm : Int32) (aw : Int32) (tk : Int32) (ce : Nat → Int32) (p1 : Int32) (p2 : Int32) (hz : ∀ j : Nat, bk j = 0 ∨ bk j = 1) : vx_Met l yX5_move wsX5_move ({ frames := 7, cells := 4, slots := 24, locals := 110 } : Room) (va_Pc [.ref (a 0), .int p1, .int p2] (pcX (pcW D (tyL cI cZ cJ cA) [((a 0), .inr (5, [.ref (a 2), .ref (a 4), .ref (a 18), .ref (a 1)])), ((a 4), .inr (2, [.int hm, .int aw, .int tk, .ref (a 5), .ref (a 6), .ref (a 7), .ref (a 8), .ref (a 13)])), ((a 5), .inl (cI, 6, .inl ce)), ((a 2), .inr (1, [.ref (a 3)])), ((a 3), .inl (cZ, 144, .inl bk))] sz) sx (va_A [((a 0), .inr (5, [.ref (a 2), .ref (a 4), .ref (a 18), .ref (a 1)])), ((a 4), .inr (2, [.int hm, .int aw, .int tk, .ref (a 5), .ref (a 6), .ref (a 7), .ref (a 8), .ref (a 13)])), ((a 5), .inl (cI, 6, .inl ce)), ((a 2), .inr (1, [.ref (a 3)])), ((a 3), .inl (cZ, 144, .inl bk))] sz))) (va_Qi (fun (r : Int32) (u : (Nat → Int32)) => (k_X5_move bk hm aw tk ce p1 p2) = 0 ∧ r = ce p1.toNatClampNeg ∧ u = (upd ce p1.toNatClampNeg p2)) (fun u t => bcW D (tyL cI cZ cJ cA) (va_A [((a 0), .inr (5, [.ref (a 2), .ref (a 4), .ref (a 18), .ref (a 1)])), ((a 4), .inr (2, [.int hm, .int aw, .int tk, .ref (a 5), .ref (a 6), .ref (a 7), .ref (a 8), .ref (a 13)])), ((a 5), .inl (cI, 6, .inl ce)), ((a 2), .inr (1, [.ref (a 3)])), ((a 3), .inl (cZ, 144, .inl bk))] sz) [((a 0), .inr (5, [.ref (a 2), .ref (a 4), .ref (a 18), .ref (a 1)])), ((a 4), .inr (2, [.int hm, .int aw, .int tk, .ref (a 5), .ref (a 6), .ref (a 7), .ref (a 8), .ref (a 13)])), ((a 5), .inl (cI, 6, .inl u)), ((a 2), .inr (1, [.ref (a 3)])), ((a 3), .inl (cZ, 144, .inl bk))] t) (va_A [((a 0), .inr (5, [.ref (a 2), .ref (a 4), .ref (a 18), .ref (a 1)])), ((a 4), .inr (2, [.int hm, .int aw, .int tk, .ref (a 5), .ref (a 6), .ref (a 7), .ref (a 8), .ref (a 13)])), ((a 5), .inl (cI, 6, .inl ce)), ((a 2), .inr (1, [.ref (a 3)])), ((a 3), .inl (cZ, 144, .inl bk))] sz)) (vx_X (fun _ : Unit => True) (fun E _ _ => thr E (k_X5_move bk hm aw tk ce p1 p2)) (fun q : Nat => sz ≤ q)) 4 24 (va_A [((a 0), .inr (5, [.ref (a 2), .ref (a 4), .ref (a 18), .ref (a 1)])), ((a 4), .inr (2, [.int hm, .int aw, .int tk, .ref (a 5), .ref (a 6), .ref (a 7), .ref (a 8), .ref (a 13)])), ((a 5), .inl (cI, 6, .inl ce)), ((a 2), .inr (1, [.ref (a 3)])), ((a 3), .inl (cZ, 144, .inl bk))] sz) := by
  refine vx_ofW (cc := cX5_move) (maxL := 4) (ret := (some .int)) (by decide) rfl ?_
  intro p e s m args below meth c s₁ B hml hT0 hv
  obtain ⟨rfl, ⟨hsz, hP, hK, hD0⟩, hE⟩ := hv
  have hx := B.exec
  have hb := B.bytes
  have hr := B.returns
  have hts := atoms_spec (ws := wsX5_move) B.pre
  have hown : s.vm.findClass RX5 = some m.cls := findClass_of_methodNamed B.named
  have hlocks := B.notSynchronized
  subst hsz
  have hD := hD0.self (sz := s.heap.size)
  have hE := hE.narrow (B := fun q : Nat => s.heap.size ≤ q) (fun q h => Or.inr h)
  generalize hAe : va_A [((a 0), .inr (5, [.ref (a 2), .ref (a 4), .ref (a 18), .ref (a 1)])), ((a 4), .inr (2, [.int hm, .int aw, .int tk, .ref (a 5), .ref (a 6), .ref (a 7), .ref (a 8), .ref (a 13)])), ((a 5), .inl (cI, 6, .inl ce)), ((a 2), .inr (1, [.ref (a 3)])), ((a 3), .inl (cZ, 144, .inl bk))] s.heap.size = A at hD ⊢
  have hA : ∀ q : Nat, s.heap.size ≤ q → A q := fun q h => by rw [← hAe]; exact Or.inr h
  have hAR : ∀ q : Nat, s.heap.size ≤ q → (fun q : Nat => s.heap.size ≤ q) q := fun _ h => h
  have hS : va_S (fun q : Nat => s.heap.size ≤ q) s.heap s.heap [] := va_S.rf
  have hP : va_P D vwCl [((a 0), .inr (5, [.ref (a 2), .ref (a 4), .ref (a 18), .ref (a 1)])), ((a 4), .inr (2, [.int hm, .int aw, .int tk, .ref (a 5), .ref (a 6), .ref (a 7), .ref (a 8), .ref (a 13)])), ((a 5), .inl (cI, 6, .inl ce)), ((a 2), .inr (1, [.ref (a 3)])), ((a 3), .inl (cZ, 144, .inl bk))] s.heap := hP
  have hl := lv_entry ([.ref (a 0), .int p1, .int p2]) (n := 4) (Nat.le_of_ble_eq_true rfl)
  rw [lg_entry_eq]
  generalize (lg_sl ([.ref (a 0), .int p1, .int p2]) ++ List.replicate (4 - (lg_sl ([.ref (a 0), .int p1, .int p2])).length) Slot.unset).toArray = ls at hl ⊢
  have hl : lv_has ls 4 [(0, .ref (a 0)), (1, .int p1), (2, .int p2)] := hl
  have hf_19 := hts (.fieldLink RX5 19 "PaintballAtlas" "round" "LPaintballAtlas$Round;") (by decide +kernel)
  have hi_X5 : ∀ w ∈ wsX50, w ∈ wsX5_move := by decide +kernel
  have hf_12 := hts (.fieldLink RX5 12 "PaintballAtlas" "field" "LPaintballAtlas$Field;") (by decide +kernel)
  have hcl_42 := hts (.classLink RX5 42 "java/lang/IllegalStateException") (by decide +kernel)
  have hie_3 := hts (.initialized "java/lang/IllegalStateException") (by decide +kernel)
  have hat_46 : ∀ w ∈ (vx_atS RX5 46 "java/lang/IllegalStateException" ["java/lang/RuntimeException", "java/lang/Exception"]), w.before ([.ref (a 0), .int p1, .int p2] : List Value).toArray s = true := vx_hat (L := (vx_atS RX5 46 "java/lang/IllegalStateException" ["java/lang/RuntimeException", "java/lang/Exception"])) (B := [.castable "java/lang/IllegalStateException" "java/lang/IllegalStateException", .declares ⟨"java/lang/RuntimeException", "<init>", "(Ljava/lang/String;)V"⟩, .declares ⟨"java/lang/Exception", "<init>", "(Ljava/lang/String;)V"⟩, .declares ⟨"java/lang/Throwable", "<init>", "(Ljava/lang/String;)V"⟩]) (fun w hw => hts w ((by decide +kernel : ∀ w ∈ (vx_atS RX5 46 "java/lang/IllegalStateException" ["java/lang/RuntimeException", "java/lang/Exception"]).filter goodWord, w ∈ wsX5_move) w hw)) (by decide +kernel) (vx_c (va_Nw.use rfl hE.n3) (vx_c (va_Nw.use rfl hE.d1) (vx_c (va_Nw.use rfl hE.d2) (vx_c (va_Nw.use rfl hE.d3) vx_n))))
  refine lv_iload_n hx hb dX5_move_0 rfl (lv_at hl 1 rfl) ?_
  have hPc := hP.sub (ws' := []) [] rfl
  refine vx_callv (vx_runS (As := [.int p1]) (rest := []) ⟨hx, hb, hml, hown, hts⟩ (c_X5_checkPlayer l hlt D cI cZ cJ cA sx s.heap.size p1) (va_cwS 1 hts gX5_move_X5_checkPlayer rfl rfl rfl (by decide +kernel) ⟨Nat.le_of_ble_eq_true rfl, Nat.le_of_ble_eq_true rfl⟩) ⟨pcXR_bl, fun U hU hW => ⟨rfl, ⟨by rw [hU], by rw [hU]; exact hPc, va_K.moved hW.alike hK⟩, hE.call hS (rd_free hS hAR) hU hW⟩⟩ rfl rfl hl.1 rfl (lv_room (Nat.le_of_ble_eq_true rfl)) dX5_move_1 ⟨Nat.le_of_ble_eq_true rfl, Nat.le_of_ble_eq_true rfl⟩) hS (fun _ h1 h2 => absurd h1 (Nat.not_lt.mpr h2)) (rd_free hS hAR) (fun _ h1 h2 => absurd h1 (Nat.not_lt.mpr h2)) (fun E cel q9 u t H locs ht hvm hpx hb1 hz1 hk1 hS hce hcv hcl => ?_) (fun u t H locs ht hvm hw hB hz1 hk1 hS => ?_)
  · have c_2 : ¬ (k_X5_checkPlayer p1) = 0 := thr_ne hb1
    refine vx_widen (k := 4) (n := 24) (Nat.le_of_ble_eq_true rfl) (Nat.le_of_ble_eq_true rfl) ?_
    refine vx_out (fun x h => absurd h (hT0 x)) hlocks hce hcv hcl (fun t1 ht1 _ => ⟨(), trivial, thr_eq (by rw [k_X5_move, if_neg c_2]) hb1, hS.F ht1⟩) (fun z hz => hA _ (hS.2.2 z hz)) (Nat.le_refl _) (Nat.le_refl _)
  · try dsimp only at hw
    have hk_1 := hw
    have hP := rd_P hP hk1
    refine W.widen (k := 1) (n := 6) (Nat.le_refl _) (Nat.le_refl _) ?_
    have hv_1 := kin_checkPlayer hk_1
    refine lv_iload_n hx hb dX5_move_4 rfl (lv_at hl 2 rfl) ?_
    have hPc := hP.sub (ws' := []) [] rfl
    refine vx_callv (vx_runS (As := [.int p2]) (rest := []) ⟨hx, hb, hml, hown, hts⟩ (c_X5_checkCell l hlt D cI cZ cJ cA sx H.size p2) (va_cwS 1 hts gX5_move_X5_checkCell rfl rfl rfl (by decide +kernel) ⟨Nat.le_of_ble_eq_true rfl, Nat.le_of_ble_eq_true rfl⟩) ⟨pcXR_bl, fun U hU hW => ⟨rfl, ⟨by rw [hU], by rw [hU]; exact hPc, va_K.moved hW.alike hK⟩, hE.call hS (rd_free hS hAR) hU hW⟩⟩ rfl rfl hl.1 rfl (lv_room (Nat.le_of_ble_eq_true rfl)) dX5_move_5 ⟨Nat.le_of_ble_eq_true rfl, Nat.le_of_ble_eq_true rfl⟩) hS (fun _ h1 h2 => absurd h1 (Nat.not_lt.mpr h2)) (rd_free hS hAR) (fun _ h1 h2 => absurd h1 (Nat.not_lt.mpr h2)) (fun E cel q9 u t H locs ht hvm hpx hb1 hz1 hk1 hS hce hcv hcl => ?_) (fun u t H locs ht hvm hw hB hz1 hk1 hS => ?_)
    · have c_4 : ¬ (k_X5_checkCell p2) = 0 := thr_ne hb1
      refine vx_widen (k := 4) (n := 24) (Nat.le_of_ble_eq_true rfl) (Nat.le_of_ble_eq_true rfl) ?_
      refine vx_out (fun x h => absurd h (hT0 x)) hlocks hce hcv hcl (fun t1 ht1 _ => ⟨(), trivial, thr_eq (by rw [k_X5_move, if_pos hk_1, if_neg c_4]) hb1, hS.F ht1⟩) (fun z hz => hA _ (hS.2.2 z hz)) (Nat.le_refl _) (Nat.le_refl _)
    · try dsimp only at hw
      have hk_3 := hw
      have hP := rd_P hP hk1
      refine W.widen (k := 2) (n := 12) (Nat.le_refl _) (Nat.le_refl _) ?_
      have hv_3 := kin_checkCell hk_3
      refine lv_aload_n hx hb dX5_move_8 rfl (lv_at hl 0 rfl) ?_
      have hPc := hP.sub (ws' := [((a 0), .inr (5, [.ref (a 2), .ref (a 4), .ref (a 18), .ref (a 1)])), ((a 4), .inr (2, [.int hm, .int aw, .int tk, .ref (a 5), .ref (a 6), .ref (a 7), .ref (a 8), .ref (a 13)]))]) [0, 1] rfl
      refine vx_callv (vx_runV (As := []) (rest := []) ⟨hx, hb, hml, hown, hts⟩ (c_X5_checkRound l hlt D cI cZ cJ cA sx H.size a hm aw tk) (cwV 0 hts gX5_move_X5_checkRound rfl rfl rfl (by decide +kernel) ⟨Nat.le_of_ble_eq_true rfl, Nat.le_of_ble_eq_true rfl⟩) ⟨pcXR_bl, va_recv hK hPc (ci := 5) (q0 := 0) rfl rfl, fun U hU hW => ⟨rfl, ⟨by rw [hU], by rw [hU]; exact hPc, va_K.moved hW.alike hK⟩, hE.call hS (rd_free hS hAR) hU hW⟩⟩ rfl rfl hl.1 rfl (lv_room (Nat.le_of_ble_eq_true rfl)) dX5_move_9 ⟨Nat.le_of_ble_eq_true rfl, Nat.le_of_ble_eq_true rfl⟩) hS (fun _ h1 h2 => absurd h1 (Nat.not_lt.mpr h2)) (rd_free hS hAR) (fun _ h1 h2 => absurd h1 (Nat.not_lt.mpr h2)) (fun E cel q9 u t H locs ht hvm hpx hb1 hz1 hk1 hS hce hcv hcl => ?_) (fun u t H locs ht hvm hw hB hz1 hk1 hS => ?_)
      · have c_6 : ¬ (k_X5_checkRound hm aw tk) = 0 := thr_ne hb1
        refine vx_widen (k := 4) (n := 24) (Nat.le_of_ble_eq_true rfl) (Nat.le_of_ble_eq_true rfl) ?_
        refine vx_out (fun x h => absurd h (hT0 x)) hlocks hce hcv hcl (fun t1 ht1 _ => ⟨(), trivial, thr_eq (by rw [k_X5_move, if_pos hk_1, if_pos hk_3, if_neg c_6]) hb1, hS.F ht1⟩) (fun z hz => hA _ (hS.2.2 z hz)) (Nat.le_refl _) (Nat.le_refl _)
      · try dsimp only at hw
        have hk_5 := hw
        have hP := rd_P hP hk1
        refine W.widen (k := 3) (n := 18) (Nat.le_refl _) (Nat.le_refl _) ?_
        refine lv_aload_n hx hb dX5_move_12 rfl (lv_at hl 0 rfl) ?_
        refine va_get (D := D) (ci := 5) (v := .ref (a 4)) (C := RX5) (T := TX5) (N := 4) hx hb hts hi_X5 hown hK hP 0 rfl rfl 1 (by decide) hf_19 (fun _ h9 => h9) rfl dX5_move_13 ?_
        refine lv_iload_n hx hb dX5_move_16 rfl (lv_at hl 1 rfl) ?_
        have hPc := hP.sub (ws' := [((a 4), .inr (2, [.int hm, .int aw, .int tk, .ref (a 5), .ref (a 6), .ref (a 7), .ref (a 8), .ref (a 13)])), ((a 5), .inl (cI, 6, .inl ce))]) [1, 2] rfl
        refine va_calli (va_runV (As := [.int p1]) (rest := []) ⟨hx, hb, hml, hown, hts⟩ (c_X2_cellOf l D cI cZ cJ cA H.size a hm aw tk ce p1 (by assumption)) (cwV 1 hts gX5_move_X2_cellOf rfl rfl rfl (by decide +kernel) ⟨Nat.le_of_ble_eq_true rfl, Nat.le_of_ble_eq_true rfl⟩) ⟨pcR_bl, va_recv hK hPc (ci := 2) (q0 := 0) rfl rfl, fun U hU hW => ⟨rfl, by rw [hU], by rw [hU]; exact hPc, va_K.moved hW.alike hK⟩⟩ rfl rfl hl.1 rfl (lv_room (Nat.le_of_ble_eq_true rfl)) dX5_move_17 ⟨Nat.le_of_ble_eq_true rfl, Nat.le_of_ble_eq_true rfl⟩) hS (fun _ h1 h2 => absurd h1 (Nat.not_lt.mpr h2)) (rd_free hS hAR) (fun r_7 u t H locs ht hvm hw hB hz1 hk1 hS => ?_)
        try dsimp only at hw
        have hr_7 := hw
        have hP := rd_P hP hk1
        obtain rfl := hr_7.symm
        refine W.widen (k := 3) (n := 18) (Nat.le_refl _) (Nat.le_refl _) ?_
        refine lv_istore_n (lv' := [(3, .int (ce p1.toNatClampNeg)), (0, .ref (a 0)), (1, .int p1), (2, .int p2)]) hx hb dX5_move_20 rfl hl (by decide) rfl (fun ls hl => ?_)
        refine lv_iload_n hx hb dX5_move_21 rfl (lv_at hl 0 rfl) ?_
        refine lv_bipush (v := (-2)) hx hb dX5_move_22 (by decide) ?_
        refine lv_icmp_ne (tgt := 37) hx hb dX5_move_24 (by decide) (fun c_8 => ?_) (fun c_8 => ?_)
        · refine lv_iload_n hx hb dX5_move_37 rfl (lv_at hl 0 rfl) ?_
          refine lv_if_lt (tgt := 60) hx hb dX5_move_38 (by decide) (fun c_9 => ?_) (fun c_9 => ?_)
          · refine lv_aload_n hx hb dX5_move_60 rfl (lv_at hl 1 rfl) ?_
            refine va_get (D := D) (ci := 5) (v := .ref (a 2)) (C := RX5) (T := TX5) (N := 4) hx hb hts hi_X5 hown hK hP 0 rfl rfl 0 (by decide) hf_12 (fun _ h9 => h9) rfl dX5_move_61 ?_
            refine lv_iload_n hx hb dX5_move_64 rfl (lv_at hl 3 rfl) ?_
            have hPc := hP.sub (ws' := [((a 2), .inr (1, [.ref (a 3)])), ((a 3), .inl (cZ, 144, .inl bk))]) [3, 4] rfl
            refine va_calli (va_runV (As := [.int p2]) (rest := []) ⟨hx, hb, hml, hown, hts⟩ (c_X1_hasBunker l D cI cZ cJ cA H.size a bk p2 (by assumption) (by first | assumption | omega)) (cwV 1 hts gX5_move_X1_hasBunker rfl rfl rfl (by decide +kernel) ⟨Nat.le_of_ble_eq_true rfl, Nat.le_of_ble_eq_true rfl⟩) ⟨pcR_bl, va_recv hK hPc (ci := 1) (q0 := 0) rfl rfl, fun U hU hW => ⟨rfl, by rw [hU], by rw [hU]; exact hPc, va_K.moved hW.alike hK⟩⟩ rfl rfl hl.1 rfl (lv_room (Nat.le_of_ble_eq_true rfl)) dX5_move_65 ⟨Nat.le_of_ble_eq_true rfl, Nat.le_of_ble_eq_true rfl⟩) hS (fun _ h1 h2 => absurd h1 (Nat.not_lt.mpr h2)) (rd_free hS hAR) (fun r_10 u t H locs ht hvm hw hB hz1 hk1 hS => ?_)
            try dsimp only at hw
            have hr_10 := hw
            have hP := rd_P hP hk1
            obtain rfl := hr_10.symm
            refine W.widen (k := 3) (n := 18) (Nat.le_refl _) (Nat.le_refl _) ?_
            refine lv_if_ne (tgt := 83) hx hb dX5_move_68 (by decide) (fun c_11 => ?_) (fun c_11 => ?_)
            · exact vx_throwS (A := (fun q : Nat => s.heap.size ≤ q)) hx hb hlt hown (by decide +kernel) (by decide +kernel) hcl_42 hie_3 (hE.s99) hat_46 (by decide +kernel) hE.u hE.n hS (hl.1.trans hml.symm) dX5_move_83 dX5_move_86 dX5_move_87 dX5_move_89 dX5_move_92 (fun x h => absurd h (hT0 x)) (Nat.le_of_ble_eq_true rfl) (Nat.le_of_ble_eq_true rfl) (Nat.le_of_ble_eq_true rfl) (Nat.le_of_ble_eq_true rfl) hlocks (fun t1 h1 h2 h3 => ⟨(), trivial, thr_3 (by rw [k_X5_move, if_pos hk_1, if_pos hk_3, if_pos hk_5, if_neg c_8, if_pos c_9, if_neg c_11]), va_F_of hS h2 h3⟩) (fun z hz => hA _ (hS.2.2 z hz)) (Nat.le_of_ble_eq_true rfl) (Nat.le_of_ble_eq_true rfl)
            · refine lv_aload_n hx hb dX5_move_71 rfl (lv_at hl 1 rfl) ?_
              refine va_get (D := D) (ci := 5) (v := .ref (a 4)) (C := RX5) (T := TX5) (N := 4) hx hb hts hi_X5 hown hK hP 0 rfl rfl 1 (by decide) hf_19 (fun _ h9 => h9) rfl dX5_move_72 ?_
              refine lv_iload_n hx hb dX5_move_75 rfl (lv_at hl 3 rfl) ?_
              have hPc := hP.sub (ws' := [((a 4), .inr (2, [.int hm, .int aw, .int tk, .ref (a 5), .ref (a 6), .ref (a 7), .ref (a 8), .ref (a 13)])), ((a 5), .inl (cI, 6, .inl ce))]) [1, 2] rfl
              refine va_calli (va_runV (As := [.int p2]) (rest := []) ⟨hx, hb, hml, hown, hts⟩ (c_X2_playerOn l D cI cZ cJ cA H.size a hm aw tk ce p2) (cwV 1 hts gX5_move_X2_playerOn rfl rfl rfl (by decide +kernel) ⟨Nat.le_of_ble_eq_true rfl, Nat.le_of_ble_eq_true rfl⟩) ⟨pcR_bl, va_recv hK hPc (ci := 2) (q0 := 0) rfl rfl, fun U hU hW => ⟨rfl, by rw [hU], by rw [hU]; exact hPc, va_K.moved hW.alike hK⟩⟩ rfl rfl hl.1 rfl (lv_room (Nat.le_of_ble_eq_true rfl)) dX5_move_76 ⟨Nat.le_of_ble_eq_true rfl, Nat.le_of_ble_eq_true rfl⟩) hS (fun _ h1 h2 => absurd h1 (Nat.not_lt.mpr h2)) (rd_free hS hAR) (fun r_12 u t H locs ht hvm hw hB hz1 hk1 hS => ?_)
              try dsimp only at hw
              have hr_12 := hw
              have hP := rd_P hP hk1
              obtain rfl := hr_12.symm
              refine W.widen (k := 3) (n := 18) (Nat.le_refl _) (Nat.le_refl _) ?_
              refine lv_iconst (v := (-1)) hx hb dX5_move_79 (by decide) ?_
              refine lv_icmp_eq (tgt := 93) hx hb dX5_move_80 (by decide) (fun c_13 => ?_) (fun c_13 => ?_)
              · refine lv_aload_n hx hb dX5_move_93 rfl (lv_at hl 1 rfl) ?_
                refine va_get (D := D) (ci := 5) (v := .ref (a 4)) (C := RX5) (T := TX5) (N := 4) hx hb hts hi_X5 hown hK hP 0 rfl rfl 1 (by decide) hf_19 (fun _ h9 => h9) rfl dX5_move_94 ?_
                refine lv_iload_n hx hb dX5_move_97 rfl (lv_at hl 2 rfl) ?_
                refine lv_iload_n hx hb dX5_move_98 rfl (lv_at hl 3 rfl) ?_
                have hPc := hP.sub (ws' := [((a 4), .inr (2, [.int hm, .int aw, .int tk, .ref (a 5), .ref (a 6), .ref (a 7), .ref (a 8), .ref (a 13)])), ((a 5), .inl (cI, 6, .inl ce))]) [1, 2] rfl
                have hS := va_S_mono hS hA
                have hDc := hD.sub (ws' := [((a 4), .inr (2, [.int hm, .int aw, .int tk, .ref (a 5), .ref (a 6), .ref (a 7), .ref (a 8), .ref (a 13)])), ((a 5), .inl (cI, 6, .inl ce))]) [1, 2] (by decide) rfl
                have hFc := va_free (wc := [((a 4), .inr (2, [.int hm, .int aw, .int tk, .ref (a 5), .ref (a 6), .ref (a 7), .ref (a 8), .ref (a 13)])), ((a 5), .inl (cI, 6, .inl ce))]) hD hS hA [1, 2] rfl
                refine va_callv (va_runV (As := [.int p1, .int p2]) (rest := []) ⟨hx, hb, hml, hown, hts⟩ (c_X2_put l D cI cZ cJ cA H.size a hm aw tk ce p1 p2 (by assumption)) (cwV 2 hts gX5_move_X2_put rfl rfl rfl (by decide +kernel) ⟨Nat.le_of_ble_eq_true rfl, Nat.le_of_ble_eq_true rfl⟩) ⟨pcW_bl, va_recv hK hPc (ci := 2) (q0 := 0) rfl rfl, fun U hU hW => ⟨rfl, by rw [hU], by rw [hU]; exact hPc, va_K.moved hW.alike hK, hDc.weaken (fun _ _ _ _ => trivial)⟩⟩ rfl rfl hl.1 rfl (lv_room (Nat.le_of_ble_eq_true rfl)) dX5_move_99 ⟨Nat.le_of_ble_eq_true rfl, Nat.le_of_ble_eq_true rfl⟩) hS (fun q _ h => hFc q h) hFc (fun u t H locs ht hvm hw hB hz1 hk1 hS => ?_)
                try dsimp only at hw
                obtain ⟨u0_14, rfl⟩ : ∃ z, z = u := ⟨_, rfl⟩
                have hu0_14 := hw
                obtain ⟨hP1, hK1, hD1⟩ := hB
                rw [ht] at hP1
                obtain ⟨hP, hD⟩ := va_join (wr := [((a 0), .inr (5, [.ref (a 2), .ref (a 4), .ref (a 18), .ref (a 1)])), ((a 2), .inr (1, [.ref (a 3)])), ((a 3), .inl (cZ, 144, .inl bk))]) (w1 := [((a 4), .inr (2, [.int hm, .int aw, .int tk, .ref (a 5), .ref (a 6), .ref (a 7), .ref (a 8), .ref (a 13)])), ((a 5), .inl (cI, 6, .inl u0_14))]) hP hD [1, 2] [0, 3, 4] rfl rfl (by decide) (by decide) hk1 hFc hP1 hD1
                obtain rfl := hu0_14.symm
                have hP : va_P D vwCl [((a 0), .inr (5, [.ref (a 2), .ref (a 4), .ref (a 18), .ref (a 1)])), ((a 2), .inr (1, [.ref (a 3)])), ((a 3), .inl (cZ, 144, .inl bk)), ((a 4), .inr (2, [.int hm, .int aw, .int tk, .ref (a 5), .ref (a 6), .ref (a 7), .ref (a 8), .ref (a 13)])), ((a 5), .inl (cI, 6, .inl (upd ce p1.toNatClampNeg p2)))] H := hP
                have hD : va_D A [((a 0), .inr (5, [.ref (a 2), .ref (a 4), .ref (a 18), .ref (a 1)])), ((a 2), .inr (1, [.ref (a 3)])), ((a 3), .inl (cZ, 144, .inl bk)), ((a 4), .inr (2, [.int hm, .int aw, .int tk, .ref (a 5), .ref (a 6), .ref (a 7), .ref (a 8), .ref (a 13)])), ((a 5), .inl (cI, 6, .inl (upd ce p1.toNatClampNeg p2)))] := hD
                refine W.widen (k := 3) (n := 18) (Nat.le_refl _) (Nat.le_refl _) ?_
                refine lv_iload_n hx hb dX5_move_102 rfl (lv_at hl 0 rfl) ?_
                have hP9 := hP.sub (ws' := [((a 0), .inr (5, [.ref (a 2), .ref (a 4), .ref (a 18), .ref (a 1)])), ((a 4), .inr (2, [.int hm, .int aw, .int tk, .ref (a 5), .ref (a 6), .ref (a 7), .ref (a 8), .ref (a 13)])), ((a 5), .inl (cI, 6, .inl (upd ce p1.toNatClampNeg p2))), ((a 2), .inr (1, [.ref (a 3)])), ((a 3), .inl (cZ, 144, .inl bk))]) [0, 3, 4, 1, 2] rfl
                have hD9 := hD.sub (ws' := [((a 0), .inr (5, [.ref (a 2), .ref (a 4), .ref (a 18), .ref (a 1)])), ((a 4), .inr (2, [.int hm, .int aw, .int tk, .ref (a 5), .ref (a 6), .ref (a 7), .ref (a 8), .ref (a 13)])), ((a 5), .inl (cI, 6, .inl (upd ce p1.toNatClampNeg p2))), ((a 2), .inr (1, [.ref (a 3)])), ((a 3), .inl (cZ, 144, .inl bk))]) [0, 3, 4, 1, 2] (by decide) rfl
                -- leaf 4
                refine W.widen (k := 4) (n := 24) (Nat.le_of_ble_eq_true rfl) (Nat.le_of_ble_eq_true rfl) ?_
                exact vx_ret (W.iret (v := ce p1.toNatClampNeg) hx hb hr (fun t ht hW => ⟨⟨ce p1.toNatClampNeg, ((upd ce p1.toNatClampNeg p2)), rfl, ⟨(by rw [k_X5_move, if_pos hk_1, if_pos hk_3, if_pos hk_5, if_neg c_8, if_pos c_9, if_pos c_11, if_pos c_13]), rfl, rfl⟩, by rw [ht]; exact hP9, va_K.moved hW.alike hK, hD9⟩, hS.F ht⟩) hS.2.2 dX5_move_103)
              · exact vx_throwS (A := (fun q : Nat => s.heap.size ≤ q)) hx hb hlt hown (by decide +kernel) (by decide +kernel) hcl_42 hie_3 (hE.s99) hat_46 (by decide +kernel) hE.u hE.n hS (hl.1.trans hml.symm) dX5_move_83 dX5_move_86 dX5_move_87 dX5_move_89 dX5_move_92 (fun x h => absurd h (hT0 x)) (Nat.le_of_ble_eq_true rfl) (Nat.le_of_ble_eq_true rfl) (Nat.le_of_ble_eq_true rfl) (Nat.le_of_ble_eq_true rfl) hlocks (fun t1 h1 h2 h3 => ⟨(), trivial, thr_3 (by rw [k_X5_move, if_pos hk_1, if_pos hk_3, if_pos hk_5, if_neg c_8, if_pos c_9, if_pos c_11, if_neg c_13]), va_F_of hS h2 h3⟩) (fun z hz => hA _ (hS.2.2 z hz)) (Nat.le_of_ble_eq_true rfl) (Nat.le_of_ble_eq_true rfl)
          · refine lv_iload_n hx hb dX5_move_41 rfl (lv_at hl 0 rfl) ?_
            refine lv_iload_n hx hb dX5_move_42 rfl (lv_at hl 3 rfl) ?_
            have hPc := hP.sub (ws' := []) [] rfl
            refine va_calli (va_runS (As := [.int (ce p1.toNatClampNeg), .int p2]) (rest := []) ⟨hx, hb, hml, hown, hts⟩ (c_X1_distance l D cI cZ cJ cA H.size (ce p1.toNatClampNeg) p2) (va_cwS 2 hts gX5_move_X1_distance rfl rfl rfl (by decide +kernel) ⟨Nat.le_of_ble_eq_true rfl, Nat.le_of_ble_eq_true rfl⟩) ⟨pcR_bl, fun U hU hW => ⟨rfl, by rw [hU], by rw [hU]; exact hPc, va_K.moved hW.alike hK⟩⟩ rfl rfl hl.1 rfl (lv_room (Nat.le_of_ble_eq_true rfl)) dX5_move_43 ⟨Nat.le_of_ble_eq_true rfl, Nat.le_of_ble_eq_true rfl⟩) hS (fun _ h1 h2 => absurd h1 (Nat.not_lt.mpr h2)) (rd_free hS hAR) (fun r_15 u t H locs ht hvm hw hB hz1 hk1 hS => ?_)
            try dsimp only at hw
            have hr_15 := hw
            have hP := rd_P hP hk1
            obtain rfl := hr_15.symm
            refine W.widen (k := 3) (n := 18) (Nat.le_refl _) (Nat.le_refl _) ?_
            refine lv_iconst (v := 1) hx hb dX5_move_46 (by decide) ?_
            refine lv_icmp_eq (tgt := 60) hx hb dX5_move_47 (by decide) (fun c_16 => ?_) (fun c_16 => ?_)
            · refine lv_aload_n hx hb dX5_move_60 rfl (lv_at hl 1 rfl) ?_
              refine va_get (D := D) (ci := 5) (v := .ref (a 2)) (C := RX5) (T := TX5) (N := 4) hx hb hts hi_X5 hown hK hP 0 rfl rfl 0 (by decide) hf_12 (fun _ h9 => h9) rfl dX5_move_61 ?_
              refine lv_iload_n hx hb dX5_move_64 rfl (lv_at hl 3 rfl) ?_
              have hPc := hP.sub (ws' := [((a 2), .inr (1, [.ref (a 3)])), ((a 3), .inl (cZ, 144, .inl bk))]) [3, 4] rfl
              refine va_calli (va_runV (As := [.int p2]) (rest := []) ⟨hx, hb, hml, hown, hts⟩ (c_X1_hasBunker l D cI cZ cJ cA H.size a bk p2 (by assumption) (by first | assumption | omega)) (cwV 1 hts gX5_move_X1_hasBunker rfl rfl rfl (by decide +kernel) ⟨Nat.le_of_ble_eq_true rfl, Nat.le_of_ble_eq_true rfl⟩) ⟨pcR_bl, va_recv hK hPc (ci := 1) (q0 := 0) rfl rfl, fun U hU hW => ⟨rfl, by rw [hU], by rw [hU]; exact hPc, va_K.moved hW.alike hK⟩⟩ rfl rfl hl.1 rfl (lv_room (Nat.le_of_ble_eq_true rfl)) dX5_move_65 ⟨Nat.le_of_ble_eq_true rfl, Nat.le_of_ble_eq_true rfl⟩) hS (fun _ h1 h2 => absurd h1 (Nat.not_lt.mpr h2)) (rd_free hS hAR) (fun r_17 u t H locs ht hvm hw hB hz1 hk1 hS => ?_)
              try dsimp only at hw
              have hr_17 := hw
              have hP := rd_P hP hk1
              obtain rfl := hr_17.symm
              refine W.widen (k := 3) (n := 18) (Nat.le_refl _) (Nat.le_refl _) ?_
              refine lv_if_ne (tgt := 83) hx hb dX5_move_68 (by decide) (fun c_18 => ?_) (fun c_18 => ?_)
              · exact vx_throwS (A := (fun q : Nat => s.heap.size ≤ q)) hx hb hlt hown (by decide +kernel) (by decide +kernel) hcl_42 hie_3 (hE.s99) hat_46 (by decide +kernel) hE.u hE.n hS (hl.1.trans hml.symm) dX5_move_83 dX5_move_86 dX5_move_87 dX5_move_89 dX5_move_92 (fun x h => absurd h (hT0 x)) (Nat.le_of_ble_eq_true rfl) (Nat.le_of_ble_eq_true rfl) (Nat.le_of_ble_eq_true rfl) (Nat.le_of_ble_eq_true rfl) hlocks (fun t1 h1 h2 h3 => ⟨(), trivial, thr_3 (by rw [k_X5_move, if_pos hk_1, if_pos hk_3, if_pos hk_5, if_neg c_8, if_neg c_9, if_pos c_16, if_neg c_18]), va_F_of hS h2 h3⟩) (fun z hz => hA _ (hS.2.2 z hz)) (Nat.le_of_ble_eq_true rfl) (Nat.le_of_ble_eq_true rfl)
              · refine lv_aload_n hx hb dX5_move_71 rfl (lv_at hl 1 rfl) ?_
                refine va_get (D := D) (ci := 5) (v := .ref (a 4)) (C := RX5) (T := TX5) (N := 4) hx hb hts hi_X5 hown hK hP 0 rfl rfl 1 (by decide) hf_19 (fun _ h9 => h9) rfl dX5_move_72 ?_
                refine lv_iload_n hx hb dX5_move_75 rfl (lv_at hl 3 rfl) ?_
                have hPc := hP.sub (ws' := [((a 4), .inr (2, [.int hm, .int aw, .int tk, .ref (a 5), .ref (a 6), .ref (a 7), .ref (a 8), .ref (a 13)])), ((a 5), .inl (cI, 6, .inl ce))]) [1, 2] rfl
                refine va_calli (va_runV (As := [.int p2]) (rest := []) ⟨hx, hb, hml, hown, hts⟩ (c_X2_playerOn l D cI cZ cJ cA H.size a hm aw tk ce p2) (cwV 1 hts gX5_move_X2_playerOn rfl rfl rfl (by decide +kernel) ⟨Nat.le_of_ble_eq_true rfl, Nat.le_of_ble_eq_true rfl⟩) ⟨pcR_bl, va_recv hK hPc (ci := 2) (q0 := 0) rfl rfl, fun U hU hW => ⟨rfl, by rw [hU], by rw [hU]; exact hPc, va_K.moved hW.alike hK⟩⟩ rfl rfl hl.1 rfl (lv_room (Nat.le_of_ble_eq_true rfl)) dX5_move_76 ⟨Nat.le_of_ble_eq_true rfl, Nat.le_of_ble_eq_true rfl⟩) hS (fun _ h1 h2 => absurd h1 (Nat.not_lt.mpr h2)) (rd_free hS hAR) (fun r_19 u t H locs ht hvm hw hB hz1 hk1 hS => ?_)
                try dsimp only at hw
                have hr_19 := hw
                have hP := rd_P hP hk1
                obtain rfl := hr_19.symm
                refine W.widen (k := 3) (n := 18) (Nat.le_refl _) (Nat.le_refl _) ?_
                refine lv_iconst (v := (-1)) hx hb dX5_move_79 (by decide) ?_
                refine lv_icmp_eq (tgt := 93) hx hb dX5_move_80 (by decide) (fun c_20 => ?_) (fun c_20 => ?_)
                · refine lv_aload_n hx hb dX5_move_93 rfl (lv_at hl 1 rfl) ?_
                  refine va_get (D := D) (ci := 5) (v := .ref (a 4)) (C := RX5) (T := TX5) (N := 4) hx hb hts hi_X5 hown hK hP 0 rfl rfl 1 (by decide) hf_19 (fun _ h9 => h9) rfl dX5_move_94 ?_
                  refine lv_iload_n hx hb dX5_move_97 rfl (lv_at hl 2 rfl) ?_
                  refine lv_iload_n hx hb dX5_move_98 rfl (lv_at hl 3 rfl) ?_
                  have hPc := hP.sub (ws' := [((a 4), .inr (2, [.int hm, .int aw, .int tk, .ref (a 5), .ref (a 6), .ref (a 7), .ref (a 8), .ref (a 13)])), ((a 5), .inl (cI, 6, .inl ce))]) [1, 2] rfl
                  have hS := va_S_mono hS hA
                  have hDc := hD.sub (ws' := [((a 4), .inr (2, [.int hm, .int aw, .int tk, .ref (a 5), .ref (a 6), .ref (a 7), .ref (a 8), .ref (a 13)])), ((a 5), .inl (cI, 6, .inl ce))]) [1, 2] (by decide) rfl
                  have hFc := va_free (wc := [((a 4), .inr (2, [.int hm, .int aw, .int tk, .ref (a 5), .ref (a 6), .ref (a 7), .ref (a 8), .ref (a 13)])), ((a 5), .inl (cI, 6, .inl ce))]) hD hS hA [1, 2] rfl
                  refine va_callv (va_runV (As := [.int p1, .int p2]) (rest := []) ⟨hx, hb, hml, hown, hts⟩ (c_X2_put l D cI cZ cJ cA H.size a hm aw tk ce p1 p2 (by assumption)) (cwV 2 hts gX5_move_X2_put rfl rfl rfl (by decide +kernel) ⟨Nat.le_of_ble_eq_true rfl, Nat.le_of_ble_eq_true rfl⟩) ⟨pcW_bl, va_recv hK hPc (ci := 2) (q0 := 0) rfl rfl, fun U hU hW => ⟨rfl, by rw [hU], by rw [hU]; exact hPc, va_K.moved hW.alike hK, hDc.weaken (fun _ _ _ _ => trivial)⟩⟩ rfl rfl hl.1 rfl (lv_room (Nat.le_of_ble_eq_true rfl)) dX5_move_99 ⟨Nat.le_of_ble_eq_true rfl, Nat.le_of_ble_eq_true rfl⟩) hS (fun q _ h => hFc q h) hFc (fun u t H locs ht hvm hw hB hz1 hk1 hS => ?_)
                  try dsimp only at hw
                  obtain ⟨u0_21, rfl⟩ : ∃ z, z = u := ⟨_, rfl⟩
                  have hu0_21 := hw
                  obtain ⟨hP1, hK1, hD1⟩ := hB
                  rw [ht] at hP1
                  obtain ⟨hP, hD⟩ := va_join (wr := [((a 0), .inr (5, [.ref (a 2), .ref (a 4), .ref (a 18), .ref (a 1)])), ((a 2), .inr (1, [.ref (a 3)])), ((a 3), .inl (cZ, 144, .inl bk))]) (w1 := [((a 4), .inr (2, [.int hm, .int aw, .int tk, .ref (a 5), .ref (a 6), .ref (a 7), .ref (a 8), .ref (a 13)])), ((a 5), .inl (cI, 6, .inl u0_21))]) hP hD [1, 2] [0, 3, 4] rfl rfl (by decide) (by decide) hk1 hFc hP1 hD1
                  obtain rfl := hu0_21.symm
                  have hP : va_P D vwCl [((a 0), .inr (5, [.ref (a 2), .ref (a 4), .ref (a 18), .ref (a 1)])), ((a 2), .inr (1, [.ref (a 3)])), ((a 3), .inl (cZ, 144, .inl bk)), ((a 4), .inr (2, [.int hm, .int aw, .int tk, .ref (a 5), .ref (a 6), .ref (a 7), .ref (a 8), .ref (a 13)])), ((a 5), .inl (cI, 6, .inl (upd ce p1.toNatClampNeg p2)))] H := hP
                  have hD : va_D A [((a 0), .inr (5, [.ref (a 2), .ref (a 4), .ref (a 18), .ref (a 1)])), ((a 2), .inr (1, [.ref (a 3)])), ((a 3), .inl (cZ, 144, .inl bk)), ((a 4), .inr (2, [.int hm, .int aw, .int tk, .ref (a 5), .ref (a 6), .ref (a 7), .ref (a 8), .ref (a 13)])), ((a 5), .inl (cI, 6, .inl (upd ce p1.toNatClampNeg p2)))] := hD
                  refine W.widen (k := 3) (n := 18) (Nat.le_refl _) (Nat.le_refl _) ?_
                  refine lv_iload_n hx hb dX5_move_102 rfl (lv_at hl 0 rfl) ?_
                  have hP9 := hP.sub (ws' := [((a 0), .inr (5, [.ref (a 2), .ref (a 4), .ref (a 18), .ref (a 1)])), ((a 4), .inr (2, [.int hm, .int aw, .int tk, .ref (a 5), .ref (a 6), .ref (a 7), .ref (a 8), .ref (a 13)])), ((a 5), .inl (cI, 6, .inl (upd ce p1.toNatClampNeg p2))), ((a 2), .inr (1, [.ref (a 3)])), ((a 3), .inl (cZ, 144, .inl bk))]) [0, 3, 4, 1, 2] rfl
                  have hD9 := hD.sub (ws' := [((a 0), .inr (5, [.ref (a 2), .ref (a 4), .ref (a 18), .ref (a 1)])), ((a 4), .inr (2, [.int hm, .int aw, .int tk, .ref (a 5), .ref (a 6), .ref (a 7), .ref (a 8), .ref (a 13)])), ((a 5), .inl (cI, 6, .inl (upd ce p1.toNatClampNeg p2))), ((a 2), .inr (1, [.ref (a 3)])), ((a 3), .inl (cZ, 144, .inl bk))]) [0, 3, 4, 1, 2] (by decide) rfl
                  -- leaf 7
                  refine W.widen (k := 4) (n := 24) (Nat.le_of_ble_eq_true rfl) (Nat.le_of_ble_eq_true rfl) ?_
                  exact vx_ret (W.iret (v := ce p1.toNatClampNeg) hx hb hr (fun t ht hW => ⟨⟨ce p1.toNatClampNeg, ((upd ce p1.toNatClampNeg p2)), rfl, ⟨(by rw [k_X5_move, if_pos hk_1, if_pos hk_3, if_pos hk_5, if_neg c_8, if_neg c_9, if_pos c_16, if_pos c_18, if_pos c_20]), rfl, rfl⟩, by rw [ht]; exact hP9, va_K.moved hW.alike hK, hD9⟩, hS.F ht⟩) hS.2.2 dX5_move_103)
                · exact vx_throwS (A := (fun q : Nat => s.heap.size ≤ q)) hx hb hlt hown (by decide +kernel) (by decide +kernel) hcl_42 hie_3 (hE.s99) hat_46 (by decide +kernel) hE.u hE.n hS (hl.1.trans hml.symm) dX5_move_83 dX5_move_86 dX5_move_87 dX5_move_89 dX5_move_92 (fun x h => absurd h (hT0 x)) (Nat.le_of_ble_eq_true rfl) (Nat.le_of_ble_eq_true rfl) (Nat.le_of_ble_eq_true rfl) (Nat.le_of_ble_eq_true rfl) hlocks (fun t1 h1 h2 h3 => ⟨(), trivial, thr_3 (by rw [k_X5_move, if_pos hk_1, if_pos hk_3, if_pos hk_5, if_neg c_8, if_neg c_9, if_pos c_16, if_pos c_18, if_neg c_20]), va_F_of hS h2 h3⟩) (fun z hz => hA _ (hS.2.2 z hz)) (Nat.le_of_ble_eq_true rfl) (Nat.le_of_ble_eq_true rfl)
            · exact vx_throwS (A := (fun q : Nat => s.heap.size ≤ q)) hx hb hlt hown (by decide +kernel) (by decide +kernel) hcl_42 hie_3 (hE.s91) hat_46 (by decide +kernel) hE.u hE.n hS (hl.1.trans hml.symm) dX5_move_50 dX5_move_53 dX5_move_54 dX5_move_56 dX5_move_59 (fun x h => absurd h (hT0 x)) (Nat.le_of_ble_eq_true rfl) (Nat.le_of_ble_eq_true rfl) (Nat.le_of_ble_eq_true rfl) (Nat.le_of_ble_eq_true rfl) hlocks (fun t1 h1 h2 h3 => ⟨(), trivial, thr_3 (by rw [k_X5_move, if_pos hk_1, if_pos hk_3, if_pos hk_5, if_neg c_8, if_neg c_9, if_neg c_16]), va_F_of hS h2 h3⟩) (fun z hz => hA _ (hS.2.2 z hz)) (Nat.le_of_ble_eq_true rfl) (Nat.le_of_ble_eq_true rfl)
        · exact vx_throwS (A := (fun q : Nat => s.heap.size ≤ q)) hx hb hlt hown (by decide +kernel) (by decide +kernel) hcl_42 hie_3 (hE.s85) hat_46 (by decide +kernel) hE.u hE.n hS (hl.1.trans hml.symm) dX5_move_27 dX5_move_30 dX5_move_31 dX5_move_33 dX5_move_36 (fun x h => absurd h (hT0 x)) (Nat.le_of_ble_eq_true rfl) (Nat.le_of_ble_eq_true rfl) (Nat.le_of_ble_eq_true rfl) (Nat.le_of_ble_eq_true rfl) hlocks (fun t1 h1 h2 h3 => ⟨(), trivial, thr_3 (by rw [k_X5_move, if_pos hk_1, if_pos hk_3, if_pos hk_5, if_pos c_8]), va_F_of hS h2 h3⟩) (fun z hz => hA _ (hS.2.2 z hz)) (Nat.le_of_ble_eq_true rfl) (Nat.le_of_ble_eq_true rfl)

noncomputable def k_X5_shoot (hm : Int32) (aw : Int32) (tk : Int32) (ce : Nat → Int32) (la : Nat → Int32) (sn : Nat) (sa : Nat → Int32) (sb : Nat → Int32) (sc : Nat → Int32) (sd : Nat → Int32) (p1 : Int32) (p2 : Int32) : Int32 := if (k_X5_checkPlayer p1) = 0 then (if (k_X5_checkCell p2) = 0 then (if (k_X5_checkRound hm aw tk) = 0 then (if 0 ≤ (ce p1.toNatClampNeg) then (if (ce p1.toNatClampNeg) = p2 then 3 else (if (f_X2_mayFire hm aw tk la sn p1) = 0 then 3 else 0)) else 3) else k_X5_checkRound hm aw tk) else k_X5_checkCell p2) else k_X5_checkPlayer p1
set_option maxHeartbeats 4000000 in
set_option maxRecDepth 100000 in
theorem c_X5_shoot (l : Launch) (hlt : l.stackTraces = false) (D : va_G) (cI cZ cJ cA : ClassId) (sx : Nat → Nat) (sz : Nat) (a : Nat → Nat) (hm : Int32) (aw : Int32) (tk : Int32) (ce : Nat → Int32) (la : Nat → Int32) (sn : Nat) (sa : Nat → Int32) (sb : Nat → Int32) (sc : Nat → Int32) (sd : Nat → Int32) (p1 : Int32) (p2 : Int32) (hsn : sn ≤ 100) : vx_Met l yX5_shoot wsX5_shoot ({ frames := 7, cells := 4, slots := 24, locals := 110 } : Room) (va_Pc [.ref (a 0), .int p1, .int p2] (pcX (pcW D (tyL cI cZ cJ cA) [((a 0), .inr (5, [.ref (a 2), .ref (a 4), .ref (a 18), .ref (a 1)])), ((a 4), .inr (2, [.int hm, .int aw, .int tk, .ref (a 5), .ref (a 6), .ref (a 7), .ref (a 8), .ref (a 13)])), ((a 5), .inl (cI, 6, .inl ce)), ((a 7), .inl (cI, 6, .inl la)), ((a 8), .inr (3, [.int (nI sn), .ref (a 9), .ref (a 10), .ref (a 11), .ref (a 12)])), ((a 9), .inl (cI, 100, .inl sa)), ((a 10), .inl (cI, 100, .inl sb)), ((a 11), .inl (cI, 100, .inl sc)), ((a 12), .inl (cI, 100, .inl sd))] sz) sx (va_A [((a 0), .inr (5, [.ref (a 2), .ref (a 4), .ref (a 18), .ref (a 1)])), ((a 4), .inr (2, [.int hm, .int aw, .int tk, .ref (a 5), .ref (a 6), .ref (a 7), .ref (a 8), .ref (a 13)])), ((a 5), .inl (cI, 6, .inl ce)), ((a 7), .inl (cI, 6, .inl la)), ((a 8), .inr (3, [.int (nI sn), .ref (a 9), .ref (a 10), .ref (a 11), .ref (a 12)])), ((a 9), .inl (cI, 100, .inl sa)), ((a 10), .inl (cI, 100, .inl sb)), ((a 11), .inl (cI, 100, .inl sc)), ((a 12), .inl (cI, 100, .inl sd))] sz))) (va_Qi (fun (r : Int32) (u : (Nat → Int32) × (Nat) × (Nat → Int32) × (Nat → Int32) × (Nat → Int32) × (Nat → Int32)) => (k_X5_shoot hm aw tk ce la sn sa sb sc sd p1 p2) = 0 ∧ r = tk + (((f_X1_distance (ce p1.toNatClampNeg) p2) + 3) / 4) ∧ u.1 = (upd la p1.toNatClampNeg tk) ∧ u.2.1 = (sn + 1) ∧ u.2.2.1 = (upd sa sn p1) ∧ u.2.2.2.1 = (upd sb sn (ce p1.toNatClampNeg)) ∧ u.2.2.2.2.1 = (upd sc sn p2) ∧ u.2.2.2.2.2 = (g_sd_X2_fire hm aw tk ce la sn sa sb sc sd p1 p2)) (fun u t => bcW D (tyL cI cZ cJ cA) (va_A [((a 0), .inr (5, [.ref (a 2), .ref (a 4), .ref (a 18), .ref (a 1)])), ((a 4), .inr (2, [.int hm, .int aw, .int tk, .ref (a 5), .ref (a 6), .ref (a 7), .ref (a 8), .ref (a 13)])), ((a 5), .inl (cI, 6, .inl ce)), ((a 7), .inl (cI, 6, .inl la)), ((a 8), .inr (3, [.int (nI sn), .ref (a 9), .ref (a 10), .ref (a 11), .ref (a 12)])), ((a 9), .inl (cI, 100, .inl sa)), ((a 10), .inl (cI, 100, .inl sb)), ((a 11), .inl (cI, 100, .inl sc)), ((a 12), .inl (cI, 100, .inl sd))] sz) [((a 0), .inr (5, [.ref (a 2), .ref (a 4), .ref (a 18), .ref (a 1)])), ((a 4), .inr (2, [.int hm, .int aw, .int tk, .ref (a 5), .ref (a 6), .ref (a 7), .ref (a 8), .ref (a 13)])), ((a 5), .inl (cI, 6, .inl ce)), ((a 7), .inl (cI, 6, .inl u.1)), ((a 8), .inr (3, [.int (nI u.2.1), .ref (a 9), .ref (a 10), .ref (a 11), .ref (a 12)])), ((a 9), .inl (cI, 100, .inl u.2.2.1)), ((a 10), .inl (cI, 100, .inl u.2.2.2.1)), ((a 11), .inl (cI, 100, .inl u.2.2.2.2.1)), ((a 12), .inl (cI, 100, .inl u.2.2.2.2.2))] t) (va_A [((a 0), .inr (5, [.ref (a 2), .ref (a 4), .ref (a 18), .ref (a 1)])), ((a 4), .inr (2, [.int hm, .int aw, .int tk, .ref (a 5), .ref (a 6), .ref (a 7), .ref (a 8), .ref (a 13)])), ((a 5), .inl (cI, 6, .inl ce)), ((a 7), .inl (cI, 6, .inl la)), ((a 8), .inr (3, [.int (nI sn), .ref (a 9), .ref (a 10), .ref (a 11), .ref (a 12)])), ((a 9), .inl (cI, 100, .inl sa)), ((a 10), .inl (cI, 100, .inl sb)), ((a 11), .inl (cI, 100, .inl sc)), ((a 12), .inl (cI, 100, .inl sd))] sz)) (vx_X (fun _ : Unit => True) (fun E _ _ => thr E (k_X5_shoot hm aw tk ce la sn sa sb sc sd p1 p2)) (fun q : Nat => sz ≤ q)) 4 24 (va_A [((a 0), .inr (5, [.ref (a 2), .ref (a 4), .ref (a 18), .ref (a 1)])), ((a 4), .inr (2, [.int hm, .int aw, .int tk, .ref (a 5), .ref (a 6), .ref (a 7), .ref (a 8), .ref (a 13)])), ((a 5), .inl (cI, 6, .inl ce)), ((a 7), .inl (cI, 6, .inl la)), ((a 8), .inr (3, [.int (nI sn), .ref (a 9), .ref (a 10), .ref (a 11), .ref (a 12)])), ((a 9), .inl (cI, 100, .inl sa)), ((a 10), .inl (cI, 100, .inl sb)), ((a 11), .inl (cI, 100, .inl sc)), ((a 12), .inl (cI, 100, .inl sd))] sz) := by
  refine vx_ofW (cc := cX5_shoot) (maxL := 4) (ret := (some .int)) (by decide) rfl ?_
  intro p e s m args below meth c s₁ B hml hT0 hv
  obtain ⟨rfl, ⟨hsz, hP, hK, hD0⟩, hE⟩ := hv
  have hx := B.exec
  have hb := B.bytes
  have hr := B.returns
  have hts := atoms_spec (ws := wsX5_shoot) B.pre
  have hown : s.vm.findClass RX5 = some m.cls := findClass_of_methodNamed B.named
  have hlocks := B.notSynchronized
  subst hsz
  have hD := hD0.self (sz := s.heap.size)
  have hE := hE.narrow (B := fun q : Nat => s.heap.size ≤ q) (fun q h => Or.inr h)
  generalize hAe : va_A [((a 0), .inr (5, [.ref (a 2), .ref (a 4), .ref (a 18), .ref (a 1)])), ((a 4), .inr (2, [.int hm, .int aw, .int tk, .ref (a 5), .ref (a 6), .ref (a 7), .ref (a 8), .ref (a 13)])), ((a 5), .inl (cI, 6, .inl ce)), ((a 7), .inl (cI, 6, .inl la)), ((a 8), .inr (3, [.int (nI sn), .ref (a 9), .ref (a 10), .ref (a 11), .ref (a 12)])), ((a 9), .inl (cI, 100, .inl sa)), ((a 10), .inl (cI, 100, .inl sb)), ((a 11), .inl (cI, 100, .inl sc)), ((a 12), .inl (cI, 100, .inl sd))] s.heap.size = A at hD ⊢
  have hA : ∀ q : Nat, s.heap.size ≤ q → A q := fun q h => by rw [← hAe]; exact Or.inr h
  have hAR : ∀ q : Nat, s.heap.size ≤ q → (fun q : Nat => s.heap.size ≤ q) q := fun _ h => h
  have hS : va_S (fun q : Nat => s.heap.size ≤ q) s.heap s.heap [] := va_S.rf
  have hP : va_P D vwCl [((a 0), .inr (5, [.ref (a 2), .ref (a 4), .ref (a 18), .ref (a 1)])), ((a 4), .inr (2, [.int hm, .int aw, .int tk, .ref (a 5), .ref (a 6), .ref (a 7), .ref (a 8), .ref (a 13)])), ((a 5), .inl (cI, 6, .inl ce)), ((a 7), .inl (cI, 6, .inl la)), ((a 8), .inr (3, [.int (nI sn), .ref (a 9), .ref (a 10), .ref (a 11), .ref (a 12)])), ((a 9), .inl (cI, 100, .inl sa)), ((a 10), .inl (cI, 100, .inl sb)), ((a 11), .inl (cI, 100, .inl sc)), ((a 12), .inl (cI, 100, .inl sd))] s.heap := hP
  have hl := lv_entry ([.ref (a 0), .int p1, .int p2]) (n := 4) (Nat.le_of_ble_eq_true rfl)
  rw [lg_entry_eq]
  generalize (lg_sl ([.ref (a 0), .int p1, .int p2]) ++ List.replicate (4 - (lg_sl ([.ref (a 0), .int p1, .int p2])).length) Slot.unset).toArray = ls at hl ⊢
  have hl : lv_has ls 4 [(0, .ref (a 0)), (1, .int p1), (2, .int p2)] := hl
  have hf_19 := hts (.fieldLink RX5 19 "PaintballAtlas" "round" "LPaintballAtlas$Round;") (by decide +kernel)
  have hi_X5 : ∀ w ∈ wsX50, w ∈ wsX5_shoot := by decide +kernel
  have hcl_42 := hts (.classLink RX5 42 "java/lang/IllegalStateException") (by decide +kernel)
  have hie_3 := hts (.initialized "java/lang/IllegalStateException") (by decide +kernel)
  have hat_46 : ∀ w ∈ (vx_atS RX5 46 "java/lang/IllegalStateException" ["java/lang/RuntimeException", "java/lang/Exception"]), w.before ([.ref (a 0), .int p1, .int p2] : List Value).toArray s = true := vx_hat (L := (vx_atS RX5 46 "java/lang/IllegalStateException" ["java/lang/RuntimeException", "java/lang/Exception"])) (B := [.castable "java/lang/IllegalStateException" "java/lang/IllegalStateException", .declares ⟨"java/lang/RuntimeException", "<init>", "(Ljava/lang/String;)V"⟩, .declares ⟨"java/lang/Exception", "<init>", "(Ljava/lang/String;)V"⟩, .declares ⟨"java/lang/Throwable", "<init>", "(Ljava/lang/String;)V"⟩]) (fun w hw => hts w ((by decide +kernel : ∀ w ∈ (vx_atS RX5 46 "java/lang/IllegalStateException" ["java/lang/RuntimeException", "java/lang/Exception"]).filter goodWord, w ∈ wsX5_shoot) w hw)) (by decide +kernel) (vx_c (va_Nw.use rfl hE.n3) (vx_c (va_Nw.use rfl hE.d1) (vx_c (va_Nw.use rfl hE.d2) (vx_c (va_Nw.use rfl hE.d3) vx_n))))
  refine lv_iload_n hx hb dX5_shoot_0 rfl (lv_at hl 1 rfl) ?_
  have hPc := hP.sub (ws' := []) [] rfl
  refine vx_callv (vx_runS (As := [.int p1]) (rest := []) ⟨hx, hb, hml, hown, hts⟩ (c_X5_checkPlayer l hlt D cI cZ cJ cA sx s.heap.size p1) (va_cwS 1 hts gX5_shoot_X5_checkPlayer rfl rfl rfl (by decide +kernel) ⟨Nat.le_of_ble_eq_true rfl, Nat.le_of_ble_eq_true rfl⟩) ⟨pcXR_bl, fun U hU hW => ⟨rfl, ⟨by rw [hU], by rw [hU]; exact hPc, va_K.moved hW.alike hK⟩, hE.call hS (rd_free hS hAR) hU hW⟩⟩ rfl rfl hl.1 rfl (lv_room (Nat.le_of_ble_eq_true rfl)) dX5_shoot_1 ⟨Nat.le_of_ble_eq_true rfl, Nat.le_of_ble_eq_true rfl⟩) hS (fun _ h1 h2 => absurd h1 (Nat.not_lt.mpr h2)) (rd_free hS hAR) (fun _ h1 h2 => absurd h1 (Nat.not_lt.mpr h2)) (fun E cel q9 u t H locs ht hvm hpx hb1 hz1 hk1 hS hce hcv hcl => ?_) (fun u t H locs ht hvm hw hB hz1 hk1 hS => ?_)
  · have c_2 : ¬ (k_X5_checkPlayer p1) = 0 := thr_ne hb1
    refine vx_widen (k := 4) (n := 24) (Nat.le_of_ble_eq_true rfl) (Nat.le_of_ble_eq_true rfl) ?_
    refine vx_out (fun x h => absurd h (hT0 x)) hlocks hce hcv hcl (fun t1 ht1 _ => ⟨(), trivial, thr_eq (by rw [k_X5_shoot, if_neg c_2]) hb1, hS.F ht1⟩) (fun z hz => hA _ (hS.2.2 z hz)) (Nat.le_refl _) (Nat.le_refl _)
  · try dsimp only at hw
    have hk_1 := hw
    have hP := rd_P hP hk1
    refine W.widen (k := 1) (n := 6) (Nat.le_refl _) (Nat.le_refl _) ?_
    have hv_1 := kin_checkPlayer hk_1
    refine lv_iload_n hx hb dX5_shoot_4 rfl (lv_at hl 2 rfl) ?_
    have hPc := hP.sub (ws' := []) [] rfl
    refine vx_callv (vx_runS (As := [.int p2]) (rest := []) ⟨hx, hb, hml, hown, hts⟩ (c_X5_checkCell l hlt D cI cZ cJ cA sx H.size p2) (va_cwS 1 hts gX5_shoot_X5_checkCell rfl rfl rfl (by decide +kernel) ⟨Nat.le_of_ble_eq_true rfl, Nat.le_of_ble_eq_true rfl⟩) ⟨pcXR_bl, fun U hU hW => ⟨rfl, ⟨by rw [hU], by rw [hU]; exact hPc, va_K.moved hW.alike hK⟩, hE.call hS (rd_free hS hAR) hU hW⟩⟩ rfl rfl hl.1 rfl (lv_room (Nat.le_of_ble_eq_true rfl)) dX5_shoot_5 ⟨Nat.le_of_ble_eq_true rfl, Nat.le_of_ble_eq_true rfl⟩) hS (fun _ h1 h2 => absurd h1 (Nat.not_lt.mpr h2)) (rd_free hS hAR) (fun _ h1 h2 => absurd h1 (Nat.not_lt.mpr h2)) (fun E cel q9 u t H locs ht hvm hpx hb1 hz1 hk1 hS hce hcv hcl => ?_) (fun u t H locs ht hvm hw hB hz1 hk1 hS => ?_)
    · have c_4 : ¬ (k_X5_checkCell p2) = 0 := thr_ne hb1
      refine vx_widen (k := 4) (n := 24) (Nat.le_of_ble_eq_true rfl) (Nat.le_of_ble_eq_true rfl) ?_
      refine vx_out (fun x h => absurd h (hT0 x)) hlocks hce hcv hcl (fun t1 ht1 _ => ⟨(), trivial, thr_eq (by rw [k_X5_shoot, if_pos hk_1, if_neg c_4]) hb1, hS.F ht1⟩) (fun z hz => hA _ (hS.2.2 z hz)) (Nat.le_refl _) (Nat.le_refl _)
    · try dsimp only at hw
      have hk_3 := hw
      have hP := rd_P hP hk1
      refine W.widen (k := 2) (n := 12) (Nat.le_refl _) (Nat.le_refl _) ?_
      have hv_3 := kin_checkCell hk_3
      refine lv_aload_n hx hb dX5_shoot_8 rfl (lv_at hl 0 rfl) ?_
      have hPc := hP.sub (ws' := [((a 0), .inr (5, [.ref (a 2), .ref (a 4), .ref (a 18), .ref (a 1)])), ((a 4), .inr (2, [.int hm, .int aw, .int tk, .ref (a 5), .ref (a 6), .ref (a 7), .ref (a 8), .ref (a 13)]))]) [0, 1] rfl
      refine vx_callv (vx_runV (As := []) (rest := []) ⟨hx, hb, hml, hown, hts⟩ (c_X5_checkRound l hlt D cI cZ cJ cA sx H.size a hm aw tk) (cwV 0 hts gX5_shoot_X5_checkRound rfl rfl rfl (by decide +kernel) ⟨Nat.le_of_ble_eq_true rfl, Nat.le_of_ble_eq_true rfl⟩) ⟨pcXR_bl, va_recv hK hPc (ci := 5) (q0 := 0) rfl rfl, fun U hU hW => ⟨rfl, ⟨by rw [hU], by rw [hU]; exact hPc, va_K.moved hW.alike hK⟩, hE.call hS (rd_free hS hAR) hU hW⟩⟩ rfl rfl hl.1 rfl (lv_room (Nat.le_of_ble_eq_true rfl)) dX5_shoot_9 ⟨Nat.le_of_ble_eq_true rfl, Nat.le_of_ble_eq_true rfl⟩) hS (fun _ h1 h2 => absurd h1 (Nat.not_lt.mpr h2)) (rd_free hS hAR) (fun _ h1 h2 => absurd h1 (Nat.not_lt.mpr h2)) (fun E cel q9 u t H locs ht hvm hpx hb1 hz1 hk1 hS hce hcv hcl => ?_) (fun u t H locs ht hvm hw hB hz1 hk1 hS => ?_)
      · have c_6 : ¬ (k_X5_checkRound hm aw tk) = 0 := thr_ne hb1
        refine vx_widen (k := 4) (n := 24) (Nat.le_of_ble_eq_true rfl) (Nat.le_of_ble_eq_true rfl) ?_
        refine vx_out (fun x h => absurd h (hT0 x)) hlocks hce hcv hcl (fun t1 ht1 _ => ⟨(), trivial, thr_eq (by rw [k_X5_shoot, if_pos hk_1, if_pos hk_3, if_neg c_6]) hb1, hS.F ht1⟩) (fun z hz => hA _ (hS.2.2 z hz)) (Nat.le_refl _) (Nat.le_refl _)
      · try dsimp only at hw
        have hk_5 := hw
        have hP := rd_P hP hk1
        refine W.widen (k := 3) (n := 18) (Nat.le_refl _) (Nat.le_refl _) ?_
        refine lv_aload_n hx hb dX5_shoot_12 rfl (lv_at hl 0 rfl) ?_
        refine va_get (D := D) (ci := 5) (v := .ref (a 4)) (C := RX5) (T := TX5) (N := 4) hx hb hts hi_X5 hown hK hP 0 rfl rfl 1 (by decide) hf_19 (fun _ h9 => h9) rfl dX5_shoot_13 ?_
        refine lv_iload_n hx hb dX5_shoot_16 rfl (lv_at hl 1 rfl) ?_
        have hPc := hP.sub (ws' := [((a 4), .inr (2, [.int hm, .int aw, .int tk, .ref (a 5), .ref (a 6), .ref (a 7), .ref (a 8), .ref (a 13)])), ((a 5), .inl (cI, 6, .inl ce))]) [1, 2] rfl
        refine va_calli (va_runV (As := [.int p1]) (rest := []) ⟨hx, hb, hml, hown, hts⟩ (c_X2_cellOf l D cI cZ cJ cA H.size a hm aw tk ce p1 (by assumption)) (cwV 1 hts gX5_shoot_X2_cellOf rfl rfl rfl (by decide +kernel) ⟨Nat.le_of_ble_eq_true rfl, Nat.le_of_ble_eq_true rfl⟩) ⟨pcR_bl, va_recv hK hPc (ci := 2) (q0 := 0) rfl rfl, fun U hU hW => ⟨rfl, by rw [hU], by rw [hU]; exact hPc, va_K.moved hW.alike hK⟩⟩ rfl rfl hl.1 rfl (lv_room (Nat.le_of_ble_eq_true rfl)) dX5_shoot_17 ⟨Nat.le_of_ble_eq_true rfl, Nat.le_of_ble_eq_true rfl⟩) hS (fun _ h1 h2 => absurd h1 (Nat.not_lt.mpr h2)) (rd_free hS hAR) (fun r_7 u t H locs ht hvm hw hB hz1 hk1 hS => ?_)
        try dsimp only at hw
        have hr_7 := hw
        have hP := rd_P hP hk1
        obtain rfl := hr_7.symm
        refine W.widen (k := 3) (n := 18) (Nat.le_refl _) (Nat.le_refl _) ?_
        refine lv_istore_n (lv' := [(3, .int (ce p1.toNatClampNeg)), (0, .ref (a 0)), (1, .int p1), (2, .int p2)]) hx hb dX5_shoot_20 rfl hl (by decide) rfl (fun ls hl => ?_)
        refine lv_iload_n hx hb dX5_shoot_21 rfl (lv_at hl 0 rfl) ?_
        refine lv_if_ge (tgt := 35) hx hb dX5_shoot_22 (by decide) (fun c_8 => ?_) (fun c_8 => ?_)
        · refine lv_iload_n hx hb dX5_shoot_35 rfl (lv_at hl 0 rfl) ?_
          refine lv_iload_n hx hb dX5_shoot_36 rfl (lv_at hl 3 rfl) ?_
          refine lv_icmp_ne (tgt := 50) hx hb dX5_shoot_37 (by decide) (fun c_9 => ?_) (fun c_9 => ?_)
          · refine lv_aload_n hx hb dX5_shoot_50 rfl (lv_at hl 1 rfl) ?_
            refine va_get (D := D) (ci := 5) (v := .ref (a 4)) (C := RX5) (T := TX5) (N := 4) hx hb hts hi_X5 hown hK hP 0 rfl rfl 1 (by decide) hf_19 (fun _ h9 => h9) rfl dX5_shoot_51 ?_
            refine lv_iload_n hx hb dX5_shoot_54 rfl (lv_at hl 2 rfl) ?_
            have hPc := hP.sub (ws' := [((a 4), .inr (2, [.int hm, .int aw, .int tk, .ref (a 5), .ref (a 6), .ref (a 7), .ref (a 8), .ref (a 13)])), ((a 7), .inl (cI, 6, .inl la)), ((a 8), .inr (3, [.int (nI sn), .ref (a 9), .ref (a 10), .ref (a 11), .ref (a 12)]))]) [1, 3, 4] rfl
            refine va_calli (va_runV (As := [.int p1]) (rest := []) ⟨hx, hb, hml, hown, hts⟩ (c_X2_mayFire l D cI cZ cJ cA H.size a hm aw tk la sn p1 (by assumption)) (cwV 1 hts gX5_shoot_X2_mayFire rfl rfl rfl (by decide +kernel) ⟨Nat.le_of_ble_eq_true rfl, Nat.le_of_ble_eq_true rfl⟩) ⟨pcR_bl, va_recv hK hPc (ci := 2) (q0 := 0) rfl rfl, fun U hU hW => ⟨rfl, by rw [hU], by rw [hU]; exact hPc, va_K.moved hW.alike hK⟩⟩ rfl rfl hl.1 rfl (lv_room (Nat.le_of_ble_eq_true rfl)) dX5_shoot_55 ⟨Nat.le_of_ble_eq_true rfl, Nat.le_of_ble_eq_true rfl⟩) hS (fun _ h1 h2 => absurd h1 (Nat.not_lt.mpr h2)) (rd_free hS hAR) (fun r_10 u t H locs ht hvm hw hB hz1 hk1 hS => ?_)
            try dsimp only at hw
            have hr_10 := hw
            have hP := rd_P hP hk1
            obtain rfl := hr_10.symm
            refine W.widen (k := 3) (n := 18) (Nat.le_refl _) (Nat.le_refl _) ?_
            refine lv_if_ne (tgt := 71) hx hb dX5_shoot_58 (by decide) (fun c_11 => ?_) (fun c_11 => ?_)
            · refine lv_aload_n hx hb dX5_shoot_71 rfl (lv_at hl 1 rfl) ?_
              refine va_get (D := D) (ci := 5) (v := .ref (a 4)) (C := RX5) (T := TX5) (N := 4) hx hb hts hi_X5 hown hK hP 0 rfl rfl 1 (by decide) hf_19 (fun _ h9 => h9) rfl dX5_shoot_72 ?_
              refine lv_iload_n hx hb dX5_shoot_75 rfl (lv_at hl 2 rfl) ?_
              refine lv_iload_n hx hb dX5_shoot_76 rfl (lv_at hl 3 rfl) ?_
              have hPc := hP.sub (ws' := [((a 4), .inr (2, [.int hm, .int aw, .int tk, .ref (a 5), .ref (a 6), .ref (a 7), .ref (a 8), .ref (a 13)])), ((a 5), .inl (cI, 6, .inl ce)), ((a 7), .inl (cI, 6, .inl la)), ((a 8), .inr (3, [.int (nI sn), .ref (a 9), .ref (a 10), .ref (a 11), .ref (a 12)])), ((a 9), .inl (cI, 100, .inl sa)), ((a 10), .inl (cI, 100, .inl sb)), ((a 11), .inl (cI, 100, .inl sc)), ((a 12), .inl (cI, 100, .inl sd))]) [1, 2, 3, 4, 5, 6, 7, 8] rfl
              have hS := va_S_mono hS hA
              have hDc := hD.sub (ws' := [((a 4), .inr (2, [.int hm, .int aw, .int tk, .ref (a 5), .ref (a 6), .ref (a 7), .ref (a 8), .ref (a 13)])), ((a 5), .inl (cI, 6, .inl ce)), ((a 7), .inl (cI, 6, .inl la)), ((a 8), .inr (3, [.int (nI sn), .ref (a 9), .ref (a 10), .ref (a 11), .ref (a 12)])), ((a 9), .inl (cI, 100, .inl sa)), ((a 10), .inl (cI, 100, .inl sb)), ((a 11), .inl (cI, 100, .inl sc)), ((a 12), .inl (cI, 100, .inl sd))]) [1, 2, 3, 4, 5, 6, 7, 8] (by decide) rfl
              have hFc := va_free (wc := [((a 4), .inr (2, [.int hm, .int aw, .int tk, .ref (a 5), .ref (a 6), .ref (a 7), .ref (a 8), .ref (a 13)])), ((a 5), .inl (cI, 6, .inl ce)), ((a 7), .inl (cI, 6, .inl la)), ((a 8), .inr (3, [.int (nI sn), .ref (a 9), .ref (a 10), .ref (a 11), .ref (a 12)])), ((a 9), .inl (cI, 100, .inl sa)), ((a 10), .inl (cI, 100, .inl sb)), ((a 11), .inl (cI, 100, .inl sc)), ((a 12), .inl (cI, 100, .inl sd))]) hD hS hA [1, 2, 3, 4, 5, 6, 7, 8] rfl
              refine va_calli (va_runV (As := [.int p1, .int p2]) (rest := []) ⟨hx, hb, hml, hown, hts⟩ (c_X2_fire l D cI cZ cJ cA H.size a hm aw tk ce la sn sa sb sc sd p1 p2 (by assumption) (mayFire_lt hsn c_11)) (cwV 2 hts gX5_shoot_X2_fire rfl rfl rfl (by decide +kernel) ⟨Nat.le_of_ble_eq_true rfl, Nat.le_of_ble_eq_true rfl⟩) ⟨pcW_bl, va_recv hK hPc (ci := 2) (q0 := 0) rfl rfl, fun U hU hW => ⟨rfl, by rw [hU], by rw [hU]; exact hPc, va_K.moved hW.alike hK, hDc.weaken (fun _ _ _ _ => trivial)⟩⟩ rfl rfl hl.1 rfl (lv_room (Nat.le_of_ble_eq_true rfl)) dX5_shoot_77 ⟨Nat.le_of_ble_eq_true rfl, Nat.le_of_ble_eq_true rfl⟩) hS (fun q _ h => hFc q h) hFc (fun r_12 u t H locs ht hvm hw hB hz1 hk1 hS => ?_)
              try dsimp only at hw
              obtain ⟨u0_12, u1_12, u2_12, u3_12, u4_12, u5_12⟩ := u
              try dsimp only at hw
              obtain ⟨hr_12, hu0_12, hu1_12, hu2_12, hu3_12, hu4_12, hu5_12⟩ := hw
              obtain ⟨hP1, hK1, hD1⟩ := hB
              rw [ht] at hP1
              obtain ⟨hP, hD⟩ := va_join (wr := [((a 0), .inr (5, [.ref (a 2), .ref (a 4), .ref (a 18), .ref (a 1)]))]) (w1 := [((a 4), .inr (2, [.int hm, .int aw, .int tk, .ref (a 5), .ref (a 6), .ref (a 7), .ref (a 8), .ref (a 13)])), ((a 5), .inl (cI, 6, .inl ce)), ((a 7), .inl (cI, 6, .inl u0_12)), ((a 8), .inr (3, [.int (nI u1_12), .ref (a 9), .ref (a 10), .ref (a 11), .ref (a 12)])), ((a 9), .inl (cI, 100, .inl u2_12)), ((a 10), .inl (cI, 100, .inl u3_12)), ((a 11), .inl (cI, 100, .inl u4_12)), ((a 12), .inl (cI, 100, .inl u5_12))]) hP hD [1, 2, 3, 4, 5, 6, 7, 8] [0] rfl rfl (by decide) (by decide) hk1 hFc hP1 hD1
              obtain rfl := hu0_12.symm
              obtain rfl := hu1_12.symm
              obtain rfl := hu2_12.symm
              obtain rfl := hu3_12.symm
              obtain rfl := hu4_12.symm
              obtain rfl := hu5_12.symm
              have hP : va_P D vwCl [((a 0), .inr (5, [.ref (a 2), .ref (a 4), .ref (a 18), .ref (a 1)])), ((a 4), .inr (2, [.int hm, .int aw, .int tk, .ref (a 5), .ref (a 6), .ref (a 7), .ref (a 8), .ref (a 13)])), ((a 5), .inl (cI, 6, .inl ce)), ((a 7), .inl (cI, 6, .inl (upd la p1.toNatClampNeg tk))), ((a 8), .inr (3, [.int (nI (sn + 1)), .ref (a 9), .ref (a 10), .ref (a 11), .ref (a 12)])), ((a 9), .inl (cI, 100, .inl (upd sa sn p1))), ((a 10), .inl (cI, 100, .inl (upd sb sn (ce p1.toNatClampNeg)))), ((a 11), .inl (cI, 100, .inl (upd sc sn p2))), ((a 12), .inl (cI, 100, .inl (g_sd_X2_fire hm aw tk ce la sn sa sb sc sd p1 p2)))] H := hP
              have hD : va_D A [((a 0), .inr (5, [.ref (a 2), .ref (a 4), .ref (a 18), .ref (a 1)])), ((a 4), .inr (2, [.int hm, .int aw, .int tk, .ref (a 5), .ref (a 6), .ref (a 7), .ref (a 8), .ref (a 13)])), ((a 5), .inl (cI, 6, .inl ce)), ((a 7), .inl (cI, 6, .inl (upd la p1.toNatClampNeg tk))), ((a 8), .inr (3, [.int (nI (sn + 1)), .ref (a 9), .ref (a 10), .ref (a 11), .ref (a 12)])), ((a 9), .inl (cI, 100, .inl (upd sa sn p1))), ((a 10), .inl (cI, 100, .inl (upd sb sn (ce p1.toNatClampNeg)))), ((a 11), .inl (cI, 100, .inl (upd sc sn p2))), ((a 12), .inl (cI, 100, .inl (g_sd_X2_fire hm aw tk ce la sn sa sb sc sd p1 p2)))] := hD
              obtain rfl := hr_12.symm
              refine W.widen (k := 3) (n := 18) (Nat.le_refl _) (Nat.le_refl _) ?_
              have hP9 := hP.sub (ws' := [((a 0), .inr (5, [.ref (a 2), .ref (a 4), .ref (a 18), .ref (a 1)])), ((a 4), .inr (2, [.int hm, .int aw, .int tk, .ref (a 5), .ref (a 6), .ref (a 7), .ref (a 8), .ref (a 13)])), ((a 5), .inl (cI, 6, .inl ce)), ((a 7), .inl (cI, 6, .inl (upd la p1.toNatClampNeg tk))), ((a 8), .inr (3, [.int (nI (sn + 1)), .ref (a 9), .ref (a 10), .ref (a 11), .ref (a 12)])), ((a 9), .inl (cI, 100, .inl (upd sa sn p1))), ((a 10), .inl (cI, 100, .inl (upd sb sn (ce p1.toNatClampNeg)))), ((a 11), .inl (cI, 100, .inl (upd sc sn p2))), ((a 12), .inl (cI, 100, .inl (g_sd_X2_fire hm aw tk ce la sn sa sb sc sd p1 p2)))]) [0, 1, 2, 3, 4, 5, 6, 7, 8] rfl
              have hD9 := hD.sub (ws' := [((a 0), .inr (5, [.ref (a 2), .ref (a 4), .ref (a 18), .ref (a 1)])), ((a 4), .inr (2, [.int hm, .int aw, .int tk, .ref (a 5), .ref (a 6), .ref (a 7), .ref (a 8), .ref (a 13)])), ((a 5), .inl (cI, 6, .inl ce)), ((a 7), .inl (cI, 6, .inl (upd la p1.toNatClampNeg tk))), ((a 8), .inr (3, [.int (nI (sn + 1)), .ref (a 9), .ref (a 10), .ref (a 11), .ref (a 12)])), ((a 9), .inl (cI, 100, .inl (upd sa sn p1))), ((a 10), .inl (cI, 100, .inl (upd sb sn (ce p1.toNatClampNeg)))), ((a 11), .inl (cI, 100, .inl (upd sc sn p2))), ((a 12), .inl (cI, 100, .inl (g_sd_X2_fire hm aw tk ce la sn sa sb sc sd p1 p2)))]) [0, 1, 2, 3, 4, 5, 6, 7, 8] (by decide) rfl
              -- leaf 3
              refine W.widen (k := 4) (n := 24) (Nat.le_of_ble_eq_true rfl) (Nat.le_of_ble_eq_true rfl) ?_
              exact vx_ret (W.iret (v := tk + (((f_X1_distance (ce p1.toNatClampNeg) p2) + 3) / 4)) hx hb hr (fun t ht hW => ⟨⟨tk + (((f_X1_distance (ce p1.toNatClampNeg) p2) + 3) / 4), ((upd la p1.toNatClampNeg tk), (sn + 1), (upd sa sn p1), (upd sb sn (ce p1.toNatClampNeg)), (upd sc sn p2), (g_sd_X2_fire hm aw tk ce la sn sa sb sc sd p1 p2)), rfl, ⟨(by rw [k_X5_shoot, if_pos hk_1, if_pos hk_3, if_pos hk_5, if_pos c_8, if_neg c_9, if_neg c_11]), rfl, rfl, rfl, rfl, rfl, rfl, rfl⟩, by rw [ht]; exact hP9, va_K.moved hW.alike hK, hD9⟩, hS.F ht⟩) hS.2.2 dX5_shoot_80)
            · exact vx_throwS (A := (fun q : Nat => s.heap.size ≤ q)) hx hb hlt hown (by decide +kernel) (by decide +kernel) hcl_42 hie_3 (hE.s111) hat_46 (by decide +kernel) hE.u hE.n hS (hl.1.trans hml.symm) dX5_shoot_61 dX5_shoot_64 dX5_shoot_65 dX5_shoot_67 dX5_shoot_70 (fun x h => absurd h (hT0 x)) (Nat.le_of_ble_eq_true rfl) (Nat.le_of_ble_eq_true rfl) (Nat.le_of_ble_eq_true rfl) (Nat.le_of_ble_eq_true rfl) hlocks (fun t1 h1 h2 h3 => ⟨(), trivial, thr_3 (by rw [k_X5_shoot, if_pos hk_1, if_pos hk_3, if_pos hk_5, if_pos c_8, if_neg c_9, if_pos c_11]), va_F_of hS h2 h3⟩) (fun z hz => hA _ (hS.2.2 z hz)) (Nat.le_of_ble_eq_true rfl) (Nat.le_of_ble_eq_true rfl)
          · exact vx_throwS (A := (fun q : Nat => s.heap.size ≤ q)) hx hb hlt hown (by decide +kernel) (by decide +kernel) hcl_42 hie_3 (hE.s106) hat_46 (by decide +kernel) hE.u hE.n hS (hl.1.trans hml.symm) dX5_shoot_40 dX5_shoot_43 dX5_shoot_44 dX5_shoot_46 dX5_shoot_49 (fun x h => absurd h (hT0 x)) (Nat.le_of_ble_eq_true rfl) (Nat.le_of_ble_eq_true rfl) (Nat.le_of_ble_eq_true rfl) (Nat.le_of_ble_eq_true rfl) hlocks (fun t1 h1 h2 h3 => ⟨(), trivial, thr_3 (by rw [k_X5_shoot, if_pos hk_1, if_pos hk_3, if_pos hk_5, if_pos c_8, if_pos c_9]), va_F_of hS h2 h3⟩) (fun z hz => hA _ (hS.2.2 z hz)) (Nat.le_of_ble_eq_true rfl) (Nat.le_of_ble_eq_true rfl)
        · exact vx_throwS (A := (fun q : Nat => s.heap.size ≤ q)) hx hb hlt hown (by decide +kernel) (by decide +kernel) hcl_42 hie_3 (hE.s104) hat_46 (by decide +kernel) hE.u hE.n hS (hl.1.trans hml.symm) dX5_shoot_25 dX5_shoot_28 dX5_shoot_29 dX5_shoot_31 dX5_shoot_34 (fun x h => absurd h (hT0 x)) (Nat.le_of_ble_eq_true rfl) (Nat.le_of_ble_eq_true rfl) (Nat.le_of_ble_eq_true rfl) (Nat.le_of_ble_eq_true rfl) hlocks (fun t1 h1 h2 h3 => ⟨(), trivial, thr_3 (by rw [k_X5_shoot, if_pos hk_1, if_pos hk_3, if_pos hk_5, if_neg c_8]), va_F_of hS h2 h3⟩) (fun z hz => hA _ (hS.2.2 z hz)) (Nat.le_of_ble_eq_true rfl) (Nat.le_of_ble_eq_true rfl)
