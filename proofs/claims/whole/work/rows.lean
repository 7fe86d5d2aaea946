section
-- ===== PART A: goes FIRST, ahead of the names: the tables' words, and 'selects' of the private methods out of them =====
/-- a private method of a class that the tables say can be made, by its rows of tables_1 -/
def lw_okq (q : MethodName × Nat) : Prop := (q.1.cls ≠ "java/lang/invoke/MethodHandle" ∧ q.1.cls ≠ "java/lang/invoke/VarHandle") ∧ Cond.instantiable q.1.cls q.2 ∈ tables_1 ∧ Cond.privateMethod q.1 ∈ tables_1 ∧ Cond.instanceMethod q.1 ∈ tables_1
theorem lw_p0 : lw_okq (⟨"PaintballAtlas$Round", "reset", "(I)V"⟩, 8) := ⟨⟨by decide +kernel, by decide +kernel⟩, List.mem_of_getElem? (i := 35) (by decide +kernel), List.mem_of_getElem? (i := 96) (by decide +kernel), List.mem_of_getElem? (i := 97) (by decide +kernel)⟩
theorem lw_p1 : lw_okq (⟨"java/lang/Throwable", "fillInStackTrace", "(I)Ljava/lang/Throwable;"⟩, 6) := ⟨⟨by decide +kernel, by decide +kernel⟩, List.mem_of_getElem? (i := 225) (by decide +kernel), List.mem_of_getElem? (i := 223) (by decide +kernel), List.mem_of_getElem? (i := 224) (by decide +kernel)⟩
theorem lw_p2 : lw_okq (⟨"PaintballAtlas", "checkRound", "()V"⟩, 4) := ⟨⟨by decide +kernel, by decide +kernel⟩, List.mem_of_getElem? (i := 16) (by decide +kernel), List.mem_of_getElem? (i := 368) (by decide +kernel), List.mem_of_getElem? (i := 369) (by decide +kernel)⟩
theorem lw_p3 : lw_okq (⟨"PaintballAtlas$Round", "strikes", "(ILPaintballAtlas$Field;)Z"⟩, 8) := ⟨⟨by decide +kernel, by decide +kernel⟩, List.mem_of_getElem? (i := 35) (by decide +kernel), List.mem_of_getElem? (i := 430) (by decide +kernel), List.mem_of_getElem? (i := 431) (by decide +kernel)⟩
theorem lw_p4 : lw_okq (⟨"PaintballAtlas$Table", "enterWin", "(II)V"⟩, 4) := ⟨⟨by decide +kernel, by decide +kernel⟩, List.mem_of_getElem? (i := 125) (by decide +kernel), List.mem_of_getElem? (i := 509) (by decide +kernel), List.mem_of_getElem? (i := 510) (by decide +kernel)⟩
theorem lw_p5 : lw_okq (⟨"PaintballAtlas$Table", "takePenalties", "()V"⟩, 4) := ⟨⟨by decide +kernel, by decide +kernel⟩, List.mem_of_getElem? (i := 125) (by decide +kernel), List.mem_of_getElem? (i := 513) (by decide +kernel), List.mem_of_getElem? (i := 514) (by decide +kernel)⟩
theorem lw_p6 : lw_okq (⟨"PaintballAtlas$Table", "isAhead", "(II)Z"⟩, 4) := ⟨⟨by decide +kernel, by decide +kernel⟩, List.mem_of_getElem? (i := 125) (by decide +kernel), List.mem_of_getElem? (i := 583) (by decide +kernel), List.mem_of_getElem? (i := 584) (by decide +kernel)⟩
theorem lw_p7 : lw_okq (⟨"PaintballAtlasModel", "fails", "(I)Z"⟩, 24) := ⟨⟨by decide +kernel, by decide +kernel⟩, List.mem_of_getElem? (i := 587) (by decide +kernel), List.mem_of_getElem? (i := 680) (by decide +kernel), List.mem_of_getElem? (i := 681) (by decide +kernel)⟩
theorem lw_p8 : lw_okq (⟨"PaintballAtlasModel", "see", "(II)Z"⟩, 24) := ⟨⟨by decide +kernel, by decide +kernel⟩, List.mem_of_getElem? (i := 587) (by decide +kernel), List.mem_of_getElem? (i := 688) (by decide +kernel), List.mem_of_getElem? (i := 689) (by decide +kernel)⟩
theorem lw_p9 : lw_okq (⟨"PaintballAtlasModel", "standsOn", "(I)I"⟩, 24) := ⟨⟨by decide +kernel, by decide +kernel⟩, List.mem_of_getElem? (i := 587) (by decide +kernel), List.mem_of_getElem? (i := 732) (by decide +kernel), List.mem_of_getElem? (i := 733) (by decide +kernel)⟩
theorem lw_p10 : lw_okq (⟨"PaintballAtlasModel", "teamOf", "(I)I"⟩, 24) := ⟨⟨by decide +kernel, by decide +kernel⟩, List.mem_of_getElem? (i := 587) (by decide +kernel), List.mem_of_getElem? (i := 752) (by decide +kernel), List.mem_of_getElem? (i := 753) (by decide +kernel)⟩
theorem lw_p11 : lw_okq (⟨"PaintballAtlasModel", "of", "([II)I"⟩, 24) := ⟨⟨by decide +kernel, by decide +kernel⟩, List.mem_of_getElem? (i := 587) (by decide +kernel), List.mem_of_getElem? (i := 780) (by decide +kernel), List.mem_of_getElem? (i := 781) (by decide +kernel)⟩
theorem lw_p12 : lw_okq (⟨"PaintballAtlasModel", "isAhead", "(II)Z"⟩, 24) := ⟨⟨by decide +kernel, by decide +kernel⟩, List.mem_of_getElem? (i := 587) (by decide +kernel), List.mem_of_getElem? (i := 796) (by decide +kernel), List.mem_of_getElem? (i := 797) (by decide +kernel)⟩
def lw_privs_1 : List (MethodName × Nat) := [(⟨"PaintballAtlas$Round", "reset", "(I)V"⟩, 8), (⟨"java/lang/Throwable", "fillInStackTrace", "(I)Ljava/lang/Throwable;"⟩, 6), (⟨"PaintballAtlas", "checkRound", "()V"⟩, 4), (⟨"PaintballAtlas$Round", "strikes", "(ILPaintballAtlas$Field;)Z"⟩, 8), (⟨"PaintballAtlas$Table", "enterWin", "(II)V"⟩, 4), (⟨"PaintballAtlas$Table", "takePenalties", "()V"⟩, 4), (⟨"PaintballAtlas$Table", "isAhead", "(II)Z"⟩, 4), (⟨"PaintballAtlasModel", "fails", "(I)Z"⟩, 24), (⟨"PaintballAtlasModel", "see", "(II)Z"⟩, 24), (⟨"PaintballAtlasModel", "standsOn", "(I)I"⟩, 24), (⟨"PaintballAtlasModel", "teamOf", "(I)I"⟩, 24), (⟨"PaintballAtlasModel", "of", "([II)I"⟩, 24), (⟨"PaintballAtlasModel", "isAhead", "(II)Z"⟩, 24)]
theorem lw_r1 : ∀ q ∈ lw_privs_1, lw_okq q := List.forall_mem_cons.mpr ⟨lw_p0, List.forall_mem_cons.mpr ⟨lw_p1, List.forall_mem_cons.mpr ⟨lw_p2, List.forall_mem_cons.mpr ⟨lw_p3, List.forall_mem_cons.mpr ⟨lw_p4, List.forall_mem_cons.mpr ⟨lw_p5, List.forall_mem_cons.mpr ⟨lw_p6, List.forall_mem_cons.mpr ⟨lw_p7, List.forall_mem_cons.mpr ⟨lw_p8, List.forall_mem_cons.mpr ⟨lw_p9, List.forall_mem_cons.mpr ⟨lw_p10, List.forall_mem_cons.mpr ⟨lw_p11, List.forall_mem_cons.mpr ⟨lw_p12, fun _ h => absurd h List.not_mem_nil⟩⟩⟩⟩⟩⟩⟩⟩⟩⟩⟩⟩⟩
def lw_privs : List (MethodName × Nat) := lw_privs_1
def lw_tbl : List Cond := k2_sels lw_privs ++ tables_1
theorem lw_privs_ok : ∀ q ∈ lw_privs, lw_okq q := lw_r1
/-! ===== BEGIN words of one list among another's, by their places ===== -/
theorem goodIn_r {big : List Cond} (ws : List Cond) (ps : List Nat) (hp : ws = ps.filterMap (fun i => big[i]?)) (h : ws.all goodWord = true) : GoodIn big ws := by
  intro w hw
  have h1 := List.all_eq_true.mp h w hw
  rw [hp] at hw
  obtain ⟨i, -, hi⟩ := List.mem_filterMap.mp hw
  have hm : w ∈ big := by first | exact List.mem_of_getElem? hi | exact List.getElem?_mem hi
  exact ⟨hm, good_of_word h1⟩
theorem goodIn_app {big a b : List Cond} (ha : GoodIn big a) (hb : GoodIn big b) : GoodIn big (a ++ b) := fun w h => (List.mem_append.mp h).elim (ha w) (hb w)
theorem goodIn_ca {big a b : List Cond} {c : Cond} (ha : GoodIn big (c :: a)) (hb : GoodIn big b) : GoodIn big (c :: (a ++ b)) := fun w h => (List.mem_cons.mp h).elim (fun e => ha w (List.mem_cons.mpr (Or.inl e))) (fun h => (List.mem_append.mp h).elim (fun h => ha w (List.mem_cons.mpr (Or.inr h))) (hb w))
theorem goodIn_sub {big ws : List Cond} (hm : ∀ w ∈ ws, w ∈ big) (h : ws.all goodWord = true) : GoodIn big ws := fun w hw => ⟨hm w hw, good_of_word (List.all_eq_true.mp h w hw)⟩
/-! ===== END ===== -/

/-! ===== BEGIN new T[n][m]: the outer array a place, the inner ones among the pooled ===== -/
/-- f, but v at every address of l -/
def vr_up {α : Type} (f : Nat → α) (l : List Nat) (v : α) : Nat → α := fun a => if a ∈ l then v else f a
theorem vr_up_in {α : Type} {f : Nat → α} {l : List Nat} {v : α} {a : Nat} (h : a ∈ l) : vr_up f l v a = v := if_pos h
theorem vr_up_ne {α : Type} {f : Nat → α} {l : List Nat} {v : α} {a : Nat} (h : a ∉ l) : vr_up f l v a = f a := if_neg h
theorem vr_rows {L l : List Nat} {f : Nat → va_E} {e : va_E} (h : ∀ a, a ∈ l → a ∉ L) : va_pl L f ++ l.map (fun a => (a, e)) = va_pl (L ++ l) (vr_up f l e) := by
  unfold va_pl
  rw [List.map_append]
  congr 1
  · apply List.map_congr_left
    intro a ha
    rw [vr_up_ne (fun q => h a q ha)]
  · apply List.map_congr_left
    intro a ha
    rw [vr_up_in ha]
theorem vr_lay {X rows : va_W} {x : Nat × va_E} {pl : va_W} {D : va_G} {cl : List vw_C} {H : Heap} (hP : va_P D cl (((X ++ pl) ++ [x]) ++ rows) H) : va_P D cl ((X ++ [x]) ++ (pl ++ rows)) H := by
  rw [List.append_assoc (X ++ pl)] at hP
  have h := va_P.swap hP
  rw [← List.append_assoc X] at h
  have h2 := va_P.swap h
  rw [List.append_assoc (X ++ [x])] at h2
  exact h2
theorem vr_layD {X rows : va_W} {x : Nat × va_E} {pl : va_W} {A : Nat → Prop} (hD : va_D A (((X ++ pl) ++ [x]) ++ rows)) : va_D A ((X ++ [x]) ++ (pl ++ rows)) := by
  rw [List.append_assoc (X ++ pl)] at hD
  have h := va_D.swap hD
  rw [← List.append_assoc X] at h
  have h2 := va_D.swap h
  rw [List.append_assoc (X ++ [x])] at h2
  exact h2
theorem vr_outer (c : ClassId) (N h0 : Nat) : ∀ i : Nat, Jvm.Free.Multi.outerC c N h0 i = arrV c N (fun j => va_rf (if j < i then some (h0 + 1 + j) else none))
  | 0 => by
    show ({ cls := c, slots := Array.replicate N .null, vm := .none } : Cell) = _
    rw [arrV_new]
    refine congrArg (arrV c N) (funext fun j => ?_)
    simp [va_rf]
  | i + 1 => by
    show (Jvm.Free.Multi.outerC c N h0 i).setSlot i (.ref (h0 + 1 + i)) = _
    rw [vr_outer c N h0 i, arrV_store]
    refine congrArg (arrV c N) (funext fun j => ?_)
    by_cases e : j = i
    · subst e
      simp [updV, va_rf]
    · by_cases h : j < i
      · simp [updV, e, h, Nat.lt_succ_of_lt h]
      · simp [updV, e, h, show ¬ j < i + 1 by omega]
section VGM
variable {p : Program} {l : Launch} {e : Env} {R : Room} {s : State} {m : MethodId} {args : Array Value} {below : List Frame} {meth : Method} {c : Code} {H : Heap} {locs : List Loc} {cells slots : Nat} {Q : State → Prop}
variable {cc : ByteArray} {pc : Nat} {ls : Array Slot} {rest : List Value} {D : va_G} {cl : List vw_C} {A : Nat → Prop} {a : Nat} {tys : List (ClassId × FieldType)} {ws : va_W} {H0 : Heap}
theorem va_mna {X : va_W} {L : List Nat} {f : Nat → va_E} {cc : ByteArray} (hexec : p.tables.exec = Jvm.exec) (hb : c.code = cc) {own : String} {index : Nat} {ty : FieldType} {cy : ClassId} (hown : s.vm.findClass own = some m.cls) (hclink : (Cond.classLink own index ("[" ++ (FieldType.array ty).toString)).before args s = true) (hover : (Cond.arrayOver (.array ty)).before args s = true) (harr : (Cond.arrayClass ty).before args s = true) (hcy : s.vm.findClass (FieldType.array ty).toString = some cy)
    (hK : va_K D cl tys s) (hP : va_P D cl (X ++ va_pl L f) H) (hD : va_D A (X ++ va_pl L f)) (hS : va_S A H0 H locs) (hA : ∀ q, H0.size ≤ q → A q) {n k : Int32} {N' K' : Nat} {z : vp_A} (hn : ¬ n < 0) (hk : ¬ k < 0) (hN : n.toNatClampNeg = N') (hM : k.toNatClampNeg = K')
    (hb1 : N' * 4 ≤ 536870912) (hb2 : K' * componentBytes ty ≤ 536870912) (hb3 : K' ≤ 536870912) (hdf : fits ty (defaultValue ty) = true) (hdd : (defaultValue ty).isDefault = true) (hcells : cells + (1 + N') ≤ R.cells) (hslots : slots + (N' + N' * K') ≤ R.slots) (hz : ∀ c : ClassId, Jvm.Free.Multi.innerC c K' (defaultValue ty) = vp_cell c z) (hdg : decode cc pc = .ok (.multianewarray index 2, 4))
    (kk : ∀ (q : Nat) (r : Nat → Nat) (cA : ClassId) (H1 : Heap), (∀ i j : Nat, i < N' → j < N' → r i = r j → i = j) → (∀ i : Nat, i < N' → r i ∉ L) → va_K D cl (tys ++ [(cA, .array ty)]) s →
      va_P D cl ((X ++ [(q, .inl (cA, N', .inr (.inr (.inr (.inr (fun i => if i < N' then some (r i) else none))))))]) ++ va_pl (L ++ (List.range N').map r) (vr_up f ((List.range N').map r) (.inl (cy, z)))) H1 → va_D A ((X ++ [(q, .inl (cA, N', .inr (.inr (.inr (.inr (fun i => if i < N' then some (r i) else none))))))]) ++ va_pl (L ++ (List.range N').map r) (vr_up f ((List.range N').map r) (.inl (cy, z)))) → va_S A H0 H1 locs →
      W p l e R s m args below meth c H1 locs (cells + 1 + N') (slots + N' + N' * K') Q (F0 m (pc + 4) ls (.ref q :: rest))) : W p l e R s m args below meth c H locs cells slots Q (F0 m pc ls (.int k :: .int n :: rest)) := by
  subst hN
  subst hM
  intro T hT Xs
  obtain ⟨vm₁, cA, comp, -, fA, fC, hO, -, X', step⟩ := Xs.multianewarray2F hexec hown hclink hover harr (g := F0 m pc ls (.int k :: .int n :: rest)) rfl (by rw [hb]; exact hdg) rfl hn hk hb1 hb2 hb3 hdf hdd hcells hslots
  have ec : some cy = some comp := hcy.symm.trans fC
  cases ec
  generalize hF : Jvm.Free.Multi.fill (T.setVm vm₁) cA cy n.toNatClampNeg k.toNatClampNeg (defaultValue ty) n.toNatClampNeg = F at X' step
  have hTh : (T.setVm vm₁).heap = H := hT
  obtain ⟨f1, f2, -, -⟩ := Jvm.Free.Multi.fill_facts (T.setVm vm₁) cA cy n.toNatClampNeg k.toNatClampNeg (defaultValue ty) n.toNatClampNeg
  rw [hF, hTh] at f1 f2
  have hold : ∀ x : Nat, x < H.size → F.heap[x]? = H[x]? := fun x hx => by
    have := Jvm.Free.Multi.fill_old (T.setVm vm₁) cA cy n.toNatClampNeg k.toNatClampNeg (defaultValue ty) (a := x) (by rw [hTh]; exact hx) n.toNatClampNeg
    rw [hF, hTh] at this
    exact this
  have hrow : ∀ j : Nat, j < n.toNatClampNeg → F.heap[H.size + 1 + j]? = some (vp_cell cy z) := fun j hj => by
    have := Jvm.Free.Multi.fill_inner (T.setVm vm₁) cA cy n.toNatClampNeg k.toNatClampNeg (defaultValue ty) n.toNatClampNeg j hj
    rw [hF, hTh, hz] at this
    exact this
  have hout : Jvm.Free.Multi.outerC cA n.toNatClampNeg H.size n.toNatClampNeg = vp_cell cA (n.toNatClampNeg, .inr (.inr (.inr (.inr (fun i => if i < n.toNatClampNeg then some (H.size + 1 + i) else none))))) := by
    rw [vp_cell_q]
    exact vr_outer cA n.toNatClampNeg H.size n.toNatClampNeg
  rw [hout] at f2
  have hlt : ∀ a, a ∈ L → a < H.size := fun a ha => by
    obtain ⟨k9, hk9⟩ := va_pl_get (X := X) (f := f) ha
    exact (hP k9 _ hk9).lt
  have hnl : ∀ i : Nat, i < n.toNatClampNeg → H.size + 1 + i ∉ L := fun i _ h => by
    have := hlt _ h
    omega
  have hnm : ∀ a, a ∈ (List.range n.toNatClampNeg).map (fun i => H.size + 1 + i) → a ∉ L := fun a ha h => by
    obtain ⟨i, -, rfl⟩ := List.mem_map.mp ha
    have := hlt _ h
    omega
  have hP0 : va_P D cl (X ++ va_pl L f) F.heap := hP.kept (fun k9 x hx => hold x.1 ((hP k9 x hx).lt))
  have hP1 : va_P D cl ((X ++ va_pl L f) ++ [(H.size, .inl (cA, n.toNatClampNeg, .inr (.inr (.inr (.inr (fun i => if i < n.toNatClampNeg then some (H.size + 1 + i) else none))))))]) F.heap := hP0.app (fun k9 x hx => by
    have h0 : k9 < 1 := (List.getElem?_eq_some_iff.mp hx).1
    rw [show k9 = 0 by omega] at hx
    cases hx
    exact f2)
  have hP2 : va_P D cl (((X ++ va_pl L f) ++ [(H.size, .inl (cA, n.toNatClampNeg, .inr (.inr (.inr (.inr (fun i => if i < n.toNatClampNeg then some (H.size + 1 + i) else none))))))]) ++ ((List.range n.toNatClampNeg).map (fun i => H.size + 1 + i)).map (fun a => (a, .inl (cy, z)))) F.heap := hP1.app (fun k9 x hx => by
    obtain ⟨a, ha, rfl⟩ := List.mem_map.mp (List.mem_of_getElem? hx)
    obtain ⟨i, hi, rfl⟩ := List.mem_map.mp ha
    exact hrow i (List.mem_range.mp hi))
  have hD2 : va_D A (((X ++ va_pl L f) ++ [(H.size, .inl (cA, n.toNatClampNeg, .inr (.inr (.inr (.inr (fun i => if i < n.toNatClampNeg then some (H.size + 1 + i) else none))))))]) ++ ((List.range n.toNatClampNeg).map (fun i => H.size + 1 + i)).map (fun a => (a, .inl (cy, z)))) := by
    have hD1 := hD.push (e := .inl (cA, n.toNatClampNeg, .inr (.inr (.inr (.inr (fun i => if i < n.toNatClampNeg then some (H.size + 1 + i) else none)))))) hP rfl (hA _ hS.1)
    generalize hW1 : (X ++ va_pl L f) ++ [(H.size, .inl (cA, n.toNatClampNeg, .inr (.inr (.inr (.inr (fun i => if i < n.toNatClampNeg then some (H.size + 1 + i) else none))))))] = W1 at hD1 hP1 ⊢
    have hle : ∀ (k9 : Nat) (x : Nat × va_E), W1[k9]? = some x → x.1 ≤ H.size := fun k9 x hx => by
      rw [← hW1] at hx
      by_cases hl : k9 < (X ++ va_pl L f).length
      · rw [List.getElem?_append_left hl] at hx
        exact Nat.le_of_lt ((hP k9 x hx).lt)
      · rw [List.getElem?_append_right (by omega)] at hx
        have h0 : k9 - (X ++ va_pl L f).length < 1 := (List.getElem?_eq_some_iff.mp hx).1
        rw [show k9 - (X ++ va_pl L f).length = 0 by omega] at hx
        cases hx
        exact Nat.le_refl _
    have hr : ∀ (k9 : Nat) (x : Nat × va_E), (((List.range n.toNatClampNeg).map (fun i => H.size + 1 + i)).map (fun a => ((a, .inl (cy, z)) : Nat × va_E)))[k9]? = some x → x.1 = H.size + 1 + k9 := fun k9 x hx => by
      rw [List.getElem?_map, List.getElem?_map] at hx
      by_cases h9 : k9 < n.toNatClampNeg
      · rw [List.getElem?_range h9] at hx
        cases hx
        rfl
      · have hn0 : (List.range n.toNatClampNeg)[k9]? = none := List.getElem?_eq_none (by rw [List.length_range]; omega)
        rw [hn0] at hx
        cases hx
    refine ⟨fun i j x y hi hj hxy => ?_, fun k9 x hx => ?_⟩
    · by_cases h1 : i < W1.length <;> by_cases h2 : j < W1.length
      · rw [List.getElem?_append_left h1] at hi
        rw [List.getElem?_append_left h2] at hj
        exact hD1.1 i j x y hi hj hxy
      · rw [List.getElem?_append_left h1] at hi
        rw [List.getElem?_append_right (by omega)] at hj
        have := hle _ _ hi
        have := hr _ _ hj
        omega
      · rw [List.getElem?_append_right (by omega)] at hi
        rw [List.getElem?_append_left h2] at hj
        have := hle _ _ hj
        have := hr _ _ hi
        omega
      · rw [List.getElem?_append_right (by omega)] at hi hj
        have := hr _ _ hi
        have := hr _ _ hj
        omega
    · by_cases h1 : k9 < W1.length
      · rw [List.getElem?_append_left h1] at hx
        exact hD1.2 k9 x hx
      · rw [List.getElem?_append_right (by omega)] at hx
        have := hr _ _ hx
        exact hA _ (by have := hS.1; omega)
  have hAr : ArrOfT s cA (.array ty) := fun N9 z9 => by
    obtain ⟨-, k9, hk9, cm9, hkk9⟩ := (hO 0 0 0).1
    exact ⟨(fun q hq => by cases hq), k9, hk9, cm9, hkk9⟩
  have hK2 : va_K D cl (tys ++ [(cA, .array ty)]) s := ⟨hK.1, fun k9 x hx => by
    by_cases hl : k9 < tys.length
    · rw [List.getElem?_append_left hl] at hx
      exact hK.2 k9 x hx
    · rw [List.getElem?_append_right (by omega)] at hx
      have h0 : k9 - tys.length < 1 := (List.getElem?_eq_some_iff.mp hx).1
      rw [show k9 - tys.length = 0 by omega] at hx
      cases hx
      exact ⟨hAr, fA⟩⟩
  obtain ⟨t, a1, b1⟩ := kk H.size (fun i => H.size + 1 + i) cA F.heap (fun i j _ _ h => by have h9 : H.size + 1 + i = H.size + 1 + j := h; omega) hnl hK2 (by rw [← vr_rows hnm]; exact vr_lay hP2) (by rw [← vr_rows hnm]; exact vr_layD hD2) ⟨by rw [f1]; have := hS.1; omega, fun x h1 h2 => (hold x (Nat.lt_of_lt_of_le h1 hS.1)).trans (hS.2.1 x h1 h2), hS.2.2⟩ F rfl X'
  refine ⟨t, step t ?_, b1⟩
  have e : T.heap.size = H.size := by rw [hT]
  rw [e]
  exact a1
end VGM
/-! ===== END ===== -/

/-! ===== BEGIN exceptions that leave a method, and their catching by the caller (launches without stack traces) ===== -/
section VXA
/-! The laws vx_back, vx_callV, vx_callS, vx_callSW, vx_throw0, vx_throwS follow proofs of the library, with one case more: JvmDerived/Free/Laws.lean (Back.of_free), Shelf42/LK1.lean (callV, callS), Shelf/KitTraced.lean (throwNew0V, throwNewS). -/
/-- where a method has thrown q: the class by its name, the cell, what was written, the world -/
def vx_T (XC : String → State → State → Prop) (st : State) (q : Addr) (t : State) (mc ms : Nat) (free : Addr → Prop) : Prop :=
  ∃ (E : String) (ce : Cell) (L : List Loc), XC E st t ∧ t.heap[q]? = some ce ∧ ce.vm = .none ∧ st.vm.findClass E = some ce.cls ∧ st.WarmedH t.vm ∧ st.sameButNew ({ t with vm := st.vm } : State) L mc ms ∧ ∀ z ∈ L, free z.base
def vx_Q (Qc : Array Value → State → Outcome → State → Prop) (XC : String → State → State → Prop) (mc ms : Nat) (free : Addr → Prop) : Array Value → State → Outcome → State → Prop := fun a st o t =>
  (Qc a st o t ∧ ∃ L, FrameEnd st o t L mc ms ∧ ∀ q ∈ L, free q.base) ∨ ∃ q, o = .threw q ∧ vx_T XC st q t mc ms free
/-- a callee that returns or throws -/
def vx_Met (l : Launch) (y : MethodName) (ws : List Cond) (rm : Room) (Pc : Array Value → State → Prop) (Qc : Array Value → State → Outcome → State → Prop) (XC : String → State → State → Prop) (mc ms : Nat) (free : Addr → Prop) : Prop :=
  MetFree l y (headSpec ws rm) Pc (fun _ _ _ _ _ => True) (vx_Q Qc XC mc ms free)
def vx_Post (XC : String → State → State → Prop) (mc ms : Nat) (free : Addr → Prop) : Pt → Array Value → Addr → Pt → Prop := fun A a q B =>
  ∃ (g : JFrame) (mk : MethodId) (t : State) (L : List Loc) (E : String) (ce : Cell), B.U.heap = t.heap ∧ B.U.vm = t.vm ∧ XC E (A.U.calling g mk a) t ∧ t.heap[q]? = some ce ∧ ce.vm = .none ∧ A.U.vm.findClass E = some ce.cls ∧ B.locs = A.locs ++ L ∧ (∀ z ∈ L, free z.base) ∧ B.cells = A.cells + mc ∧ B.slots = A.slots + ms
def vx_Back (l : Launch) (R : Room) (p : Program) (e : Env) (below : List Frame) (s : State) (sargs : Array Value) (y : MethodName) (len W9 : Nat)
    (Pre : Pt → Array Value → Prop) (Post : Pt → Array Value → Option Value → Pt → Prop) (PostX : Pt → Array Value → Addr → Pt → Prop) : Prop :=
  ∀ (m : MethodId) (meth : Method) (c : Code) (A : Pt) (g : JFrame) (ig : Instr) (mk : MethodId) (a : Array Value),
    Stand p l e R s m sargs below meth c A.U A.locs A.cells A.slots → g.method = m → g.locals.size = c.maxLocals → decode c.code g.pc = .ok (ig, len) →
    2 * g.monitorRoom + (g.stack.map fun v => v.category).sum ≤ W9 → A.U.methodNamed? y = some mk → Pre A a →
    (∃ (v : Option Value) (B : Pt), Stand p l e R s m sargs below meth c B.U B.locs B.cells B.slots ∧ Post A a v B ∧
      Steps p.tables e below (doInvoke e (A.U.setTop g) [] mk a).1 (B.U.setTop { g with pc := g.pc + len, stack := v.toList ++ g.stack })) ∨
    (∃ (q : Addr) (B : Pt), Stand p l e R s m sargs below meth c B.U B.locs B.cells B.slots ∧ PostX A a q B ∧
      Steps p.tables e below (doInvoke e (A.U.setTop g) [] mk a).1 ((B.U.setTop g).pushFrame (.throwing q)))
section Payer
variable {l : Launch} {R : Room} {p : Program} {e : Env} {below : List Frame} {s : State} {sargs : Array Value} {y : MethodName} {len W9 : Nat}
theorem vx_back {ws : List Cond} {rm : Room} {Pc : Array Value → State → Prop} {Qc : Array Value → State → Outcome → State → Prop} {XC : String → State → State → Prop} {mc ms : Nat} {free : Addr → Prop} {bytes : ByteArray} {maxL : Nat} {ret : Option FieldType}
    (hM : vx_Met l y ws rm Pc Qc XC mc ms free) (hblind : FrameBlind Pc) (hrc : rm.cells = mc) (hrs : rm.slots = ms)
    (hframes : rm.frames + 1 ≤ R.frames) (hlocals : W9 + (maxL + 11) + rm.locals ≤ R.locals)
    (hws : ∀ w ∈ ws, ∀ a' U, s.WarmedH U.vm → w.before a' U = true) (hcode : Cond.code y bytes maxL ret ∈ ws) (hinit : ∀ a' U, s.WarmedH U.vm → (Cond.initialized y.cls).before a' U = true) :
    vx_Back l R p e below s sargs y len W9 (PreOf R mc ms Pc) (PostOf Qc mc ms free) (vx_Post XC mc ms free) := by
  intro m meth c A g ig mk a X hg hsize hdg hW hn hp
  have h1 : (headSpec ws rm).pre.before a A.U = true := atoms_intro fun w hw => hws w hw _ _ X.warmed
  have h2 : (Cond.code y bytes maxL ret).before a A.U = true := hws _ hcode _ _ X.warmed
  have h3 : (Cond.initialized y.cls).before a A.U = true := hinit _ _ X.warmed
  have h4 : A.cells + (headSpec ws rm).room.cells ≤ R.cells := by rw [show (headSpec ws rm).room.cells = mc from hrc]; exact hp.1
  have h5 : A.slots + (headSpec ws rm).room.slots ≤ R.slots := by rw [show (headSpec ws rm).room.slots = ms from hrs]; exact hp.2.1
  have hPc : Pc a (A.U.calling g mk a) := hblind _ _ _ _ hp.2.2
  obtain ⟨U, Ls, c0, s0⟩ := A
  dsimp only [Pt.U, Pt.locs, Pt.cells, Pt.slots] at h1 h2 h3 h4 h5 X hn hPc ⊢
  obtain ⟨methY, cY, hmY, hcY, -, hlY, -, -, -, -⟩ := Cond.code_spec hn h2
  obtain ⟨kY, hkY, -⟩ := className_of_methodNamed hn
  have hinitY : kY.init = .initialized := Cond.initialized_spec (findClass_of_methodNamed hn) hkY h3
  have h : At U g.method c below := by rw [hg]; exact X.here
  have hlocals9 : W9 + (maxL + 11) + (headSpec ws rm).room.locals ≤ R.locals := hlocals
  have happ : (headSpec ws rm).appliesLoose y e.platform (U.calling g mk a) = true :=
    Spec.appliesLoose_calling (g := g) h hdg hn hkY hinitY
      (X.room_calling (g := g) (R' := (headSpec ws rm).room) hsize hmY hcY hframes (by rw [hlY]; omega) h4 h5) h1
  obtain ⟨mid, hmid⟩ := h.above
  have hfr : (U.setTop g).frames = (.java g :: mid) ++ below := by rw [State.frames_setTop' g h.top, hmid]; rfl
  obtain ⟨o, s₂, hsteps, -, hend, hq⟩ := Steps.callFree hM p X.admits X.cas X.clock (acts := []) hfr happ hPc trivial
  have hq' : vx_Q Qc XC mc ms free a (U.calling g mk a) o s₂ := hq
  rw [State.frames_setTop' g h.top] at hend
  obtain ⟨g₀, hg0⟩ := Option.isSome_iff_exists.mp h.top
  obtain ⟨r, hr⟩ := State.topJava?_eq_some.mp hg0
  have hr' : (({ U with heap := s₂.heap, slotsUsed := s₂.slotsUsed } : State).setVm s₂.vm).frames = .java g₀ :: r := hr
  rcases hq' with ⟨hqc, L, hfe, hL⟩ | ⟨q, rfl, E, ce, L, hx, hce, hcv, hcl, hW₂, hsm, hL⟩
  · obtain ⟨⟨v, rfl⟩, hW₂, e2, q2, q3, q4, q5, q6⟩ := id hfe
    have e3 : s₂ = ({ (U.calling g mk a).setFrames s₂.frames with heap := s₂.heap, slotsUsed := s₂.slotsUsed } : State).setVm s₂.vm := by
      have : s₂ = ({ s₂ with vm := (U.calling g mk a).vm } : State).setVm s₂.vm := rfl
      rw [e2] at this
      exact this
    obtain ⟨c₂, i₂, len₂, hc₂, hd₂, hf₂⟩ := hend
    have hW' : U.WarmedH s₂.vm := hW₂
    have hcc : c₂ = c := by
      have h1 : s₂.code? g.method = U.code? g.method := by
        rw [State.code?_eq, State.code?_eq, hW'.alike.method?]
      exact Option.some.inj (hc₂.symm.trans (h1.trans h.code))
    subst hcc
    have hlen : len₂ = len := by rw [hdg] at hd₂; cases hd₂; rfl
    subst hlen
    have hs₂ : s₂ = (({ U with heap := s₂.heap, slotsUsed := s₂.slotsUsed } : State).setVm s₂.vm).setTop { g with pc := g.pc + len₂, stack := v.toList ++ g.stack } := by
      refine e3.trans ?_
      rw [hf₂, State.calling_eq h.top, State.setFrames_setFrames, State.setTop_of_frames _ hr', hr]
      rfl
    have hsame : U.sameButNew ({ U with heap := s₂.heap, slotsUsed := s₂.slotsUsed } : State) L mc ms := by
      refine ⟨?_, q2, q3, q4, q5, q6⟩
      obtain ⟨t, ht, -⟩ := State.frames_cons hr
      show ({ U with heap := s₂.heap, slotsUsed := s₂.slotsUsed } : State) = { U.setFrames U.frames with heap := s₂.heap, slotsUsed := s₂.slotsUsed }
      rw [State.setFrames_self ht]
    subst hg
    refine Or.inl ⟨v, ⟨(({ U with heap := s₂.heap, slotsUsed := s₂.slotsUsed } : State).setVm s₂.vm), Ls ++ L, c0 + mc, s0 + ms⟩,
      ⟨X.admits, X.cas, X.clock, X.frames, X.room, X.hears, X.method, X.code, (X.here.setHeapUsed s₂.heap s₂.slotsUsed).setVm hW'.alike, X.tail, State.WarmedH.trans X.warmed hW', X.limits, X.bytes, X.same.trans (hsame.setVm s.vm)⟩,
      ⟨g, mk, s₂, L, rfl, rfl, hqc, rfl, hL, rfl, rfl⟩, ?_⟩
    show Steps p.tables e below _ ((({ U with heap := s₂.heap, slotsUsed := s₂.slotsUsed } : State).setVm s₂.vm).setTop { g with pc := g.pc + len₂, stack := v.toList ++ g.stack })
    rw [← hs₂]
    exact hsteps
  · obtain ⟨e2, q2, q3, q4, q5, q6⟩ := id hsm
    have e3 : s₂ = ({ (U.calling g mk a).setFrames s₂.frames with heap := s₂.heap, slotsUsed := s₂.slotsUsed } : State).setVm s₂.vm := by
      have : s₂ = ({ s₂ with vm := (U.calling g mk a).vm } : State).setVm s₂.vm := rfl
      rw [e2] at this
      exact this
    have hf₂ : s₂.frames = .throwing q :: .java g :: U.frames.tail := hend
    have hW' : U.WarmedH s₂.vm := hW₂
    have hs₂ : s₂ = ((({ U with heap := s₂.heap, slotsUsed := s₂.slotsUsed } : State).setVm s₂.vm).setTop g).pushFrame (.throwing q) := by
      refine e3.trans ?_
      rw [hf₂, State.calling_eq h.top, State.setFrames_setFrames, State.pushFrame, State.frames_setTop _ hr', State.setTop_of_frames _ hr', State.setFrames_setFrames, hr]
      rfl
    have hsame : U.sameButNew ({ U with heap := s₂.heap, slotsUsed := s₂.slotsUsed } : State) L mc ms := by
      refine ⟨?_, q2, q3, q4, q5, q6⟩
      obtain ⟨t, ht, -⟩ := State.frames_cons hr
      show ({ U with heap := s₂.heap, slotsUsed := s₂.slotsUsed } : State) = { U.setFrames U.frames with heap := s₂.heap, slotsUsed := s₂.slotsUsed }
      rw [State.setFrames_self ht]
    subst hg
    refine Or.inr ⟨q, ⟨(({ U with heap := s₂.heap, slotsUsed := s₂.slotsUsed } : State).setVm s₂.vm), Ls ++ L, c0 + mc, s0 + ms⟩,
      ⟨X.admits, X.cas, X.clock, X.frames, X.room, X.hears, X.method, X.code, (X.here.setHeapUsed s₂.heap s₂.slotsUsed).setVm hW'.alike, X.tail, State.WarmedH.trans X.warmed hW', X.limits, X.bytes, X.same.trans (hsame.setVm s.vm)⟩,
      ⟨g, mk, s₂, L, E, ce, rfl, rfl, hx, hce, hcv, hcl, rfl, hL, rfl, rfl⟩, ?_⟩
    show Steps p.tables e below _ (((({ U with heap := s₂.heap, slotsUsed := s₂.slotsUsed } : State).setVm s₂.vm).setTop g).pushFrame (.throwing q))
    rw [← hs₂]
    exact hsteps
end Payer
section Calls
variable {p : Program} {l : Launch} {e : Env} {R : Room} {s : State} {m : MethodId} {args : Array Value} {below : List Frame} {meth : Method} {c : Code} {T : State} {locs : List Loc} {cells slots : Nat}
theorem vx_callV (X : Stand p l e R s m args below meth c T locs cells slots) (hexec : p.tables.exec = Jvm.exec) {own C : String} {index : Nat} {y : MethodName} {bytes : ByteArray} {maxL : Nat} {ret : Option FieldType}
    (hown : s.vm.findClass own = some m.cls) (hlink : (Cond.methodLink own index y).before args s = true) (hinst : (Cond.instanceMethod y).before args s = true) (hsel : (Cond.selects C y y).before args s = true)
    (hcode : (Cond.code y bytes maxL ret).before args s = true) (hy : y.cls ≠ "java/lang/invoke/MethodHandle" ∧ y.cls ≠ "java/lang/invoke/VarHandle")
    {W9 : Nat} {Pre : Pt → Array Value → Prop} {Post : Pt → Array Value → Option Value → Pt → Prop} {PostX : Pt → Array Value → Addr → Pt → Prop} (hK : vx_Back l R p e below s args y 3 W9 Pre Post PostX)
    {b : Addr} {cellB : Cell} (hcell : T.heap[b]? = some cellB) (hobj : cellB.vm.isStatics = false) (hcls : s.vm.findClass C = some cellB.cls)
    {g : JFrame} (hg : g.method = m) (hsize : g.locals.size = c.maxLocals) {argsL rest : List Value} (hlen : ∀ sig, parseMethodDescriptor y.desc = some sig → argsL.length = sig.parameters.length)
    (hstack : g.stack = argsL.reverse ++ .ref b :: rest) (hW : 2 * g.monitorRoom + (rest.map fun v => v.category).sum ≤ W9) (hdg : decode c.code g.pc = .ok (.invokevirtual index, 3))
    (hpre : ∀ vm₁, s.WarmedH vm₁ → Pre ⟨T.setVm vm₁, locs, cells, slots⟩ (Value.ref b :: argsL).toArray) :
    (∃ (v : Option Value) (vm₁ : Vm) (B : Pt), s.WarmedH vm₁ ∧ Stand p l e R s m args below meth c B.U B.locs B.cells B.slots ∧ Post ⟨T.setVm vm₁, locs, cells, slots⟩ (Value.ref b :: argsL).toArray v B ∧
      ∀ target, Steps p.tables e below (B.U.setTop { g with pc := g.pc + 3, stack := v.toList ++ rest }) target → Steps p.tables e below (T.setTop g) target) ∨
    (∃ (q : Addr) (vm₁ : Vm) (B : Pt), s.WarmedH vm₁ ∧ Stand p l e R s m args below meth c B.U B.locs B.cells B.slots ∧ PostX ⟨T.setVm vm₁, locs, cells, slots⟩ (Value.ref b :: argsL).toArray q B ∧
      Steps p.tables e below (T.setTop g) ((B.U.setTop { g with stack := rest }).pushFrame (.throwing q))) := by
  obtain ⟨mk, methM, hnamed, hmethM, hstM, habM⟩ := Cond.instanceMethod_spec hinst
  obtain ⟨methM', cM, hmethM', -, -, -, -, -, -, hsigM⟩ := Cond.code_spec hnamed hcode
  cases hmethM.symm.trans hmethM'
  obtain ⟨c2, r2, m2, q1, q2, q3, q4, kP, hkP, hkPi⟩ := Cond.selects_spec hsel
  cases hcls.symm.trans q1
  cases (State.methodFound?_of_named hnamed hy).symm.trans q2
  cases hnamed.symm.trans q3
  have hselP : selectMethod e.platform s.vm cellB.cls mk = .method mk := by rw [Launch.admits_selectMethod X.admits]; exact q4
  obtain ⟨vm₁, X₁, hstep₁⟩ := X.invokevirtual hexec hown hlink hnamed hmethM hstM hkP hkPi hy (a := b) (cell := cellB) hcell
    (fun z h => by rw [h] at hobj; cases hobj) hselP hmethM habM hkP hkPi (g := g) hg (argsL := argsL) (rest := rest) (hlen _ hsigM) hstack hdg
  rcases hK m meth c ⟨T.setVm vm₁, locs, cells, slots⟩ { g with stack := rest } (.invokevirtual index) mk (Value.ref b :: argsL).toArray X₁ hg hsize hdg hW (X₁.named hnamed) (hpre vm₁ X₁.warmed) with ⟨v, B, X', hpost, hsteps⟩ | ⟨q, B, X', hpost, hsteps⟩
  · exact Or.inl ⟨v, vm₁, B, X₁.warmed, X', hpost, fun target h => hstep₁ _ fun acts => by rw [doInvoke_state]; exact hsteps.trans h⟩
  · exact Or.inr ⟨q, vm₁, B, X₁.warmed, X', hpost, hstep₁ _ fun acts => by rw [doInvoke_state]; exact hsteps⟩
theorem vx_callS (X : Stand p l e R s m args below meth c T locs cells slots) (hexec : p.tables.exec = Jvm.exec) {own : String} {index : Nat} {y : MethodName} {bytes : ByteArray} {maxL : Nat} {ret : Option FieldType}
    (hown : s.vm.findClass own = some m.cls) (hlink : (Cond.methodLink own index y).before args s = true) (hstat : (Cond.static y).before args s = true) (hinit : (Cond.initialized y.cls).before args s = true)
    (hcode : (Cond.code y bytes maxL ret).before args s = true) (hy : y.cls ≠ "java/lang/invoke/MethodHandle" ∧ y.cls ≠ "java/lang/invoke/VarHandle")
    {W9 : Nat} {Pre : Pt → Array Value → Prop} {Post : Pt → Array Value → Option Value → Pt → Prop} {PostX : Pt → Array Value → Addr → Pt → Prop} (hK : vx_Back l R p e below s args y 3 W9 Pre Post PostX)
    {g : JFrame} (hg : g.method = m) (hsize : g.locals.size = c.maxLocals) {argsL rest : List Value} (hlen : ∀ sig, parseMethodDescriptor y.desc = some sig → argsL.length = sig.parameters.length)
    (hstack : g.stack = argsL.reverse ++ rest) (hW : 2 * g.monitorRoom + (rest.map fun v => v.category).sum ≤ W9) (hdg : decode c.code g.pc = .ok (.invokestatic index, 3))
    (hpre : ∀ vm₁, s.WarmedH vm₁ → Pre ⟨T.setVm vm₁, locs, cells, slots⟩ argsL.toArray) :
    (∃ (v : Option Value) (vm₁ : Vm) (B : Pt), s.WarmedH vm₁ ∧ Stand p l e R s m args below meth c B.U B.locs B.cells B.slots ∧ Post ⟨T.setVm vm₁, locs, cells, slots⟩ argsL.toArray v B ∧
      ∀ target, Steps p.tables e below (B.U.setTop { g with pc := g.pc + 3, stack := v.toList ++ rest }) target → Steps p.tables e below (T.setTop g) target) ∨
    (∃ (q : Addr) (vm₁ : Vm) (B : Pt), s.WarmedH vm₁ ∧ Stand p l e R s m args below meth c B.U B.locs B.cells B.slots ∧ PostX ⟨T.setVm vm₁, locs, cells, slots⟩ argsL.toArray q B ∧
      Steps p.tables e below (T.setTop g) ((B.U.setTop { g with stack := rest }).pushFrame (.throwing q))) := by
  obtain ⟨mk, hnamed⟩ := Cond.code_named hcode
  obtain ⟨methM, cM, hmethM, -, -, -, -, -, -, hsigM⟩ := Cond.code_spec hnamed hcode
  have hstatic : methM.isStatic = true := Cond.static_spec hnamed hmethM hstat
  obtain ⟨kP, hkP, -⟩ := className_of_methodNamed hnamed
  have hinitP : kP.init = .initialized := Cond.initialized_spec (findClass_of_methodNamed hnamed) hkP hinit
  obtain ⟨vm₁, X₁, hstep₁⟩ := X.invokestatic hexec hown hlink hnamed hmethM hstatic hkP hinitP hy (g := g) hg (argsL := argsL) (rest := rest) (hlen _ hsigM) hstack hdg
  rcases hK m meth c ⟨T.setVm vm₁, locs, cells, slots⟩ { g with stack := rest } (.invokestatic index) mk argsL.toArray X₁ hg hsize hdg hW (X₁.named hnamed) (hpre vm₁ X₁.warmed) with ⟨v, B, X', hpost, hsteps⟩ | ⟨q, B, X', hpost, hsteps⟩
  · exact Or.inl ⟨v, vm₁, B, X₁.warmed, X', hpost, fun target h => hstep₁ _ fun acts => by rw [doInvoke_state]; exact hsteps.trans h⟩
  · exact Or.inr ⟨q, vm₁, B, X₁.warmed, X', hpost, hstep₁ _ fun acts => by rw [doInvoke_state]; exact hsteps⟩
end Calls
theorem vx_cls {s : State} {T : State} {vm₁ : Vm} {E : String} {k : ClassId} (hW : s.WarmedH vm₁) (h : (T.setVm vm₁).vm.findClass E = some k) : s.vm.findClass E = some k := by
  have h1 : vm₁.findClass E = some k := h
  rw [hW.alike.findClass] at h1
  exact h1
/-- the method's frame g, with q thrown over it -/
def vx_W (p : Program) (l : Launch) (e : Env) (R : Room) (s : State) (m : MethodId) (args : Array Value) (below : List Frame) (meth : Method) (c : Code) (H : Heap) (locs : List Loc) (cells slots : Nat) (Q : State → Prop) (g : JFrame) (q : Addr) : Prop :=
  ∀ T : State, T.heap = H → Stand p l e R s m args below meth c T locs cells slots → ∃ t, Steps p.tables e below ((T.setTop g).pushFrame (.throwing q)) t ∧ Q t
def vx_Run (p : Program) (l : Launch) (e : Env) (R : Room) (s : State) (m : MethodId) (args : Array Value) (below : List Frame) (meth : Method) (c : Code) (H : Heap) (locs : List Loc) (cells slots mc ms : Nat) (g : JFrame) (rest : List Value) (Qa : State → Outcome → State → Prop) (XC : String → State → State → Prop) (free : Addr → Prop) : Prop :=
  ∀ T : State, T.heap = H → Stand p l e R s m args below meth c T locs cells slots →
    (∃ (v : Option Value) (st₀ t T' : State) (L : List Loc), st₀.heap = H ∧ Stand p l e R s m args below meth c T' (locs ++ L) (cells + mc) (slots + ms) ∧ (∀ q ∈ L, free q.base) ∧ T'.heap = t.heap ∧ T'.vm = t.vm ∧ Qa st₀ (.returned v) t ∧
      Goes p e below T g T' { g with pc := g.pc + 3, stack := v.toList ++ rest }) ∨
    (∃ (q : Addr) (st₀ t T' : State) (L : List Loc) (E : String) (ce : Cell), st₀.heap = H ∧ Stand p l e R s m args below meth c T' (locs ++ L) (cells + mc) (slots + ms) ∧ (∀ z ∈ L, free z.base) ∧ T'.heap = t.heap ∧ T'.vm = t.vm ∧ XC E st₀ t ∧ t.heap[q]? = some ce ∧ ce.vm = .none ∧ s.vm.findClass E = some ce.cls ∧
      Steps p.tables e below (T.setTop g) ((T'.setTop { g with stack := rest }).pushFrame (.throwing q)))
def vx_X {S : Type} (px : S → Prop) (B : String → S → State → Prop) (A : Nat → Prop) : String → State → State → Prop := fun E st t => ∃ u : S, px u ∧ B E u t ∧ va_F A st t
section Runs
variable {p : Program} {l : Launch} {e : Env} {R : Room} {s : State} {m : MethodId} {args : Array Value} {below : List Frame} {meth : Method} {c : Code} {H : Heap} {locs : List Loc} {cells slots : Nat}
variable {y : MethodName} {bytes cc : ByteArray} {maxL nL mc ms n index : Nat} {ret : Option FieldType} {ws : List Cond} {rm : Room} {Pc : Array Value → State → Prop} {Qc : Array Value → State → Outcome → State → Prop} {XC : String → State → State → Prop} {free : Addr → Prop} {Ts : List Cond} {own C : String} {b : Addr} {As rest : List Value} {g : JFrame}
theorem vx_callBack (cb : CallB R s args own index y bytes maxL ret ws rm mc ms n) (hM : vx_Met l y ws rm Pc Qc XC mc ms free) (hbl : FrameBlind Pc) : vx_Back l R p e below s args y 3 8 (PreOf R mc ms Pc) (PostOf Qc mc ms free) (vx_Post XC mc ms free) := by
  obtain ⟨hrc, hrs, hfr, hlo, hws, hcw, -, hini, -⟩ := cb
  exact vx_back (bytes := bytes) (maxL := maxL) (ret := ret) hM hbl hrc hrs hfr hlo hws hcw (fun a' U hW => word_at hW (Or.inl (by first | rfl | simp [Cond.onTables, Cond.keeps, Cond.steady])) hini)
theorem vx_runV (S : CallFix p m c cc nL s args Ts own) (hM : vx_Met l y ws rm Pc Qc XC mc ms free) (cw : CallW R s args own C index y bytes maxL ret ws rm mc ms n) (hp : PreV s H C b Pc As)
    (hg : g.method = m) (hn : As.length = n) (hsize : g.locals.size = nL) (hstack : g.stack = As.reverse ++ .ref b :: rest) (hW : 2 * g.monitorRoom + (rest.map fun v => v.category).sum ≤ 8) (hdg : decode cc g.pc = .ok (.invokevirtual index, 3)) (hf : cells + mc ≤ R.cells ∧ slots + ms ≤ R.slots) :
    vx_Run p l e R s m args below meth c H locs cells slots mc ms g rest (Qc (Value.ref b :: As).toArray) XC free := by
  have hK : vx_Back l R p e below s args y 3 8 (PreOf R mc ms Pc) (PostOf Qc mc ms free) (vx_Post XC mc ms free) := vx_callBack cw.1 hM hp.1
  obtain ⟨⟨-, -, -, -, -, -, hcode, -, hy, hlen, hl⟩, hin, hse⟩ := cw
  obtain ⟨hx, hb, hml, ho, -⟩ := S
  obtain ⟨-, ⟨cellB, hcB, hoB, hclB⟩, hPc⟩ := hp
  intro T hT X
  rcases vx_callV X hx (C := C) (bytes := bytes) (maxL := maxL) (ret := ret) ho hl hin hse hcode hy hK (by rw [hT]; exact hcB) hoB hclB hg (hsize.trans hml.symm) (argsL := As) (rest := rest) (fun sig h => hn.trans (hlen sig h)) hstack hW (by rw [hb]; exact hdg)
    (fun vm₁ hW₁ => ⟨hf.1, hf.2, hPc (T.setVm vm₁) hT hW₁⟩) with ⟨v, vm₁, ⟨U', l2, c2, s2⟩, hW₁, X', ⟨g', mk, t, L, e1, e2, hq, h1, hL, h2, h3⟩, st⟩ | ⟨q, vm₁, ⟨U', l2, c2, s2⟩, hW₁, X', ⟨g', mk, t, L, E, ce, e1, e2, hq, hce, hcv, hcl, h1, hL, h2, h3⟩, st⟩
  · dsimp only [Pt.U, Pt.locs, Pt.cells, Pt.slots] at X' e1 e2 h1 h2 h3 st
    subst h1; subst h2; subst h3
    exact Or.inl ⟨v, (T.setVm vm₁).calling g' mk (Value.ref b :: As).toArray, t, U', L, hT, X', hL, e1, e2, hq, st⟩
  · dsimp only [Pt.U, Pt.locs, Pt.cells, Pt.slots] at X' e1 e2 h1 h2 h3 st hcl
    subst h1; subst h2; subst h3
    exact Or.inr ⟨q, (T.setVm vm₁).calling g' mk (Value.ref b :: As).toArray, t, U', L, E, ce, hT, X', hL, e1, e2, hq, hce, hcv, vx_cls hW₁ hcl, st⟩
theorem vx_runS (S : CallFix p m c cc nL s args Ts own) (hM : vx_Met l y ws rm Pc Qc XC mc ms free) (cw : CallB R s args own index y bytes maxL ret ws rm mc ms n ∧ (Cond.static y).before args s = true) (hp : PreS s H Pc As)
    (hg : g.method = m) (hn : As.length = n) (hsize : g.locals.size = nL) (hstack : g.stack = As.reverse ++ rest) (hW : 2 * g.monitorRoom + (rest.map fun v => v.category).sum ≤ 8) (hdg : decode cc g.pc = .ok (.invokestatic index, 3)) (hf : cells + mc ≤ R.cells ∧ slots + ms ≤ R.slots) :
    vx_Run p l e R s m args below meth c H locs cells slots mc ms g rest (Qc As.toArray) XC free := by
  have hK : vx_Back l R p e below s args y 3 8 (PreOf R mc ms Pc) (PostOf Qc mc ms free) (vx_Post XC mc ms free) := vx_callBack cw.1 hM hp.1
  obtain ⟨⟨-, -, -, -, -, -, hcode, hini, hy, hlen, hl⟩, hstt⟩ := cw
  obtain ⟨hx, hb, hml, ho, -⟩ := S
  intro T hT X
  rcases vx_callS X hx (bytes := bytes) (maxL := maxL) (ret := ret) ho hl hstt hini hcode hy hK hg (hsize.trans hml.symm) (argsL := As) (rest := rest) (fun sig h => hn.trans (hlen sig h)) hstack hW (by rw [hb]; exact hdg)
    (fun vm₁ hW₁ => ⟨hf.1, hf.2, hp.2 (T.setVm vm₁) hT hW₁⟩) with ⟨v, vm₁, ⟨U', l2, c2, s2⟩, hW₁, X', ⟨g', mk, t, L, e1, e2, hq, h1, hL, h2, h3⟩, st⟩ | ⟨q, vm₁, ⟨U', l2, c2, s2⟩, hW₁, X', ⟨g', mk, t, L, E, ce, e1, e2, hq, hce, hcv, hcl, h1, hL, h2, h3⟩, st⟩
  · dsimp only [Pt.U, Pt.locs, Pt.cells, Pt.slots] at X' e1 e2 h1 h2 h3 st
    subst h1; subst h2; subst h3
    exact Or.inl ⟨v, (T.setVm vm₁).calling g' mk As.toArray, t, U', L, hT, X', hL, e1, e2, hq, st⟩
  · dsimp only [Pt.U, Pt.locs, Pt.cells, Pt.slots] at X' e1 e2 h1 h2 h3 st hcl
    subst h1; subst h2; subst h3
    exact Or.inr ⟨q, (T.setVm vm₁).calling g' mk As.toArray, t, U', L, E, ce, hT, X', hL, e1, e2, hq, hce, hcv, vx_cls hW₁ hcl, st⟩
end Runs
section Rows
variable {p : Program} {l : Launch} {e : Env} {R : Room} {s : State} {m : MethodId} {args : Array Value} {below : List Frame} {meth : Method} {c : Code} {H : Heap} {locs : List Loc} {cells slots : Nat} {Q : State → Prop}
variable {mc ms : Nat} {free : Addr → Prop} {A0 A1 : Nat → Prop} {H0 : Heap} {a : Array Value} {pc : Nat} {ls : Array Slot} {st0 rest : List Value}
theorem vx_keep {st₀ t T' : State} {L : List Loc} (h0 : st₀.heap = H) (e1 : T'.heap = t.heap) (hS : va_S A0 H0 H locs) (hA : ∀ q, q < H.size → A1 q → A0 q) (hf : ∀ q, free q → A0 q) (hL : ∀ q ∈ L, free q.base) (hF : va_F A1 st₀ t) :
    H.size ≤ T'.heap.size ∧ (∀ q : Nat, q < H.size → ¬ A1 q → T'.heap[q]? = H[q]?) ∧ va_S A0 H0 T'.heap (locs ++ L) := by
  obtain ⟨hz, hk⟩ := hF
  rw [h0] at hz hk
  exact ⟨by rw [e1]; exact hz, fun q h1 h2 => by rw [e1]; exact hk q h1 h2,
    ⟨Nat.le_trans hS.1 (by rw [e1]; exact hz), fun q h1 h2 => by rw [e1, hk q (Nat.lt_of_lt_of_le h1 hS.1) (fun z => h2 (hA q (Nat.lt_of_lt_of_le h1 hS.1) z))]; exact hS.2.1 q h1 h2, fun q hq => by
      rcases List.mem_append.mp hq with h | h
      · exact hS.2.2 q h
      · exact hf _ (hL q h)⟩⟩
theorem vx_calli {S SX : Type} {post : Int32 → S → Prop} {px : SX → Prop} {B : S → State → Prop} {BX : String → SX → State → Prop} {AX : Nat → Prop} (hr : vx_Run p l e R s m args below meth c H locs cells slots mc ms (F0 m pc ls st0) rest (va_Qi post B A1 a) (vx_X px BX AX) free) (hS : va_S A0 H0 H locs) (hA : ∀ q, q < H.size → A1 q → A0 q) (hf : ∀ q, free q → A0 q) (hAX : ∀ q, q < H.size → AX q → A0 q)
    (kx : ∀ (E : String) (ce : Cell) (q9 : Addr) (u : SX) (t : State) (H1 : Heap) (locs1 : List Loc), t.heap = H1 → s.vm.Alike t.vm → px u → BX E u t → H.size ≤ H1.size → (∀ q : Nat, q < H.size → ¬ AX q → H1[q]? = H[q]?) → va_S A0 H0 H1 locs1 → H1[q9]? = some ce → ce.vm = .none → s.vm.findClass E = some ce.cls → vx_W p l e R s m args below meth c H1 locs1 (cells + mc) (slots + ms) Q (F0 m pc ls rest) q9)
    (kk : ∀ (r : Int32) (u : S) (t : State) (H1 : Heap) (locs1 : List Loc), t.heap = H1 → s.vm.Alike t.vm → post r u → B u t → H.size ≤ H1.size → (∀ q : Nat, q < H.size → ¬ A1 q → H1[q]? = H[q]?) → va_S A0 H0 H1 locs1 → W p l e R s m args below meth c H1 locs1 (cells + mc) (slots + ms) Q (F0 m (pc + 3) ls (.int r :: rest))) : W p l e R s m args below meth c H locs cells slots Q (F0 m pc ls st0) := by
  intro T hT X
  rcases hr T hT X with ⟨v, st₀, t, T', L, h0, X', hL, e1, e2, ⟨⟨r, u, hv, hp, hb⟩, hF⟩, st⟩ | ⟨q, st₀, t, T', L, E, ce, h0, X', hL, e1, e2, ⟨u, hp, hb, hF⟩, hce, hcv, hcl, st⟩
  · cases hv
    obtain ⟨k1, k2, k3⟩ := vx_keep h0 e1 hS hA hf hL hF
    obtain ⟨t2, a1, b1⟩ := kk r u t T'.heap (locs ++ L) e1.symm (by rw [← e2]; exact X'.warmed.alike) hp hb k1 k2 k3 T' rfl X'
    exact ⟨t2, st t2 a1, b1⟩
  · obtain ⟨k1, k2, k3⟩ := vx_keep h0 e1 hS hAX hf hL hF
    obtain ⟨t2, a1, b1⟩ := kx E ce q u t T'.heap (locs ++ L) e1.symm (by rw [← e2]; exact X'.warmed.alike) hp hb k1 k2 k3 (by rw [e1]; exact hce) hcv hcl T' rfl X'
    exact ⟨t2, st.trans a1, b1⟩
theorem vx_calll {S SX : Type} {post : Int64 → S → Prop} {px : SX → Prop} {B : S → State → Prop} {BX : String → SX → State → Prop} {AX : Nat → Prop} (hr : vx_Run p l e R s m args below meth c H locs cells slots mc ms (F0 m pc ls st0) rest (va_Ql post B A1 a) (vx_X px BX AX) free) (hS : va_S A0 H0 H locs) (hA : ∀ q, q < H.size → A1 q → A0 q) (hf : ∀ q, free q → A0 q) (hAX : ∀ q, q < H.size → AX q → A0 q)
    (kx : ∀ (E : String) (ce : Cell) (q9 : Addr) (u : SX) (t : State) (H1 : Heap) (locs1 : List Loc), t.heap = H1 → s.vm.Alike t.vm → px u → BX E u t → H.size ≤ H1.size → (∀ q : Nat, q < H.size → ¬ AX q → H1[q]? = H[q]?) → va_S A0 H0 H1 locs1 → H1[q9]? = some ce → ce.vm = .none → s.vm.findClass E = some ce.cls → vx_W p l e R s m args below meth c H1 locs1 (cells + mc) (slots + ms) Q (F0 m pc ls rest) q9)
    (kk : ∀ (r : Int64) (u : S) (t : State) (H1 : Heap) (locs1 : List Loc), t.heap = H1 → s.vm.Alike t.vm → post r u → B u t → H.size ≤ H1.size → (∀ q : Nat, q < H.size → ¬ A1 q → H1[q]? = H[q]?) → va_S A0 H0 H1 locs1 → W p l e R s m args below meth c H1 locs1 (cells + mc) (slots + ms) Q (F0 m (pc + 3) ls (.long r :: rest))) : W p l e R s m args below meth c H locs cells slots Q (F0 m pc ls st0) := by
  intro T hT X
  rcases hr T hT X with ⟨v, st₀, t, T', L, h0, X', hL, e1, e2, ⟨⟨r, u, hv, hp, hb⟩, hF⟩, st⟩ | ⟨q, st₀, t, T', L, E, ce, h0, X', hL, e1, e2, ⟨u, hp, hb, hF⟩, hce, hcv, hcl, st⟩
  · cases hv
    obtain ⟨k1, k2, k3⟩ := vx_keep h0 e1 hS hA hf hL hF
    obtain ⟨t2, a1, b1⟩ := kk r u t T'.heap (locs ++ L) e1.symm (by rw [← e2]; exact X'.warmed.alike) hp hb k1 k2 k3 T' rfl X'
    exact ⟨t2, st t2 a1, b1⟩
  · obtain ⟨k1, k2, k3⟩ := vx_keep h0 e1 hS hAX hf hL hF
    obtain ⟨t2, a1, b1⟩ := kx E ce q u t T'.heap (locs ++ L) e1.symm (by rw [← e2]; exact X'.warmed.alike) hp hb k1 k2 k3 (by rw [e1]; exact hce) hcv hcl T' rfl X'
    exact ⟨t2, st.trans a1, b1⟩
theorem vx_callf {S SX : Type} {post : UInt32 → S → Prop} {px : SX → Prop} {B : S → State → Prop} {BX : String → SX → State → Prop} {AX : Nat → Prop} (hr : vx_Run p l e R s m args below meth c H locs cells slots mc ms (F0 m pc ls st0) rest (va_Qf post B A1 a) (vx_X px BX AX) free) (hS : va_S A0 H0 H locs) (hA : ∀ q, q < H.size → A1 q → A0 q) (hf : ∀ q, free q → A0 q) (hAX : ∀ q, q < H.size → AX q → A0 q)
    (kx : ∀ (E : String) (ce : Cell) (q9 : Addr) (u : SX) (t : State) (H1 : Heap) (locs1 : List Loc), t.heap = H1 → s.vm.Alike t.vm → px u → BX E u t → H.size ≤ H1.size → (∀ q : Nat, q < H.size → ¬ AX q → H1[q]? = H[q]?) → va_S A0 H0 H1 locs1 → H1[q9]? = some ce → ce.vm = .none → s.vm.findClass E = some ce.cls → vx_W p l e R s m args below meth c H1 locs1 (cells + mc) (slots + ms) Q (F0 m pc ls rest) q9)
    (kk : ∀ (r : UInt32) (u : S) (t : State) (H1 : Heap) (locs1 : List Loc), t.heap = H1 → s.vm.Alike t.vm → post r u → B u t → H.size ≤ H1.size → (∀ q : Nat, q < H.size → ¬ A1 q → H1[q]? = H[q]?) → va_S A0 H0 H1 locs1 → W p l e R s m args below meth c H1 locs1 (cells + mc) (slots + ms) Q (F0 m (pc + 3) ls (.float r :: rest))) : W p l e R s m args below meth c H locs cells slots Q (F0 m pc ls st0) := by
  intro T hT X
  rcases hr T hT X with ⟨v, st₀, t, T', L, h0, X', hL, e1, e2, ⟨⟨r, u, hv, hp, hb⟩, hF⟩, st⟩ | ⟨q, st₀, t, T', L, E, ce, h0, X', hL, e1, e2, ⟨u, hp, hb, hF⟩, hce, hcv, hcl, st⟩
  · cases hv
    obtain ⟨k1, k2, k3⟩ := vx_keep h0 e1 hS hA hf hL hF
    obtain ⟨t2, a1, b1⟩ := kk r u t T'.heap (locs ++ L) e1.symm (by rw [← e2]; exact X'.warmed.alike) hp hb k1 k2 k3 T' rfl X'
    exact ⟨t2, st t2 a1, b1⟩
  · obtain ⟨k1, k2, k3⟩ := vx_keep h0 e1 hS hAX hf hL hF
    obtain ⟨t2, a1, b1⟩ := kx E ce q u t T'.heap (locs ++ L) e1.symm (by rw [← e2]; exact X'.warmed.alike) hp hb k1 k2 k3 (by rw [e1]; exact hce) hcv hcl T' rfl X'
    exact ⟨t2, st.trans a1, b1⟩
theorem vx_calld {S SX : Type} {post : UInt64 → S → Prop} {px : SX → Prop} {B : S → State → Prop} {BX : String → SX → State → Prop} {AX : Nat → Prop} (hr : vx_Run p l e R s m args below meth c H locs cells slots mc ms (F0 m pc ls st0) rest (va_Qd post B A1 a) (vx_X px BX AX) free) (hS : va_S A0 H0 H locs) (hA : ∀ q, q < H.size → A1 q → A0 q) (hf : ∀ q, free q → A0 q) (hAX : ∀ q, q < H.size → AX q → A0 q)
    (kx : ∀ (E : String) (ce : Cell) (q9 : Addr) (u : SX) (t : State) (H1 : Heap) (locs1 : List Loc), t.heap = H1 → s.vm.Alike t.vm → px u → BX E u t → H.size ≤ H1.size → (∀ q : Nat, q < H.size → ¬ AX q → H1[q]? = H[q]?) → va_S A0 H0 H1 locs1 → H1[q9]? = some ce → ce.vm = .none → s.vm.findClass E = some ce.cls → vx_W p l e R s m args below meth c H1 locs1 (cells + mc) (slots + ms) Q (F0 m pc ls rest) q9)
    (kk : ∀ (r : UInt64) (u : S) (t : State) (H1 : Heap) (locs1 : List Loc), t.heap = H1 → s.vm.Alike t.vm → post r u → B u t → H.size ≤ H1.size → (∀ q : Nat, q < H.size → ¬ A1 q → H1[q]? = H[q]?) → va_S A0 H0 H1 locs1 → W p l e R s m args below meth c H1 locs1 (cells + mc) (slots + ms) Q (F0 m (pc + 3) ls (.double r :: rest))) : W p l e R s m args below meth c H locs cells slots Q (F0 m pc ls st0) := by
  intro T hT X
  rcases hr T hT X with ⟨v, st₀, t, T', L, h0, X', hL, e1, e2, ⟨⟨r, u, hv, hp, hb⟩, hF⟩, st⟩ | ⟨q, st₀, t, T', L, E, ce, h0, X', hL, e1, e2, ⟨u, hp, hb, hF⟩, hce, hcv, hcl, st⟩
  · cases hv
    obtain ⟨k1, k2, k3⟩ := vx_keep h0 e1 hS hA hf hL hF
    obtain ⟨t2, a1, b1⟩ := kk r u t T'.heap (locs ++ L) e1.symm (by rw [← e2]; exact X'.warmed.alike) hp hb k1 k2 k3 T' rfl X'
    exact ⟨t2, st t2 a1, b1⟩
  · obtain ⟨k1, k2, k3⟩ := vx_keep h0 e1 hS hAX hf hL hF
    obtain ⟨t2, a1, b1⟩ := kx E ce q u t T'.heap (locs ++ L) e1.symm (by rw [← e2]; exact X'.warmed.alike) hp hb k1 k2 k3 (by rw [e1]; exact hce) hcv hcl T' rfl X'
    exact ⟨t2, st.trans a1, b1⟩
theorem vx_callv {S SX : Type} {post : S → Prop} {px : SX → Prop} {B : S → State → Prop} {BX : String → SX → State → Prop} {AX : Nat → Prop} (hr : vx_Run p l e R s m args below meth c H locs cells slots mc ms (F0 m pc ls st0) rest (va_Qv post B A1 a) (vx_X px BX AX) free) (hS : va_S A0 H0 H locs) (hA : ∀ q, q < H.size → A1 q → A0 q) (hf : ∀ q, free q → A0 q) (hAX : ∀ q, q < H.size → AX q → A0 q)
    (kx : ∀ (E : String) (ce : Cell) (q9 : Addr) (u : SX) (t : State) (H1 : Heap) (locs1 : List Loc), t.heap = H1 → s.vm.Alike t.vm → px u → BX E u t → H.size ≤ H1.size → (∀ q : Nat, q < H.size → ¬ AX q → H1[q]? = H[q]?) → va_S A0 H0 H1 locs1 → H1[q9]? = some ce → ce.vm = .none → s.vm.findClass E = some ce.cls → vx_W p l e R s m args below meth c H1 locs1 (cells + mc) (slots + ms) Q (F0 m pc ls rest) q9)
    (kk : ∀ (u : S) (t : State) (H1 : Heap) (locs1 : List Loc), t.heap = H1 → s.vm.Alike t.vm → post u → B u t → H.size ≤ H1.size → (∀ q : Nat, q < H.size → ¬ A1 q → H1[q]? = H[q]?) → va_S A0 H0 H1 locs1 → W p l e R s m args below meth c H1 locs1 (cells + mc) (slots + ms) Q (F0 m (pc + 3) ls (rest))) : W p l e R s m args below meth c H locs cells slots Q (F0 m pc ls st0) := by
  intro T hT X
  rcases hr T hT X with ⟨v, st₀, t, T', L, h0, X', hL, e1, e2, ⟨⟨u, hv, hp, hb⟩, hF⟩, st⟩ | ⟨q, st₀, t, T', L, E, ce, h0, X', hL, e1, e2, ⟨u, hp, hb, hF⟩, hce, hcv, hcl, st⟩
  · cases hv
    obtain ⟨k1, k2, k3⟩ := vx_keep h0 e1 hS hA hf hL hF
    obtain ⟨t2, a1, b1⟩ := kk u t T'.heap (locs ++ L) e1.symm (by rw [← e2]; exact X'.warmed.alike) hp hb k1 k2 k3 T' rfl X'
    exact ⟨t2, st t2 a1, b1⟩
  · obtain ⟨k1, k2, k3⟩ := vx_keep h0 e1 hS hAX hf hL hF
    obtain ⟨t2, a1, b1⟩ := kx E ce q u t T'.heap (locs ++ L) e1.symm (by rw [← e2]; exact X'.warmed.alike) hp hb k1 k2 k3 (by rw [e1]; exact hce) hcv hcl T' rfl X'
    exact ⟨t2, st.trans a1, b1⟩
/-- caught by the row x of this method's table; the rows ahead don't take it -/
theorem vx_catch {own name : String} {E : String} {ce : Cell} {q : Addr} (hown : s.vm.findClass own = some m.cls) (pre : List ExceptionTableEntry) (x : ExceptionTableEntry) (suf : List ExceptionTableEntry) (hsplit : c.exceptionTable.toList = pre ++ x :: suf)
    (hpass : ∀ z ∈ pre, covers z pc = false ∨ (z.catchType ≠ 0 ∧ ∃ nm : String, (Cond.classLink own z.catchType nm).before args s = true ∧ va_Nc E nm s)) (hx : covers x pc = true) (h0 : x.catchType ≠ 0)
    (hlink : (Cond.classLink own x.catchType name).before args s = true) (hcast : (Cond.castable E name).before args s = true) (hcell : H[q]? = some ce) (hv : ce.vm = .none) (hcl : s.vm.findClass E = some ce.cls)
    (kk : W p l e R s m args below meth c H locs cells slots Q (F0 m x.handlerPc ls [.ref q])) : vx_W p l e R s m args below meth c H locs cells slots Q (F0 m pc ls rest) q := by
  intro T hT X
  have hpl : e.platform.magicAccessors = ({} : Platform).magicAccessors := by rw [X.admits.platform]
  obtain ⟨c3, c4, hc3, hc4, hasg⟩ := Cond.castable_spec hcast
  cases Option.some.inj (hc3.symm.trans hcl)
  obtain ⟨c5, hc5, hcl5⟩ := Cond.classLink_spec hown hlink e.platform hpl
  cases Option.some.inj (hc4.symm.trans hc5)
  obtain ⟨vm', X', st⟩ := X.thenCaughtThrough q (g := F0 m pc ls rest) rfl (Steps.refl _) (by rw [hT]; exact hcell) (by rw [hv]; rfl) (by obtain ⟨k9, h9, -⟩ := Vm.findClass_spec hcl; exact ⟨k9, h9⟩) pre x suf hsplit
    (fun z hz => by
      rcases hpass z hz with h | ⟨hz0, nm, hl1, hn1⟩
      · exact Or.inl h
      · obtain ⟨c6, hc6, hcl6⟩ := Cond.classLink_spec hown hl1 e.platform hpl
        obtain ⟨a8, b8, h1, h2, h3⟩ := hn1
        cases Option.some.inj (h1.symm.trans hcl)
        cases Option.some.inj (h2.symm.trans hc6)
        exact Or.inr ⟨hz0, _, hcl6, h3⟩) hx (Or.inr ⟨h0, c4, hcl5, hasg⟩)
  obtain ⟨t, a1, b1⟩ := kk (T.setVm vm') hT X'
  exact ⟨t, st.trans a1, b1⟩
end Rows
section Ends
variable {p : Program} {l : Launch} {e : Env} {R : Room} {s : State} {m : MethodId} {args : Array Value} {below : List Frame} {meth : Method} {c : Code} {H : Heap} {locs : List Loc} {cells slots : Nat} {Q : State → Prop}
variable {mc ms : Nat} {free : Addr → Prop} {A0 A1 : Nat → Prop} {H0 : Heap} {a : Array Value} {ls : Array Slot} {st0 rest : List Value}
variable {Qc : Array Value → State → Outcome → State → Prop} {XC : String → State → State → Prop}
/-- what a body that may throw owes at its end -/
def vx_MQ (below : List Frame) (Qc : Array Value → State → Outcome → State → Prop) (XC : String → State → State → Prop) (a : Array Value) (s : State) (mc ms : Nat) (free : Addr → Prop) : State → Prop := fun t =>
  ∃ o, t.status = .running ∧ Ended t below o ∧ vx_Q Qc XC mc ms free a s o t
theorem vx_ret {g : JFrame} {mc ms : Nat} (k : W p l e R s m args below meth c H locs cells slots (MQ below Qc args s mc ms free) g) : W p l e R s m args below meth c H locs cells slots (vx_MQ below Qc XC args s mc ms free) g := by
  intro T hT X
  obtain ⟨t, a1, o, b1, b2, b3, b4⟩ := k T hT X
  exact ⟨t, a1, o, b1, b2, Or.inl ⟨b3, b4⟩⟩
/-- not caught here: it goes on to the caller -/
theorem vx_widen {g : JFrame} {q : Addr} {k n : Nat} (h1 : cells ≤ k) (h2 : slots ≤ n) (kk : vx_W p l e R s m args below meth c H locs k n Q g q) : vx_W p l e R s m args below meth c H locs cells slots Q g q := fun T hT X => kk T hT (stand_widen X h1 h2)
theorem vx_out {pc : Nat} {E : String} {ce : Cell} {q : Addr} {mc ms : Nat} (hout : ∀ x ∈ c.exceptionTable.toList, covers x pc = false) (hlocks : meth.locks = false) (hcell : H[q]? = some ce) (hv : ce.vm = .none) (hcl : s.vm.findClass E = some ce.cls)
    (hx : ∀ t : State, t.heap = H → s.vm.Alike t.vm → XC E s t) (hf : ∀ z ∈ locs, free z.base) (hc : cells ≤ mc) (hs : slots ≤ ms) :
    vx_W p l e R s m args below meth c H locs cells slots (vx_MQ below Qc XC args s mc ms free) (F0 m pc ls rest) q := by
  intro T hT X
  obtain ⟨st1, hrun, hend, hW, hsm⟩ := X.leaveThrown q (g := F0 m pc ls rest) rfl rfl rfl hout hlocks
  have hcell9 : (T.setFrames (.throwing q :: below)).heap[q]? = some ce := by
    show T.heap[q]? = some ce
    rw [hT]; exact hcell
  exact ⟨_, st1, .threw q, hrun, hend, Or.inr ⟨q, rfl, E, ce, locs, hx _ hT hW.alike, hcell9, hv, hcl, hW, hsm.mono hc hs, hf⟩⟩
theorem vx_frame {U : State} {k n : Nat} (h : s.sameButNew ({ U with vm := s.vm } : State) locs k n) : s.heap.size ≤ U.heap.size ∧ ∀ q : Nat, q < s.heap.size → (∀ z ∈ locs, z.base ≠ q) → U.heap[q]? = s.heap[q]? := by
  obtain ⟨-, h2, -, -, -, h6⟩ := h
  refine ⟨h2, fun q hq hz => ?_⟩
  obtain ⟨c9, e1, e2, e3, e4⟩ := h6 q _ (Array.getElem?_eq_getElem hq)
  have hs : c9.slots = (s.heap[q]).slots := Array.ext_getElem? fun i => e4 i fun hm => hz _ hm rfl
  have h9 : c9 = s.heap[q] := by
    rw [hs] at e2
    exact e2
  have e5 : U.heap[q]? = some c9 := e1
  rw [e5, h9, Array.getElem?_eq_getElem hq]
/-- the words of a throw but the four that speak of the heap -/
def vx_no (w : Cond) : Bool := decide (w ≠ .isRef (.static Bundle.tN "UNASSIGNED_STACK" Bundle.steD)) && decide (w ≠ .isRef (.static Bundle.tN "SUPPRESSED_SENTINEL" Bundle.listD)) && decide (w ≠ .laysStatic Bundle.tN "UNASSIGNED_STACK" Bundle.steD) && decide (w ≠ .laysStatic Bundle.tN "SUPPRESSED_SENTINEL" Bundle.listD)
def vx_at0 (own : String) (ic : Nat) (X : String) (names : List String) : List Cond := (Bundle.ownAtoms0 own ic X names).filter vx_no
def vx_atS (own : String) (ic : Nat) (X : String) (names : List String) : List Cond := (Bundle.ownAtoms own ic X names).filter vx_no
/-- a word that the tables alone decide, or a good one -/
def vx_ot (w : Cond) : Bool := w.onTables || goodWord w
theorem vx_ot_at {args a' : Array Value} {s U : State} {w : Cond} (hW : s.WarmedH U.vm) (hvm : s.vm = U.vm) (hg : vx_ot w = true) (h : w.before args s = true) : w.before a' U = true := by
  simp only [vx_ot, Bool.or_eq_true] at hg
  rcases hg with hg | hg
  · exact va_tabs hg hvm h
  · exact word_at hW (good_of_word hg) h
/-- a list's words: the good ones out of the method's own list, the others by premises of their own -/
theorem vx_hat {args : Array Value} {s : State} {L B : List Cond} (h1 : ∀ w ∈ L.filter goodWord, w.before args s = true) (h2 : ∀ w ∈ L.filter (fun w => !goodWord w), w ∈ B) (h3 : ∀ w ∈ B, w.before args s = true) : ∀ w ∈ L, w.before args s = true := by
  intro w hw
  by_cases g : goodWord w = true
  · exact h1 w (List.mem_filter.mpr ⟨hw, g⟩)
  · refine h3 w (h2 w (List.mem_filter.mpr ⟨hw, ?_⟩))
    show (!goodWord w) = true
    cases hgw : goodWord w
    · rfl
    · exact absurd hgw g
theorem vx_c {args : Array Value} {s : State} {w : Cond} {B : List Cond} (h : w.before args s = true) (t : ∀ w ∈ B, w.before args s = true) : ∀ w' ∈ w :: B, w'.before args s = true := fun w' h' => (List.mem_cons.mp h').elim (fun e => by rw [e]; exact h) (t w')
theorem vx_n {args : Array Value} {s : State} : ∀ w ∈ ([] : List Cond), w.before args s = true := fun _ h => nomatch h
theorem vx_own {args : Array Value} {s : State} {L : List Cond} (h1 : ∀ w ∈ L.filter vx_no, w.before args s = true)
    (hU : (Cond.isRef (.static Bundle.tN "UNASSIGNED_STACK" Bundle.steD)).before args s = true) (hN : (Cond.isRef (.static Bundle.tN "SUPPRESSED_SENTINEL" Bundle.listD)).before args s = true)
    (lU : (Cond.laysStatic Bundle.tN "UNASSIGNED_STACK" Bundle.steD).before args s = true) (lN : (Cond.laysStatic Bundle.tN "SUPPRESSED_SENTINEL" Bundle.listD).before args s = true) : ∀ w ∈ L, w.before args s = true := by
  intro w hw
  by_cases e1 : w = .isRef (.static Bundle.tN "UNASSIGNED_STACK" Bundle.steD)
  · rw [e1]; exact hU
  · by_cases e2 : w = .isRef (.static Bundle.tN "SUPPRESSED_SENTINEL" Bundle.listD)
    · rw [e2]; exact hN
    · by_cases e3 : w = .laysStatic Bundle.tN "UNASSIGNED_STACK" Bundle.steD
      · rw [e3]; exact lU
      · by_cases e4 : w = .laysStatic Bundle.tN "SUPPRESSED_SENTINEL" Bundle.listD
        · rw [e4]; exact lN
        · exact h1 w (List.mem_filter.mpr ⟨hw, by unfold vx_no; rw [decide_eq_true e1, decide_eq_true e2, decide_eq_true e3, decide_eq_true e4]; rfl⟩)
/-- where a static field lies, its class's statics cell in H -/
def vx_L (C n d : String) (A : Nat → Prop) (U : State) (H : Heap) : Prop := ∃ (c : ClassId) (k : Class) (i : Nat) (f : Field) (a : Nat) (cell : Cell), U.vm.findClass C = some c ∧ U.fieldFound? C n d = some (c, k, i, f) ∧ f.isStatic = true ∧ k.statics = some a ∧ H[a]? = some cell ∧ cell.vm.isStatics = true ∧ cell.cls = c ∧ f.slot < cell.slots.size ∧ k.staticTypes[f.slot]? = some f.type ∧ ¬ A a
theorem vx_L.moved {C n d : String} {A : Nat → Prop} {u U : State} {H : Heap} (hvm : u.vm.Alike U.vm) (h : vx_L C n d A u H) : vx_L C n d A U H := by
  obtain ⟨c, k, i, f, a, cell, h1, h2, h3, h4, h5, h6, h7, h8, h9, h10⟩ := h
  obtain ⟨k', hi', he⟩ := State.fieldFound?_setVm hvm h2
  exact ⟨c, k', i, f, a, cell, by rw [hvm.findClass]; exact h1, hi', h3, by rw [he]; exact h4, h5, h6, h7, h8, by rw [he]; exact h9, h10⟩
theorem vx_L.kept {C n d : String} {A : Nat → Prop} {U : State} {H H1 : Heap} (h : vx_L C n d A U H) (hq : ∀ a : Nat, a < H.size → ¬ A a → H1[a]? = H[a]?) : vx_L C n d A U H1 := by
  obtain ⟨c, k, i, f, a, cell, h1, h2, h3, h4, h5, h6, h7, h8, h9, h10⟩ := h
  exact ⟨c, k, i, f, a, cell, h1, h2, h3, h4, by rw [hq a (Array.getElem?_eq_some_iff.mp h5).1 h10]; exact h5, h6, h7, h8, h9, h10⟩
theorem vx_L.narrow {C n d : String} {A B : Nat → Prop} {U : State} {H : Heap} (h : vx_L C n d A U H) (hAB : ∀ q, B q → A q) : vx_L C n d B U H := by
  obtain ⟨c, k, i, f, a, cell, h1, h2, h3, h4, h5, h6, h7, h8, h9, h10⟩ := h
  exact ⟨c, k, i, f, a, cell, h1, h2, h3, h4, h5, h6, h7, h8, h9, fun z => h10 (hAB _ z)⟩
theorem vx_L.word {C n d : String} {A : Nat → Prop} {s : State} {args : Array Value} (h : vx_L C n d A s s.heap) : (Cond.laysStatic C n d).before args s = true := by
  obtain ⟨c, k, i, f, a, cell, h1, h2, h3, h4, h5, h6, h7, h8, h9, -⟩ := h
  show (Cond.laysStatic C n d).holds args s none s [] = true
  exact Cond.laysStatic_of h1 h2 h3 h4 h5 h6 h7 h8 h9
/-- .. and what it holds: null or some reference -/
def vx_Zq (C n d : String) (A : Nat → Prop) (U : State) (H : Heap) : Prop := va_Zq C n d A U H ∧ vx_L C n d A U H
theorem vx_Zq.moved {C n d : String} {A : Nat → Prop} {u U : State} {H : Heap} (hvm : u.vm.Alike U.vm) (h : vx_Zq C n d A u H) : vx_Zq C n d A U H := ⟨va_Zq.moved hvm h.1, vx_L.moved hvm h.2⟩
theorem vx_Zq.kept {C n d : String} {A : Nat → Prop} {U : State} {H H1 : Heap} (h : vx_Zq C n d A U H) (hq : ∀ a : Nat, a < H.size → ¬ A a → H1[a]? = H[a]?) : vx_Zq C n d A U H1 := ⟨va_Zq.kept h.1 hq, vx_L.kept h.2 hq⟩
theorem vx_Zq.narrow {C n d : String} {A B : Nat → Prop} {U : State} {H : Heap} (h : vx_Zq C n d A U H) (hAB : ∀ q, B q → A q) : vx_Zq C n d B U H := ⟨va_Zq.narrow h.1 hAB, vx_L.narrow h.2 hAB⟩
theorem vx_Zqof {args : Array Value} {s : State} {C n d : String} {A : Nat → Prop} (hl : (Cond.laysStatic C n d).before args s = true) (hini : (Cond.initialized C).before args s = true) (h : (Cond.isRef (.static C n d)).before args s = true) (hA : ∀ a : Nat, a < s.heap.size → ¬ A a) : vx_Zq C n d A s s.heap := by
  refine ⟨va_Zqof hl hini h hA, ?_⟩
  obtain ⟨c, k, i, f, a, cell, h1, h2, h3, h4, h5, h6, h7, h8, h9⟩ := Cond.laysStatic_spec hl
  exact ⟨c, k, i, f, a, cell, h1, h2, h3, h4, h5, h6, h7, h8, h9, hA a (Array.getElem?_eq_some_iff.mp h5).1⟩
theorem vx_isRef {C n d : String} {v : Value} {A : Nat → Prop} {s : State} {args : Array Value} (h : va_Z C n d v A s s.heap) (hv : v.isRef = true) : (Cond.isRef (.static C n d)).before args s = true := by
  obtain ⟨cf, kf, fi, f, a, cell, h1, h2, h3, h4, h5, h6, h7, -⟩ := h
  have he : (Term.static C n d).eval args s none [] s = some v := by
    simp [Term.eval, State.fieldNamed?, h1, h2, h4, h5, h6, h7]
  simp only [Cond.before, Cond.holds, Cond.value, he]
  cases v <;> simp_all [Value.isRef]
theorem vx_isRefq {C n d : String} {A : Nat → Prop} {s : State} {args : Array Value} (h : va_Zq C n d A s s.heap) : (Cond.isRef (.static C n d)).before args s = true := by
  rcases h with h | ⟨t, h⟩
  · exact vx_isRef h rfl
  · exact vx_isRef h rfl
/-- the same frame, seen from here: as if the method were called anew in this heap -/
theorem vx_rebase {T : State} (X : Stand p l e R s m args below meth c T locs cells slots) {R' : Room} (hf : R'.frames ≤ R.frames) (hl : R'.locals ≤ R.locals) (hc : cells + R'.cells ≤ R.cells) (hs : slots + R'.slots ≤ R.slots) :
    Stand p l e R' ((T.setVm s.vm).setFrames (.invoking m args :: below)) m args below meth c T [] 0 0 := by
  have htop : (T.setVm s.vm).topJava?.isSome := X.here.top
  have hF : ((T.setVm s.vm).setFrames (.invoking m args :: below)).frames = .invoking m args :: below := State.frames_setFrames _ (State.cur_lt_of_top htop)
  obtain ⟨g₀, hg0⟩ := Option.isSome_iff_exists.mp htop
  obtain ⟨r, hr⟩ := State.topJava?_eq_some.mp hg0
  have hl9 : e.platform.stackLimits (T.setVm s.vm).me = e.platform.stackLimits s.me := X.limits
  have hb9 : (T.setVm s.vm).me.stackBytes = s.me.stackBytes := X.bytes
  refine ⟨X.admits, X.cas, X.clock, hF, ?_, X.hears, X.method, X.code, X.here, X.tail, X.warmed, ?_, ?_, ?_⟩
  · have h := X.room
    have hU : ((T.setVm s.vm).setFrames (.invoking m args :: below)).localsInUse = s.localsInUse := by
      rw [State.localsInUse_invoking hF (meth := meth) (c := c) X.method X.code, State.localsInUse_invoking X.frames X.method X.code]
    simp only [State.hasRoom, Bool.and_eq_true, decide_eq_true_eq] at h ⊢
    obtain ⟨⟨⟨⟨h1, h2, h3, h4, h5, h6⟩, h7⟩, h8⟩, h9⟩ := h
    rw [X.frames, List.length_cons] at h2 h3
    have q1 := X.heapSize
    have q2 := X.used
    simp only [hF, hU, List.length_cons, State.stackLimits_setFrames, State.stackBytes_setFrames, hl9, hb9]
    refine ⟨⟨⟨⟨by omega, by omega, by omega, by omega, by omega, h6⟩, ?_⟩, ?_⟩, X.book⟩
    · show T.heap.size + R'.cells ≤ e.platform.maxCells
      omega
    · show T.slotsUsed + R'.slots ≤ e.platform.maxSlots
      omega
  · rw [State.stackLimits_setFrames]; rfl
  · rw [State.stackBytes_setFrames]; rfl
  · refine ⟨?_, Nat.le_refl _, Nat.le_refl _, ?_, ?_, fun a c9 h9 => ⟨c9, h9, rfl, rfl, fun _ _ => rfl⟩⟩
    · obtain ⟨t, ht, -⟩ := State.frames_cons hr
      show T.setVm s.vm = { ((T.setVm s.vm).setFrames (.invoking m args :: below)).setFrames (T.setVm s.vm).frames with heap := T.heap, slotsUsed := T.slotsUsed }
      rw [State.setFrames_setFrames, State.setFrames_self ht]
      rfl
    · show T.slotsUsed = T.slotsUsed + ((T.heap.toList.drop T.heap.size).map (·.slots.size)).sum
      rw [List.drop_eq_nil_of_le (Nat.le_of_eq Array.length_toList)]
      rfl
    · show ((T.heap.toList.drop T.heap.size).map (·.slots.size)).sum ≤ 0
      rw [List.drop_eq_nil_of_le (Nat.le_of_eq Array.length_toList)]
      exact Nat.le_refl _
/-- 'throw new E()': new; dup; invokespecial; athrow -/
theorem vx_throw0 {cc : ByteArray} {pc : Nat} (hexec : p.tables.exec = Jvm.exec) (hb : c.code = cc) (hl : l.stackTraces = false) {own cls : String} {names : List String} {ik ic mc ms : Nat} {A : Nat → Prop}
    (hown : s.vm.findClass own = some m.cls) (hcls : Bundle.fit cls = true) (hnames : ∀ n ∈ names, Bundle.fit n = true)
    (hk : (Cond.classLink own ik cls).before args s = true) (hini : (Cond.initialized cls).before args s = true) (hat : ∀ w ∈ vx_at0 own ic cls names, w.before args s = true)
    (hgood : ∀ w ∈ Cond.classLink own ik cls :: Cond.initialized cls :: vx_at0 own ic cls names, vx_ot w = true)
    (hU : vx_Zq Bundle.tN "UNASSIGNED_STACK" Bundle.steD A s s.heap) (hN : vx_Zq Bundle.tN "SUPPRESSED_SENTINEL" Bundle.listD A s s.heap) (hS : va_S A s.heap H locs) (hsize : ls.size = c.maxLocals)
    (d0 : decode cc pc = .ok (.new ik, 3)) (d3 : decode cc (pc + 3) = .ok (.dup, 1)) (d4 : decode cc (pc + 4) = .ok (.invokespecial ic, 3)) (d7 : decode cc (pc + 7) = .ok (.athrow, 1))
    (hout : ∀ x ∈ c.exceptionTable.toList, covers x (pc + 7) = false)
    (hRframes : names.length + 3 < R.frames) (hRlocals : (rest.map fun v => v.category).sum + (13 * (names.length + 1) + 42) ≤ R.locals) (hRcells : cells + 1 ≤ R.cells) (hRslots : slots + 6 ≤ R.slots) (hlocks : meth.locks = false)
    (hx : ∀ t : State, s.vm.Alike t.vm → H.size ≤ t.heap.size → (∀ q : Nat, q < H.size → t.heap[q]? = H[q]?) → XC cls s t)
    (hf : ∀ z ∈ locs, free z.base) (hc : cells + 1 ≤ mc) (hs : slots + 6 ≤ ms) :
    W p l e R s m args below meth c H locs cells slots (vx_MQ below Qc XC args s mc ms free) (F0 m pc ls rest) := by
  intro T hT X
  have htr : e.platform.stackTraces = false := (show e.platform.stackTraces = l.stackTraces by rw [X.admits.platform]).trans hl
  have Y := vx_rebase X (R' := { frames := R.frames, locals := R.locals, cells := 1, slots := 6 }) (Nat.le_refl _) (Nat.le_refl _) hRcells hRslots
  obtain ⟨s', hA⟩ : ∃ z, z = (T.setVm s.vm).setFrames (.invoking m args :: below) := ⟨_, rfl⟩
  rw [← hA] at Y
  have hvm : s'.vm = s.vm := by rw [hA]; rfl
  have hhp : s'.heap = H := by rw [hA]; exact hT
  have hW0 : s.WarmedH s'.vm := by rw [hvm]; exact State.WarmedH.refl s
  have hat' : ∀ w ∈ vx_at0 own ic cls names, w.before args s' = true := fun w hw => vx_ot_at hW0 hvm.symm (hgood w (List.mem_cons_of_mem _ (List.mem_cons_of_mem _ hw))) (hat w hw)
  have hk' : (Cond.classLink own ik cls).before args s' = true := vx_ot_at hW0 hvm.symm (hgood _ List.mem_cons_self) hk
  have hini' : (Cond.initialized cls).before args s' = true := vx_ot_at hW0 hvm.symm (hgood _ (List.mem_cons_of_mem _ List.mem_cons_self)) hini
  have hU' : vx_Zq Bundle.tN "UNASSIGNED_STACK" Bundle.steD A s' s'.heap := by rw [hhp]; exact vx_Zq.moved hW0.alike (hU.kept hS.2.1)
  have hN' : vx_Zq Bundle.tN "SUPPRESSED_SENTINEL" Bundle.listD A s' s'.heap := by rw [hhp]; exact vx_Zq.moved hW0.alike (hN.kept hS.2.1)
  have h : ∀ w ∈ Bundle.ownAtoms0 own ic cls names, w.before args s' = true := vx_own hat' (vx_isRefq hU'.1) (vx_isRefq hN'.1) hU'.2.word hN'.2.word
  have hown' : s'.vm.findClass own = some m.cls := by rw [hvm]; exact hown
  have hins : (Cond.instantiable cls 6).before args s' = true := h _ (by simp [Bundle.ownAtoms0])
  obtain ⟨vm₁, cX, kX, hfX, hkX, -, -, X₁, st1⟩ := Y.newCold hexec (own := own) (C := cls) (index := ik) (n := 6) hown' hk' hins hini'
    (g := F0 m pc ls rest) rfl (by rw [hb]; exact d0) (Nat.le_refl _) (Nat.le_refl _)
  generalize hT1 : (T.setVm vm₁).pushCell { cls := cX, slots := kX.instanceTypes.map defaultValue, vm := .none } = T1 at X₁ st1
  have hcat : (Value.ref T.heap.size).category = 1 := rfl
  have hcellA : T1.heap[T.heap.size]? = some (freshCell cX kX) := by rw [← hT1]; exact State.heap_pushCell_size _ _
  have d3' : decode c.code (pc + 3) = .ok (.dup, 1) := by rw [hb]; exact d3
  obtain ⟨U, hsteps, hrun, hend, hW, hsame, ce, hce, hO⟩ := X₁.ctorThrow0 hexec htr (own := own) (cls := cls) (names := names) (ic := ic) hown' hcls hnames h (fun x hx => nomatch hx) hfX hkX hcellA (by rw [hhp, hT]; exact Nat.le_refl _)
    (g := { method := m, pc := pc + 4, locals := ls, stack := .ref T.heap.size :: .ref T.heap.size :: rest, locked := none }) rfl hsize rfl rfl (rest := rest) rfl
    (by rw [hb]; exact d4) (by rw [hb]; exact d7) hout hRframes (by simp only [List.map_cons, List.sum_cons, hcat]; omega) hlocks
  obtain ⟨f1, f2⟩ := vx_frame hsame
  rw [hhp] at f1 f2
  have hWs : s.WarmedH U.vm := State.WarmedH.trans hW0 hW
  have hcl : s.vm.findClass cls = some ce.cls := by
    have h9 := hO.cls
    rw [hvm] at h9
    exact h9
  have hall : s.sameButNew ({ U with vm := s.vm } : State) locs mc ms := by
    subst hA
    obtain ⟨e1, e2⟩ := hsame
    rw [State.setFrames_setFrames] at e1
    have h2 : (T.setVm s.vm).sameButNew ({ U with vm := s.vm } : State) [] (0 + 1) (0 + 6) := ⟨e1, e2⟩
    have h3 := X.same.trans h2
    rw [List.append_nil] at h3
    exact h3.mono hc hs
  refine ⟨U, ?_, .threw T.heap.size, hrun, hend, Or.inr ⟨T.heap.size, rfl, cls, ce, locs, hx U hWs.alike f1 (fun q hq => f2 q hq (fun z hz => nomatch hz)), hce, hO.vm, hcl, hWs, hall, hf⟩⟩
  refine st1 _ ?_
  show Steps p.tables e below (T1.setTop { method := m, pc := pc + 3, locals := ls, stack := .ref T.heap.size :: rest, locked := none }) _
  jvm_step X₁.here [X₁.here.top, hexec, d3', Value.category]
  exact hsteps
/-- 'throw new E("text")': new; dup; ldc; invokespecial; athrow -/
theorem vx_throwS {cc : ByteArray} {pc : Nat} (hexec : p.tables.exec = Jvm.exec) (hb : c.code = cc) (hl : l.stackTraces = false) {own cls text : String} {names : List String} {ik is ic mc ms sa : Nat} {A : Nat → Prop}
    (hown : s.vm.findClass own = some m.cls) (hcls : Bundle.fit cls = true) (hnames : ∀ n ∈ names, Bundle.fit n = true)
    (hk : (Cond.classLink own ik cls).before args s = true) (hini : (Cond.initialized cls).before args s = true) (hstr : vk_R own is text sa s) (hat : ∀ w ∈ vx_atS own ic cls names, w.before args s = true)
    (hgood : ∀ w ∈ Cond.classLink own ik cls :: Cond.initialized cls :: vx_atS own ic cls names, vx_ot w = true)
    (hU : vx_Zq Bundle.tN "UNASSIGNED_STACK" Bundle.steD A s s.heap) (hN : vx_Zq Bundle.tN "SUPPRESSED_SENTINEL" Bundle.listD A s s.heap) (hS : va_S A s.heap H locs) (hsize : ls.size = c.maxLocals)
    (d0 : decode cc pc = .ok (.new ik, 3)) (d3 : decode cc (pc + 3) = .ok (.dup, 1)) (d4 : decode cc (pc + 4) = .ok (.ldc is, 2)) (d6 : decode cc (pc + 6) = .ok (.invokespecial ic, 3)) (d9 : decode cc (pc + 9) = .ok (.athrow, 1))
    (hout : ∀ x ∈ c.exceptionTable.toList, covers x (pc + 9) = false)
    (hRframes : names.length + 3 < R.frames) (hRlocals : (rest.map fun v => v.category).sum + (13 * (names.length + 1) + 43) ≤ R.locals) (hRcells : cells + 1 ≤ R.cells) (hRslots : slots + 6 ≤ R.slots) (hlocks : meth.locks = false)
    (hx : ∀ t : State, s.vm.Alike t.vm → H.size ≤ t.heap.size → (∀ q : Nat, q < H.size → t.heap[q]? = H[q]?) → XC cls s t)
    (hf : ∀ z ∈ locs, free z.base) (hc : cells + 1 ≤ mc) (hs : slots + 6 ≤ ms) :
    W p l e R s m args below meth c H locs cells slots (vx_MQ below Qc XC args s mc ms free) (F0 m pc ls rest) := by
  intro T hT X
  have htr : e.platform.stackTraces = false := (show e.platform.stackTraces = l.stackTraces by rw [X.admits.platform]).trans hl
  have Y := vx_rebase X (R' := { frames := R.frames, locals := R.locals, cells := 1, slots := 6 }) (Nat.le_refl _) (Nat.le_refl _) hRcells hRslots
  obtain ⟨s', hA⟩ : ∃ z, z = (T.setVm s.vm).setFrames (.invoking m args :: below) := ⟨_, rfl⟩
  rw [← hA] at Y
  have hvm : s'.vm = s.vm := by rw [hA]; rfl
  have hhp : s'.heap = H := by rw [hA]; exact hT
  have hW0 : s.WarmedH s'.vm := by rw [hvm]; exact State.WarmedH.refl s
  have hat' : ∀ w ∈ vx_atS own ic cls names, w.before args s' = true := fun w hw => vx_ot_at hW0 hvm.symm (hgood w (List.mem_cons_of_mem _ (List.mem_cons_of_mem _ hw))) (hat w hw)
  have hk' : (Cond.classLink own ik cls).before args s' = true := vx_ot_at hW0 hvm.symm (hgood _ List.mem_cons_self) hk
  have hini' : (Cond.initialized cls).before args s' = true := vx_ot_at hW0 hvm.symm (hgood _ (List.mem_cons_of_mem _ List.mem_cons_self)) hini
  have hU' : vx_Zq Bundle.tN "UNASSIGNED_STACK" Bundle.steD A s' s'.heap := by rw [hhp]; exact vx_Zq.moved hW0.alike (hU.kept hS.2.1)
  have hN' : vx_Zq Bundle.tN "SUPPRESSED_SENTINEL" Bundle.listD A s' s'.heap := by rw [hhp]; exact vx_Zq.moved hW0.alike (hN.kept hS.2.1)
  have h : ∀ w ∈ Bundle.ownAtoms own ic cls names, w.before args s' = true := vx_own hat' (vx_isRefq hU'.1) (vx_isRefq hN'.1) hU'.2.word hN'.2.word
  have hown' : s'.vm.findClass own = some m.cls := by rw [hvm]; exact hown
  have hins : (Cond.instantiable cls 6).before args s' = true := h _ (by simp [Bundle.ownAtoms])
  obtain ⟨vm₁, cX, kX, hfX, hkX, -, -, X₁, st1⟩ := Y.newCold hexec (own := own) (C := cls) (index := ik) (n := 6) hown' hk' hins hini'
    (g := F0 m pc ls rest) rfl (by rw [hb]; exact d0) (Nat.le_refl _) (Nat.le_refl _)
  generalize hT1 : (T.setVm vm₁).pushCell { cls := cX, slots := kX.instanceTypes.map defaultValue, vm := .none } = T1 at X₁ st1
  have hcat : (Value.ref T.heap.size).category = 1 := rfl
  have hcellA : T1.heap[T.heap.size]? = some (freshCell cX kX) := by rw [← hT1]; exact State.heap_pushCell_size _ _
  have d3' : decode c.code (pc + 3) = .ok (.dup, 1) := by rw [hb]; exact d3
  have d4' : decode c.code (pc + 4) = .ok (.ldc is, 2) := by rw [hb]; exact d4
  have hstr' : vk_R own is text sa s' := vk_R.warm hW0 hstr
  obtain ⟨U, hsteps, hrun, hend, hW, hsame, ce, hce, hO⟩ := X₁.ctorThrowS hexec htr (own := own) (cls := cls) (names := names) (ic := ic) hown' hcls hnames h (fun x hx => nomatch hx) hfX hkX hcellA (by rw [hhp, hT]; exact Nat.le_refl _) (msg := .ref sa) rfl
    (g := { method := m, pc := pc + 6, locals := ls, stack := .ref sa :: .ref T.heap.size :: .ref T.heap.size :: rest, locked := none }) rfl hsize rfl rfl (rest := rest) rfl
    (by rw [hb]; exact d6) (by rw [hb]; exact d9) hout hRframes (by simp only [List.map_cons, List.sum_cons, hcat]; omega) hlocks
  obtain ⟨f1, f2⟩ := vx_frame hsame
  rw [hhp] at f1 f2
  have hWs : s.WarmedH U.vm := State.WarmedH.trans hW0 hW
  have hcl : s.vm.findClass cls = some ce.cls := by
    have h9 := hO.cls
    rw [hvm] at h9
    exact h9
  have hall : s.sameButNew ({ U with vm := s.vm } : State) locs mc ms := by
    subst hA
    obtain ⟨e1, e2⟩ := hsame
    rw [State.setFrames_setFrames] at e1
    have h2 : (T.setVm s.vm).sameButNew ({ U with vm := s.vm } : State) [] (0 + 1) (0 + 6) := ⟨e1, e2⟩
    have h3 := X.same.trans h2
    rw [List.append_nil] at h3
    exact h3.mono hc hs
  refine ⟨U, ?_, .threw T.heap.size, hrun, hend, Or.inr ⟨T.heap.size, rfl, cls, ce, locs, hx U hWs.alike f1 (fun q hq => f2 q hq (fun z hz => nomatch hz)), hce, hO.vm, hcl, hWs, hall, hf⟩⟩
  refine st1 _ ?_
  show Steps p.tables e below (T1.setTop { method := m, pc := pc + 3, locals := ls, stack := .ref T.heap.size :: rest, locked := none }) _
  jvm_step X₁.here [X₁.here.top, hexec, d3', Value.category]
  exact X₁.ldcString hexec (own := own) (text := text) (index := is) (a := sa) hown' hstr'.1 hstr'.2
    (g := { method := m, pc := pc + 4, locals := ls, stack := .ref T.heap.size :: .ref T.heap.size :: rest, locked := none }) rfl d4' _ hsteps
/-- 'throw new E("text")', the text by a wide index -/
theorem vx_throwSW {cc : ByteArray} {pc : Nat} (hexec : p.tables.exec = Jvm.exec) (hb : c.code = cc) (hl : l.stackTraces = false) {own cls text : String} {names : List String} {ik is ic mc ms sa : Nat} {A : Nat → Prop}
    (hown : s.vm.findClass own = some m.cls) (hcls : Bundle.fit cls = true) (hnames : ∀ n ∈ names, Bundle.fit n = true)
    (hk : (Cond.classLink own ik cls).before args s = true) (hini : (Cond.initialized cls).before args s = true) (hstr : vk_R own is text sa s) (hat : ∀ w ∈ vx_atS own ic cls names, w.before args s = true)
    (hgood : ∀ w ∈ Cond.classLink own ik cls :: Cond.initialized cls :: vx_atS own ic cls names, vx_ot w = true)
    (hU : vx_Zq Bundle.tN "UNASSIGNED_STACK" Bundle.steD A s s.heap) (hN : vx_Zq Bundle.tN "SUPPRESSED_SENTINEL" Bundle.listD A s s.heap) (hS : va_S A s.heap H locs) (hsize : ls.size = c.maxLocals)
    (d0 : decode cc pc = .ok (.new ik, 3)) (d3 : decode cc (pc + 3) = .ok (.dup, 1)) (d4 : decode cc (pc + 4) = .ok (.ldc_w is, 3)) (d7 : decode cc (pc + 7) = .ok (.invokespecial ic, 3)) (d10 : decode cc (pc + 10) = .ok (.athrow, 1))
    (hout : ∀ x ∈ c.exceptionTable.toList, covers x (pc + 10) = false)
    (hRframes : names.length + 3 < R.frames) (hRlocals : (rest.map fun v => v.category).sum + (13 * (names.length + 1) + 43) ≤ R.locals) (hRcells : cells + 1 ≤ R.cells) (hRslots : slots + 6 ≤ R.slots) (hlocks : meth.locks = false)
    (hx : ∀ t : State, s.vm.Alike t.vm → H.size ≤ t.heap.size → (∀ q : Nat, q < H.size → t.heap[q]? = H[q]?) → XC cls s t)
    (hf : ∀ z ∈ locs, free z.base) (hc : cells + 1 ≤ mc) (hs : slots + 6 ≤ ms) :
    W p l e R s m args below meth c H locs cells slots (vx_MQ below Qc XC args s mc ms free) (F0 m pc ls rest) := by
  intro T hT X
  have htr : e.platform.stackTraces = false := (show e.platform.stackTraces = l.stackTraces by rw [X.admits.platform]).trans hl
  have Y := vx_rebase X (R' := { frames := R.frames, locals := R.locals, cells := 1, slots := 6 }) (Nat.le_refl _) (Nat.le_refl _) hRcells hRslots
  obtain ⟨s', hA⟩ : ∃ z, z = (T.setVm s.vm).setFrames (.invoking m args :: below) := ⟨_, rfl⟩
  rw [← hA] at Y
  have hvm : s'.vm = s.vm := by rw [hA]; rfl
  have hhp : s'.heap = H := by rw [hA]; exact hT
  have hW0 : s.WarmedH s'.vm := by rw [hvm]; exact State.WarmedH.refl s
  have hat' : ∀ w ∈ vx_atS own ic cls names, w.before args s' = true := fun w hw => vx_ot_at hW0 hvm.symm (hgood w (List.mem_cons_of_mem _ (List.mem_cons_of_mem _ hw))) (hat w hw)
  have hk' : (Cond.classLink own ik cls).before args s' = true := vx_ot_at hW0 hvm.symm (hgood _ List.mem_cons_self) hk
  have hini' : (Cond.initialized cls).before args s' = true := vx_ot_at hW0 hvm.symm (hgood _ (List.mem_cons_of_mem _ List.mem_cons_self)) hini
  have hU' : vx_Zq Bundle.tN "UNASSIGNED_STACK" Bundle.steD A s' s'.heap := by rw [hhp]; exact vx_Zq.moved hW0.alike (hU.kept hS.2.1)
  have hN' : vx_Zq Bundle.tN "SUPPRESSED_SENTINEL" Bundle.listD A s' s'.heap := by rw [hhp]; exact vx_Zq.moved hW0.alike (hN.kept hS.2.1)
  have h : ∀ w ∈ Bundle.ownAtoms own ic cls names, w.before args s' = true := vx_own hat' (vx_isRefq hU'.1) (vx_isRefq hN'.1) hU'.2.word hN'.2.word
  have hown' : s'.vm.findClass own = some m.cls := by rw [hvm]; exact hown
  have hins : (Cond.instantiable cls 6).before args s' = true := h _ (by simp [Bundle.ownAtoms])
  obtain ⟨vm₁, cX, kX, hfX, hkX, -, -, X₁, st1⟩ := Y.newCold hexec (own := own) (C := cls) (index := ik) (n := 6) hown' hk' hins hini'
    (g := F0 m pc ls rest) rfl (by rw [hb]; exact d0) (Nat.le_refl _) (Nat.le_refl _)
  generalize hT1 : (T.setVm vm₁).pushCell { cls := cX, slots := kX.instanceTypes.map defaultValue, vm := .none } = T1 at X₁ st1
  have hcat : (Value.ref T.heap.size).category = 1 := rfl
  have hcellA : T1.heap[T.heap.size]? = some (freshCell cX kX) := by rw [← hT1]; exact State.heap_pushCell_size _ _
  have d3' : decode c.code (pc + 3) = .ok (.dup, 1) := by rw [hb]; exact d3
  have d4' : decode c.code (pc + 4) = .ok (.ldc_w is, 3) := by rw [hb]; exact d4
  have hstr' : vk_R own is text sa s' := vk_R.warm hW0 hstr
  obtain ⟨U, hsteps, hrun, hend, hW, hsame, ce, hce, hO⟩ := X₁.ctorThrowS hexec htr (own := own) (cls := cls) (names := names) (ic := ic) hown' hcls hnames h (fun x hx => nomatch hx) hfX hkX hcellA (by rw [hhp, hT]; exact Nat.le_refl _) (msg := .ref sa) rfl
    (g := { method := m, pc := pc + 7, locals := ls, stack := .ref sa :: .ref T.heap.size :: .ref T.heap.size :: rest, locked := none }) rfl hsize rfl rfl (rest := rest) rfl
    (by rw [hb]; exact d7) (by rw [hb]; exact d10) hout hRframes (by simp only [List.map_cons, List.sum_cons, hcat]; omega) hlocks
  obtain ⟨f1, f2⟩ := vx_frame hsame
  rw [hhp] at f1 f2
  have hWs : s.WarmedH U.vm := State.WarmedH.trans hW0 hW
  have hcl : s.vm.findClass cls = some ce.cls := by
    have h9 := hO.cls
    rw [hvm] at h9
    exact h9
  have hall : s.sameButNew ({ U with vm := s.vm } : State) locs mc ms := by
    subst hA
    obtain ⟨e1, e2⟩ := hsame
    rw [State.setFrames_setFrames] at e1
    have h2 : (T.setVm s.vm).sameButNew ({ U with vm := s.vm } : State) [] (0 + 1) (0 + 6) := ⟨e1, e2⟩
    have h3 := X.same.trans h2
    rw [List.append_nil] at h3
    exact h3.mono hc hs
  refine ⟨U, ?_, .threw T.heap.size, hrun, hend, Or.inr ⟨T.heap.size, rfl, cls, ce, locs, hx U hWs.alike f1 (fun q hq => f2 q hq (fun z hz => nomatch hz)), hce, hO.vm, hcl, hWs, hall, hf⟩⟩
  refine st1 _ ?_
  show Steps p.tables e below (T1.setTop { method := m, pc := pc + 3, locals := ls, stack := .ref T.heap.size :: rest, locked := none }) _
  jvm_step X₁.here [X₁.here.top, hexec, d3', Value.category]
  exact X₁.ldcStringW hexec (own := own) (text := text) (index := is) (a := sa) hown' hstr'.1 hstr'.2
    (g := { method := m, pc := pc + 4, locals := ls, stack := .ref T.heap.size :: .ref T.heap.size :: rest, locked := none }) rfl d4' _ hsteps
end Ends
section Bodies
variable {l : Launch}
theorem vx_ofW {y : MethodName} {ws ws' : List Cond} {rm : Room} {Pc : Array Value → State → Prop} {Qc : Array Value → State → Outcome → State → Prop} {XC : String → State → State → Prop} {mc ms : Nat} {free : Addr → Prop} {cc : ByteArray} {maxL : Nat} {ret : Option FieldType}
    (hy : plainName y.cls = true) (hw : ws = Cond.code y cc maxL ret :: ws')
    (body : ∀ p e s m args below meth c s₁, BodyLoose p l y (headSpec ws rm) cc maxL ret e s m args below meth c s₁ → c.maxLocals = maxL → (∀ x ∈ c.exceptionTable.toList, False) → Pc args s →
      W p l e (headSpec ws rm).room s m args below meth c s.heap [] 0 0 (vx_MQ below Qc XC args s mc ms free) (entryFrame m args maxL)) : vx_Met l y ws rm Pc Qc XC mc ms free := by
  refine MetFree.of_bodyS (code := cc) (maxLocals := maxL) (ret := ret) hy ?_ ?_
  · intro args s m h hn
    obtain ⟨meth, c, h1, h2, h3, h4, h5, h6, -, -⟩ := Cond.code_spec hn (atoms_spec (ws := ws) h _ (by rw [hw]; exact List.mem_cons_self))
    exact ⟨meth, c, h1, h2, h3, h4, h5, h6⟩
  · intro p e s m args below meth c s₁ B hml hP _
    have hh0 : s₁.heap = s.heap := by rw [B.state]; rfl
    have ht : ∀ x ∈ c.exceptionTable.toList, False := by
      obtain ⟨meth9, c9, h1, h2, -, -, -, -, h7, -⟩ := Cond.code_spec B.named (atoms_spec (ws := ws) B.pre _ (by rw [hw]; exact List.mem_cons_self))
      cases Option.some.inj (h1.symm.trans B.method)
      cases Option.some.inj (h2.symm.trans (Stand.of_body B).code)
      intro x hx
      rw [Array.isEmpty_iff.mp h7] at hx
      cases hx
    obtain ⟨t, a1, o, b1, b2, b3⟩ := body p e s m args below meth c s₁ B hml ht hP s₁ hh0 (Stand.of_body B)
    exact ⟨t, o, a1, b1, b2, b3⟩
/-- the table of a body with handlers -/
theorem vx_table {p : Program} {x y : MethodName} {S : Spec} {cc bytes : ByteArray} {maxL maxL' : Nat} {ret ret' : Option FieldType} {e : Env} {s s₁ : State} {m : MethodId} {args : Array Value} {below : List Frame} {meth : Method} {c : Code} {hh : List (Nat × Nat × Nat × Nat)}
    (B : BodyLoose p l y S cc maxL ret e s m args below meth c s₁) (h : (Cond.codeWith y bytes maxL' ret' hh).before args s = true) : c.exceptionTable.toList = tableOf hh := by
  obtain ⟨m9, meth9, c9, hn9, h1, h2, -, -, h6, -⟩ := Cond.codeWith_spec h
  cases Option.some.inj (hn9.symm.trans B.named)
  cases Option.some.inj (h1.symm.trans B.method)
  cases Option.some.inj (h2.symm.trans (Stand.of_body B).code)
  rw [← h6, table_eq]
end Bodies
end VXA
/-! ===== END ===== -/
/-! ===== BEGIN a static call of a method with an exception table ===== -/
section VXS
variable {p : Program} {l : Launch} {e : Env} {R : Room} {s : State} {m : MethodId} {args : Array Value} {below : List Frame} {meth : Method} {c : Code} {T : State} {H : Heap} {locs : List Loc} {cells slots : Nat}
abbrev vx_CSW (R : Room) (s : State) (args : Array Value) (own : String) (index : Nat) (y : MethodName) (bytes : ByteArray) (maxL : Nat) (ret : Option FieldType) (hh : List (Nat × Nat × Nat × Nat)) (ws : List Cond) (rm : Room) (mc ms n : Nat) : Prop :=
  (rm.cells = mc ∧ rm.slots = ms ∧ rm.frames + 1 ≤ R.frames ∧ 8 + (maxL + 11) + rm.locals ≤ R.locals ∧ (∀ w ∈ ws, ∀ (a' : Array Value) (U : State), s.WarmedH U.vm → w.before a' U = true) ∧ Cond.codeWith y bytes maxL ret hh ∈ ws) ∧
  (Cond.codeWith y bytes maxL ret hh).before args s = true ∧ (Cond.initialized y.cls).before args s = true ∧ (y.cls ≠ "java/lang/invoke/MethodHandle" ∧ y.cls ≠ "java/lang/invoke/VarHandle") ∧
  (∀ sig, parseMethodDescriptor y.desc = some sig → n = sig.parameters.length) ∧ (Cond.methodLink own index y).before args s = true ∧ (Cond.static y).before args s = true
theorem vx_cwSW {own : String} {index maxL mc ms : Nat} {y : MethodName} {bytes : ByteArray} {ret : Option FieldType} {hh : List (Nat × Nat × Nat × Nat)} {Ts ws ws' : List Cond} {rm : Room} (n : Nat) (ht : ∀ w ∈ Ts, w.before args s = true) (hT : GoodIn Ts (va_wsS own index y ws)) (hw : ws = Cond.codeWith y bytes maxL ret hh :: ws') (hrc : rm.cells = mc) (hrs : rm.slots = ms)
    (hd : y.cls ≠ "java/lang/invoke/MethodHandle" ∧ y.cls ≠ "java/lang/invoke/VarHandle" ∧ (parseMethodDescriptor y.desc).map (fun d => d.parameters.length) = some n) (hR : rm.frames + 1 ≤ R.frames ∧ 8 + (maxL + 11) + rm.locals ≤ R.locals) :
    vx_CSW R s args own index y bytes maxL ret hh ws rm mc ms n := by
  have ok : ∀ w ∈ va_wsS own index y ws, w.before args s = true := fun w h => ht w (hT w h).1
  have hG : GoodIn Ts ws := fun w h => hT w (by unfold va_wsS; exact List.mem_append_right _ h)
  have hc : Cond.codeWith y bytes maxL ret hh ∈ ws := by rw [hw]; exact List.mem_cons_self
  refine ⟨⟨hrc, hrs, hR.1, hR.2, pay_in ht hG, hc⟩, ht _ (hG _ hc).1, ok _ (by simp [va_wsS]), ⟨hd.1, hd.2.1⟩, fun sig h => ?_, ok _ (by simp [va_wsS]), ok _ (by simp [va_wsS])⟩
  have h2 := hd.2.2
  rw [h] at h2
  exact (Option.some.inj h2).symm
theorem vx_callSW (X : Stand p l e R s m args below meth c T locs cells slots) (hexec : p.tables.exec = Jvm.exec) {own : String} {index : Nat} {y : MethodName} {bytes : ByteArray} {maxL : Nat} {ret : Option FieldType} {hh : List (Nat × Nat × Nat × Nat)}
    (hown : s.vm.findClass own = some m.cls) (hlink : (Cond.methodLink own index y).before args s = true) (hstat : (Cond.static y).before args s = true) (hinit : (Cond.initialized y.cls).before args s = true)
    (hcode : (Cond.codeWith y bytes maxL ret hh).before args s = true) (hy : y.cls ≠ "java/lang/invoke/MethodHandle" ∧ y.cls ≠ "java/lang/invoke/VarHandle")
    {W9 : Nat} {Pre : Pt → Array Value → Prop} {Post : Pt → Array Value → Option Value → Pt → Prop} (hK : Back l R p e below s args y 3 W9 Pre Post)
    {g : JFrame} (hg : g.method = m) (hsize : g.locals.size = c.maxLocals) {argsL rest : List Value} (hlen : ∀ sig, parseMethodDescriptor y.desc = some sig → argsL.length = sig.parameters.length)
    (hstack : g.stack = argsL.reverse ++ rest) (hW : 2 * g.monitorRoom + (rest.map fun v => v.category).sum ≤ W9) (hdg : decode c.code g.pc = .ok (.invokestatic index, 3))
    (hpre : ∀ vm₁, s.WarmedH vm₁ → Pre ⟨T.setVm vm₁, locs, cells, slots⟩ argsL.toArray) :
    ∃ (v : Option Value) (vm₁ : Vm) (B : Pt), s.WarmedH vm₁ ∧ Stand p l e R s m args below meth c B.U B.locs B.cells B.slots ∧ Post ⟨T.setVm vm₁, locs, cells, slots⟩ argsL.toArray v B ∧
      ∀ target, Steps p.tables e below (B.U.setTop { g with pc := g.pc + 3, stack := v.toList ++ rest }) target → Steps p.tables e below (T.setTop g) target := by
  obtain ⟨mk, methM, cM, hnamed, hmethM, -, -, -, -, -, -, hsigM⟩ := Cond.codeWith_spec hcode
  have hstatic : methM.isStatic = true := Cond.static_spec hnamed hmethM hstat
  obtain ⟨kP, hkP, -⟩ := className_of_methodNamed hnamed
  have hinitP : kP.init = .initialized := Cond.initialized_spec (findClass_of_methodNamed hnamed) hkP hinit
  obtain ⟨vm₁, X₁, hstep₁⟩ := X.invokestatic hexec hown hlink hnamed hmethM hstatic hkP hinitP hy (g := g) hg (argsL := argsL) (rest := rest) (hlen _ hsigM) hstack hdg
  obtain ⟨v, B, X', hpost, hsteps⟩ := hK m meth c ⟨T.setVm vm₁, locs, cells, slots⟩ { g with stack := rest } (.invokestatic index) mk argsL.toArray X₁ hg hsize hdg hW (X₁.named hnamed) (hpre vm₁ X₁.warmed)
  exact ⟨v, vm₁, B, X₁.warmed, X', hpost, fun target h => hstep₁ _ fun acts => by rw [doInvoke_state]; exact hsteps.trans h⟩
theorem vx_runSW {y : MethodName} {bytes cc : ByteArray} {maxL nL mc ms n index : Nat} {ret : Option FieldType} {hh : List (Nat × Nat × Nat × Nat)} {ws : List Cond} {rm : Room} {Pc : Array Value → State → Prop} {Qc : Array Value → State → Outcome → State → Prop} {free : Addr → Prop} {Ts : List Cond} {own : String} {As rest : List Value} {g : JFrame}
    (S : CallFix p m c cc nL s args Ts own) (hM : Met l y ws rm Pc Qc mc ms free) (cw : vx_CSW R s args own index y bytes maxL ret hh ws rm mc ms n) (hp : PreS s H Pc As)
    (hg : g.method = m) (hn : As.length = n) (hsize : g.locals.size = nL) (hstack : g.stack = As.reverse ++ rest) (hW : 2 * g.monitorRoom + (rest.map fun v => v.category).sum ≤ 8) (hdg : decode cc g.pc = .ok (.invokestatic index, 3)) (hf : cells + mc ≤ R.cells ∧ slots + ms ≤ R.slots) :
    va_Run p l e R s m args below meth c H locs cells slots mc ms g rest (Qc As.toArray) (free) := by
  obtain ⟨⟨hrc, hrs, hfr, hlo, hws, hcw⟩, hcode, hini, hy, hlen, hl, hstt⟩ := cw
  have hK : Back l R p e below s args y 3 8 (PreOf R mc ms Pc) (PostOf Qc mc ms free) := va_backW (hh := hh) (bytes := bytes) (maxL := maxL) (ret := ret) hM hp.1 hrc hrs hfr hlo hws hcw (fun a' U hW => word_at hW (Or.inl (by first | rfl | simp [Cond.onTables, Cond.keeps, Cond.steady])) hini)
  obtain ⟨hx, hb, hml, ho, -⟩ := S
  intro T hT X
  obtain ⟨v, vm₁, ⟨U', l2, c2, s2⟩, hW₁, X', ⟨g', mk, t, L, e1, e2, hq, h1, hL, h2, h3⟩, st⟩ := vx_callSW X hx (hh := hh) (bytes := bytes) (maxL := maxL) (ret := ret) ho hl hstt hini hcode hy hK hg (hsize.trans hml.symm) (argsL := As) (rest := rest) (fun sig h => hn.trans (hlen sig h)) hstack hW (by rw [hb]; exact hdg)
    (fun vm₁ hW₁ => ⟨hf.1, hf.2, hp.2 (T.setVm vm₁) hT hW₁⟩)
  dsimp only [Pt.U, Pt.locs, Pt.cells, Pt.slots] at X' e1 e2 h1 h2 h3 st
  subst h1; subst h2; subst h3
  exact ⟨v, (T.setVm vm₁).calling g' mk As.toArray, t, U', L, hT, X', hL, e1, e2, hq, st⟩
/-- not caught here, past rows that name other classes: it goes on to the caller -/
theorem vx_outP {p : Program} {l : Launch} {e : Env} {R : Room} {s : State} {m : MethodId} {args : Array Value} {below : List Frame} {meth : Method} {c : Code} {H : Heap} {locs : List Loc} {cells slots : Nat} {free : Addr → Prop} {ls : Array Slot} {rest : List Value} {Qc : Array Value → State → Outcome → State → Prop} {XC : String → State → State → Prop}
    {pc : Nat} {own E : String} {ce : Cell} {q : Addr} {mc ms : Nat} (hown : s.vm.findClass own = some m.cls) (hlocks : meth.locks = false)
    (hpass : ∀ z ∈ c.exceptionTable.toList, covers z pc = false ∨ (z.catchType ≠ 0 ∧ ∃ nm : String, (Cond.classLink own z.catchType nm).before args s = true ∧ va_Nc E nm s)) (hcell : H[q]? = some ce) (hv : ce.vm = .none) (hcl : s.vm.findClass E = some ce.cls)
    (hx : ∀ t : State, t.heap = H → s.vm.Alike t.vm → XC E s t) (hf : ∀ z ∈ locs, free z.base) (hc : cells ≤ mc) (hs : slots ≤ ms) :
    vx_W p l e R s m args below meth c H locs cells slots (vx_MQ below Qc XC args s mc ms free) (F0 m pc ls rest) q := by
  intro T hT X
  have hpl : e.platform.magicAccessors = ({} : Platform).magicAccessors := by rw [X.admits.platform]
  obtain ⟨vm', hW', X', st⟩ := X.outThrough hlocks q (g := F0 m pc ls rest) rfl rfl rfl (cell := ce) (by rw [hT]; exact hcell) (by rw [hv]; rfl)
    (by obtain ⟨k9, h9, -⟩ := Vm.findClass_spec hcl; exact ⟨k9, h9⟩) (fun z hz => by
      rcases hpass z hz with h | ⟨hz0, nm, hl1, hn1⟩
      · exact Or.inl h
      · obtain ⟨c6, hc6, hcl6⟩ := Cond.classLink_spec hown hl1 e.platform hpl
        obtain ⟨a8, b8, h1, h2, h3⟩ := hn1
        cases Option.some.inj (h1.symm.trans hcl)
        cases Option.some.inj (h2.symm.trans hc6)
        exact Or.inr ⟨hz0, _, hcl6, h3⟩)
  obtain ⟨g₀, hfr⟩ := X'.frames_eq
  have hcell9 : ((T.setVm vm').setFrames (.throwing q :: below)).heap[q]? = some ce := by
    show T.heap[q]? = some ce
    rw [hT]; exact hcell
  have hend : Ended ((T.setVm vm').setFrames (.throwing q :: below)) below (.threw q) := State.frames_setFrames _ (State.cur_lt_of_frames hfr)
  refine ⟨(T.setVm vm').setFrames (.throwing q :: below), ?_, .threw q, X'.here.running, hend, Or.inr ⟨q, rfl, E, ce, locs, hx _ hT (X'.ends _).1.alike, hcell9, hv, hcl, (X'.ends _).1, (X'.ends _).2.mono hc hs, hf⟩⟩
  rw [X.pushThrowing_eq]
  exact st
/-- a thing of a world lies in the heap -/
theorem vx_lt {D : va_G} {cl : List vw_C} {ws : va_W} {H1 : Heap} (h : va_P D cl ws H1) {k : Nat} {q : Nat × va_E} (hk : ws[k]? = some q) : q.1 < H1.size := (h k q hk).lt
end VXS
/-! ===== END ===== -/
/-! ===== BEGIN methods with a table of their own: called by a name, returning or throwing ===== -/
section VXH
/-! vx_backW, vx_callVX, vx_callSX, vx_callVW, vx_runVW, vx_runVX, vx_runSX, vx_ofWH follow the same proofs as their sisters above (Free/Laws.lean, Shelf42/LK1.lean); vx_outP calls Shelf42/NT130.lean (outThrough). -/
section
variable {l : Launch} {R : Room} {p : Program} {e : Env} {below : List Frame} {s : State} {sargs : Array Value} {y : MethodName} {len W9 : Nat}
theorem vx_backW {ws : List Cond} {rm : Room} {Pc : Array Value → State → Prop} {Qc : Array Value → State → Outcome → State → Prop} {XC : String → State → State → Prop} {mc ms : Nat} {free : Addr → Prop} {bytes : ByteArray} {maxL : Nat} {ret : Option FieldType} {hh : List (Nat × Nat × Nat × Nat)}
    (hM : vx_Met l y ws rm Pc Qc XC mc ms free) (hblind : FrameBlind Pc) (hrc : rm.cells = mc) (hrs : rm.slots = ms)
    (hframes : rm.frames + 1 ≤ R.frames) (hlocals : W9 + (maxL + 11) + rm.locals ≤ R.locals)
    (hws : ∀ w ∈ ws, ∀ a' U, s.WarmedH U.vm → w.before a' U = true) (hcode : Cond.codeWith y bytes maxL ret hh ∈ ws) (hinit : ∀ a' U, s.WarmedH U.vm → (Cond.initialized y.cls).before a' U = true) :
    vx_Back l R p e below s sargs y len W9 (PreOf R mc ms Pc) (PostOf Qc mc ms free) (vx_Post XC mc ms free) := by
  intro m meth c A g ig mk a X hg hsize hdg hW hn hp
  have h1 : (headSpec ws rm).pre.before a A.U = true := atoms_intro fun w hw => hws w hw _ _ X.warmed
  have h2 : (Cond.codeWith y bytes maxL ret hh).before a A.U = true := hws _ hcode _ _ X.warmed
  have h3 : (Cond.initialized y.cls).before a A.U = true := hinit _ _ X.warmed
  have h4 : A.cells + (headSpec ws rm).room.cells ≤ R.cells := by rw [show (headSpec ws rm).room.cells = mc from hrc]; exact hp.1
  have h5 : A.slots + (headSpec ws rm).room.slots ≤ R.slots := by rw [show (headSpec ws rm).room.slots = ms from hrs]; exact hp.2.1
  have hPc : Pc a (A.U.calling g mk a) := hblind _ _ _ _ hp.2.2
  obtain ⟨U, Ls, c0, s0⟩ := A
  dsimp only [Pt.U, Pt.locs, Pt.cells, Pt.slots] at h1 h2 h3 h4 h5 X hn hPc ⊢
  obtain ⟨m9, methY, cY, hn9, hmY, hcY, -, hlY, -⟩ := Cond.codeWith_spec h2
  cases Option.some.inj (hn9.symm.trans hn)
  obtain ⟨kY, hkY, -⟩ := className_of_methodNamed hn
  have hinitY : kY.init = .initialized := Cond.initialized_spec (findClass_of_methodNamed hn) hkY h3
  have h : At U g.method c below := by rw [hg]; exact X.here
  have hlocals9 : W9 + (maxL + 11) + (headSpec ws rm).room.locals ≤ R.locals := hlocals
  have happ : (headSpec ws rm).appliesLoose y e.platform (U.calling g mk a) = true :=
    Spec.appliesLoose_calling (g := g) h hdg hn hkY hinitY
      (X.room_calling (g := g) (R' := (headSpec ws rm).room) hsize hmY hcY hframes (by rw [hlY]; omega) h4 h5) h1
  obtain ⟨mid, hmid⟩ := h.above
  have hfr : (U.setTop g).frames = (.java g :: mid) ++ below := by rw [State.frames_setTop' g h.top, hmid]; rfl
  obtain ⟨o, s₂, hsteps, -, hend, hq⟩ := Steps.callFree hM p X.admits X.cas X.clock (acts := []) hfr happ hPc trivial
  have hq' : vx_Q Qc XC mc ms free a (U.calling g mk a) o s₂ := hq
  rw [State.frames_setTop' g h.top] at hend
  obtain ⟨g₀, hg0⟩ := Option.isSome_iff_exists.mp h.top
  obtain ⟨r, hr⟩ := State.topJava?_eq_some.mp hg0
  have hr' : (({ U with heap := s₂.heap, slotsUsed := s₂.slotsUsed } : State).setVm s₂.vm).frames = .java g₀ :: r := hr
  rcases hq' with ⟨hqc, L, hfe, hL⟩ | ⟨q, rfl, E, ce, L, hx, hce, hcv, hcl, hW₂, hsm, hL⟩
  · obtain ⟨⟨v, rfl⟩, hW₂, e2, q2, q3, q4, q5, q6⟩ := id hfe
    have e3 : s₂ = ({ (U.calling g mk a).setFrames s₂.frames with heap := s₂.heap, slotsUsed := s₂.slotsUsed } : State).setVm s₂.vm := by
      have : s₂ = ({ s₂ with vm := (U.calling g mk a).vm } : State).setVm s₂.vm := rfl
      rw [e2] at this
      exact this
    obtain ⟨c₂, i₂, len₂, hc₂, hd₂, hf₂⟩ := hend
    have hW' : U.WarmedH s₂.vm := hW₂
    have hcc : c₂ = c := by
      have h1 : s₂.code? g.method = U.code? g.method := by
        rw [State.code?_eq, State.code?_eq, hW'.alike.method?]
      exact Option.some.inj (hc₂.symm.trans (h1.trans h.code))
    subst hcc
    have hlen : len₂ = len := by rw [hdg] at hd₂; cases hd₂; rfl
    subst hlen
    have hs₂ : s₂ = (({ U with heap := s₂.heap, slotsUsed := s₂.slotsUsed } : State).setVm s₂.vm).setTop { g with pc := g.pc + len₂, stack := v.toList ++ g.stack } := by
      refine e3.trans ?_
      rw [hf₂, State.calling_eq h.top, State.setFrames_setFrames, State.setTop_of_frames _ hr', hr]
      rfl
    have hsame : U.sameButNew ({ U with heap := s₂.heap, slotsUsed := s₂.slotsUsed } : State) L mc ms := by
      refine ⟨?_, q2, q3, q4, q5, q6⟩
      obtain ⟨t, ht, -⟩ := State.frames_cons hr
      show ({ U with heap := s₂.heap, slotsUsed := s₂.slotsUsed } : State) = { U.setFrames U.frames with heap := s₂.heap, slotsUsed := s₂.slotsUsed }
      rw [State.setFrames_self ht]
    subst hg
    refine Or.inl ⟨v, ⟨(({ U with heap := s₂.heap, slotsUsed := s₂.slotsUsed } : State).setVm s₂.vm), Ls ++ L, c0 + mc, s0 + ms⟩,
      ⟨X.admits, X.cas, X.clock, X.frames, X.room, X.hears, X.method, X.code, (X.here.setHeapUsed s₂.heap s₂.slotsUsed).setVm hW'.alike, X.tail, State.WarmedH.trans X.warmed hW', X.limits, X.bytes, X.same.trans (hsame.setVm s.vm)⟩,
      ⟨g, mk, s₂, L, rfl, rfl, hqc, rfl, hL, rfl, rfl⟩, ?_⟩
    show Steps p.tables e below _ ((({ U with heap := s₂.heap, slotsUsed := s₂.slotsUsed } : State).setVm s₂.vm).setTop { g with pc := g.pc + len₂, stack := v.toList ++ g.stack })
    rw [← hs₂]
    exact hsteps
  · obtain ⟨e2, q2, q3, q4, q5, q6⟩ := id hsm
    have e3 : s₂ = ({ (U.calling g mk a).setFrames s₂.frames with heap := s₂.heap, slotsUsed := s₂.slotsUsed } : State).setVm s₂.vm := by
      have : s₂ = ({ s₂ with vm := (U.calling g mk a).vm } : State).setVm s₂.vm := rfl
      rw [e2] at this
      exact this
    have hf₂ : s₂.frames = .throwing q :: .java g :: U.frames.tail := hend
    have hW' : U.WarmedH s₂.vm := hW₂
    have hs₂ : s₂ = ((({ U with heap := s₂.heap, slotsUsed := s₂.slotsUsed } : State).setVm s₂.vm).setTop g).pushFrame (.throwing q) := by
      refine e3.trans ?_
      rw [hf₂, State.calling_eq h.top, State.setFrames_setFrames, State.pushFrame, State.frames_setTop _ hr', State.setTop_of_frames _ hr', State.setFrames_setFrames, hr]
      rfl
    have hsame : U.sameButNew ({ U with heap := s₂.heap, slotsUsed := s₂.slotsUsed } : State) L mc ms := by
      refine ⟨?_, q2, q3, q4, q5, q6⟩
      obtain ⟨t, ht, -⟩ := State.frames_cons hr
      show ({ U with heap := s₂.heap, slotsUsed := s₂.slotsUsed } : State) = { U.setFrames U.frames with heap := s₂.heap, slotsUsed := s₂.slotsUsed }
      rw [State.setFrames_self ht]
    subst hg
    refine Or.inr ⟨q, ⟨(({ U with heap := s₂.heap, slotsUsed := s₂.slotsUsed } : State).setVm s₂.vm), Ls ++ L, c0 + mc, s0 + ms⟩,
      ⟨X.admits, X.cas, X.clock, X.frames, X.room, X.hears, X.method, X.code, (X.here.setHeapUsed s₂.heap s₂.slotsUsed).setVm hW'.alike, X.tail, State.WarmedH.trans X.warmed hW', X.limits, X.bytes, X.same.trans (hsame.setVm s.vm)⟩,
      ⟨g, mk, s₂, L, E, ce, rfl, rfl, hx, hce, hcv, hcl, rfl, hL, rfl, rfl⟩, ?_⟩
    show Steps p.tables e below _ (((({ U with heap := s₂.heap, slotsUsed := s₂.slotsUsed } : State).setVm s₂.vm).setTop g).pushFrame (.throwing q))
    rw [← hs₂]
    exact hsteps
end
variable {p : Program} {l : Launch} {e : Env} {R : Room} {s : State} {m : MethodId} {args : Array Value} {below : List Frame} {meth : Method} {c : Code} {T : State} {H : Heap} {locs : List Loc} {cells slots : Nat}
theorem vx_callVX (X : Stand p l e R s m args below meth c T locs cells slots) (hexec : p.tables.exec = Jvm.exec) {own C : String} {index : Nat} {y : MethodName} {bytes : ByteArray} {maxL : Nat} {ret : Option FieldType} {hh : List (Nat × Nat × Nat × Nat)}
    (hown : s.vm.findClass own = some m.cls) (hlink : (Cond.methodLink own index y).before args s = true) (hinst : (Cond.instanceMethod y).before args s = true) (hsel : (Cond.selects C y y).before args s = true)
    (hcode : (Cond.codeWith y bytes maxL ret hh).before args s = true) (hy : y.cls ≠ "java/lang/invoke/MethodHandle" ∧ y.cls ≠ "java/lang/invoke/VarHandle")
    {W9 : Nat} {Pre : Pt → Array Value → Prop} {Post : Pt → Array Value → Option Value → Pt → Prop} {PostX : Pt → Array Value → Addr → Pt → Prop} (hK : vx_Back l R p e below s args y 3 W9 Pre Post PostX)
    {b : Addr} {cellB : Cell} (hcell : T.heap[b]? = some cellB) (hobj : cellB.vm.isStatics = false) (hcls : s.vm.findClass C = some cellB.cls)
    {g : JFrame} (hg : g.method = m) (hsize : g.locals.size = c.maxLocals) {argsL rest : List Value} (hlen : ∀ sig, parseMethodDescriptor y.desc = some sig → argsL.length = sig.parameters.length)
    (hstack : g.stack = argsL.reverse ++ .ref b :: rest) (hW : 2 * g.monitorRoom + (rest.map fun v => v.category).sum ≤ W9) (hdg : decode c.code g.pc = .ok (.invokevirtual index, 3))
    (hpre : ∀ vm₁, s.WarmedH vm₁ → Pre ⟨T.setVm vm₁, locs, cells, slots⟩ (Value.ref b :: argsL).toArray) :
    (∃ (v : Option Value) (vm₁ : Vm) (B : Pt), s.WarmedH vm₁ ∧ Stand p l e R s m args below meth c B.U B.locs B.cells B.slots ∧ Post ⟨T.setVm vm₁, locs, cells, slots⟩ (Value.ref b :: argsL).toArray v B ∧
      ∀ target, Steps p.tables e below (B.U.setTop { g with pc := g.pc + 3, stack := v.toList ++ rest }) target → Steps p.tables e below (T.setTop g) target) ∨
    (∃ (q : Addr) (vm₁ : Vm) (B : Pt), s.WarmedH vm₁ ∧ Stand p l e R s m args below meth c B.U B.locs B.cells B.slots ∧ PostX ⟨T.setVm vm₁, locs, cells, slots⟩ (Value.ref b :: argsL).toArray q B ∧
      Steps p.tables e below (T.setTop g) ((B.U.setTop { g with stack := rest }).pushFrame (.throwing q))) := by
  obtain ⟨mk, methM, hnamed, hmethM, hstM, habM⟩ := Cond.instanceMethod_spec hinst
  obtain ⟨m8, methM', cM, hn8, hmethM', -, -, -, -, -, -, hsigM⟩ := Cond.codeWith_spec hcode
  cases Option.some.inj (hn8.symm.trans hnamed)
  cases hmethM.symm.trans hmethM'
  obtain ⟨c2, r2, m2, q1, q2, q3, q4, kP, hkP, hkPi⟩ := Cond.selects_spec hsel
  cases hcls.symm.trans q1
  cases (State.methodFound?_of_named hnamed hy).symm.trans q2
  cases hnamed.symm.trans q3
  have hselP : selectMethod e.platform s.vm cellB.cls mk = .method mk := by rw [Launch.admits_selectMethod X.admits]; exact q4
  obtain ⟨vm₁, X₁, hstep₁⟩ := X.invokevirtual hexec hown hlink hnamed hmethM hstM hkP hkPi hy (a := b) (cell := cellB) hcell
    (fun z h => by rw [h] at hobj; cases hobj) hselP hmethM habM hkP hkPi (g := g) hg (argsL := argsL) (rest := rest) (hlen _ hsigM) hstack hdg
  rcases hK m meth c ⟨T.setVm vm₁, locs, cells, slots⟩ { g with stack := rest } (.invokevirtual index) mk (Value.ref b :: argsL).toArray X₁ hg hsize hdg hW (X₁.named hnamed) (hpre vm₁ X₁.warmed) with ⟨v, B, X', hpost, hsteps⟩ | ⟨q, B, X', hpost, hsteps⟩
  · exact Or.inl ⟨v, vm₁, B, X₁.warmed, X', hpost, fun target h => hstep₁ _ fun acts => by rw [doInvoke_state]; exact hsteps.trans h⟩
  · exact Or.inr ⟨q, vm₁, B, X₁.warmed, X', hpost, hstep₁ _ fun acts => by rw [doInvoke_state]; exact hsteps⟩
theorem vx_callSX (X : Stand p l e R s m args below meth c T locs cells slots) (hexec : p.tables.exec = Jvm.exec) {own : String} {index : Nat} {y : MethodName} {bytes : ByteArray} {maxL : Nat} {ret : Option FieldType} {hh : List (Nat × Nat × Nat × Nat)}
    (hown : s.vm.findClass own = some m.cls) (hlink : (Cond.methodLink own index y).before args s = true) (hstat : (Cond.static y).before args s = true) (hinit : (Cond.initialized y.cls).before args s = true)
    (hcode : (Cond.codeWith y bytes maxL ret hh).before args s = true) (hy : y.cls ≠ "java/lang/invoke/MethodHandle" ∧ y.cls ≠ "java/lang/invoke/VarHandle")
    {W9 : Nat} {Pre : Pt → Array Value → Prop} {Post : Pt → Array Value → Option Value → Pt → Prop} {PostX : Pt → Array Value → Addr → Pt → Prop} (hK : vx_Back l R p e below s args y 3 W9 Pre Post PostX)
    {g : JFrame} (hg : g.method = m) (hsize : g.locals.size = c.maxLocals) {argsL rest : List Value} (hlen : ∀ sig, parseMethodDescriptor y.desc = some sig → argsL.length = sig.parameters.length)
    (hstack : g.stack = argsL.reverse ++ rest) (hW : 2 * g.monitorRoom + (rest.map fun v => v.category).sum ≤ W9) (hdg : decode c.code g.pc = .ok (.invokestatic index, 3))
    (hpre : ∀ vm₁, s.WarmedH vm₁ → Pre ⟨T.setVm vm₁, locs, cells, slots⟩ argsL.toArray) :
    (∃ (v : Option Value) (vm₁ : Vm) (B : Pt), s.WarmedH vm₁ ∧ Stand p l e R s m args below meth c B.U B.locs B.cells B.slots ∧ Post ⟨T.setVm vm₁, locs, cells, slots⟩ argsL.toArray v B ∧
      ∀ target, Steps p.tables e below (B.U.setTop { g with pc := g.pc + 3, stack := v.toList ++ rest }) target → Steps p.tables e below (T.setTop g) target) ∨
    (∃ (q : Addr) (vm₁ : Vm) (B : Pt), s.WarmedH vm₁ ∧ Stand p l e R s m args below meth c B.U B.locs B.cells B.slots ∧ PostX ⟨T.setVm vm₁, locs, cells, slots⟩ argsL.toArray q B ∧
      Steps p.tables e below (T.setTop g) ((B.U.setTop { g with stack := rest }).pushFrame (.throwing q))) := by
  obtain ⟨mk, methM, cM, hnamed, hmethM, -, -, -, -, -, -, hsigM⟩ := Cond.codeWith_spec hcode
  have hstatic : methM.isStatic = true := Cond.static_spec hnamed hmethM hstat
  obtain ⟨kP, hkP, -⟩ := className_of_methodNamed hnamed
  have hinitP : kP.init = .initialized := Cond.initialized_spec (findClass_of_methodNamed hnamed) hkP hinit
  obtain ⟨vm₁, X₁, hstep₁⟩ := X.invokestatic hexec hown hlink hnamed hmethM hstatic hkP hinitP hy (g := g) hg (argsL := argsL) (rest := rest) (hlen _ hsigM) hstack hdg
  rcases hK m meth c ⟨T.setVm vm₁, locs, cells, slots⟩ { g with stack := rest } (.invokestatic index) mk argsL.toArray X₁ hg hsize hdg hW (X₁.named hnamed) (hpre vm₁ X₁.warmed) with ⟨v, B, X', hpost, hsteps⟩ | ⟨q, B, X', hpost, hsteps⟩
  · exact Or.inl ⟨v, vm₁, B, X₁.warmed, X', hpost, fun target h => hstep₁ _ fun acts => by rw [doInvoke_state]; exact hsteps.trans h⟩
  · exact Or.inr ⟨q, vm₁, B, X₁.warmed, X', hpost, hstep₁ _ fun acts => by rw [doInvoke_state]; exact hsteps⟩
theorem vx_callVW (X : Stand p l e R s m args below meth c T locs cells slots) (hexec : p.tables.exec = Jvm.exec) {own C : String} {index : Nat} {y : MethodName} {bytes : ByteArray} {maxL : Nat} {ret : Option FieldType} {hh : List (Nat × Nat × Nat × Nat)}
    (hown : s.vm.findClass own = some m.cls) (hlink : (Cond.methodLink own index y).before args s = true) (hinst : (Cond.instanceMethod y).before args s = true) (hsel : (Cond.selects C y y).before args s = true)
    (hcode : (Cond.codeWith y bytes maxL ret hh).before args s = true) (hy : y.cls ≠ "java/lang/invoke/MethodHandle" ∧ y.cls ≠ "java/lang/invoke/VarHandle")
    {W9 : Nat} {Pre : Pt → Array Value → Prop} {Post : Pt → Array Value → Option Value → Pt → Prop} (hK : Back l R p e below s args y 3 W9 Pre Post)
    {b : Addr} {cellB : Cell} (hcell : T.heap[b]? = some cellB) (hobj : cellB.vm.isStatics = false) (hcls : s.vm.findClass C = some cellB.cls)
    {g : JFrame} (hg : g.method = m) (hsize : g.locals.size = c.maxLocals) {argsL rest : List Value} (hlen : ∀ sig, parseMethodDescriptor y.desc = some sig → argsL.length = sig.parameters.length)
    (hstack : g.stack = argsL.reverse ++ .ref b :: rest) (hW : 2 * g.monitorRoom + (rest.map fun v => v.category).sum ≤ W9) (hdg : decode c.code g.pc = .ok (.invokevirtual index, 3))
    (hpre : ∀ vm₁, s.WarmedH vm₁ → Pre ⟨T.setVm vm₁, locs, cells, slots⟩ (Value.ref b :: argsL).toArray) :
    ∃ (v : Option Value) (vm₁ : Vm) (B : Pt), s.WarmedH vm₁ ∧ Stand p l e R s m args below meth c B.U B.locs B.cells B.slots ∧ Post ⟨T.setVm vm₁, locs, cells, slots⟩ (Value.ref b :: argsL).toArray v B ∧
      ∀ target, Steps p.tables e below (B.U.setTop { g with pc := g.pc + 3, stack := v.toList ++ rest }) target → Steps p.tables e below (T.setTop g) target := by
  obtain ⟨mk, methM, hnamed, hmethM, hstM, habM⟩ := Cond.instanceMethod_spec hinst
  obtain ⟨m8, methM', cM, hn8, hmethM', -, -, -, -, -, -, hsigM⟩ := Cond.codeWith_spec hcode
  cases Option.some.inj (hn8.symm.trans hnamed)
  cases hmethM.symm.trans hmethM'
  obtain ⟨c2, r2, m2, q1, q2, q3, q4, kP, hkP, hkPi⟩ := Cond.selects_spec hsel
  cases hcls.symm.trans q1
  cases (State.methodFound?_of_named hnamed hy).symm.trans q2
  cases hnamed.symm.trans q3
  have hselP : selectMethod e.platform s.vm cellB.cls mk = .method mk := by rw [Launch.admits_selectMethod X.admits]; exact q4
  obtain ⟨vm₁, X₁, hstep₁⟩ := X.invokevirtual hexec hown hlink hnamed hmethM hstM hkP hkPi hy (a := b) (cell := cellB) hcell
    (fun z h => by rw [h] at hobj; cases hobj) hselP hmethM habM hkP hkPi (g := g) hg (argsL := argsL) (rest := rest) (hlen _ hsigM) hstack hdg
  obtain ⟨v, B, X', hpost, hsteps⟩ := hK m meth c ⟨T.setVm vm₁, locs, cells, slots⟩ { g with stack := rest } (.invokevirtual index) mk (Value.ref b :: argsL).toArray X₁ hg hsize hdg hW (X₁.named hnamed) (hpre vm₁ X₁.warmed)
  exact ⟨v, vm₁, B, X₁.warmed, X', hpost, fun target h => hstep₁ _ fun acts => by rw [doInvoke_state]; exact hsteps.trans h⟩
abbrev vx_CVW (R : Room) (s : State) (args : Array Value) (own C : String) (index : Nat) (y : MethodName) (bytes : ByteArray) (maxL : Nat) (ret : Option FieldType) (hh : List (Nat × Nat × Nat × Nat)) (ws : List Cond) (rm : Room) (mc ms n : Nat) : Prop :=
  (rm.cells = mc ∧ rm.slots = ms ∧ rm.frames + 1 ≤ R.frames ∧ 8 + (maxL + 11) + rm.locals ≤ R.locals ∧ (∀ w ∈ ws, ∀ (a' : Array Value) (U : State), s.WarmedH U.vm → w.before a' U = true) ∧ Cond.codeWith y bytes maxL ret hh ∈ ws) ∧
  (Cond.codeWith y bytes maxL ret hh).before args s = true ∧ (Cond.initialized y.cls).before args s = true ∧ (y.cls ≠ "java/lang/invoke/MethodHandle" ∧ y.cls ≠ "java/lang/invoke/VarHandle") ∧
  (∀ sig, parseMethodDescriptor y.desc = some sig → n = sig.parameters.length) ∧ (Cond.methodLink own index y).before args s = true ∧ (Cond.instanceMethod y).before args s = true ∧ (Cond.selects C y y).before args s = true
theorem vx_cwVW {own C : String} {index maxL mc ms : Nat} {y : MethodName} {bytes : ByteArray} {ret : Option FieldType} {hh : List (Nat × Nat × Nat × Nat)} {Ts ws ws' : List Cond} {rm : Room} (n : Nat) (ht : ∀ w ∈ Ts, w.before args s = true) (hT : GoodIn Ts (wsV own index C y ws)) (hw : ws = Cond.codeWith y bytes maxL ret hh :: ws') (hrc : rm.cells = mc) (hrs : rm.slots = ms)
    (hd : y.cls = C ∧ y.cls ≠ "java/lang/invoke/MethodHandle" ∧ y.cls ≠ "java/lang/invoke/VarHandle" ∧ (parseMethodDescriptor y.desc).map (fun d => d.parameters.length) = some n) (hR : rm.frames + 1 ≤ R.frames ∧ 8 + (maxL + 11) + rm.locals ≤ R.locals) :
    vx_CVW R s args own C index y bytes maxL ret hh ws rm mc ms n := by
  obtain ⟨hC, hd⟩ := hd
  subst hC
  have ok : ∀ w ∈ wsV own index y.cls y ws, w.before args s = true := fun w h => ht w (hT w h).1
  have hG : GoodIn Ts ws := fun w h => hT w (by unfold wsV; exact List.mem_append_right _ h)
  have hc : Cond.codeWith y bytes maxL ret hh ∈ ws := by rw [hw]; exact List.mem_cons_self
  refine ⟨⟨hrc, hrs, hR.1, hR.2, pay_in ht hG, hc⟩, ht _ (hG _ hc).1, ok _ (by simp [wsV]), ⟨hd.1, hd.2.1⟩, fun sig h => ?_, ok _ (by simp [wsV]), ok _ (by simp [wsV]), ok _ (by simp [wsV])⟩
  have h2 := hd.2.2
  rw [h] at h2
  exact (Option.some.inj h2).symm
theorem vx_runVW {y : MethodName} {bytes cc : ByteArray} {maxL nL mc ms n index : Nat} {ret : Option FieldType} {hh : List (Nat × Nat × Nat × Nat)} {ws : List Cond} {rm : Room} {Pc : Array Value → State → Prop} {Qc : Array Value → State → Outcome → State → Prop} {free : Addr → Prop} {Ts : List Cond} {own C : String} {b : Addr} {As rest : List Value} {g : JFrame}
    (S : CallFix p m c cc nL s args Ts own) (hM : Met l y ws rm Pc Qc mc ms free) (cw : vx_CVW R s args own C index y bytes maxL ret hh ws rm mc ms n) (hp : PreV s H C b Pc As)
    (hg : g.method = m) (hn : As.length = n) (hsize : g.locals.size = nL) (hstack : g.stack = As.reverse ++ .ref b :: rest) (hW : 2 * g.monitorRoom + (rest.map fun v => v.category).sum ≤ 8) (hdg : decode cc g.pc = .ok (.invokevirtual index, 3)) (hf : cells + mc ≤ R.cells ∧ slots + ms ≤ R.slots) :
    va_Run p l e R s m args below meth c H locs cells slots mc ms g rest (Qc (Value.ref b :: As).toArray) free := by
  obtain ⟨⟨hrc, hrs, hfr, hlo, hws, hcw⟩, hcode, hini, hy, hlen, hl, hin, hse⟩ := cw
  have hK : Back l R p e below s args y 3 8 (PreOf R mc ms Pc) (PostOf Qc mc ms free) := va_backW (hh := hh) (bytes := bytes) (maxL := maxL) (ret := ret) hM hp.1 hrc hrs hfr hlo hws hcw (fun a' U hW => word_at hW (Or.inl (by first | rfl | simp [Cond.onTables, Cond.keeps, Cond.steady])) hini)
  obtain ⟨hx, hb, hml, ho, -⟩ := S
  obtain ⟨-, ⟨cellB, hcB, hoB, hclB⟩, hPc⟩ := hp
  intro T hT X
  obtain ⟨v, vm₁, ⟨U', l2, c2, s2⟩, hW₁, X', ⟨g', mk, t, L, e1, e2, hq, h1, hL, h2, h3⟩, st⟩ := vx_callVW X hx (C := C) (hh := hh) (bytes := bytes) (maxL := maxL) (ret := ret) ho hl hin hse hcode hy hK (by rw [hT]; exact hcB) hoB hclB hg (hsize.trans hml.symm) (argsL := As) (rest := rest) (fun sig h => hn.trans (hlen sig h)) hstack hW (by rw [hb]; exact hdg)
    (fun vm₁ hW₁ => ⟨hf.1, hf.2, hPc (T.setVm vm₁) hT hW₁⟩)
  dsimp only [Pt.U, Pt.locs, Pt.cells, Pt.slots] at X' e1 e2 h1 h2 h3 st
  subst h1; subst h2; subst h3
  exact ⟨v, (T.setVm vm₁).calling g' mk (Value.ref b :: As).toArray, t, U', L, hT, X', hL, e1, e2, hq, st⟩
section
variable {y : MethodName} {bytes cc : ByteArray} {maxL nL mc ms n index : Nat} {ret : Option FieldType} {ws : List Cond} {rm : Room} {Pc : Array Value → State → Prop} {Qc : Array Value → State → Outcome → State → Prop} {XC : String → State → State → Prop} {free : Addr → Prop} {Ts : List Cond} {own C : String} {b : Addr} {As rest : List Value} {g : JFrame}
theorem vx_runVX {hh : List (Nat × Nat × Nat × Nat)} (S : CallFix p m c cc nL s args Ts own) (hM : vx_Met l y ws rm Pc Qc XC mc ms free) (cw : vx_CVW R s args own C index y bytes maxL ret hh ws rm mc ms n) (hp : PreV s H C b Pc As)
    (hg : g.method = m) (hn : As.length = n) (hsize : g.locals.size = nL) (hstack : g.stack = As.reverse ++ .ref b :: rest) (hW : 2 * g.monitorRoom + (rest.map fun v => v.category).sum ≤ 8) (hdg : decode cc g.pc = .ok (.invokevirtual index, 3)) (hf : cells + mc ≤ R.cells ∧ slots + ms ≤ R.slots) :
    vx_Run p l e R s m args below meth c H locs cells slots mc ms g rest (Qc (Value.ref b :: As).toArray) XC free := by
  obtain ⟨⟨hrc, hrs, hfr, hlo, hws, hcw⟩, hcode, hini, hy, hlen, hl, hin, hse⟩ := cw
  have hK : vx_Back l R p e below s args y 3 8 (PreOf R mc ms Pc) (PostOf Qc mc ms free) (vx_Post XC mc ms free) := vx_backW (hh := hh) (bytes := bytes) (maxL := maxL) (ret := ret) hM hp.1 hrc hrs hfr hlo hws hcw (fun a' U hW => word_at hW (Or.inl (by first | rfl | simp [Cond.onTables, Cond.keeps, Cond.steady])) hini)
  obtain ⟨hx, hb, hml, ho, -⟩ := S
  obtain ⟨-, ⟨cellB, hcB, hoB, hclB⟩, hPc⟩ := hp
  intro T hT X
  rcases vx_callVX X hx (C := C) (hh := hh) (bytes := bytes) (maxL := maxL) (ret := ret) ho hl hin hse hcode hy hK (by rw [hT]; exact hcB) hoB hclB hg (hsize.trans hml.symm) (argsL := As) (rest := rest) (fun sig h => hn.trans (hlen sig h)) hstack hW (by rw [hb]; exact hdg)
    (fun vm₁ hW₁ => ⟨hf.1, hf.2, hPc (T.setVm vm₁) hT hW₁⟩) with ⟨v, vm₁, ⟨U', l2, c2, s2⟩, hW₁, X', ⟨g', mk, t, L, e1, e2, hq, h1, hL, h2, h3⟩, st⟩ | ⟨q, vm₁, ⟨U', l2, c2, s2⟩, hW₁, X', ⟨g', mk, t, L, E, ce, e1, e2, hq, hce, hcv, hcl, h1, hL, h2, h3⟩, st⟩
  · dsimp only [Pt.U, Pt.locs, Pt.cells, Pt.slots] at X' e1 e2 h1 h2 h3 st
    subst h1; subst h2; subst h3
    exact Or.inl ⟨v, (T.setVm vm₁).calling g' mk (Value.ref b :: As).toArray, t, U', L, hT, X', hL, e1, e2, hq, st⟩
  · dsimp only [Pt.U, Pt.locs, Pt.cells, Pt.slots] at X' e1 e2 h1 h2 h3 st hcl
    subst h1; subst h2; subst h3
    exact Or.inr ⟨q, (T.setVm vm₁).calling g' mk (Value.ref b :: As).toArray, t, U', L, E, ce, hT, X', hL, e1, e2, hq, hce, hcv, vx_cls hW₁ hcl, st⟩
theorem vx_runSX {hh : List (Nat × Nat × Nat × Nat)} (S : CallFix p m c cc nL s args Ts own) (hM : vx_Met l y ws rm Pc Qc XC mc ms free) (cw : vx_CSW R s args own index y bytes maxL ret hh ws rm mc ms n) (hp : PreS s H Pc As)
    (hg : g.method = m) (hn : As.length = n) (hsize : g.locals.size = nL) (hstack : g.stack = As.reverse ++ rest) (hW : 2 * g.monitorRoom + (rest.map fun v => v.category).sum ≤ 8) (hdg : decode cc g.pc = .ok (.invokestatic index, 3)) (hf : cells + mc ≤ R.cells ∧ slots + ms ≤ R.slots) :
    vx_Run p l e R s m args below meth c H locs cells slots mc ms g rest (Qc As.toArray) XC free := by
  obtain ⟨⟨hrc, hrs, hfr, hlo, hws, hcw⟩, hcode, hini, hy, hlen, hl, hstt⟩ := cw
  have hK : vx_Back l R p e below s args y 3 8 (PreOf R mc ms Pc) (PostOf Qc mc ms free) (vx_Post XC mc ms free) := vx_backW (hh := hh) (bytes := bytes) (maxL := maxL) (ret := ret) hM hp.1 hrc hrs hfr hlo hws hcw (fun a' U hW => word_at hW (Or.inl (by first | rfl | simp [Cond.onTables, Cond.keeps, Cond.steady])) hini)
  obtain ⟨hx, hb, hml, ho, -⟩ := S
  intro T hT X
  rcases vx_callSX X hx (hh := hh) (bytes := bytes) (maxL := maxL) (ret := ret) ho hl hstt hini hcode hy hK hg (hsize.trans hml.symm) (argsL := As) (rest := rest) (fun sig h => hn.trans (hlen sig h)) hstack hW (by rw [hb]; exact hdg)
    (fun vm₁ hW₁ => ⟨hf.1, hf.2, hp.2 (T.setVm vm₁) hT hW₁⟩) with ⟨v, vm₁, ⟨U', l2, c2, s2⟩, hW₁, X', ⟨g', mk, t, L, e1, e2, hq, h1, hL, h2, h3⟩, st⟩ | ⟨q, vm₁, ⟨U', l2, c2, s2⟩, hW₁, X', ⟨g', mk, t, L, E, ce, e1, e2, hq, hce, hcv, hcl, h1, hL, h2, h3⟩, st⟩
  · dsimp only [Pt.U, Pt.locs, Pt.cells, Pt.slots] at X' e1 e2 h1 h2 h3 st
    subst h1; subst h2; subst h3
    exact Or.inl ⟨v, (T.setVm vm₁).calling g' mk As.toArray, t, U', L, hT, X', hL, e1, e2, hq, st⟩
  · dsimp only [Pt.U, Pt.locs, Pt.cells, Pt.slots] at X' e1 e2 h1 h2 h3 st hcl
    subst h1; subst h2; subst h3
    exact Or.inr ⟨q, (T.setVm vm₁).calling g' mk As.toArray, t, U', L, E, ce, hT, X', hL, e1, e2, hq, hce, hcv, vx_cls hW₁ hcl, st⟩
end
end VXH
theorem vx_ofWH {l : Launch} {y : MethodName} {ws ws' : List Cond} {rm : Room} {Pc : Array Value → State → Prop} {Qc : Array Value → State → Outcome → State → Prop} {XC : String → State → State → Prop} {mc ms : Nat} {free : Addr → Prop} {cc : ByteArray} {maxL : Nat} {ret : Option FieldType} {hh : List (Nat × Nat × Nat × Nat)}
    (hy : plainName y.cls = true) (hw : ws = Cond.codeWith y cc maxL ret hh :: ws')
    (body : ∀ p e s m args below meth c s₁, BodyLoose p l y (headSpec ws rm) cc maxL ret e s m args below meth c s₁ → c.maxLocals = maxL → Pc args s →
      W p l e (headSpec ws rm).room s m args below meth c s.heap [] 0 0 (vx_MQ below Qc XC args s mc ms free) (entryFrame m args maxL)) : vx_Met l y ws rm Pc Qc XC mc ms free := by
  refine MetFree.of_bodyS (code := cc) (maxLocals := maxL) (ret := ret) hy ?_ ?_
  · intro args s m h hn
    obtain ⟨m9, meth, c, hn9, h1, h2, h3, h4, -, h5, h6, -⟩ := Cond.codeWith_spec (atoms_spec (ws := ws) h _ (by rw [hw]; exact List.mem_cons_self))
    cases hn.symm.trans hn9
    exact ⟨meth, c, h1, h2, h3, h4, h5, h6⟩
  · intro p e s m args below meth c s₁ B hml hP _
    have hh0 : s₁.heap = s.heap := by rw [B.state]; rfl
    obtain ⟨t, a1, o, b1, b2, b3⟩ := body p e s m args below meth c s₁ B hml hP s₁ hh0 (Stand.of_body B)
    exact ⟨t, o, a1, b1, b2, b3⟩
/-! ===== END ===== -/
end
section
/-! ===== BEGIN printed: names, fields, word lists, decode rows ===== -/
def RX0 : String := "PaintballAtlas$Calls"
def TX0 : u_T := fun k => match k with
  | 0 => ("PaintballAtlas$Calls", "count", "I", false)
  | 1 => ("PaintballAtlas$Calls", "players", "[I", true)
  | 2 => ("PaintballAtlas$Calls", "cells", "[I", true)
  | 3 => ("PaintballAtlas$Calls", "ticks", "[I", true)
  | _ => ("PaintballAtlas$Calls", "disputed", "[Z", true)
def tyX0 : Nat → FieldType := fun k => match k with
  | 0 => .int
  | 1 => .array .int
  | 2 => .array .int
  | 3 => .array .int
  | _ => .array .boolean
abbrev wsX00 : List Cond := u_ws RX0 TX0 5
theorem nmX0 : ∀ a, a < 5 → ∀ b, b < 5 → a ≠ b → (TX0 a).2.1 ≠ (TX0 b).2.1 := by decide +kernel
theorem tyX0_ok : ∀ k, k < 5 → parseFieldDescriptor (TX0 k).2.2.1 = some (tyX0 k) := by decide +kernel
abbrev cX0_init : ByteArray := prog_2_method_1_code
def yX0_init : MethodName := ⟨RX0, "<init>", "()V"⟩
abbrev cX0_add : ByteArray := prog_2_method_2_code
def yX0_add : MethodName := ⟨RX0, "add", "(III)I"⟩
def RX1 : String := "PaintballAtlas$Field"
def TX1 : u_T := fun k => match k with
  | _ => ("PaintballAtlas$Field", "bunkers", "[Z", true)
def tyX1 : Nat → FieldType := fun k => match k with
  | _ => .array .boolean
abbrev wsX10 : List Cond := u_ws RX1 TX1 1
theorem nmX1 : ∀ a, a < 1 → ∀ b, b < 1 → a ≠ b → (TX1 a).2.1 ≠ (TX1 b).2.1 := by decide +kernel
theorem tyX1_ok : ∀ k, k < 1 → parseFieldDescriptor (TX1 k).2.2.1 = some (tyX1 k) := by decide +kernel
abbrev cX1_init : ByteArray := prog_3_method_1_code
def yX1_init : MethodName := ⟨RX1, "<init>", "()V"⟩
abbrev cX1_distance : ByteArray := prog_3_method_2_code
def yX1_distance : MethodName := ⟨RX1, "distance", "(II)I"⟩
abbrev cX1_hasBunker : ByteArray := prog_3_method_3_code
def yX1_hasBunker : MethodName := ⟨RX1, "hasBunker", "(I)Z"⟩
abbrev cX1_turnBunker : ByteArray := prog_3_method_4_code
def yX1_turnBunker : MethodName := ⟨RX1, "turnBunker", "(I)Z"⟩
abbrev cX1_countSeen : ByteArray := prog_3_method_5_code
def yX1_countSeen : MethodName := ⟨RX1, "countSeen", "(I)I"⟩
abbrev cX1_hasSight : ByteArray := prog_3_method_6_code
def yX1_hasSight : MethodName := ⟨RX1, "hasSight", "(II)Z"⟩
abbrev cX1_lineEnters : ByteArray := prog_3_method_7_code
def yX1_lineEnters : MethodName := ⟨RX1, "lineEnters", "(III)Z"⟩
def RX2 : String := "PaintballAtlas$Round"
def TX2 : u_T := fun k => match k with
  | 0 => ("PaintballAtlas$Round", "home", "I", false)
  | 1 => ("PaintballAtlas$Round", "away", "I", false)
  | 2 => ("PaintballAtlas$Round", "tick", "I", false)
  | 3 => ("PaintballAtlas$Round", "cells", "[I", true)
  | 4 => ("PaintballAtlas$Round", "hits", "[I", true)
  | 5 => ("PaintballAtlas$Round", "lastShots", "[I", true)
  | 6 => ("PaintballAtlas$Round", "shots", "LPaintballAtlas$Shots;", true)
  | _ => ("PaintballAtlas$Round", "calls", "LPaintballAtlas$Calls;", true)
def tyX2 : Nat → FieldType := fun k => match k with
  | 0 => .int
  | 1 => .int
  | 2 => .int
  | 3 => .array .int
  | 4 => .array .int
  | 5 => .array .int
  | 6 => .object "PaintballAtlas$Shots"
  | _ => .object "PaintballAtlas$Calls"
abbrev wsX20 : List Cond := u_ws RX2 TX2 8
theorem nmX2 : ∀ a, a < 8 → ∀ b, b < 8 → a ≠ b → (TX2 a).2.1 ≠ (TX2 b).2.1 := by decide +kernel
theorem tyX2_ok : ∀ k, k < 8 → parseFieldDescriptor (TX2 k).2.2.1 = some (tyX2 k) := by decide +kernel
abbrev cX2_init : ByteArray := prog_4_method_1_code
def yX2_init : MethodName := ⟨RX2, "<init>", "()V"⟩
abbrev cX2_start : ByteArray := prog_4_method_2_code
def yX2_start : MethodName := ⟨RX2, "start", "(II)V"⟩
abbrev cX2_close : ByteArray := prog_4_method_3_code
def yX2_close : MethodName := ⟨RX2, "close", "()V"⟩
abbrev cX2_reset : ByteArray := prog_4_method_4_code
def yX2_reset : MethodName := ⟨RX2, "reset", "(I)V"⟩
abbrev cX2_isPlayed : ByteArray := prog_4_method_5_code
def yX2_isPlayed : MethodName := ⟨RX2, "isPlayed", "()Z"⟩
abbrev cX2_time : ByteArray := prog_4_method_6_code
def yX2_time : MethodName := ⟨RX2, "time", "()I"⟩
abbrev cX2_homeTeam : ByteArray := prog_4_method_7_code
def yX2_homeTeam : MethodName := ⟨RX2, "homeTeam", "()I"⟩
abbrev cX2_awayTeam : ByteArray := prog_4_method_8_code
def yX2_awayTeam : MethodName := ⟨RX2, "awayTeam", "()I"⟩
abbrev cX2_cellOf : ByteArray := prog_4_method_9_code
def yX2_cellOf : MethodName := ⟨RX2, "cellOf", "(I)I"⟩
abbrev cX2_hitOf : ByteArray := prog_4_method_10_code
def yX2_hitOf : MethodName := ⟨RX2, "hitOf", "(I)I"⟩
abbrev cX2_playerOn : ByteArray := prog_4_method_11_code
def yX2_playerOn : MethodName := ⟨RX2, "playerOn", "(I)I"⟩
abbrev cX2_put : ByteArray := prog_4_method_12_code
def yX2_put : MethodName := ⟨RX2, "put", "(II)V"⟩
abbrev cX2_mayFire : ByteArray := prog_4_method_13_code
def yX2_mayFire : MethodName := ⟨RX2, "mayFire", "(I)Z"⟩
abbrev cX2_fire : ByteArray := prog_4_method_14_code
def yX2_fire : MethodName := ⟨RX2, "fire", "(II)I"⟩
abbrev cX2_countFlying : ByteArray := prog_4_method_15_code
def yX2_countFlying : MethodName := ⟨RX2, "countFlying", "()I"⟩
abbrev cX2_nextTick : ByteArray := prog_4_method_16_code
def yX2_nextTick : MethodName := ⟨RX2, "nextTick", "(LPaintballAtlas$Field;)I"⟩
abbrev cX2_strikes : ByteArray := prog_4_method_17_code
def yX2_strikes : MethodName := ⟨RX2, "strikes", "(ILPaintballAtlas$Field;)Z"⟩
abbrev cX2_mayCall : ByteArray := prog_4_method_18_code
def yX2_mayCall : MethodName := ⟨RX2, "mayCall", "()Z"⟩
abbrev cX2_callOut : ByteArray := prog_4_method_19_code
def yX2_callOut : MethodName := ⟨RX2, "callOut", "(I)I"⟩
abbrev cX2_hasCall : ByteArray := prog_4_method_20_code
def yX2_hasCall : MethodName := ⟨RX2, "hasCall", "(I)Z"⟩
abbrev cX2_isDisputed : ByteArray := prog_4_method_21_code
def yX2_isDisputed : MethodName := ⟨RX2, "isDisputed", "(I)Z"⟩
abbrev cX2_teamCalled : ByteArray := prog_4_method_22_code
def yX2_teamCalled : MethodName := ⟨RX2, "teamCalled", "(I)I"⟩
abbrev cX2_judge : ByteArray := prog_4_method_23_code
def yX2_judge : MethodName := ⟨RX2, "judge", "(I)Z"⟩
abbrev cX2_margin : ByteArray := prog_4_method_24_code
def yX2_margin : MethodName := ⟨RX2, "margin", "()I"⟩
def RX3 : String := "PaintballAtlas$Shots"
def TX3 : u_T := fun k => match k with
  | 0 => ("PaintballAtlas$Shots", "count", "I", false)
  | 1 => ("PaintballAtlas$Shots", "shooters", "[I", true)
  | 2 => ("PaintballAtlas$Shots", "origins", "[I", true)
  | 3 => ("PaintballAtlas$Shots", "targets", "[I", true)
  | _ => ("PaintballAtlas$Shots", "arrivals", "[I", true)
def tyX3 : Nat → FieldType := fun k => match k with
  | 0 => .int
  | 1 => .array .int
  | 2 => .array .int
  | 3 => .array .int
  | _ => .array .int
abbrev wsX30 : List Cond := u_ws RX3 TX3 5
theorem nmX3 : ∀ a, a < 5 → ∀ b, b < 5 → a ≠ b → (TX3 a).2.1 ≠ (TX3 b).2.1 := by decide +kernel
theorem tyX3_ok : ∀ k, k < 5 → parseFieldDescriptor (TX3 k).2.2.1 = some (tyX3 k) := by decide +kernel
abbrev cX3_init : ByteArray := prog_5_method_1_code
def yX3_init : MethodName := ⟨RX3, "<init>", "()V"⟩
abbrev cX3_add : ByteArray := prog_5_method_2_code
def yX3_add : MethodName := ⟨RX3, "add", "(IIII)V"⟩
def RX4 : String := "PaintballAtlas$Table"
def TX4 : u_T := fun k => match k with
  | 0 => ("PaintballAtlas$Table", "points", "[I", true)
  | 1 => ("PaintballAtlas$Table", "fines", "[I", true)
  | 2 => ("PaintballAtlas$Table", "differences", "[I", true)
  | _ => ("PaintballAtlas$Table", "wins", "[[I", true)
def tyX4 : Nat → FieldType := fun k => match k with
  | 0 => .array .int
  | 1 => .array .int
  | 2 => .array .int
  | _ => .array (.array .int)
abbrev wsX40 : List Cond := u_ws RX4 TX4 4
theorem nmX4 : ∀ a, a < 4 → ∀ b, b < 4 → a ≠ b → (TX4 a).2.1 ≠ (TX4 b).2.1 := by decide +kernel
theorem tyX4_ok : ∀ k, k < 4 → parseFieldDescriptor (TX4 k).2.2.1 = some (tyX4 k) := by decide +kernel
abbrev cX4_init : ByteArray := prog_6_method_1_code
def yX4_init : MethodName := ⟨RX4, "<init>", "()V"⟩
abbrev cX4_pointsOf : ByteArray := prog_6_method_2_code
def yX4_pointsOf : MethodName := ⟨RX4, "pointsOf", "(I)I"⟩
abbrev cX4_finesOf : ByteArray := prog_6_method_3_code
def yX4_finesOf : MethodName := ⟨RX4, "finesOf", "(I)I"⟩
abbrev cX4_differenceOf : ByteArray := prog_6_method_4_code
def yX4_differenceOf : MethodName := ⟨RX4, "differenceOf", "(I)I"⟩
abbrev cX4_fine : ByteArray := prog_6_method_5_code
def yX4_fine : MethodName := ⟨RX4, "fine", "(I)V"⟩
abbrev cX4_enter : ByteArray := prog_6_method_6_code
def yX4_enter : MethodName := ⟨RX4, "enter", "(III)V"⟩
abbrev cX4_enterWin : ByteArray := prog_6_method_7_code
def yX4_enterWin : MethodName := ⟨RX4, "enterWin", "(II)V"⟩
abbrev cX4_takePenalties : ByteArray := prog_6_method_8_code
def yX4_takePenalties : MethodName := ⟨RX4, "takePenalties", "()V"⟩
abbrev cX4_placeOf : ByteArray := prog_6_method_9_code
def yX4_placeOf : MethodName := ⟨RX4, "placeOf", "(I)I"⟩
abbrev cX4_isAhead : ByteArray := prog_6_method_10_code
def yX4_isAhead : MethodName := ⟨RX4, "isAhead", "(II)Z"⟩
def RX5 : String := "PaintballAtlas"
def TX5 : u_T := fun k => match k with
  | 0 => ("PaintballAtlas", "field", "LPaintballAtlas$Field;", true)
  | 1 => ("PaintballAtlas", "round", "LPaintballAtlas$Round;", true)
  | 2 => ("PaintballAtlas", "table", "LPaintballAtlas$Table;", true)
  | _ => ("PaintballAtlas", "refereeCells", "[I", true)
def tyX5 : Nat → FieldType := fun k => match k with
  | 0 => .object "PaintballAtlas$Field"
  | 1 => .object "PaintballAtlas$Round"
  | 2 => .object "PaintballAtlas$Table"
  | _ => .array .int
abbrev wsX50 : List Cond := u_ws RX5 TX5 4
theorem nmX5 : ∀ a, a < 4 → ∀ b, b < 4 → a ≠ b → (TX5 a).2.1 ≠ (TX5 b).2.1 := by decide +kernel
theorem tyX5_ok : ∀ k, k < 4 → parseFieldDescriptor (TX5 k).2.2.1 = some (tyX5 k) := by decide +kernel
abbrev cX5_init : ByteArray := prog_1_method_1_code
def yX5_init : MethodName := ⟨RX5, "<init>", "()V"⟩
abbrev cX5_toggleBunker : ByteArray := prog_1_method_2_code
def yX5_toggleBunker : MethodName := ⟨RX5, "toggleBunker", "(I)Z"⟩
abbrev cX5_sees : ByteArray := prog_1_method_3_code
def yX5_sees : MethodName := ⟨RX5, "sees", "(II)Z"⟩
abbrev cX5_view : ByteArray := prog_1_method_4_code
def yX5_view : MethodName := ⟨RX5, "view", "(I)I"⟩
abbrev cX5_setReferee : ByteArray := prog_1_method_5_code
def yX5_setReferee : MethodName := ⟨RX5, "setReferee", "(II)I"⟩
abbrev cX5_begin : ByteArray := prog_1_method_6_code
def yX5_begin : MethodName := ⟨RX5, "begin", "(II)V"⟩
abbrev cX5_move : ByteArray := prog_1_method_7_code
def yX5_move : MethodName := ⟨RX5, "move", "(II)I"⟩
abbrev cX5_shoot : ByteArray := prog_1_method_8_code
def yX5_shoot : MethodName := ⟨RX5, "shoot", "(II)I"⟩
abbrev cX5_pass : ByteArray := prog_1_method_9_code
def yX5_pass : MethodName := ⟨RX5, "pass", "(I)I"⟩
abbrev cX5_call : ByteArray := prog_1_method_10_code
def yX5_call : MethodName := ⟨RX5, "call", "(II)I"⟩
abbrev cX5_dispute : ByteArray := prog_1_method_11_code
def yX5_dispute : MethodName := ⟨RX5, "dispute", "(I)Z"⟩
abbrev cX5_end : ByteArray := prog_1_method_12_code
def yX5_end : MethodName := ⟨RX5, "end", "()I"⟩
abbrev cX5_tick : ByteArray := prog_1_method_13_code
def yX5_tick : MethodName := ⟨RX5, "tick", "()I"⟩
abbrev cX5_where : ByteArray := prog_1_method_14_code
def yX5_where : MethodName := ⟨RX5, "where", "(I)I"⟩
abbrev cX5_hit : ByteArray := prog_1_method_15_code
def yX5_hit : MethodName := ⟨RX5, "hit", "(I)I"⟩
abbrev cX5_flying : ByteArray := prog_1_method_16_code
def yX5_flying : MethodName := ⟨RX5, "flying", "()I"⟩
abbrev cX5_points : ByteArray := prog_1_method_17_code
def yX5_points : MethodName := ⟨RX5, "points", "(I)I"⟩
abbrev cX5_fines : ByteArray := prog_1_method_18_code
def yX5_fines : MethodName := ⟨RX5, "fines", "(I)I"⟩
abbrev cX5_difference : ByteArray := prog_1_method_19_code
def yX5_difference : MethodName := ⟨RX5, "difference", "(I)I"⟩
abbrev cX5_place : ByteArray := prog_1_method_20_code
def yX5_place : MethodName := ⟨RX5, "place", "(I)I"⟩
abbrev cX5_checkCell : ByteArray := prog_1_method_21_code
def yX5_checkCell : MethodName := ⟨RX5, "checkCell", "(I)V"⟩
abbrev cX5_checkTeam : ByteArray := prog_1_method_22_code
def yX5_checkTeam : MethodName := ⟨RX5, "checkTeam", "(I)V"⟩
abbrev cX5_checkPlayer : ByteArray := prog_1_method_23_code
def yX5_checkPlayer : MethodName := ⟨RX5, "checkPlayer", "(I)V"⟩
abbrev cX5_checkReferee : ByteArray := prog_1_method_24_code
def yX5_checkReferee : MethodName := ⟨RX5, "checkReferee", "(I)V"⟩
abbrev cX5_checkRound : ByteArray := prog_1_method_25_code
def yX5_checkRound : MethodName := ⟨RX5, "checkRound", "()V"⟩
def RX6 : String := "PaintballAtlasModel"
def TX6 : u_T := fun k => match k with
  | 0 => ("PaintballAtlasModel", "isBunker", "[Z", true)
  | 1 => ("PaintballAtlasModel", "referee", "[I", true)
  | 2 => ("PaintballAtlasModel", "isOn", "Z", false)
  | 3 => ("PaintballAtlasModel", "home", "I", false)
  | 4 => ("PaintballAtlasModel", "away", "I", false)
  | 5 => ("PaintballAtlasModel", "tick", "I", false)
  | 6 => ("PaintballAtlasModel", "where", "[I", true)
  | 7 => ("PaintballAtlasModel", "hit", "[I", true)
  | 8 => ("PaintballAtlasModel", "shot", "[I", true)
  | 9 => ("PaintballAtlasModel", "shots", "I", false)
  | 10 => ("PaintballAtlasModel", "shooter", "[I", true)
  | 11 => ("PaintballAtlasModel", "from", "[I", true)
  | 12 => ("PaintballAtlasModel", "aim", "[I", true)
  | 13 => ("PaintballAtlasModel", "comes", "[I", true)
  | 14 => ("PaintballAtlasModel", "calls", "I", false)
  | 15 => ("PaintballAtlasModel", "called", "[I", true)
  | 16 => ("PaintballAtlasModel", "calledAt", "[I", true)
  | 17 => ("PaintballAtlasModel", "calledOn", "[I", true)
  | 18 => ("PaintballAtlasModel", "isDisputed", "[Z", true)
  | 19 => ("PaintballAtlasModel", "points", "[I", true)
  | 20 => ("PaintballAtlasModel", "fines", "[I", true)
  | 21 => ("PaintballAtlasModel", "difference", "[I", true)
  | 22 => ("PaintballAtlasModel", "wins", "[I", true)
  | _ => ("PaintballAtlasModel", "thrown", "I", false)
def tyX6 : Nat → FieldType := fun k => match k with
  | 0 => .array .boolean
  | 1 => .array .int
  | 2 => .boolean
  | 3 => .int
  | 4 => .int
  | 5 => .int
  | 6 => .array .int
  | 7 => .array .int
  | 8 => .array .int
  | 9 => .int
  | 10 => .array .int
  | 11 => .array .int
  | 12 => .array .int
  | 13 => .array .int
  | 14 => .int
  | 15 => .array .int
  | 16 => .array .int
  | 17 => .array .int
  | 18 => .array .boolean
  | 19 => .array .int
  | 20 => .array .int
  | 21 => .array .int
  | 22 => .array .int
  | _ => .int
abbrev wsX60 : List Cond := u_ws RX6 TX6 24
theorem nmX6 : ∀ a, a < 24 → ∀ b, b < 24 → a ≠ b → (TX6 a).2.1 ≠ (TX6 b).2.1 := by decide +kernel
theorem tyX6_ok : ∀ k, k < 24 → parseFieldDescriptor (TX6 k).2.2.1 = some (tyX6 k) := by decide +kernel
abbrev cX6_init : ByteArray := prog_8_method_1_code
def yX6_init : MethodName := ⟨RX6, "<init>", "()V"⟩
abbrev cX6_thrown : ByteArray := prog_8_method_2_code
def yX6_thrown : MethodName := ⟨RX6, "thrown", "()I"⟩
abbrev cX6_fails : ByteArray := prog_8_method_3_code
def yX6_fails : MethodName := ⟨RX6, "fails", "(I)Z"⟩
abbrev cX6_isIn : ByteArray := prog_8_method_4_code
def yX6_isIn : MethodName := ⟨RX6, "isIn", "(III)Z"⟩
abbrev cX6_isCell : ByteArray := prog_8_method_5_code
def yX6_isCell : MethodName := ⟨RX6, "isCell", "(I)Z"⟩
abbrev cX6_isPlayer : ByteArray := prog_8_method_6_code
def yX6_isPlayer : MethodName := ⟨RX6, "isPlayer", "(I)Z"⟩
abbrev cX6_isTeam : ByteArray := prog_8_method_7_code
def yX6_isTeam : MethodName := ⟨RX6, "isTeam", "(I)Z"⟩
abbrev cX6_side : ByteArray := prog_8_method_8_code
def yX6_side : MethodName := ⟨RX6, "side", "(IIII)I"⟩
abbrev cX6_isBetween : ByteArray := prog_8_method_9_code
def yX6_isBetween : MethodName := ⟨RX6, "isBetween", "(III)Z"⟩
abbrev cX6_leads : ByteArray := prog_8_method_10_code
def yX6_leads : MethodName := ⟨RX6, "leads", "(III)Z"⟩
abbrev cX6_see : ByteArray := prog_8_method_11_code
def yX6_see : MethodName := ⟨RX6, "see", "(II)Z"⟩
abbrev cX6_toggleBunker : ByteArray := prog_8_method_12_code
def yX6_toggleBunker : MethodName := ⟨RX6, "toggleBunker", "(I)Z"⟩
abbrev cX6_sees : ByteArray := prog_8_method_13_code
def yX6_sees : MethodName := ⟨RX6, "sees", "(II)Z"⟩
abbrev cX6_view : ByteArray := prog_8_method_14_code
def yX6_view : MethodName := ⟨RX6, "view", "(I)I"⟩
abbrev cX6_isReferee : ByteArray := prog_8_method_15_code
def yX6_isReferee : MethodName := ⟨RX6, "isReferee", "(I)Z"⟩
abbrev cX6_setReferee : ByteArray := prog_8_method_16_code
def yX6_setReferee : MethodName := ⟨RX6, "setReferee", "(II)I"⟩
abbrev cX6_begin : ByteArray := prog_8_method_17_code
def yX6_begin : MethodName := ⟨RX6, "begin", "(II)V"⟩
abbrev cX6_size : ByteArray := prog_8_method_18_code
def yX6_size : MethodName := ⟨RX6, "size", "(I)I"⟩
abbrev cX6_apart : ByteArray := prog_8_method_19_code
def yX6_apart : MethodName := ⟨RX6, "apart", "(II)I"⟩
abbrev cX6_standsOn : ByteArray := prog_8_method_20_code
def yX6_standsOn : MethodName := ⟨RX6, "standsOn", "(I)I"⟩
abbrev cX6_move : ByteArray := prog_8_method_21_code
def yX6_move : MethodName := ⟨RX6, "move", "(II)I"⟩
abbrev cX6_shoot : ByteArray := prog_8_method_22_code
def yX6_shoot : MethodName := ⟨RX6, "shoot", "(II)I"⟩
abbrev cX6_pass : ByteArray := prog_8_method_23_code
def yX6_pass : MethodName := ⟨RX6, "pass", "(I)I"⟩
abbrev cX6_call : ByteArray := prog_8_method_24_code
def yX6_call : MethodName := ⟨RX6, "call", "(II)I"⟩
abbrev cX6_teamOf : ByteArray := prog_8_method_25_code
def yX6_teamOf : MethodName := ⟨RX6, "teamOf", "(I)I"⟩
abbrev cX6_dispute : ByteArray := prog_8_method_26_code
def yX6_dispute : MethodName := ⟨RX6, "dispute", "(I)Z"⟩
abbrev cX6_end : ByteArray := prog_8_method_27_code
def yX6_end : MethodName := ⟨RX6, "end", "()I"⟩
abbrev cX6_tick : ByteArray := prog_8_method_28_code
def yX6_tick : MethodName := ⟨RX6, "tick", "()I"⟩
abbrev cX6_where : ByteArray := prog_8_method_29_code
def yX6_where : MethodName := ⟨RX6, "where", "(I)I"⟩
abbrev cX6_hit : ByteArray := prog_8_method_30_code
def yX6_hit : MethodName := ⟨RX6, "hit", "(I)I"⟩
abbrev cX6_flying : ByteArray := prog_8_method_31_code
def yX6_flying : MethodName := ⟨RX6, "flying", "()I"⟩
abbrev cX6_of : ByteArray := prog_8_method_32_code
def yX6_of : MethodName := ⟨RX6, "of", "([II)I"⟩
abbrev cX6_points : ByteArray := prog_8_method_33_code
def yX6_points : MethodName := ⟨RX6, "points", "(I)I"⟩
abbrev cX6_fines : ByteArray := prog_8_method_34_code
def yX6_fines : MethodName := ⟨RX6, "fines", "(I)I"⟩
abbrev cX6_difference : ByteArray := prog_8_method_35_code
def yX6_difference : MethodName := ⟨RX6, "difference", "(I)I"⟩
abbrev cX6_isAhead : ByteArray := prog_8_method_36_code
def yX6_isAhead : MethodName := ⟨RX6, "isAhead", "(II)Z"⟩
abbrev cX6_place : ByteArray := prog_8_method_37_code
def yX6_place : MethodName := ⟨RX6, "place", "(I)I"⟩
def RJ9 : String := "java/lang/Math"
def TJ9 : u_T := fun k => match k with
  | _ => ("", "", "", false)
def tyJ9 : Nat → FieldType := fun k => match k with
  | _ => .int
abbrev wsJ90 : List Cond := u_ws RJ9 TJ9 0
theorem nmJ9 : ∀ a, a < 0 → ∀ b, b < 0 → a ≠ b → (TJ9 a).2.1 ≠ (TJ9 b).2.1 := by decide +kernel
theorem tyJ9_ok : ∀ k, k < 0 → parseFieldDescriptor (TJ9 k).2.2.1 = some (tyJ9 k) := by decide +kernel
abbrev cJ9_abs_0f7a4 : ByteArray := prog_13_method_59_code
def yJ9_abs_0f7a4 : MethodName := ⟨RJ9, "abs", "(I)I"⟩
abbrev cJ9_max_7cf53 : ByteArray := prog_13_method_65_code
def yJ9_max_7cf53 : MethodName := ⟨RJ9, "max", "(II)I"⟩
abbrev cJ9_min_7cf53 : ByteArray := prog_13_method_69_code
def yJ9_min_7cf53 : MethodName := ⟨RJ9, "min", "(II)I"⟩
def RJ0 : String := "java/lang/String"
def TJ0 : u_T := fun k => match k with
  | _ => ("", "", "", false)
def tyJ0 : Nat → FieldType := fun k => match k with
  | _ => .int
abbrev wsJ00 : List Cond := u_ws RJ0 TJ0 0
theorem nmJ0 : ∀ a, a < 0 → ∀ b, b < 0 → a ≠ b → (TJ0 a).2.1 ≠ (TJ0 b).2.1 := by decide +kernel
theorem tyJ0_ok : ∀ k, k < 0 → parseFieldDescriptor (TJ0 k).2.2.1 = some (tyJ0 k) := by decide +kernel
def RL : String := "PaintballAtlasLaw"
abbrev cL_toggleBunker : ByteArray := method_3_code
def yL_toggleBunker : MethodName := ⟨RL, "toggleBunker", "(LPaintballAtlas;I[J)I"⟩
abbrev cL_sees : ByteArray := method_4_code
def yL_sees : MethodName := ⟨RL, "sees", "(LPaintballAtlas;II[J)I"⟩
abbrev cL_view : ByteArray := method_5_code
def yL_view : MethodName := ⟨RL, "view", "(LPaintballAtlas;I[J)I"⟩
abbrev cL_setReferee : ByteArray := method_6_code
def yL_setReferee : MethodName := ⟨RL, "setReferee", "(LPaintballAtlas;II[J)I"⟩
abbrev cL_begin : ByteArray := method_7_code
def yL_begin : MethodName := ⟨RL, "begin", "(LPaintballAtlas;II)I"⟩
abbrev cL_move : ByteArray := method_8_code
def yL_move : MethodName := ⟨RL, "move", "(LPaintballAtlas;II[J)I"⟩
abbrev cL_shoot : ByteArray := method_9_code
def yL_shoot : MethodName := ⟨RL, "shoot", "(LPaintballAtlas;II[J)I"⟩
abbrev cL_pass : ByteArray := method_10_code
def yL_pass : MethodName := ⟨RL, "pass", "(LPaintballAtlas;I[J)I"⟩
abbrev cL_call : ByteArray := method_11_code
def yL_call : MethodName := ⟨RL, "call", "(LPaintballAtlas;II[J)I"⟩
abbrev cL_dispute : ByteArray := method_12_code
def yL_dispute : MethodName := ⟨RL, "dispute", "(LPaintballAtlas;I[J)I"⟩
abbrev cL_end : ByteArray := method_13_code
def yL_end : MethodName := ⟨RL, "end", "(LPaintballAtlas;[J)I"⟩
abbrev cL_where : ByteArray := method_14_code
def yL_where : MethodName := ⟨RL, "where", "(LPaintballAtlas;I[J)I"⟩
abbrev cL_hit : ByteArray := method_15_code
def yL_hit : MethodName := ⟨RL, "hit", "(LPaintballAtlas;I[J)I"⟩
abbrev cL_points : ByteArray := method_16_code
def yL_points : MethodName := ⟨RL, "points", "(LPaintballAtlas;I[J)I"⟩
abbrev cL_fines : ByteArray := method_17_code
def yL_fines : MethodName := ⟨RL, "fines", "(LPaintballAtlas;I[J)I"⟩
abbrev cL_difference : ByteArray := method_18_code
def yL_difference : MethodName := ⟨RL, "difference", "(LPaintballAtlas;I[J)I"⟩
abbrev cL_place : ByteArray := method_19_code
def yL_place : MethodName := ⟨RL, "place", "(LPaintballAtlas;I[J)I"⟩
abbrev cL_law : ByteArray := code
def yL_law : MethodName := ⟨RL, "law", "([I)Z"⟩
def wsX0_init : List Cond := .code yX0_init cX0_init 1 none :: ([.methodLink RX0 3 objectInit, .instanceMethod objectInit, .code objectInit ⟨#[0xb1]⟩ 1 none, .arrayClass .int, .fieldLink RX0 9 "PaintballAtlas$Calls" "players" "[I", .fieldLink RX0 15 "PaintballAtlas$Calls" "cells" "[I", .fieldLink RX0 18 "PaintballAtlas$Calls" "ticks" "[I", .arrayClass .boolean, .fieldLink RX0 21 "PaintballAtlas$Calls" "disputed" "[Z"] ++ wsX00)
def wsX0_add : List Cond := .code yX0_add cX0_add 4 (some .int) :: ([.fieldLink RX0 9 "PaintballAtlas$Calls" "players" "[I", .fieldLink RX0 25 "PaintballAtlas$Calls" "count" "I", .fieldLink RX0 15 "PaintballAtlas$Calls" "cells" "[I", .fieldLink RX0 18 "PaintballAtlas$Calls" "ticks" "[I", .fieldLink RX0 21 "PaintballAtlas$Calls" "disputed" "[Z"] ++ wsX00)
def wsX1_init : List Cond := .code yX1_init cX1_init 1 none :: ([.methodLink RX1 3 objectInit, .instanceMethod objectInit, .code objectInit ⟨#[0xb1]⟩ 1 none, .arrayClass .boolean, .fieldLink RX1 9 "PaintballAtlas$Field" "bunkers" "[Z"] ++ wsX10)
def wsX1_distance : List Cond := .code yX1_distance cX1_distance 4 (some .int) :: ([.methodLink RX1 15 Lib.Math.abs.name, .static Lib.Math.abs.name, .initialized "java/lang/Math", .code Lib.Math.abs.name Lib.Math.abs.code 1 (some .int), .methodLink RX1 21 Lib.Math.max.name, .static Lib.Math.max.name, .code Lib.Math.max.name Lib.Math.max.code 2 (some .int)])
def wsX1_hasBunker : List Cond := .code yX1_hasBunker cX1_hasBunker 2 (some .boolean) :: ([.fieldLink RX1 9 "PaintballAtlas$Field" "bunkers" "[Z"] ++ wsX10)
def wsX1_turnBunker : List Cond := .code yX1_turnBunker cX1_turnBunker 2 (some .boolean) :: ([.fieldLink RX1 9 "PaintballAtlas$Field" "bunkers" "[Z"] ++ wsX10)
def wsX1_lineEnters : List Cond := .code yX1_lineEnters cX1_lineEnters 8 (some .boolean) :: ([.methodLink RX1 15 Lib.Math.abs.name, .static Lib.Math.abs.name, .initialized "java/lang/Math", .code Lib.Math.abs.name Lib.Math.abs.code 1 (some .int)])
def wsX1_hasSight : List Cond := .code yX1_hasSight cX1_hasSight 10 (some .boolean) :: ([.fieldLink RX1 9 "PaintballAtlas$Field" "bunkers" "[Z", .methodLink RX1 29 Lib.Math.min.name, .static Lib.Math.min.name, .initialized "java/lang/Math", .code Lib.Math.min.name Lib.Math.min.code 2 (some .int), .methodLink RX1 21 Lib.Math.max.name, .static Lib.Math.max.name, .code Lib.Math.max.name Lib.Math.max.code 2 (some .int), .methodLink RX1 32 yX1_lineEnters, .static yX1_lineEnters, .initialized RX1, .code yX1_lineEnters cX1_lineEnters 8 (some .boolean), .methodLink RX1 15 Lib.Math.abs.name, .static Lib.Math.abs.name, .code Lib.Math.abs.name Lib.Math.abs.code 1 (some .int)] ++ wsX10)
def wsX1_countSeen : List Cond := .code yX1_countSeen cX1_countSeen 4 (some .int) :: ([.methodLink RX1 25 yX1_hasSight, .instanceMethod yX1_hasSight, .selects RX1 yX1_hasSight yX1_hasSight, .initialized RX1, .code yX1_hasSight cX1_hasSight 10 (some .boolean), .fieldLink RX1 9 "PaintballAtlas$Field" "bunkers" "[Z", .methodLink RX1 29 Lib.Math.min.name, .static Lib.Math.min.name, .initialized "java/lang/Math", .code Lib.Math.min.name Lib.Math.min.code 2 (some .int), .methodLink RX1 21 Lib.Math.max.name, .static Lib.Math.max.name, .code Lib.Math.max.name Lib.Math.max.code 2 (some .int), .methodLink RX1 32 yX1_lineEnters, .static yX1_lineEnters, .code yX1_lineEnters cX1_lineEnters 8 (some .boolean), .methodLink RX1 15 Lib.Math.abs.name, .static Lib.Math.abs.name, .code Lib.Math.abs.name Lib.Math.abs.code 1 (some .int)] ++ wsX10)
def wsX3_init : List Cond := .code yX3_init cX3_init 1 none :: ([.methodLink RX3 3 objectInit, .instanceMethod objectInit, .code objectInit ⟨#[0xb1]⟩ 1 none, .arrayClass .int, .fieldLink RX3 9 "PaintballAtlas$Shots" "shooters" "[I", .fieldLink RX3 15 "PaintballAtlas$Shots" "origins" "[I", .fieldLink RX3 18 "PaintballAtlas$Shots" "targets" "[I", .fieldLink RX3 21 "PaintballAtlas$Shots" "arrivals" "[I"] ++ wsX30)
def wsX2_reset : List Cond := .code yX2_reset cX2_reset 3 none :: ([.fieldLink RX2 15 "PaintballAtlas$Round" "cells" "[I", .fieldLink RX2 19 "PaintballAtlas$Round" "hits" "[I", .fieldLink RX2 22 "PaintballAtlas$Round" "lastShots" "[I", .fieldLink RX2 28 "PaintballAtlas$Round" "shots" "LPaintballAtlas$Shots;", .fieldLink RX2 49 "PaintballAtlas$Shots" "count" "I", .fieldLink RX2 35 "PaintballAtlas$Round" "calls" "LPaintballAtlas$Calls;", .fieldLink RX2 52 "PaintballAtlas$Calls" "count" "I"] ++ wsX20 ++ wsX30 ++ wsX00)
def wsX2_init_r1 : List Cond := [Cond.methodLink RX2 3 objectInit, Cond.instanceMethod objectInit, Cond.code objectInit ⟨#[0xb1]⟩ 1 none, Cond.fieldLink RX2 9 "PaintballAtlas$Round" "tick" "I", Cond.arrayClass .int, Cond.fieldLink RX2 15 "PaintballAtlas$Round" "cells" "[I", Cond.fieldLink RX2 19 "PaintballAtlas$Round" "hits" "[I", Cond.fieldLink RX2 22 "PaintballAtlas$Round" "lastShots" "[I", Cond.classLink RX2 25 RX3, Cond.instantiable RX3 5, Cond.initialized RX3, Cond.fieldLink RX2 28 "PaintballAtlas$Round" "shots" "LPaintballAtlas$Shots;", Cond.classLink RX2 32 RX0, Cond.instantiable RX0 5, Cond.initialized RX0, Cond.fieldLink RX2 35 "PaintballAtlas$Round" "calls" "LPaintballAtlas$Calls;", Cond.instanceMethod yX3_init, Cond.code yX3_init cX3_init 1 none, Cond.methodLink RX3 3 objectInit, Cond.fieldLink RX3 9 "PaintballAtlas$Shots" "shooters" "[I", Cond.fieldLink RX3 15 "PaintballAtlas$Shots" "origins" "[I", Cond.fieldLink RX3 18 "PaintballAtlas$Shots" "targets" "[I", Cond.fieldLink RX3 21 "PaintballAtlas$Shots" "arrivals" "[I", Cond.instanceMethod yX0_init]
def wsX2_init_r2 : List Cond := [Cond.code yX0_init cX0_init 1 none, Cond.methodLink RX0 3 objectInit, Cond.fieldLink RX0 9 "PaintballAtlas$Calls" "players" "[I", Cond.fieldLink RX0 15 "PaintballAtlas$Calls" "cells" "[I", Cond.fieldLink RX0 18 "PaintballAtlas$Calls" "ticks" "[I", Cond.arrayClass .boolean, Cond.fieldLink RX0 21 "PaintballAtlas$Calls" "disputed" "[Z", Cond.methodLink RX2 39 yX2_reset, Cond.instanceMethod yX2_reset, Cond.selects RX2 yX2_reset yX2_reset, Cond.initialized RX2, Cond.code yX2_reset cX2_reset 3 none, Cond.fieldLink RX2 49 "PaintballAtlas$Shots" "count" "I", Cond.fieldLink RX2 52 "PaintballAtlas$Calls" "count" "I"]
def wsX2_init : List Cond := .code yX2_init cX2_init 1 none :: ((wsX2_init_r1 ++ wsX2_init_r2) ++ wsX20 ++ wsX30 ++ wsX00)
def wsX2_start : List Cond := .code yX2_start cX2_start 3 none :: ([.fieldLink RX2 43 "PaintballAtlas$Round" "home" "I", .fieldLink RX2 46 "PaintballAtlas$Round" "away" "I", .fieldLink RX2 9 "PaintballAtlas$Round" "tick" "I", .methodLink RX2 39 yX2_reset, .instanceMethod yX2_reset, .selects RX2 yX2_reset yX2_reset, .initialized RX2, .code yX2_reset cX2_reset 3 none, .fieldLink RX2 15 "PaintballAtlas$Round" "cells" "[I", .fieldLink RX2 19 "PaintballAtlas$Round" "hits" "[I", .fieldLink RX2 22 "PaintballAtlas$Round" "lastShots" "[I", .fieldLink RX2 28 "PaintballAtlas$Round" "shots" "LPaintballAtlas$Shots;", .fieldLink RX2 49 "PaintballAtlas$Shots" "count" "I", .fieldLink RX2 35 "PaintballAtlas$Round" "calls" "LPaintballAtlas$Calls;", .fieldLink RX2 52 "PaintballAtlas$Calls" "count" "I"] ++ wsX20 ++ wsX30 ++ wsX00)
def wsX2_close : List Cond := .code yX2_close cX2_close 1 none :: ([.fieldLink RX2 9 "PaintballAtlas$Round" "tick" "I", .methodLink RX2 39 yX2_reset, .instanceMethod yX2_reset, .selects RX2 yX2_reset yX2_reset, .initialized RX2, .code yX2_reset cX2_reset 3 none, .fieldLink RX2 15 "PaintballAtlas$Round" "cells" "[I", .fieldLink RX2 19 "PaintballAtlas$Round" "hits" "[I", .fieldLink RX2 22 "PaintballAtlas$Round" "lastShots" "[I", .fieldLink RX2 28 "PaintballAtlas$Round" "shots" "LPaintballAtlas$Shots;", .fieldLink RX2 49 "PaintballAtlas$Shots" "count" "I", .fieldLink RX2 35 "PaintballAtlas$Round" "calls" "LPaintballAtlas$Calls;", .fieldLink RX2 52 "PaintballAtlas$Calls" "count" "I"] ++ wsX20 ++ wsX30 ++ wsX00)
def wsX2_isPlayed : List Cond := .code yX2_isPlayed cX2_isPlayed 1 (some .boolean) :: ([.fieldLink RX2 9 "PaintballAtlas$Round" "tick" "I"] ++ wsX20)
def wsX2_time : List Cond := .code yX2_time cX2_time 1 (some .int) :: ([.fieldLink RX2 9 "PaintballAtlas$Round" "tick" "I"] ++ wsX20)
def wsX2_homeTeam : List Cond := .code yX2_homeTeam cX2_homeTeam 1 (some .int) :: ([.fieldLink RX2 43 "PaintballAtlas$Round" "home" "I"] ++ wsX20)
def wsX2_awayTeam : List Cond := .code yX2_awayTeam cX2_awayTeam 1 (some .int) :: ([.fieldLink RX2 46 "PaintballAtlas$Round" "away" "I"] ++ wsX20)
def wsX2_cellOf : List Cond := .code yX2_cellOf cX2_cellOf 2 (some .int) :: ([.fieldLink RX2 15 "PaintballAtlas$Round" "cells" "[I"] ++ wsX20)
def wsX2_hitOf : List Cond := .code yX2_hitOf cX2_hitOf 2 (some .int) :: ([.fieldLink RX2 19 "PaintballAtlas$Round" "hits" "[I"] ++ wsX20)
def wsX2_playerOn : List Cond := .code yX2_playerOn cX2_playerOn 3 (some .int) :: ([.fieldLink RX2 15 "PaintballAtlas$Round" "cells" "[I"] ++ wsX20)
def wsX2_put : List Cond := .code yX2_put cX2_put 3 none :: ([.fieldLink RX2 15 "PaintballAtlas$Round" "cells" "[I"] ++ wsX20)
def wsX2_mayFire : List Cond := .code yX2_mayFire cX2_mayFire 2 (some .boolean) :: ([.fieldLink RX2 22 "PaintballAtlas$Round" "lastShots" "[I", .fieldLink RX2 9 "PaintballAtlas$Round" "tick" "I", .fieldLink RX2 28 "PaintballAtlas$Round" "shots" "LPaintballAtlas$Shots;", .fieldLink RX2 49 "PaintballAtlas$Shots" "count" "I"] ++ wsX20 ++ wsX30)
def wsX3_add : List Cond := .code yX3_add cX3_add 5 none :: ([.fieldLink RX3 9 "PaintballAtlas$Shots" "shooters" "[I", .fieldLink RX3 24 "PaintballAtlas$Shots" "count" "I", .fieldLink RX3 15 "PaintballAtlas$Shots" "origins" "[I", .fieldLink RX3 18 "PaintballAtlas$Shots" "targets" "[I", .fieldLink RX3 21 "PaintballAtlas$Shots" "arrivals" "[I"] ++ wsX30)
def wsX2_fire_r1 : List Cond := [Cond.fieldLink RX2 15 "PaintballAtlas$Round" "cells" "[I", Cond.fieldLink RX2 9 "PaintballAtlas$Round" "tick" "I", Cond.fieldLink RX2 22 "PaintballAtlas$Round" "lastShots" "[I", Cond.fieldLink RX2 28 "PaintballAtlas$Round" "shots" "LPaintballAtlas$Shots;", Cond.methodLink RX2 53 yX1_distance, Cond.static yX1_distance, Cond.initialized RX1, Cond.code yX1_distance cX1_distance 4 (some .int), Cond.methodLink RX1 15 Lib.Math.abs.name, Cond.static Lib.Math.abs.name, Cond.initialized "java/lang/Math", Cond.code Lib.Math.abs.name Lib.Math.abs.code 1 (some .int), Cond.methodLink RX1 21 Lib.Math.max.name, Cond.static Lib.Math.max.name, Cond.code Lib.Math.max.name Lib.Math.max.code 2 (some .int), Cond.methodLink RX2 59 yX3_add, Cond.instanceMethod yX3_add, Cond.selects RX3 yX3_add yX3_add, Cond.initialized RX3, Cond.code yX3_add cX3_add 5 none, Cond.fieldLink RX3 9 "PaintballAtlas$Shots" "shooters" "[I", Cond.fieldLink RX3 24 "PaintballAtlas$Shots" "count" "I", Cond.fieldLink RX3 15 "PaintballAtlas$Shots" "origins" "[I", Cond.fieldLink RX3 18 "PaintballAtlas$Shots" "targets" "[I"]
def wsX2_fire_r2 : List Cond := [Cond.fieldLink RX3 21 "PaintballAtlas$Shots" "arrivals" "[I"]
def wsX2_fire : List Cond := .code yX2_fire cX2_fire 5 (some .int) :: ((wsX2_fire_r1 ++ wsX2_fire_r2) ++ wsX20 ++ wsX30)
def wsX2_countFlying : List Cond := .code yX2_countFlying cX2_countFlying 3 (some .int) :: ([.fieldLink RX2 28 "PaintballAtlas$Round" "shots" "LPaintballAtlas$Shots;", .fieldLink RX2 49 "PaintballAtlas$Shots" "count" "I", .fieldLink RX2 63 "PaintballAtlas$Shots" "arrivals" "[I", .fieldLink RX2 9 "PaintballAtlas$Round" "tick" "I"] ++ wsX20 ++ wsX30)
def wsX2_strikes_r1 : List Cond := [Cond.fieldLink RX2 28 "PaintballAtlas$Round" "shots" "LPaintballAtlas$Shots;", Cond.fieldLink RX2 70 "PaintballAtlas$Shots" "targets" "[I", Cond.fieldLink RX2 77 "PaintballAtlas$Shots" "shooters" "[I", Cond.fieldLink RX2 80 "PaintballAtlas$Shots" "origins" "[I", Cond.fieldLink RX2 19 "PaintballAtlas$Round" "hits" "[I", Cond.fieldLink RX2 9 "PaintballAtlas$Round" "tick" "I", Cond.methodLink RX2 73 yX2_playerOn, Cond.instanceMethod yX2_playerOn, Cond.selects RX2 yX2_playerOn yX2_playerOn, Cond.initialized RX2, Cond.code yX2_playerOn cX2_playerOn 3 (some .int), Cond.fieldLink RX2 15 "PaintballAtlas$Round" "cells" "[I", Cond.methodLink RX2 83 yX1_hasSight, Cond.instanceMethod yX1_hasSight, Cond.selects RX1 yX1_hasSight yX1_hasSight, Cond.initialized RX1, Cond.code yX1_hasSight cX1_hasSight 10 (some .boolean), Cond.fieldLink RX1 9 "PaintballAtlas$Field" "bunkers" "[Z", Cond.methodLink RX1 29 Lib.Math.min.name, Cond.static Lib.Math.min.name, Cond.initialized "java/lang/Math", Cond.code Lib.Math.min.name Lib.Math.min.code 2 (some .int), Cond.methodLink RX1 21 Lib.Math.max.name, Cond.static Lib.Math.max.name]
def wsX2_strikes_r2 : List Cond := [Cond.code Lib.Math.max.name Lib.Math.max.code 2 (some .int), Cond.methodLink RX1 32 yX1_lineEnters, Cond.static yX1_lineEnters, Cond.code yX1_lineEnters cX1_lineEnters 8 (some .boolean), Cond.methodLink RX1 15 Lib.Math.abs.name, Cond.static Lib.Math.abs.name, Cond.code Lib.Math.abs.name Lib.Math.abs.code 1 (some .int)]
def wsX2_strikes : List Cond := .code yX2_strikes cX2_strikes 5 (some .boolean) :: ((wsX2_strikes_r1 ++ wsX2_strikes_r2) ++ wsX20 ++ wsX30 ++ wsX10)
def wsX2_nextTick_r1 : List Cond := [Cond.fieldLink RX2 9 "PaintballAtlas$Round" "tick" "I", Cond.fieldLink RX2 28 "PaintballAtlas$Round" "shots" "LPaintballAtlas$Shots;", Cond.fieldLink RX2 49 "PaintballAtlas$Shots" "count" "I", Cond.fieldLink RX2 63 "PaintballAtlas$Shots" "arrivals" "[I", Cond.methodLink RX2 66 yX2_strikes, Cond.instanceMethod yX2_strikes, Cond.selects RX2 yX2_strikes yX2_strikes, Cond.initialized RX2, Cond.code yX2_strikes cX2_strikes 5 (some .boolean), Cond.fieldLink RX2 70 "PaintballAtlas$Shots" "targets" "[I", Cond.fieldLink RX2 77 "PaintballAtlas$Shots" "shooters" "[I", Cond.fieldLink RX2 80 "PaintballAtlas$Shots" "origins" "[I", Cond.fieldLink RX2 19 "PaintballAtlas$Round" "hits" "[I", Cond.methodLink RX2 73 yX2_playerOn, Cond.instanceMethod yX2_playerOn, Cond.selects RX2 yX2_playerOn yX2_playerOn, Cond.code yX2_playerOn cX2_playerOn 3 (some .int), Cond.fieldLink RX2 15 "PaintballAtlas$Round" "cells" "[I", Cond.methodLink RX2 83 yX1_hasSight, Cond.instanceMethod yX1_hasSight, Cond.selects RX1 yX1_hasSight yX1_hasSight, Cond.initialized RX1, Cond.code yX1_hasSight cX1_hasSight 10 (some .boolean), Cond.fieldLink RX1 9 "PaintballAtlas$Field" "bunkers" "[Z"]
def wsX2_nextTick_r2 : List Cond := [Cond.methodLink RX1 29 Lib.Math.min.name, Cond.static Lib.Math.min.name, Cond.initialized "java/lang/Math", Cond.code Lib.Math.min.name Lib.Math.min.code 2 (some .int), Cond.methodLink RX1 21 Lib.Math.max.name, Cond.static Lib.Math.max.name, Cond.code Lib.Math.max.name Lib.Math.max.code 2 (some .int), Cond.methodLink RX1 32 yX1_lineEnters, Cond.static yX1_lineEnters, Cond.code yX1_lineEnters cX1_lineEnters 8 (some .boolean), Cond.methodLink RX1 15 Lib.Math.abs.name, Cond.static Lib.Math.abs.name, Cond.code Lib.Math.abs.name Lib.Math.abs.code 1 (some .int)]
def wsX2_nextTick : List Cond := .code yX2_nextTick cX2_nextTick 4 (some .int) :: ((wsX2_nextTick_r1 ++ wsX2_nextTick_r2) ++ wsX20 ++ wsX30 ++ wsX10)
def wsX2_mayCall : List Cond := .code yX2_mayCall cX2_mayCall 1 (some .boolean) :: ([.fieldLink RX2 35 "PaintballAtlas$Round" "calls" "LPaintballAtlas$Calls;", .fieldLink RX2 52 "PaintballAtlas$Calls" "count" "I"] ++ wsX20 ++ wsX00)
def wsX2_callOut : List Cond := .code yX2_callOut cX2_callOut 3 (some .int) :: ([.fieldLink RX2 35 "PaintballAtlas$Round" "calls" "LPaintballAtlas$Calls;", .fieldLink RX2 15 "PaintballAtlas$Round" "cells" "[I", .fieldLink RX2 9 "PaintballAtlas$Round" "tick" "I", .methodLink RX2 87 yX0_add, .instanceMethod yX0_add, .selects RX0 yX0_add yX0_add, .initialized RX0, .code yX0_add cX0_add 4 (some .int), .fieldLink RX0 9 "PaintballAtlas$Calls" "players" "[I", .fieldLink RX0 25 "PaintballAtlas$Calls" "count" "I", .fieldLink RX0 15 "PaintballAtlas$Calls" "cells" "[I", .fieldLink RX0 18 "PaintballAtlas$Calls" "ticks" "[I", .fieldLink RX0 21 "PaintballAtlas$Calls" "disputed" "[Z"] ++ wsX20 ++ wsX00)
def wsX2_hasCall : List Cond := .code yX2_hasCall cX2_hasCall 2 (some .boolean) :: ([.fieldLink RX2 35 "PaintballAtlas$Round" "calls" "LPaintballAtlas$Calls;", .fieldLink RX2 52 "PaintballAtlas$Calls" "count" "I"] ++ wsX20 ++ wsX00)
def wsX2_isDisputed : List Cond := .code yX2_isDisputed cX2_isDisputed 2 (some .boolean) :: ([.fieldLink RX2 35 "PaintballAtlas$Round" "calls" "LPaintballAtlas$Calls;", .fieldLink RX2 90 "PaintballAtlas$Calls" "disputed" "[Z"] ++ wsX20 ++ wsX00)
def wsX2_teamCalled : List Cond := .code yX2_teamCalled cX2_teamCalled 2 (some .int) :: ([.fieldLink RX2 35 "PaintballAtlas$Round" "calls" "LPaintballAtlas$Calls;", .fieldLink RX2 94 "PaintballAtlas$Calls" "players" "[I", .fieldLink RX2 43 "PaintballAtlas$Round" "home" "I", .fieldLink RX2 46 "PaintballAtlas$Round" "away" "I"] ++ wsX20 ++ wsX00)
def wsX2_judge : List Cond := .code yX2_judge cX2_judge 4 (some .boolean) :: ([.fieldLink RX2 35 "PaintballAtlas$Round" "calls" "LPaintballAtlas$Calls;", .fieldLink RX2 94 "PaintballAtlas$Calls" "players" "[I", .fieldLink RX2 90 "PaintballAtlas$Calls" "disputed" "[Z", .fieldLink RX2 19 "PaintballAtlas$Round" "hits" "[I", .fieldLink RX2 97 "PaintballAtlas$Calls" "ticks" "[I", .fieldLink RX2 100 "PaintballAtlas$Calls" "cells" "[I", .fieldLink RX2 15 "PaintballAtlas$Round" "cells" "[I", .methodLink RX2 73 yX2_playerOn, .instanceMethod yX2_playerOn, .selects RX2 yX2_playerOn yX2_playerOn, .initialized RX2, .code yX2_playerOn cX2_playerOn 3 (some .int)] ++ wsX20 ++ wsX00)
def wsX2_margin : List Cond := .code yX2_margin cX2_margin 3 (some .int) :: ([.fieldLink RX2 15 "PaintballAtlas$Round" "cells" "[I", .fieldLink RX2 19 "PaintballAtlas$Round" "hits" "[I"] ++ wsX20)
def wsX4_init : List Cond := .code yX4_init cX4_init 1 none :: ([.methodLink RX4 3 objectInit, .instanceMethod objectInit, .code objectInit ⟨#[0xb1]⟩ 1 none, .arrayClass .int, .fieldLink RX4 9 "PaintballAtlas$Table" "points" "[I", .fieldLink RX4 15 "PaintballAtlas$Table" "fines" "[I", .fieldLink RX4 18 "PaintballAtlas$Table" "differences" "[I", .classLink RX4 21 "[[I", .fieldLink RX4 23 "PaintballAtlas$Table" "wins" "[[I"] ++ wsX40)
def wsX4_pointsOf : List Cond := .code yX4_pointsOf cX4_pointsOf 2 (some .int) :: ([.fieldLink RX4 9 "PaintballAtlas$Table" "points" "[I"] ++ wsX40)
def wsX4_finesOf : List Cond := .code yX4_finesOf cX4_finesOf 2 (some .int) :: ([.fieldLink RX4 15 "PaintballAtlas$Table" "fines" "[I"] ++ wsX40)
def wsX4_differenceOf : List Cond := .code yX4_differenceOf cX4_differenceOf 2 (some .int) :: ([.fieldLink RX4 18 "PaintballAtlas$Table" "differences" "[I"] ++ wsX40)
def wsX4_fine : List Cond := .code yX4_fine cX4_fine 2 none :: ([.fieldLink RX4 15 "PaintballAtlas$Table" "fines" "[I"] ++ wsX40)
def wsX4_enterWin : List Cond := .code yX4_enterWin cX4_enterWin 3 none :: ([.fieldLink RX4 9 "PaintballAtlas$Table" "points" "[I", .fieldLink RX4 23 "PaintballAtlas$Table" "wins" "[[I"] ++ wsX40)
def wsX4_takePenalties : List Cond := .code yX4_takePenalties cX4_takePenalties 2 none :: ([.fieldLink RX4 15 "PaintballAtlas$Table" "fines" "[I", .fieldLink RX4 9 "PaintballAtlas$Table" "points" "[I"] ++ wsX40)
def wsX4_enter : List Cond := .code yX4_enter cX4_enter 4 none :: ([.fieldLink RX4 18 "PaintballAtlas$Table" "differences" "[I", .fieldLink RX4 9 "PaintballAtlas$Table" "points" "[I", .methodLink RX4 26 yX4_enterWin, .instanceMethod yX4_enterWin, .selects RX4 yX4_enterWin yX4_enterWin, .initialized RX4, .code yX4_enterWin cX4_enterWin 3 none, .fieldLink RX4 23 "PaintballAtlas$Table" "wins" "[[I", .methodLink RX4 30 yX4_takePenalties, .instanceMethod yX4_takePenalties, .selects RX4 yX4_takePenalties yX4_takePenalties, .code yX4_takePenalties cX4_takePenalties 2 none, .fieldLink RX4 15 "PaintballAtlas$Table" "fines" "[I"] ++ wsX40)
def wsX4_isAhead : List Cond := .code yX4_isAhead cX4_isAhead 3 (some .boolean) :: ([.fieldLink RX4 9 "PaintballAtlas$Table" "points" "[I", .fieldLink RX4 23 "PaintballAtlas$Table" "wins" "[[I", .fieldLink RX4 18 "PaintballAtlas$Table" "differences" "[I"] ++ wsX40)
def wsX4_placeOf : List Cond := .code yX4_placeOf cX4_placeOf 4 (some .int) :: ([.methodLink RX4 33 yX4_isAhead, .instanceMethod yX4_isAhead, .selects RX4 yX4_isAhead yX4_isAhead, .initialized RX4, .code yX4_isAhead cX4_isAhead 3 (some .boolean), .fieldLink RX4 9 "PaintballAtlas$Table" "points" "[I", .fieldLink RX4 23 "PaintballAtlas$Table" "wins" "[[I", .fieldLink RX4 18 "PaintballAtlas$Table" "differences" "[I"] ++ wsX40)
def wsX5_init_r1 : List Cond := [Cond.methodLink RX5 3 objectInit, Cond.instanceMethod objectInit, Cond.code objectInit ⟨#[0xb1]⟩ 1 none, Cond.classLink RX5 9 RX1, Cond.instantiable RX1 1, Cond.initialized RX1, Cond.fieldLink RX5 12 "PaintballAtlas" "field" "LPaintballAtlas$Field;", Cond.classLink RX5 16 RX2, Cond.instantiable RX2 8, Cond.initialized RX2, Cond.fieldLink RX5 19 "PaintballAtlas" "round" "LPaintballAtlas$Round;", Cond.classLink RX5 23 RX4, Cond.instantiable RX4 4, Cond.initialized RX4, Cond.fieldLink RX5 26 "PaintballAtlas" "table" "LPaintballAtlas$Table;", Cond.arrayClass .int, Cond.fieldLink RX5 30 "PaintballAtlas" "refereeCells" "[I", Cond.instanceMethod yX1_init, Cond.code yX1_init cX1_init 1 none, Cond.methodLink RX1 3 objectInit, Cond.arrayClass .boolean, Cond.fieldLink RX1 9 "PaintballAtlas$Field" "bunkers" "[Z", Cond.methodLink RX5 18 yX2_init, Cond.instanceMethod yX2_init]
def wsX5_init_r2 : List Cond := [Cond.code yX2_init cX2_init 1 none, Cond.methodLink RX2 3 objectInit, Cond.fieldLink RX2 9 "PaintballAtlas$Round" "tick" "I", Cond.fieldLink RX2 15 "PaintballAtlas$Round" "cells" "[I", Cond.fieldLink RX2 19 "PaintballAtlas$Round" "hits" "[I", Cond.fieldLink RX2 22 "PaintballAtlas$Round" "lastShots" "[I", Cond.classLink RX2 25 RX3, Cond.instantiable RX3 5, Cond.initialized RX3, Cond.fieldLink RX2 28 "PaintballAtlas$Round" "shots" "LPaintballAtlas$Shots;", Cond.classLink RX2 32 RX0, Cond.instantiable RX0 5, Cond.initialized RX0, Cond.fieldLink RX2 35 "PaintballAtlas$Round" "calls" "LPaintballAtlas$Calls;", Cond.instanceMethod yX3_init, Cond.code yX3_init cX3_init 1 none, Cond.methodLink RX3 3 objectInit, Cond.fieldLink RX3 9 "PaintballAtlas$Shots" "shooters" "[I", Cond.fieldLink RX3 15 "PaintballAtlas$Shots" "origins" "[I", Cond.fieldLink RX3 18 "PaintballAtlas$Shots" "targets" "[I", Cond.fieldLink RX3 21 "PaintballAtlas$Shots" "arrivals" "[I", Cond.instanceMethod yX0_init, Cond.code yX0_init cX0_init 1 none, Cond.methodLink RX0 3 objectInit]
def wsX5_init_r3 : List Cond := [Cond.fieldLink RX0 9 "PaintballAtlas$Calls" "players" "[I", Cond.fieldLink RX0 15 "PaintballAtlas$Calls" "cells" "[I", Cond.fieldLink RX0 18 "PaintballAtlas$Calls" "ticks" "[I", Cond.fieldLink RX0 21 "PaintballAtlas$Calls" "disputed" "[Z", Cond.methodLink RX2 39 yX2_reset, Cond.instanceMethod yX2_reset, Cond.selects RX2 yX2_reset yX2_reset, Cond.code yX2_reset cX2_reset 3 none, Cond.fieldLink RX2 49 "PaintballAtlas$Shots" "count" "I", Cond.fieldLink RX2 52 "PaintballAtlas$Calls" "count" "I", Cond.instanceMethod yX4_init, Cond.code yX4_init cX4_init 1 none, Cond.methodLink RX4 3 objectInit, Cond.fieldLink RX4 9 "PaintballAtlas$Table" "points" "[I", Cond.fieldLink RX4 15 "PaintballAtlas$Table" "fines" "[I", Cond.fieldLink RX4 18 "PaintballAtlas$Table" "differences" "[I", Cond.classLink RX4 21 "[[I", Cond.fieldLink RX4 23 "PaintballAtlas$Table" "wins" "[[I"]
def wsX5_init : List Cond := .code yX5_init cX5_init 1 none :: ((wsX5_init_r1 ++ (wsX5_init_r2 ++ wsX5_init_r3)) ++ wsX10 ++ wsX50 ++ wsX20 ++ wsX40 ++ wsX30 ++ wsX00)
def wsX5_checkCell : List Cond := .code yX5_checkCell cX5_checkCell 1 none :: ([.classLink RX5 135 "java/lang/IndexOutOfBoundsException", .initialized "java/lang/IndexOutOfBoundsException"] ++ (vx_atS RX5 139 "java/lang/IndexOutOfBoundsException" ["java/lang/RuntimeException", "java/lang/Exception"]).filter goodWord)
def wsX5_toggleBunker : List Cond := .code yX5_toggleBunker cX5_toggleBunker 2 (some .boolean) :: ([.classLink RX5 42 "java/lang/IllegalStateException", .initialized "java/lang/IllegalStateException", .fieldLink RX5 19 "PaintballAtlas" "round" "LPaintballAtlas$Round;", .fieldLink RX5 12 "PaintballAtlas" "field" "LPaintballAtlas$Field;", .methodLink RX5 34 yX5_checkCell, .static yX5_checkCell, .initialized RX5, .code yX5_checkCell cX5_checkCell 1 none, .classLink RX5 135 "java/lang/IndexOutOfBoundsException", .initialized "java/lang/IndexOutOfBoundsException", .methodLink RX5 38 yX2_isPlayed, .instanceMethod yX2_isPlayed, .selects RX2 yX2_isPlayed yX2_isPlayed, .initialized RX2, .code yX2_isPlayed cX2_isPlayed 1 (some .boolean), .fieldLink RX2 9 "PaintballAtlas$Round" "tick" "I", .methodLink RX5 49 yX1_turnBunker, .instanceMethod yX1_turnBunker, .selects RX1 yX1_turnBunker yX1_turnBunker, .initialized RX1, .code yX1_turnBunker cX1_turnBunker 2 (some .boolean), .fieldLink RX1 9 "PaintballAtlas$Field" "bunkers" "[Z"] ++ wsX50 ++ wsX20 ++ wsX10 ++ (vx_atS RX5 46 "java/lang/IllegalStateException" ["java/lang/RuntimeException", "java/lang/Exception"]).filter goodWord ++ (vx_atS RX5 139 "java/lang/IndexOutOfBoundsException" ["java/lang/RuntimeException", "java/lang/Exception"]).filter goodWord)
def wsX5_sees_r1 : List Cond := [Cond.fieldLink RX5 12 "PaintballAtlas" "field" "LPaintballAtlas$Field;", Cond.methodLink RX5 34 yX5_checkCell, Cond.static yX5_checkCell, Cond.initialized RX5, Cond.code yX5_checkCell cX5_checkCell 1 none, Cond.classLink RX5 135 "java/lang/IndexOutOfBoundsException", Cond.initialized "java/lang/IndexOutOfBoundsException", Cond.methodLink RX5 53 yX1_hasSight, Cond.instanceMethod yX1_hasSight, Cond.selects RX1 yX1_hasSight yX1_hasSight, Cond.initialized RX1, Cond.code yX1_hasSight cX1_hasSight 10 (some .boolean), Cond.fieldLink RX1 9 "PaintballAtlas$Field" "bunkers" "[Z", Cond.methodLink RX1 29 Lib.Math.min.name, Cond.static Lib.Math.min.name, Cond.initialized "java/lang/Math", Cond.code Lib.Math.min.name Lib.Math.min.code 2 (some .int), Cond.methodLink RX1 21 Lib.Math.max.name, Cond.static Lib.Math.max.name, Cond.code Lib.Math.max.name Lib.Math.max.code 2 (some .int), Cond.methodLink RX1 32 yX1_lineEnters, Cond.static yX1_lineEnters, Cond.code yX1_lineEnters cX1_lineEnters 8 (some .boolean), Cond.methodLink RX1 15 Lib.Math.abs.name]
def wsX5_sees_r2 : List Cond := [Cond.static Lib.Math.abs.name, Cond.code Lib.Math.abs.name Lib.Math.abs.code 1 (some .int)]
def wsX5_sees : List Cond := .code yX5_sees cX5_sees 3 (some .boolean) :: ((wsX5_sees_r1 ++ wsX5_sees_r2) ++ wsX50 ++ wsX10 ++ (vx_atS RX5 139 "java/lang/IndexOutOfBoundsException" ["java/lang/RuntimeException", "java/lang/Exception"]).filter goodWord)
def wsX5_view_r1 : List Cond := [Cond.fieldLink RX5 12 "PaintballAtlas" "field" "LPaintballAtlas$Field;", Cond.methodLink RX5 34 yX5_checkCell, Cond.static yX5_checkCell, Cond.initialized RX5, Cond.code yX5_checkCell cX5_checkCell 1 none, Cond.classLink RX5 135 "java/lang/IndexOutOfBoundsException", Cond.initialized "java/lang/IndexOutOfBoundsException", Cond.methodLink RX5 57 yX1_countSeen, Cond.instanceMethod yX1_countSeen, Cond.selects RX1 yX1_countSeen yX1_countSeen, Cond.initialized RX1, Cond.code yX1_countSeen cX1_countSeen 4 (some .int), Cond.methodLink RX1 25 yX1_hasSight, Cond.instanceMethod yX1_hasSight, Cond.selects RX1 yX1_hasSight yX1_hasSight, Cond.code yX1_hasSight cX1_hasSight 10 (some .boolean), Cond.fieldLink RX1 9 "PaintballAtlas$Field" "bunkers" "[Z", Cond.methodLink RX1 29 Lib.Math.min.name, Cond.static Lib.Math.min.name, Cond.initialized "java/lang/Math", Cond.code Lib.Math.min.name Lib.Math.min.code 2 (some .int), Cond.methodLink RX1 21 Lib.Math.max.name, Cond.static Lib.Math.max.name, Cond.code Lib.Math.max.name Lib.Math.max.code 2 (some .int)]
def wsX5_view_r2 : List Cond := [Cond.methodLink RX1 32 yX1_lineEnters, Cond.static yX1_lineEnters, Cond.code yX1_lineEnters cX1_lineEnters 8 (some .boolean), Cond.methodLink RX1 15 Lib.Math.abs.name, Cond.static Lib.Math.abs.name, Cond.code Lib.Math.abs.name Lib.Math.abs.code 1 (some .int)]
def wsX5_view : List Cond := .code yX5_view cX5_view 2 (some .int) :: ((wsX5_view_r1 ++ wsX5_view_r2) ++ wsX50 ++ wsX10 ++ (vx_atS RX5 139 "java/lang/IndexOutOfBoundsException" ["java/lang/RuntimeException", "java/lang/Exception"]).filter goodWord)
def wsX5_checkReferee : List Cond := .code yX5_checkReferee cX5_checkReferee 1 none :: ([.classLink RX5 135 "java/lang/IndexOutOfBoundsException", .initialized "java/lang/IndexOutOfBoundsException"] ++ (vx_atS RX5 139 "java/lang/IndexOutOfBoundsException" ["java/lang/RuntimeException", "java/lang/Exception"]).filter goodWord)
def wsX5_setReferee : List Cond := .code yX5_setReferee cX5_setReferee 4 (some .int) :: ([.fieldLink RX5 30 "PaintballAtlas" "refereeCells" "[I", .methodLink RX5 61 yX5_checkReferee, .static yX5_checkReferee, .initialized RX5, .code yX5_checkReferee cX5_checkReferee 1 none, .classLink RX5 135 "java/lang/IndexOutOfBoundsException", .initialized "java/lang/IndexOutOfBoundsException", .methodLink RX5 34 yX5_checkCell, .static yX5_checkCell, .code yX5_checkCell cX5_checkCell 1 none] ++ wsX50 ++ (vx_atS RX5 139 "java/lang/IndexOutOfBoundsException" ["java/lang/RuntimeException", "java/lang/Exception"]).filter goodWord)
def wsX5_checkTeam : List Cond := .code yX5_checkTeam cX5_checkTeam 1 none :: ([.classLink RX5 135 "java/lang/IndexOutOfBoundsException", .initialized "java/lang/IndexOutOfBoundsException"] ++ (vx_atS RX5 139 "java/lang/IndexOutOfBoundsException" ["java/lang/RuntimeException", "java/lang/Exception"]).filter goodWord)
def wsX5_begin_r1 : List Cond := [Cond.classLink RX5 67 "java/lang/IllegalArgumentException", Cond.initialized "java/lang/IllegalArgumentException", Cond.classLink RX5 42 "java/lang/IllegalStateException", Cond.initialized "java/lang/IllegalStateException", Cond.fieldLink RX5 19 "PaintballAtlas" "round" "LPaintballAtlas$Round;", Cond.methodLink RX5 64 yX5_checkTeam, Cond.static yX5_checkTeam, Cond.initialized RX5, Cond.code yX5_checkTeam cX5_checkTeam 1 none, Cond.classLink RX5 135 "java/lang/IndexOutOfBoundsException", Cond.initialized "java/lang/IndexOutOfBoundsException", Cond.methodLink RX5 38 yX2_isPlayed, Cond.instanceMethod yX2_isPlayed, Cond.selects RX2 yX2_isPlayed yX2_isPlayed, Cond.initialized RX2, Cond.code yX2_isPlayed cX2_isPlayed 1 (some .boolean), Cond.fieldLink RX2 9 "PaintballAtlas$Round" "tick" "I", Cond.methodLink RX5 72 yX2_start, Cond.instanceMethod yX2_start, Cond.selects RX2 yX2_start yX2_start, Cond.code yX2_start cX2_start 3 none, Cond.fieldLink RX2 43 "PaintballAtlas$Round" "home" "I", Cond.fieldLink RX2 46 "PaintballAtlas$Round" "away" "I", Cond.methodLink RX2 39 yX2_reset]
def wsX5_begin_r2 : List Cond := [Cond.instanceMethod yX2_reset, Cond.selects RX2 yX2_reset yX2_reset, Cond.code yX2_reset cX2_reset 3 none, Cond.fieldLink RX2 15 "PaintballAtlas$Round" "cells" "[I", Cond.fieldLink RX2 19 "PaintballAtlas$Round" "hits" "[I", Cond.fieldLink RX2 22 "PaintballAtlas$Round" "lastShots" "[I", Cond.fieldLink RX2 28 "PaintballAtlas$Round" "shots" "LPaintballAtlas$Shots;", Cond.fieldLink RX2 49 "PaintballAtlas$Shots" "count" "I", Cond.fieldLink RX2 35 "PaintballAtlas$Round" "calls" "LPaintballAtlas$Calls;", Cond.fieldLink RX2 52 "PaintballAtlas$Calls" "count" "I"]
def wsX5_begin : List Cond := .code yX5_begin cX5_begin 3 none :: ((wsX5_begin_r1 ++ wsX5_begin_r2) ++ wsX50 ++ wsX20 ++ wsX30 ++ wsX00 ++ (vx_atS RX5 71 "java/lang/IllegalArgumentException" ["java/lang/RuntimeException", "java/lang/Exception"]).filter goodWord ++ (vx_atS RX5 46 "java/lang/IllegalStateException" ["java/lang/RuntimeException", "java/lang/Exception"]).filter goodWord ++ (vx_atS RX5 139 "java/lang/IndexOutOfBoundsException" ["java/lang/RuntimeException", "java/lang/Exception"]).filter goodWord)
def wsX5_checkPlayer : List Cond := .code yX5_checkPlayer cX5_checkPlayer 1 none :: ([.classLink RX5 135 "java/lang/IndexOutOfBoundsException", .initialized "java/lang/IndexOutOfBoundsException"] ++ (vx_atS RX5 139 "java/lang/IndexOutOfBoundsException" ["java/lang/RuntimeException", "java/lang/Exception"]).filter goodWord)
def wsX5_checkRound : List Cond := .code yX5_checkRound cX5_checkRound 1 none :: ([.classLink RX5 42 "java/lang/IllegalStateException", .initialized "java/lang/IllegalStateException", .fieldLink RX5 19 "PaintballAtlas" "round" "LPaintballAtlas$Round;", .methodLink RX5 38 yX2_isPlayed, .instanceMethod yX2_isPlayed, .selects RX2 yX2_isPlayed yX2_isPlayed, .initialized RX2, .code yX2_isPlayed cX2_isPlayed 1 (some .boolean), .fieldLink RX2 9 "PaintballAtlas$Round" "tick" "I"] ++ wsX50 ++ wsX20 ++ (vx_atS RX5 46 "java/lang/IllegalStateException" ["java/lang/RuntimeException", "java/lang/Exception"]).filter goodWord)
def wsX5_move_r1 : List Cond := [Cond.classLink RX5 42 "java/lang/IllegalStateException", Cond.initialized "java/lang/IllegalStateException", Cond.fieldLink RX5 19 "PaintballAtlas" "round" "LPaintballAtlas$Round;", Cond.fieldLink RX5 12 "PaintballAtlas" "field" "LPaintballAtlas$Field;", Cond.methodLink RX5 76 yX5_checkPlayer, Cond.static yX5_checkPlayer, Cond.initialized RX5, Cond.code yX5_checkPlayer cX5_checkPlayer 1 none, Cond.classLink RX5 135 "java/lang/IndexOutOfBoundsException", Cond.initialized "java/lang/IndexOutOfBoundsException", Cond.methodLink RX5 34 yX5_checkCell, Cond.static yX5_checkCell, Cond.code yX5_checkCell cX5_checkCell 1 none, Cond.methodLink RX5 79 yX5_checkRound, Cond.instanceMethod yX5_checkRound, Cond.selects RX5 yX5_checkRound yX5_checkRound, Cond.code yX5_checkRound cX5_checkRound 1 none, Cond.methodLink RX5 38 yX2_isPlayed, Cond.instanceMethod yX2_isPlayed, Cond.selects RX2 yX2_isPlayed yX2_isPlayed, Cond.initialized RX2, Cond.code yX2_isPlayed cX2_isPlayed 1 (some .boolean), Cond.fieldLink RX2 9 "PaintballAtlas$Round" "tick" "I", Cond.methodLink RX5 82 yX2_cellOf]
def wsX5_move_r2 : List Cond := [Cond.instanceMethod yX2_cellOf, Cond.selects RX2 yX2_cellOf yX2_cellOf, Cond.code yX2_cellOf cX2_cellOf 2 (some .int), Cond.fieldLink RX2 15 "PaintballAtlas$Round" "cells" "[I", Cond.methodLink RX5 87 yX1_distance, Cond.static yX1_distance, Cond.initialized RX1, Cond.code yX1_distance cX1_distance 4 (some .int), Cond.methodLink RX1 15 Lib.Math.abs.name, Cond.static Lib.Math.abs.name, Cond.initialized "java/lang/Math", Cond.code Lib.Math.abs.name Lib.Math.abs.code 1 (some .int), Cond.methodLink RX1 21 Lib.Math.max.name, Cond.static Lib.Math.max.name, Cond.code Lib.Math.max.name Lib.Math.max.code 2 (some .int), Cond.methodLink RX5 93 yX1_hasBunker, Cond.instanceMethod yX1_hasBunker, Cond.selects RX1 yX1_hasBunker yX1_hasBunker, Cond.code yX1_hasBunker cX1_hasBunker 2 (some .boolean), Cond.fieldLink RX1 9 "PaintballAtlas$Field" "bunkers" "[Z", Cond.methodLink RX5 96 yX2_playerOn, Cond.instanceMethod yX2_playerOn, Cond.selects RX2 yX2_playerOn yX2_playerOn, Cond.code yX2_playerOn cX2_playerOn 3 (some .int)]
def wsX5_move_r3 : List Cond := [Cond.methodLink RX5 101 yX2_put, Cond.instanceMethod yX2_put, Cond.selects RX2 yX2_put yX2_put, Cond.code yX2_put cX2_put 3 none]
def wsX5_move : List Cond := .code yX5_move cX5_move 4 (some .int) :: ((wsX5_move_r1 ++ (wsX5_move_r2 ++ wsX5_move_r3)) ++ wsX50 ++ wsX20 ++ wsX10 ++ (vx_atS RX5 46 "java/lang/IllegalStateException" ["java/lang/RuntimeException", "java/lang/Exception"]).filter goodWord ++ (vx_atS RX5 139 "java/lang/IndexOutOfBoundsException" ["java/lang/RuntimeException", "java/lang/Exception"]).filter goodWord)
def wsX5_shoot_r1 : List Cond := [Cond.classLink RX5 42 "java/lang/IllegalStateException", Cond.initialized "java/lang/IllegalStateException", Cond.fieldLink RX5 19 "PaintballAtlas" "round" "LPaintballAtlas$Round;", Cond.methodLink RX5 76 yX5_checkPlayer, Cond.static yX5_checkPlayer, Cond.initialized RX5, Cond.code yX5_checkPlayer cX5_checkPlayer 1 none, Cond.classLink RX5 135 "java/lang/IndexOutOfBoundsException", Cond.initialized "java/lang/IndexOutOfBoundsException", Cond.methodLink RX5 34 yX5_checkCell, Cond.static yX5_checkCell, Cond.code yX5_checkCell cX5_checkCell 1 none, Cond.methodLink RX5 79 yX5_checkRound, Cond.instanceMethod yX5_checkRound, Cond.selects RX5 yX5_checkRound yX5_checkRound, Cond.code yX5_checkRound cX5_checkRound 1 none, Cond.methodLink RX5 38 yX2_isPlayed, Cond.instanceMethod yX2_isPlayed, Cond.selects RX2 yX2_isPlayed yX2_isPlayed, Cond.initialized RX2, Cond.code yX2_isPlayed cX2_isPlayed 1 (some .boolean), Cond.fieldLink RX2 9 "PaintballAtlas$Round" "tick" "I", Cond.methodLink RX5 82 yX2_cellOf, Cond.instanceMethod yX2_cellOf]
def wsX5_shoot_r2 : List Cond := [Cond.selects RX2 yX2_cellOf yX2_cellOf, Cond.code yX2_cellOf cX2_cellOf 2 (some .int), Cond.fieldLink RX2 15 "PaintballAtlas$Round" "cells" "[I", Cond.methodLink RX5 108 yX2_mayFire, Cond.instanceMethod yX2_mayFire, Cond.selects RX2 yX2_mayFire yX2_mayFire, Cond.code yX2_mayFire cX2_mayFire 2 (some .boolean), Cond.fieldLink RX2 22 "PaintballAtlas$Round" "lastShots" "[I", Cond.fieldLink RX2 28 "PaintballAtlas$Round" "shots" "LPaintballAtlas$Shots;", Cond.fieldLink RX2 49 "PaintballAtlas$Shots" "count" "I", Cond.methodLink RX5 113 yX2_fire, Cond.instanceMethod yX2_fire, Cond.selects RX2 yX2_fire yX2_fire, Cond.code yX2_fire cX2_fire 5 (some .int), Cond.methodLink RX2 53 yX1_distance, Cond.static yX1_distance, Cond.initialized RX1, Cond.code yX1_distance cX1_distance 4 (some .int), Cond.methodLink RX1 15 Lib.Math.abs.name, Cond.static Lib.Math.abs.name, Cond.initialized "java/lang/Math", Cond.code Lib.Math.abs.name Lib.Math.abs.code 1 (some .int), Cond.methodLink RX1 21 Lib.Math.max.name, Cond.static Lib.Math.max.name]
def wsX5_shoot_r3 : List Cond := [Cond.code Lib.Math.max.name Lib.Math.max.code 2 (some .int), Cond.methodLink RX2 59 yX3_add, Cond.instanceMethod yX3_add, Cond.selects RX3 yX3_add yX3_add, Cond.initialized RX3, Cond.code yX3_add cX3_add 5 none, Cond.fieldLink RX3 9 "PaintballAtlas$Shots" "shooters" "[I", Cond.fieldLink RX3 24 "PaintballAtlas$Shots" "count" "I", Cond.fieldLink RX3 15 "PaintballAtlas$Shots" "origins" "[I", Cond.fieldLink RX3 18 "PaintballAtlas$Shots" "targets" "[I", Cond.fieldLink RX3 21 "PaintballAtlas$Shots" "arrivals" "[I"]
def wsX5_shoot : List Cond := .code yX5_shoot cX5_shoot 4 (some .int) :: ((wsX5_shoot_r1 ++ (wsX5_shoot_r2 ++ wsX5_shoot_r3)) ++ wsX50 ++ wsX20 ++ wsX30 ++ (vx_atS RX5 46 "java/lang/IllegalStateException" ["java/lang/RuntimeException", "java/lang/Exception"]).filter goodWord ++ (vx_atS RX5 139 "java/lang/IndexOutOfBoundsException" ["java/lang/RuntimeException", "java/lang/Exception"]).filter goodWord)
def wsX5_pass_r1 : List Cond := [Cond.classLink RX5 67 "java/lang/IllegalArgumentException", Cond.initialized "java/lang/IllegalArgumentException", Cond.fieldLink RX5 19 "PaintballAtlas" "round" "LPaintballAtlas$Round;", Cond.fieldLink RX5 12 "PaintballAtlas" "field" "LPaintballAtlas$Field;", Cond.methodLink RX5 79 yX5_checkRound, Cond.instanceMethod yX5_checkRound, Cond.selects RX5 yX5_checkRound yX5_checkRound, Cond.initialized RX5, Cond.code yX5_checkRound cX5_checkRound 1 none, Cond.classLink RX5 42 "java/lang/IllegalStateException", Cond.initialized "java/lang/IllegalStateException", Cond.methodLink RX5 38 yX2_isPlayed, Cond.instanceMethod yX2_isPlayed, Cond.selects RX2 yX2_isPlayed yX2_isPlayed, Cond.initialized RX2, Cond.code yX2_isPlayed cX2_isPlayed 1 (some .boolean), Cond.fieldLink RX2 9 "PaintballAtlas$Round" "tick" "I", Cond.methodLink RX5 118 yX2_nextTick, Cond.instanceMethod yX2_nextTick, Cond.selects RX2 yX2_nextTick yX2_nextTick, Cond.code yX2_nextTick cX2_nextTick 4 (some .int), Cond.fieldLink RX2 28 "PaintballAtlas$Round" "shots" "LPaintballAtlas$Shots;", Cond.fieldLink RX2 49 "PaintballAtlas$Shots" "count" "I", Cond.fieldLink RX2 63 "PaintballAtlas$Shots" "arrivals" "[I"]
def wsX5_pass_r2 : List Cond := [Cond.methodLink RX2 66 yX2_strikes, Cond.instanceMethod yX2_strikes, Cond.selects RX2 yX2_strikes yX2_strikes, Cond.code yX2_strikes cX2_strikes 5 (some .boolean), Cond.fieldLink RX2 70 "PaintballAtlas$Shots" "targets" "[I", Cond.fieldLink RX2 77 "PaintballAtlas$Shots" "shooters" "[I", Cond.fieldLink RX2 80 "PaintballAtlas$Shots" "origins" "[I", Cond.fieldLink RX2 19 "PaintballAtlas$Round" "hits" "[I", Cond.methodLink RX2 73 yX2_playerOn, Cond.instanceMethod yX2_playerOn, Cond.selects RX2 yX2_playerOn yX2_playerOn, Cond.code yX2_playerOn cX2_playerOn 3 (some .int), Cond.fieldLink RX2 15 "PaintballAtlas$Round" "cells" "[I", Cond.methodLink RX2 83 yX1_hasSight, Cond.instanceMethod yX1_hasSight, Cond.selects RX1 yX1_hasSight yX1_hasSight, Cond.initialized RX1, Cond.code yX1_hasSight cX1_hasSight 10 (some .boolean), Cond.fieldLink RX1 9 "PaintballAtlas$Field" "bunkers" "[Z", Cond.methodLink RX1 29 Lib.Math.min.name, Cond.static Lib.Math.min.name, Cond.initialized "java/lang/Math", Cond.code Lib.Math.min.name Lib.Math.min.code 2 (some .int), Cond.methodLink RX1 21 Lib.Math.max.name]
def wsX5_pass_r3 : List Cond := [Cond.static Lib.Math.max.name, Cond.code Lib.Math.max.name Lib.Math.max.code 2 (some .int), Cond.methodLink RX1 32 yX1_lineEnters, Cond.static yX1_lineEnters, Cond.code yX1_lineEnters cX1_lineEnters 8 (some .boolean), Cond.methodLink RX1 15 Lib.Math.abs.name, Cond.static Lib.Math.abs.name, Cond.code Lib.Math.abs.name Lib.Math.abs.code 1 (some .int)]
def wsX5_pass : List Cond := .code yX5_pass cX5_pass 4 (some .int) :: ((wsX5_pass_r1 ++ (wsX5_pass_r2 ++ wsX5_pass_r3)) ++ wsX50 ++ wsX20 ++ wsX30 ++ wsX10 ++ (vx_atS RX5 71 "java/lang/IllegalArgumentException" ["java/lang/RuntimeException", "java/lang/Exception"]).filter goodWord ++ (vx_atS RX5 46 "java/lang/IllegalStateException" ["java/lang/RuntimeException", "java/lang/Exception"]).filter goodWord)
def wsX5_call_r1 : List Cond := [Cond.classLink RX5 42 "java/lang/IllegalStateException", Cond.initialized "java/lang/IllegalStateException", Cond.fieldLink RX5 19 "PaintballAtlas" "round" "LPaintballAtlas$Round;", Cond.fieldLink RX5 12 "PaintballAtlas" "field" "LPaintballAtlas$Field;", Cond.fieldLink RX5 30 "PaintballAtlas" "refereeCells" "[I", Cond.methodLink RX5 61 yX5_checkReferee, Cond.static yX5_checkReferee, Cond.initialized RX5, Cond.code yX5_checkReferee cX5_checkReferee 1 none, Cond.classLink RX5 135 "java/lang/IndexOutOfBoundsException", Cond.initialized "java/lang/IndexOutOfBoundsException", Cond.methodLink RX5 76 yX5_checkPlayer, Cond.static yX5_checkPlayer, Cond.code yX5_checkPlayer cX5_checkPlayer 1 none, Cond.methodLink RX5 79 yX5_checkRound, Cond.instanceMethod yX5_checkRound, Cond.selects RX5 yX5_checkRound yX5_checkRound, Cond.code yX5_checkRound cX5_checkRound 1 none, Cond.methodLink RX5 38 yX2_isPlayed, Cond.instanceMethod yX2_isPlayed, Cond.selects RX2 yX2_isPlayed yX2_isPlayed, Cond.initialized RX2, Cond.code yX2_isPlayed cX2_isPlayed 1 (some .boolean), Cond.fieldLink RX2 9 "PaintballAtlas$Round" "tick" "I"]
def wsX5_call_r2 : List Cond := [Cond.methodLink RX5 82 yX2_cellOf, Cond.instanceMethod yX2_cellOf, Cond.selects RX2 yX2_cellOf yX2_cellOf, Cond.code yX2_cellOf cX2_cellOf 2 (some .int), Cond.fieldLink RX2 15 "PaintballAtlas$Round" "cells" "[I", Cond.methodLink RX5 53 yX1_hasSight, Cond.instanceMethod yX1_hasSight, Cond.selects RX1 yX1_hasSight yX1_hasSight, Cond.initialized RX1, Cond.code yX1_hasSight cX1_hasSight 10 (some .boolean), Cond.fieldLink RX1 9 "PaintballAtlas$Field" "bunkers" "[Z", Cond.methodLink RX1 29 Lib.Math.min.name, Cond.static Lib.Math.min.name, Cond.initialized "java/lang/Math", Cond.code Lib.Math.min.name Lib.Math.min.code 2 (some .int), Cond.methodLink RX1 21 Lib.Math.max.name, Cond.static Lib.Math.max.name, Cond.code Lib.Math.max.name Lib.Math.max.code 2 (some .int), Cond.methodLink RX1 32 yX1_lineEnters, Cond.static yX1_lineEnters, Cond.code yX1_lineEnters cX1_lineEnters 8 (some .boolean), Cond.methodLink RX1 15 Lib.Math.abs.name, Cond.static Lib.Math.abs.name, Cond.code Lib.Math.abs.name Lib.Math.abs.code 1 (some .int)]
def wsX5_call_r3 : List Cond := [Cond.methodLink RX5 124 yX2_mayCall, Cond.instanceMethod yX2_mayCall, Cond.selects RX2 yX2_mayCall yX2_mayCall, Cond.code yX2_mayCall cX2_mayCall 1 (some .boolean), Cond.fieldLink RX2 35 "PaintballAtlas$Round" "calls" "LPaintballAtlas$Calls;", Cond.fieldLink RX2 52 "PaintballAtlas$Calls" "count" "I", Cond.methodLink RX5 129 yX2_callOut, Cond.instanceMethod yX2_callOut, Cond.selects RX2 yX2_callOut yX2_callOut, Cond.code yX2_callOut cX2_callOut 3 (some .int), Cond.methodLink RX2 87 yX0_add, Cond.instanceMethod yX0_add, Cond.selects RX0 yX0_add yX0_add, Cond.initialized RX0, Cond.code yX0_add cX0_add 4 (some .int), Cond.fieldLink RX0 9 "PaintballAtlas$Calls" "players" "[I", Cond.fieldLink RX0 25 "PaintballAtlas$Calls" "count" "I", Cond.fieldLink RX0 15 "PaintballAtlas$Calls" "cells" "[I", Cond.fieldLink RX0 18 "PaintballAtlas$Calls" "ticks" "[I", Cond.fieldLink RX0 21 "PaintballAtlas$Calls" "disputed" "[Z"]
def wsX5_call : List Cond := .code yX5_call cX5_call 4 (some .int) :: ((wsX5_call_r1 ++ (wsX5_call_r2 ++ wsX5_call_r3)) ++ wsX50 ++ wsX20 ++ wsX10 ++ wsX00 ++ (vx_atS RX5 46 "java/lang/IllegalStateException" ["java/lang/RuntimeException", "java/lang/Exception"]).filter goodWord ++ (vx_atS RX5 139 "java/lang/IndexOutOfBoundsException" ["java/lang/RuntimeException", "java/lang/Exception"]).filter goodWord)
def wsX5_dispute_r1 : List Cond := [Cond.classLink RX5 135 "java/lang/IndexOutOfBoundsException", Cond.initialized "java/lang/IndexOutOfBoundsException", Cond.classLink RX5 42 "java/lang/IllegalStateException", Cond.initialized "java/lang/IllegalStateException", Cond.fieldLink RX5 19 "PaintballAtlas" "round" "LPaintballAtlas$Round;", Cond.fieldLink RX5 26 "PaintballAtlas" "table" "LPaintballAtlas$Table;", Cond.methodLink RX5 132 yX2_hasCall, Cond.instanceMethod yX2_hasCall, Cond.selects RX2 yX2_hasCall yX2_hasCall, Cond.initialized RX2, Cond.code yX2_hasCall cX2_hasCall 2 (some .boolean), Cond.fieldLink RX2 35 "PaintballAtlas$Round" "calls" "LPaintballAtlas$Calls;", Cond.fieldLink RX2 52 "PaintballAtlas$Calls" "count" "I", Cond.methodLink RX5 140 yX2_isDisputed, Cond.instanceMethod yX2_isDisputed, Cond.selects RX2 yX2_isDisputed yX2_isDisputed, Cond.code yX2_isDisputed cX2_isDisputed 2 (some .boolean), Cond.fieldLink RX2 90 "PaintballAtlas$Calls" "disputed" "[Z", Cond.methodLink RX5 145 yX2_judge, Cond.instanceMethod yX2_judge, Cond.selects RX2 yX2_judge yX2_judge, Cond.code yX2_judge cX2_judge 4 (some .boolean), Cond.fieldLink RX2 94 "PaintballAtlas$Calls" "players" "[I", Cond.fieldLink RX2 19 "PaintballAtlas$Round" "hits" "[I"]
def wsX5_dispute_r2 : List Cond := [Cond.fieldLink RX2 97 "PaintballAtlas$Calls" "ticks" "[I", Cond.fieldLink RX2 100 "PaintballAtlas$Calls" "cells" "[I", Cond.fieldLink RX2 15 "PaintballAtlas$Round" "cells" "[I", Cond.methodLink RX2 73 yX2_playerOn, Cond.instanceMethod yX2_playerOn, Cond.selects RX2 yX2_playerOn yX2_playerOn, Cond.code yX2_playerOn cX2_playerOn 3 (some .int), Cond.methodLink RX5 148 yX2_teamCalled, Cond.instanceMethod yX2_teamCalled, Cond.selects RX2 yX2_teamCalled yX2_teamCalled, Cond.code yX2_teamCalled cX2_teamCalled 2 (some .int), Cond.fieldLink RX2 43 "PaintballAtlas$Round" "home" "I", Cond.fieldLink RX2 46 "PaintballAtlas$Round" "away" "I", Cond.methodLink RX5 151 yX4_fine, Cond.instanceMethod yX4_fine, Cond.selects RX4 yX4_fine yX4_fine, Cond.initialized RX4, Cond.code yX4_fine cX4_fine 2 none, Cond.fieldLink RX4 15 "PaintballAtlas$Table" "fines" "[I"]
def wsX5_dispute : List Cond := .code yX5_dispute cX5_dispute 3 (some .boolean) :: ((wsX5_dispute_r1 ++ wsX5_dispute_r2) ++ wsX50 ++ wsX20 ++ wsX00 ++ wsX40 ++ (vx_atS RX5 139 "java/lang/IndexOutOfBoundsException" ["java/lang/RuntimeException", "java/lang/Exception"]).filter goodWord ++ (vx_atS RX5 46 "java/lang/IllegalStateException" ["java/lang/RuntimeException", "java/lang/Exception"]).filter goodWord)
def wsX5_end_r1 : List Cond := [Cond.fieldLink RX5 19 "PaintballAtlas" "round" "LPaintballAtlas$Round;", Cond.fieldLink RX5 26 "PaintballAtlas" "table" "LPaintballAtlas$Table;", Cond.methodLink RX5 79 yX5_checkRound, Cond.instanceMethod yX5_checkRound, Cond.selects RX5 yX5_checkRound yX5_checkRound, Cond.initialized RX5, Cond.code yX5_checkRound cX5_checkRound 1 none, Cond.classLink RX5 42 "java/lang/IllegalStateException", Cond.initialized "java/lang/IllegalStateException", Cond.methodLink RX5 38 yX2_isPlayed, Cond.instanceMethod yX2_isPlayed, Cond.selects RX2 yX2_isPlayed yX2_isPlayed, Cond.initialized RX2, Cond.code yX2_isPlayed cX2_isPlayed 1 (some .boolean), Cond.fieldLink RX2 9 "PaintballAtlas$Round" "tick" "I", Cond.methodLink RX5 154 yX2_margin, Cond.instanceMethod yX2_margin, Cond.selects RX2 yX2_margin yX2_margin, Cond.code yX2_margin cX2_margin 3 (some .int), Cond.fieldLink RX2 15 "PaintballAtlas$Round" "cells" "[I", Cond.fieldLink RX2 19 "PaintballAtlas$Round" "hits" "[I", Cond.methodLink RX5 158 yX2_homeTeam, Cond.instanceMethod yX2_homeTeam, Cond.selects RX2 yX2_homeTeam yX2_homeTeam]
def wsX5_end_r2 : List Cond := [Cond.code yX2_homeTeam cX2_homeTeam 1 (some .int), Cond.fieldLink RX2 43 "PaintballAtlas$Round" "home" "I", Cond.methodLink RX5 161 yX2_awayTeam, Cond.instanceMethod yX2_awayTeam, Cond.selects RX2 yX2_awayTeam yX2_awayTeam, Cond.code yX2_awayTeam cX2_awayTeam 1 (some .int), Cond.fieldLink RX2 46 "PaintballAtlas$Round" "away" "I", Cond.methodLink RX5 164 yX4_enter, Cond.instanceMethod yX4_enter, Cond.selects RX4 yX4_enter yX4_enter, Cond.initialized RX4, Cond.code yX4_enter cX4_enter 4 none, Cond.fieldLink RX4 18 "PaintballAtlas$Table" "differences" "[I", Cond.fieldLink RX4 9 "PaintballAtlas$Table" "points" "[I", Cond.methodLink RX4 26 yX4_enterWin, Cond.instanceMethod yX4_enterWin, Cond.selects RX4 yX4_enterWin yX4_enterWin, Cond.code yX4_enterWin cX4_enterWin 3 none, Cond.fieldLink RX4 23 "PaintballAtlas$Table" "wins" "[[I", Cond.methodLink RX4 30 yX4_takePenalties, Cond.instanceMethod yX4_takePenalties, Cond.selects RX4 yX4_takePenalties yX4_takePenalties, Cond.code yX4_takePenalties cX4_takePenalties 2 none, Cond.fieldLink RX4 15 "PaintballAtlas$Table" "fines" "[I"]
def wsX5_end_r3 : List Cond := [Cond.methodLink RX5 168 yX2_close, Cond.instanceMethod yX2_close, Cond.selects RX2 yX2_close yX2_close, Cond.code yX2_close cX2_close 1 none, Cond.methodLink RX2 39 yX2_reset, Cond.instanceMethod yX2_reset, Cond.selects RX2 yX2_reset yX2_reset, Cond.code yX2_reset cX2_reset 3 none, Cond.fieldLink RX2 22 "PaintballAtlas$Round" "lastShots" "[I", Cond.fieldLink RX2 28 "PaintballAtlas$Round" "shots" "LPaintballAtlas$Shots;", Cond.fieldLink RX2 49 "PaintballAtlas$Shots" "count" "I", Cond.fieldLink RX2 35 "PaintballAtlas$Round" "calls" "LPaintballAtlas$Calls;", Cond.fieldLink RX2 52 "PaintballAtlas$Calls" "count" "I"]
def wsX5_end : List Cond := .code yX5_end cX5_end 2 (some .int) :: ((wsX5_end_r1 ++ (wsX5_end_r2 ++ wsX5_end_r3)) ++ wsX50 ++ wsX20 ++ wsX40 ++ wsX30 ++ wsX00 ++ (vx_atS RX5 46 "java/lang/IllegalStateException" ["java/lang/RuntimeException", "java/lang/Exception"]).filter goodWord)
def wsX5_tick : List Cond := .code yX5_tick cX5_tick 1 (some .int) :: ([.fieldLink RX5 19 "PaintballAtlas" "round" "LPaintballAtlas$Round;", .methodLink RX5 171 yX2_time, .instanceMethod yX2_time, .selects RX2 yX2_time yX2_time, .initialized RX2, .code yX2_time cX2_time 1 (some .int), .fieldLink RX2 9 "PaintballAtlas$Round" "tick" "I"] ++ wsX50 ++ wsX20)
def wsX5_where : List Cond := .code yX5_where cX5_where 2 (some .int) :: ([.fieldLink RX5 19 "PaintballAtlas" "round" "LPaintballAtlas$Round;", .methodLink RX5 76 yX5_checkPlayer, .static yX5_checkPlayer, .initialized RX5, .code yX5_checkPlayer cX5_checkPlayer 1 none, .classLink RX5 135 "java/lang/IndexOutOfBoundsException", .initialized "java/lang/IndexOutOfBoundsException", .methodLink RX5 82 yX2_cellOf, .instanceMethod yX2_cellOf, .selects RX2 yX2_cellOf yX2_cellOf, .initialized RX2, .code yX2_cellOf cX2_cellOf 2 (some .int), .fieldLink RX2 15 "PaintballAtlas$Round" "cells" "[I"] ++ wsX50 ++ wsX20 ++ (vx_atS RX5 139 "java/lang/IndexOutOfBoundsException" ["java/lang/RuntimeException", "java/lang/Exception"]).filter goodWord)
def wsX5_hit : List Cond := .code yX5_hit cX5_hit 2 (some .int) :: ([.fieldLink RX5 19 "PaintballAtlas" "round" "LPaintballAtlas$Round;", .methodLink RX5 76 yX5_checkPlayer, .static yX5_checkPlayer, .initialized RX5, .code yX5_checkPlayer cX5_checkPlayer 1 none, .classLink RX5 135 "java/lang/IndexOutOfBoundsException", .initialized "java/lang/IndexOutOfBoundsException", .methodLink RX5 174 yX2_hitOf, .instanceMethod yX2_hitOf, .selects RX2 yX2_hitOf yX2_hitOf, .initialized RX2, .code yX2_hitOf cX2_hitOf 2 (some .int), .fieldLink RX2 19 "PaintballAtlas$Round" "hits" "[I"] ++ wsX50 ++ wsX20 ++ (vx_atS RX5 139 "java/lang/IndexOutOfBoundsException" ["java/lang/RuntimeException", "java/lang/Exception"]).filter goodWord)
def wsX5_flying : List Cond := .code yX5_flying cX5_flying 1 (some .int) :: ([.fieldLink RX5 19 "PaintballAtlas" "round" "LPaintballAtlas$Round;", .methodLink RX5 177 yX2_countFlying, .instanceMethod yX2_countFlying, .selects RX2 yX2_countFlying yX2_countFlying, .initialized RX2, .code yX2_countFlying cX2_countFlying 3 (some .int), .fieldLink RX2 28 "PaintballAtlas$Round" "shots" "LPaintballAtlas$Shots;", .fieldLink RX2 49 "PaintballAtlas$Shots" "count" "I", .fieldLink RX2 63 "PaintballAtlas$Shots" "arrivals" "[I", .fieldLink RX2 9 "PaintballAtlas$Round" "tick" "I"] ++ wsX50 ++ wsX20 ++ wsX30)
def wsX5_points : List Cond := .code yX5_points cX5_points 2 (some .int) :: ([.fieldLink RX5 26 "PaintballAtlas" "table" "LPaintballAtlas$Table;", .methodLink RX5 64 yX5_checkTeam, .static yX5_checkTeam, .initialized RX5, .code yX5_checkTeam cX5_checkTeam 1 none, .classLink RX5 135 "java/lang/IndexOutOfBoundsException", .initialized "java/lang/IndexOutOfBoundsException", .methodLink RX5 180 yX4_pointsOf, .instanceMethod yX4_pointsOf, .selects RX4 yX4_pointsOf yX4_pointsOf, .initialized RX4, .code yX4_pointsOf cX4_pointsOf 2 (some .int), .fieldLink RX4 9 "PaintballAtlas$Table" "points" "[I"] ++ wsX50 ++ wsX40 ++ (vx_atS RX5 139 "java/lang/IndexOutOfBoundsException" ["java/lang/RuntimeException", "java/lang/Exception"]).filter goodWord)
def wsX5_fines : List Cond := .code yX5_fines cX5_fines 2 (some .int) :: ([.fieldLink RX5 26 "PaintballAtlas" "table" "LPaintballAtlas$Table;", .methodLink RX5 64 yX5_checkTeam, .static yX5_checkTeam, .initialized RX5, .code yX5_checkTeam cX5_checkTeam 1 none, .classLink RX5 135 "java/lang/IndexOutOfBoundsException", .initialized "java/lang/IndexOutOfBoundsException", .methodLink RX5 183 yX4_finesOf, .instanceMethod yX4_finesOf, .selects RX4 yX4_finesOf yX4_finesOf, .initialized RX4, .code yX4_finesOf cX4_finesOf 2 (some .int), .fieldLink RX4 15 "PaintballAtlas$Table" "fines" "[I"] ++ wsX50 ++ wsX40 ++ (vx_atS RX5 139 "java/lang/IndexOutOfBoundsException" ["java/lang/RuntimeException", "java/lang/Exception"]).filter goodWord)
def wsX5_difference : List Cond := .code yX5_difference cX5_difference 2 (some .int) :: ([.fieldLink RX5 26 "PaintballAtlas" "table" "LPaintballAtlas$Table;", .methodLink RX5 64 yX5_checkTeam, .static yX5_checkTeam, .initialized RX5, .code yX5_checkTeam cX5_checkTeam 1 none, .classLink RX5 135 "java/lang/IndexOutOfBoundsException", .initialized "java/lang/IndexOutOfBoundsException", .methodLink RX5 186 yX4_differenceOf, .instanceMethod yX4_differenceOf, .selects RX4 yX4_differenceOf yX4_differenceOf, .initialized RX4, .code yX4_differenceOf cX4_differenceOf 2 (some .int), .fieldLink RX4 18 "PaintballAtlas$Table" "differences" "[I"] ++ wsX50 ++ wsX40 ++ (vx_atS RX5 139 "java/lang/IndexOutOfBoundsException" ["java/lang/RuntimeException", "java/lang/Exception"]).filter goodWord)
def wsX5_place : List Cond := .code yX5_place cX5_place 2 (some .int) :: ([.fieldLink RX5 26 "PaintballAtlas" "table" "LPaintballAtlas$Table;", .methodLink RX5 64 yX5_checkTeam, .static yX5_checkTeam, .initialized RX5, .code yX5_checkTeam cX5_checkTeam 1 none, .classLink RX5 135 "java/lang/IndexOutOfBoundsException", .initialized "java/lang/IndexOutOfBoundsException", .methodLink RX5 189 yX4_placeOf, .instanceMethod yX4_placeOf, .selects RX4 yX4_placeOf yX4_placeOf, .initialized RX4, .code yX4_placeOf cX4_placeOf 4 (some .int), .methodLink RX4 33 yX4_isAhead, .instanceMethod yX4_isAhead, .selects RX4 yX4_isAhead yX4_isAhead, .code yX4_isAhead cX4_isAhead 3 (some .boolean), .fieldLink RX4 9 "PaintballAtlas$Table" "points" "[I", .fieldLink RX4 23 "PaintballAtlas$Table" "wins" "[[I", .fieldLink RX4 18 "PaintballAtlas$Table" "differences" "[I"] ++ wsX50 ++ wsX40 ++ (vx_atS RX5 139 "java/lang/IndexOutOfBoundsException" ["java/lang/RuntimeException", "java/lang/Exception"]).filter goodWord)
def wsX6_init : List Cond := .code yX6_init cX6_init 1 none :: ([.methodLink RX6 1 objectInit, .instanceMethod objectInit, .code objectInit ⟨#[0xb1]⟩ 1 none, .arrayClass .boolean, .fieldLink RX6 7 "PaintballAtlasModel" "isBunker" "[Z", .arrayClass .int, .fieldLink RX6 13 "PaintballAtlasModel" "referee" "[I", .fieldLink RX6 17 "PaintballAtlasModel" "where" "[I", .fieldLink RX6 20 "PaintballAtlasModel" "hit" "[I", .fieldLink RX6 23 "PaintballAtlasModel" "shot" "[I", .fieldLink RX6 26 "PaintballAtlasModel" "shooter" "[I", .fieldLink RX6 29 "PaintballAtlasModel" "from" "[I", .fieldLink RX6 32 "PaintballAtlasModel" "aim" "[I", .fieldLink RX6 35 "PaintballAtlasModel" "comes" "[I", .fieldLink RX6 38 "PaintballAtlasModel" "called" "[I", .fieldLink RX6 41 "PaintballAtlasModel" "calledAt" "[I", .fieldLink RX6 44 "PaintballAtlasModel" "calledOn" "[I", .fieldLink RX6 47 "PaintballAtlasModel" "isDisputed" "[Z", .fieldLink RX6 50 "PaintballAtlasModel" "points" "[I", .fieldLink RX6 53 "PaintballAtlasModel" "fines" "[I", .fieldLink RX6 56 "PaintballAtlasModel" "difference" "[I", .fieldLink RX6 59 "PaintballAtlasModel" "wins" "[I"] ++ wsX60)
def wsX6_thrown : List Cond := .code yX6_thrown cX6_thrown 1 (some .int) :: ([.fieldLink RX6 62 "PaintballAtlasModel" "thrown" "I"] ++ wsX60)
def wsX6_fails : List Cond := .code yX6_fails cX6_fails 2 (some .boolean) :: ([.fieldLink RX6 62 "PaintballAtlasModel" "thrown" "I"] ++ wsX60)
def wsX6_isIn : List Cond := .code yX6_isIn cX6_isIn 3 (some .boolean) :: ([])
def wsX6_isCell : List Cond := .code yX6_isCell cX6_isCell 1 (some .boolean) :: ([.methodLink RX6 66 yX6_isIn, .static yX6_isIn, .initialized RX6, .code yX6_isIn cX6_isIn 3 (some .boolean)])
def wsX6_isPlayer : List Cond := .code yX6_isPlayer cX6_isPlayer 1 (some .boolean) :: ([.methodLink RX6 66 yX6_isIn, .static yX6_isIn, .initialized RX6, .code yX6_isIn cX6_isIn 3 (some .boolean)])
def wsX6_isTeam : List Cond := .code yX6_isTeam cX6_isTeam 1 (some .boolean) :: ([.methodLink RX6 66 yX6_isIn, .static yX6_isIn, .initialized RX6, .code yX6_isIn cX6_isIn 3 (some .boolean)])
def wsX6_side : List Cond := .code yX6_side cX6_side 9 (some .int) :: ([])
def wsX6_isBetween : List Cond := .code yX6_isBetween cX6_isBetween 3 (some .boolean) :: ([.methodLink RX6 66 yX6_isIn, .static yX6_isIn, .initialized RX6, .code yX6_isIn cX6_isIn 3 (some .boolean)])
def wsX6_leads : List Cond := .code yX6_leads cX6_leads 7 (some .boolean) :: ([.methodLink RX6 70 yX6_isBetween, .static yX6_isBetween, .initialized RX6, .code yX6_isBetween cX6_isBetween 3 (some .boolean), .methodLink RX6 66 yX6_isIn, .static yX6_isIn, .code yX6_isIn cX6_isIn 3 (some .boolean), .methodLink RX6 73 yX6_side, .static yX6_side, .code yX6_side cX6_side 9 (some .int)])
def wsX6_see : List Cond := .code yX6_see cX6_see 5 (some .boolean) :: ([.fieldLink RX6 7 "PaintballAtlasModel" "isBunker" "[Z", .methodLink RX6 77 yX6_leads, .static yX6_leads, .initialized RX6, .code yX6_leads cX6_leads 7 (some .boolean), .methodLink RX6 70 yX6_isBetween, .static yX6_isBetween, .code yX6_isBetween cX6_isBetween 3 (some .boolean), .methodLink RX6 66 yX6_isIn, .static yX6_isIn, .code yX6_isIn cX6_isIn 3 (some .boolean), .methodLink RX6 73 yX6_side, .static yX6_side, .code yX6_side cX6_side 9 (some .int)] ++ wsX60)
def wsX6_toggleBunker : List Cond := .code yX6_toggleBunker cX6_toggleBunker 2 (some .boolean) :: ([.fieldLink RX6 84 "PaintballAtlasModel" "isOn" "Z", .fieldLink RX6 7 "PaintballAtlasModel" "isBunker" "[Z", .methodLink RX6 80 yX6_isCell, .static yX6_isCell, .initialized RX6, .code yX6_isCell cX6_isCell 1 (some .boolean), .methodLink RX6 66 yX6_isIn, .static yX6_isIn, .code yX6_isIn cX6_isIn 3 (some .boolean), .methodLink RX6 88 yX6_fails, .instanceMethod yX6_fails, .selects RX6 yX6_fails yX6_fails, .code yX6_fails cX6_fails 2 (some .boolean), .fieldLink RX6 62 "PaintballAtlasModel" "thrown" "I"] ++ wsX60)
def wsX6_sees_r1 : List Cond := [Cond.methodLink RX6 80 yX6_isCell, Cond.static yX6_isCell, Cond.initialized RX6, Cond.code yX6_isCell cX6_isCell 1 (some .boolean), Cond.methodLink RX6 66 yX6_isIn, Cond.static yX6_isIn, Cond.code yX6_isIn cX6_isIn 3 (some .boolean), Cond.methodLink RX6 88 yX6_fails, Cond.instanceMethod yX6_fails, Cond.selects RX6 yX6_fails yX6_fails, Cond.code yX6_fails cX6_fails 2 (some .boolean), Cond.fieldLink RX6 62 "PaintballAtlasModel" "thrown" "I", Cond.methodLink RX6 91 yX6_see, Cond.instanceMethod yX6_see, Cond.selects RX6 yX6_see yX6_see, Cond.code yX6_see cX6_see 5 (some .boolean), Cond.fieldLink RX6 7 "PaintballAtlasModel" "isBunker" "[Z", Cond.methodLink RX6 77 yX6_leads, Cond.static yX6_leads, Cond.code yX6_leads cX6_leads 7 (some .boolean), Cond.methodLink RX6 70 yX6_isBetween, Cond.static yX6_isBetween, Cond.code yX6_isBetween cX6_isBetween 3 (some .boolean), Cond.methodLink RX6 73 yX6_side]
def wsX6_sees_r2 : List Cond := [Cond.static yX6_side, Cond.code yX6_side cX6_side 9 (some .int)]
def wsX6_sees : List Cond := .code yX6_sees cX6_sees 3 (some .boolean) :: ((wsX6_sees_r1 ++ wsX6_sees_r2) ++ wsX60)
def wsX6_view_r1 : List Cond := [Cond.methodLink RX6 80 yX6_isCell, Cond.static yX6_isCell, Cond.initialized RX6, Cond.code yX6_isCell cX6_isCell 1 (some .boolean), Cond.methodLink RX6 66 yX6_isIn, Cond.static yX6_isIn, Cond.code yX6_isIn cX6_isIn 3 (some .boolean), Cond.methodLink RX6 88 yX6_fails, Cond.instanceMethod yX6_fails, Cond.selects RX6 yX6_fails yX6_fails, Cond.code yX6_fails cX6_fails 2 (some .boolean), Cond.fieldLink RX6 62 "PaintballAtlasModel" "thrown" "I", Cond.methodLink RX6 91 yX6_see, Cond.instanceMethod yX6_see, Cond.selects RX6 yX6_see yX6_see, Cond.code yX6_see cX6_see 5 (some .boolean), Cond.fieldLink RX6 7 "PaintballAtlasModel" "isBunker" "[Z", Cond.methodLink RX6 77 yX6_leads, Cond.static yX6_leads, Cond.code yX6_leads cX6_leads 7 (some .boolean), Cond.methodLink RX6 70 yX6_isBetween, Cond.static yX6_isBetween, Cond.code yX6_isBetween cX6_isBetween 3 (some .boolean), Cond.methodLink RX6 73 yX6_side]
def wsX6_view_r2 : List Cond := [Cond.static yX6_side, Cond.code yX6_side cX6_side 9 (some .int)]
def wsX6_view : List Cond := .code yX6_view cX6_view 4 (some .int) :: ((wsX6_view_r1 ++ wsX6_view_r2) ++ wsX60)
def wsX6_isReferee : List Cond := .code yX6_isReferee cX6_isReferee 1 (some .boolean) :: ([.methodLink RX6 66 yX6_isIn, .static yX6_isIn, .initialized RX6, .code yX6_isIn cX6_isIn 3 (some .boolean)])
def wsX6_setReferee : List Cond := .code yX6_setReferee cX6_setReferee 4 (some .int) :: ([.fieldLink RX6 13 "PaintballAtlasModel" "referee" "[I", .methodLink RX6 95 yX6_isReferee, .static yX6_isReferee, .initialized RX6, .code yX6_isReferee cX6_isReferee 1 (some .boolean), .methodLink RX6 66 yX6_isIn, .static yX6_isIn, .code yX6_isIn cX6_isIn 3 (some .boolean), .methodLink RX6 80 yX6_isCell, .static yX6_isCell, .code yX6_isCell cX6_isCell 1 (some .boolean), .methodLink RX6 88 yX6_fails, .instanceMethod yX6_fails, .selects RX6 yX6_fails yX6_fails, .code yX6_fails cX6_fails 2 (some .boolean), .fieldLink RX6 62 "PaintballAtlasModel" "thrown" "I"] ++ wsX60)
def wsX6_begin : List Cond := .code yX6_begin cX6_begin 5 none :: ([.fieldLink RX6 84 "PaintballAtlasModel" "isOn" "Z", .fieldLink RX6 101 "PaintballAtlasModel" "home" "I", .fieldLink RX6 104 "PaintballAtlasModel" "away" "I", .fieldLink RX6 107 "PaintballAtlasModel" "tick" "I", .fieldLink RX6 110 "PaintballAtlasModel" "shots" "I", .fieldLink RX6 113 "PaintballAtlasModel" "calls" "I", .fieldLink RX6 17 "PaintballAtlasModel" "where" "[I", .fieldLink RX6 20 "PaintballAtlasModel" "hit" "[I", .fieldLink RX6 23 "PaintballAtlasModel" "shot" "[I", .methodLink RX6 98 yX6_isTeam, .static yX6_isTeam, .initialized RX6, .code yX6_isTeam cX6_isTeam 1 (some .boolean), .methodLink RX6 66 yX6_isIn, .static yX6_isIn, .code yX6_isIn cX6_isIn 3 (some .boolean), .methodLink RX6 88 yX6_fails, .instanceMethod yX6_fails, .selects RX6 yX6_fails yX6_fails, .code yX6_fails cX6_fails 2 (some .boolean), .fieldLink RX6 62 "PaintballAtlasModel" "thrown" "I"] ++ wsX60)
def wsX6_size : List Cond := .code yX6_size cX6_size 1 (some .int) :: ([])
def wsX6_apart : List Cond := .code yX6_apart cX6_apart 4 (some .int) :: ([.methodLink RX6 116 yX6_size, .static yX6_size, .initialized RX6, .code yX6_size cX6_size 1 (some .int)])
def wsX6_standsOn : List Cond := .code yX6_standsOn cX6_standsOn 4 (some .int) :: ([.fieldLink RX6 17 "PaintballAtlasModel" "where" "[I"] ++ wsX60)
def wsX6_move_r1 : List Cond := [Cond.fieldLink RX6 84 "PaintballAtlasModel" "isOn" "Z", Cond.fieldLink RX6 17 "PaintballAtlasModel" "where" "[I", Cond.fieldLink RX6 7 "PaintballAtlasModel" "isBunker" "[Z", Cond.methodLink RX6 120 yX6_isPlayer, Cond.static yX6_isPlayer, Cond.initialized RX6, Cond.code yX6_isPlayer cX6_isPlayer 1 (some .boolean), Cond.methodLink RX6 66 yX6_isIn, Cond.static yX6_isIn, Cond.code yX6_isIn cX6_isIn 3 (some .boolean), Cond.methodLink RX6 80 yX6_isCell, Cond.static yX6_isCell, Cond.code yX6_isCell cX6_isCell 1 (some .boolean), Cond.methodLink RX6 123 yX6_apart, Cond.static yX6_apart, Cond.code yX6_apart cX6_apart 4 (some .int), Cond.methodLink RX6 116 yX6_size, Cond.static yX6_size, Cond.code yX6_size cX6_size 1 (some .int), Cond.methodLink RX6 127 yX6_standsOn, Cond.instanceMethod yX6_standsOn, Cond.selects RX6 yX6_standsOn yX6_standsOn, Cond.code yX6_standsOn cX6_standsOn 4 (some .int), Cond.methodLink RX6 88 yX6_fails]
def wsX6_move_r2 : List Cond := [Cond.instanceMethod yX6_fails, Cond.selects RX6 yX6_fails yX6_fails, Cond.code yX6_fails cX6_fails 2 (some .boolean), Cond.fieldLink RX6 62 "PaintballAtlasModel" "thrown" "I"]
def wsX6_move : List Cond := .code yX6_move cX6_move 6 (some .int) :: ((wsX6_move_r1 ++ wsX6_move_r2) ++ wsX60)
def wsX6_shoot_r1 : List Cond := [Cond.fieldLink RX6 84 "PaintballAtlasModel" "isOn" "Z", Cond.fieldLink RX6 17 "PaintballAtlasModel" "where" "[I", Cond.fieldLink RX6 23 "PaintballAtlasModel" "shot" "[I", Cond.fieldLink RX6 107 "PaintballAtlasModel" "tick" "I", Cond.fieldLink RX6 110 "PaintballAtlasModel" "shots" "I", Cond.fieldLink RX6 26 "PaintballAtlasModel" "shooter" "[I", Cond.fieldLink RX6 29 "PaintballAtlasModel" "from" "[I", Cond.fieldLink RX6 32 "PaintballAtlasModel" "aim" "[I", Cond.fieldLink RX6 35 "PaintballAtlasModel" "comes" "[I", Cond.methodLink RX6 120 yX6_isPlayer, Cond.static yX6_isPlayer, Cond.initialized RX6, Cond.code yX6_isPlayer cX6_isPlayer 1 (some .boolean), Cond.methodLink RX6 66 yX6_isIn, Cond.static yX6_isIn, Cond.code yX6_isIn cX6_isIn 3 (some .boolean), Cond.methodLink RX6 80 yX6_isCell, Cond.static yX6_isCell, Cond.code yX6_isCell cX6_isCell 1 (some .boolean), Cond.methodLink RX6 88 yX6_fails, Cond.instanceMethod yX6_fails, Cond.selects RX6 yX6_fails yX6_fails, Cond.code yX6_fails cX6_fails 2 (some .boolean), Cond.fieldLink RX6 62 "PaintballAtlasModel" "thrown" "I"]
def wsX6_shoot_r2 : List Cond := [Cond.methodLink RX6 123 yX6_apart, Cond.static yX6_apart, Cond.code yX6_apart cX6_apart 4 (some .int), Cond.methodLink RX6 116 yX6_size, Cond.static yX6_size, Cond.code yX6_size cX6_size 1 (some .int)]
def wsX6_shoot : List Cond := .code yX6_shoot cX6_shoot 5 (some .int) :: ((wsX6_shoot_r1 ++ wsX6_shoot_r2) ++ wsX60)
def wsX6_pass_r1 : List Cond := [Cond.fieldLink RX6 84 "PaintballAtlasModel" "isOn" "Z", Cond.fieldLink RX6 107 "PaintballAtlasModel" "tick" "I", Cond.fieldLink RX6 110 "PaintballAtlasModel" "shots" "I", Cond.fieldLink RX6 35 "PaintballAtlasModel" "comes" "[I", Cond.fieldLink RX6 32 "PaintballAtlasModel" "aim" "[I", Cond.fieldLink RX6 26 "PaintballAtlasModel" "shooter" "[I", Cond.fieldLink RX6 29 "PaintballAtlasModel" "from" "[I", Cond.fieldLink RX6 20 "PaintballAtlasModel" "hit" "[I", Cond.methodLink RX6 66 yX6_isIn, Cond.static yX6_isIn, Cond.initialized RX6, Cond.code yX6_isIn cX6_isIn 3 (some .boolean), Cond.methodLink RX6 88 yX6_fails, Cond.instanceMethod yX6_fails, Cond.selects RX6 yX6_fails yX6_fails, Cond.code yX6_fails cX6_fails 2 (some .boolean), Cond.fieldLink RX6 62 "PaintballAtlasModel" "thrown" "I", Cond.methodLink RX6 127 yX6_standsOn, Cond.instanceMethod yX6_standsOn, Cond.selects RX6 yX6_standsOn yX6_standsOn, Cond.code yX6_standsOn cX6_standsOn 4 (some .int), Cond.fieldLink RX6 17 "PaintballAtlasModel" "where" "[I", Cond.methodLink RX6 91 yX6_see, Cond.instanceMethod yX6_see]
def wsX6_pass_r2 : List Cond := [Cond.selects RX6 yX6_see yX6_see, Cond.code yX6_see cX6_see 5 (some .boolean), Cond.fieldLink RX6 7 "PaintballAtlasModel" "isBunker" "[Z", Cond.methodLink RX6 77 yX6_leads, Cond.static yX6_leads, Cond.code yX6_leads cX6_leads 7 (some .boolean), Cond.methodLink RX6 70 yX6_isBetween, Cond.static yX6_isBetween, Cond.code yX6_isBetween cX6_isBetween 3 (some .boolean), Cond.methodLink RX6 73 yX6_side, Cond.static yX6_side, Cond.code yX6_side cX6_side 9 (some .int)]
def wsX6_pass : List Cond := .code yX6_pass cX6_pass 6 (some .int) :: ((wsX6_pass_r1 ++ wsX6_pass_r2) ++ wsX60)
def wsX6_call_r1 : List Cond := [Cond.fieldLink RX6 84 "PaintballAtlasModel" "isOn" "Z", Cond.fieldLink RX6 17 "PaintballAtlasModel" "where" "[I", Cond.fieldLink RX6 13 "PaintballAtlasModel" "referee" "[I", Cond.fieldLink RX6 38 "PaintballAtlasModel" "called" "[I", Cond.fieldLink RX6 113 "PaintballAtlasModel" "calls" "I", Cond.fieldLink RX6 41 "PaintballAtlasModel" "calledAt" "[I", Cond.fieldLink RX6 107 "PaintballAtlasModel" "tick" "I", Cond.fieldLink RX6 44 "PaintballAtlasModel" "calledOn" "[I", Cond.fieldLink RX6 47 "PaintballAtlasModel" "isDisputed" "[Z", Cond.methodLink RX6 95 yX6_isReferee, Cond.static yX6_isReferee, Cond.initialized RX6, Cond.code yX6_isReferee cX6_isReferee 1 (some .boolean), Cond.methodLink RX6 66 yX6_isIn, Cond.static yX6_isIn, Cond.code yX6_isIn cX6_isIn 3 (some .boolean), Cond.methodLink RX6 120 yX6_isPlayer, Cond.static yX6_isPlayer, Cond.code yX6_isPlayer cX6_isPlayer 1 (some .boolean), Cond.methodLink RX6 91 yX6_see, Cond.instanceMethod yX6_see, Cond.selects RX6 yX6_see yX6_see, Cond.code yX6_see cX6_see 5 (some .boolean), Cond.fieldLink RX6 7 "PaintballAtlasModel" "isBunker" "[Z"]
def wsX6_call_r2 : List Cond := [Cond.methodLink RX6 77 yX6_leads, Cond.static yX6_leads, Cond.code yX6_leads cX6_leads 7 (some .boolean), Cond.methodLink RX6 70 yX6_isBetween, Cond.static yX6_isBetween, Cond.code yX6_isBetween cX6_isBetween 3 (some .boolean), Cond.methodLink RX6 73 yX6_side, Cond.static yX6_side, Cond.code yX6_side cX6_side 9 (some .int), Cond.methodLink RX6 88 yX6_fails, Cond.instanceMethod yX6_fails, Cond.selects RX6 yX6_fails yX6_fails, Cond.code yX6_fails cX6_fails 2 (some .boolean), Cond.fieldLink RX6 62 "PaintballAtlasModel" "thrown" "I"]
def wsX6_call : List Cond := .code yX6_call cX6_call 5 (some .int) :: ((wsX6_call_r1 ++ wsX6_call_r2) ++ wsX60)
def wsX6_teamOf : List Cond := .code yX6_teamOf cX6_teamOf 2 (some .int) :: ([.fieldLink RX6 101 "PaintballAtlasModel" "home" "I", .fieldLink RX6 104 "PaintballAtlasModel" "away" "I"] ++ wsX60)
def wsX6_dispute_r1 : List Cond := [Cond.fieldLink RX6 84 "PaintballAtlasModel" "isOn" "Z", Cond.fieldLink RX6 113 "PaintballAtlasModel" "calls" "I", Cond.fieldLink RX6 47 "PaintballAtlasModel" "isDisputed" "[Z", Cond.fieldLink RX6 38 "PaintballAtlasModel" "called" "[I", Cond.fieldLink RX6 20 "PaintballAtlasModel" "hit" "[I", Cond.fieldLink RX6 41 "PaintballAtlasModel" "calledAt" "[I", Cond.fieldLink RX6 53 "PaintballAtlasModel" "fines" "[I", Cond.fieldLink RX6 17 "PaintballAtlasModel" "where" "[I", Cond.fieldLink RX6 44 "PaintballAtlasModel" "calledOn" "[I", Cond.methodLink RX6 66 yX6_isIn, Cond.static yX6_isIn, Cond.initialized RX6, Cond.code yX6_isIn cX6_isIn 3 (some .boolean), Cond.methodLink RX6 88 yX6_fails, Cond.instanceMethod yX6_fails, Cond.selects RX6 yX6_fails yX6_fails, Cond.code yX6_fails cX6_fails 2 (some .boolean), Cond.fieldLink RX6 62 "PaintballAtlasModel" "thrown" "I", Cond.methodLink RX6 130 yX6_teamOf, Cond.instanceMethod yX6_teamOf, Cond.selects RX6 yX6_teamOf yX6_teamOf, Cond.code yX6_teamOf cX6_teamOf 2 (some .int), Cond.fieldLink RX6 101 "PaintballAtlasModel" "home" "I", Cond.fieldLink RX6 104 "PaintballAtlasModel" "away" "I"]
def wsX6_dispute_r2 : List Cond := [Cond.methodLink RX6 127 yX6_standsOn, Cond.instanceMethod yX6_standsOn, Cond.selects RX6 yX6_standsOn yX6_standsOn, Cond.code yX6_standsOn cX6_standsOn 4 (some .int)]
def wsX6_dispute : List Cond := .code yX6_dispute cX6_dispute 5 (some .boolean) :: ((wsX6_dispute_r1 ++ wsX6_dispute_r2) ++ wsX60)
def wsX6_end : List Cond := .code yX6_end cX6_end 4 (some .int) :: ([.fieldLink RX6 84 "PaintballAtlasModel" "isOn" "Z", .fieldLink RX6 17 "PaintballAtlasModel" "where" "[I", .fieldLink RX6 20 "PaintballAtlasModel" "hit" "[I", .fieldLink RX6 50 "PaintballAtlasModel" "points" "[I", .fieldLink RX6 101 "PaintballAtlasModel" "home" "I", .fieldLink RX6 104 "PaintballAtlasModel" "away" "I", .fieldLink RX6 59 "PaintballAtlasModel" "wins" "[I", .fieldLink RX6 56 "PaintballAtlasModel" "difference" "[I", .fieldLink RX6 53 "PaintballAtlasModel" "fines" "[I", .methodLink RX6 88 yX6_fails, .instanceMethod yX6_fails, .selects RX6 yX6_fails yX6_fails, .initialized RX6, .code yX6_fails cX6_fails 2 (some .boolean), .fieldLink RX6 62 "PaintballAtlasModel" "thrown" "I"] ++ wsX60)
def wsX6_tick : List Cond := .code yX6_tick cX6_tick 1 (some .int) :: ([.fieldLink RX6 62 "PaintballAtlasModel" "thrown" "I", .fieldLink RX6 84 "PaintballAtlasModel" "isOn" "Z", .fieldLink RX6 107 "PaintballAtlasModel" "tick" "I"] ++ wsX60)
def wsX6_where : List Cond := .code yX6_where cX6_where 2 (some .int) :: ([.fieldLink RX6 84 "PaintballAtlasModel" "isOn" "Z", .fieldLink RX6 17 "PaintballAtlasModel" "where" "[I", .methodLink RX6 120 yX6_isPlayer, .static yX6_isPlayer, .initialized RX6, .code yX6_isPlayer cX6_isPlayer 1 (some .boolean), .methodLink RX6 66 yX6_isIn, .static yX6_isIn, .code yX6_isIn cX6_isIn 3 (some .boolean), .methodLink RX6 88 yX6_fails, .instanceMethod yX6_fails, .selects RX6 yX6_fails yX6_fails, .code yX6_fails cX6_fails 2 (some .boolean), .fieldLink RX6 62 "PaintballAtlasModel" "thrown" "I"] ++ wsX60)
def wsX6_hit : List Cond := .code yX6_hit cX6_hit 2 (some .int) :: ([.fieldLink RX6 84 "PaintballAtlasModel" "isOn" "Z", .fieldLink RX6 20 "PaintballAtlasModel" "hit" "[I", .methodLink RX6 120 yX6_isPlayer, .static yX6_isPlayer, .initialized RX6, .code yX6_isPlayer cX6_isPlayer 1 (some .boolean), .methodLink RX6 66 yX6_isIn, .static yX6_isIn, .code yX6_isIn cX6_isIn 3 (some .boolean), .methodLink RX6 88 yX6_fails, .instanceMethod yX6_fails, .selects RX6 yX6_fails yX6_fails, .code yX6_fails cX6_fails 2 (some .boolean), .fieldLink RX6 62 "PaintballAtlasModel" "thrown" "I"] ++ wsX60)
def wsX6_flying : List Cond := .code yX6_flying cX6_flying 3 (some .int) :: ([.fieldLink RX6 62 "PaintballAtlasModel" "thrown" "I", .fieldLink RX6 110 "PaintballAtlasModel" "shots" "I", .fieldLink RX6 84 "PaintballAtlasModel" "isOn" "Z", .fieldLink RX6 35 "PaintballAtlasModel" "comes" "[I", .fieldLink RX6 107 "PaintballAtlasModel" "tick" "I"] ++ wsX60)
def wsX6_of : List Cond := .code yX6_of cX6_of 3 (some .int) :: ([.methodLink RX6 98 yX6_isTeam, .static yX6_isTeam, .initialized RX6, .code yX6_isTeam cX6_isTeam 1 (some .boolean), .methodLink RX6 66 yX6_isIn, .static yX6_isIn, .code yX6_isIn cX6_isIn 3 (some .boolean), .methodLink RX6 88 yX6_fails, .instanceMethod yX6_fails, .selects RX6 yX6_fails yX6_fails, .code yX6_fails cX6_fails 2 (some .boolean), .fieldLink RX6 62 "PaintballAtlasModel" "thrown" "I"] ++ wsX60)
def wsX6_points : List Cond := .code yX6_points cX6_points 2 (some .int) :: ([.fieldLink RX6 50 "PaintballAtlasModel" "points" "[I", .methodLink RX6 133 yX6_of, .instanceMethod yX6_of, .selects RX6 yX6_of yX6_of, .initialized RX6, .code yX6_of cX6_of 3 (some .int), .methodLink RX6 98 yX6_isTeam, .static yX6_isTeam, .code yX6_isTeam cX6_isTeam 1 (some .boolean), .methodLink RX6 66 yX6_isIn, .static yX6_isIn, .code yX6_isIn cX6_isIn 3 (some .boolean), .methodLink RX6 88 yX6_fails, .instanceMethod yX6_fails, .selects RX6 yX6_fails yX6_fails, .code yX6_fails cX6_fails 2 (some .boolean), .fieldLink RX6 62 "PaintballAtlasModel" "thrown" "I"] ++ wsX60)
def wsX6_fines : List Cond := .code yX6_fines cX6_fines 2 (some .int) :: ([.fieldLink RX6 53 "PaintballAtlasModel" "fines" "[I", .methodLink RX6 133 yX6_of, .instanceMethod yX6_of, .selects RX6 yX6_of yX6_of, .initialized RX6, .code yX6_of cX6_of 3 (some .int), .methodLink RX6 98 yX6_isTeam, .static yX6_isTeam, .code yX6_isTeam cX6_isTeam 1 (some .boolean), .methodLink RX6 66 yX6_isIn, .static yX6_isIn, .code yX6_isIn cX6_isIn 3 (some .boolean), .methodLink RX6 88 yX6_fails, .instanceMethod yX6_fails, .selects RX6 yX6_fails yX6_fails, .code yX6_fails cX6_fails 2 (some .boolean), .fieldLink RX6 62 "PaintballAtlasModel" "thrown" "I"] ++ wsX60)
def wsX6_difference : List Cond := .code yX6_difference cX6_difference 2 (some .int) :: ([.fieldLink RX6 56 "PaintballAtlasModel" "difference" "[I", .methodLink RX6 133 yX6_of, .instanceMethod yX6_of, .selects RX6 yX6_of yX6_of, .initialized RX6, .code yX6_of cX6_of 3 (some .int), .methodLink RX6 98 yX6_isTeam, .static yX6_isTeam, .code yX6_isTeam cX6_isTeam 1 (some .boolean), .methodLink RX6 66 yX6_isIn, .static yX6_isIn, .code yX6_isIn cX6_isIn 3 (some .boolean), .methodLink RX6 88 yX6_fails, .instanceMethod yX6_fails, .selects RX6 yX6_fails yX6_fails, .code yX6_fails cX6_fails 2 (some .boolean), .fieldLink RX6 62 "PaintballAtlasModel" "thrown" "I"] ++ wsX60)
def wsX6_isAhead : List Cond := .code yX6_isAhead cX6_isAhead 4 (some .boolean) :: ([.fieldLink RX6 59 "PaintballAtlasModel" "wins" "[I", .fieldLink RX6 50 "PaintballAtlasModel" "points" "[I", .fieldLink RX6 56 "PaintballAtlasModel" "difference" "[I"] ++ wsX60)
def wsX6_place : List Cond := .code yX6_place cX6_place 4 (some .int) :: ([.methodLink RX6 98 yX6_isTeam, .static yX6_isTeam, .initialized RX6, .code yX6_isTeam cX6_isTeam 1 (some .boolean), .methodLink RX6 66 yX6_isIn, .static yX6_isIn, .code yX6_isIn cX6_isIn 3 (some .boolean), .methodLink RX6 88 yX6_fails, .instanceMethod yX6_fails, .selects RX6 yX6_fails yX6_fails, .code yX6_fails cX6_fails 2 (some .boolean), .fieldLink RX6 62 "PaintballAtlasModel" "thrown" "I", .methodLink RX6 137 yX6_isAhead, .instanceMethod yX6_isAhead, .selects RX6 yX6_isAhead yX6_isAhead, .code yX6_isAhead cX6_isAhead 4 (some .boolean), .fieldLink RX6 59 "PaintballAtlasModel" "wins" "[I", .fieldLink RX6 50 "PaintballAtlasModel" "points" "[I", .fieldLink RX6 56 "PaintballAtlasModel" "difference" "[I"] ++ wsX60)
def wsJ9_abs_0f7a4 : List Cond := .code yJ9_abs_0f7a4 cJ9_abs_0f7a4 1 (some .int) :: ([])
def wsJ9_max_7cf53 : List Cond := .code yJ9_max_7cf53 cJ9_max_7cf53 2 (some .int) :: ([])
def wsJ9_min_7cf53 : List Cond := .code yJ9_min_7cf53 cJ9_min_7cf53 2 (some .int) :: ([])
def wsL_toggleBunker_r1 : List Cond := [Cond.classLink RL 13 "java/lang/IndexOutOfBoundsException", Cond.classLink RL 15 "java/lang/IllegalStateException", Cond.methodLink RL 7 yX5_toggleBunker, Cond.instanceMethod yX5_toggleBunker, Cond.selects RX5 yX5_toggleBunker yX5_toggleBunker, Cond.initialized RX5, Cond.code yX5_toggleBunker cX5_toggleBunker 2 (some .boolean), Cond.classLink RX5 42 "java/lang/IllegalStateException", Cond.initialized "java/lang/IllegalStateException", Cond.fieldLink RX5 19 "PaintballAtlas" "round" "LPaintballAtlas$Round;", Cond.fieldLink RX5 12 "PaintballAtlas" "field" "LPaintballAtlas$Field;", Cond.methodLink RX5 34 yX5_checkCell, Cond.static yX5_checkCell, Cond.code yX5_checkCell cX5_checkCell 1 none, Cond.classLink RX5 135 "java/lang/IndexOutOfBoundsException", Cond.initialized "java/lang/IndexOutOfBoundsException", Cond.methodLink RX5 38 yX2_isPlayed, Cond.instanceMethod yX2_isPlayed, Cond.selects RX2 yX2_isPlayed yX2_isPlayed, Cond.initialized RX2, Cond.code yX2_isPlayed cX2_isPlayed 1 (some .boolean), Cond.fieldLink RX2 9 "PaintballAtlas$Round" "tick" "I", Cond.methodLink RX5 49 yX1_turnBunker, Cond.instanceMethod yX1_turnBunker]
def wsL_toggleBunker_r2 : List Cond := [Cond.selects RX1 yX1_turnBunker yX1_turnBunker, Cond.initialized RX1, Cond.code yX1_turnBunker cX1_turnBunker 2 (some .boolean), Cond.fieldLink RX1 9 "PaintballAtlas$Field" "bunkers" "[Z"]
def wsL_toggleBunker : List Cond := .codeWith yL_toggleBunker cL_toggleBunker 4 (some .int) [(0, 16, 19, 13), (0, 16, 22, 15)] :: ((wsL_toggleBunker_r1 ++ wsL_toggleBunker_r2) ++ wsX50 ++ wsX20 ++ wsX10 ++ (vx_atS RX5 46 "java/lang/IllegalStateException" ["java/lang/RuntimeException", "java/lang/Exception"]).filter goodWord ++ (vx_atS RX5 139 "java/lang/IndexOutOfBoundsException" ["java/lang/RuntimeException", "java/lang/Exception"]).filter goodWord)
def wsL_sees_r1 : List Cond := [Cond.classLink RL 13 "java/lang/IndexOutOfBoundsException", Cond.methodLink RL 17 yX5_sees, Cond.instanceMethod yX5_sees, Cond.selects RX5 yX5_sees yX5_sees, Cond.initialized RX5, Cond.code yX5_sees cX5_sees 3 (some .boolean), Cond.fieldLink RX5 12 "PaintballAtlas" "field" "LPaintballAtlas$Field;", Cond.methodLink RX5 34 yX5_checkCell, Cond.static yX5_checkCell, Cond.code yX5_checkCell cX5_checkCell 1 none, Cond.classLink RX5 135 "java/lang/IndexOutOfBoundsException", Cond.initialized "java/lang/IndexOutOfBoundsException", Cond.methodLink RX5 53 yX1_hasSight, Cond.instanceMethod yX1_hasSight, Cond.selects RX1 yX1_hasSight yX1_hasSight, Cond.initialized RX1, Cond.code yX1_hasSight cX1_hasSight 10 (some .boolean), Cond.fieldLink RX1 9 "PaintballAtlas$Field" "bunkers" "[Z", Cond.methodLink RX1 29 Lib.Math.min.name, Cond.static Lib.Math.min.name, Cond.initialized "java/lang/Math", Cond.code Lib.Math.min.name Lib.Math.min.code 2 (some .int), Cond.methodLink RX1 21 Lib.Math.max.name, Cond.static Lib.Math.max.name]
def wsL_sees_r2 : List Cond := [Cond.code Lib.Math.max.name Lib.Math.max.code 2 (some .int), Cond.methodLink RX1 32 yX1_lineEnters, Cond.static yX1_lineEnters, Cond.code yX1_lineEnters cX1_lineEnters 8 (some .boolean), Cond.methodLink RX1 15 Lib.Math.abs.name, Cond.static Lib.Math.abs.name, Cond.code Lib.Math.abs.name Lib.Math.abs.code 1 (some .int)]
def wsL_sees : List Cond := .codeWith yL_sees cL_sees 5 (some .int) [(0, 17, 20, 13)] :: ((wsL_sees_r1 ++ wsL_sees_r2) ++ wsX50 ++ wsX10 ++ (vx_atS RX5 139 "java/lang/IndexOutOfBoundsException" ["java/lang/RuntimeException", "java/lang/Exception"]).filter goodWord)
def wsL_view_r1 : List Cond := [Cond.classLink RL 13 "java/lang/IndexOutOfBoundsException", Cond.methodLink RL 21 yX5_view, Cond.instanceMethod yX5_view, Cond.selects RX5 yX5_view yX5_view, Cond.initialized RX5, Cond.code yX5_view cX5_view 2 (some .int), Cond.fieldLink RX5 12 "PaintballAtlas" "field" "LPaintballAtlas$Field;", Cond.methodLink RX5 34 yX5_checkCell, Cond.static yX5_checkCell, Cond.code yX5_checkCell cX5_checkCell 1 none, Cond.classLink RX5 135 "java/lang/IndexOutOfBoundsException", Cond.initialized "java/lang/IndexOutOfBoundsException", Cond.methodLink RX5 57 yX1_countSeen, Cond.instanceMethod yX1_countSeen, Cond.selects RX1 yX1_countSeen yX1_countSeen, Cond.initialized RX1, Cond.code yX1_countSeen cX1_countSeen 4 (some .int), Cond.methodLink RX1 25 yX1_hasSight, Cond.instanceMethod yX1_hasSight, Cond.selects RX1 yX1_hasSight yX1_hasSight, Cond.code yX1_hasSight cX1_hasSight 10 (some .boolean), Cond.fieldLink RX1 9 "PaintballAtlas$Field" "bunkers" "[Z", Cond.methodLink RX1 29 Lib.Math.min.name, Cond.static Lib.Math.min.name]
def wsL_view_r2 : List Cond := [Cond.initialized "java/lang/Math", Cond.code Lib.Math.min.name Lib.Math.min.code 2 (some .int), Cond.methodLink RX1 21 Lib.Math.max.name, Cond.static Lib.Math.max.name, Cond.code Lib.Math.max.name Lib.Math.max.code 2 (some .int), Cond.methodLink RX1 32 yX1_lineEnters, Cond.static yX1_lineEnters, Cond.code yX1_lineEnters cX1_lineEnters 8 (some .boolean), Cond.methodLink RX1 15 Lib.Math.abs.name, Cond.static Lib.Math.abs.name, Cond.code Lib.Math.abs.name Lib.Math.abs.code 1 (some .int)]
def wsL_view : List Cond := .codeWith yL_view cL_view 4 (some .int) [(0, 9, 12, 13)] :: ((wsL_view_r1 ++ wsL_view_r2) ++ wsX50 ++ wsX10 ++ (vx_atS RX5 139 "java/lang/IndexOutOfBoundsException" ["java/lang/RuntimeException", "java/lang/Exception"]).filter goodWord)
def wsL_setReferee : List Cond := .codeWith yL_setReferee cL_setReferee 5 (some .int) [(0, 10, 13, 13)] :: ([.classLink RL 13 "java/lang/IndexOutOfBoundsException", .methodLink RL 25 yX5_setReferee, .instanceMethod yX5_setReferee, .selects RX5 yX5_setReferee yX5_setReferee, .initialized RX5, .code yX5_setReferee cX5_setReferee 4 (some .int), .fieldLink RX5 30 "PaintballAtlas" "refereeCells" "[I", .methodLink RX5 61 yX5_checkReferee, .static yX5_checkReferee, .code yX5_checkReferee cX5_checkReferee 1 none, .classLink RX5 135 "java/lang/IndexOutOfBoundsException", .initialized "java/lang/IndexOutOfBoundsException", .methodLink RX5 34 yX5_checkCell, .static yX5_checkCell, .code yX5_checkCell cX5_checkCell 1 none] ++ wsX50 ++ (vx_atS RX5 139 "java/lang/IndexOutOfBoundsException" ["java/lang/RuntimeException", "java/lang/Exception"]).filter goodWord)
def wsL_begin_r1 : List Cond := [Cond.classLink RL 13 "java/lang/IndexOutOfBoundsException", Cond.classLink RL 33 "java/lang/IllegalArgumentException", Cond.classLink RL 15 "java/lang/IllegalStateException", Cond.methodLink RL 29 yX5_begin, Cond.instanceMethod yX5_begin, Cond.selects RX5 yX5_begin yX5_begin, Cond.initialized RX5, Cond.code yX5_begin cX5_begin 3 none, Cond.classLink RX5 67 "java/lang/IllegalArgumentException", Cond.initialized "java/lang/IllegalArgumentException", Cond.classLink RX5 42 "java/lang/IllegalStateException", Cond.initialized "java/lang/IllegalStateException", Cond.fieldLink RX5 19 "PaintballAtlas" "round" "LPaintballAtlas$Round;", Cond.methodLink RX5 64 yX5_checkTeam, Cond.static yX5_checkTeam, Cond.code yX5_checkTeam cX5_checkTeam 1 none, Cond.classLink RX5 135 "java/lang/IndexOutOfBoundsException", Cond.initialized "java/lang/IndexOutOfBoundsException", Cond.methodLink RX5 38 yX2_isPlayed, Cond.instanceMethod yX2_isPlayed, Cond.selects RX2 yX2_isPlayed yX2_isPlayed, Cond.initialized RX2, Cond.code yX2_isPlayed cX2_isPlayed 1 (some .boolean), Cond.fieldLink RX2 9 "PaintballAtlas$Round" "tick" "I"]
def wsL_begin_r2 : List Cond := [Cond.methodLink RX5 72 yX2_start, Cond.instanceMethod yX2_start, Cond.selects RX2 yX2_start yX2_start, Cond.code yX2_start cX2_start 3 none, Cond.fieldLink RX2 43 "PaintballAtlas$Round" "home" "I", Cond.fieldLink RX2 46 "PaintballAtlas$Round" "away" "I", Cond.methodLink RX2 39 yX2_reset, Cond.instanceMethod yX2_reset, Cond.selects RX2 yX2_reset yX2_reset, Cond.code yX2_reset cX2_reset 3 none, Cond.fieldLink RX2 15 "PaintballAtlas$Round" "cells" "[I", Cond.fieldLink RX2 19 "PaintballAtlas$Round" "hits" "[I", Cond.fieldLink RX2 22 "PaintballAtlas$Round" "lastShots" "[I", Cond.fieldLink RX2 28 "PaintballAtlas$Round" "shots" "LPaintballAtlas$Shots;", Cond.fieldLink RX2 49 "PaintballAtlas$Shots" "count" "I", Cond.fieldLink RX2 35 "PaintballAtlas$Round" "calls" "LPaintballAtlas$Calls;", Cond.fieldLink RX2 52 "PaintballAtlas$Calls" "count" "I"]
def wsL_begin : List Cond := .codeWith yL_begin cL_begin 4 (some .int) [(0, 6, 9, 13), (0, 6, 12, 33), (0, 6, 15, 15)] :: ((wsL_begin_r1 ++ wsL_begin_r2) ++ wsX50 ++ wsX20 ++ wsX30 ++ wsX00 ++ (vx_atS RX5 71 "java/lang/IllegalArgumentException" ["java/lang/RuntimeException", "java/lang/Exception"]).filter goodWord ++ (vx_atS RX5 46 "java/lang/IllegalStateException" ["java/lang/RuntimeException", "java/lang/Exception"]).filter goodWord ++ (vx_atS RX5 139 "java/lang/IndexOutOfBoundsException" ["java/lang/RuntimeException", "java/lang/Exception"]).filter goodWord)
def wsL_move_r1 : List Cond := [Cond.classLink RL 13 "java/lang/IndexOutOfBoundsException", Cond.classLink RL 15 "java/lang/IllegalStateException", Cond.methodLink RL 35 yX5_move, Cond.instanceMethod yX5_move, Cond.selects RX5 yX5_move yX5_move, Cond.initialized RX5, Cond.code yX5_move cX5_move 4 (some .int), Cond.classLink RX5 42 "java/lang/IllegalStateException", Cond.initialized "java/lang/IllegalStateException", Cond.fieldLink RX5 19 "PaintballAtlas" "round" "LPaintballAtlas$Round;", Cond.fieldLink RX5 12 "PaintballAtlas" "field" "LPaintballAtlas$Field;", Cond.methodLink RX5 76 yX5_checkPlayer, Cond.static yX5_checkPlayer, Cond.code yX5_checkPlayer cX5_checkPlayer 1 none, Cond.classLink RX5 135 "java/lang/IndexOutOfBoundsException", Cond.initialized "java/lang/IndexOutOfBoundsException", Cond.methodLink RX5 34 yX5_checkCell, Cond.static yX5_checkCell, Cond.code yX5_checkCell cX5_checkCell 1 none, Cond.methodLink RX5 79 yX5_checkRound, Cond.instanceMethod yX5_checkRound, Cond.selects RX5 yX5_checkRound yX5_checkRound, Cond.code yX5_checkRound cX5_checkRound 1 none, Cond.methodLink RX5 38 yX2_isPlayed]
def wsL_move_r2 : List Cond := [Cond.instanceMethod yX2_isPlayed, Cond.selects RX2 yX2_isPlayed yX2_isPlayed, Cond.initialized RX2, Cond.code yX2_isPlayed cX2_isPlayed 1 (some .boolean), Cond.fieldLink RX2 9 "PaintballAtlas$Round" "tick" "I", Cond.methodLink RX5 82 yX2_cellOf, Cond.instanceMethod yX2_cellOf, Cond.selects RX2 yX2_cellOf yX2_cellOf, Cond.code yX2_cellOf cX2_cellOf 2 (some .int), Cond.fieldLink RX2 15 "PaintballAtlas$Round" "cells" "[I", Cond.methodLink RX5 87 yX1_distance, Cond.static yX1_distance, Cond.initialized RX1, Cond.code yX1_distance cX1_distance 4 (some .int), Cond.methodLink RX1 15 Lib.Math.abs.name, Cond.static Lib.Math.abs.name, Cond.initialized "java/lang/Math", Cond.code Lib.Math.abs.name Lib.Math.abs.code 1 (some .int), Cond.methodLink RX1 21 Lib.Math.max.name, Cond.static Lib.Math.max.name, Cond.code Lib.Math.max.name Lib.Math.max.code 2 (some .int), Cond.methodLink RX5 93 yX1_hasBunker, Cond.instanceMethod yX1_hasBunker, Cond.selects RX1 yX1_hasBunker yX1_hasBunker]
def wsL_move_r3 : List Cond := [Cond.code yX1_hasBunker cX1_hasBunker 2 (some .boolean), Cond.fieldLink RX1 9 "PaintballAtlas$Field" "bunkers" "[Z", Cond.methodLink RX5 96 yX2_playerOn, Cond.instanceMethod yX2_playerOn, Cond.selects RX2 yX2_playerOn yX2_playerOn, Cond.code yX2_playerOn cX2_playerOn 3 (some .int), Cond.methodLink RX5 101 yX2_put, Cond.instanceMethod yX2_put, Cond.selects RX2 yX2_put yX2_put, Cond.code yX2_put cX2_put 3 none]
def wsL_move : List Cond := .codeWith yL_move cL_move 5 (some .int) [(0, 10, 13, 13), (0, 10, 17, 15)] :: ((wsL_move_r1 ++ (wsL_move_r2 ++ wsL_move_r3)) ++ wsX50 ++ wsX20 ++ wsX10 ++ (vx_atS RX5 46 "java/lang/IllegalStateException" ["java/lang/RuntimeException", "java/lang/Exception"]).filter goodWord ++ (vx_atS RX5 139 "java/lang/IndexOutOfBoundsException" ["java/lang/RuntimeException", "java/lang/Exception"]).filter goodWord)
def wsL_shoot_r1 : List Cond := [Cond.classLink RL 13 "java/lang/IndexOutOfBoundsException", Cond.classLink RL 15 "java/lang/IllegalStateException", Cond.methodLink RL 38 yX5_shoot, Cond.instanceMethod yX5_shoot, Cond.selects RX5 yX5_shoot yX5_shoot, Cond.initialized RX5, Cond.code yX5_shoot cX5_shoot 4 (some .int), Cond.classLink RX5 42 "java/lang/IllegalStateException", Cond.initialized "java/lang/IllegalStateException", Cond.fieldLink RX5 19 "PaintballAtlas" "round" "LPaintballAtlas$Round;", Cond.methodLink RX5 76 yX5_checkPlayer, Cond.static yX5_checkPlayer, Cond.code yX5_checkPlayer cX5_checkPlayer 1 none, Cond.classLink RX5 135 "java/lang/IndexOutOfBoundsException", Cond.initialized "java/lang/IndexOutOfBoundsException", Cond.methodLink RX5 34 yX5_checkCell, Cond.static yX5_checkCell, Cond.code yX5_checkCell cX5_checkCell 1 none, Cond.methodLink RX5 79 yX5_checkRound, Cond.instanceMethod yX5_checkRound, Cond.selects RX5 yX5_checkRound yX5_checkRound, Cond.code yX5_checkRound cX5_checkRound 1 none, Cond.methodLink RX5 38 yX2_isPlayed, Cond.instanceMethod yX2_isPlayed]
def wsL_shoot_r2 : List Cond := [Cond.selects RX2 yX2_isPlayed yX2_isPlayed, Cond.initialized RX2, Cond.code yX2_isPlayed cX2_isPlayed 1 (some .boolean), Cond.fieldLink RX2 9 "PaintballAtlas$Round" "tick" "I", Cond.methodLink RX5 82 yX2_cellOf, Cond.instanceMethod yX2_cellOf, Cond.selects RX2 yX2_cellOf yX2_cellOf, Cond.code yX2_cellOf cX2_cellOf 2 (some .int), Cond.fieldLink RX2 15 "PaintballAtlas$Round" "cells" "[I", Cond.methodLink RX5 108 yX2_mayFire, Cond.instanceMethod yX2_mayFire, Cond.selects RX2 yX2_mayFire yX2_mayFire, Cond.code yX2_mayFire cX2_mayFire 2 (some .boolean), Cond.fieldLink RX2 22 "PaintballAtlas$Round" "lastShots" "[I", Cond.fieldLink RX2 28 "PaintballAtlas$Round" "shots" "LPaintballAtlas$Shots;", Cond.fieldLink RX2 49 "PaintballAtlas$Shots" "count" "I", Cond.methodLink RX5 113 yX2_fire, Cond.instanceMethod yX2_fire, Cond.selects RX2 yX2_fire yX2_fire, Cond.code yX2_fire cX2_fire 5 (some .int), Cond.methodLink RX2 53 yX1_distance, Cond.static yX1_distance, Cond.initialized RX1, Cond.code yX1_distance cX1_distance 4 (some .int)]
def wsL_shoot_r3 : List Cond := [Cond.methodLink RX1 15 Lib.Math.abs.name, Cond.static Lib.Math.abs.name, Cond.initialized "java/lang/Math", Cond.code Lib.Math.abs.name Lib.Math.abs.code 1 (some .int), Cond.methodLink RX1 21 Lib.Math.max.name, Cond.static Lib.Math.max.name, Cond.code Lib.Math.max.name Lib.Math.max.code 2 (some .int), Cond.methodLink RX2 59 yX3_add, Cond.instanceMethod yX3_add, Cond.selects RX3 yX3_add yX3_add, Cond.initialized RX3, Cond.code yX3_add cX3_add 5 none, Cond.fieldLink RX3 9 "PaintballAtlas$Shots" "shooters" "[I", Cond.fieldLink RX3 24 "PaintballAtlas$Shots" "count" "I", Cond.fieldLink RX3 15 "PaintballAtlas$Shots" "origins" "[I", Cond.fieldLink RX3 18 "PaintballAtlas$Shots" "targets" "[I", Cond.fieldLink RX3 21 "PaintballAtlas$Shots" "arrivals" "[I"]
def wsL_shoot : List Cond := .codeWith yL_shoot cL_shoot 5 (some .int) [(0, 10, 13, 13), (0, 10, 17, 15)] :: ((wsL_shoot_r1 ++ (wsL_shoot_r2 ++ wsL_shoot_r3)) ++ wsX50 ++ wsX20 ++ wsX30 ++ (vx_atS RX5 46 "java/lang/IllegalStateException" ["java/lang/RuntimeException", "java/lang/Exception"]).filter goodWord ++ (vx_atS RX5 139 "java/lang/IndexOutOfBoundsException" ["java/lang/RuntimeException", "java/lang/Exception"]).filter goodWord)
def wsL_pass_r1 : List Cond := [Cond.classLink RL 33 "java/lang/IllegalArgumentException", Cond.classLink RL 15 "java/lang/IllegalStateException", Cond.methodLink RL 41 yX5_pass, Cond.instanceMethod yX5_pass, Cond.selects RX5 yX5_pass yX5_pass, Cond.initialized RX5, Cond.code yX5_pass cX5_pass 4 (some .int), Cond.classLink RX5 67 "java/lang/IllegalArgumentException", Cond.initialized "java/lang/IllegalArgumentException", Cond.fieldLink RX5 19 "PaintballAtlas" "round" "LPaintballAtlas$Round;", Cond.fieldLink RX5 12 "PaintballAtlas" "field" "LPaintballAtlas$Field;", Cond.methodLink RX5 79 yX5_checkRound, Cond.instanceMethod yX5_checkRound, Cond.selects RX5 yX5_checkRound yX5_checkRound, Cond.code yX5_checkRound cX5_checkRound 1 none, Cond.classLink RX5 42 "java/lang/IllegalStateException", Cond.initialized "java/lang/IllegalStateException", Cond.methodLink RX5 38 yX2_isPlayed, Cond.instanceMethod yX2_isPlayed, Cond.selects RX2 yX2_isPlayed yX2_isPlayed, Cond.initialized RX2, Cond.code yX2_isPlayed cX2_isPlayed 1 (some .boolean), Cond.fieldLink RX2 9 "PaintballAtlas$Round" "tick" "I", Cond.methodLink RX5 118 yX2_nextTick]
def wsL_pass_r2 : List Cond := [Cond.instanceMethod yX2_nextTick, Cond.selects RX2 yX2_nextTick yX2_nextTick, Cond.code yX2_nextTick cX2_nextTick 4 (some .int), Cond.fieldLink RX2 28 "PaintballAtlas$Round" "shots" "LPaintballAtlas$Shots;", Cond.fieldLink RX2 49 "PaintballAtlas$Shots" "count" "I", Cond.fieldLink RX2 63 "PaintballAtlas$Shots" "arrivals" "[I", Cond.methodLink RX2 66 yX2_strikes, Cond.instanceMethod yX2_strikes, Cond.selects RX2 yX2_strikes yX2_strikes, Cond.code yX2_strikes cX2_strikes 5 (some .boolean), Cond.fieldLink RX2 70 "PaintballAtlas$Shots" "targets" "[I", Cond.fieldLink RX2 77 "PaintballAtlas$Shots" "shooters" "[I", Cond.fieldLink RX2 80 "PaintballAtlas$Shots" "origins" "[I", Cond.fieldLink RX2 19 "PaintballAtlas$Round" "hits" "[I", Cond.methodLink RX2 73 yX2_playerOn, Cond.instanceMethod yX2_playerOn, Cond.selects RX2 yX2_playerOn yX2_playerOn, Cond.code yX2_playerOn cX2_playerOn 3 (some .int), Cond.fieldLink RX2 15 "PaintballAtlas$Round" "cells" "[I", Cond.methodLink RX2 83 yX1_hasSight, Cond.instanceMethod yX1_hasSight, Cond.selects RX1 yX1_hasSight yX1_hasSight, Cond.initialized RX1, Cond.code yX1_hasSight cX1_hasSight 10 (some .boolean)]
def wsL_pass_r3 : List Cond := [Cond.fieldLink RX1 9 "PaintballAtlas$Field" "bunkers" "[Z", Cond.methodLink RX1 29 Lib.Math.min.name, Cond.static Lib.Math.min.name, Cond.initialized "java/lang/Math", Cond.code Lib.Math.min.name Lib.Math.min.code 2 (some .int), Cond.methodLink RX1 21 Lib.Math.max.name, Cond.static Lib.Math.max.name, Cond.code Lib.Math.max.name Lib.Math.max.code 2 (some .int), Cond.methodLink RX1 32 yX1_lineEnters, Cond.static yX1_lineEnters, Cond.code yX1_lineEnters cX1_lineEnters 8 (some .boolean), Cond.methodLink RX1 15 Lib.Math.abs.name, Cond.static Lib.Math.abs.name, Cond.code Lib.Math.abs.name Lib.Math.abs.code 1 (some .int)]
def wsL_pass : List Cond := .codeWith yL_pass cL_pass 4 (some .int) [(0, 9, 12, 33), (0, 9, 15, 15)] :: ((wsL_pass_r1 ++ (wsL_pass_r2 ++ wsL_pass_r3)) ++ wsX50 ++ wsX20 ++ wsX30 ++ wsX10 ++ (vx_atS RX5 71 "java/lang/IllegalArgumentException" ["java/lang/RuntimeException", "java/lang/Exception"]).filter goodWord ++ (vx_atS RX5 46 "java/lang/IllegalStateException" ["java/lang/RuntimeException", "java/lang/Exception"]).filter goodWord)
def wsL_call_r1 : List Cond := [Cond.classLink RL 13 "java/lang/IndexOutOfBoundsException", Cond.classLink RL 15 "java/lang/IllegalStateException", Cond.methodLink RL 44 yX5_call, Cond.instanceMethod yX5_call, Cond.selects RX5 yX5_call yX5_call, Cond.initialized RX5, Cond.code yX5_call cX5_call 4 (some .int), Cond.classLink RX5 42 "java/lang/IllegalStateException", Cond.initialized "java/lang/IllegalStateException", Cond.fieldLink RX5 19 "PaintballAtlas" "round" "LPaintballAtlas$Round;", Cond.fieldLink RX5 12 "PaintballAtlas" "field" "LPaintballAtlas$Field;", Cond.fieldLink RX5 30 "PaintballAtlas" "refereeCells" "[I", Cond.methodLink RX5 61 yX5_checkReferee, Cond.static yX5_checkReferee, Cond.code yX5_checkReferee cX5_checkReferee 1 none, Cond.classLink RX5 135 "java/lang/IndexOutOfBoundsException", Cond.initialized "java/lang/IndexOutOfBoundsException", Cond.methodLink RX5 76 yX5_checkPlayer, Cond.static yX5_checkPlayer, Cond.code yX5_checkPlayer cX5_checkPlayer 1 none, Cond.methodLink RX5 79 yX5_checkRound, Cond.instanceMethod yX5_checkRound, Cond.selects RX5 yX5_checkRound yX5_checkRound, Cond.code yX5_checkRound cX5_checkRound 1 none]
def wsL_call_r2 : List Cond := [Cond.methodLink RX5 38 yX2_isPlayed, Cond.instanceMethod yX2_isPlayed, Cond.selects RX2 yX2_isPlayed yX2_isPlayed, Cond.initialized RX2, Cond.code yX2_isPlayed cX2_isPlayed 1 (some .boolean), Cond.fieldLink RX2 9 "PaintballAtlas$Round" "tick" "I", Cond.methodLink RX5 82 yX2_cellOf, Cond.instanceMethod yX2_cellOf, Cond.selects RX2 yX2_cellOf yX2_cellOf, Cond.code yX2_cellOf cX2_cellOf 2 (some .int), Cond.fieldLink RX2 15 "PaintballAtlas$Round" "cells" "[I", Cond.methodLink RX5 53 yX1_hasSight, Cond.instanceMethod yX1_hasSight, Cond.selects RX1 yX1_hasSight yX1_hasSight, Cond.initialized RX1, Cond.code yX1_hasSight cX1_hasSight 10 (some .boolean), Cond.fieldLink RX1 9 "PaintballAtlas$Field" "bunkers" "[Z", Cond.methodLink RX1 29 Lib.Math.min.name, Cond.static Lib.Math.min.name, Cond.initialized "java/lang/Math", Cond.code Lib.Math.min.name Lib.Math.min.code 2 (some .int), Cond.methodLink RX1 21 Lib.Math.max.name, Cond.static Lib.Math.max.name, Cond.code Lib.Math.max.name Lib.Math.max.code 2 (some .int)]
def wsL_call_r3 : List Cond := [Cond.methodLink RX1 32 yX1_lineEnters, Cond.static yX1_lineEnters, Cond.code yX1_lineEnters cX1_lineEnters 8 (some .boolean), Cond.methodLink RX1 15 Lib.Math.abs.name, Cond.static Lib.Math.abs.name, Cond.code Lib.Math.abs.name Lib.Math.abs.code 1 (some .int), Cond.methodLink RX5 124 yX2_mayCall, Cond.instanceMethod yX2_mayCall, Cond.selects RX2 yX2_mayCall yX2_mayCall, Cond.code yX2_mayCall cX2_mayCall 1 (some .boolean), Cond.fieldLink RX2 35 "PaintballAtlas$Round" "calls" "LPaintballAtlas$Calls;", Cond.fieldLink RX2 52 "PaintballAtlas$Calls" "count" "I", Cond.methodLink RX5 129 yX2_callOut, Cond.instanceMethod yX2_callOut, Cond.selects RX2 yX2_callOut yX2_callOut, Cond.code yX2_callOut cX2_callOut 3 (some .int), Cond.methodLink RX2 87 yX0_add, Cond.instanceMethod yX0_add, Cond.selects RX0 yX0_add yX0_add, Cond.initialized RX0, Cond.code yX0_add cX0_add 4 (some .int), Cond.fieldLink RX0 9 "PaintballAtlas$Calls" "players" "[I", Cond.fieldLink RX0 25 "PaintballAtlas$Calls" "count" "I", Cond.fieldLink RX0 15 "PaintballAtlas$Calls" "cells" "[I"]
def wsL_call_r4 : List Cond := [Cond.fieldLink RX0 18 "PaintballAtlas$Calls" "ticks" "[I", Cond.fieldLink RX0 21 "PaintballAtlas$Calls" "disputed" "[Z"]
def wsL_call : List Cond := .codeWith yL_call cL_call 5 (some .int) [(0, 10, 13, 13), (0, 10, 17, 15)] :: ((wsL_call_r1 ++ (wsL_call_r2 ++ (wsL_call_r3 ++ wsL_call_r4))) ++ wsX50 ++ wsX20 ++ wsX10 ++ wsX00 ++ (vx_atS RX5 46 "java/lang/IllegalStateException" ["java/lang/RuntimeException", "java/lang/Exception"]).filter goodWord ++ (vx_atS RX5 139 "java/lang/IndexOutOfBoundsException" ["java/lang/RuntimeException", "java/lang/Exception"]).filter goodWord)
def wsL_dispute_r1 : List Cond := [Cond.classLink RL 13 "java/lang/IndexOutOfBoundsException", Cond.classLink RL 15 "java/lang/IllegalStateException", Cond.methodLink RL 47 yX5_dispute, Cond.instanceMethod yX5_dispute, Cond.selects RX5 yX5_dispute yX5_dispute, Cond.initialized RX5, Cond.code yX5_dispute cX5_dispute 3 (some .boolean), Cond.classLink RX5 135 "java/lang/IndexOutOfBoundsException", Cond.initialized "java/lang/IndexOutOfBoundsException", Cond.classLink RX5 42 "java/lang/IllegalStateException", Cond.initialized "java/lang/IllegalStateException", Cond.fieldLink RX5 19 "PaintballAtlas" "round" "LPaintballAtlas$Round;", Cond.fieldLink RX5 26 "PaintballAtlas" "table" "LPaintballAtlas$Table;", Cond.methodLink RX5 132 yX2_hasCall, Cond.instanceMethod yX2_hasCall, Cond.selects RX2 yX2_hasCall yX2_hasCall, Cond.initialized RX2, Cond.code yX2_hasCall cX2_hasCall 2 (some .boolean), Cond.fieldLink RX2 35 "PaintballAtlas$Round" "calls" "LPaintballAtlas$Calls;", Cond.fieldLink RX2 52 "PaintballAtlas$Calls" "count" "I", Cond.methodLink RX5 140 yX2_isDisputed, Cond.instanceMethod yX2_isDisputed, Cond.selects RX2 yX2_isDisputed yX2_isDisputed, Cond.code yX2_isDisputed cX2_isDisputed 2 (some .boolean)]
def wsL_dispute_r2 : List Cond := [Cond.fieldLink RX2 90 "PaintballAtlas$Calls" "disputed" "[Z", Cond.methodLink RX5 145 yX2_judge, Cond.instanceMethod yX2_judge, Cond.selects RX2 yX2_judge yX2_judge, Cond.code yX2_judge cX2_judge 4 (some .boolean), Cond.fieldLink RX2 94 "PaintballAtlas$Calls" "players" "[I", Cond.fieldLink RX2 19 "PaintballAtlas$Round" "hits" "[I", Cond.fieldLink RX2 97 "PaintballAtlas$Calls" "ticks" "[I", Cond.fieldLink RX2 100 "PaintballAtlas$Calls" "cells" "[I", Cond.fieldLink RX2 15 "PaintballAtlas$Round" "cells" "[I", Cond.methodLink RX2 73 yX2_playerOn, Cond.instanceMethod yX2_playerOn, Cond.selects RX2 yX2_playerOn yX2_playerOn, Cond.code yX2_playerOn cX2_playerOn 3 (some .int), Cond.methodLink RX5 148 yX2_teamCalled, Cond.instanceMethod yX2_teamCalled, Cond.selects RX2 yX2_teamCalled yX2_teamCalled, Cond.code yX2_teamCalled cX2_teamCalled 2 (some .int), Cond.fieldLink RX2 43 "PaintballAtlas$Round" "home" "I", Cond.fieldLink RX2 46 "PaintballAtlas$Round" "away" "I", Cond.methodLink RX5 151 yX4_fine, Cond.instanceMethod yX4_fine, Cond.selects RX4 yX4_fine yX4_fine, Cond.initialized RX4]
def wsL_dispute_r3 : List Cond := [Cond.code yX4_fine cX4_fine 2 none, Cond.fieldLink RX4 15 "PaintballAtlas$Table" "fines" "[I"]
def wsL_dispute : List Cond := .codeWith yL_dispute cL_dispute 4 (some .int) [(0, 16, 19, 13), (0, 16, 22, 15)] :: ((wsL_dispute_r1 ++ (wsL_dispute_r2 ++ wsL_dispute_r3)) ++ wsX50 ++ wsX20 ++ wsX00 ++ wsX40 ++ (vx_atS RX5 139 "java/lang/IndexOutOfBoundsException" ["java/lang/RuntimeException", "java/lang/Exception"]).filter goodWord ++ (vx_atS RX5 46 "java/lang/IllegalStateException" ["java/lang/RuntimeException", "java/lang/Exception"]).filter goodWord)
def wsL_end_r1 : List Cond := [Cond.classLink RL 15 "java/lang/IllegalStateException", Cond.methodLink RL 50 yX5_end, Cond.instanceMethod yX5_end, Cond.selects RX5 yX5_end yX5_end, Cond.initialized RX5, Cond.code yX5_end cX5_end 2 (some .int), Cond.fieldLink RX5 19 "PaintballAtlas" "round" "LPaintballAtlas$Round;", Cond.fieldLink RX5 26 "PaintballAtlas" "table" "LPaintballAtlas$Table;", Cond.methodLink RX5 79 yX5_checkRound, Cond.instanceMethod yX5_checkRound, Cond.selects RX5 yX5_checkRound yX5_checkRound, Cond.code yX5_checkRound cX5_checkRound 1 none, Cond.classLink RX5 42 "java/lang/IllegalStateException", Cond.initialized "java/lang/IllegalStateException", Cond.methodLink RX5 38 yX2_isPlayed, Cond.instanceMethod yX2_isPlayed, Cond.selects RX2 yX2_isPlayed yX2_isPlayed, Cond.initialized RX2, Cond.code yX2_isPlayed cX2_isPlayed 1 (some .boolean), Cond.fieldLink RX2 9 "PaintballAtlas$Round" "tick" "I", Cond.methodLink RX5 154 yX2_margin, Cond.instanceMethod yX2_margin, Cond.selects RX2 yX2_margin yX2_margin, Cond.code yX2_margin cX2_margin 3 (some .int)]
def wsL_end_r2 : List Cond := [Cond.fieldLink RX2 15 "PaintballAtlas$Round" "cells" "[I", Cond.fieldLink RX2 19 "PaintballAtlas$Round" "hits" "[I", Cond.methodLink RX5 158 yX2_homeTeam, Cond.instanceMethod yX2_homeTeam, Cond.selects RX2 yX2_homeTeam yX2_homeTeam, Cond.code yX2_homeTeam cX2_homeTeam 1 (some .int), Cond.fieldLink RX2 43 "PaintballAtlas$Round" "home" "I", Cond.methodLink RX5 161 yX2_awayTeam, Cond.instanceMethod yX2_awayTeam, Cond.selects RX2 yX2_awayTeam yX2_awayTeam, Cond.code yX2_awayTeam cX2_awayTeam 1 (some .int), Cond.fieldLink RX2 46 "PaintballAtlas$Round" "away" "I", Cond.methodLink RX5 164 yX4_enter, Cond.instanceMethod yX4_enter, Cond.selects RX4 yX4_enter yX4_enter, Cond.initialized RX4, Cond.code yX4_enter cX4_enter 4 none, Cond.fieldLink RX4 18 "PaintballAtlas$Table" "differences" "[I", Cond.fieldLink RX4 9 "PaintballAtlas$Table" "points" "[I", Cond.methodLink RX4 26 yX4_enterWin, Cond.instanceMethod yX4_enterWin, Cond.selects RX4 yX4_enterWin yX4_enterWin, Cond.code yX4_enterWin cX4_enterWin 3 none, Cond.fieldLink RX4 23 "PaintballAtlas$Table" "wins" "[[I"]
def wsL_end_r3 : List Cond := [Cond.methodLink RX4 30 yX4_takePenalties, Cond.instanceMethod yX4_takePenalties, Cond.selects RX4 yX4_takePenalties yX4_takePenalties, Cond.code yX4_takePenalties cX4_takePenalties 2 none, Cond.fieldLink RX4 15 "PaintballAtlas$Table" "fines" "[I", Cond.methodLink RX5 168 yX2_close, Cond.instanceMethod yX2_close, Cond.selects RX2 yX2_close yX2_close, Cond.code yX2_close cX2_close 1 none, Cond.methodLink RX2 39 yX2_reset, Cond.instanceMethod yX2_reset, Cond.selects RX2 yX2_reset yX2_reset, Cond.code yX2_reset cX2_reset 3 none, Cond.fieldLink RX2 22 "PaintballAtlas$Round" "lastShots" "[I", Cond.fieldLink RX2 28 "PaintballAtlas$Round" "shots" "LPaintballAtlas$Shots;", Cond.fieldLink RX2 49 "PaintballAtlas$Shots" "count" "I", Cond.fieldLink RX2 35 "PaintballAtlas$Round" "calls" "LPaintballAtlas$Calls;", Cond.fieldLink RX2 52 "PaintballAtlas$Calls" "count" "I"]
def wsL_end : List Cond := .codeWith yL_end cL_end 3 (some .int) [(0, 8, 11, 15)] :: ((wsL_end_r1 ++ (wsL_end_r2 ++ wsL_end_r3)) ++ wsX50 ++ wsX20 ++ wsX40 ++ wsX30 ++ wsX00 ++ (vx_atS RX5 46 "java/lang/IllegalStateException" ["java/lang/RuntimeException", "java/lang/Exception"]).filter goodWord)
def wsL_where : List Cond := .codeWith yL_where cL_where 4 (some .int) [(0, 9, 12, 13)] :: ([.classLink RL 13 "java/lang/IndexOutOfBoundsException", .methodLink RL 54 yX5_where, .instanceMethod yX5_where, .selects RX5 yX5_where yX5_where, .initialized RX5, .code yX5_where cX5_where 2 (some .int), .fieldLink RX5 19 "PaintballAtlas" "round" "LPaintballAtlas$Round;", .methodLink RX5 76 yX5_checkPlayer, .static yX5_checkPlayer, .code yX5_checkPlayer cX5_checkPlayer 1 none, .classLink RX5 135 "java/lang/IndexOutOfBoundsException", .initialized "java/lang/IndexOutOfBoundsException", .methodLink RX5 82 yX2_cellOf, .instanceMethod yX2_cellOf, .selects RX2 yX2_cellOf yX2_cellOf, .initialized RX2, .code yX2_cellOf cX2_cellOf 2 (some .int), .fieldLink RX2 15 "PaintballAtlas$Round" "cells" "[I"] ++ wsX50 ++ wsX20 ++ (vx_atS RX5 139 "java/lang/IndexOutOfBoundsException" ["java/lang/RuntimeException", "java/lang/Exception"]).filter goodWord)
def wsL_hit : List Cond := .codeWith yL_hit cL_hit 4 (some .int) [(0, 9, 12, 13)] :: ([.classLink RL 13 "java/lang/IndexOutOfBoundsException", .methodLink RL 57 yX5_hit, .instanceMethod yX5_hit, .selects RX5 yX5_hit yX5_hit, .initialized RX5, .code yX5_hit cX5_hit 2 (some .int), .fieldLink RX5 19 "PaintballAtlas" "round" "LPaintballAtlas$Round;", .methodLink RX5 76 yX5_checkPlayer, .static yX5_checkPlayer, .code yX5_checkPlayer cX5_checkPlayer 1 none, .classLink RX5 135 "java/lang/IndexOutOfBoundsException", .initialized "java/lang/IndexOutOfBoundsException", .methodLink RX5 174 yX2_hitOf, .instanceMethod yX2_hitOf, .selects RX2 yX2_hitOf yX2_hitOf, .initialized RX2, .code yX2_hitOf cX2_hitOf 2 (some .int), .fieldLink RX2 19 "PaintballAtlas$Round" "hits" "[I"] ++ wsX50 ++ wsX20 ++ (vx_atS RX5 139 "java/lang/IndexOutOfBoundsException" ["java/lang/RuntimeException", "java/lang/Exception"]).filter goodWord)
def wsL_points : List Cond := .codeWith yL_points cL_points 4 (some .int) [(0, 9, 12, 13)] :: ([.classLink RL 13 "java/lang/IndexOutOfBoundsException", .methodLink RL 60 yX5_points, .instanceMethod yX5_points, .selects RX5 yX5_points yX5_points, .initialized RX5, .code yX5_points cX5_points 2 (some .int), .fieldLink RX5 26 "PaintballAtlas" "table" "LPaintballAtlas$Table;", .methodLink RX5 64 yX5_checkTeam, .static yX5_checkTeam, .code yX5_checkTeam cX5_checkTeam 1 none, .classLink RX5 135 "java/lang/IndexOutOfBoundsException", .initialized "java/lang/IndexOutOfBoundsException", .methodLink RX5 180 yX4_pointsOf, .instanceMethod yX4_pointsOf, .selects RX4 yX4_pointsOf yX4_pointsOf, .initialized RX4, .code yX4_pointsOf cX4_pointsOf 2 (some .int), .fieldLink RX4 9 "PaintballAtlas$Table" "points" "[I"] ++ wsX50 ++ wsX40 ++ (vx_atS RX5 139 "java/lang/IndexOutOfBoundsException" ["java/lang/RuntimeException", "java/lang/Exception"]).filter goodWord)
def wsL_fines : List Cond := .codeWith yL_fines cL_fines 4 (some .int) [(0, 9, 12, 13)] :: ([.classLink RL 13 "java/lang/IndexOutOfBoundsException", .methodLink RL 63 yX5_fines, .instanceMethod yX5_fines, .selects RX5 yX5_fines yX5_fines, .initialized RX5, .code yX5_fines cX5_fines 2 (some .int), .fieldLink RX5 26 "PaintballAtlas" "table" "LPaintballAtlas$Table;", .methodLink RX5 64 yX5_checkTeam, .static yX5_checkTeam, .code yX5_checkTeam cX5_checkTeam 1 none, .classLink RX5 135 "java/lang/IndexOutOfBoundsException", .initialized "java/lang/IndexOutOfBoundsException", .methodLink RX5 183 yX4_finesOf, .instanceMethod yX4_finesOf, .selects RX4 yX4_finesOf yX4_finesOf, .initialized RX4, .code yX4_finesOf cX4_finesOf 2 (some .int), .fieldLink RX4 15 "PaintballAtlas$Table" "fines" "[I"] ++ wsX50 ++ wsX40 ++ (vx_atS RX5 139 "java/lang/IndexOutOfBoundsException" ["java/lang/RuntimeException", "java/lang/Exception"]).filter goodWord)
def wsL_difference : List Cond := .codeWith yL_difference cL_difference 4 (some .int) [(0, 9, 12, 13)] :: ([.classLink RL 13 "java/lang/IndexOutOfBoundsException", .methodLink RL 66 yX5_difference, .instanceMethod yX5_difference, .selects RX5 yX5_difference yX5_difference, .initialized RX5, .code yX5_difference cX5_difference 2 (some .int), .fieldLink RX5 26 "PaintballAtlas" "table" "LPaintballAtlas$Table;", .methodLink RX5 64 yX5_checkTeam, .static yX5_checkTeam, .code yX5_checkTeam cX5_checkTeam 1 none, .classLink RX5 135 "java/lang/IndexOutOfBoundsException", .initialized "java/lang/IndexOutOfBoundsException", .methodLink RX5 186 yX4_differenceOf, .instanceMethod yX4_differenceOf, .selects RX4 yX4_differenceOf yX4_differenceOf, .initialized RX4, .code yX4_differenceOf cX4_differenceOf 2 (some .int), .fieldLink RX4 18 "PaintballAtlas$Table" "differences" "[I"] ++ wsX50 ++ wsX40 ++ (vx_atS RX5 139 "java/lang/IndexOutOfBoundsException" ["java/lang/RuntimeException", "java/lang/Exception"]).filter goodWord)
def wsL_place : List Cond := .codeWith yL_place cL_place 4 (some .int) [(0, 9, 12, 13)] :: ([.classLink RL 13 "java/lang/IndexOutOfBoundsException", .methodLink RL 69 yX5_place, .instanceMethod yX5_place, .selects RX5 yX5_place yX5_place, .initialized RX5, .code yX5_place cX5_place 2 (some .int), .fieldLink RX5 26 "PaintballAtlas" "table" "LPaintballAtlas$Table;", .methodLink RX5 64 yX5_checkTeam, .static yX5_checkTeam, .code yX5_checkTeam cX5_checkTeam 1 none, .classLink RX5 135 "java/lang/IndexOutOfBoundsException", .initialized "java/lang/IndexOutOfBoundsException", .methodLink RX5 189 yX4_placeOf, .instanceMethod yX4_placeOf, .selects RX4 yX4_placeOf yX4_placeOf, .initialized RX4, .code yX4_placeOf cX4_placeOf 4 (some .int), .methodLink RX4 33 yX4_isAhead, .instanceMethod yX4_isAhead, .selects RX4 yX4_isAhead yX4_isAhead, .code yX4_isAhead cX4_isAhead 3 (some .boolean), .fieldLink RX4 9 "PaintballAtlas$Table" "points" "[I", .fieldLink RX4 23 "PaintballAtlas$Table" "wins" "[[I", .fieldLink RX4 18 "PaintballAtlas$Table" "differences" "[I"] ++ wsX50 ++ wsX40 ++ (vx_atS RX5 139 "java/lang/IndexOutOfBoundsException" ["java/lang/RuntimeException", "java/lang/Exception"]).filter goodWord)
def wsL_law0_r1 : List Cond := [Cond.classLink RL 8 RX5, Cond.instantiable RX5 4, Cond.initialized RX5, Cond.classLink RL 73 RX6, Cond.instantiable RX6 24, Cond.initialized RX6, Cond.arrayClass .long, Cond.methodLink RL 72 yX5_init, Cond.instanceMethod yX5_init, Cond.code yX5_init cX5_init 1 none, Cond.methodLink RX5 3 objectInit, Cond.instanceMethod objectInit, Cond.code objectInit ⟨#[0xb1]⟩ 1 none, Cond.classLink RX5 9 RX1, Cond.instantiable RX1 1, Cond.initialized RX1, Cond.fieldLink RX5 12 "PaintballAtlas" "field" "LPaintballAtlas$Field;", Cond.classLink RX5 16 RX2, Cond.instantiable RX2 8, Cond.initialized RX2, Cond.fieldLink RX5 19 "PaintballAtlas" "round" "LPaintballAtlas$Round;", Cond.classLink RX5 23 RX4, Cond.instantiable RX4 4, Cond.initialized RX4]
def wsL_law0_r2 : List Cond := [Cond.fieldLink RX5 26 "PaintballAtlas" "table" "LPaintballAtlas$Table;", Cond.arrayClass .int, Cond.fieldLink RX5 30 "PaintballAtlas" "refereeCells" "[I", Cond.instanceMethod yX1_init, Cond.code yX1_init cX1_init 1 none, Cond.methodLink RX1 3 objectInit, Cond.arrayClass .boolean, Cond.fieldLink RX1 9 "PaintballAtlas$Field" "bunkers" "[Z", Cond.methodLink RX5 18 yX2_init, Cond.instanceMethod yX2_init, Cond.code yX2_init cX2_init 1 none, Cond.methodLink RX2 3 objectInit, Cond.fieldLink RX2 9 "PaintballAtlas$Round" "tick" "I", Cond.fieldLink RX2 15 "PaintballAtlas$Round" "cells" "[I", Cond.fieldLink RX2 19 "PaintballAtlas$Round" "hits" "[I", Cond.fieldLink RX2 22 "PaintballAtlas$Round" "lastShots" "[I", Cond.classLink RX2 25 RX3, Cond.instantiable RX3 5, Cond.initialized RX3, Cond.fieldLink RX2 28 "PaintballAtlas$Round" "shots" "LPaintballAtlas$Shots;", Cond.classLink RX2 32 RX0, Cond.instantiable RX0 5, Cond.initialized RX0, Cond.fieldLink RX2 35 "PaintballAtlas$Round" "calls" "LPaintballAtlas$Calls;"]
def wsL_law0_r3 : List Cond := [Cond.instanceMethod yX3_init, Cond.code yX3_init cX3_init 1 none, Cond.methodLink RX3 3 objectInit, Cond.fieldLink RX3 9 "PaintballAtlas$Shots" "shooters" "[I", Cond.fieldLink RX3 15 "PaintballAtlas$Shots" "origins" "[I", Cond.fieldLink RX3 18 "PaintballAtlas$Shots" "targets" "[I", Cond.fieldLink RX3 21 "PaintballAtlas$Shots" "arrivals" "[I", Cond.instanceMethod yX0_init, Cond.code yX0_init cX0_init 1 none, Cond.methodLink RX0 3 objectInit, Cond.fieldLink RX0 9 "PaintballAtlas$Calls" "players" "[I", Cond.fieldLink RX0 15 "PaintballAtlas$Calls" "cells" "[I", Cond.fieldLink RX0 18 "PaintballAtlas$Calls" "ticks" "[I", Cond.fieldLink RX0 21 "PaintballAtlas$Calls" "disputed" "[Z", Cond.methodLink RX2 39 yX2_reset, Cond.instanceMethod yX2_reset, Cond.selects RX2 yX2_reset yX2_reset, Cond.code yX2_reset cX2_reset 3 none, Cond.fieldLink RX2 49 "PaintballAtlas$Shots" "count" "I", Cond.fieldLink RX2 52 "PaintballAtlas$Calls" "count" "I", Cond.instanceMethod yX4_init, Cond.code yX4_init cX4_init 1 none, Cond.methodLink RX4 3 objectInit, Cond.fieldLink RX4 9 "PaintballAtlas$Table" "points" "[I"]
def wsL_law0_r4 : List Cond := [Cond.fieldLink RX4 15 "PaintballAtlas$Table" "fines" "[I", Cond.fieldLink RX4 18 "PaintballAtlas$Table" "differences" "[I", Cond.classLink RX4 21 "[[I", Cond.fieldLink RX4 23 "PaintballAtlas$Table" "wins" "[[I", Cond.methodLink RL 75 yX6_init, Cond.instanceMethod yX6_init, Cond.code yX6_init cX6_init 1 none, Cond.methodLink RX6 1 objectInit, Cond.fieldLink RX6 7 "PaintballAtlasModel" "isBunker" "[Z", Cond.fieldLink RX6 13 "PaintballAtlasModel" "referee" "[I", Cond.fieldLink RX6 17 "PaintballAtlasModel" "where" "[I", Cond.fieldLink RX6 20 "PaintballAtlasModel" "hit" "[I", Cond.fieldLink RX6 23 "PaintballAtlasModel" "shot" "[I", Cond.fieldLink RX6 26 "PaintballAtlasModel" "shooter" "[I", Cond.fieldLink RX6 29 "PaintballAtlasModel" "from" "[I", Cond.fieldLink RX6 32 "PaintballAtlasModel" "aim" "[I", Cond.fieldLink RX6 35 "PaintballAtlasModel" "comes" "[I", Cond.fieldLink RX6 38 "PaintballAtlasModel" "called" "[I", Cond.fieldLink RX6 41 "PaintballAtlasModel" "calledAt" "[I", Cond.fieldLink RX6 44 "PaintballAtlasModel" "calledOn" "[I", Cond.fieldLink RX6 47 "PaintballAtlasModel" "isDisputed" "[Z", Cond.fieldLink RX6 50 "PaintballAtlasModel" "points" "[I", Cond.fieldLink RX6 53 "PaintballAtlasModel" "fines" "[I", Cond.fieldLink RX6 56 "PaintballAtlasModel" "difference" "[I"]
def wsL_law0_r5 : List Cond := [Cond.fieldLink RX6 59 "PaintballAtlasModel" "wins" "[I", Cond.methodLink RL 76 yL_toggleBunker, Cond.static yL_toggleBunker, Cond.initialized RL, Cond.codeWith yL_toggleBunker cL_toggleBunker 4 (some .int) [(0, 16, 19, 13), (0, 16, 22, 15)], Cond.classLink RL 13 "java/lang/IndexOutOfBoundsException", Cond.classLink RL 15 "java/lang/IllegalStateException", Cond.methodLink RL 7 yX5_toggleBunker, Cond.instanceMethod yX5_toggleBunker, Cond.selects RX5 yX5_toggleBunker yX5_toggleBunker, Cond.code yX5_toggleBunker cX5_toggleBunker 2 (some .boolean), Cond.classLink RX5 42 "java/lang/IllegalStateException", Cond.initialized "java/lang/IllegalStateException", Cond.methodLink RX5 34 yX5_checkCell, Cond.static yX5_checkCell, Cond.code yX5_checkCell cX5_checkCell 1 none, Cond.classLink RX5 135 "java/lang/IndexOutOfBoundsException", Cond.initialized "java/lang/IndexOutOfBoundsException", Cond.methodLink RX5 38 yX2_isPlayed, Cond.instanceMethod yX2_isPlayed, Cond.selects RX2 yX2_isPlayed yX2_isPlayed, Cond.code yX2_isPlayed cX2_isPlayed 1 (some .boolean), Cond.methodLink RX5 49 yX1_turnBunker, Cond.instanceMethod yX1_turnBunker]
def wsL_law0_r6 : List Cond := [Cond.selects RX1 yX1_turnBunker yX1_turnBunker, Cond.code yX1_turnBunker cX1_turnBunker 2 (some .boolean), Cond.methodLink RL 81 yX6_toggleBunker, Cond.instanceMethod yX6_toggleBunker, Cond.selects RX6 yX6_toggleBunker yX6_toggleBunker, Cond.code yX6_toggleBunker cX6_toggleBunker 2 (some .boolean), Cond.fieldLink RX6 84 "PaintballAtlasModel" "isOn" "Z", Cond.methodLink RX6 80 yX6_isCell, Cond.static yX6_isCell, Cond.code yX6_isCell cX6_isCell 1 (some .boolean), Cond.methodLink RX6 66 yX6_isIn, Cond.static yX6_isIn, Cond.code yX6_isIn cX6_isIn 3 (some .boolean), Cond.methodLink RX6 88 yX6_fails, Cond.instanceMethod yX6_fails, Cond.selects RX6 yX6_fails yX6_fails, Cond.code yX6_fails cX6_fails 2 (some .boolean), Cond.fieldLink RX6 62 "PaintballAtlasModel" "thrown" "I", Cond.methodLink RL 82 yX6_thrown, Cond.instanceMethod yX6_thrown, Cond.selects RX6 yX6_thrown yX6_thrown, Cond.code yX6_thrown cX6_thrown 1 (some .int), Cond.methodLink RL 85 yL_sees, Cond.static yL_sees]
def wsL_law0_r7 : List Cond := [Cond.codeWith yL_sees cL_sees 5 (some .int) [(0, 17, 20, 13)], Cond.methodLink RL 17 yX5_sees, Cond.instanceMethod yX5_sees, Cond.selects RX5 yX5_sees yX5_sees, Cond.code yX5_sees cX5_sees 3 (some .boolean), Cond.methodLink RX5 53 yX1_hasSight, Cond.instanceMethod yX1_hasSight, Cond.selects RX1 yX1_hasSight yX1_hasSight, Cond.code yX1_hasSight cX1_hasSight 10 (some .boolean), Cond.methodLink RX1 29 Lib.Math.min.name, Cond.static Lib.Math.min.name, Cond.initialized "java/lang/Math", Cond.code Lib.Math.min.name Lib.Math.min.code 2 (some .int), Cond.methodLink RX1 21 Lib.Math.max.name, Cond.static Lib.Math.max.name, Cond.code Lib.Math.max.name Lib.Math.max.code 2 (some .int), Cond.methodLink RX1 32 yX1_lineEnters, Cond.static yX1_lineEnters, Cond.code yX1_lineEnters cX1_lineEnters 8 (some .boolean), Cond.methodLink RX1 15 Lib.Math.abs.name, Cond.static Lib.Math.abs.name, Cond.code Lib.Math.abs.name Lib.Math.abs.code 1 (some .int), Cond.methodLink RL 88 yX6_sees, Cond.instanceMethod yX6_sees]
def wsL_law0_r8 : List Cond := [Cond.selects RX6 yX6_sees yX6_sees, Cond.code yX6_sees cX6_sees 3 (some .boolean), Cond.methodLink RX6 91 yX6_see, Cond.instanceMethod yX6_see, Cond.selects RX6 yX6_see yX6_see, Cond.code yX6_see cX6_see 5 (some .boolean), Cond.methodLink RX6 77 yX6_leads, Cond.static yX6_leads, Cond.code yX6_leads cX6_leads 7 (some .boolean), Cond.methodLink RX6 70 yX6_isBetween, Cond.static yX6_isBetween, Cond.code yX6_isBetween cX6_isBetween 3 (some .boolean), Cond.methodLink RX6 73 yX6_side, Cond.static yX6_side, Cond.code yX6_side cX6_side 9 (some .int), Cond.methodLink RL 89 yL_view, Cond.static yL_view, Cond.codeWith yL_view cL_view 4 (some .int) [(0, 9, 12, 13)], Cond.methodLink RL 21 yX5_view, Cond.instanceMethod yX5_view, Cond.selects RX5 yX5_view yX5_view, Cond.code yX5_view cX5_view 2 (some .int), Cond.methodLink RX5 57 yX1_countSeen, Cond.instanceMethod yX1_countSeen]
def wsL_law0_r9 : List Cond := [Cond.selects RX1 yX1_countSeen yX1_countSeen, Cond.code yX1_countSeen cX1_countSeen 4 (some .int), Cond.methodLink RX1 25 yX1_hasSight, Cond.methodLink RL 91 yX6_view, Cond.instanceMethod yX6_view, Cond.selects RX6 yX6_view yX6_view, Cond.code yX6_view cX6_view 4 (some .int), Cond.methodLink RL 92 yL_setReferee, Cond.static yL_setReferee, Cond.codeWith yL_setReferee cL_setReferee 5 (some .int) [(0, 10, 13, 13)], Cond.methodLink RL 25 yX5_setReferee, Cond.instanceMethod yX5_setReferee, Cond.selects RX5 yX5_setReferee yX5_setReferee, Cond.code yX5_setReferee cX5_setReferee 4 (some .int), Cond.methodLink RX5 61 yX5_checkReferee, Cond.static yX5_checkReferee, Cond.code yX5_checkReferee cX5_checkReferee 1 none, Cond.methodLink RL 94 yX6_setReferee, Cond.instanceMethod yX6_setReferee, Cond.selects RX6 yX6_setReferee yX6_setReferee, Cond.code yX6_setReferee cX6_setReferee 4 (some .int), Cond.methodLink RX6 95 yX6_isReferee, Cond.static yX6_isReferee, Cond.code yX6_isReferee cX6_isReferee 1 (some .boolean)]
def wsL_law0_r10 : List Cond := [Cond.methodLink RL 95 yL_begin, Cond.static yL_begin, Cond.codeWith yL_begin cL_begin 4 (some .int) [(0, 6, 9, 13), (0, 6, 12, 33), (0, 6, 15, 15)], Cond.classLink RL 33 "java/lang/IllegalArgumentException", Cond.methodLink RL 29 yX5_begin, Cond.instanceMethod yX5_begin, Cond.selects RX5 yX5_begin yX5_begin, Cond.code yX5_begin cX5_begin 3 none, Cond.classLink RX5 67 "java/lang/IllegalArgumentException", Cond.initialized "java/lang/IllegalArgumentException", Cond.methodLink RX5 64 yX5_checkTeam, Cond.static yX5_checkTeam, Cond.code yX5_checkTeam cX5_checkTeam 1 none, Cond.methodLink RX5 72 yX2_start, Cond.instanceMethod yX2_start, Cond.selects RX2 yX2_start yX2_start, Cond.code yX2_start cX2_start 3 none, Cond.fieldLink RX2 43 "PaintballAtlas$Round" "home" "I", Cond.fieldLink RX2 46 "PaintballAtlas$Round" "away" "I", Cond.methodLink RL 98 yX6_begin, Cond.instanceMethod yX6_begin, Cond.selects RX6 yX6_begin yX6_begin, Cond.code yX6_begin cX6_begin 5 none, Cond.fieldLink RX6 101 "PaintballAtlasModel" "home" "I"]
def wsL_law0_r11 : List Cond := [Cond.fieldLink RX6 104 "PaintballAtlasModel" "away" "I", Cond.fieldLink RX6 107 "PaintballAtlasModel" "tick" "I", Cond.fieldLink RX6 110 "PaintballAtlasModel" "shots" "I", Cond.fieldLink RX6 113 "PaintballAtlasModel" "calls" "I", Cond.methodLink RX6 98 yX6_isTeam, Cond.static yX6_isTeam, Cond.code yX6_isTeam cX6_isTeam 1 (some .boolean), Cond.methodLink RL 99 yL_move, Cond.static yL_move, Cond.codeWith yL_move cL_move 5 (some .int) [(0, 10, 13, 13), (0, 10, 17, 15)], Cond.methodLink RL 35 yX5_move, Cond.instanceMethod yX5_move, Cond.selects RX5 yX5_move yX5_move, Cond.code yX5_move cX5_move 4 (some .int), Cond.methodLink RX5 76 yX5_checkPlayer, Cond.static yX5_checkPlayer, Cond.code yX5_checkPlayer cX5_checkPlayer 1 none, Cond.methodLink RX5 79 yX5_checkRound, Cond.instanceMethod yX5_checkRound, Cond.selects RX5 yX5_checkRound yX5_checkRound, Cond.code yX5_checkRound cX5_checkRound 1 none, Cond.methodLink RX5 82 yX2_cellOf, Cond.instanceMethod yX2_cellOf, Cond.selects RX2 yX2_cellOf yX2_cellOf]
def wsL_law0_r12 : List Cond := [Cond.code yX2_cellOf cX2_cellOf 2 (some .int), Cond.methodLink RX5 87 yX1_distance, Cond.static yX1_distance, Cond.code yX1_distance cX1_distance 4 (some .int), Cond.methodLink RX5 93 yX1_hasBunker, Cond.instanceMethod yX1_hasBunker, Cond.selects RX1 yX1_hasBunker yX1_hasBunker, Cond.code yX1_hasBunker cX1_hasBunker 2 (some .boolean), Cond.methodLink RX5 96 yX2_playerOn, Cond.instanceMethod yX2_playerOn, Cond.selects RX2 yX2_playerOn yX2_playerOn, Cond.code yX2_playerOn cX2_playerOn 3 (some .int), Cond.methodLink RX5 101 yX2_put, Cond.instanceMethod yX2_put, Cond.selects RX2 yX2_put yX2_put, Cond.code yX2_put cX2_put 3 none, Cond.methodLink RL 101 yX6_move, Cond.instanceMethod yX6_move, Cond.selects RX6 yX6_move yX6_move, Cond.code yX6_move cX6_move 6 (some .int), Cond.methodLink RX6 120 yX6_isPlayer, Cond.static yX6_isPlayer, Cond.code yX6_isPlayer cX6_isPlayer 1 (some .boolean), Cond.methodLink RX6 123 yX6_apart]
def wsL_law0_r13 : List Cond := [Cond.static yX6_apart, Cond.code yX6_apart cX6_apart 4 (some .int), Cond.methodLink RX6 116 yX6_size, Cond.static yX6_size, Cond.code yX6_size cX6_size 1 (some .int), Cond.methodLink RX6 127 yX6_standsOn, Cond.instanceMethod yX6_standsOn, Cond.selects RX6 yX6_standsOn yX6_standsOn, Cond.code yX6_standsOn cX6_standsOn 4 (some .int), Cond.methodLink RL 102 yL_shoot, Cond.static yL_shoot, Cond.codeWith yL_shoot cL_shoot 5 (some .int) [(0, 10, 13, 13), (0, 10, 17, 15)], Cond.methodLink RL 38 yX5_shoot, Cond.instanceMethod yX5_shoot, Cond.selects RX5 yX5_shoot yX5_shoot, Cond.code yX5_shoot cX5_shoot 4 (some .int), Cond.methodLink RX5 108 yX2_mayFire, Cond.instanceMethod yX2_mayFire, Cond.selects RX2 yX2_mayFire yX2_mayFire, Cond.code yX2_mayFire cX2_mayFire 2 (some .boolean), Cond.methodLink RX5 113 yX2_fire, Cond.instanceMethod yX2_fire, Cond.selects RX2 yX2_fire yX2_fire, Cond.code yX2_fire cX2_fire 5 (some .int)]
def wsL_law0_r14 : List Cond := [Cond.methodLink RX2 53 yX1_distance, Cond.methodLink RX2 59 yX3_add, Cond.instanceMethod yX3_add, Cond.selects RX3 yX3_add yX3_add, Cond.code yX3_add cX3_add 5 none, Cond.fieldLink RX3 24 "PaintballAtlas$Shots" "count" "I", Cond.methodLink RL 104 yX6_shoot, Cond.instanceMethod yX6_shoot, Cond.selects RX6 yX6_shoot yX6_shoot, Cond.code yX6_shoot cX6_shoot 5 (some .int), Cond.methodLink RL 105 yL_pass, Cond.static yL_pass, Cond.codeWith yL_pass cL_pass 4 (some .int) [(0, 9, 12, 33), (0, 9, 15, 15)], Cond.methodLink RL 41 yX5_pass, Cond.instanceMethod yX5_pass, Cond.selects RX5 yX5_pass yX5_pass, Cond.code yX5_pass cX5_pass 4 (some .int), Cond.methodLink RX5 118 yX2_nextTick, Cond.instanceMethod yX2_nextTick, Cond.selects RX2 yX2_nextTick yX2_nextTick, Cond.code yX2_nextTick cX2_nextTick 4 (some .int), Cond.fieldLink RX2 63 "PaintballAtlas$Shots" "arrivals" "[I", Cond.methodLink RX2 66 yX2_strikes, Cond.instanceMethod yX2_strikes]
def wsL_law0_r15 : List Cond := [Cond.selects RX2 yX2_strikes yX2_strikes, Cond.code yX2_strikes cX2_strikes 5 (some .boolean), Cond.fieldLink RX2 70 "PaintballAtlas$Shots" "targets" "[I", Cond.fieldLink RX2 77 "PaintballAtlas$Shots" "shooters" "[I", Cond.fieldLink RX2 80 "PaintballAtlas$Shots" "origins" "[I", Cond.methodLink RX2 73 yX2_playerOn, Cond.methodLink RX2 83 yX1_hasSight, Cond.methodLink RL 107 yX6_pass, Cond.instanceMethod yX6_pass, Cond.selects RX6 yX6_pass yX6_pass, Cond.code yX6_pass cX6_pass 6 (some .int), Cond.methodLink RL 108 yL_call, Cond.static yL_call, Cond.codeWith yL_call cL_call 5 (some .int) [(0, 10, 13, 13), (0, 10, 17, 15)], Cond.methodLink RL 44 yX5_call, Cond.instanceMethod yX5_call, Cond.selects RX5 yX5_call yX5_call, Cond.code yX5_call cX5_call 4 (some .int), Cond.methodLink RX5 124 yX2_mayCall, Cond.instanceMethod yX2_mayCall, Cond.selects RX2 yX2_mayCall yX2_mayCall, Cond.code yX2_mayCall cX2_mayCall 1 (some .boolean), Cond.methodLink RX5 129 yX2_callOut, Cond.instanceMethod yX2_callOut]
def wsL_law0_r16 : List Cond := [Cond.selects RX2 yX2_callOut yX2_callOut, Cond.code yX2_callOut cX2_callOut 3 (some .int), Cond.methodLink RX2 87 yX0_add, Cond.instanceMethod yX0_add, Cond.selects RX0 yX0_add yX0_add, Cond.code yX0_add cX0_add 4 (some .int), Cond.fieldLink RX0 25 "PaintballAtlas$Calls" "count" "I", Cond.methodLink RL 110 yX6_call, Cond.instanceMethod yX6_call, Cond.selects RX6 yX6_call yX6_call, Cond.code yX6_call cX6_call 5 (some .int), Cond.methodLink RL 111 yL_dispute, Cond.static yL_dispute, Cond.codeWith yL_dispute cL_dispute 4 (some .int) [(0, 16, 19, 13), (0, 16, 22, 15)], Cond.methodLink RL 47 yX5_dispute, Cond.instanceMethod yX5_dispute, Cond.selects RX5 yX5_dispute yX5_dispute, Cond.code yX5_dispute cX5_dispute 3 (some .boolean), Cond.methodLink RX5 132 yX2_hasCall, Cond.instanceMethod yX2_hasCall, Cond.selects RX2 yX2_hasCall yX2_hasCall, Cond.code yX2_hasCall cX2_hasCall 2 (some .boolean), Cond.methodLink RX5 140 yX2_isDisputed, Cond.instanceMethod yX2_isDisputed]
def wsL_law0_r17 : List Cond := [Cond.selects RX2 yX2_isDisputed yX2_isDisputed, Cond.code yX2_isDisputed cX2_isDisputed 2 (some .boolean), Cond.fieldLink RX2 90 "PaintballAtlas$Calls" "disputed" "[Z", Cond.methodLink RX5 145 yX2_judge, Cond.instanceMethod yX2_judge, Cond.selects RX2 yX2_judge yX2_judge, Cond.code yX2_judge cX2_judge 4 (some .boolean), Cond.fieldLink RX2 94 "PaintballAtlas$Calls" "players" "[I", Cond.fieldLink RX2 97 "PaintballAtlas$Calls" "ticks" "[I", Cond.fieldLink RX2 100 "PaintballAtlas$Calls" "cells" "[I", Cond.methodLink RX5 148 yX2_teamCalled, Cond.instanceMethod yX2_teamCalled, Cond.selects RX2 yX2_teamCalled yX2_teamCalled, Cond.code yX2_teamCalled cX2_teamCalled 2 (some .int), Cond.methodLink RX5 151 yX4_fine, Cond.instanceMethod yX4_fine, Cond.selects RX4 yX4_fine yX4_fine, Cond.code yX4_fine cX4_fine 2 none, Cond.methodLink RL 113 yX6_dispute, Cond.instanceMethod yX6_dispute, Cond.selects RX6 yX6_dispute yX6_dispute, Cond.code yX6_dispute cX6_dispute 5 (some .boolean), Cond.methodLink RX6 130 yX6_teamOf, Cond.instanceMethod yX6_teamOf]
def wsL_law0_r18 : List Cond := [Cond.selects RX6 yX6_teamOf yX6_teamOf, Cond.code yX6_teamOf cX6_teamOf 2 (some .int), Cond.methodLink RL 114 yL_end, Cond.static yL_end, Cond.codeWith yL_end cL_end 3 (some .int) [(0, 8, 11, 15)], Cond.methodLink RL 50 yX5_end, Cond.instanceMethod yX5_end, Cond.selects RX5 yX5_end yX5_end, Cond.code yX5_end cX5_end 2 (some .int), Cond.methodLink RX5 154 yX2_margin, Cond.instanceMethod yX2_margin, Cond.selects RX2 yX2_margin yX2_margin, Cond.code yX2_margin cX2_margin 3 (some .int), Cond.methodLink RX5 158 yX2_homeTeam, Cond.instanceMethod yX2_homeTeam, Cond.selects RX2 yX2_homeTeam yX2_homeTeam, Cond.code yX2_homeTeam cX2_homeTeam 1 (some .int), Cond.methodLink RX5 161 yX2_awayTeam, Cond.instanceMethod yX2_awayTeam, Cond.selects RX2 yX2_awayTeam yX2_awayTeam, Cond.code yX2_awayTeam cX2_awayTeam 1 (some .int), Cond.methodLink RX5 164 yX4_enter, Cond.instanceMethod yX4_enter, Cond.selects RX4 yX4_enter yX4_enter]
def wsL_law0_r19 : List Cond := [Cond.code yX4_enter cX4_enter 4 none, Cond.methodLink RX4 26 yX4_enterWin, Cond.instanceMethod yX4_enterWin, Cond.selects RX4 yX4_enterWin yX4_enterWin, Cond.code yX4_enterWin cX4_enterWin 3 none, Cond.methodLink RX4 30 yX4_takePenalties, Cond.instanceMethod yX4_takePenalties, Cond.selects RX4 yX4_takePenalties yX4_takePenalties, Cond.code yX4_takePenalties cX4_takePenalties 2 none, Cond.methodLink RX5 168 yX2_close, Cond.instanceMethod yX2_close, Cond.selects RX2 yX2_close yX2_close, Cond.code yX2_close cX2_close 1 none, Cond.methodLink RL 117 yX6_end, Cond.instanceMethod yX6_end, Cond.selects RX6 yX6_end yX6_end, Cond.code yX6_end cX6_end 4 (some .int), Cond.methodLink RL 118 yX5_tick, Cond.instanceMethod yX5_tick, Cond.selects RX5 yX5_tick yX5_tick, Cond.code yX5_tick cX5_tick 1 (some .int), Cond.methodLink RX5 171 yX2_time, Cond.instanceMethod yX2_time, Cond.selects RX2 yX2_time yX2_time]
def wsL_law0_r20 : List Cond := [Cond.code yX2_time cX2_time 1 (some .int), Cond.methodLink RL 121 yX6_tick, Cond.instanceMethod yX6_tick, Cond.selects RX6 yX6_tick yX6_tick, Cond.code yX6_tick cX6_tick 1 (some .int), Cond.methodLink RL 122 yL_where, Cond.static yL_where, Cond.codeWith yL_where cL_where 4 (some .int) [(0, 9, 12, 13)], Cond.methodLink RL 54 yX5_where, Cond.instanceMethod yX5_where, Cond.selects RX5 yX5_where yX5_where, Cond.code yX5_where cX5_where 2 (some .int), Cond.methodLink RL 124 yX6_where, Cond.instanceMethod yX6_where, Cond.selects RX6 yX6_where yX6_where, Cond.code yX6_where cX6_where 2 (some .int), Cond.methodLink RL 125 yL_hit, Cond.static yL_hit, Cond.codeWith yL_hit cL_hit 4 (some .int) [(0, 9, 12, 13)], Cond.methodLink RL 57 yX5_hit, Cond.instanceMethod yX5_hit, Cond.selects RX5 yX5_hit yX5_hit, Cond.code yX5_hit cX5_hit 2 (some .int), Cond.methodLink RX5 174 yX2_hitOf]
def wsL_law0_r21 : List Cond := [Cond.instanceMethod yX2_hitOf, Cond.selects RX2 yX2_hitOf yX2_hitOf, Cond.code yX2_hitOf cX2_hitOf 2 (some .int), Cond.methodLink RL 127 yX6_hit, Cond.instanceMethod yX6_hit, Cond.selects RX6 yX6_hit yX6_hit, Cond.code yX6_hit cX6_hit 2 (some .int), Cond.methodLink RL 128 yX5_flying, Cond.instanceMethod yX5_flying, Cond.selects RX5 yX5_flying yX5_flying, Cond.code yX5_flying cX5_flying 1 (some .int), Cond.methodLink RX5 177 yX2_countFlying, Cond.instanceMethod yX2_countFlying, Cond.selects RX2 yX2_countFlying yX2_countFlying, Cond.code yX2_countFlying cX2_countFlying 3 (some .int), Cond.methodLink RL 131 yX6_flying, Cond.instanceMethod yX6_flying, Cond.selects RX6 yX6_flying yX6_flying, Cond.code yX6_flying cX6_flying 3 (some .int), Cond.methodLink RL 132 yL_points, Cond.static yL_points, Cond.codeWith yL_points cL_points 4 (some .int) [(0, 9, 12, 13)], Cond.methodLink RL 60 yX5_points, Cond.instanceMethod yX5_points]
def wsL_law0_r22 : List Cond := [Cond.selects RX5 yX5_points yX5_points, Cond.code yX5_points cX5_points 2 (some .int), Cond.methodLink RX5 180 yX4_pointsOf, Cond.instanceMethod yX4_pointsOf, Cond.selects RX4 yX4_pointsOf yX4_pointsOf, Cond.code yX4_pointsOf cX4_pointsOf 2 (some .int), Cond.methodLink RL 134 yX6_points, Cond.instanceMethod yX6_points, Cond.selects RX6 yX6_points yX6_points, Cond.code yX6_points cX6_points 2 (some .int), Cond.methodLink RX6 133 yX6_of, Cond.instanceMethod yX6_of, Cond.selects RX6 yX6_of yX6_of, Cond.code yX6_of cX6_of 3 (some .int), Cond.methodLink RL 135 yL_fines, Cond.static yL_fines, Cond.codeWith yL_fines cL_fines 4 (some .int) [(0, 9, 12, 13)], Cond.methodLink RL 63 yX5_fines, Cond.instanceMethod yX5_fines, Cond.selects RX5 yX5_fines yX5_fines, Cond.code yX5_fines cX5_fines 2 (some .int), Cond.methodLink RX5 183 yX4_finesOf, Cond.instanceMethod yX4_finesOf, Cond.selects RX4 yX4_finesOf yX4_finesOf]
def wsL_law0_r23 : List Cond := [Cond.code yX4_finesOf cX4_finesOf 2 (some .int), Cond.methodLink RL 137 yX6_fines, Cond.instanceMethod yX6_fines, Cond.selects RX6 yX6_fines yX6_fines, Cond.code yX6_fines cX6_fines 2 (some .int), Cond.methodLink RL 138 yL_difference, Cond.static yL_difference, Cond.codeWith yL_difference cL_difference 4 (some .int) [(0, 9, 12, 13)], Cond.methodLink RL 66 yX5_difference, Cond.instanceMethod yX5_difference, Cond.selects RX5 yX5_difference yX5_difference, Cond.code yX5_difference cX5_difference 2 (some .int), Cond.methodLink RX5 186 yX4_differenceOf, Cond.instanceMethod yX4_differenceOf, Cond.selects RX4 yX4_differenceOf yX4_differenceOf, Cond.code yX4_differenceOf cX4_differenceOf 2 (some .int), Cond.methodLink RL 140 yX6_difference, Cond.instanceMethod yX6_difference, Cond.selects RX6 yX6_difference yX6_difference, Cond.code yX6_difference cX6_difference 2 (some .int), Cond.methodLink RL 141 yL_place, Cond.static yL_place, Cond.codeWith yL_place cL_place 4 (some .int) [(0, 9, 12, 13)], Cond.methodLink RL 69 yX5_place]
def wsL_law0_r24 : List Cond := [Cond.instanceMethod yX5_place, Cond.selects RX5 yX5_place yX5_place, Cond.code yX5_place cX5_place 2 (some .int), Cond.methodLink RX5 189 yX4_placeOf, Cond.instanceMethod yX4_placeOf, Cond.selects RX4 yX4_placeOf yX4_placeOf, Cond.code yX4_placeOf cX4_placeOf 4 (some .int), Cond.methodLink RX4 33 yX4_isAhead, Cond.instanceMethod yX4_isAhead, Cond.selects RX4 yX4_isAhead yX4_isAhead, Cond.code yX4_isAhead cX4_isAhead 3 (some .boolean), Cond.methodLink RL 143 yX6_place, Cond.instanceMethod yX6_place, Cond.selects RX6 yX6_place yX6_place, Cond.code yX6_place cX6_place 4 (some .int), Cond.methodLink RX6 137 yX6_isAhead, Cond.instanceMethod yX6_isAhead, Cond.selects RX6 yX6_isAhead yX6_isAhead, Cond.code yX6_isAhead cX6_isAhead 4 (some .boolean)]
def wsL_law0 : List Cond := (wsL_law0_r1 ++ (wsL_law0_r2 ++ (wsL_law0_r3 ++ (wsL_law0_r4 ++ (wsL_law0_r5 ++ (wsL_law0_r6 ++ (wsL_law0_r7 ++ (wsL_law0_r8 ++ (wsL_law0_r9 ++ (wsL_law0_r10 ++ (wsL_law0_r11 ++ (wsL_law0_r12 ++ (wsL_law0_r13 ++ (wsL_law0_r14 ++ (wsL_law0_r15 ++ (wsL_law0_r16 ++ (wsL_law0_r17 ++ (wsL_law0_r18 ++ (wsL_law0_r19 ++ (wsL_law0_r20 ++ (wsL_law0_r21 ++ (wsL_law0_r22 ++ (wsL_law0_r23 ++ wsL_law0_r24))))))))))))))))))))))) ++ wsX50 ++ wsX60 ++ wsX10 ++ wsX20 ++ wsX40 ++ wsX30 ++ wsX00 ++ ([] : List Cond)
def wsL_law : List Cond := wsL_law0 ++ (vx_atS RX5 46 "java/lang/IllegalStateException" ["java/lang/RuntimeException", "java/lang/Exception"]).filter goodWord ++ (vx_atS RX5 139 "java/lang/IndexOutOfBoundsException" ["java/lang/RuntimeException", "java/lang/Exception"]).filter goodWord ++ (vx_atS RX5 71 "java/lang/IllegalArgumentException" ["java/lang/RuntimeException", "java/lang/Exception"]).filter goodWord
end
section
theorem in_app {a b c : List Cond} (ha : ∀ w ∈ a, w ∈ c) (hb : ∀ w ∈ b, w ∈ c) : ∀ w ∈ a ++ b, w ∈ c := fun w h => (List.mem_append.mp h).elim (ha w) (hb w)
theorem in_nil {c : List Cond} : ∀ w ∈ ([] : List Cond), w ∈ c := fun _ h => nomatch h
set_option maxRecDepth 20000 in
theorem wsL_in_r1 : ∀ w ∈ wsL_law0_r1, w ∈ lw_tbl := fun w h => (goodIn_p wsL_law0_r1 [32, 35] (by decide +kernel) (by decide +kernel) w h).1
set_option maxRecDepth 20000 in
theorem wsL_in_r2 : ∀ w ∈ wsL_law0_r2, w ∈ lw_tbl := fun w h => (goodIn_p wsL_law0_r2 [40, 51] (by decide +kernel) (by decide +kernel) w h).1
set_option maxRecDepth 20000 in
theorem wsL_in_r3 : ∀ w ∈ wsL_law0_r3, w ∈ lw_tbl := fun w h => (goodIn_p wsL_law0_r3 [57, 85, 111, 141] (by decide +kernel) (by decide +kernel) w h).1
set_option maxRecDepth 20000 in
theorem wsL_in_r4 : ∀ w ∈ wsL_law0_r4, w ∈ lw_tbl := fun w h => (goodIn_p wsL_law0_r4 [603] (by decide +kernel) (by decide +kernel) w h).1
set_option maxRecDepth 20000 in
theorem wsL_in_r5 : ∀ w ∈ wsL_law0_r5, w ∈ lw_tbl := fun w h => (goodIn_p wsL_law0_r5 [195, 198, 270] (by decide +kernel) (by decide +kernel) w h).1
set_option maxRecDepth 20000 in
theorem wsL_in_r6 : ∀ w ∈ wsL_law0_r6, w ∈ lw_tbl := fun w h => (goodIn_p wsL_law0_r6 [290, 685, 688, 691, 695, 681] (by decide +kernel) (by decide +kernel) w h).1
set_option maxRecDepth 20000 in
theorem wsL_in_r7 : ∀ w ∈ wsL_law0_r7, w ∈ lw_tbl := fun w h => (goodIn_p wsL_law0_r7 [297, 301, 304, 307, 310, 313] (by decide +kernel) (by decide +kernel) w h).1
set_option maxRecDepth 20000 in
theorem wsL_in_r8 : ∀ w ∈ wsL_law0_r8, w ∈ lw_tbl := fun w h => (goodIn_p wsL_law0_r8 [699, 703, 706, 709, 712, 320] (by decide +kernel) (by decide +kernel) w h).1
set_option maxRecDepth 20000 in
theorem wsL_in_r9 : ∀ w ∈ wsL_law0_r9, w ∈ lw_tbl := fun w h => (goodIn_p wsL_law0_r9 [324, 716, 332, 335, 720, 723] (by decide +kernel) (by decide +kernel) w h).1
set_option maxRecDepth 20000 in
theorem wsL_in_r10 : ∀ w ∈ wsL_law0_r10, w ∈ lw_tbl := fun w h => (goodIn_p wsL_law0_r10 [344, 347, 368, 727] (by decide +kernel) (by decide +kernel) w h).1
set_option maxRecDepth 20000 in
theorem wsL_in_r11 : ∀ w ∈ wsL_law0_r11, w ∈ lw_tbl := fun w h => (goodIn_p wsL_law0_r11 [730, 375, 378, 383] (by decide +kernel) (by decide +kernel) w h).1
set_option maxRecDepth 20000 in
theorem wsL_in_r12 : ∀ w ∈ wsL_law0_r12, w ∈ lw_tbl := fun w h => (goodIn_p wsL_law0_r12 [388, 392, 397, 401, 406, 734, 737] (by decide +kernel) (by decide +kernel) w h).1
set_option maxRecDepth 20000 in
theorem wsL_in_r13 : ∀ w ∈ wsL_law0_r13, w ∈ lw_tbl := fun w h => (goodIn_p wsL_law0_r13 [740, 743, 747, 413, 419, 424] (by decide +kernel) (by decide +kernel) w h).1
set_option maxRecDepth 20000 in
theorem wsL_in_r14 : ∀ w ∈ wsL_law0_r14, w ∈ lw_tbl := fun w h => (goodIn_p wsL_law0_r14 [429, 751, 436, 441] (by decide +kernel) (by decide +kernel) w h).1
set_option maxRecDepth 20000 in
theorem wsL_in_r15 : ∀ w ∈ wsL_law0_r15, w ∈ lw_tbl := fun w h => (goodIn_p wsL_law0_r15 [445, 755, 454, 459] (by decide +kernel) (by decide +kernel) w h).1
set_option maxRecDepth 20000 in
theorem wsL_in_r16 : ∀ w ∈ wsL_law0_r16, w ∈ lw_tbl := fun w h => (goodIn_p wsL_law0_r16 [464, 468, 759, 475, 479] (by decide +kernel) (by decide +kernel) w h).1
set_option maxRecDepth 20000 in
theorem wsL_in_r17 : ∀ w ∈ wsL_law0_r17, w ∈ lw_tbl := fun w h => (goodIn_p wsL_law0_r17 [484, 489, 493, 497, 763] (by decide +kernel) (by decide +kernel) w h).1
set_option maxRecDepth 20000 in
theorem wsL_in_r18 : ∀ w ∈ wsL_law0_r18, w ∈ lw_tbl := fun w h => (goodIn_p wsL_law0_r18 [767, 504, 508, 512, 516] (by decide +kernel) (by decide +kernel) w h).1
set_option maxRecDepth 20000 in
theorem wsL_in_r19 : ∀ w ∈ wsL_law0_r19, w ∈ lw_tbl := fun w h => (goodIn_p wsL_law0_r19 [520, 524, 528, 532, 771, 174] (by decide +kernel) (by decide +kernel) w h).1
set_option maxRecDepth 20000 in
theorem wsL_in_r20 : ∀ w ∈ wsL_law0_r20, w ∈ lw_tbl := fun w h => (goodIn_p wsL_law0_r20 [178, 775, 539, 779, 546] (by decide +kernel) (by decide +kernel) w h).1
set_option maxRecDepth 20000 in
theorem wsL_in_r21 : ∀ w ∈ wsL_law0_r21, w ∈ lw_tbl := fun w h => (goodIn_p wsL_law0_r21 [550, 783, 182, 186, 787] (by decide +kernel) (by decide +kernel) w h).1
set_option maxRecDepth 20000 in
theorem wsL_in_r22 : ∀ w ∈ wsL_law0_r22, w ∈ lw_tbl := fun w h => (goodIn_p wsL_law0_r22 [557, 561, 791, 795, 568] (by decide +kernel) (by decide +kernel) w h).1
set_option maxRecDepth 20000 in
theorem wsL_in_r23 : ∀ w ∈ wsL_law0_r23, w ∈ lw_tbl := fun w h => (goodIn_p wsL_law0_r23 [572, 799, 579, 583, 803] (by decide +kernel) (by decide +kernel) w h).1
set_option maxRecDepth 20000 in
theorem wsL_in_r24 : ∀ w ∈ wsL_law0_r24, w ∈ lw_tbl := fun w h => (goodIn_p wsL_law0_r24 [590, 594, 598, 807, 811] (by decide +kernel) (by decide +kernel) w h).1
set_option maxRecDepth 20000 in
theorem wsL_in_X50 : ∀ w ∈ wsX50, w ∈ lw_tbl := by decide +kernel
set_option maxRecDepth 20000 in
theorem wsL_in_X60 : ∀ w ∈ wsX60, w ∈ lw_tbl := by decide +kernel
set_option maxRecDepth 20000 in
theorem wsL_in_X10 : ∀ w ∈ wsX10, w ∈ lw_tbl := by decide +kernel
set_option maxRecDepth 20000 in
theorem wsL_in_X20 : ∀ w ∈ wsX20, w ∈ lw_tbl := by decide +kernel
set_option maxRecDepth 20000 in
theorem wsL_in_X40 : ∀ w ∈ wsX40, w ∈ lw_tbl := by decide +kernel
set_option maxRecDepth 20000 in
theorem wsL_in_X30 : ∀ w ∈ wsX30, w ∈ lw_tbl := by decide +kernel
set_option maxRecDepth 20000 in
theorem wsL_in_X00 : ∀ w ∈ wsX00, w ∈ lw_tbl := by decide +kernel
theorem wsL_law_in0 : ∀ w ∈ wsL_law0, w ∈ lw_tbl := (in_app (in_app (in_app (in_app (in_app (in_app (in_app (in_app (in_app wsL_in_r1 (in_app wsL_in_r2 (in_app wsL_in_r3 (in_app wsL_in_r4 (in_app wsL_in_r5 (in_app wsL_in_r6 (in_app wsL_in_r7 (in_app wsL_in_r8 (in_app wsL_in_r9 (in_app wsL_in_r10 (in_app wsL_in_r11 (in_app wsL_in_r12 (in_app wsL_in_r13 (in_app wsL_in_r14 (in_app wsL_in_r15 (in_app wsL_in_r16 (in_app wsL_in_r17 (in_app wsL_in_r18 (in_app wsL_in_r19 (in_app wsL_in_r20 (in_app wsL_in_r21 (in_app wsL_in_r22 (in_app wsL_in_r23 wsL_in_r24))))))))))))))))))))))) wsL_in_X50) wsL_in_X60) wsL_in_X10) wsL_in_X20) wsL_in_X40) wsL_in_X30) wsL_in_X00) in_nil)
end
section
theorem wsL_law_x0 : ∀ w ∈ (vx_atS RX5 46 "java/lang/IllegalStateException" ["java/lang/RuntimeException", "java/lang/Exception"]).filter goodWord, w ∈ lw_tbl := by decide +kernel
theorem wsL_law_x1 : ∀ w ∈ (vx_atS RX5 139 "java/lang/IndexOutOfBoundsException" ["java/lang/RuntimeException", "java/lang/Exception"]).filter goodWord, w ∈ lw_tbl := by decide +kernel
theorem wsL_law_x2 : ∀ w ∈ (vx_atS RX5 71 "java/lang/IllegalArgumentException" ["java/lang/RuntimeException", "java/lang/Exception"]).filter goodWord, w ∈ lw_tbl := by decide +kernel
theorem wsL_law_in : ∀ w ∈ wsL_law, w ∈ lw_tbl := fun w h => (List.mem_append.mp h).elim (fun h => (List.mem_append.mp h).elim (fun h => (List.mem_append.mp h).elim (fun h => wsL_law_in0 w h) (fun h => wsL_law_x0 w h)) (fun h => wsL_law_x1 w h)) (fun h => wsL_law_x2 w h)
theorem inlX0 : ∀ w ∈ wsX00, w ∈ wsL_law := fun _ h => List.mem_append_left _ (List.mem_append_left _ (List.mem_append_left _ (List.mem_append_left _ (List.mem_append_right _ h))))
theorem inX0 : ∀ w ∈ wsX00, w ∈ lw_tbl := fun w h => wsL_law_in w (inlX0 w h)
theorem inlX1 : ∀ w ∈ wsX10, w ∈ wsL_law := fun _ h => List.mem_append_left _ (List.mem_append_left _ (List.mem_append_left _ (List.mem_append_left _ (List.mem_append_left _ (List.mem_append_left _ (List.mem_append_left _ (List.mem_append_left _ (List.mem_append_right _ h))))))))
theorem inX1 : ∀ w ∈ wsX10, w ∈ lw_tbl := fun w h => wsL_law_in w (inlX1 w h)
theorem inlX2 : ∀ w ∈ wsX20, w ∈ wsL_law := fun _ h => List.mem_append_left _ (List.mem_append_left _ (List.mem_append_left _ (List.mem_append_left _ (List.mem_append_left _ (List.mem_append_left _ (List.mem_append_left _ (List.mem_append_right _ h)))))))
theorem inX2 : ∀ w ∈ wsX20, w ∈ lw_tbl := fun w h => wsL_law_in w (inlX2 w h)
theorem inlX3 : ∀ w ∈ wsX30, w ∈ wsL_law := fun _ h => List.mem_append_left _ (List.mem_append_left _ (List.mem_append_left _ (List.mem_append_left _ (List.mem_append_left _ (List.mem_append_right _ h)))))
theorem inX3 : ∀ w ∈ wsX30, w ∈ lw_tbl := fun w h => wsL_law_in w (inlX3 w h)
theorem inlX4 : ∀ w ∈ wsX40, w ∈ wsL_law := fun _ h => List.mem_append_left _ (List.mem_append_left _ (List.mem_append_left _ (List.mem_append_left _ (List.mem_append_left _ (List.mem_append_left _ (List.mem_append_right _ h))))))
theorem inX4 : ∀ w ∈ wsX40, w ∈ lw_tbl := fun w h => wsL_law_in w (inlX4 w h)
theorem inlX5 : ∀ w ∈ wsX50, w ∈ wsL_law := fun _ h => List.mem_append_left _ (List.mem_append_left _ (List.mem_append_left _ (List.mem_append_left _ (List.mem_append_left _ (List.mem_append_left _ (List.mem_append_left _ (List.mem_append_left _ (List.mem_append_left _ (List.mem_append_left _ (List.mem_append_right _ h))))))))))
theorem inX5 : ∀ w ∈ wsX50, w ∈ lw_tbl := fun w h => wsL_law_in w (inlX5 w h)
theorem inlX6 : ∀ w ∈ wsX60, w ∈ wsL_law := fun _ h => List.mem_append_left _ (List.mem_append_left _ (List.mem_append_left _ (List.mem_append_left _ (List.mem_append_left _ (List.mem_append_left _ (List.mem_append_left _ (List.mem_append_left _ (List.mem_append_left _ (List.mem_append_right _ h)))))))))
theorem inX6 : ∀ w ∈ wsX60, w ∈ lw_tbl := fun w h => wsL_law_in w (inlX6 w h)
theorem inJ9 : ∀ w ∈ wsJ90, w ∈ lw_tbl := by decide +kernel
theorem inJ0 : ∀ w ∈ wsJ00, w ∈ lw_tbl := by decide +kernel
theorem dX0_init_0 : decode cX0_init 0 = .ok (.aload_n 0, 1) := by decide +kernel
theorem dX0_init_1 : decode cX0_init 1 = .ok (.invokespecial 3, 3) := by decide +kernel
theorem dX0_init_4 : decode cX0_init 4 = .ok (.aload_n 0, 1) := by decide +kernel
theorem dX0_init_5 : decode cX0_init 5 = .ok (.sipush 512, 3) := by decide +kernel
theorem dX0_init_8 : decode cX0_init 8 = .ok (.newarray .int, 2) := by decide +kernel
theorem dX0_init_10 : decode cX0_init 10 = .ok (.putfield 9, 3) := by decide +kernel
theorem dX0_init_13 : decode cX0_init 13 = .ok (.aload_n 0, 1) := by decide +kernel
theorem dX0_init_14 : decode cX0_init 14 = .ok (.sipush 512, 3) := by decide +kernel
theorem dX0_init_17 : decode cX0_init 17 = .ok (.newarray .int, 2) := by decide +kernel
theorem dX0_init_19 : decode cX0_init 19 = .ok (.putfield 15, 3) := by decide +kernel
theorem dX0_init_22 : decode cX0_init 22 = .ok (.aload_n 0, 1) := by decide +kernel
theorem dX0_init_23 : decode cX0_init 23 = .ok (.sipush 512, 3) := by decide +kernel
theorem dX0_init_26 : decode cX0_init 26 = .ok (.newarray .int, 2) := by decide +kernel
theorem dX0_init_28 : decode cX0_init 28 = .ok (.putfield 18, 3) := by decide +kernel
theorem dX0_init_31 : decode cX0_init 31 = .ok (.aload_n 0, 1) := by decide +kernel
theorem dX0_init_32 : decode cX0_init 32 = .ok (.sipush 512, 3) := by decide +kernel
theorem dX0_init_35 : decode cX0_init 35 = .ok (.newarray .boolean, 2) := by decide +kernel
theorem dX0_init_37 : decode cX0_init 37 = .ok (.putfield 21, 3) := by decide +kernel
theorem dX0_init_40 : decode cX0_init 40 = .ok (.return_, 1) := by decide +kernel
theorem dX0_add_0 : decode cX0_add 0 = .ok (.aload_n 0, 1) := by decide +kernel
theorem dX0_add_1 : decode cX0_add 1 = .ok (.getfield 9, 3) := by decide +kernel
theorem dX0_add_4 : decode cX0_add 4 = .ok (.aload_n 0, 1) := by decide +kernel
theorem dX0_add_5 : decode cX0_add 5 = .ok (.getfield 25, 3) := by decide +kernel
theorem dX0_add_8 : decode cX0_add 8 = .ok (.iload_n 1, 1) := by decide +kernel
theorem dX0_add_9 : decode cX0_add 9 = .ok (.iastore, 1) := by decide +kernel
theorem dX0_add_10 : decode cX0_add 10 = .ok (.aload_n 0, 1) := by decide +kernel
theorem dX0_add_11 : decode cX0_add 11 = .ok (.getfield 15, 3) := by decide +kernel
theorem dX0_add_14 : decode cX0_add 14 = .ok (.aload_n 0, 1) := by decide +kernel
theorem dX0_add_15 : decode cX0_add 15 = .ok (.getfield 25, 3) := by decide +kernel
theorem dX0_add_18 : decode cX0_add 18 = .ok (.iload_n 2, 1) := by decide +kernel
theorem dX0_add_19 : decode cX0_add 19 = .ok (.iastore, 1) := by decide +kernel
theorem dX0_add_20 : decode cX0_add 20 = .ok (.aload_n 0, 1) := by decide +kernel
theorem dX0_add_21 : decode cX0_add 21 = .ok (.getfield 18, 3) := by decide +kernel
theorem dX0_add_24 : decode cX0_add 24 = .ok (.aload_n 0, 1) := by decide +kernel
theorem dX0_add_25 : decode cX0_add 25 = .ok (.getfield 25, 3) := by decide +kernel
theorem dX0_add_28 : decode cX0_add 28 = .ok (.iload_n 3, 1) := by decide +kernel
theorem dX0_add_29 : decode cX0_add 29 = .ok (.iastore, 1) := by decide +kernel
theorem dX0_add_30 : decode cX0_add 30 = .ok (.aload_n 0, 1) := by decide +kernel
theorem dX0_add_31 : decode cX0_add 31 = .ok (.getfield 21, 3) := by decide +kernel
theorem dX0_add_34 : decode cX0_add 34 = .ok (.aload_n 0, 1) := by decide +kernel
theorem dX0_add_35 : decode cX0_add 35 = .ok (.getfield 25, 3) := by decide +kernel
theorem dX0_add_38 : decode cX0_add 38 = .ok (.iconst 0, 1) := by decide +kernel
theorem dX0_add_39 : decode cX0_add 39 = .ok (.bastore, 1) := by decide +kernel
theorem dX0_add_40 : decode cX0_add 40 = .ok (.aload_n 0, 1) := by decide +kernel
theorem dX0_add_41 : decode cX0_add 41 = .ok (.dup, 1) := by decide +kernel
theorem dX0_add_42 : decode cX0_add 42 = .ok (.getfield 25, 3) := by decide +kernel
theorem dX0_add_45 : decode cX0_add 45 = .ok (.iconst 1, 1) := by decide +kernel
theorem dX0_add_46 : decode cX0_add 46 = .ok (.iadd, 1) := by decide +kernel
theorem dX0_add_47 : decode cX0_add 47 = .ok (.putfield 25, 3) := by decide +kernel
theorem dX0_add_50 : decode cX0_add 50 = .ok (.aload_n 0, 1) := by decide +kernel
theorem dX0_add_51 : decode cX0_add 51 = .ok (.getfield 25, 3) := by decide +kernel
theorem dX0_add_54 : decode cX0_add 54 = .ok (.iconst 1, 1) := by decide +kernel
theorem dX0_add_55 : decode cX0_add 55 = .ok (.isub, 1) := by decide +kernel
theorem dX0_add_56 : decode cX0_add 56 = .ok (.ireturn, 1) := by decide +kernel
theorem dX1_init_0 : decode cX1_init 0 = .ok (.aload_n 0, 1) := by decide +kernel
theorem dX1_init_1 : decode cX1_init 1 = .ok (.invokespecial 3, 3) := by decide +kernel
theorem dX1_init_4 : decode cX1_init 4 = .ok (.aload_n 0, 1) := by decide +kernel
theorem dX1_init_5 : decode cX1_init 5 = .ok (.sipush 144, 3) := by decide +kernel
theorem dX1_init_8 : decode cX1_init 8 = .ok (.newarray .boolean, 2) := by decide +kernel
theorem dX1_init_10 : decode cX1_init 10 = .ok (.putfield 9, 3) := by decide +kernel
theorem dX1_init_13 : decode cX1_init 13 = .ok (.return_, 1) := by decide +kernel
theorem dX1_distance_0 : decode cX1_distance 0 = .ok (.iload_n 0, 1) := by decide +kernel
theorem dX1_distance_1 : decode cX1_distance 1 = .ok (.bipush 12, 2) := by decide +kernel
theorem dX1_distance_3 : decode cX1_distance 3 = .ok (.idiv, 1) := by decide +kernel
theorem dX1_distance_4 : decode cX1_distance 4 = .ok (.iload_n 1, 1) := by decide +kernel
theorem dX1_distance_5 : decode cX1_distance 5 = .ok (.bipush 12, 2) := by decide +kernel
theorem dX1_distance_7 : decode cX1_distance 7 = .ok (.idiv, 1) := by decide +kernel
theorem dX1_distance_8 : decode cX1_distance 8 = .ok (.isub, 1) := by decide +kernel
theorem dX1_distance_9 : decode cX1_distance 9 = .ok (.invokestatic 15, 3) := by decide +kernel
theorem dX1_distance_12 : decode cX1_distance 12 = .ok (.istore_n 2, 1) := by decide +kernel
theorem dX1_distance_13 : decode cX1_distance 13 = .ok (.iload_n 0, 1) := by decide +kernel
theorem dX1_distance_14 : decode cX1_distance 14 = .ok (.bipush 12, 2) := by decide +kernel
theorem dX1_distance_16 : decode cX1_distance 16 = .ok (.irem, 1) := by decide +kernel
theorem dX1_distance_17 : decode cX1_distance 17 = .ok (.iload_n 1, 1) := by decide +kernel
theorem dX1_distance_18 : decode cX1_distance 18 = .ok (.bipush 12, 2) := by decide +kernel
theorem dX1_distance_20 : decode cX1_distance 20 = .ok (.irem, 1) := by decide +kernel
theorem dX1_distance_21 : decode cX1_distance 21 = .ok (.isub, 1) := by decide +kernel
theorem dX1_distance_22 : decode cX1_distance 22 = .ok (.invokestatic 15, 3) := by decide +kernel
theorem dX1_distance_25 : decode cX1_distance 25 = .ok (.istore_n 3, 1) := by decide +kernel
theorem dX1_distance_26 : decode cX1_distance 26 = .ok (.iload_n 2, 1) := by decide +kernel
theorem dX1_distance_27 : decode cX1_distance 27 = .ok (.iload_n 3, 1) := by decide +kernel
theorem dX1_distance_28 : decode cX1_distance 28 = .ok (.invokestatic 21, 3) := by decide +kernel
theorem dX1_distance_31 : decode cX1_distance 31 = .ok (.ireturn, 1) := by decide +kernel
theorem dX1_hasBunker_0 : decode cX1_hasBunker 0 = .ok (.aload_n 0, 1) := by decide +kernel
theorem dX1_hasBunker_1 : decode cX1_hasBunker 1 = .ok (.getfield 9, 3) := by decide +kernel
theorem dX1_hasBunker_4 : decode cX1_hasBunker 4 = .ok (.iload_n 1, 1) := by decide +kernel
theorem dX1_hasBunker_5 : decode cX1_hasBunker 5 = .ok (.baload, 1) := by decide +kernel
theorem dX1_hasBunker_6 : decode cX1_hasBunker 6 = .ok (.ireturn, 1) := by decide +kernel
theorem dX1_turnBunker_0 : decode cX1_turnBunker 0 = .ok (.aload_n 0, 1) := by decide +kernel
theorem dX1_turnBunker_1 : decode cX1_turnBunker 1 = .ok (.getfield 9, 3) := by decide +kernel
theorem dX1_turnBunker_4 : decode cX1_turnBunker 4 = .ok (.iload_n 1, 1) := by decide +kernel
theorem dX1_turnBunker_5 : decode cX1_turnBunker 5 = .ok (.aload_n 0, 1) := by decide +kernel
theorem dX1_turnBunker_6 : decode cX1_turnBunker 6 = .ok (.getfield 9, 3) := by decide +kernel
theorem dX1_turnBunker_9 : decode cX1_turnBunker 9 = .ok (.iload_n 1, 1) := by decide +kernel
theorem dX1_turnBunker_10 : decode cX1_turnBunker 10 = .ok (.baload, 1) := by decide +kernel
theorem dX1_turnBunker_11 : decode cX1_turnBunker 11 = .ok (.ifCond .ne 7, 3) := by decide +kernel
theorem dX1_turnBunker_14 : decode cX1_turnBunker 14 = .ok (.iconst 1, 1) := by decide +kernel
theorem dX1_turnBunker_15 : decode cX1_turnBunker 15 = .ok (.goto 4, 3) := by decide +kernel
theorem dX1_turnBunker_18 : decode cX1_turnBunker 18 = .ok (.iconst 0, 1) := by decide +kernel
theorem dX1_turnBunker_19 : decode cX1_turnBunker 19 = .ok (.bastore, 1) := by decide +kernel
theorem dX1_turnBunker_20 : decode cX1_turnBunker 20 = .ok (.aload_n 0, 1) := by decide +kernel
theorem dX1_turnBunker_21 : decode cX1_turnBunker 21 = .ok (.getfield 9, 3) := by decide +kernel
theorem dX1_turnBunker_24 : decode cX1_turnBunker 24 = .ok (.iload_n 1, 1) := by decide +kernel
theorem dX1_turnBunker_25 : decode cX1_turnBunker 25 = .ok (.baload, 1) := by decide +kernel
theorem dX1_turnBunker_26 : decode cX1_turnBunker 26 = .ok (.ireturn, 1) := by decide +kernel
set_option maxRecDepth 20000 in
theorem ggX1_countSeen_X1_hasSight : GoodIn wsX1_countSeen wsX1_hasSight := goodIn_r _ [5, 6, 7, 8, 9, 10, 11, 12, 13, 14, 15, 4, 16, 17, 18, 19, 20] (by decide +kernel) (by decide +kernel)
set_option maxRecDepth 20000 in
theorem gX1_countSeen_X1_hasSight : GoodIn wsX1_countSeen (wsV RX1 25 RX1 yX1_hasSight wsX1_hasSight) := goodIn_app (goodIn_of _ (by decide +kernel)) ggX1_countSeen_X1_hasSight
theorem dX1_countSeen_0 : decode cX1_countSeen 0 = .ok (.iconst 0, 1) := by decide +kernel
theorem dX1_countSeen_1 : decode cX1_countSeen 1 = .ok (.istore_n 2, 1) := by decide +kernel
theorem dX1_countSeen_2 : decode cX1_countSeen 2 = .ok (.iconst 0, 1) := by decide +kernel
theorem dX1_countSeen_3 : decode cX1_countSeen 3 = .ok (.istore_n 3, 1) := by decide +kernel
theorem dX1_countSeen_4 : decode cX1_countSeen 4 = .ok (.iload_n 3, 1) := by decide +kernel
theorem dX1_countSeen_5 : decode cX1_countSeen 5 = .ok (.sipush 144, 3) := by decide +kernel
theorem dX1_countSeen_8 : decode cX1_countSeen 8 = .ok (.if_icmp .ge 21, 3) := by decide +kernel
theorem dX1_countSeen_11 : decode cX1_countSeen 11 = .ok (.aload_n 0, 1) := by decide +kernel
theorem dX1_countSeen_12 : decode cX1_countSeen 12 = .ok (.iload_n 1, 1) := by decide +kernel
theorem dX1_countSeen_13 : decode cX1_countSeen 13 = .ok (.iload_n 3, 1) := by decide +kernel
theorem dX1_countSeen_14 : decode cX1_countSeen 14 = .ok (.invokevirtual 25, 3) := by decide +kernel
theorem dX1_countSeen_17 : decode cX1_countSeen 17 = .ok (.ifCond .eq 6, 3) := by decide +kernel
theorem dX1_countSeen_20 : decode cX1_countSeen 20 = .ok (.iinc 2 1, 3) := by decide +kernel
theorem dX1_countSeen_23 : decode cX1_countSeen 23 = .ok (.iinc 3 1, 3) := by decide +kernel
theorem dX1_countSeen_26 : decode cX1_countSeen 26 = .ok (.goto (-22), 3) := by decide +kernel
theorem dX1_countSeen_29 : decode cX1_countSeen 29 = .ok (.iload_n 2, 1) := by decide +kernel
theorem dX1_countSeen_30 : decode cX1_countSeen 30 = .ok (.ireturn, 1) := by decide +kernel
set_option maxRecDepth 20000 in
theorem ggX1_hasSight_X1_lineEnters : GoodIn wsX1_hasSight wsX1_lineEnters := goodIn_r _ [12, 13, 14, 4, 15] (by decide +kernel) (by decide +kernel)
set_option maxRecDepth 20000 in
theorem gX1_hasSight_X1_lineEnters : GoodIn wsX1_hasSight (va_wsS RX1 32 yX1_lineEnters wsX1_lineEnters) := goodIn_app (goodIn_of _ (by decide +kernel)) ggX1_hasSight_X1_lineEnters
theorem dX1_hasSight_0 : decode cX1_hasSight 0 = .ok (.iload_n 1, 1) := by decide +kernel
theorem dX1_hasSight_1 : decode cX1_hasSight 1 = .ok (.iload_n 2, 1) := by decide +kernel
theorem dX1_hasSight_2 : decode cX1_hasSight 2 = .ok (.if_icmp .ne 18, 3) := by decide +kernel
theorem dX1_hasSight_5 : decode cX1_hasSight 5 = .ok (.aload_n 0, 1) := by decide +kernel
theorem dX1_hasSight_6 : decode cX1_hasSight 6 = .ok (.getfield 9, 3) := by decide +kernel
theorem dX1_hasSight_9 : decode cX1_hasSight 9 = .ok (.iload_n 1, 1) := by decide +kernel
theorem dX1_hasSight_10 : decode cX1_hasSight 10 = .ok (.baload, 1) := by decide +kernel
theorem dX1_hasSight_11 : decode cX1_hasSight 11 = .ok (.ifCond .ne 7, 3) := by decide +kernel
theorem dX1_hasSight_14 : decode cX1_hasSight 14 = .ok (.iconst 1, 1) := by decide +kernel
theorem dX1_hasSight_15 : decode cX1_hasSight 15 = .ok (.goto 4, 3) := by decide +kernel
theorem dX1_hasSight_18 : decode cX1_hasSight 18 = .ok (.iconst 0, 1) := by decide +kernel
theorem dX1_hasSight_19 : decode cX1_hasSight 19 = .ok (.ireturn, 1) := by decide +kernel
theorem dX1_hasSight_20 : decode cX1_hasSight 20 = .ok (.iload_n 1, 1) := by decide +kernel
theorem dX1_hasSight_21 : decode cX1_hasSight 21 = .ok (.bipush 12, 2) := by decide +kernel
theorem dX1_hasSight_23 : decode cX1_hasSight 23 = .ok (.idiv, 1) := by decide +kernel
theorem dX1_hasSight_24 : decode cX1_hasSight 24 = .ok (.iload_n 2, 1) := by decide +kernel
theorem dX1_hasSight_25 : decode cX1_hasSight 25 = .ok (.bipush 12, 2) := by decide +kernel
theorem dX1_hasSight_27 : decode cX1_hasSight 27 = .ok (.idiv, 1) := by decide +kernel
theorem dX1_hasSight_28 : decode cX1_hasSight 28 = .ok (.invokestatic 29, 3) := by decide +kernel
theorem dX1_hasSight_31 : decode cX1_hasSight 31 = .ok (.istore_n 3, 1) := by decide +kernel
theorem dX1_hasSight_32 : decode cX1_hasSight 32 = .ok (.iload_n 1, 1) := by decide +kernel
theorem dX1_hasSight_33 : decode cX1_hasSight 33 = .ok (.bipush 12, 2) := by decide +kernel
theorem dX1_hasSight_35 : decode cX1_hasSight 35 = .ok (.idiv, 1) := by decide +kernel
theorem dX1_hasSight_36 : decode cX1_hasSight 36 = .ok (.iload_n 2, 1) := by decide +kernel
theorem dX1_hasSight_37 : decode cX1_hasSight 37 = .ok (.bipush 12, 2) := by decide +kernel
theorem dX1_hasSight_39 : decode cX1_hasSight 39 = .ok (.idiv, 1) := by decide +kernel
theorem dX1_hasSight_40 : decode cX1_hasSight 40 = .ok (.invokestatic 21, 3) := by decide +kernel
theorem dX1_hasSight_43 : decode cX1_hasSight 43 = .ok (.istore 4, 2) := by decide +kernel
theorem dX1_hasSight_45 : decode cX1_hasSight 45 = .ok (.iload_n 1, 1) := by decide +kernel
theorem dX1_hasSight_46 : decode cX1_hasSight 46 = .ok (.bipush 12, 2) := by decide +kernel
theorem dX1_hasSight_48 : decode cX1_hasSight 48 = .ok (.irem, 1) := by decide +kernel
theorem dX1_hasSight_49 : decode cX1_hasSight 49 = .ok (.iload_n 2, 1) := by decide +kernel
theorem dX1_hasSight_50 : decode cX1_hasSight 50 = .ok (.bipush 12, 2) := by decide +kernel
theorem dX1_hasSight_52 : decode cX1_hasSight 52 = .ok (.irem, 1) := by decide +kernel
theorem dX1_hasSight_53 : decode cX1_hasSight 53 = .ok (.invokestatic 29, 3) := by decide +kernel
theorem dX1_hasSight_56 : decode cX1_hasSight 56 = .ok (.istore 5, 2) := by decide +kernel
theorem dX1_hasSight_58 : decode cX1_hasSight 58 = .ok (.iload_n 1, 1) := by decide +kernel
theorem dX1_hasSight_59 : decode cX1_hasSight 59 = .ok (.bipush 12, 2) := by decide +kernel
theorem dX1_hasSight_61 : decode cX1_hasSight 61 = .ok (.irem, 1) := by decide +kernel
theorem dX1_hasSight_62 : decode cX1_hasSight 62 = .ok (.iload_n 2, 1) := by decide +kernel
theorem dX1_hasSight_63 : decode cX1_hasSight 63 = .ok (.bipush 12, 2) := by decide +kernel
theorem dX1_hasSight_65 : decode cX1_hasSight 65 = .ok (.irem, 1) := by decide +kernel
theorem dX1_hasSight_66 : decode cX1_hasSight 66 = .ok (.invokestatic 21, 3) := by decide +kernel
theorem dX1_hasSight_69 : decode cX1_hasSight 69 = .ok (.istore 6, 2) := by decide +kernel
theorem dX1_hasSight_71 : decode cX1_hasSight 71 = .ok (.iload_n 3, 1) := by decide +kernel
theorem dX1_hasSight_72 : decode cX1_hasSight 72 = .ok (.istore 7, 2) := by decide +kernel
theorem dX1_hasSight_74 : decode cX1_hasSight 74 = .ok (.iload 7, 2) := by decide +kernel
theorem dX1_hasSight_76 : decode cX1_hasSight 76 = .ok (.iload 4, 2) := by decide +kernel
theorem dX1_hasSight_78 : decode cX1_hasSight 78 = .ok (.if_icmp .gt 58, 3) := by decide +kernel
theorem dX1_hasSight_81 : decode cX1_hasSight 81 = .ok (.iload 5, 2) := by decide +kernel
theorem dX1_hasSight_83 : decode cX1_hasSight 83 = .ok (.istore 8, 2) := by decide +kernel
theorem dX1_hasSight_85 : decode cX1_hasSight 85 = .ok (.iload 8, 2) := by decide +kernel
theorem dX1_hasSight_87 : decode cX1_hasSight 87 = .ok (.iload 6, 2) := by decide +kernel
theorem dX1_hasSight_89 : decode cX1_hasSight 89 = .ok (.if_icmp .gt 41, 3) := by decide +kernel
theorem dX1_hasSight_92 : decode cX1_hasSight 92 = .ok (.bipush 12, 2) := by decide +kernel
theorem dX1_hasSight_94 : decode cX1_hasSight 94 = .ok (.iload 7, 2) := by decide +kernel
theorem dX1_hasSight_96 : decode cX1_hasSight 96 = .ok (.imul, 1) := by decide +kernel
theorem dX1_hasSight_97 : decode cX1_hasSight 97 = .ok (.iload 8, 2) := by decide +kernel
theorem dX1_hasSight_99 : decode cX1_hasSight 99 = .ok (.iadd, 1) := by decide +kernel
theorem dX1_hasSight_100 : decode cX1_hasSight 100 = .ok (.istore 9, 2) := by decide +kernel
theorem dX1_hasSight_102 : decode cX1_hasSight 102 = .ok (.aload_n 0, 1) := by decide +kernel
theorem dX1_hasSight_103 : decode cX1_hasSight 103 = .ok (.getfield 9, 3) := by decide +kernel
theorem dX1_hasSight_106 : decode cX1_hasSight 106 = .ok (.iload 9, 2) := by decide +kernel
theorem dX1_hasSight_108 : decode cX1_hasSight 108 = .ok (.baload, 1) := by decide +kernel
theorem dX1_hasSight_109 : decode cX1_hasSight 109 = .ok (.ifCond .eq 15, 3) := by decide +kernel
theorem dX1_hasSight_112 : decode cX1_hasSight 112 = .ok (.iload_n 1, 1) := by decide +kernel
theorem dX1_hasSight_113 : decode cX1_hasSight 113 = .ok (.iload_n 2, 1) := by decide +kernel
theorem dX1_hasSight_114 : decode cX1_hasSight 114 = .ok (.iload 9, 2) := by decide +kernel
theorem dX1_hasSight_116 : decode cX1_hasSight 116 = .ok (.invokestatic 32, 3) := by decide +kernel
theorem dX1_hasSight_119 : decode cX1_hasSight 119 = .ok (.ifCond .eq 5, 3) := by decide +kernel
theorem dX1_hasSight_122 : decode cX1_hasSight 122 = .ok (.iconst 0, 1) := by decide +kernel
theorem dX1_hasSight_123 : decode cX1_hasSight 123 = .ok (.ireturn, 1) := by decide +kernel
theorem dX1_hasSight_124 : decode cX1_hasSight 124 = .ok (.iinc 8 1, 3) := by decide +kernel
theorem dX1_hasSight_127 : decode cX1_hasSight 127 = .ok (.goto (-42), 3) := by decide +kernel
theorem dX1_hasSight_130 : decode cX1_hasSight 130 = .ok (.iinc 7 1, 3) := by decide +kernel
theorem dX1_hasSight_133 : decode cX1_hasSight 133 = .ok (.goto (-59), 3) := by decide +kernel
theorem dX1_hasSight_136 : decode cX1_hasSight 136 = .ok (.iconst 1, 1) := by decide +kernel
theorem dX1_hasSight_137 : decode cX1_hasSight 137 = .ok (.ireturn, 1) := by decide +kernel
theorem dX1_lineEnters_0 : decode cX1_lineEnters 0 = .ok (.iload_n 1, 1) := by decide +kernel
theorem dX1_lineEnters_1 : decode cX1_lineEnters 1 = .ok (.bipush 12, 2) := by decide +kernel
theorem dX1_lineEnters_3 : decode cX1_lineEnters 3 = .ok (.idiv, 1) := by decide +kernel
theorem dX1_lineEnters_4 : decode cX1_lineEnters 4 = .ok (.iload_n 0, 1) := by decide +kernel
theorem dX1_lineEnters_5 : decode cX1_lineEnters 5 = .ok (.bipush 12, 2) := by decide +kernel
theorem dX1_lineEnters_7 : decode cX1_lineEnters 7 = .ok (.idiv, 1) := by decide +kernel
theorem dX1_lineEnters_8 : decode cX1_lineEnters 8 = .ok (.isub, 1) := by decide +kernel
theorem dX1_lineEnters_9 : decode cX1_lineEnters 9 = .ok (.istore_n 3, 1) := by decide +kernel
theorem dX1_lineEnters_10 : decode cX1_lineEnters 10 = .ok (.iload_n 1, 1) := by decide +kernel
theorem dX1_lineEnters_11 : decode cX1_lineEnters 11 = .ok (.bipush 12, 2) := by decide +kernel
theorem dX1_lineEnters_13 : decode cX1_lineEnters 13 = .ok (.irem, 1) := by decide +kernel
theorem dX1_lineEnters_14 : decode cX1_lineEnters 14 = .ok (.iload_n 0, 1) := by decide +kernel
theorem dX1_lineEnters_15 : decode cX1_lineEnters 15 = .ok (.bipush 12, 2) := by decide +kernel
theorem dX1_lineEnters_17 : decode cX1_lineEnters 17 = .ok (.irem, 1) := by decide +kernel
theorem dX1_lineEnters_18 : decode cX1_lineEnters 18 = .ok (.isub, 1) := by decide +kernel
theorem dX1_lineEnters_19 : decode cX1_lineEnters 19 = .ok (.istore 4, 2) := by decide +kernel
theorem dX1_lineEnters_21 : decode cX1_lineEnters 21 = .ok (.iload_n 2, 1) := by decide +kernel
theorem dX1_lineEnters_22 : decode cX1_lineEnters 22 = .ok (.bipush 12, 2) := by decide +kernel
theorem dX1_lineEnters_24 : decode cX1_lineEnters 24 = .ok (.idiv, 1) := by decide +kernel
theorem dX1_lineEnters_25 : decode cX1_lineEnters 25 = .ok (.iload_n 0, 1) := by decide +kernel
theorem dX1_lineEnters_26 : decode cX1_lineEnters 26 = .ok (.bipush 12, 2) := by decide +kernel
theorem dX1_lineEnters_28 : decode cX1_lineEnters 28 = .ok (.idiv, 1) := by decide +kernel
theorem dX1_lineEnters_29 : decode cX1_lineEnters 29 = .ok (.isub, 1) := by decide +kernel
theorem dX1_lineEnters_30 : decode cX1_lineEnters 30 = .ok (.istore 5, 2) := by decide +kernel
theorem dX1_lineEnters_32 : decode cX1_lineEnters 32 = .ok (.iload_n 2, 1) := by decide +kernel
theorem dX1_lineEnters_33 : decode cX1_lineEnters 33 = .ok (.bipush 12, 2) := by decide +kernel
theorem dX1_lineEnters_35 : decode cX1_lineEnters 35 = .ok (.irem, 1) := by decide +kernel
theorem dX1_lineEnters_36 : decode cX1_lineEnters 36 = .ok (.iload_n 0, 1) := by decide +kernel
theorem dX1_lineEnters_37 : decode cX1_lineEnters 37 = .ok (.bipush 12, 2) := by decide +kernel
theorem dX1_lineEnters_39 : decode cX1_lineEnters 39 = .ok (.irem, 1) := by decide +kernel
theorem dX1_lineEnters_40 : decode cX1_lineEnters 40 = .ok (.isub, 1) := by decide +kernel
theorem dX1_lineEnters_41 : decode cX1_lineEnters 41 = .ok (.istore 6, 2) := by decide +kernel
theorem dX1_lineEnters_43 : decode cX1_lineEnters 43 = .ok (.iload_n 3, 1) := by decide +kernel
theorem dX1_lineEnters_44 : decode cX1_lineEnters 44 = .ok (.iload 6, 2) := by decide +kernel
theorem dX1_lineEnters_46 : decode cX1_lineEnters 46 = .ok (.imul, 1) := by decide +kernel
theorem dX1_lineEnters_47 : decode cX1_lineEnters 47 = .ok (.iload 4, 2) := by decide +kernel
theorem dX1_lineEnters_49 : decode cX1_lineEnters 49 = .ok (.iload 5, 2) := by decide +kernel
theorem dX1_lineEnters_51 : decode cX1_lineEnters 51 = .ok (.imul, 1) := by decide +kernel
theorem dX1_lineEnters_52 : decode cX1_lineEnters 52 = .ok (.isub, 1) := by decide +kernel
theorem dX1_lineEnters_53 : decode cX1_lineEnters 53 = .ok (.istore 7, 2) := by decide +kernel
theorem dX1_lineEnters_55 : decode cX1_lineEnters 55 = .ok (.iconst 2, 1) := by decide +kernel
theorem dX1_lineEnters_56 : decode cX1_lineEnters 56 = .ok (.iload 7, 2) := by decide +kernel
theorem dX1_lineEnters_58 : decode cX1_lineEnters 58 = .ok (.invokestatic 15, 3) := by decide +kernel
theorem dX1_lineEnters_61 : decode cX1_lineEnters 61 = .ok (.imul, 1) := by decide +kernel
theorem dX1_lineEnters_62 : decode cX1_lineEnters 62 = .ok (.iload_n 3, 1) := by decide +kernel
theorem dX1_lineEnters_63 : decode cX1_lineEnters 63 = .ok (.invokestatic 15, 3) := by decide +kernel
theorem dX1_lineEnters_66 : decode cX1_lineEnters 66 = .ok (.iload 4, 2) := by decide +kernel
theorem dX1_lineEnters_68 : decode cX1_lineEnters 68 = .ok (.invokestatic 15, 3) := by decide +kernel
theorem dX1_lineEnters_71 : decode cX1_lineEnters 71 = .ok (.iadd, 1) := by decide +kernel
theorem dX1_lineEnters_72 : decode cX1_lineEnters 72 = .ok (.if_icmp .ge 7, 3) := by decide +kernel
theorem dX1_lineEnters_75 : decode cX1_lineEnters 75 = .ok (.iconst 1, 1) := by decide +kernel
theorem dX1_lineEnters_76 : decode cX1_lineEnters 76 = .ok (.goto 4, 3) := by decide +kernel
theorem dX1_lineEnters_79 : decode cX1_lineEnters 79 = .ok (.iconst 0, 1) := by decide +kernel
theorem dX1_lineEnters_80 : decode cX1_lineEnters 80 = .ok (.ireturn, 1) := by decide +kernel
set_option maxRecDepth 20000 in
theorem ggX2_init_X3_init : GoodIn wsX2_init wsX3_init := goodIn_r _ [18, 19, 2, 3, 5, 20, 21, 22, 23, 47, 48, 49, 50, 51] (by decide +kernel) (by decide +kernel)
set_option maxRecDepth 20000 in
theorem gX2_init_X3_init_n27 : GoodIn wsX2_init (wsX3_init) := ggX2_init_X3_init
set_option maxRecDepth 20000 in
theorem ggX2_init_X0_init : GoodIn wsX2_init wsX0_init := goodIn_r _ [25, 26, 2, 3, 5, 27, 28, 29, 30, 31, 52, 53, 54, 55, 56] (by decide +kernel) (by decide +kernel)
set_option maxRecDepth 20000 in
theorem gX2_init_X0_init_n34 : GoodIn wsX2_init (wsX0_init) := ggX2_init_X0_init
set_option maxRecDepth 20000 in
theorem ggX2_init_X2_reset : GoodIn wsX2_init wsX2_reset := goodIn_r _ [36, 6, 7, 8, 12, 37, 16, 38, 39, 40, 41, 42, 43, 44, 45, 46, 47, 48, 49, 50, 51, 52, 53, 54, 55, 56] (by decide +kernel) (by decide +kernel)
set_option maxRecDepth 20000 in
theorem gX2_init_X2_reset : GoodIn wsX2_init (wsV RX2 39 RX2 yX2_reset wsX2_reset) := goodIn_app (goodIn_of _ (by decide +kernel)) ggX2_init_X2_reset
theorem dX2_init_0 : decode cX2_init 0 = .ok (.aload_n 0, 1) := by decide +kernel
theorem dX2_init_1 : decode cX2_init 1 = .ok (.invokespecial 3, 3) := by decide +kernel
theorem dX2_init_4 : decode cX2_init 4 = .ok (.aload_n 0, 1) := by decide +kernel
theorem dX2_init_5 : decode cX2_init 5 = .ok (.iconst (-1), 1) := by decide +kernel
theorem dX2_init_6 : decode cX2_init 6 = .ok (.putfield 9, 3) := by decide +kernel
theorem dX2_init_9 : decode cX2_init 9 = .ok (.aload_n 0, 1) := by decide +kernel
theorem dX2_init_10 : decode cX2_init 10 = .ok (.bipush 6, 2) := by decide +kernel
theorem dX2_init_12 : decode cX2_init 12 = .ok (.newarray .int, 2) := by decide +kernel
theorem dX2_init_14 : decode cX2_init 14 = .ok (.putfield 15, 3) := by decide +kernel
theorem dX2_init_17 : decode cX2_init 17 = .ok (.aload_n 0, 1) := by decide +kernel
theorem dX2_init_18 : decode cX2_init 18 = .ok (.bipush 6, 2) := by decide +kernel
theorem dX2_init_20 : decode cX2_init 20 = .ok (.newarray .int, 2) := by decide +kernel
theorem dX2_init_22 : decode cX2_init 22 = .ok (.putfield 19, 3) := by decide +kernel
theorem dX2_init_25 : decode cX2_init 25 = .ok (.aload_n 0, 1) := by decide +kernel
theorem dX2_init_26 : decode cX2_init 26 = .ok (.bipush 6, 2) := by decide +kernel
theorem dX2_init_28 : decode cX2_init 28 = .ok (.newarray .int, 2) := by decide +kernel
theorem dX2_init_30 : decode cX2_init 30 = .ok (.putfield 22, 3) := by decide +kernel
theorem dX2_init_33 : decode cX2_init 33 = .ok (.aload_n 0, 1) := by decide +kernel
theorem dX2_init_34 : decode cX2_init 34 = .ok (.new 25, 3) := by decide +kernel
theorem dX2_init_37 : decode cX2_init 37 = .ok (.dup, 1) := by decide +kernel
theorem dX2_init_38 : decode cX2_init 38 = .ok (.invokespecial 27, 3) := by decide +kernel
theorem dX2_init_41 : decode cX2_init 41 = .ok (.putfield 28, 3) := by decide +kernel
theorem dX2_init_44 : decode cX2_init 44 = .ok (.aload_n 0, 1) := by decide +kernel
theorem dX2_init_45 : decode cX2_init 45 = .ok (.new 32, 3) := by decide +kernel
theorem dX2_init_48 : decode cX2_init 48 = .ok (.dup, 1) := by decide +kernel
theorem dX2_init_49 : decode cX2_init 49 = .ok (.invokespecial 34, 3) := by decide +kernel
theorem dX2_init_52 : decode cX2_init 52 = .ok (.putfield 35, 3) := by decide +kernel
theorem dX2_init_55 : decode cX2_init 55 = .ok (.aload_n 0, 1) := by decide +kernel
theorem dX2_init_56 : decode cX2_init 56 = .ok (.bipush (-2), 2) := by decide +kernel
theorem dX2_init_58 : decode cX2_init 58 = .ok (.invokevirtual 39, 3) := by decide +kernel
theorem dX2_init_61 : decode cX2_init 61 = .ok (.return_, 1) := by decide +kernel
set_option maxRecDepth 20000 in
theorem ggX2_start_X2_reset : GoodIn wsX2_start wsX2_reset := goodIn_r _ [8, 9, 10, 11, 12, 13, 14, 15, 16, 17, 18, 19, 20, 21, 22, 23, 24, 25, 26, 27, 28, 29, 30, 31, 32, 33] (by decide +kernel) (by decide +kernel)
set_option maxRecDepth 20000 in
theorem gX2_start_X2_reset : GoodIn wsX2_start (wsV RX2 39 RX2 yX2_reset wsX2_reset) := goodIn_app (goodIn_of _ (by decide +kernel)) ggX2_start_X2_reset
theorem dX2_start_0 : decode cX2_start 0 = .ok (.aload_n 0, 1) := by decide +kernel
theorem dX2_start_1 : decode cX2_start 1 = .ok (.iload_n 1, 1) := by decide +kernel
theorem dX2_start_2 : decode cX2_start 2 = .ok (.putfield 43, 3) := by decide +kernel
theorem dX2_start_5 : decode cX2_start 5 = .ok (.aload_n 0, 1) := by decide +kernel
theorem dX2_start_6 : decode cX2_start 6 = .ok (.iload_n 2, 1) := by decide +kernel
theorem dX2_start_7 : decode cX2_start 7 = .ok (.putfield 46, 3) := by decide +kernel
theorem dX2_start_10 : decode cX2_start 10 = .ok (.aload_n 0, 1) := by decide +kernel
theorem dX2_start_11 : decode cX2_start 11 = .ok (.iconst 0, 1) := by decide +kernel
theorem dX2_start_12 : decode cX2_start 12 = .ok (.putfield 9, 3) := by decide +kernel
theorem dX2_start_15 : decode cX2_start 15 = .ok (.aload_n 0, 1) := by decide +kernel
theorem dX2_start_16 : decode cX2_start 16 = .ok (.iconst (-1), 1) := by decide +kernel
theorem dX2_start_17 : decode cX2_start 17 = .ok (.invokevirtual 39, 3) := by decide +kernel
theorem dX2_start_20 : decode cX2_start 20 = .ok (.return_, 1) := by decide +kernel
set_option maxRecDepth 20000 in
theorem ggX2_close_X2_reset : GoodIn wsX2_close wsX2_reset := goodIn_r _ [6, 7, 8, 9, 10, 11, 12, 13, 14, 15, 16, 17, 18, 19, 20, 21, 22, 23, 24, 25, 26, 27, 28, 29, 30, 31] (by decide +kernel) (by decide +kernel)
set_option maxRecDepth 20000 in
theorem gX2_close_X2_reset : GoodIn wsX2_close (wsV RX2 39 RX2 yX2_reset wsX2_reset) := goodIn_app (goodIn_of _ (by decide +kernel)) ggX2_close_X2_reset
theorem dX2_close_0 : decode cX2_close 0 = .ok (.aload_n 0, 1) := by decide +kernel
theorem dX2_close_1 : decode cX2_close 1 = .ok (.iconst (-1), 1) := by decide +kernel
theorem dX2_close_2 : decode cX2_close 2 = .ok (.putfield 9, 3) := by decide +kernel
theorem dX2_close_5 : decode cX2_close 5 = .ok (.aload_n 0, 1) := by decide +kernel
theorem dX2_close_6 : decode cX2_close 6 = .ok (.bipush (-2), 2) := by decide +kernel
theorem dX2_close_8 : decode cX2_close 8 = .ok (.invokevirtual 39, 3) := by decide +kernel
theorem dX2_close_11 : decode cX2_close 11 = .ok (.return_, 1) := by decide +kernel
theorem dX2_reset_0 : decode cX2_reset 0 = .ok (.iconst 0, 1) := by decide +kernel
theorem dX2_reset_1 : decode cX2_reset 1 = .ok (.istore_n 2, 1) := by decide +kernel
theorem dX2_reset_2 : decode cX2_reset 2 = .ok (.iload_n 2, 1) := by decide +kernel
theorem dX2_reset_3 : decode cX2_reset 3 = .ok (.bipush 6, 2) := by decide +kernel
theorem dX2_reset_5 : decode cX2_reset 5 = .ok (.if_icmp .ge 30, 3) := by decide +kernel
theorem dX2_reset_8 : decode cX2_reset 8 = .ok (.aload_n 0, 1) := by decide +kernel
theorem dX2_reset_9 : decode cX2_reset 9 = .ok (.getfield 15, 3) := by decide +kernel
theorem dX2_reset_12 : decode cX2_reset 12 = .ok (.iload_n 2, 1) := by decide +kernel
theorem dX2_reset_13 : decode cX2_reset 13 = .ok (.iload_n 1, 1) := by decide +kernel
theorem dX2_reset_14 : decode cX2_reset 14 = .ok (.iastore, 1) := by decide +kernel
theorem dX2_reset_15 : decode cX2_reset 15 = .ok (.aload_n 0, 1) := by decide +kernel
theorem dX2_reset_16 : decode cX2_reset 16 = .ok (.getfield 19, 3) := by decide +kernel
theorem dX2_reset_19 : decode cX2_reset 19 = .ok (.iload_n 2, 1) := by decide +kernel
theorem dX2_reset_20 : decode cX2_reset 20 = .ok (.iconst (-1), 1) := by decide +kernel
theorem dX2_reset_21 : decode cX2_reset 21 = .ok (.iastore, 1) := by decide +kernel
theorem dX2_reset_22 : decode cX2_reset 22 = .ok (.aload_n 0, 1) := by decide +kernel
theorem dX2_reset_23 : decode cX2_reset 23 = .ok (.getfield 22, 3) := by decide +kernel
theorem dX2_reset_26 : decode cX2_reset 26 = .ok (.iload_n 2, 1) := by decide +kernel
theorem dX2_reset_27 : decode cX2_reset 27 = .ok (.iconst (-1), 1) := by decide +kernel
theorem dX2_reset_28 : decode cX2_reset 28 = .ok (.iastore, 1) := by decide +kernel
theorem dX2_reset_29 : decode cX2_reset 29 = .ok (.iinc 2 1, 3) := by decide +kernel
theorem dX2_reset_32 : decode cX2_reset 32 = .ok (.goto (-30), 3) := by decide +kernel
theorem dX2_reset_35 : decode cX2_reset 35 = .ok (.aload_n 0, 1) := by decide +kernel
theorem dX2_reset_36 : decode cX2_reset 36 = .ok (.getfield 28, 3) := by decide +kernel
theorem dX2_reset_39 : decode cX2_reset 39 = .ok (.iconst 0, 1) := by decide +kernel
theorem dX2_reset_40 : decode cX2_reset 40 = .ok (.putfield 49, 3) := by decide +kernel
theorem dX2_reset_43 : decode cX2_reset 43 = .ok (.aload_n 0, 1) := by decide +kernel
theorem dX2_reset_44 : decode cX2_reset 44 = .ok (.getfield 35, 3) := by decide +kernel
theorem dX2_reset_47 : decode cX2_reset 47 = .ok (.iconst 0, 1) := by decide +kernel
theorem dX2_reset_48 : decode cX2_reset 48 = .ok (.putfield 52, 3) := by decide +kernel
theorem dX2_reset_51 : decode cX2_reset 51 = .ok (.return_, 1) := by decide +kernel
theorem dX2_isPlayed_0 : decode cX2_isPlayed 0 = .ok (.aload_n 0, 1) := by decide +kernel
theorem dX2_isPlayed_1 : decode cX2_isPlayed 1 = .ok (.getfield 9, 3) := by decide +kernel
theorem dX2_isPlayed_4 : decode cX2_isPlayed 4 = .ok (.iconst (-1), 1) := by decide +kernel
theorem dX2_isPlayed_5 : decode cX2_isPlayed 5 = .ok (.if_icmp .eq 7, 3) := by decide +kernel
theorem dX2_isPlayed_8 : decode cX2_isPlayed 8 = .ok (.iconst 1, 1) := by decide +kernel
theorem dX2_isPlayed_9 : decode cX2_isPlayed 9 = .ok (.goto 4, 3) := by decide +kernel
theorem dX2_isPlayed_12 : decode cX2_isPlayed 12 = .ok (.iconst 0, 1) := by decide +kernel
theorem dX2_isPlayed_13 : decode cX2_isPlayed 13 = .ok (.ireturn, 1) := by decide +kernel
theorem dX2_time_0 : decode cX2_time 0 = .ok (.aload_n 0, 1) := by decide +kernel
theorem dX2_time_1 : decode cX2_time 1 = .ok (.getfield 9, 3) := by decide +kernel
theorem dX2_time_4 : decode cX2_time 4 = .ok (.ireturn, 1) := by decide +kernel
theorem dX2_homeTeam_0 : decode cX2_homeTeam 0 = .ok (.aload_n 0, 1) := by decide +kernel
theorem dX2_homeTeam_1 : decode cX2_homeTeam 1 = .ok (.getfield 43, 3) := by decide +kernel
theorem dX2_homeTeam_4 : decode cX2_homeTeam 4 = .ok (.ireturn, 1) := by decide +kernel
theorem dX2_awayTeam_0 : decode cX2_awayTeam 0 = .ok (.aload_n 0, 1) := by decide +kernel
theorem dX2_awayTeam_1 : decode cX2_awayTeam 1 = .ok (.getfield 46, 3) := by decide +kernel
theorem dX2_awayTeam_4 : decode cX2_awayTeam 4 = .ok (.ireturn, 1) := by decide +kernel
theorem dX2_cellOf_0 : decode cX2_cellOf 0 = .ok (.aload_n 0, 1) := by decide +kernel
theorem dX2_cellOf_1 : decode cX2_cellOf 1 = .ok (.getfield 15, 3) := by decide +kernel
theorem dX2_cellOf_4 : decode cX2_cellOf 4 = .ok (.iload_n 1, 1) := by decide +kernel
theorem dX2_cellOf_5 : decode cX2_cellOf 5 = .ok (.iaload, 1) := by decide +kernel
theorem dX2_cellOf_6 : decode cX2_cellOf 6 = .ok (.ireturn, 1) := by decide +kernel
theorem dX2_hitOf_0 : decode cX2_hitOf 0 = .ok (.aload_n 0, 1) := by decide +kernel
theorem dX2_hitOf_1 : decode cX2_hitOf 1 = .ok (.getfield 19, 3) := by decide +kernel
theorem dX2_hitOf_4 : decode cX2_hitOf 4 = .ok (.iload_n 1, 1) := by decide +kernel
theorem dX2_hitOf_5 : decode cX2_hitOf 5 = .ok (.iaload, 1) := by decide +kernel
theorem dX2_hitOf_6 : decode cX2_hitOf 6 = .ok (.ireturn, 1) := by decide +kernel
theorem dX2_playerOn_0 : decode cX2_playerOn 0 = .ok (.iconst 0, 1) := by decide +kernel
theorem dX2_playerOn_1 : decode cX2_playerOn 1 = .ok (.istore_n 2, 1) := by decide +kernel
theorem dX2_playerOn_2 : decode cX2_playerOn 2 = .ok (.iload_n 2, 1) := by decide +kernel
theorem dX2_playerOn_3 : decode cX2_playerOn 3 = .ok (.bipush 6, 2) := by decide +kernel
theorem dX2_playerOn_5 : decode cX2_playerOn 5 = .ok (.if_icmp .ge 21, 3) := by decide +kernel
theorem dX2_playerOn_8 : decode cX2_playerOn 8 = .ok (.aload_n 0, 1) := by decide +kernel
theorem dX2_playerOn_9 : decode cX2_playerOn 9 = .ok (.getfield 15, 3) := by decide +kernel
theorem dX2_playerOn_12 : decode cX2_playerOn 12 = .ok (.iload_n 2, 1) := by decide +kernel
theorem dX2_playerOn_13 : decode cX2_playerOn 13 = .ok (.iaload, 1) := by decide +kernel
theorem dX2_playerOn_14 : decode cX2_playerOn 14 = .ok (.iload_n 1, 1) := by decide +kernel
theorem dX2_playerOn_15 : decode cX2_playerOn 15 = .ok (.if_icmp .ne 5, 3) := by decide +kernel
theorem dX2_playerOn_18 : decode cX2_playerOn 18 = .ok (.iload_n 2, 1) := by decide +kernel
theorem dX2_playerOn_19 : decode cX2_playerOn 19 = .ok (.ireturn, 1) := by decide +kernel
theorem dX2_playerOn_20 : decode cX2_playerOn 20 = .ok (.iinc 2 1, 3) := by decide +kernel
theorem dX2_playerOn_23 : decode cX2_playerOn 23 = .ok (.goto (-21), 3) := by decide +kernel
theorem dX2_playerOn_26 : decode cX2_playerOn 26 = .ok (.iconst (-1), 1) := by decide +kernel
theorem dX2_playerOn_27 : decode cX2_playerOn 27 = .ok (.ireturn, 1) := by decide +kernel
theorem dX2_put_0 : decode cX2_put 0 = .ok (.aload_n 0, 1) := by decide +kernel
theorem dX2_put_1 : decode cX2_put 1 = .ok (.getfield 15, 3) := by decide +kernel
theorem dX2_put_4 : decode cX2_put 4 = .ok (.iload_n 1, 1) := by decide +kernel
theorem dX2_put_5 : decode cX2_put 5 = .ok (.iload_n 2, 1) := by decide +kernel
theorem dX2_put_6 : decode cX2_put 6 = .ok (.iastore, 1) := by decide +kernel
theorem dX2_put_7 : decode cX2_put 7 = .ok (.return_, 1) := by decide +kernel
theorem dX2_mayFire_0 : decode cX2_mayFire 0 = .ok (.aload_n 0, 1) := by decide +kernel
theorem dX2_mayFire_1 : decode cX2_mayFire 1 = .ok (.getfield 22, 3) := by decide +kernel
theorem dX2_mayFire_4 : decode cX2_mayFire 4 = .ok (.iload_n 1, 1) := by decide +kernel
theorem dX2_mayFire_5 : decode cX2_mayFire 5 = .ok (.iaload, 1) := by decide +kernel
theorem dX2_mayFire_6 : decode cX2_mayFire 6 = .ok (.aload_n 0, 1) := by decide +kernel
theorem dX2_mayFire_7 : decode cX2_mayFire 7 = .ok (.getfield 9, 3) := by decide +kernel
theorem dX2_mayFire_10 : decode cX2_mayFire 10 = .ok (.if_icmp .eq 19, 3) := by decide +kernel
theorem dX2_mayFire_13 : decode cX2_mayFire 13 = .ok (.aload_n 0, 1) := by decide +kernel
theorem dX2_mayFire_14 : decode cX2_mayFire 14 = .ok (.getfield 28, 3) := by decide +kernel
theorem dX2_mayFire_17 : decode cX2_mayFire 17 = .ok (.getfield 49, 3) := by decide +kernel
theorem dX2_mayFire_20 : decode cX2_mayFire 20 = .ok (.bipush 100, 2) := by decide +kernel
theorem dX2_mayFire_22 : decode cX2_mayFire 22 = .ok (.if_icmp .ge 7, 3) := by decide +kernel
theorem dX2_mayFire_25 : decode cX2_mayFire 25 = .ok (.iconst 1, 1) := by decide +kernel
theorem dX2_mayFire_26 : decode cX2_mayFire 26 = .ok (.goto 4, 3) := by decide +kernel
theorem dX2_mayFire_29 : decode cX2_mayFire 29 = .ok (.iconst 0, 1) := by decide +kernel
theorem dX2_mayFire_30 : decode cX2_mayFire 30 = .ok (.ireturn, 1) := by decide +kernel
set_option maxRecDepth 20000 in
theorem ggX2_fire_X1_distance : GoodIn wsX2_fire wsX1_distance := goodIn_r _ [8, 9, 10, 11, 12, 13, 14, 15] (by decide +kernel) (by decide +kernel)
set_option maxRecDepth 20000 in
theorem gX2_fire_X1_distance : GoodIn wsX2_fire (va_wsS RX2 53 yX1_distance wsX1_distance) := goodIn_app (goodIn_of _ (by decide +kernel)) ggX2_fire_X1_distance
set_option maxRecDepth 20000 in
theorem ggX2_fire_X3_add : GoodIn wsX2_fire wsX3_add := goodIn_r _ [20, 21, 22, 23, 24, 25, 34, 35, 36, 37, 38] (by decide +kernel) (by decide +kernel)
set_option maxRecDepth 20000 in
theorem gX2_fire_X3_add : GoodIn wsX2_fire (wsV RX2 59 RX3 yX3_add wsX3_add) := goodIn_app (goodIn_of _ (by decide +kernel)) ggX2_fire_X3_add
theorem dX2_fire_0 : decode cX2_fire 0 = .ok (.aload_n 0, 1) := by decide +kernel
theorem dX2_fire_1 : decode cX2_fire 1 = .ok (.getfield 15, 3) := by decide +kernel
theorem dX2_fire_4 : decode cX2_fire 4 = .ok (.iload_n 1, 1) := by decide +kernel
theorem dX2_fire_5 : decode cX2_fire 5 = .ok (.iaload, 1) := by decide +kernel
theorem dX2_fire_6 : decode cX2_fire 6 = .ok (.istore_n 3, 1) := by decide +kernel
theorem dX2_fire_7 : decode cX2_fire 7 = .ok (.aload_n 0, 1) := by decide +kernel
theorem dX2_fire_8 : decode cX2_fire 8 = .ok (.getfield 9, 3) := by decide +kernel
theorem dX2_fire_11 : decode cX2_fire 11 = .ok (.iload_n 3, 1) := by decide +kernel
theorem dX2_fire_12 : decode cX2_fire 12 = .ok (.iload_n 2, 1) := by decide +kernel
theorem dX2_fire_13 : decode cX2_fire 13 = .ok (.invokestatic 53, 3) := by decide +kernel
theorem dX2_fire_16 : decode cX2_fire 16 = .ok (.iconst 3, 1) := by decide +kernel
theorem dX2_fire_17 : decode cX2_fire 17 = .ok (.iadd, 1) := by decide +kernel
theorem dX2_fire_18 : decode cX2_fire 18 = .ok (.iconst 4, 1) := by decide +kernel
theorem dX2_fire_19 : decode cX2_fire 19 = .ok (.idiv, 1) := by decide +kernel
theorem dX2_fire_20 : decode cX2_fire 20 = .ok (.iadd, 1) := by decide +kernel
theorem dX2_fire_21 : decode cX2_fire 21 = .ok (.istore 4, 2) := by decide +kernel
theorem dX2_fire_23 : decode cX2_fire 23 = .ok (.aload_n 0, 1) := by decide +kernel
theorem dX2_fire_24 : decode cX2_fire 24 = .ok (.getfield 22, 3) := by decide +kernel
theorem dX2_fire_27 : decode cX2_fire 27 = .ok (.iload_n 1, 1) := by decide +kernel
theorem dX2_fire_28 : decode cX2_fire 28 = .ok (.aload_n 0, 1) := by decide +kernel
theorem dX2_fire_29 : decode cX2_fire 29 = .ok (.getfield 9, 3) := by decide +kernel
theorem dX2_fire_32 : decode cX2_fire 32 = .ok (.iastore, 1) := by decide +kernel
theorem dX2_fire_33 : decode cX2_fire 33 = .ok (.aload_n 0, 1) := by decide +kernel
theorem dX2_fire_34 : decode cX2_fire 34 = .ok (.getfield 28, 3) := by decide +kernel
theorem dX2_fire_37 : decode cX2_fire 37 = .ok (.iload_n 1, 1) := by decide +kernel
theorem dX2_fire_38 : decode cX2_fire 38 = .ok (.iload_n 3, 1) := by decide +kernel
theorem dX2_fire_39 : decode cX2_fire 39 = .ok (.iload_n 2, 1) := by decide +kernel
theorem dX2_fire_40 : decode cX2_fire 40 = .ok (.iload 4, 2) := by decide +kernel
theorem dX2_fire_42 : decode cX2_fire 42 = .ok (.invokevirtual 59, 3) := by decide +kernel
theorem dX2_fire_45 : decode cX2_fire 45 = .ok (.iload 4, 2) := by decide +kernel
theorem dX2_fire_47 : decode cX2_fire 47 = .ok (.ireturn, 1) := by decide +kernel
theorem dX2_countFlying_0 : decode cX2_countFlying 0 = .ok (.iconst 0, 1) := by decide +kernel
theorem dX2_countFlying_1 : decode cX2_countFlying 1 = .ok (.istore_n 1, 1) := by decide +kernel
theorem dX2_countFlying_2 : decode cX2_countFlying 2 = .ok (.iconst 0, 1) := by decide +kernel
theorem dX2_countFlying_3 : decode cX2_countFlying 3 = .ok (.istore_n 2, 1) := by decide +kernel
theorem dX2_countFlying_4 : decode cX2_countFlying 4 = .ok (.iload_n 2, 1) := by decide +kernel
theorem dX2_countFlying_5 : decode cX2_countFlying 5 = .ok (.aload_n 0, 1) := by decide +kernel
theorem dX2_countFlying_6 : decode cX2_countFlying 6 = .ok (.getfield 28, 3) := by decide +kernel
theorem dX2_countFlying_9 : decode cX2_countFlying 9 = .ok (.getfield 49, 3) := by decide +kernel
theorem dX2_countFlying_12 : decode cX2_countFlying 12 = .ok (.if_icmp .ge 28, 3) := by decide +kernel
theorem dX2_countFlying_15 : decode cX2_countFlying 15 = .ok (.aload_n 0, 1) := by decide +kernel
theorem dX2_countFlying_16 : decode cX2_countFlying 16 = .ok (.getfield 28, 3) := by decide +kernel
theorem dX2_countFlying_19 : decode cX2_countFlying 19 = .ok (.getfield 63, 3) := by decide +kernel
theorem dX2_countFlying_22 : decode cX2_countFlying 22 = .ok (.iload_n 2, 1) := by decide +kernel
theorem dX2_countFlying_23 : decode cX2_countFlying 23 = .ok (.iaload, 1) := by decide +kernel
theorem dX2_countFlying_24 : decode cX2_countFlying 24 = .ok (.aload_n 0, 1) := by decide +kernel
theorem dX2_countFlying_25 : decode cX2_countFlying 25 = .ok (.getfield 9, 3) := by decide +kernel
theorem dX2_countFlying_28 : decode cX2_countFlying 28 = .ok (.if_icmp .le 6, 3) := by decide +kernel
theorem dX2_countFlying_31 : decode cX2_countFlying 31 = .ok (.iinc 1 1, 3) := by decide +kernel
theorem dX2_countFlying_34 : decode cX2_countFlying 34 = .ok (.iinc 2 1, 3) := by decide +kernel
theorem dX2_countFlying_37 : decode cX2_countFlying 37 = .ok (.goto (-33), 3) := by decide +kernel
theorem dX2_countFlying_40 : decode cX2_countFlying 40 = .ok (.iload_n 1, 1) := by decide +kernel
theorem dX2_countFlying_41 : decode cX2_countFlying 41 = .ok (.ireturn, 1) := by decide +kernel
set_option maxRecDepth 20000 in
theorem ggX2_nextTick_X2_strikes : GoodIn wsX2_nextTick wsX2_strikes := goodIn_r _ [9, 2, 10, 11, 12, 13, 1, 14, 15, 16, 8, 17, 18, 19, 20, 21, 22, 23, 24, 25, 26, 27, 28, 29, 30, 31, 32, 33, 34, 35, 36, 37, 38, 39, 40, 41, 42, 43, 44, 45, 46, 47, 48, 49, 50, 51] (by decide +kernel) (by decide +kernel)
set_option maxRecDepth 20000 in
theorem gX2_nextTick_X2_strikes : GoodIn wsX2_nextTick (wsV RX2 66 RX2 yX2_strikes wsX2_strikes) := goodIn_app (goodIn_of _ (by decide +kernel)) ggX2_nextTick_X2_strikes
theorem dX2_nextTick_0 : decode cX2_nextTick 0 = .ok (.aload_n 0, 1) := by decide +kernel
theorem dX2_nextTick_1 : decode cX2_nextTick 1 = .ok (.dup, 1) := by decide +kernel
theorem dX2_nextTick_2 : decode cX2_nextTick 2 = .ok (.getfield 9, 3) := by decide +kernel
theorem dX2_nextTick_5 : decode cX2_nextTick 5 = .ok (.iconst 1, 1) := by decide +kernel
theorem dX2_nextTick_6 : decode cX2_nextTick 6 = .ok (.iadd, 1) := by decide +kernel
theorem dX2_nextTick_7 : decode cX2_nextTick 7 = .ok (.putfield 9, 3) := by decide +kernel
theorem dX2_nextTick_10 : decode cX2_nextTick 10 = .ok (.iconst 0, 1) := by decide +kernel
theorem dX2_nextTick_11 : decode cX2_nextTick 11 = .ok (.istore_n 2, 1) := by decide +kernel
theorem dX2_nextTick_12 : decode cX2_nextTick 12 = .ok (.iconst 0, 1) := by decide +kernel
theorem dX2_nextTick_13 : decode cX2_nextTick 13 = .ok (.istore_n 3, 1) := by decide +kernel
theorem dX2_nextTick_14 : decode cX2_nextTick 14 = .ok (.iload_n 3, 1) := by decide +kernel
theorem dX2_nextTick_15 : decode cX2_nextTick 15 = .ok (.aload_n 0, 1) := by decide +kernel
theorem dX2_nextTick_16 : decode cX2_nextTick 16 = .ok (.getfield 28, 3) := by decide +kernel
theorem dX2_nextTick_19 : decode cX2_nextTick 19 = .ok (.getfield 49, 3) := by decide +kernel
theorem dX2_nextTick_22 : decode cX2_nextTick 22 = .ok (.if_icmp .ge 37, 3) := by decide +kernel
theorem dX2_nextTick_25 : decode cX2_nextTick 25 = .ok (.aload_n 0, 1) := by decide +kernel
theorem dX2_nextTick_26 : decode cX2_nextTick 26 = .ok (.getfield 28, 3) := by decide +kernel
theorem dX2_nextTick_29 : decode cX2_nextTick 29 = .ok (.getfield 63, 3) := by decide +kernel
theorem dX2_nextTick_32 : decode cX2_nextTick 32 = .ok (.iload_n 3, 1) := by decide +kernel
theorem dX2_nextTick_33 : decode cX2_nextTick 33 = .ok (.iaload, 1) := by decide +kernel
theorem dX2_nextTick_34 : decode cX2_nextTick 34 = .ok (.aload_n 0, 1) := by decide +kernel
theorem dX2_nextTick_35 : decode cX2_nextTick 35 = .ok (.getfield 9, 3) := by decide +kernel
theorem dX2_nextTick_38 : decode cX2_nextTick 38 = .ok (.if_icmp .ne 15, 3) := by decide +kernel
theorem dX2_nextTick_41 : decode cX2_nextTick 41 = .ok (.aload_n 0, 1) := by decide +kernel
theorem dX2_nextTick_42 : decode cX2_nextTick 42 = .ok (.iload_n 3, 1) := by decide +kernel
theorem dX2_nextTick_43 : decode cX2_nextTick 43 = .ok (.aload_n 1, 1) := by decide +kernel
theorem dX2_nextTick_44 : decode cX2_nextTick 44 = .ok (.invokevirtual 66, 3) := by decide +kernel
theorem dX2_nextTick_47 : decode cX2_nextTick 47 = .ok (.ifCond .eq 6, 3) := by decide +kernel
theorem dX2_nextTick_50 : decode cX2_nextTick 50 = .ok (.iinc 2 1, 3) := by decide +kernel
theorem dX2_nextTick_53 : decode cX2_nextTick 53 = .ok (.iinc 3 1, 3) := by decide +kernel
theorem dX2_nextTick_56 : decode cX2_nextTick 56 = .ok (.goto (-42), 3) := by decide +kernel
theorem dX2_nextTick_59 : decode cX2_nextTick 59 = .ok (.iload_n 2, 1) := by decide +kernel
theorem dX2_nextTick_60 : decode cX2_nextTick 60 = .ok (.ireturn, 1) := by decide +kernel
set_option maxRecDepth 20000 in
theorem ggX2_strikes_X2_playerOn : GoodIn wsX2_strikes wsX2_playerOn := goodIn_r _ [11, 12, 32, 33, 34, 35, 36, 37, 38, 39] (by decide +kernel) (by decide +kernel)
set_option maxRecDepth 20000 in
theorem gX2_strikes_X2_playerOn : GoodIn wsX2_strikes (wsV RX2 73 RX2 yX2_playerOn wsX2_playerOn) := goodIn_app (goodIn_of _ (by decide +kernel)) ggX2_strikes_X2_playerOn
set_option maxRecDepth 20000 in
theorem ggX2_strikes_X1_hasSight : GoodIn wsX2_strikes wsX1_hasSight := goodIn_r _ [17, 18, 19, 20, 21, 22, 23, 24, 25, 26, 27, 16, 28, 29, 30, 31, 45] (by decide +kernel) (by decide +kernel)
set_option maxRecDepth 20000 in
theorem gX2_strikes_X1_hasSight : GoodIn wsX2_strikes (wsV RX2 83 RX1 yX1_hasSight wsX1_hasSight) := goodIn_app (goodIn_of _ (by decide +kernel)) ggX2_strikes_X1_hasSight
theorem dX2_strikes_0 : decode cX2_strikes 0 = .ok (.aload_n 0, 1) := by decide +kernel
theorem dX2_strikes_1 : decode cX2_strikes 1 = .ok (.getfield 28, 3) := by decide +kernel
theorem dX2_strikes_4 : decode cX2_strikes 4 = .ok (.getfield 70, 3) := by decide +kernel
theorem dX2_strikes_7 : decode cX2_strikes 7 = .ok (.iload_n 1, 1) := by decide +kernel
theorem dX2_strikes_8 : decode cX2_strikes 8 = .ok (.iaload, 1) := by decide +kernel
theorem dX2_strikes_9 : decode cX2_strikes 9 = .ok (.istore_n 3, 1) := by decide +kernel
theorem dX2_strikes_10 : decode cX2_strikes 10 = .ok (.aload_n 0, 1) := by decide +kernel
theorem dX2_strikes_11 : decode cX2_strikes 11 = .ok (.iload_n 3, 1) := by decide +kernel
theorem dX2_strikes_12 : decode cX2_strikes 12 = .ok (.invokevirtual 73, 3) := by decide +kernel
theorem dX2_strikes_15 : decode cX2_strikes 15 = .ok (.istore 4, 2) := by decide +kernel
theorem dX2_strikes_17 : decode cX2_strikes 17 = .ok (.iload 4, 2) := by decide +kernel
theorem dX2_strikes_19 : decode cX2_strikes 19 = .ok (.iconst (-1), 1) := by decide +kernel
theorem dX2_strikes_20 : decode cX2_strikes 20 = .ok (.if_icmp .eq 17, 3) := by decide +kernel
theorem dX2_strikes_23 : decode cX2_strikes 23 = .ok (.iload 4, 2) := by decide +kernel
theorem dX2_strikes_25 : decode cX2_strikes 25 = .ok (.aload_n 0, 1) := by decide +kernel
theorem dX2_strikes_26 : decode cX2_strikes 26 = .ok (.getfield 28, 3) := by decide +kernel
theorem dX2_strikes_29 : decode cX2_strikes 29 = .ok (.getfield 77, 3) := by decide +kernel
theorem dX2_strikes_32 : decode cX2_strikes 32 = .ok (.iload_n 1, 1) := by decide +kernel
theorem dX2_strikes_33 : decode cX2_strikes 33 = .ok (.iaload, 1) := by decide +kernel
theorem dX2_strikes_34 : decode cX2_strikes 34 = .ok (.if_icmp .ne 5, 3) := by decide +kernel
theorem dX2_strikes_37 : decode cX2_strikes 37 = .ok (.iconst 0, 1) := by decide +kernel
theorem dX2_strikes_38 : decode cX2_strikes 38 = .ok (.ireturn, 1) := by decide +kernel
theorem dX2_strikes_39 : decode cX2_strikes 39 = .ok (.aload_n 2, 1) := by decide +kernel
theorem dX2_strikes_40 : decode cX2_strikes 40 = .ok (.aload_n 0, 1) := by decide +kernel
theorem dX2_strikes_41 : decode cX2_strikes 41 = .ok (.getfield 28, 3) := by decide +kernel
theorem dX2_strikes_44 : decode cX2_strikes 44 = .ok (.getfield 80, 3) := by decide +kernel
theorem dX2_strikes_47 : decode cX2_strikes 47 = .ok (.iload_n 1, 1) := by decide +kernel
theorem dX2_strikes_48 : decode cX2_strikes 48 = .ok (.iaload, 1) := by decide +kernel
theorem dX2_strikes_49 : decode cX2_strikes 49 = .ok (.iload_n 3, 1) := by decide +kernel
theorem dX2_strikes_50 : decode cX2_strikes 50 = .ok (.invokevirtual 83, 3) := by decide +kernel
theorem dX2_strikes_53 : decode cX2_strikes 53 = .ok (.ifCond .ne 5, 3) := by decide +kernel
theorem dX2_strikes_56 : decode cX2_strikes 56 = .ok (.iconst 0, 1) := by decide +kernel
theorem dX2_strikes_57 : decode cX2_strikes 57 = .ok (.ireturn, 1) := by decide +kernel
theorem dX2_strikes_58 : decode cX2_strikes 58 = .ok (.aload_n 0, 1) := by decide +kernel
theorem dX2_strikes_59 : decode cX2_strikes 59 = .ok (.getfield 19, 3) := by decide +kernel
theorem dX2_strikes_62 : decode cX2_strikes 62 = .ok (.iload 4, 2) := by decide +kernel
theorem dX2_strikes_64 : decode cX2_strikes 64 = .ok (.iaload, 1) := by decide +kernel
theorem dX2_strikes_65 : decode cX2_strikes 65 = .ok (.iconst (-1), 1) := by decide +kernel
theorem dX2_strikes_66 : decode cX2_strikes 66 = .ok (.if_icmp .ne 14, 3) := by decide +kernel
theorem dX2_strikes_69 : decode cX2_strikes 69 = .ok (.aload_n 0, 1) := by decide +kernel
theorem dX2_strikes_70 : decode cX2_strikes 70 = .ok (.getfield 19, 3) := by decide +kernel
theorem dX2_strikes_73 : decode cX2_strikes 73 = .ok (.iload 4, 2) := by decide +kernel
theorem dX2_strikes_75 : decode cX2_strikes 75 = .ok (.aload_n 0, 1) := by decide +kernel
theorem dX2_strikes_76 : decode cX2_strikes 76 = .ok (.getfield 9, 3) := by decide +kernel
theorem dX2_strikes_79 : decode cX2_strikes 79 = .ok (.iastore, 1) := by decide +kernel
theorem dX2_strikes_80 : decode cX2_strikes 80 = .ok (.iconst 1, 1) := by decide +kernel
theorem dX2_strikes_81 : decode cX2_strikes 81 = .ok (.ireturn, 1) := by decide +kernel
theorem dX2_mayCall_0 : decode cX2_mayCall 0 = .ok (.aload_n 0, 1) := by decide +kernel
theorem dX2_mayCall_1 : decode cX2_mayCall 1 = .ok (.getfield 35, 3) := by decide +kernel
theorem dX2_mayCall_4 : decode cX2_mayCall 4 = .ok (.getfield 52, 3) := by decide +kernel
theorem dX2_mayCall_7 : decode cX2_mayCall 7 = .ok (.sipush 512, 3) := by decide +kernel
theorem dX2_mayCall_10 : decode cX2_mayCall 10 = .ok (.if_icmp .ge 7, 3) := by decide +kernel
theorem dX2_mayCall_13 : decode cX2_mayCall 13 = .ok (.iconst 1, 1) := by decide +kernel
theorem dX2_mayCall_14 : decode cX2_mayCall 14 = .ok (.goto 4, 3) := by decide +kernel
theorem dX2_mayCall_17 : decode cX2_mayCall 17 = .ok (.iconst 0, 1) := by decide +kernel
theorem dX2_mayCall_18 : decode cX2_mayCall 18 = .ok (.ireturn, 1) := by decide +kernel
set_option maxRecDepth 20000 in
theorem ggX2_callOut_X0_add : GoodIn wsX2_callOut wsX0_add := goodIn_r _ [8, 9, 10, 11, 12, 13, 22, 23, 24, 25, 26] (by decide +kernel) (by decide +kernel)
set_option maxRecDepth 20000 in
theorem gX2_callOut_X0_add : GoodIn wsX2_callOut (wsV RX2 87 RX0 yX0_add wsX0_add) := goodIn_app (goodIn_of _ (by decide +kernel)) ggX2_callOut_X0_add
theorem dX2_callOut_0 : decode cX2_callOut 0 = .ok (.aload_n 0, 1) := by decide +kernel
theorem dX2_callOut_1 : decode cX2_callOut 1 = .ok (.getfield 35, 3) := by decide +kernel
theorem dX2_callOut_4 : decode cX2_callOut 4 = .ok (.iload_n 1, 1) := by decide +kernel
theorem dX2_callOut_5 : decode cX2_callOut 5 = .ok (.aload_n 0, 1) := by decide +kernel
theorem dX2_callOut_6 : decode cX2_callOut 6 = .ok (.getfield 15, 3) := by decide +kernel
theorem dX2_callOut_9 : decode cX2_callOut 9 = .ok (.iload_n 1, 1) := by decide +kernel
theorem dX2_callOut_10 : decode cX2_callOut 10 = .ok (.iaload, 1) := by decide +kernel
theorem dX2_callOut_11 : decode cX2_callOut 11 = .ok (.aload_n 0, 1) := by decide +kernel
theorem dX2_callOut_12 : decode cX2_callOut 12 = .ok (.getfield 9, 3) := by decide +kernel
theorem dX2_callOut_15 : decode cX2_callOut 15 = .ok (.invokevirtual 87, 3) := by decide +kernel
theorem dX2_callOut_18 : decode cX2_callOut 18 = .ok (.istore_n 2, 1) := by decide +kernel
theorem dX2_callOut_19 : decode cX2_callOut 19 = .ok (.aload_n 0, 1) := by decide +kernel
theorem dX2_callOut_20 : decode cX2_callOut 20 = .ok (.getfield 15, 3) := by decide +kernel
theorem dX2_callOut_23 : decode cX2_callOut 23 = .ok (.iload_n 1, 1) := by decide +kernel
theorem dX2_callOut_24 : decode cX2_callOut 24 = .ok (.bipush (-2), 2) := by decide +kernel
theorem dX2_callOut_26 : decode cX2_callOut 26 = .ok (.iastore, 1) := by decide +kernel
theorem dX2_callOut_27 : decode cX2_callOut 27 = .ok (.iload_n 2, 1) := by decide +kernel
theorem dX2_callOut_28 : decode cX2_callOut 28 = .ok (.ireturn, 1) := by decide +kernel
theorem dX2_hasCall_0 : decode cX2_hasCall 0 = .ok (.iload_n 1, 1) := by decide +kernel
theorem dX2_hasCall_1 : decode cX2_hasCall 1 = .ok (.ifCond .lt 18, 3) := by decide +kernel
theorem dX2_hasCall_4 : decode cX2_hasCall 4 = .ok (.iload_n 1, 1) := by decide +kernel
theorem dX2_hasCall_5 : decode cX2_hasCall 5 = .ok (.aload_n 0, 1) := by decide +kernel
theorem dX2_hasCall_6 : decode cX2_hasCall 6 = .ok (.getfield 35, 3) := by decide +kernel
theorem dX2_hasCall_9 : decode cX2_hasCall 9 = .ok (.getfield 52, 3) := by decide +kernel
theorem dX2_hasCall_12 : decode cX2_hasCall 12 = .ok (.if_icmp .ge 7, 3) := by decide +kernel
theorem dX2_hasCall_15 : decode cX2_hasCall 15 = .ok (.iconst 1, 1) := by decide +kernel
theorem dX2_hasCall_16 : decode cX2_hasCall 16 = .ok (.goto 4, 3) := by decide +kernel
theorem dX2_hasCall_19 : decode cX2_hasCall 19 = .ok (.iconst 0, 1) := by decide +kernel
theorem dX2_hasCall_20 : decode cX2_hasCall 20 = .ok (.ireturn, 1) := by decide +kernel
theorem dX2_isDisputed_0 : decode cX2_isDisputed 0 = .ok (.aload_n 0, 1) := by decide +kernel
theorem dX2_isDisputed_1 : decode cX2_isDisputed 1 = .ok (.getfield 35, 3) := by decide +kernel
theorem dX2_isDisputed_4 : decode cX2_isDisputed 4 = .ok (.getfield 90, 3) := by decide +kernel
theorem dX2_isDisputed_7 : decode cX2_isDisputed 7 = .ok (.iload_n 1, 1) := by decide +kernel
theorem dX2_isDisputed_8 : decode cX2_isDisputed 8 = .ok (.baload, 1) := by decide +kernel
theorem dX2_isDisputed_9 : decode cX2_isDisputed 9 = .ok (.ireturn, 1) := by decide +kernel
theorem dX2_teamCalled_0 : decode cX2_teamCalled 0 = .ok (.aload_n 0, 1) := by decide +kernel
theorem dX2_teamCalled_1 : decode cX2_teamCalled 1 = .ok (.getfield 35, 3) := by decide +kernel
theorem dX2_teamCalled_4 : decode cX2_teamCalled 4 = .ok (.getfield 94, 3) := by decide +kernel
theorem dX2_teamCalled_7 : decode cX2_teamCalled 7 = .ok (.iload_n 1, 1) := by decide +kernel
theorem dX2_teamCalled_8 : decode cX2_teamCalled 8 = .ok (.iaload, 1) := by decide +kernel
theorem dX2_teamCalled_9 : decode cX2_teamCalled 9 = .ok (.iconst 3, 1) := by decide +kernel
theorem dX2_teamCalled_10 : decode cX2_teamCalled 10 = .ok (.if_icmp .ge 10, 3) := by decide +kernel
theorem dX2_teamCalled_13 : decode cX2_teamCalled 13 = .ok (.aload_n 0, 1) := by decide +kernel
theorem dX2_teamCalled_14 : decode cX2_teamCalled 14 = .ok (.getfield 43, 3) := by decide +kernel
theorem dX2_teamCalled_17 : decode cX2_teamCalled 17 = .ok (.goto 7, 3) := by decide +kernel
theorem dX2_teamCalled_20 : decode cX2_teamCalled 20 = .ok (.aload_n 0, 1) := by decide +kernel
theorem dX2_teamCalled_21 : decode cX2_teamCalled 21 = .ok (.getfield 46, 3) := by decide +kernel
theorem dX2_teamCalled_24 : decode cX2_teamCalled 24 = .ok (.ireturn, 1) := by decide +kernel
set_option maxRecDepth 20000 in
theorem ggX2_judge_X2_playerOn : GoodIn wsX2_judge wsX2_playerOn := goodIn_r _ [12, 7, 13, 14, 15, 16, 17, 18, 19, 20] (by decide +kernel) (by decide +kernel)
set_option maxRecDepth 20000 in
theorem gX2_judge_X2_playerOn : GoodIn wsX2_judge (wsV RX2 73 RX2 yX2_playerOn wsX2_playerOn) := goodIn_app (goodIn_of _ (by decide +kernel)) ggX2_judge_X2_playerOn
theorem dX2_judge_0 : decode cX2_judge 0 = .ok (.aload_n 0, 1) := by decide +kernel
theorem dX2_judge_1 : decode cX2_judge 1 = .ok (.getfield 35, 3) := by decide +kernel
theorem dX2_judge_4 : decode cX2_judge 4 = .ok (.getfield 94, 3) := by decide +kernel
theorem dX2_judge_7 : decode cX2_judge 7 = .ok (.iload_n 1, 1) := by decide +kernel
theorem dX2_judge_8 : decode cX2_judge 8 = .ok (.iaload, 1) := by decide +kernel
theorem dX2_judge_9 : decode cX2_judge 9 = .ok (.istore_n 2, 1) := by decide +kernel
theorem dX2_judge_10 : decode cX2_judge 10 = .ok (.aload_n 0, 1) := by decide +kernel
theorem dX2_judge_11 : decode cX2_judge 11 = .ok (.getfield 35, 3) := by decide +kernel
theorem dX2_judge_14 : decode cX2_judge 14 = .ok (.getfield 90, 3) := by decide +kernel
theorem dX2_judge_17 : decode cX2_judge 17 = .ok (.iload_n 1, 1) := by decide +kernel
theorem dX2_judge_18 : decode cX2_judge 18 = .ok (.iconst 1, 1) := by decide +kernel
theorem dX2_judge_19 : decode cX2_judge 19 = .ok (.bastore, 1) := by decide +kernel
theorem dX2_judge_20 : decode cX2_judge 20 = .ok (.aload_n 0, 1) := by decide +kernel
theorem dX2_judge_21 : decode cX2_judge 21 = .ok (.getfield 19, 3) := by decide +kernel
theorem dX2_judge_24 : decode cX2_judge 24 = .ok (.iload_n 2, 1) := by decide +kernel
theorem dX2_judge_25 : decode cX2_judge 25 = .ok (.iaload, 1) := by decide +kernel
theorem dX2_judge_26 : decode cX2_judge 26 = .ok (.iconst (-1), 1) := by decide +kernel
theorem dX2_judge_27 : decode cX2_judge 27 = .ok (.if_icmp .eq 23, 3) := by decide +kernel
theorem dX2_judge_30 : decode cX2_judge 30 = .ok (.aload_n 0, 1) := by decide +kernel
theorem dX2_judge_31 : decode cX2_judge 31 = .ok (.getfield 19, 3) := by decide +kernel
theorem dX2_judge_34 : decode cX2_judge 34 = .ok (.iload_n 2, 1) := by decide +kernel
theorem dX2_judge_35 : decode cX2_judge 35 = .ok (.iaload, 1) := by decide +kernel
theorem dX2_judge_36 : decode cX2_judge 36 = .ok (.aload_n 0, 1) := by decide +kernel
theorem dX2_judge_37 : decode cX2_judge 37 = .ok (.getfield 35, 3) := by decide +kernel
theorem dX2_judge_40 : decode cX2_judge 40 = .ok (.getfield 97, 3) := by decide +kernel
theorem dX2_judge_43 : decode cX2_judge 43 = .ok (.iload_n 1, 1) := by decide +kernel
theorem dX2_judge_44 : decode cX2_judge 44 = .ok (.iaload, 1) := by decide +kernel
theorem dX2_judge_45 : decode cX2_judge 45 = .ok (.if_icmp .gt 5, 3) := by decide +kernel
theorem dX2_judge_48 : decode cX2_judge 48 = .ok (.iconst 1, 1) := by decide +kernel
theorem dX2_judge_49 : decode cX2_judge 49 = .ok (.ireturn, 1) := by decide +kernel
theorem dX2_judge_50 : decode cX2_judge 50 = .ok (.aload_n 0, 1) := by decide +kernel
theorem dX2_judge_51 : decode cX2_judge 51 = .ok (.getfield 35, 3) := by decide +kernel
theorem dX2_judge_54 : decode cX2_judge 54 = .ok (.getfield 100, 3) := by decide +kernel
theorem dX2_judge_57 : decode cX2_judge 57 = .ok (.iload_n 1, 1) := by decide +kernel
theorem dX2_judge_58 : decode cX2_judge 58 = .ok (.iaload, 1) := by decide +kernel
theorem dX2_judge_59 : decode cX2_judge 59 = .ok (.istore_n 3, 1) := by decide +kernel
theorem dX2_judge_60 : decode cX2_judge 60 = .ok (.aload_n 0, 1) := by decide +kernel
theorem dX2_judge_61 : decode cX2_judge 61 = .ok (.getfield 15, 3) := by decide +kernel
theorem dX2_judge_64 : decode cX2_judge 64 = .ok (.iload_n 2, 1) := by decide +kernel
theorem dX2_judge_65 : decode cX2_judge 65 = .ok (.aload_n 0, 1) := by decide +kernel
theorem dX2_judge_66 : decode cX2_judge 66 = .ok (.iload_n 3, 1) := by decide +kernel
theorem dX2_judge_67 : decode cX2_judge 67 = .ok (.invokevirtual 73, 3) := by decide +kernel
theorem dX2_judge_70 : decode cX2_judge 70 = .ok (.iconst (-1), 1) := by decide +kernel
theorem dX2_judge_71 : decode cX2_judge 71 = .ok (.if_icmp .ne 7, 3) := by decide +kernel
theorem dX2_judge_74 : decode cX2_judge 74 = .ok (.iload_n 3, 1) := by decide +kernel
theorem dX2_judge_75 : decode cX2_judge 75 = .ok (.goto 4, 3) := by decide +kernel
theorem dX2_judge_78 : decode cX2_judge 78 = .ok (.iconst (-1), 1) := by decide +kernel
theorem dX2_judge_79 : decode cX2_judge 79 = .ok (.iastore, 1) := by decide +kernel
theorem dX2_judge_80 : decode cX2_judge 80 = .ok (.iconst 0, 1) := by decide +kernel
theorem dX2_judge_81 : decode cX2_judge 81 = .ok (.ireturn, 1) := by decide +kernel
theorem dX2_margin_0 : decode cX2_margin 0 = .ok (.iconst 0, 1) := by decide +kernel
theorem dX2_margin_1 : decode cX2_margin 1 = .ok (.istore_n 1, 1) := by decide +kernel
theorem dX2_margin_2 : decode cX2_margin 2 = .ok (.iconst 0, 1) := by decide +kernel
theorem dX2_margin_3 : decode cX2_margin 3 = .ok (.istore_n 2, 1) := by decide +kernel
theorem dX2_margin_4 : decode cX2_margin 4 = .ok (.iload_n 2, 1) := by decide +kernel
theorem dX2_margin_5 : decode cX2_margin 5 = .ok (.bipush 6, 2) := by decide +kernel
theorem dX2_margin_7 : decode cX2_margin 7 = .ok (.if_icmp .ge 43, 3) := by decide +kernel
theorem dX2_margin_10 : decode cX2_margin 10 = .ok (.aload_n 0, 1) := by decide +kernel
theorem dX2_margin_11 : decode cX2_margin 11 = .ok (.getfield 15, 3) := by decide +kernel
theorem dX2_margin_14 : decode cX2_margin 14 = .ok (.iload_n 2, 1) := by decide +kernel
theorem dX2_margin_15 : decode cX2_margin 15 = .ok (.iaload, 1) := by decide +kernel
theorem dX2_margin_16 : decode cX2_margin 16 = .ok (.bipush (-2), 2) := by decide +kernel
theorem dX2_margin_18 : decode cX2_margin 18 = .ok (.if_icmp .eq 26, 3) := by decide +kernel
theorem dX2_margin_21 : decode cX2_margin 21 = .ok (.aload_n 0, 1) := by decide +kernel
theorem dX2_margin_22 : decode cX2_margin 22 = .ok (.getfield 19, 3) := by decide +kernel
theorem dX2_margin_25 : decode cX2_margin 25 = .ok (.iload_n 2, 1) := by decide +kernel
theorem dX2_margin_26 : decode cX2_margin 26 = .ok (.iaload, 1) := by decide +kernel
theorem dX2_margin_27 : decode cX2_margin 27 = .ok (.iconst (-1), 1) := by decide +kernel
theorem dX2_margin_28 : decode cX2_margin 28 = .ok (.if_icmp .ne 16, 3) := by decide +kernel
theorem dX2_margin_31 : decode cX2_margin 31 = .ok (.iload_n 1, 1) := by decide +kernel
theorem dX2_margin_32 : decode cX2_margin 32 = .ok (.iload_n 2, 1) := by decide +kernel
theorem dX2_margin_33 : decode cX2_margin 33 = .ok (.iconst 3, 1) := by decide +kernel
theorem dX2_margin_34 : decode cX2_margin 34 = .ok (.if_icmp .ge 7, 3) := by decide +kernel
theorem dX2_margin_37 : decode cX2_margin 37 = .ok (.iconst 1, 1) := by decide +kernel
theorem dX2_margin_38 : decode cX2_margin 38 = .ok (.goto 4, 3) := by decide +kernel
theorem dX2_margin_41 : decode cX2_margin 41 = .ok (.iconst (-1), 1) := by decide +kernel
theorem dX2_margin_42 : decode cX2_margin 42 = .ok (.iadd, 1) := by decide +kernel
theorem dX2_margin_43 : decode cX2_margin 43 = .ok (.istore_n 1, 1) := by decide +kernel
theorem dX2_margin_44 : decode cX2_margin 44 = .ok (.iinc 2 1, 3) := by decide +kernel
theorem dX2_margin_47 : decode cX2_margin 47 = .ok (.goto (-43), 3) := by decide +kernel
theorem dX2_margin_50 : decode cX2_margin 50 = .ok (.iload_n 1, 1) := by decide +kernel
theorem dX2_margin_51 : decode cX2_margin 51 = .ok (.ireturn, 1) := by decide +kernel
theorem dX3_init_0 : decode cX3_init 0 = .ok (.aload_n 0, 1) := by decide +kernel
theorem dX3_init_1 : decode cX3_init 1 = .ok (.invokespecial 3, 3) := by decide +kernel
theorem dX3_init_4 : decode cX3_init 4 = .ok (.aload_n 0, 1) := by decide +kernel
theorem dX3_init_5 : decode cX3_init 5 = .ok (.bipush 100, 2) := by decide +kernel
theorem dX3_init_7 : decode cX3_init 7 = .ok (.newarray .int, 2) := by decide +kernel
theorem dX3_init_9 : decode cX3_init 9 = .ok (.putfield 9, 3) := by decide +kernel
theorem dX3_init_12 : decode cX3_init 12 = .ok (.aload_n 0, 1) := by decide +kernel
theorem dX3_init_13 : decode cX3_init 13 = .ok (.bipush 100, 2) := by decide +kernel
theorem dX3_init_15 : decode cX3_init 15 = .ok (.newarray .int, 2) := by decide +kernel
theorem dX3_init_17 : decode cX3_init 17 = .ok (.putfield 15, 3) := by decide +kernel
theorem dX3_init_20 : decode cX3_init 20 = .ok (.aload_n 0, 1) := by decide +kernel
theorem dX3_init_21 : decode cX3_init 21 = .ok (.bipush 100, 2) := by decide +kernel
theorem dX3_init_23 : decode cX3_init 23 = .ok (.newarray .int, 2) := by decide +kernel
theorem dX3_init_25 : decode cX3_init 25 = .ok (.putfield 18, 3) := by decide +kernel
theorem dX3_init_28 : decode cX3_init 28 = .ok (.aload_n 0, 1) := by decide +kernel
theorem dX3_init_29 : decode cX3_init 29 = .ok (.bipush 100, 2) := by decide +kernel
theorem dX3_init_31 : decode cX3_init 31 = .ok (.newarray .int, 2) := by decide +kernel
theorem dX3_init_33 : decode cX3_init 33 = .ok (.putfield 21, 3) := by decide +kernel
theorem dX3_init_36 : decode cX3_init 36 = .ok (.return_, 1) := by decide +kernel
theorem dX3_add_0 : decode cX3_add 0 = .ok (.aload_n 0, 1) := by decide +kernel
theorem dX3_add_1 : decode cX3_add 1 = .ok (.getfield 9, 3) := by decide +kernel
theorem dX3_add_4 : decode cX3_add 4 = .ok (.aload_n 0, 1) := by decide +kernel
theorem dX3_add_5 : decode cX3_add 5 = .ok (.getfield 24, 3) := by decide +kernel
theorem dX3_add_8 : decode cX3_add 8 = .ok (.iload_n 1, 1) := by decide +kernel
theorem dX3_add_9 : decode cX3_add 9 = .ok (.iastore, 1) := by decide +kernel
theorem dX3_add_10 : decode cX3_add 10 = .ok (.aload_n 0, 1) := by decide +kernel
theorem dX3_add_11 : decode cX3_add 11 = .ok (.getfield 15, 3) := by decide +kernel
theorem dX3_add_14 : decode cX3_add 14 = .ok (.aload_n 0, 1) := by decide +kernel
theorem dX3_add_15 : decode cX3_add 15 = .ok (.getfield 24, 3) := by decide +kernel
theorem dX3_add_18 : decode cX3_add 18 = .ok (.iload_n 2, 1) := by decide +kernel
theorem dX3_add_19 : decode cX3_add 19 = .ok (.iastore, 1) := by decide +kernel
theorem dX3_add_20 : decode cX3_add 20 = .ok (.aload_n 0, 1) := by decide +kernel
theorem dX3_add_21 : decode cX3_add 21 = .ok (.getfield 18, 3) := by decide +kernel
theorem dX3_add_24 : decode cX3_add 24 = .ok (.aload_n 0, 1) := by decide +kernel
theorem dX3_add_25 : decode cX3_add 25 = .ok (.getfield 24, 3) := by decide +kernel
theorem dX3_add_28 : decode cX3_add 28 = .ok (.iload_n 3, 1) := by decide +kernel
theorem dX3_add_29 : decode cX3_add 29 = .ok (.iastore, 1) := by decide +kernel
theorem dX3_add_30 : decode cX3_add 30 = .ok (.aload_n 0, 1) := by decide +kernel
theorem dX3_add_31 : decode cX3_add 31 = .ok (.getfield 21, 3) := by decide +kernel
theorem dX3_add_34 : decode cX3_add 34 = .ok (.aload_n 0, 1) := by decide +kernel
theorem dX3_add_35 : decode cX3_add 35 = .ok (.getfield 24, 3) := by decide +kernel
theorem dX3_add_38 : decode cX3_add 38 = .ok (.iload 4, 2) := by decide +kernel
theorem dX3_add_40 : decode cX3_add 40 = .ok (.iastore, 1) := by decide +kernel
theorem dX3_add_41 : decode cX3_add 41 = .ok (.aload_n 0, 1) := by decide +kernel
theorem dX3_add_42 : decode cX3_add 42 = .ok (.dup, 1) := by decide +kernel
theorem dX3_add_43 : decode cX3_add 43 = .ok (.getfield 24, 3) := by decide +kernel
theorem dX3_add_46 : decode cX3_add 46 = .ok (.iconst 1, 1) := by decide +kernel
theorem dX3_add_47 : decode cX3_add 47 = .ok (.iadd, 1) := by decide +kernel
theorem dX3_add_48 : decode cX3_add 48 = .ok (.putfield 24, 3) := by decide +kernel
theorem dX3_add_51 : decode cX3_add 51 = .ok (.return_, 1) := by decide +kernel
theorem dX4_init_0 : decode cX4_init 0 = .ok (.aload_n 0, 1) := by decide +kernel
theorem dX4_init_1 : decode cX4_init 1 = .ok (.invokespecial 3, 3) := by decide +kernel
theorem dX4_init_4 : decode cX4_init 4 = .ok (.aload_n 0, 1) := by decide +kernel
theorem dX4_init_5 : decode cX4_init 5 = .ok (.bipush 6, 2) := by decide +kernel
theorem dX4_init_7 : decode cX4_init 7 = .ok (.newarray .int, 2) := by decide +kernel
theorem dX4_init_9 : decode cX4_init 9 = .ok (.putfield 9, 3) := by decide +kernel
theorem dX4_init_12 : decode cX4_init 12 = .ok (.aload_n 0, 1) := by decide +kernel
theorem dX4_init_13 : decode cX4_init 13 = .ok (.bipush 6, 2) := by decide +kernel
theorem dX4_init_15 : decode cX4_init 15 = .ok (.newarray .int, 2) := by decide +kernel
theorem dX4_init_17 : decode cX4_init 17 = .ok (.putfield 15, 3) := by decide +kernel
theorem dX4_init_20 : decode cX4_init 20 = .ok (.aload_n 0, 1) := by decide +kernel
theorem dX4_init_21 : decode cX4_init 21 = .ok (.bipush 6, 2) := by decide +kernel
theorem dX4_init_23 : decode cX4_init 23 = .ok (.newarray .int, 2) := by decide +kernel
theorem dX4_init_25 : decode cX4_init 25 = .ok (.putfield 18, 3) := by decide +kernel
theorem dX4_init_28 : decode cX4_init 28 = .ok (.aload_n 0, 1) := by decide +kernel
theorem dX4_init_29 : decode cX4_init 29 = .ok (.bipush 6, 2) := by decide +kernel
theorem dX4_init_31 : decode cX4_init 31 = .ok (.bipush 6, 2) := by decide +kernel
theorem dX4_init_33 : decode cX4_init 33 = .ok (.multianewarray 21 2, 4) := by decide +kernel
theorem dX4_init_37 : decode cX4_init 37 = .ok (.putfield 23, 3) := by decide +kernel
theorem dX4_init_40 : decode cX4_init 40 = .ok (.return_, 1) := by decide +kernel
theorem dX4_pointsOf_0 : decode cX4_pointsOf 0 = .ok (.aload_n 0, 1) := by decide +kernel
theorem dX4_pointsOf_1 : decode cX4_pointsOf 1 = .ok (.getfield 9, 3) := by decide +kernel
theorem dX4_pointsOf_4 : decode cX4_pointsOf 4 = .ok (.iload_n 1, 1) := by decide +kernel
theorem dX4_pointsOf_5 : decode cX4_pointsOf 5 = .ok (.iaload, 1) := by decide +kernel
theorem dX4_pointsOf_6 : decode cX4_pointsOf 6 = .ok (.ireturn, 1) := by decide +kernel
theorem dX4_finesOf_0 : decode cX4_finesOf 0 = .ok (.aload_n 0, 1) := by decide +kernel
theorem dX4_finesOf_1 : decode cX4_finesOf 1 = .ok (.getfield 15, 3) := by decide +kernel
theorem dX4_finesOf_4 : decode cX4_finesOf 4 = .ok (.iload_n 1, 1) := by decide +kernel
theorem dX4_finesOf_5 : decode cX4_finesOf 5 = .ok (.iaload, 1) := by decide +kernel
theorem dX4_finesOf_6 : decode cX4_finesOf 6 = .ok (.ireturn, 1) := by decide +kernel
theorem dX4_differenceOf_0 : decode cX4_differenceOf 0 = .ok (.aload_n 0, 1) := by decide +kernel
theorem dX4_differenceOf_1 : decode cX4_differenceOf 1 = .ok (.getfield 18, 3) := by decide +kernel
theorem dX4_differenceOf_4 : decode cX4_differenceOf 4 = .ok (.iload_n 1, 1) := by decide +kernel
theorem dX4_differenceOf_5 : decode cX4_differenceOf 5 = .ok (.iaload, 1) := by decide +kernel
theorem dX4_differenceOf_6 : decode cX4_differenceOf 6 = .ok (.ireturn, 1) := by decide +kernel
theorem dX4_fine_0 : decode cX4_fine 0 = .ok (.aload_n 0, 1) := by decide +kernel
theorem dX4_fine_1 : decode cX4_fine 1 = .ok (.getfield 15, 3) := by decide +kernel
theorem dX4_fine_4 : decode cX4_fine 4 = .ok (.iload_n 1, 1) := by decide +kernel
theorem dX4_fine_5 : decode cX4_fine 5 = .ok (.dup2, 1) := by decide +kernel
theorem dX4_fine_6 : decode cX4_fine 6 = .ok (.iaload, 1) := by decide +kernel
theorem dX4_fine_7 : decode cX4_fine 7 = .ok (.iconst 1, 1) := by decide +kernel
theorem dX4_fine_8 : decode cX4_fine 8 = .ok (.iadd, 1) := by decide +kernel
theorem dX4_fine_9 : decode cX4_fine 9 = .ok (.iastore, 1) := by decide +kernel
theorem dX4_fine_10 : decode cX4_fine 10 = .ok (.return_, 1) := by decide +kernel
set_option maxRecDepth 20000 in
theorem ggX4_enter_X4_enterWin : GoodIn wsX4_enter wsX4_enterWin := goodIn_r _ [7, 2, 8, 14, 15, 16, 17] (by decide +kernel) (by decide +kernel)
set_option maxRecDepth 20000 in
theorem gX4_enter_X4_enterWin : GoodIn wsX4_enter (wsV RX4 26 RX4 yX4_enterWin wsX4_enterWin) := goodIn_app (goodIn_of _ (by decide +kernel)) ggX4_enter_X4_enterWin
set_option maxRecDepth 20000 in
theorem ggX4_enter_X4_takePenalties : GoodIn wsX4_enter wsX4_takePenalties := goodIn_r _ [12, 13, 2, 14, 15, 16, 17] (by decide +kernel) (by decide +kernel)
set_option maxRecDepth 20000 in
theorem gX4_enter_X4_takePenalties : GoodIn wsX4_enter (wsV RX4 30 RX4 yX4_takePenalties wsX4_takePenalties) := goodIn_app (goodIn_of _ (by decide +kernel)) ggX4_enter_X4_takePenalties
theorem dX4_enter_0 : decode cX4_enter 0 = .ok (.aload_n 0, 1) := by decide +kernel
theorem dX4_enter_1 : decode cX4_enter 1 = .ok (.getfield 18, 3) := by decide +kernel
theorem dX4_enter_4 : decode cX4_enter 4 = .ok (.iload_n 1, 1) := by decide +kernel
theorem dX4_enter_5 : decode cX4_enter 5 = .ok (.dup2, 1) := by decide +kernel
theorem dX4_enter_6 : decode cX4_enter 6 = .ok (.iaload, 1) := by decide +kernel
theorem dX4_enter_7 : decode cX4_enter 7 = .ok (.iload_n 3, 1) := by decide +kernel
theorem dX4_enter_8 : decode cX4_enter 8 = .ok (.iadd, 1) := by decide +kernel
theorem dX4_enter_9 : decode cX4_enter 9 = .ok (.iastore, 1) := by decide +kernel
theorem dX4_enter_10 : decode cX4_enter 10 = .ok (.aload_n 0, 1) := by decide +kernel
theorem dX4_enter_11 : decode cX4_enter 11 = .ok (.getfield 18, 3) := by decide +kernel
theorem dX4_enter_14 : decode cX4_enter 14 = .ok (.iload_n 2, 1) := by decide +kernel
theorem dX4_enter_15 : decode cX4_enter 15 = .ok (.dup2, 1) := by decide +kernel
theorem dX4_enter_16 : decode cX4_enter 16 = .ok (.iaload, 1) := by decide +kernel
theorem dX4_enter_17 : decode cX4_enter 17 = .ok (.iload_n 3, 1) := by decide +kernel
theorem dX4_enter_18 : decode cX4_enter 18 = .ok (.isub, 1) := by decide +kernel
theorem dX4_enter_19 : decode cX4_enter 19 = .ok (.iastore, 1) := by decide +kernel
theorem dX4_enter_20 : decode cX4_enter 20 = .ok (.iload_n 3, 1) := by decide +kernel
theorem dX4_enter_21 : decode cX4_enter 21 = .ok (.ifCond .le 12, 3) := by decide +kernel
theorem dX4_enter_24 : decode cX4_enter 24 = .ok (.aload_n 0, 1) := by decide +kernel
theorem dX4_enter_25 : decode cX4_enter 25 = .ok (.iload_n 1, 1) := by decide +kernel
theorem dX4_enter_26 : decode cX4_enter 26 = .ok (.iload_n 2, 1) := by decide +kernel
theorem dX4_enter_27 : decode cX4_enter 27 = .ok (.invokevirtual 26, 3) := by decide +kernel
theorem dX4_enter_30 : decode cX4_enter 30 = .ok (.goto 36, 3) := by decide +kernel
theorem dX4_enter_33 : decode cX4_enter 33 = .ok (.iload_n 3, 1) := by decide +kernel
theorem dX4_enter_34 : decode cX4_enter 34 = .ok (.ifCond .ge 12, 3) := by decide +kernel
theorem dX4_enter_37 : decode cX4_enter 37 = .ok (.aload_n 0, 1) := by decide +kernel
theorem dX4_enter_38 : decode cX4_enter 38 = .ok (.iload_n 2, 1) := by decide +kernel
theorem dX4_enter_39 : decode cX4_enter 39 = .ok (.iload_n 1, 1) := by decide +kernel
theorem dX4_enter_40 : decode cX4_enter 40 = .ok (.invokevirtual 26, 3) := by decide +kernel
theorem dX4_enter_43 : decode cX4_enter 43 = .ok (.goto 23, 3) := by decide +kernel
theorem dX4_enter_46 : decode cX4_enter 46 = .ok (.aload_n 0, 1) := by decide +kernel
theorem dX4_enter_47 : decode cX4_enter 47 = .ok (.getfield 9, 3) := by decide +kernel
theorem dX4_enter_50 : decode cX4_enter 50 = .ok (.iload_n 1, 1) := by decide +kernel
theorem dX4_enter_51 : decode cX4_enter 51 = .ok (.dup2, 1) := by decide +kernel
theorem dX4_enter_52 : decode cX4_enter 52 = .ok (.iaload, 1) := by decide +kernel
theorem dX4_enter_53 : decode cX4_enter 53 = .ok (.iconst 1, 1) := by decide +kernel
theorem dX4_enter_54 : decode cX4_enter 54 = .ok (.iadd, 1) := by decide +kernel
theorem dX4_enter_55 : decode cX4_enter 55 = .ok (.iastore, 1) := by decide +kernel
theorem dX4_enter_56 : decode cX4_enter 56 = .ok (.aload_n 0, 1) := by decide +kernel
theorem dX4_enter_57 : decode cX4_enter 57 = .ok (.getfield 9, 3) := by decide +kernel
theorem dX4_enter_60 : decode cX4_enter 60 = .ok (.iload_n 2, 1) := by decide +kernel
theorem dX4_enter_61 : decode cX4_enter 61 = .ok (.dup2, 1) := by decide +kernel
theorem dX4_enter_62 : decode cX4_enter 62 = .ok (.iaload, 1) := by decide +kernel
theorem dX4_enter_63 : decode cX4_enter 63 = .ok (.iconst 1, 1) := by decide +kernel
theorem dX4_enter_64 : decode cX4_enter 64 = .ok (.iadd, 1) := by decide +kernel
theorem dX4_enter_65 : decode cX4_enter 65 = .ok (.iastore, 1) := by decide +kernel
theorem dX4_enter_66 : decode cX4_enter 66 = .ok (.aload_n 0, 1) := by decide +kernel
theorem dX4_enter_67 : decode cX4_enter 67 = .ok (.invokevirtual 30, 3) := by decide +kernel
theorem dX4_enter_70 : decode cX4_enter 70 = .ok (.return_, 1) := by decide +kernel
theorem dX4_enterWin_0 : decode cX4_enterWin 0 = .ok (.aload_n 0, 1) := by decide +kernel
theorem dX4_enterWin_1 : decode cX4_enterWin 1 = .ok (.getfield 9, 3) := by decide +kernel
theorem dX4_enterWin_4 : decode cX4_enterWin 4 = .ok (.iload_n 1, 1) := by decide +kernel
theorem dX4_enterWin_5 : decode cX4_enterWin 5 = .ok (.dup2, 1) := by decide +kernel
theorem dX4_enterWin_6 : decode cX4_enterWin 6 = .ok (.iaload, 1) := by decide +kernel
theorem dX4_enterWin_7 : decode cX4_enterWin 7 = .ok (.iconst 3, 1) := by decide +kernel
theorem dX4_enterWin_8 : decode cX4_enterWin 8 = .ok (.iadd, 1) := by decide +kernel
theorem dX4_enterWin_9 : decode cX4_enterWin 9 = .ok (.iastore, 1) := by decide +kernel
theorem dX4_enterWin_10 : decode cX4_enterWin 10 = .ok (.aload_n 0, 1) := by decide +kernel
theorem dX4_enterWin_11 : decode cX4_enterWin 11 = .ok (.getfield 23, 3) := by decide +kernel
theorem dX4_enterWin_14 : decode cX4_enterWin 14 = .ok (.iload_n 1, 1) := by decide +kernel
theorem dX4_enterWin_15 : decode cX4_enterWin 15 = .ok (.aaload, 1) := by decide +kernel
theorem dX4_enterWin_16 : decode cX4_enterWin 16 = .ok (.iload_n 2, 1) := by decide +kernel
theorem dX4_enterWin_17 : decode cX4_enterWin 17 = .ok (.dup2, 1) := by decide +kernel
theorem dX4_enterWin_18 : decode cX4_enterWin 18 = .ok (.iaload, 1) := by decide +kernel
theorem dX4_enterWin_19 : decode cX4_enterWin 19 = .ok (.iconst 1, 1) := by decide +kernel
theorem dX4_enterWin_20 : decode cX4_enterWin 20 = .ok (.iadd, 1) := by decide +kernel
theorem dX4_enterWin_21 : decode cX4_enterWin 21 = .ok (.iastore, 1) := by decide +kernel
theorem dX4_enterWin_22 : decode cX4_enterWin 22 = .ok (.return_, 1) := by decide +kernel
theorem dX4_takePenalties_0 : decode cX4_takePenalties 0 = .ok (.iconst 0, 1) := by decide +kernel
theorem dX4_takePenalties_1 : decode cX4_takePenalties 1 = .ok (.istore_n 1, 1) := by decide +kernel
theorem dX4_takePenalties_2 : decode cX4_takePenalties 2 = .ok (.iload_n 1, 1) := by decide +kernel
theorem dX4_takePenalties_3 : decode cX4_takePenalties 3 = .ok (.bipush 6, 2) := by decide +kernel
theorem dX4_takePenalties_5 : decode cX4_takePenalties 5 = .ok (.if_icmp .ge 39, 3) := by decide +kernel
theorem dX4_takePenalties_8 : decode cX4_takePenalties 8 = .ok (.aload_n 0, 1) := by decide +kernel
theorem dX4_takePenalties_9 : decode cX4_takePenalties 9 = .ok (.getfield 15, 3) := by decide +kernel
theorem dX4_takePenalties_12 : decode cX4_takePenalties 12 = .ok (.iload_n 1, 1) := by decide +kernel
theorem dX4_takePenalties_13 : decode cX4_takePenalties 13 = .ok (.iaload, 1) := by decide +kernel
theorem dX4_takePenalties_14 : decode cX4_takePenalties 14 = .ok (.iconst 2, 1) := by decide +kernel
theorem dX4_takePenalties_15 : decode cX4_takePenalties 15 = .ok (.if_icmp .lt 23, 3) := by decide +kernel
theorem dX4_takePenalties_18 : decode cX4_takePenalties 18 = .ok (.aload_n 0, 1) := by decide +kernel
theorem dX4_takePenalties_19 : decode cX4_takePenalties 19 = .ok (.getfield 9, 3) := by decide +kernel
theorem dX4_takePenalties_22 : decode cX4_takePenalties 22 = .ok (.iload_n 1, 1) := by decide +kernel
theorem dX4_takePenalties_23 : decode cX4_takePenalties 23 = .ok (.dup2, 1) := by decide +kernel
theorem dX4_takePenalties_24 : decode cX4_takePenalties 24 = .ok (.iaload, 1) := by decide +kernel
theorem dX4_takePenalties_25 : decode cX4_takePenalties 25 = .ok (.iconst 1, 1) := by decide +kernel
theorem dX4_takePenalties_26 : decode cX4_takePenalties 26 = .ok (.isub, 1) := by decide +kernel
theorem dX4_takePenalties_27 : decode cX4_takePenalties 27 = .ok (.iastore, 1) := by decide +kernel
theorem dX4_takePenalties_28 : decode cX4_takePenalties 28 = .ok (.aload_n 0, 1) := by decide +kernel
theorem dX4_takePenalties_29 : decode cX4_takePenalties 29 = .ok (.getfield 15, 3) := by decide +kernel
theorem dX4_takePenalties_32 : decode cX4_takePenalties 32 = .ok (.iload_n 1, 1) := by decide +kernel
theorem dX4_takePenalties_33 : decode cX4_takePenalties 33 = .ok (.dup2, 1) := by decide +kernel
theorem dX4_takePenalties_34 : decode cX4_takePenalties 34 = .ok (.iaload, 1) := by decide +kernel
theorem dX4_takePenalties_35 : decode cX4_takePenalties 35 = .ok (.iconst 2, 1) := by decide +kernel
theorem dX4_takePenalties_36 : decode cX4_takePenalties 36 = .ok (.isub, 1) := by decide +kernel
theorem dX4_takePenalties_37 : decode cX4_takePenalties 37 = .ok (.iastore, 1) := by decide +kernel
theorem dX4_takePenalties_38 : decode cX4_takePenalties 38 = .ok (.iinc 1 1, 3) := by decide +kernel
theorem dX4_takePenalties_41 : decode cX4_takePenalties 41 = .ok (.goto (-39), 3) := by decide +kernel
theorem dX4_takePenalties_44 : decode cX4_takePenalties 44 = .ok (.return_, 1) := by decide +kernel
set_option maxRecDepth 20000 in
theorem ggX4_placeOf_X4_isAhead : GoodIn wsX4_placeOf wsX4_isAhead := goodIn_r _ [5, 6, 7, 8, 9, 10, 11, 12] (by decide +kernel) (by decide +kernel)
set_option maxRecDepth 20000 in
theorem gX4_placeOf_X4_isAhead : GoodIn wsX4_placeOf (wsV RX4 33 RX4 yX4_isAhead wsX4_isAhead) := goodIn_app (goodIn_of _ (by decide +kernel)) ggX4_placeOf_X4_isAhead
theorem dX4_placeOf_0 : decode cX4_placeOf 0 = .ok (.iconst 1, 1) := by decide +kernel
theorem dX4_placeOf_1 : decode cX4_placeOf 1 = .ok (.istore_n 2, 1) := by decide +kernel
theorem dX4_placeOf_2 : decode cX4_placeOf 2 = .ok (.iconst 0, 1) := by decide +kernel
theorem dX4_placeOf_3 : decode cX4_placeOf 3 = .ok (.istore_n 3, 1) := by decide +kernel
theorem dX4_placeOf_4 : decode cX4_placeOf 4 = .ok (.iload_n 3, 1) := by decide +kernel
theorem dX4_placeOf_5 : decode cX4_placeOf 5 = .ok (.bipush 6, 2) := by decide +kernel
theorem dX4_placeOf_7 : decode cX4_placeOf 7 = .ok (.if_icmp .ge 26, 3) := by decide +kernel
theorem dX4_placeOf_10 : decode cX4_placeOf 10 = .ok (.iload_n 3, 1) := by decide +kernel
theorem dX4_placeOf_11 : decode cX4_placeOf 11 = .ok (.iload_n 1, 1) := by decide +kernel
theorem dX4_placeOf_12 : decode cX4_placeOf 12 = .ok (.if_icmp .eq 15, 3) := by decide +kernel
theorem dX4_placeOf_15 : decode cX4_placeOf 15 = .ok (.aload_n 0, 1) := by decide +kernel
theorem dX4_placeOf_16 : decode cX4_placeOf 16 = .ok (.iload_n 3, 1) := by decide +kernel
theorem dX4_placeOf_17 : decode cX4_placeOf 17 = .ok (.iload_n 1, 1) := by decide +kernel
theorem dX4_placeOf_18 : decode cX4_placeOf 18 = .ok (.invokevirtual 33, 3) := by decide +kernel
theorem dX4_placeOf_21 : decode cX4_placeOf 21 = .ok (.ifCond .eq 6, 3) := by decide +kernel
theorem dX4_placeOf_24 : decode cX4_placeOf 24 = .ok (.iinc 2 1, 3) := by decide +kernel
theorem dX4_placeOf_27 : decode cX4_placeOf 27 = .ok (.iinc 3 1, 3) := by decide +kernel
theorem dX4_placeOf_30 : decode cX4_placeOf 30 = .ok (.goto (-26), 3) := by decide +kernel
theorem dX4_placeOf_33 : decode cX4_placeOf 33 = .ok (.iload_n 2, 1) := by decide +kernel
theorem dX4_placeOf_34 : decode cX4_placeOf 34 = .ok (.ireturn, 1) := by decide +kernel
theorem dX4_isAhead_0 : decode cX4_isAhead 0 = .ok (.aload_n 0, 1) := by decide +kernel
theorem dX4_isAhead_1 : decode cX4_isAhead 1 = .ok (.getfield 9, 3) := by decide +kernel
theorem dX4_isAhead_4 : decode cX4_isAhead 4 = .ok (.iload_n 1, 1) := by decide +kernel
theorem dX4_isAhead_5 : decode cX4_isAhead 5 = .ok (.iaload, 1) := by decide +kernel
theorem dX4_isAhead_6 : decode cX4_isAhead 6 = .ok (.aload_n 0, 1) := by decide +kernel
theorem dX4_isAhead_7 : decode cX4_isAhead 7 = .ok (.getfield 9, 3) := by decide +kernel
theorem dX4_isAhead_10 : decode cX4_isAhead 10 = .ok (.iload_n 2, 1) := by decide +kernel
theorem dX4_isAhead_11 : decode cX4_isAhead 11 = .ok (.iaload, 1) := by decide +kernel
theorem dX4_isAhead_12 : decode cX4_isAhead 12 = .ok (.if_icmp .eq 24, 3) := by decide +kernel
theorem dX4_isAhead_15 : decode cX4_isAhead 15 = .ok (.aload_n 0, 1) := by decide +kernel
theorem dX4_isAhead_16 : decode cX4_isAhead 16 = .ok (.getfield 9, 3) := by decide +kernel
theorem dX4_isAhead_19 : decode cX4_isAhead 19 = .ok (.iload_n 1, 1) := by decide +kernel
theorem dX4_isAhead_20 : decode cX4_isAhead 20 = .ok (.iaload, 1) := by decide +kernel
theorem dX4_isAhead_21 : decode cX4_isAhead 21 = .ok (.aload_n 0, 1) := by decide +kernel
theorem dX4_isAhead_22 : decode cX4_isAhead 22 = .ok (.getfield 9, 3) := by decide +kernel
theorem dX4_isAhead_25 : decode cX4_isAhead 25 = .ok (.iload_n 2, 1) := by decide +kernel
theorem dX4_isAhead_26 : decode cX4_isAhead 26 = .ok (.iaload, 1) := by decide +kernel
theorem dX4_isAhead_27 : decode cX4_isAhead 27 = .ok (.if_icmp .le 7, 3) := by decide +kernel
theorem dX4_isAhead_30 : decode cX4_isAhead 30 = .ok (.iconst 1, 1) := by decide +kernel
theorem dX4_isAhead_31 : decode cX4_isAhead 31 = .ok (.goto 4, 3) := by decide +kernel
theorem dX4_isAhead_34 : decode cX4_isAhead 34 = .ok (.iconst 0, 1) := by decide +kernel
theorem dX4_isAhead_35 : decode cX4_isAhead 35 = .ok (.ireturn, 1) := by decide +kernel
theorem dX4_isAhead_36 : decode cX4_isAhead 36 = .ok (.aload_n 0, 1) := by decide +kernel
theorem dX4_isAhead_37 : decode cX4_isAhead 37 = .ok (.getfield 23, 3) := by decide +kernel
theorem dX4_isAhead_40 : decode cX4_isAhead 40 = .ok (.iload_n 1, 1) := by decide +kernel
theorem dX4_isAhead_41 : decode cX4_isAhead 41 = .ok (.aaload, 1) := by decide +kernel
theorem dX4_isAhead_42 : decode cX4_isAhead 42 = .ok (.iload_n 2, 1) := by decide +kernel
theorem dX4_isAhead_43 : decode cX4_isAhead 43 = .ok (.iaload, 1) := by decide +kernel
theorem dX4_isAhead_44 : decode cX4_isAhead 44 = .ok (.aload_n 0, 1) := by decide +kernel
theorem dX4_isAhead_45 : decode cX4_isAhead 45 = .ok (.getfield 23, 3) := by decide +kernel
theorem dX4_isAhead_48 : decode cX4_isAhead 48 = .ok (.iload_n 2, 1) := by decide +kernel
theorem dX4_isAhead_49 : decode cX4_isAhead 49 = .ok (.aaload, 1) := by decide +kernel
theorem dX4_isAhead_50 : decode cX4_isAhead 50 = .ok (.iload_n 1, 1) := by decide +kernel
theorem dX4_isAhead_51 : decode cX4_isAhead 51 = .ok (.iaload, 1) := by decide +kernel
theorem dX4_isAhead_52 : decode cX4_isAhead 52 = .ok (.if_icmp .eq 28, 3) := by decide +kernel
theorem dX4_isAhead_55 : decode cX4_isAhead 55 = .ok (.aload_n 0, 1) := by decide +kernel
theorem dX4_isAhead_56 : decode cX4_isAhead 56 = .ok (.getfield 23, 3) := by decide +kernel
theorem dX4_isAhead_59 : decode cX4_isAhead 59 = .ok (.iload_n 1, 1) := by decide +kernel
theorem dX4_isAhead_60 : decode cX4_isAhead 60 = .ok (.aaload, 1) := by decide +kernel
theorem dX4_isAhead_61 : decode cX4_isAhead 61 = .ok (.iload_n 2, 1) := by decide +kernel
theorem dX4_isAhead_62 : decode cX4_isAhead 62 = .ok (.iaload, 1) := by decide +kernel
theorem dX4_isAhead_63 : decode cX4_isAhead 63 = .ok (.aload_n 0, 1) := by decide +kernel
theorem dX4_isAhead_64 : decode cX4_isAhead 64 = .ok (.getfield 23, 3) := by decide +kernel
theorem dX4_isAhead_67 : decode cX4_isAhead 67 = .ok (.iload_n 2, 1) := by decide +kernel
theorem dX4_isAhead_68 : decode cX4_isAhead 68 = .ok (.aaload, 1) := by decide +kernel
theorem dX4_isAhead_69 : decode cX4_isAhead 69 = .ok (.iload_n 1, 1) := by decide +kernel
theorem dX4_isAhead_70 : decode cX4_isAhead 70 = .ok (.iaload, 1) := by decide +kernel
theorem dX4_isAhead_71 : decode cX4_isAhead 71 = .ok (.if_icmp .le 7, 3) := by decide +kernel
theorem dX4_isAhead_74 : decode cX4_isAhead 74 = .ok (.iconst 1, 1) := by decide +kernel
theorem dX4_isAhead_75 : decode cX4_isAhead 75 = .ok (.goto 4, 3) := by decide +kernel
theorem dX4_isAhead_78 : decode cX4_isAhead 78 = .ok (.iconst 0, 1) := by decide +kernel
theorem dX4_isAhead_79 : decode cX4_isAhead 79 = .ok (.ireturn, 1) := by decide +kernel
theorem dX4_isAhead_80 : decode cX4_isAhead 80 = .ok (.aload_n 0, 1) := by decide +kernel
theorem dX4_isAhead_81 : decode cX4_isAhead 81 = .ok (.getfield 18, 3) := by decide +kernel
theorem dX4_isAhead_84 : decode cX4_isAhead 84 = .ok (.iload_n 1, 1) := by decide +kernel
theorem dX4_isAhead_85 : decode cX4_isAhead 85 = .ok (.iaload, 1) := by decide +kernel
theorem dX4_isAhead_86 : decode cX4_isAhead 86 = .ok (.aload_n 0, 1) := by decide +kernel
theorem dX4_isAhead_87 : decode cX4_isAhead 87 = .ok (.getfield 18, 3) := by decide +kernel
theorem dX4_isAhead_90 : decode cX4_isAhead 90 = .ok (.iload_n 2, 1) := by decide +kernel
theorem dX4_isAhead_91 : decode cX4_isAhead 91 = .ok (.iaload, 1) := by decide +kernel
theorem dX4_isAhead_92 : decode cX4_isAhead 92 = .ok (.if_icmp .eq 24, 3) := by decide +kernel
theorem dX4_isAhead_95 : decode cX4_isAhead 95 = .ok (.aload_n 0, 1) := by decide +kernel
theorem dX4_isAhead_96 : decode cX4_isAhead 96 = .ok (.getfield 18, 3) := by decide +kernel
theorem dX4_isAhead_99 : decode cX4_isAhead 99 = .ok (.iload_n 1, 1) := by decide +kernel
theorem dX4_isAhead_100 : decode cX4_isAhead 100 = .ok (.iaload, 1) := by decide +kernel
theorem dX4_isAhead_101 : decode cX4_isAhead 101 = .ok (.aload_n 0, 1) := by decide +kernel
theorem dX4_isAhead_102 : decode cX4_isAhead 102 = .ok (.getfield 18, 3) := by decide +kernel
theorem dX4_isAhead_105 : decode cX4_isAhead 105 = .ok (.iload_n 2, 1) := by decide +kernel
theorem dX4_isAhead_106 : decode cX4_isAhead 106 = .ok (.iaload, 1) := by decide +kernel
theorem dX4_isAhead_107 : decode cX4_isAhead 107 = .ok (.if_icmp .le 7, 3) := by decide +kernel
theorem dX4_isAhead_110 : decode cX4_isAhead 110 = .ok (.iconst 1, 1) := by decide +kernel
theorem dX4_isAhead_111 : decode cX4_isAhead 111 = .ok (.goto 4, 3) := by decide +kernel
theorem dX4_isAhead_114 : decode cX4_isAhead 114 = .ok (.iconst 0, 1) := by decide +kernel
theorem dX4_isAhead_115 : decode cX4_isAhead 115 = .ok (.ireturn, 1) := by decide +kernel
theorem dX4_isAhead_116 : decode cX4_isAhead 116 = .ok (.iload_n 1, 1) := by decide +kernel
theorem dX4_isAhead_117 : decode cX4_isAhead 117 = .ok (.iload_n 2, 1) := by decide +kernel
theorem dX4_isAhead_118 : decode cX4_isAhead 118 = .ok (.if_icmp .ge 7, 3) := by decide +kernel
theorem dX4_isAhead_121 : decode cX4_isAhead 121 = .ok (.iconst 1, 1) := by decide +kernel
theorem dX4_isAhead_122 : decode cX4_isAhead 122 = .ok (.goto 4, 3) := by decide +kernel
theorem dX4_isAhead_125 : decode cX4_isAhead 125 = .ok (.iconst 0, 1) := by decide +kernel
theorem dX4_isAhead_126 : decode cX4_isAhead 126 = .ok (.ireturn, 1) := by decide +kernel
set_option maxRecDepth 20000 in
theorem ggX5_init_X1_init : GoodIn wsX5_init wsX1_init := goodIn_r _ [19, 20, 2, 3, 21, 22, 67] (by decide +kernel) (by decide +kernel)
set_option maxRecDepth 20000 in
theorem gX5_init_X1_init_n11 : GoodIn wsX5_init (wsX1_init) := ggX5_init_X1_init
set_option maxRecDepth 20000 in
theorem ggX5_init_X2_init : GoodIn wsX5_init wsX2_init := goodIn_r _ [25, 26, 2, 3, 27, 16, 28, 29, 30, 31, 32, 33, 34, 35, 36, 37, 38, 39, 40, 41, 42, 43, 44, 45, 46, 47, 48, 49, 50, 51, 21, 52, 53, 54, 55, 10, 56, 57, 58, 72, 73, 74, 75, 76, 77, 78, 79, 84, 85, 86, 87, 88, 89, 90, 91, 92, 93] (by decide +kernel) (by decide +kernel)
set_option maxRecDepth 20000 in
theorem gX5_init_X2_init : GoodIn wsX5_init (wsX2_init) := ggX5_init_X2_init
set_option maxRecDepth 20000 in
theorem ggX5_init_X4_init : GoodIn wsX5_init wsX4_init := goodIn_r _ [60, 61, 2, 3, 16, 62, 63, 64, 65, 66, 80, 81, 82, 83] (by decide +kernel) (by decide +kernel)
set_option maxRecDepth 20000 in
theorem gX5_init_X4_init_n25 : GoodIn wsX5_init (wsX4_init) := ggX5_init_X4_init
theorem dX5_init_0 : decode cX5_init 0 = .ok (.aload_n 0, 1) := by decide +kernel
theorem dX5_init_1 : decode cX5_init 1 = .ok (.invokespecial 3, 3) := by decide +kernel
theorem dX5_init_4 : decode cX5_init 4 = .ok (.aload_n 0, 1) := by decide +kernel
theorem dX5_init_5 : decode cX5_init 5 = .ok (.new 9, 3) := by decide +kernel
theorem dX5_init_8 : decode cX5_init 8 = .ok (.dup, 1) := by decide +kernel
theorem dX5_init_9 : decode cX5_init 9 = .ok (.invokespecial 11, 3) := by decide +kernel
theorem dX5_init_12 : decode cX5_init 12 = .ok (.putfield 12, 3) := by decide +kernel
theorem dX5_init_15 : decode cX5_init 15 = .ok (.aload_n 0, 1) := by decide +kernel
theorem dX5_init_16 : decode cX5_init 16 = .ok (.new 16, 3) := by decide +kernel
theorem dX5_init_19 : decode cX5_init 19 = .ok (.dup, 1) := by decide +kernel
theorem dX5_init_20 : decode cX5_init 20 = .ok (.invokespecial 18, 3) := by decide +kernel
theorem dX5_init_23 : decode cX5_init 23 = .ok (.putfield 19, 3) := by decide +kernel
theorem dX5_init_26 : decode cX5_init 26 = .ok (.aload_n 0, 1) := by decide +kernel
theorem dX5_init_27 : decode cX5_init 27 = .ok (.new 23, 3) := by decide +kernel
theorem dX5_init_30 : decode cX5_init 30 = .ok (.dup, 1) := by decide +kernel
theorem dX5_init_31 : decode cX5_init 31 = .ok (.invokespecial 25, 3) := by decide +kernel
theorem dX5_init_34 : decode cX5_init 34 = .ok (.putfield 26, 3) := by decide +kernel
theorem dX5_init_37 : decode cX5_init 37 = .ok (.aload_n 0, 1) := by decide +kernel
theorem dX5_init_38 : decode cX5_init 38 = .ok (.iconst 2, 1) := by decide +kernel
theorem dX5_init_39 : decode cX5_init 39 = .ok (.newarray .int, 2) := by decide +kernel
theorem dX5_init_41 : decode cX5_init 41 = .ok (.dup, 1) := by decide +kernel
theorem dX5_init_42 : decode cX5_init 42 = .ok (.iconst 0, 1) := by decide +kernel
theorem dX5_init_43 : decode cX5_init 43 = .ok (.iconst 0, 1) := by decide +kernel
theorem dX5_init_44 : decode cX5_init 44 = .ok (.iastore, 1) := by decide +kernel
theorem dX5_init_45 : decode cX5_init 45 = .ok (.dup, 1) := by decide +kernel
theorem dX5_init_46 : decode cX5_init 46 = .ok (.iconst 1, 1) := by decide +kernel
theorem dX5_init_47 : decode cX5_init 47 = .ok (.sipush 143, 3) := by decide +kernel
theorem dX5_init_50 : decode cX5_init 50 = .ok (.iastore, 1) := by decide +kernel
theorem dX5_init_51 : decode cX5_init 51 = .ok (.putfield 30, 3) := by decide +kernel
theorem dX5_init_54 : decode cX5_init 54 = .ok (.return_, 1) := by decide +kernel
set_option maxRecDepth 20000 in
theorem ggX5_toggleBunker_X5_checkCell : GoodIn wsX5_toggleBunker wsX5_checkCell := goodIn_ca (goodIn_r _ [8, 9, 10] (by decide +kernel) (by decide +kernel)) (goodIn_sub (fun _ h => List.mem_cons_of_mem _ (List.mem_append_right _ h)) (by decide +kernel))
set_option maxRecDepth 20000 in
theorem gX5_toggleBunker_X5_checkCell : GoodIn wsX5_toggleBunker (va_wsS RX5 34 yX5_checkCell wsX5_checkCell) := goodIn_app (goodIn_of _ (by decide +kernel)) ggX5_toggleBunker_X5_checkCell
set_option maxRecDepth 20000 in
theorem ggX5_toggleBunker_X2_isPlayed : GoodIn wsX5_toggleBunker wsX2_isPlayed := goodIn_r _ [15, 16, 27, 28, 29, 30, 31, 32, 33, 34] (by decide +kernel) (by decide +kernel)
set_option maxRecDepth 20000 in
theorem gX5_toggleBunker_X2_isPlayed : GoodIn wsX5_toggleBunker (wsV RX5 38 RX2 yX2_isPlayed wsX2_isPlayed) := goodIn_app (goodIn_of _ (by decide +kernel)) ggX5_toggleBunker_X2_isPlayed
set_option maxRecDepth 20000 in
theorem ggX5_toggleBunker_X1_turnBunker : GoodIn wsX5_toggleBunker wsX1_turnBunker := goodIn_r _ [21, 22, 35] (by decide +kernel) (by decide +kernel)
set_option maxRecDepth 20000 in
theorem gX5_toggleBunker_X1_turnBunker : GoodIn wsX5_toggleBunker (wsV RX5 49 RX1 yX1_turnBunker wsX1_turnBunker) := goodIn_app (goodIn_of _ (by decide +kernel)) ggX5_toggleBunker_X1_turnBunker
theorem dX5_toggleBunker_0 : decode cX5_toggleBunker 0 = .ok (.iload_n 1, 1) := by decide +kernel
theorem dX5_toggleBunker_1 : decode cX5_toggleBunker 1 = .ok (.invokestatic 34, 3) := by decide +kernel
theorem dX5_toggleBunker_4 : decode cX5_toggleBunker 4 = .ok (.aload_n 0, 1) := by decide +kernel
theorem dX5_toggleBunker_5 : decode cX5_toggleBunker 5 = .ok (.getfield 19, 3) := by decide +kernel
theorem dX5_toggleBunker_8 : decode cX5_toggleBunker 8 = .ok (.invokevirtual 38, 3) := by decide +kernel
theorem dX5_toggleBunker_11 : decode cX5_toggleBunker 11 = .ok (.ifCond .eq 13, 3) := by decide +kernel
theorem dX5_toggleBunker_14 : decode cX5_toggleBunker 14 = .ok (.new 42, 3) := by decide +kernel
theorem dX5_toggleBunker_17 : decode cX5_toggleBunker 17 = .ok (.dup, 1) := by decide +kernel
theorem dX5_toggleBunker_18 : decode cX5_toggleBunker 18 = .ok (.ldc 44, 2) := by decide +kernel
theorem dX5_toggleBunker_20 : decode cX5_toggleBunker 20 = .ok (.invokespecial 46, 3) := by decide +kernel
theorem dX5_toggleBunker_23 : decode cX5_toggleBunker 23 = .ok (.athrow, 1) := by decide +kernel
theorem dX5_toggleBunker_24 : decode cX5_toggleBunker 24 = .ok (.aload_n 0, 1) := by decide +kernel
theorem dX5_toggleBunker_25 : decode cX5_toggleBunker 25 = .ok (.getfield 12, 3) := by decide +kernel
theorem dX5_toggleBunker_28 : decode cX5_toggleBunker 28 = .ok (.iload_n 1, 1) := by decide +kernel
theorem dX5_toggleBunker_29 : decode cX5_toggleBunker 29 = .ok (.invokevirtual 49, 3) := by decide +kernel
theorem dX5_toggleBunker_32 : decode cX5_toggleBunker 32 = .ok (.ireturn, 1) := by decide +kernel
set_option maxRecDepth 20000 in
theorem ggX5_sees_X5_checkCell : GoodIn wsX5_sees wsX5_checkCell := goodIn_ca (goodIn_r _ [5, 6, 7] (by decide +kernel) (by decide +kernel)) (goodIn_sub (fun _ h => List.mem_cons_of_mem _ (List.mem_append_right _ h)) (by decide +kernel))
set_option maxRecDepth 20000 in
theorem gX5_sees_X5_checkCell : GoodIn wsX5_sees (va_wsS RX5 34 yX5_checkCell wsX5_checkCell) := goodIn_app (goodIn_of _ (by decide +kernel)) ggX5_sees_X5_checkCell
set_option maxRecDepth 20000 in
theorem ggX5_sees_X1_hasSight : GoodIn wsX5_sees wsX1_hasSight := goodIn_r _ [12, 13, 14, 15, 16, 17, 18, 19, 20, 21, 22, 11, 23, 24, 25, 26, 31] (by decide +kernel) (by decide +kernel)
set_option maxRecDepth 20000 in
theorem gX5_sees_X1_hasSight : GoodIn wsX5_sees (wsV RX5 53 RX1 yX1_hasSight wsX1_hasSight) := goodIn_app (goodIn_of _ (by decide +kernel)) ggX5_sees_X1_hasSight
theorem dX5_sees_0 : decode cX5_sees 0 = .ok (.iload_n 1, 1) := by decide +kernel
theorem dX5_sees_1 : decode cX5_sees 1 = .ok (.invokestatic 34, 3) := by decide +kernel
theorem dX5_sees_4 : decode cX5_sees 4 = .ok (.iload_n 2, 1) := by decide +kernel
theorem dX5_sees_5 : decode cX5_sees 5 = .ok (.invokestatic 34, 3) := by decide +kernel
theorem dX5_sees_8 : decode cX5_sees 8 = .ok (.aload_n 0, 1) := by decide +kernel
theorem dX5_sees_9 : decode cX5_sees 9 = .ok (.getfield 12, 3) := by decide +kernel
theorem dX5_sees_12 : decode cX5_sees 12 = .ok (.iload_n 1, 1) := by decide +kernel
theorem dX5_sees_13 : decode cX5_sees 13 = .ok (.iload_n 2, 1) := by decide +kernel
theorem dX5_sees_14 : decode cX5_sees 14 = .ok (.invokevirtual 53, 3) := by decide +kernel
theorem dX5_sees_17 : decode cX5_sees 17 = .ok (.ireturn, 1) := by decide +kernel
set_option maxRecDepth 20000 in
theorem ggX5_view_X5_checkCell : GoodIn wsX5_view wsX5_checkCell := goodIn_ca (goodIn_r _ [5, 6, 7] (by decide +kernel) (by decide +kernel)) (goodIn_sub (fun _ h => List.mem_cons_of_mem _ (List.mem_append_right _ h)) (by decide +kernel))
set_option maxRecDepth 20000 in
theorem gX5_view_X5_checkCell : GoodIn wsX5_view (va_wsS RX5 34 yX5_checkCell wsX5_checkCell) := goodIn_app (goodIn_of _ (by decide +kernel)) ggX5_view_X5_checkCell
set_option maxRecDepth 20000 in
theorem ggX5_view_X1_countSeen : GoodIn wsX5_view wsX1_countSeen := goodIn_r _ [12, 13, 14, 15, 11, 16, 17, 18, 19, 20, 21, 22, 23, 24, 25, 26, 27, 28, 29, 30, 35] (by decide +kernel) (by decide +kernel)
set_option maxRecDepth 20000 in
theorem gX5_view_X1_countSeen : GoodIn wsX5_view (wsV RX5 57 RX1 yX1_countSeen wsX1_countSeen) := goodIn_app (goodIn_of _ (by decide +kernel)) ggX5_view_X1_countSeen
theorem dX5_view_0 : decode cX5_view 0 = .ok (.iload_n 1, 1) := by decide +kernel
theorem dX5_view_1 : decode cX5_view 1 = .ok (.invokestatic 34, 3) := by decide +kernel
theorem dX5_view_4 : decode cX5_view 4 = .ok (.aload_n 0, 1) := by decide +kernel
theorem dX5_view_5 : decode cX5_view 5 = .ok (.getfield 12, 3) := by decide +kernel
theorem dX5_view_8 : decode cX5_view 8 = .ok (.iload_n 1, 1) := by decide +kernel
theorem dX5_view_9 : decode cX5_view 9 = .ok (.invokevirtual 57, 3) := by decide +kernel
theorem dX5_view_12 : decode cX5_view 12 = .ok (.ireturn, 1) := by decide +kernel
set_option maxRecDepth 20000 in
theorem ggX5_setReferee_X5_checkReferee : GoodIn wsX5_setReferee wsX5_checkReferee := goodIn_ca (goodIn_r _ [5, 6, 7] (by decide +kernel) (by decide +kernel)) (goodIn_sub (fun _ h => List.mem_cons_of_mem _ (List.mem_append_right _ h)) (by decide +kernel))
set_option maxRecDepth 20000 in
theorem gX5_setReferee_X5_checkReferee : GoodIn wsX5_setReferee (va_wsS RX5 61 yX5_checkReferee wsX5_checkReferee) := goodIn_app (goodIn_of _ (by decide +kernel)) ggX5_setReferee_X5_checkReferee
set_option maxRecDepth 20000 in
theorem ggX5_setReferee_X5_checkCell : GoodIn wsX5_setReferee wsX5_checkCell := goodIn_ca (goodIn_r _ [10, 6, 7] (by decide +kernel) (by decide +kernel)) (goodIn_sub (fun _ h => List.mem_cons_of_mem _ (List.mem_append_right _ h)) (by decide +kernel))
set_option maxRecDepth 20000 in
theorem gX5_setReferee_X5_checkCell : GoodIn wsX5_setReferee (va_wsS RX5 34 yX5_checkCell wsX5_checkCell) := goodIn_app (goodIn_of _ (by decide +kernel)) ggX5_setReferee_X5_checkCell
theorem dX5_setReferee_0 : decode cX5_setReferee 0 = .ok (.iload_n 1, 1) := by decide +kernel
theorem dX5_setReferee_1 : decode cX5_setReferee 1 = .ok (.invokestatic 61, 3) := by decide +kernel
theorem dX5_setReferee_4 : decode cX5_setReferee 4 = .ok (.iload_n 2, 1) := by decide +kernel
theorem dX5_setReferee_5 : decode cX5_setReferee 5 = .ok (.invokestatic 34, 3) := by decide +kernel
theorem dX5_setReferee_8 : decode cX5_setReferee 8 = .ok (.aload_n 0, 1) := by decide +kernel
theorem dX5_setReferee_9 : decode cX5_setReferee 9 = .ok (.getfield 30, 3) := by decide +kernel
theorem dX5_setReferee_12 : decode cX5_setReferee 12 = .ok (.iload_n 1, 1) := by decide +kernel
theorem dX5_setReferee_13 : decode cX5_setReferee 13 = .ok (.iaload, 1) := by decide +kernel
theorem dX5_setReferee_14 : decode cX5_setReferee 14 = .ok (.istore_n 3, 1) := by decide +kernel
theorem dX5_setReferee_15 : decode cX5_setReferee 15 = .ok (.aload_n 0, 1) := by decide +kernel
theorem dX5_setReferee_16 : decode cX5_setReferee 16 = .ok (.getfield 30, 3) := by decide +kernel
theorem dX5_setReferee_19 : decode cX5_setReferee 19 = .ok (.iload_n 1, 1) := by decide +kernel
theorem dX5_setReferee_20 : decode cX5_setReferee 20 = .ok (.iload_n 2, 1) := by decide +kernel
theorem dX5_setReferee_21 : decode cX5_setReferee 21 = .ok (.iastore, 1) := by decide +kernel
theorem dX5_setReferee_22 : decode cX5_setReferee 22 = .ok (.iload_n 3, 1) := by decide +kernel
theorem dX5_setReferee_23 : decode cX5_setReferee 23 = .ok (.ireturn, 1) := by decide +kernel
set_option maxRecDepth 20000 in
theorem ggX5_begin_X5_checkTeam : GoodIn wsX5_begin wsX5_checkTeam := goodIn_ca (goodIn_r _ [9, 10, 11] (by decide +kernel) (by decide +kernel)) (goodIn_sub (fun _ h => List.mem_cons_of_mem _ (List.mem_append_right _ h)) (by decide +kernel))
set_option maxRecDepth 20000 in
theorem gX5_begin_X5_checkTeam : GoodIn wsX5_begin (va_wsS RX5 64 yX5_checkTeam wsX5_checkTeam) := goodIn_app (goodIn_of _ (by decide +kernel)) ggX5_begin_X5_checkTeam
set_option maxRecDepth 20000 in
theorem ggX5_begin_X2_isPlayed : GoodIn wsX5_begin wsX2_isPlayed := goodIn_r _ [16, 17, 39, 40, 41, 42, 43, 44, 45, 46] (by decide +kernel) (by decide +kernel)
set_option maxRecDepth 20000 in
theorem gX5_begin_X2_isPlayed : GoodIn wsX5_begin (wsV RX5 38 RX2 yX2_isPlayed wsX2_isPlayed) := goodIn_app (goodIn_of _ (by decide +kernel)) ggX5_begin_X2_isPlayed
set_option maxRecDepth 20000 in
theorem ggX5_begin_X2_start : GoodIn wsX5_begin wsX2_start := goodIn_r _ [21, 22, 23, 17, 24, 25, 26, 15, 27, 28, 29, 30, 31, 32, 33, 34, 39, 40, 41, 42, 43, 44, 45, 46, 47, 48, 49, 50, 51, 52, 53, 54, 55, 56] (by decide +kernel) (by decide +kernel)
set_option maxRecDepth 20000 in
theorem gX5_begin_X2_start : GoodIn wsX5_begin (wsV RX5 72 RX2 yX2_start wsX2_start) := goodIn_app (goodIn_of _ (by decide +kernel)) ggX5_begin_X2_start
theorem dX5_begin_0 : decode cX5_begin 0 = .ok (.iload_n 1, 1) := by decide +kernel
theorem dX5_begin_1 : decode cX5_begin 1 = .ok (.invokestatic 64, 3) := by decide +kernel
theorem dX5_begin_4 : decode cX5_begin 4 = .ok (.iload_n 2, 1) := by decide +kernel
theorem dX5_begin_5 : decode cX5_begin 5 = .ok (.invokestatic 64, 3) := by decide +kernel
theorem dX5_begin_8 : decode cX5_begin 8 = .ok (.iload_n 1, 1) := by decide +kernel
theorem dX5_begin_9 : decode cX5_begin 9 = .ok (.iload_n 2, 1) := by decide +kernel
theorem dX5_begin_10 : decode cX5_begin 10 = .ok (.if_icmp .ne 13, 3) := by decide +kernel
theorem dX5_begin_13 : decode cX5_begin 13 = .ok (.new 67, 3) := by decide +kernel
theorem dX5_begin_16 : decode cX5_begin 16 = .ok (.dup, 1) := by decide +kernel
theorem dX5_begin_17 : decode cX5_begin 17 = .ok (.ldc 69, 2) := by decide +kernel
theorem dX5_begin_19 : decode cX5_begin 19 = .ok (.invokespecial 71, 3) := by decide +kernel
theorem dX5_begin_22 : decode cX5_begin 22 = .ok (.athrow, 1) := by decide +kernel
theorem dX5_begin_23 : decode cX5_begin 23 = .ok (.aload_n 0, 1) := by decide +kernel
theorem dX5_begin_24 : decode cX5_begin 24 = .ok (.getfield 19, 3) := by decide +kernel
theorem dX5_begin_27 : decode cX5_begin 27 = .ok (.invokevirtual 38, 3) := by decide +kernel
theorem dX5_begin_30 : decode cX5_begin 30 = .ok (.ifCond .eq 13, 3) := by decide +kernel
theorem dX5_begin_33 : decode cX5_begin 33 = .ok (.new 42, 3) := by decide +kernel
theorem dX5_begin_36 : decode cX5_begin 36 = .ok (.dup, 1) := by decide +kernel
theorem dX5_begin_37 : decode cX5_begin 37 = .ok (.ldc 44, 2) := by decide +kernel
theorem dX5_begin_39 : decode cX5_begin 39 = .ok (.invokespecial 46, 3) := by decide +kernel
theorem dX5_begin_42 : decode cX5_begin 42 = .ok (.athrow, 1) := by decide +kernel
theorem dX5_begin_43 : decode cX5_begin 43 = .ok (.aload_n 0, 1) := by decide +kernel
theorem dX5_begin_44 : decode cX5_begin 44 = .ok (.getfield 19, 3) := by decide +kernel
theorem dX5_begin_47 : decode cX5_begin 47 = .ok (.iload_n 1, 1) := by decide +kernel
theorem dX5_begin_48 : decode cX5_begin 48 = .ok (.iload_n 2, 1) := by decide +kernel
theorem dX5_begin_49 : decode cX5_begin 49 = .ok (.invokevirtual 72, 3) := by decide +kernel
theorem dX5_begin_52 : decode cX5_begin 52 = .ok (.return_, 1) := by decide +kernel
set_option maxRecDepth 20000 in
theorem ggX5_move_X5_checkPlayer : GoodIn wsX5_move wsX5_checkPlayer := goodIn_ca (goodIn_r _ [8, 9, 10] (by decide +kernel) (by decide +kernel)) (goodIn_sub (fun _ h => List.mem_cons_of_mem _ (List.mem_append_right _ h)) (by decide +kernel))
set_option maxRecDepth 20000 in
theorem gX5_move_X5_checkPlayer : GoodIn wsX5_move (va_wsS RX5 76 yX5_checkPlayer wsX5_checkPlayer) := goodIn_app (goodIn_of _ (by decide +kernel)) ggX5_move_X5_checkPlayer
set_option maxRecDepth 20000 in
theorem ggX5_move_X5_checkCell : GoodIn wsX5_move wsX5_checkCell := goodIn_ca (goodIn_r _ [13, 9, 10] (by decide +kernel) (by decide +kernel)) (goodIn_sub (fun _ h => List.mem_cons_of_mem _ (List.mem_append_right _ h)) (by decide +kernel))
set_option maxRecDepth 20000 in
theorem gX5_move_X5_checkCell : GoodIn wsX5_move (va_wsS RX5 34 yX5_checkCell wsX5_checkCell) := goodIn_app (goodIn_of _ (by decide +kernel)) ggX5_move_X5_checkCell
set_option maxRecDepth 20000 in
theorem ggX5_move_X5_checkRound : GoodIn wsX5_move wsX5_checkRound := goodIn_ca (goodIn_r _ [17, 1, 2, 3, 18, 19, 20, 21, 22, 23, 53, 54, 55, 56, 57, 58, 59, 60, 61, 62, 63, 64] (by decide +kernel) (by decide +kernel)) (goodIn_sub (fun _ h => List.mem_cons_of_mem _ (List.mem_append_left _ (List.mem_append_right _ h))) (by decide +kernel))
set_option maxRecDepth 20000 in
theorem gX5_move_X5_checkRound : GoodIn wsX5_move (wsV RX5 79 RX5 yX5_checkRound wsX5_checkRound) := goodIn_app (goodIn_of _ (by decide +kernel)) ggX5_move_X5_checkRound
set_option maxRecDepth 20000 in
theorem ggX5_move_X2_cellOf : GoodIn wsX5_move wsX2_cellOf := goodIn_r _ [27, 28, 57, 58, 59, 60, 61, 62, 63, 64] (by decide +kernel) (by decide +kernel)
set_option maxRecDepth 20000 in
theorem gX5_move_X2_cellOf : GoodIn wsX5_move (wsV RX5 82 RX2 yX2_cellOf wsX2_cellOf) := goodIn_app (goodIn_of _ (by decide +kernel)) ggX5_move_X2_cellOf
set_option maxRecDepth 20000 in
theorem ggX5_move_X1_distance : GoodIn wsX5_move wsX1_distance := goodIn_r _ [32, 33, 34, 35, 36, 37, 38, 39] (by decide +kernel) (by decide +kernel)
set_option maxRecDepth 20000 in
theorem gX5_move_X1_distance : GoodIn wsX5_move (va_wsS RX5 87 yX1_distance wsX1_distance) := goodIn_app (goodIn_of _ (by decide +kernel)) ggX5_move_X1_distance
set_option maxRecDepth 20000 in
theorem ggX5_move_X1_hasBunker : GoodIn wsX5_move wsX1_hasBunker := goodIn_r _ [43, 44, 65] (by decide +kernel) (by decide +kernel)
set_option maxRecDepth 20000 in
theorem gX5_move_X1_hasBunker : GoodIn wsX5_move (wsV RX5 93 RX1 yX1_hasBunker wsX1_hasBunker) := goodIn_app (goodIn_of _ (by decide +kernel)) ggX5_move_X1_hasBunker
set_option maxRecDepth 20000 in
theorem ggX5_move_X2_playerOn : GoodIn wsX5_move wsX2_playerOn := goodIn_r _ [48, 28, 57, 58, 59, 60, 61, 62, 63, 64] (by decide +kernel) (by decide +kernel)
set_option maxRecDepth 20000 in
theorem gX5_move_X2_playerOn : GoodIn wsX5_move (wsV RX5 96 RX2 yX2_playerOn wsX2_playerOn) := goodIn_app (goodIn_of _ (by decide +kernel)) ggX5_move_X2_playerOn
set_option maxRecDepth 20000 in
theorem ggX5_move_X2_put : GoodIn wsX5_move wsX2_put := goodIn_r _ [52, 28, 57, 58, 59, 60, 61, 62, 63, 64] (by decide +kernel) (by decide +kernel)
set_option maxRecDepth 20000 in
theorem gX5_move_X2_put : GoodIn wsX5_move (wsV RX5 101 RX2 yX2_put wsX2_put) := goodIn_app (goodIn_of _ (by decide +kernel)) ggX5_move_X2_put
theorem dX5_move_0 : decode cX5_move 0 = .ok (.iload_n 1, 1) := by decide +kernel
theorem dX5_move_1 : decode cX5_move 1 = .ok (.invokestatic 76, 3) := by decide +kernel
theorem dX5_move_4 : decode cX5_move 4 = .ok (.iload_n 2, 1) := by decide +kernel
theorem dX5_move_5 : decode cX5_move 5 = .ok (.invokestatic 34, 3) := by decide +kernel
theorem dX5_move_8 : decode cX5_move 8 = .ok (.aload_n 0, 1) := by decide +kernel
theorem dX5_move_9 : decode cX5_move 9 = .ok (.invokevirtual 79, 3) := by decide +kernel
theorem dX5_move_12 : decode cX5_move 12 = .ok (.aload_n 0, 1) := by decide +kernel
theorem dX5_move_13 : decode cX5_move 13 = .ok (.getfield 19, 3) := by decide +kernel
theorem dX5_move_16 : decode cX5_move 16 = .ok (.iload_n 1, 1) := by decide +kernel
theorem dX5_move_17 : decode cX5_move 17 = .ok (.invokevirtual 82, 3) := by decide +kernel
theorem dX5_move_20 : decode cX5_move 20 = .ok (.istore_n 3, 1) := by decide +kernel
theorem dX5_move_21 : decode cX5_move 21 = .ok (.iload_n 3, 1) := by decide +kernel
theorem dX5_move_22 : decode cX5_move 22 = .ok (.bipush (-2), 2) := by decide +kernel
theorem dX5_move_24 : decode cX5_move 24 = .ok (.if_icmp .ne 13, 3) := by decide +kernel
theorem dX5_move_27 : decode cX5_move 27 = .ok (.new 42, 3) := by decide +kernel
theorem dX5_move_30 : decode cX5_move 30 = .ok (.dup, 1) := by decide +kernel
theorem dX5_move_31 : decode cX5_move 31 = .ok (.ldc 85, 2) := by decide +kernel
theorem dX5_move_33 : decode cX5_move 33 = .ok (.invokespecial 46, 3) := by decide +kernel
theorem dX5_move_36 : decode cX5_move 36 = .ok (.athrow, 1) := by decide +kernel
theorem dX5_move_37 : decode cX5_move 37 = .ok (.iload_n 3, 1) := by decide +kernel
theorem dX5_move_38 : decode cX5_move 38 = .ok (.ifCond .lt 22, 3) := by decide +kernel
theorem dX5_move_41 : decode cX5_move 41 = .ok (.iload_n 3, 1) := by decide +kernel
theorem dX5_move_42 : decode cX5_move 42 = .ok (.iload_n 2, 1) := by decide +kernel
theorem dX5_move_43 : decode cX5_move 43 = .ok (.invokestatic 87, 3) := by decide +kernel
theorem dX5_move_46 : decode cX5_move 46 = .ok (.iconst 1, 1) := by decide +kernel
theorem dX5_move_47 : decode cX5_move 47 = .ok (.if_icmp .eq 13, 3) := by decide +kernel
theorem dX5_move_50 : decode cX5_move 50 = .ok (.new 42, 3) := by decide +kernel
theorem dX5_move_53 : decode cX5_move 53 = .ok (.dup, 1) := by decide +kernel
theorem dX5_move_54 : decode cX5_move 54 = .ok (.ldc 91, 2) := by decide +kernel
theorem dX5_move_56 : decode cX5_move 56 = .ok (.invokespecial 46, 3) := by decide +kernel
theorem dX5_move_59 : decode cX5_move 59 = .ok (.athrow, 1) := by decide +kernel
theorem dX5_move_60 : decode cX5_move 60 = .ok (.aload_n 0, 1) := by decide +kernel
theorem dX5_move_61 : decode cX5_move 61 = .ok (.getfield 12, 3) := by decide +kernel
theorem dX5_move_64 : decode cX5_move 64 = .ok (.iload_n 2, 1) := by decide +kernel
theorem dX5_move_65 : decode cX5_move 65 = .ok (.invokevirtual 93, 3) := by decide +kernel
theorem dX5_move_68 : decode cX5_move 68 = .ok (.ifCond .ne 15, 3) := by decide +kernel
theorem dX5_move_71 : decode cX5_move 71 = .ok (.aload_n 0, 1) := by decide +kernel
theorem dX5_move_72 : decode cX5_move 72 = .ok (.getfield 19, 3) := by decide +kernel
theorem dX5_move_75 : decode cX5_move 75 = .ok (.iload_n 2, 1) := by decide +kernel
theorem dX5_move_76 : decode cX5_move 76 = .ok (.invokevirtual 96, 3) := by decide +kernel
theorem dX5_move_79 : decode cX5_move 79 = .ok (.iconst (-1), 1) := by decide +kernel
theorem dX5_move_80 : decode cX5_move 80 = .ok (.if_icmp .eq 13, 3) := by decide +kernel
theorem dX5_move_83 : decode cX5_move 83 = .ok (.new 42, 3) := by decide +kernel
theorem dX5_move_86 : decode cX5_move 86 = .ok (.dup, 1) := by decide +kernel
theorem dX5_move_87 : decode cX5_move 87 = .ok (.ldc 99, 2) := by decide +kernel
theorem dX5_move_89 : decode cX5_move 89 = .ok (.invokespecial 46, 3) := by decide +kernel
theorem dX5_move_92 : decode cX5_move 92 = .ok (.athrow, 1) := by decide +kernel
theorem dX5_move_93 : decode cX5_move 93 = .ok (.aload_n 0, 1) := by decide +kernel
theorem dX5_move_94 : decode cX5_move 94 = .ok (.getfield 19, 3) := by decide +kernel
theorem dX5_move_97 : decode cX5_move 97 = .ok (.iload_n 1, 1) := by decide +kernel
theorem dX5_move_98 : decode cX5_move 98 = .ok (.iload_n 2, 1) := by decide +kernel
theorem dX5_move_99 : decode cX5_move 99 = .ok (.invokevirtual 101, 3) := by decide +kernel
theorem dX5_move_102 : decode cX5_move 102 = .ok (.iload_n 3, 1) := by decide +kernel
theorem dX5_move_103 : decode cX5_move 103 = .ok (.ireturn, 1) := by decide +kernel
set_option maxRecDepth 20000 in
theorem ggX5_shoot_X5_checkPlayer : GoodIn wsX5_shoot wsX5_checkPlayer := goodIn_ca (goodIn_r _ [7, 8, 9] (by decide +kernel) (by decide +kernel)) (goodIn_sub (fun _ h => List.mem_cons_of_mem _ (List.mem_append_right _ h)) (by decide +kernel))
set_option maxRecDepth 20000 in
theorem gX5_shoot_X5_checkPlayer : GoodIn wsX5_shoot (va_wsS RX5 76 yX5_checkPlayer wsX5_checkPlayer) := goodIn_app (goodIn_of _ (by decide +kernel)) ggX5_shoot_X5_checkPlayer
set_option maxRecDepth 20000 in
theorem ggX5_shoot_X5_checkCell : GoodIn wsX5_shoot wsX5_checkCell := goodIn_ca (goodIn_r _ [12, 8, 9] (by decide +kernel) (by decide +kernel)) (goodIn_sub (fun _ h => List.mem_cons_of_mem _ (List.mem_append_right _ h)) (by decide +kernel))
set_option maxRecDepth 20000 in
theorem gX5_shoot_X5_checkCell : GoodIn wsX5_shoot (va_wsS RX5 34 yX5_checkCell wsX5_checkCell) := goodIn_app (goodIn_of _ (by decide +kernel)) ggX5_shoot_X5_checkCell
set_option maxRecDepth 20000 in
theorem ggX5_shoot_X5_checkRound : GoodIn wsX5_shoot wsX5_checkRound := goodIn_ca (goodIn_r _ [16, 1, 2, 3, 17, 18, 19, 20, 21, 22, 60, 61, 62, 63, 64, 65, 66, 67, 68, 69, 70, 71] (by decide +kernel) (by decide +kernel)) (goodIn_sub (fun _ h => List.mem_cons_of_mem _ (List.mem_append_left _ (List.mem_append_right _ h))) (by decide +kernel))
set_option maxRecDepth 20000 in
theorem gX5_shoot_X5_checkRound : GoodIn wsX5_shoot (wsV RX5 79 RX5 yX5_checkRound wsX5_checkRound) := goodIn_app (goodIn_of _ (by decide +kernel)) ggX5_shoot_X5_checkRound
set_option maxRecDepth 20000 in
theorem ggX5_shoot_X2_cellOf : GoodIn wsX5_shoot wsX2_cellOf := goodIn_r _ [26, 27, 64, 65, 66, 67, 68, 69, 70, 71] (by decide +kernel) (by decide +kernel)
set_option maxRecDepth 20000 in
theorem gX5_shoot_X2_cellOf : GoodIn wsX5_shoot (wsV RX5 82 RX2 yX2_cellOf wsX2_cellOf) := goodIn_app (goodIn_of _ (by decide +kernel)) ggX5_shoot_X2_cellOf
set_option maxRecDepth 20000 in
theorem ggX5_shoot_X2_mayFire : GoodIn wsX5_shoot wsX2_mayFire := goodIn_r _ [31, 32, 22, 33, 34, 64, 65, 66, 67, 68, 69, 70, 71, 72, 73, 74, 75, 76] (by decide +kernel) (by decide +kernel)
set_option maxRecDepth 20000 in
theorem gX5_shoot_X2_mayFire : GoodIn wsX5_shoot (wsV RX5 108 RX2 yX2_mayFire wsX2_mayFire) := goodIn_app (goodIn_of _ (by decide +kernel)) ggX5_shoot_X2_mayFire
set_option maxRecDepth 20000 in
theorem ggX5_shoot_X2_fire : GoodIn wsX5_shoot wsX2_fire := goodIn_r _ [38, 27, 22, 32, 33, 39, 40, 41, 42, 43, 44, 45, 46, 47, 48, 49, 50, 51, 52, 53, 54, 55, 56, 57, 58, 59, 64, 65, 66, 67, 68, 69, 70, 71, 72, 73, 74, 75, 76] (by decide +kernel) (by decide +kernel)
set_option maxRecDepth 20000 in
theorem gX5_shoot_X2_fire : GoodIn wsX5_shoot (wsV RX5 113 RX2 yX2_fire wsX2_fire) := goodIn_app (goodIn_of _ (by decide +kernel)) ggX5_shoot_X2_fire
theorem dX5_shoot_0 : decode cX5_shoot 0 = .ok (.iload_n 1, 1) := by decide +kernel
theorem dX5_shoot_1 : decode cX5_shoot 1 = .ok (.invokestatic 76, 3) := by decide +kernel
theorem dX5_shoot_4 : decode cX5_shoot 4 = .ok (.iload_n 2, 1) := by decide +kernel
theorem dX5_shoot_5 : decode cX5_shoot 5 = .ok (.invokestatic 34, 3) := by decide +kernel
theorem dX5_shoot_8 : decode cX5_shoot 8 = .ok (.aload_n 0, 1) := by decide +kernel
theorem dX5_shoot_9 : decode cX5_shoot 9 = .ok (.invokevirtual 79, 3) := by decide +kernel
theorem dX5_shoot_12 : decode cX5_shoot 12 = .ok (.aload_n 0, 1) := by decide +kernel
theorem dX5_shoot_13 : decode cX5_shoot 13 = .ok (.getfield 19, 3) := by decide +kernel
theorem dX5_shoot_16 : decode cX5_shoot 16 = .ok (.iload_n 1, 1) := by decide +kernel
theorem dX5_shoot_17 : decode cX5_shoot 17 = .ok (.invokevirtual 82, 3) := by decide +kernel
theorem dX5_shoot_20 : decode cX5_shoot 20 = .ok (.istore_n 3, 1) := by decide +kernel
theorem dX5_shoot_21 : decode cX5_shoot 21 = .ok (.iload_n 3, 1) := by decide +kernel
theorem dX5_shoot_22 : decode cX5_shoot 22 = .ok (.ifCond .ge 13, 3) := by decide +kernel
theorem dX5_shoot_25 : decode cX5_shoot 25 = .ok (.new 42, 3) := by decide +kernel
theorem dX5_shoot_28 : decode cX5_shoot 28 = .ok (.dup, 1) := by decide +kernel
theorem dX5_shoot_29 : decode cX5_shoot 29 = .ok (.ldc 104, 2) := by decide +kernel
theorem dX5_shoot_31 : decode cX5_shoot 31 = .ok (.invokespecial 46, 3) := by decide +kernel
theorem dX5_shoot_34 : decode cX5_shoot 34 = .ok (.athrow, 1) := by decide +kernel
theorem dX5_shoot_35 : decode cX5_shoot 35 = .ok (.iload_n 3, 1) := by decide +kernel
theorem dX5_shoot_36 : decode cX5_shoot 36 = .ok (.iload_n 2, 1) := by decide +kernel
theorem dX5_shoot_37 : decode cX5_shoot 37 = .ok (.if_icmp .ne 13, 3) := by decide +kernel
theorem dX5_shoot_40 : decode cX5_shoot 40 = .ok (.new 42, 3) := by decide +kernel
theorem dX5_shoot_43 : decode cX5_shoot 43 = .ok (.dup, 1) := by decide +kernel
theorem dX5_shoot_44 : decode cX5_shoot 44 = .ok (.ldc 106, 2) := by decide +kernel
theorem dX5_shoot_46 : decode cX5_shoot 46 = .ok (.invokespecial 46, 3) := by decide +kernel
theorem dX5_shoot_49 : decode cX5_shoot 49 = .ok (.athrow, 1) := by decide +kernel
theorem dX5_shoot_50 : decode cX5_shoot 50 = .ok (.aload_n 0, 1) := by decide +kernel
theorem dX5_shoot_51 : decode cX5_shoot 51 = .ok (.getfield 19, 3) := by decide +kernel
theorem dX5_shoot_54 : decode cX5_shoot 54 = .ok (.iload_n 1, 1) := by decide +kernel
theorem dX5_shoot_55 : decode cX5_shoot 55 = .ok (.invokevirtual 108, 3) := by decide +kernel
theorem dX5_shoot_58 : decode cX5_shoot 58 = .ok (.ifCond .ne 13, 3) := by decide +kernel
theorem dX5_shoot_61 : decode cX5_shoot 61 = .ok (.new 42, 3) := by decide +kernel
theorem dX5_shoot_64 : decode cX5_shoot 64 = .ok (.dup, 1) := by decide +kernel
theorem dX5_shoot_65 : decode cX5_shoot 65 = .ok (.ldc 111, 2) := by decide +kernel
theorem dX5_shoot_67 : decode cX5_shoot 67 = .ok (.invokespecial 46, 3) := by decide +kernel
theorem dX5_shoot_70 : decode cX5_shoot 70 = .ok (.athrow, 1) := by decide +kernel
theorem dX5_shoot_71 : decode cX5_shoot 71 = .ok (.aload_n 0, 1) := by decide +kernel
theorem dX5_shoot_72 : decode cX5_shoot 72 = .ok (.getfield 19, 3) := by decide +kernel
theorem dX5_shoot_75 : decode cX5_shoot 75 = .ok (.iload_n 1, 1) := by decide +kernel
theorem dX5_shoot_76 : decode cX5_shoot 76 = .ok (.iload_n 2, 1) := by decide +kernel
theorem dX5_shoot_77 : decode cX5_shoot 77 = .ok (.invokevirtual 113, 3) := by decide +kernel
theorem dX5_shoot_80 : decode cX5_shoot 80 = .ok (.ireturn, 1) := by decide +kernel
set_option maxRecDepth 20000 in
theorem ggX5_pass_X5_checkRound : GoodIn wsX5_pass wsX5_checkRound := goodIn_ca (goodIn_r _ [9, 10, 11, 3, 12, 13, 14, 15, 16, 17, 57, 58, 59, 60, 61, 62, 63, 64, 65, 66, 67, 68] (by decide +kernel) (by decide +kernel)) (goodIn_sub (fun _ h => List.mem_cons_of_mem _ (List.mem_append_right _ h)) (by decide +kernel))
set_option maxRecDepth 20000 in
theorem gX5_pass_X5_checkRound : GoodIn wsX5_pass (wsV RX5 79 RX5 yX5_checkRound wsX5_checkRound) := goodIn_app (goodIn_of _ (by decide +kernel)) ggX5_pass_X5_checkRound
set_option maxRecDepth 20000 in
theorem ggX5_pass_X2_nextTick : GoodIn wsX5_pass wsX2_nextTick := goodIn_r _ [21, 17, 22, 23, 24, 25, 26, 27, 15, 28, 29, 30, 31, 32, 33, 34, 35, 36, 37, 38, 39, 40, 41, 42, 43, 44, 45, 46, 47, 48, 49, 50, 51, 52, 53, 54, 55, 56, 61, 62, 63, 64, 65, 66, 67, 68, 69, 70, 71, 72, 73, 74] (by decide +kernel) (by decide +kernel)
set_option maxRecDepth 20000 in
theorem gX5_pass_X2_nextTick : GoodIn wsX5_pass (wsV RX5 118 RX2 yX2_nextTick wsX2_nextTick) := goodIn_app (goodIn_of _ (by decide +kernel)) ggX5_pass_X2_nextTick
theorem dX5_pass_0 : decode cX5_pass 0 = .ok (.iload_n 1, 1) := by decide +kernel
theorem dX5_pass_1 : decode cX5_pass 1 = .ok (.iconst 1, 1) := by decide +kernel
theorem dX5_pass_2 : decode cX5_pass 2 = .ok (.if_icmp .lt 9, 3) := by decide +kernel
theorem dX5_pass_5 : decode cX5_pass 5 = .ok (.iload_n 1, 1) := by decide +kernel
theorem dX5_pass_6 : decode cX5_pass 6 = .ok (.bipush 50, 2) := by decide +kernel
theorem dX5_pass_8 : decode cX5_pass 8 = .ok (.if_icmp .le 13, 3) := by decide +kernel
theorem dX5_pass_11 : decode cX5_pass 11 = .ok (.new 67, 3) := by decide +kernel
theorem dX5_pass_14 : decode cX5_pass 14 = .ok (.dup, 1) := by decide +kernel
theorem dX5_pass_15 : decode cX5_pass 15 = .ok (.ldc 116, 2) := by decide +kernel
theorem dX5_pass_17 : decode cX5_pass 17 = .ok (.invokespecial 71, 3) := by decide +kernel
theorem dX5_pass_20 : decode cX5_pass 20 = .ok (.athrow, 1) := by decide +kernel
theorem dX5_pass_21 : decode cX5_pass 21 = .ok (.aload_n 0, 1) := by decide +kernel
theorem dX5_pass_22 : decode cX5_pass 22 = .ok (.invokevirtual 79, 3) := by decide +kernel
theorem dX5_pass_25 : decode cX5_pass 25 = .ok (.iconst 0, 1) := by decide +kernel
theorem dX5_pass_26 : decode cX5_pass 26 = .ok (.istore_n 2, 1) := by decide +kernel
theorem dX5_pass_27 : decode cX5_pass 27 = .ok (.iconst 0, 1) := by decide +kernel
theorem dX5_pass_28 : decode cX5_pass 28 = .ok (.istore_n 3, 1) := by decide +kernel
theorem dX5_pass_29 : decode cX5_pass 29 = .ok (.iload_n 3, 1) := by decide +kernel
theorem dX5_pass_30 : decode cX5_pass 30 = .ok (.iload_n 1, 1) := by decide +kernel
theorem dX5_pass_31 : decode cX5_pass 31 = .ok (.if_icmp .ge 23, 3) := by decide +kernel
theorem dX5_pass_34 : decode cX5_pass 34 = .ok (.iload_n 2, 1) := by decide +kernel
theorem dX5_pass_35 : decode cX5_pass 35 = .ok (.aload_n 0, 1) := by decide +kernel
theorem dX5_pass_36 : decode cX5_pass 36 = .ok (.getfield 19, 3) := by decide +kernel
theorem dX5_pass_39 : decode cX5_pass 39 = .ok (.aload_n 0, 1) := by decide +kernel
theorem dX5_pass_40 : decode cX5_pass 40 = .ok (.getfield 12, 3) := by decide +kernel
theorem dX5_pass_43 : decode cX5_pass 43 = .ok (.invokevirtual 118, 3) := by decide +kernel
theorem dX5_pass_46 : decode cX5_pass 46 = .ok (.iadd, 1) := by decide +kernel
theorem dX5_pass_47 : decode cX5_pass 47 = .ok (.istore_n 2, 1) := by decide +kernel
theorem dX5_pass_48 : decode cX5_pass 48 = .ok (.iinc 3 1, 3) := by decide +kernel
theorem dX5_pass_51 : decode cX5_pass 51 = .ok (.goto (-22), 3) := by decide +kernel
theorem dX5_pass_54 : decode cX5_pass 54 = .ok (.iload_n 2, 1) := by decide +kernel
theorem dX5_pass_55 : decode cX5_pass 55 = .ok (.ireturn, 1) := by decide +kernel
set_option maxRecDepth 20000 in
theorem ggX5_call_X5_checkReferee : GoodIn wsX5_call wsX5_checkReferee := goodIn_ca (goodIn_r _ [9, 10, 11] (by decide +kernel) (by decide +kernel)) (goodIn_sub (fun _ h => List.mem_cons_of_mem _ (List.mem_append_right _ h)) (by decide +kernel))
set_option maxRecDepth 20000 in
theorem gX5_call_X5_checkReferee : GoodIn wsX5_call (va_wsS RX5 61 yX5_checkReferee wsX5_checkReferee) := goodIn_app (goodIn_of _ (by decide +kernel)) ggX5_call_X5_checkReferee
set_option maxRecDepth 20000 in
theorem ggX5_call_X5_checkPlayer : GoodIn wsX5_call wsX5_checkPlayer := goodIn_ca (goodIn_r _ [14, 10, 11] (by decide +kernel) (by decide +kernel)) (goodIn_sub (fun _ h => List.mem_cons_of_mem _ (List.mem_append_right _ h)) (by decide +kernel))
set_option maxRecDepth 20000 in
theorem gX5_call_X5_checkPlayer : GoodIn wsX5_call (va_wsS RX5 76 yX5_checkPlayer wsX5_checkPlayer) := goodIn_app (goodIn_of _ (by decide +kernel)) ggX5_call_X5_checkPlayer
set_option maxRecDepth 20000 in
theorem ggX5_call_X5_checkRound : GoodIn wsX5_call wsX5_checkRound := goodIn_ca (goodIn_r _ [18, 1, 2, 3, 19, 20, 21, 22, 23, 24, 69, 70, 71, 72, 73, 74, 75, 76, 77, 78, 79, 80] (by decide +kernel) (by decide +kernel)) (goodIn_sub (fun _ h => List.mem_cons_of_mem _ (List.mem_append_left _ (List.mem_append_right _ h))) (by decide +kernel))
set_option maxRecDepth 20000 in
theorem gX5_call_X5_checkRound : GoodIn wsX5_call (wsV RX5 79 RX5 yX5_checkRound wsX5_checkRound) := goodIn_app (goodIn_of _ (by decide +kernel)) ggX5_call_X5_checkRound
set_option maxRecDepth 20000 in
theorem ggX5_call_X2_cellOf : GoodIn wsX5_call wsX2_cellOf := goodIn_r _ [28, 29, 73, 74, 75, 76, 77, 78, 79, 80] (by decide +kernel) (by decide +kernel)
set_option maxRecDepth 20000 in
theorem gX5_call_X2_cellOf : GoodIn wsX5_call (wsV RX5 82 RX2 yX2_cellOf wsX2_cellOf) := goodIn_app (goodIn_of _ (by decide +kernel)) ggX5_call_X2_cellOf
set_option maxRecDepth 20000 in
theorem ggX5_call_X1_hasSight : GoodIn wsX5_call wsX1_hasSight := goodIn_r _ [34, 35, 36, 37, 38, 39, 40, 41, 42, 43, 44, 33, 45, 46, 47, 48, 81] (by decide +kernel) (by decide +kernel)
set_option maxRecDepth 20000 in
theorem gX5_call_X1_hasSight : GoodIn wsX5_call (wsV RX5 53 RX1 yX1_hasSight wsX1_hasSight) := goodIn_app (goodIn_of _ (by decide +kernel)) ggX5_call_X1_hasSight
set_option maxRecDepth 20000 in
theorem ggX5_call_X2_mayCall : GoodIn wsX5_call wsX2_mayCall := goodIn_r _ [52, 53, 54, 73, 74, 75, 76, 77, 78, 79, 80, 82, 83, 84, 85, 86] (by decide +kernel) (by decide +kernel)
set_option maxRecDepth 20000 in
theorem gX5_call_X2_mayCall : GoodIn wsX5_call (wsV RX5 124 RX2 yX2_mayCall wsX2_mayCall) := goodIn_app (goodIn_of _ (by decide +kernel)) ggX5_call_X2_mayCall
set_option maxRecDepth 20000 in
theorem ggX5_call_X2_callOut : GoodIn wsX5_call wsX2_callOut := goodIn_r _ [58, 53, 29, 24, 59, 60, 61, 62, 63, 64, 65, 66, 67, 68, 73, 74, 75, 76, 77, 78, 79, 80, 82, 83, 84, 85, 86] (by decide +kernel) (by decide +kernel)
set_option maxRecDepth 20000 in
theorem gX5_call_X2_callOut : GoodIn wsX5_call (wsV RX5 129 RX2 yX2_callOut wsX2_callOut) := goodIn_app (goodIn_of _ (by decide +kernel)) ggX5_call_X2_callOut
theorem dX5_call_0 : decode cX5_call 0 = .ok (.iload_n 1, 1) := by decide +kernel
theorem dX5_call_1 : decode cX5_call 1 = .ok (.invokestatic 61, 3) := by decide +kernel
theorem dX5_call_4 : decode cX5_call 4 = .ok (.iload_n 2, 1) := by decide +kernel
theorem dX5_call_5 : decode cX5_call 5 = .ok (.invokestatic 76, 3) := by decide +kernel
theorem dX5_call_8 : decode cX5_call 8 = .ok (.aload_n 0, 1) := by decide +kernel
theorem dX5_call_9 : decode cX5_call 9 = .ok (.invokevirtual 79, 3) := by decide +kernel
theorem dX5_call_12 : decode cX5_call 12 = .ok (.aload_n 0, 1) := by decide +kernel
theorem dX5_call_13 : decode cX5_call 13 = .ok (.getfield 19, 3) := by decide +kernel
theorem dX5_call_16 : decode cX5_call 16 = .ok (.iload_n 2, 1) := by decide +kernel
theorem dX5_call_17 : decode cX5_call 17 = .ok (.invokevirtual 82, 3) := by decide +kernel
theorem dX5_call_20 : decode cX5_call 20 = .ok (.istore_n 3, 1) := by decide +kernel
theorem dX5_call_21 : decode cX5_call 21 = .ok (.iload_n 3, 1) := by decide +kernel
theorem dX5_call_22 : decode cX5_call 22 = .ok (.ifCond .ge 13, 3) := by decide +kernel
theorem dX5_call_25 : decode cX5_call 25 = .ok (.new 42, 3) := by decide +kernel
theorem dX5_call_28 : decode cX5_call 28 = .ok (.dup, 1) := by decide +kernel
theorem dX5_call_29 : decode cX5_call 29 = .ok (.ldc 104, 2) := by decide +kernel
theorem dX5_call_31 : decode cX5_call 31 = .ok (.invokespecial 46, 3) := by decide +kernel
theorem dX5_call_34 : decode cX5_call 34 = .ok (.athrow, 1) := by decide +kernel
theorem dX5_call_35 : decode cX5_call 35 = .ok (.aload_n 0, 1) := by decide +kernel
theorem dX5_call_36 : decode cX5_call 36 = .ok (.getfield 12, 3) := by decide +kernel
theorem dX5_call_39 : decode cX5_call 39 = .ok (.aload_n 0, 1) := by decide +kernel
theorem dX5_call_40 : decode cX5_call 40 = .ok (.getfield 30, 3) := by decide +kernel
theorem dX5_call_43 : decode cX5_call 43 = .ok (.iload_n 1, 1) := by decide +kernel
theorem dX5_call_44 : decode cX5_call 44 = .ok (.iaload, 1) := by decide +kernel
theorem dX5_call_45 : decode cX5_call 45 = .ok (.iload_n 3, 1) := by decide +kernel
theorem dX5_call_46 : decode cX5_call 46 = .ok (.invokevirtual 53, 3) := by decide +kernel
theorem dX5_call_49 : decode cX5_call 49 = .ok (.ifCond .ne 13, 3) := by decide +kernel
theorem dX5_call_52 : decode cX5_call 52 = .ok (.new 42, 3) := by decide +kernel
theorem dX5_call_55 : decode cX5_call 55 = .ok (.dup, 1) := by decide +kernel
theorem dX5_call_56 : decode cX5_call 56 = .ok (.ldc 122, 2) := by decide +kernel
theorem dX5_call_58 : decode cX5_call 58 = .ok (.invokespecial 46, 3) := by decide +kernel
theorem dX5_call_61 : decode cX5_call 61 = .ok (.athrow, 1) := by decide +kernel
theorem dX5_call_62 : decode cX5_call 62 = .ok (.aload_n 0, 1) := by decide +kernel
theorem dX5_call_63 : decode cX5_call 63 = .ok (.getfield 19, 3) := by decide +kernel
theorem dX5_call_66 : decode cX5_call 66 = .ok (.invokevirtual 124, 3) := by decide +kernel
theorem dX5_call_69 : decode cX5_call 69 = .ok (.ifCond .ne 13, 3) := by decide +kernel
theorem dX5_call_72 : decode cX5_call 72 = .ok (.new 42, 3) := by decide +kernel
theorem dX5_call_75 : decode cX5_call 75 = .ok (.dup, 1) := by decide +kernel
theorem dX5_call_76 : decode cX5_call 76 = .ok (.ldc 127, 2) := by decide +kernel
theorem dX5_call_78 : decode cX5_call 78 = .ok (.invokespecial 46, 3) := by decide +kernel
theorem dX5_call_81 : decode cX5_call 81 = .ok (.athrow, 1) := by decide +kernel
theorem dX5_call_82 : decode cX5_call 82 = .ok (.aload_n 0, 1) := by decide +kernel
theorem dX5_call_83 : decode cX5_call 83 = .ok (.getfield 19, 3) := by decide +kernel
theorem dX5_call_86 : decode cX5_call 86 = .ok (.iload_n 2, 1) := by decide +kernel
theorem dX5_call_87 : decode cX5_call 87 = .ok (.invokevirtual 129, 3) := by decide +kernel
theorem dX5_call_90 : decode cX5_call 90 = .ok (.ireturn, 1) := by decide +kernel
set_option maxRecDepth 20000 in
theorem ggX5_dispute_X2_hasCall : GoodIn wsX5_dispute wsX2_hasCall := goodIn_r _ [11, 12, 13, 48, 49, 50, 51, 52, 53, 54, 55, 56, 57, 58, 59, 60] (by decide +kernel) (by decide +kernel)
set_option maxRecDepth 20000 in
theorem gX5_dispute_X2_hasCall : GoodIn wsX5_dispute (wsV RX5 132 RX2 yX2_hasCall wsX2_hasCall) := goodIn_app (goodIn_of _ (by decide +kernel)) ggX5_dispute_X2_hasCall
set_option maxRecDepth 20000 in
theorem ggX5_dispute_X2_isDisputed : GoodIn wsX5_dispute wsX2_isDisputed := goodIn_r _ [17, 12, 18, 48, 49, 50, 51, 52, 53, 54, 55, 56, 57, 58, 59, 60] (by decide +kernel) (by decide +kernel)
set_option maxRecDepth 20000 in
theorem gX5_dispute_X2_isDisputed : GoodIn wsX5_dispute (wsV RX5 140 RX2 yX2_isDisputed wsX2_isDisputed) := goodIn_app (goodIn_of _ (by decide +kernel)) ggX5_dispute_X2_isDisputed
set_option maxRecDepth 20000 in
theorem ggX5_dispute_X2_judge : GoodIn wsX5_dispute wsX2_judge := goodIn_r _ [22, 12, 23, 18, 24, 25, 26, 27, 28, 29, 30, 10, 31, 48, 49, 50, 51, 52, 53, 54, 55, 56, 57, 58, 59, 60] (by decide +kernel) (by decide +kernel)
set_option maxRecDepth 20000 in
theorem gX5_dispute_X2_judge : GoodIn wsX5_dispute (wsV RX5 145 RX2 yX2_judge wsX2_judge) := goodIn_app (goodIn_of _ (by decide +kernel)) ggX5_dispute_X2_judge
set_option maxRecDepth 20000 in
theorem ggX5_dispute_X2_teamCalled : GoodIn wsX5_dispute wsX2_teamCalled := goodIn_r _ [35, 12, 23, 36, 37, 48, 49, 50, 51, 52, 53, 54, 55, 56, 57, 58, 59, 60] (by decide +kernel) (by decide +kernel)
set_option maxRecDepth 20000 in
theorem gX5_dispute_X2_teamCalled : GoodIn wsX5_dispute (wsV RX5 148 RX2 yX2_teamCalled wsX2_teamCalled) := goodIn_app (goodIn_of _ (by decide +kernel)) ggX5_dispute_X2_teamCalled
set_option maxRecDepth 20000 in
theorem ggX5_dispute_X4_fine : GoodIn wsX5_dispute wsX4_fine := goodIn_r _ [42, 43, 61, 62, 63, 64] (by decide +kernel) (by decide +kernel)
set_option maxRecDepth 20000 in
theorem gX5_dispute_X4_fine : GoodIn wsX5_dispute (wsV RX5 151 RX4 yX4_fine wsX4_fine) := goodIn_app (goodIn_of _ (by decide +kernel)) ggX5_dispute_X4_fine
theorem dX5_dispute_0 : decode cX5_dispute 0 = .ok (.aload_n 0, 1) := by decide +kernel
theorem dX5_dispute_1 : decode cX5_dispute 1 = .ok (.getfield 19, 3) := by decide +kernel
theorem dX5_dispute_4 : decode cX5_dispute 4 = .ok (.iload_n 1, 1) := by decide +kernel
theorem dX5_dispute_5 : decode cX5_dispute 5 = .ok (.invokevirtual 132, 3) := by decide +kernel
theorem dX5_dispute_8 : decode cX5_dispute 8 = .ok (.ifCond .ne 13, 3) := by decide +kernel
theorem dX5_dispute_11 : decode cX5_dispute 11 = .ok (.new 135, 3) := by decide +kernel
theorem dX5_dispute_14 : decode cX5_dispute 14 = .ok (.dup, 1) := by decide +kernel
theorem dX5_dispute_15 : decode cX5_dispute 15 = .ok (.ldc 137, 2) := by decide +kernel
theorem dX5_dispute_17 : decode cX5_dispute 17 = .ok (.invokespecial 139, 3) := by decide +kernel
theorem dX5_dispute_20 : decode cX5_dispute 20 = .ok (.athrow, 1) := by decide +kernel
theorem dX5_dispute_21 : decode cX5_dispute 21 = .ok (.aload_n 0, 1) := by decide +kernel
theorem dX5_dispute_22 : decode cX5_dispute 22 = .ok (.getfield 19, 3) := by decide +kernel
theorem dX5_dispute_25 : decode cX5_dispute 25 = .ok (.iload_n 1, 1) := by decide +kernel
theorem dX5_dispute_26 : decode cX5_dispute 26 = .ok (.invokevirtual 140, 3) := by decide +kernel
theorem dX5_dispute_29 : decode cX5_dispute 29 = .ok (.ifCond .eq 13, 3) := by decide +kernel
theorem dX5_dispute_32 : decode cX5_dispute 32 = .ok (.new 42, 3) := by decide +kernel
theorem dX5_dispute_35 : decode cX5_dispute 35 = .ok (.dup, 1) := by decide +kernel
theorem dX5_dispute_36 : decode cX5_dispute 36 = .ok (.ldc 143, 2) := by decide +kernel
theorem dX5_dispute_38 : decode cX5_dispute 38 = .ok (.invokespecial 46, 3) := by decide +kernel
theorem dX5_dispute_41 : decode cX5_dispute 41 = .ok (.athrow, 1) := by decide +kernel
theorem dX5_dispute_42 : decode cX5_dispute 42 = .ok (.aload_n 0, 1) := by decide +kernel
theorem dX5_dispute_43 : decode cX5_dispute 43 = .ok (.getfield 19, 3) := by decide +kernel
theorem dX5_dispute_46 : decode cX5_dispute 46 = .ok (.iload_n 1, 1) := by decide +kernel
theorem dX5_dispute_47 : decode cX5_dispute 47 = .ok (.invokevirtual 145, 3) := by decide +kernel
theorem dX5_dispute_50 : decode cX5_dispute 50 = .ok (.istore_n 2, 1) := by decide +kernel
theorem dX5_dispute_51 : decode cX5_dispute 51 = .ok (.iload_n 2, 1) := by decide +kernel
theorem dX5_dispute_52 : decode cX5_dispute 52 = .ok (.ifCond .eq 18, 3) := by decide +kernel
theorem dX5_dispute_55 : decode cX5_dispute 55 = .ok (.aload_n 0, 1) := by decide +kernel
theorem dX5_dispute_56 : decode cX5_dispute 56 = .ok (.getfield 26, 3) := by decide +kernel
theorem dX5_dispute_59 : decode cX5_dispute 59 = .ok (.aload_n 0, 1) := by decide +kernel
theorem dX5_dispute_60 : decode cX5_dispute 60 = .ok (.getfield 19, 3) := by decide +kernel
theorem dX5_dispute_63 : decode cX5_dispute 63 = .ok (.iload_n 1, 1) := by decide +kernel
theorem dX5_dispute_64 : decode cX5_dispute 64 = .ok (.invokevirtual 148, 3) := by decide +kernel
theorem dX5_dispute_67 : decode cX5_dispute 67 = .ok (.invokevirtual 151, 3) := by decide +kernel
theorem dX5_dispute_70 : decode cX5_dispute 70 = .ok (.iload_n 2, 1) := by decide +kernel
theorem dX5_dispute_71 : decode cX5_dispute 71 = .ok (.ireturn, 1) := by decide +kernel
set_option maxRecDepth 20000 in
theorem ggX5_end_X5_checkRound : GoodIn wsX5_end wsX5_checkRound := goodIn_ca (goodIn_r _ [7, 8, 9, 1, 10, 11, 12, 13, 14, 15, 62, 63, 64, 65, 66, 67, 68, 69, 70, 71, 72, 73] (by decide +kernel) (by decide +kernel)) (goodIn_sub (fun _ h => List.mem_cons_of_mem _ (List.mem_append_right _ h)) (by decide +kernel))
set_option maxRecDepth 20000 in
theorem gX5_end_X5_checkRound : GoodIn wsX5_end (wsV RX5 79 RX5 yX5_checkRound wsX5_checkRound) := goodIn_app (goodIn_of _ (by decide +kernel)) ggX5_end_X5_checkRound
set_option maxRecDepth 20000 in
theorem ggX5_end_X2_margin : GoodIn wsX5_end wsX2_margin := goodIn_r _ [19, 20, 21, 66, 67, 68, 69, 70, 71, 72, 73] (by decide +kernel) (by decide +kernel)
set_option maxRecDepth 20000 in
theorem gX5_end_X2_margin : GoodIn wsX5_end (wsV RX5 154 RX2 yX2_margin wsX2_margin) := goodIn_app (goodIn_of _ (by decide +kernel)) ggX5_end_X2_margin
set_option maxRecDepth 20000 in
theorem ggX5_end_X2_homeTeam : GoodIn wsX5_end wsX2_homeTeam := goodIn_r _ [25, 26, 66, 67, 68, 69, 70, 71, 72, 73] (by decide +kernel) (by decide +kernel)
set_option maxRecDepth 20000 in
theorem gX5_end_X2_homeTeam : GoodIn wsX5_end (wsV RX5 158 RX2 yX2_homeTeam wsX2_homeTeam) := goodIn_app (goodIn_of _ (by decide +kernel)) ggX5_end_X2_homeTeam
set_option maxRecDepth 20000 in
theorem ggX5_end_X2_awayTeam : GoodIn wsX5_end wsX2_awayTeam := goodIn_r _ [30, 31, 66, 67, 68, 69, 70, 71, 72, 73] (by decide +kernel) (by decide +kernel)
set_option maxRecDepth 20000 in
theorem gX5_end_X2_awayTeam : GoodIn wsX5_end (wsV RX5 161 RX2 yX2_awayTeam wsX2_awayTeam) := goodIn_app (goodIn_of _ (by decide +kernel)) ggX5_end_X2_awayTeam
set_option maxRecDepth 20000 in
theorem ggX5_end_X4_enter : GoodIn wsX5_end wsX4_enter := goodIn_r _ [36, 37, 38, 39, 40, 41, 35, 42, 43, 44, 45, 46, 47, 48, 74, 75, 76, 77] (by decide +kernel) (by decide +kernel)
set_option maxRecDepth 20000 in
theorem gX5_end_X4_enter : GoodIn wsX5_end (wsV RX5 164 RX4 yX4_enter wsX4_enter) := goodIn_app (goodIn_of _ (by decide +kernel)) ggX5_end_X4_enter
set_option maxRecDepth 20000 in
theorem ggX5_end_X2_close : GoodIn wsX5_end wsX2_close := goodIn_r _ [52, 15, 53, 54, 55, 13, 56, 20, 21, 57, 58, 59, 60, 61, 66, 67, 68, 69, 70, 71, 72, 73, 78, 79, 80, 81, 82, 83, 84, 85, 86, 87] (by decide +kernel) (by decide +kernel)
set_option maxRecDepth 20000 in
theorem gX5_end_X2_close : GoodIn wsX5_end (wsV RX5 168 RX2 yX2_close wsX2_close) := goodIn_app (goodIn_of _ (by decide +kernel)) ggX5_end_X2_close
theorem dX5_end_0 : decode cX5_end 0 = .ok (.aload_n 0, 1) := by decide +kernel
theorem dX5_end_1 : decode cX5_end 1 = .ok (.invokevirtual 79, 3) := by decide +kernel
theorem dX5_end_4 : decode cX5_end 4 = .ok (.aload_n 0, 1) := by decide +kernel
theorem dX5_end_5 : decode cX5_end 5 = .ok (.getfield 19, 3) := by decide +kernel
theorem dX5_end_8 : decode cX5_end 8 = .ok (.invokevirtual 154, 3) := by decide +kernel
theorem dX5_end_11 : decode cX5_end 11 = .ok (.istore_n 1, 1) := by decide +kernel
theorem dX5_end_12 : decode cX5_end 12 = .ok (.aload_n 0, 1) := by decide +kernel
theorem dX5_end_13 : decode cX5_end 13 = .ok (.getfield 26, 3) := by decide +kernel
theorem dX5_end_16 : decode cX5_end 16 = .ok (.aload_n 0, 1) := by decide +kernel
theorem dX5_end_17 : decode cX5_end 17 = .ok (.getfield 19, 3) := by decide +kernel
theorem dX5_end_20 : decode cX5_end 20 = .ok (.invokevirtual 158, 3) := by decide +kernel
theorem dX5_end_23 : decode cX5_end 23 = .ok (.aload_n 0, 1) := by decide +kernel
theorem dX5_end_24 : decode cX5_end 24 = .ok (.getfield 19, 3) := by decide +kernel
theorem dX5_end_27 : decode cX5_end 27 = .ok (.invokevirtual 161, 3) := by decide +kernel
theorem dX5_end_30 : decode cX5_end 30 = .ok (.iload_n 1, 1) := by decide +kernel
theorem dX5_end_31 : decode cX5_end 31 = .ok (.invokevirtual 164, 3) := by decide +kernel
theorem dX5_end_34 : decode cX5_end 34 = .ok (.aload_n 0, 1) := by decide +kernel
theorem dX5_end_35 : decode cX5_end 35 = .ok (.getfield 19, 3) := by decide +kernel
theorem dX5_end_38 : decode cX5_end 38 = .ok (.invokevirtual 168, 3) := by decide +kernel
theorem dX5_end_41 : decode cX5_end 41 = .ok (.iload_n 1, 1) := by decide +kernel
theorem dX5_end_42 : decode cX5_end 42 = .ok (.ireturn, 1) := by decide +kernel
set_option maxRecDepth 20000 in
theorem ggX5_tick_X2_time : GoodIn wsX5_tick wsX2_time := goodIn_r _ [6, 7, 12, 13, 14, 15, 16, 17, 18, 19] (by decide +kernel) (by decide +kernel)
set_option maxRecDepth 20000 in
theorem gX5_tick_X2_time : GoodIn wsX5_tick (wsV RX5 171 RX2 yX2_time wsX2_time) := goodIn_app (goodIn_of _ (by decide +kernel)) ggX5_tick_X2_time
theorem dX5_tick_0 : decode cX5_tick 0 = .ok (.aload_n 0, 1) := by decide +kernel
theorem dX5_tick_1 : decode cX5_tick 1 = .ok (.getfield 19, 3) := by decide +kernel
theorem dX5_tick_4 : decode cX5_tick 4 = .ok (.invokevirtual 171, 3) := by decide +kernel
theorem dX5_tick_7 : decode cX5_tick 7 = .ok (.ireturn, 1) := by decide +kernel
set_option maxRecDepth 20000 in
theorem ggX5_where_X5_checkPlayer : GoodIn wsX5_where wsX5_checkPlayer := goodIn_ca (goodIn_r _ [5, 6, 7] (by decide +kernel) (by decide +kernel)) (goodIn_sub (fun _ h => List.mem_cons_of_mem _ (List.mem_append_right _ h)) (by decide +kernel))
set_option maxRecDepth 20000 in
theorem gX5_where_X5_checkPlayer : GoodIn wsX5_where (va_wsS RX5 76 yX5_checkPlayer wsX5_checkPlayer) := goodIn_app (goodIn_of _ (by decide +kernel)) ggX5_where_X5_checkPlayer
set_option maxRecDepth 20000 in
theorem ggX5_where_X2_cellOf : GoodIn wsX5_where wsX2_cellOf := goodIn_r _ [12, 13, 18, 19, 20, 21, 22, 23, 24, 25] (by decide +kernel) (by decide +kernel)
set_option maxRecDepth 20000 in
theorem gX5_where_X2_cellOf : GoodIn wsX5_where (wsV RX5 82 RX2 yX2_cellOf wsX2_cellOf) := goodIn_app (goodIn_of _ (by decide +kernel)) ggX5_where_X2_cellOf
theorem dX5_where_0 : decode cX5_where 0 = .ok (.iload_n 1, 1) := by decide +kernel
theorem dX5_where_1 : decode cX5_where 1 = .ok (.invokestatic 76, 3) := by decide +kernel
theorem dX5_where_4 : decode cX5_where 4 = .ok (.aload_n 0, 1) := by decide +kernel
theorem dX5_where_5 : decode cX5_where 5 = .ok (.getfield 19, 3) := by decide +kernel
theorem dX5_where_8 : decode cX5_where 8 = .ok (.iload_n 1, 1) := by decide +kernel
theorem dX5_where_9 : decode cX5_where 9 = .ok (.invokevirtual 82, 3) := by decide +kernel
theorem dX5_where_12 : decode cX5_where 12 = .ok (.ireturn, 1) := by decide +kernel
set_option maxRecDepth 20000 in
theorem ggX5_hit_X5_checkPlayer : GoodIn wsX5_hit wsX5_checkPlayer := goodIn_ca (goodIn_r _ [5, 6, 7] (by decide +kernel) (by decide +kernel)) (goodIn_sub (fun _ h => List.mem_cons_of_mem _ (List.mem_append_right _ h)) (by decide +kernel))
set_option maxRecDepth 20000 in
theorem gX5_hit_X5_checkPlayer : GoodIn wsX5_hit (va_wsS RX5 76 yX5_checkPlayer wsX5_checkPlayer) := goodIn_app (goodIn_of _ (by decide +kernel)) ggX5_hit_X5_checkPlayer
set_option maxRecDepth 20000 in
theorem ggX5_hit_X2_hitOf : GoodIn wsX5_hit wsX2_hitOf := goodIn_r _ [12, 13, 18, 19, 20, 21, 22, 23, 24, 25] (by decide +kernel) (by decide +kernel)
set_option maxRecDepth 20000 in
theorem gX5_hit_X2_hitOf : GoodIn wsX5_hit (wsV RX5 174 RX2 yX2_hitOf wsX2_hitOf) := goodIn_app (goodIn_of _ (by decide +kernel)) ggX5_hit_X2_hitOf
theorem dX5_hit_0 : decode cX5_hit 0 = .ok (.iload_n 1, 1) := by decide +kernel
theorem dX5_hit_1 : decode cX5_hit 1 = .ok (.invokestatic 76, 3) := by decide +kernel
theorem dX5_hit_4 : decode cX5_hit 4 = .ok (.aload_n 0, 1) := by decide +kernel
theorem dX5_hit_5 : decode cX5_hit 5 = .ok (.getfield 19, 3) := by decide +kernel
theorem dX5_hit_8 : decode cX5_hit 8 = .ok (.iload_n 1, 1) := by decide +kernel
theorem dX5_hit_9 : decode cX5_hit 9 = .ok (.invokevirtual 174, 3) := by decide +kernel
theorem dX5_hit_12 : decode cX5_hit 12 = .ok (.ireturn, 1) := by decide +kernel
set_option maxRecDepth 20000 in
theorem ggX5_flying_X2_countFlying : GoodIn wsX5_flying wsX2_countFlying := goodIn_r _ [6, 7, 8, 9, 10, 15, 16, 17, 18, 19, 20, 21, 22, 23, 24, 25, 26, 27] (by decide +kernel) (by decide +kernel)
set_option maxRecDepth 20000 in
theorem gX5_flying_X2_countFlying : GoodIn wsX5_flying (wsV RX5 177 RX2 yX2_countFlying wsX2_countFlying) := goodIn_app (goodIn_of _ (by decide +kernel)) ggX5_flying_X2_countFlying
theorem dX5_flying_0 : decode cX5_flying 0 = .ok (.aload_n 0, 1) := by decide +kernel
theorem dX5_flying_1 : decode cX5_flying 1 = .ok (.getfield 19, 3) := by decide +kernel
theorem dX5_flying_4 : decode cX5_flying 4 = .ok (.invokevirtual 177, 3) := by decide +kernel
theorem dX5_flying_7 : decode cX5_flying 7 = .ok (.ireturn, 1) := by decide +kernel
set_option maxRecDepth 20000 in
theorem ggX5_points_X5_checkTeam : GoodIn wsX5_points wsX5_checkTeam := goodIn_ca (goodIn_r _ [5, 6, 7] (by decide +kernel) (by decide +kernel)) (goodIn_sub (fun _ h => List.mem_cons_of_mem _ (List.mem_append_right _ h)) (by decide +kernel))
set_option maxRecDepth 20000 in
theorem gX5_points_X5_checkTeam : GoodIn wsX5_points (va_wsS RX5 64 yX5_checkTeam wsX5_checkTeam) := goodIn_app (goodIn_of _ (by decide +kernel)) ggX5_points_X5_checkTeam
set_option maxRecDepth 20000 in
theorem ggX5_points_X4_pointsOf : GoodIn wsX5_points wsX4_pointsOf := goodIn_r _ [12, 13, 18, 19, 20, 21] (by decide +kernel) (by decide +kernel)
set_option maxRecDepth 20000 in
theorem gX5_points_X4_pointsOf : GoodIn wsX5_points (wsV RX5 180 RX4 yX4_pointsOf wsX4_pointsOf) := goodIn_app (goodIn_of _ (by decide +kernel)) ggX5_points_X4_pointsOf
theorem dX5_points_0 : decode cX5_points 0 = .ok (.iload_n 1, 1) := by decide +kernel
theorem dX5_points_1 : decode cX5_points 1 = .ok (.invokestatic 64, 3) := by decide +kernel
theorem dX5_points_4 : decode cX5_points 4 = .ok (.aload_n 0, 1) := by decide +kernel
theorem dX5_points_5 : decode cX5_points 5 = .ok (.getfield 26, 3) := by decide +kernel
theorem dX5_points_8 : decode cX5_points 8 = .ok (.iload_n 1, 1) := by decide +kernel
theorem dX5_points_9 : decode cX5_points 9 = .ok (.invokevirtual 180, 3) := by decide +kernel
theorem dX5_points_12 : decode cX5_points 12 = .ok (.ireturn, 1) := by decide +kernel
set_option maxRecDepth 20000 in
theorem ggX5_fines_X5_checkTeam : GoodIn wsX5_fines wsX5_checkTeam := goodIn_ca (goodIn_r _ [5, 6, 7] (by decide +kernel) (by decide +kernel)) (goodIn_sub (fun _ h => List.mem_cons_of_mem _ (List.mem_append_right _ h)) (by decide +kernel))
set_option maxRecDepth 20000 in
theorem gX5_fines_X5_checkTeam : GoodIn wsX5_fines (va_wsS RX5 64 yX5_checkTeam wsX5_checkTeam) := goodIn_app (goodIn_of _ (by decide +kernel)) ggX5_fines_X5_checkTeam
set_option maxRecDepth 20000 in
theorem ggX5_fines_X4_finesOf : GoodIn wsX5_fines wsX4_finesOf := goodIn_r _ [12, 13, 18, 19, 20, 21] (by decide +kernel) (by decide +kernel)
set_option maxRecDepth 20000 in
theorem gX5_fines_X4_finesOf : GoodIn wsX5_fines (wsV RX5 183 RX4 yX4_finesOf wsX4_finesOf) := goodIn_app (goodIn_of _ (by decide +kernel)) ggX5_fines_X4_finesOf
theorem dX5_fines_0 : decode cX5_fines 0 = .ok (.iload_n 1, 1) := by decide +kernel
theorem dX5_fines_1 : decode cX5_fines 1 = .ok (.invokestatic 64, 3) := by decide +kernel
theorem dX5_fines_4 : decode cX5_fines 4 = .ok (.aload_n 0, 1) := by decide +kernel
theorem dX5_fines_5 : decode cX5_fines 5 = .ok (.getfield 26, 3) := by decide +kernel
theorem dX5_fines_8 : decode cX5_fines 8 = .ok (.iload_n 1, 1) := by decide +kernel
theorem dX5_fines_9 : decode cX5_fines 9 = .ok (.invokevirtual 183, 3) := by decide +kernel
theorem dX5_fines_12 : decode cX5_fines 12 = .ok (.ireturn, 1) := by decide +kernel
set_option maxRecDepth 20000 in
theorem ggX5_difference_X5_checkTeam : GoodIn wsX5_difference wsX5_checkTeam := goodIn_ca (goodIn_r _ [5, 6, 7] (by decide +kernel) (by decide +kernel)) (goodIn_sub (fun _ h => List.mem_cons_of_mem _ (List.mem_append_right _ h)) (by decide +kernel))
set_option maxRecDepth 20000 in
theorem gX5_difference_X5_checkTeam : GoodIn wsX5_difference (va_wsS RX5 64 yX5_checkTeam wsX5_checkTeam) := goodIn_app (goodIn_of _ (by decide +kernel)) ggX5_difference_X5_checkTeam
set_option maxRecDepth 20000 in
theorem ggX5_difference_X4_differenceOf : GoodIn wsX5_difference wsX4_differenceOf := goodIn_r _ [12, 13, 18, 19, 20, 21] (by decide +kernel) (by decide +kernel)
set_option maxRecDepth 20000 in
theorem gX5_difference_X4_differenceOf : GoodIn wsX5_difference (wsV RX5 186 RX4 yX4_differenceOf wsX4_differenceOf) := goodIn_app (goodIn_of _ (by decide +kernel)) ggX5_difference_X4_differenceOf
theorem dX5_difference_0 : decode cX5_difference 0 = .ok (.iload_n 1, 1) := by decide +kernel
theorem dX5_difference_1 : decode cX5_difference 1 = .ok (.invokestatic 64, 3) := by decide +kernel
theorem dX5_difference_4 : decode cX5_difference 4 = .ok (.aload_n 0, 1) := by decide +kernel
theorem dX5_difference_5 : decode cX5_difference 5 = .ok (.getfield 26, 3) := by decide +kernel
theorem dX5_difference_8 : decode cX5_difference 8 = .ok (.iload_n 1, 1) := by decide +kernel
theorem dX5_difference_9 : decode cX5_difference 9 = .ok (.invokevirtual 186, 3) := by decide +kernel
theorem dX5_difference_12 : decode cX5_difference 12 = .ok (.ireturn, 1) := by decide +kernel
set_option maxRecDepth 20000 in
theorem ggX5_place_X5_checkTeam : GoodIn wsX5_place wsX5_checkTeam := goodIn_ca (goodIn_r _ [5, 6, 7] (by decide +kernel) (by decide +kernel)) (goodIn_sub (fun _ h => List.mem_cons_of_mem _ (List.mem_append_right _ h)) (by decide +kernel))
set_option maxRecDepth 20000 in
theorem gX5_place_X5_checkTeam : GoodIn wsX5_place (va_wsS RX5 64 yX5_checkTeam wsX5_checkTeam) := goodIn_app (goodIn_of _ (by decide +kernel)) ggX5_place_X5_checkTeam
set_option maxRecDepth 20000 in
theorem ggX5_place_X4_placeOf : GoodIn wsX5_place wsX4_placeOf := goodIn_r _ [12, 13, 14, 15, 11, 16, 17, 18, 19, 24, 25, 26, 27] (by decide +kernel) (by decide +kernel)
set_option maxRecDepth 20000 in
theorem gX5_place_X4_placeOf : GoodIn wsX5_place (wsV RX5 189 RX4 yX4_placeOf wsX4_placeOf) := goodIn_app (goodIn_of _ (by decide +kernel)) ggX5_place_X4_placeOf
theorem dX5_place_0 : decode cX5_place 0 = .ok (.iload_n 1, 1) := by decide +kernel
theorem dX5_place_1 : decode cX5_place 1 = .ok (.invokestatic 64, 3) := by decide +kernel
theorem dX5_place_4 : decode cX5_place 4 = .ok (.aload_n 0, 1) := by decide +kernel
theorem dX5_place_5 : decode cX5_place 5 = .ok (.getfield 26, 3) := by decide +kernel
theorem dX5_place_8 : decode cX5_place 8 = .ok (.iload_n 1, 1) := by decide +kernel
theorem dX5_place_9 : decode cX5_place 9 = .ok (.invokevirtual 189, 3) := by decide +kernel
theorem dX5_place_12 : decode cX5_place 12 = .ok (.ireturn, 1) := by decide +kernel
theorem dX5_checkCell_0 : decode cX5_checkCell 0 = .ok (.iload_n 0, 1) := by decide +kernel
theorem dX5_checkCell_1 : decode cX5_checkCell 1 = .ok (.ifCond .lt 10, 3) := by decide +kernel
theorem dX5_checkCell_4 : decode cX5_checkCell 4 = .ok (.iload_n 0, 1) := by decide +kernel
theorem dX5_checkCell_5 : decode cX5_checkCell 5 = .ok (.sipush 144, 3) := by decide +kernel
theorem dX5_checkCell_8 : decode cX5_checkCell 8 = .ok (.if_icmp .lt 13, 3) := by decide +kernel
theorem dX5_checkCell_11 : decode cX5_checkCell 11 = .ok (.new 135, 3) := by decide +kernel
theorem dX5_checkCell_14 : decode cX5_checkCell 14 = .ok (.dup, 1) := by decide +kernel
theorem dX5_checkCell_15 : decode cX5_checkCell 15 = .ok (.ldc 192, 2) := by decide +kernel
theorem dX5_checkCell_17 : decode cX5_checkCell 17 = .ok (.invokespecial 139, 3) := by decide +kernel
theorem dX5_checkCell_20 : decode cX5_checkCell 20 = .ok (.athrow, 1) := by decide +kernel
theorem dX5_checkCell_21 : decode cX5_checkCell 21 = .ok (.return_, 1) := by decide +kernel
theorem dX5_checkTeam_0 : decode cX5_checkTeam 0 = .ok (.iload_n 0, 1) := by decide +kernel
theorem dX5_checkTeam_1 : decode cX5_checkTeam 1 = .ok (.ifCond .lt 9, 3) := by decide +kernel
theorem dX5_checkTeam_4 : decode cX5_checkTeam 4 = .ok (.iload_n 0, 1) := by decide +kernel
theorem dX5_checkTeam_5 : decode cX5_checkTeam 5 = .ok (.bipush 6, 2) := by decide +kernel
theorem dX5_checkTeam_7 : decode cX5_checkTeam 7 = .ok (.if_icmp .lt 13, 3) := by decide +kernel
theorem dX5_checkTeam_10 : decode cX5_checkTeam 10 = .ok (.new 135, 3) := by decide +kernel
theorem dX5_checkTeam_13 : decode cX5_checkTeam 13 = .ok (.dup, 1) := by decide +kernel
theorem dX5_checkTeam_14 : decode cX5_checkTeam 14 = .ok (.ldc 194, 2) := by decide +kernel
theorem dX5_checkTeam_16 : decode cX5_checkTeam 16 = .ok (.invokespecial 139, 3) := by decide +kernel
theorem dX5_checkTeam_19 : decode cX5_checkTeam 19 = .ok (.athrow, 1) := by decide +kernel
theorem dX5_checkTeam_20 : decode cX5_checkTeam 20 = .ok (.return_, 1) := by decide +kernel
theorem dX5_checkPlayer_0 : decode cX5_checkPlayer 0 = .ok (.iload_n 0, 1) := by decide +kernel
theorem dX5_checkPlayer_1 : decode cX5_checkPlayer 1 = .ok (.ifCond .lt 9, 3) := by decide +kernel
theorem dX5_checkPlayer_4 : decode cX5_checkPlayer 4 = .ok (.iload_n 0, 1) := by decide +kernel
theorem dX5_checkPlayer_5 : decode cX5_checkPlayer 5 = .ok (.bipush 6, 2) := by decide +kernel
theorem dX5_checkPlayer_7 : decode cX5_checkPlayer 7 = .ok (.if_icmp .lt 13, 3) := by decide +kernel
theorem dX5_checkPlayer_10 : decode cX5_checkPlayer 10 = .ok (.new 135, 3) := by decide +kernel
theorem dX5_checkPlayer_13 : decode cX5_checkPlayer 13 = .ok (.dup, 1) := by decide +kernel
theorem dX5_checkPlayer_14 : decode cX5_checkPlayer 14 = .ok (.ldc 196, 2) := by decide +kernel
theorem dX5_checkPlayer_16 : decode cX5_checkPlayer 16 = .ok (.invokespecial 139, 3) := by decide +kernel
theorem dX5_checkPlayer_19 : decode cX5_checkPlayer 19 = .ok (.athrow, 1) := by decide +kernel
theorem dX5_checkPlayer_20 : decode cX5_checkPlayer 20 = .ok (.return_, 1) := by decide +kernel
theorem dX5_checkReferee_0 : decode cX5_checkReferee 0 = .ok (.iload_n 0, 1) := by decide +kernel
theorem dX5_checkReferee_1 : decode cX5_checkReferee 1 = .ok (.ifCond .lt 8, 3) := by decide +kernel
theorem dX5_checkReferee_4 : decode cX5_checkReferee 4 = .ok (.iload_n 0, 1) := by decide +kernel
theorem dX5_checkReferee_5 : decode cX5_checkReferee 5 = .ok (.iconst 2, 1) := by decide +kernel
theorem dX5_checkReferee_6 : decode cX5_checkReferee 6 = .ok (.if_icmp .lt 13, 3) := by decide +kernel
theorem dX5_checkReferee_9 : decode cX5_checkReferee 9 = .ok (.new 135, 3) := by decide +kernel
theorem dX5_checkReferee_12 : decode cX5_checkReferee 12 = .ok (.dup, 1) := by decide +kernel
theorem dX5_checkReferee_13 : decode cX5_checkReferee 13 = .ok (.ldc 198, 2) := by decide +kernel
theorem dX5_checkReferee_15 : decode cX5_checkReferee 15 = .ok (.invokespecial 139, 3) := by decide +kernel
theorem dX5_checkReferee_18 : decode cX5_checkReferee 18 = .ok (.athrow, 1) := by decide +kernel
theorem dX5_checkReferee_19 : decode cX5_checkReferee 19 = .ok (.return_, 1) := by decide +kernel
set_option maxRecDepth 20000 in
theorem ggX5_checkRound_X2_isPlayed : GoodIn wsX5_checkRound wsX2_isPlayed := goodIn_r _ [8, 9, 14, 15, 16, 17, 18, 19, 20, 21] (by decide +kernel) (by decide +kernel)
set_option maxRecDepth 20000 in
theorem gX5_checkRound_X2_isPlayed : GoodIn wsX5_checkRound (wsV RX5 38 RX2 yX2_isPlayed wsX2_isPlayed) := goodIn_app (goodIn_of _ (by decide +kernel)) ggX5_checkRound_X2_isPlayed
theorem dX5_checkRound_0 : decode cX5_checkRound 0 = .ok (.aload_n 0, 1) := by decide +kernel
theorem dX5_checkRound_1 : decode cX5_checkRound 1 = .ok (.getfield 19, 3) := by decide +kernel
theorem dX5_checkRound_4 : decode cX5_checkRound 4 = .ok (.invokevirtual 38, 3) := by decide +kernel
theorem dX5_checkRound_7 : decode cX5_checkRound 7 = .ok (.ifCond .ne 13, 3) := by decide +kernel
theorem dX5_checkRound_10 : decode cX5_checkRound 10 = .ok (.new 42, 3) := by decide +kernel
theorem dX5_checkRound_13 : decode cX5_checkRound 13 = .ok (.dup, 1) := by decide +kernel
theorem dX5_checkRound_14 : decode cX5_checkRound 14 = .ok (.ldc 200, 2) := by decide +kernel
theorem dX5_checkRound_16 : decode cX5_checkRound 16 = .ok (.invokespecial 46, 3) := by decide +kernel
theorem dX5_checkRound_19 : decode cX5_checkRound 19 = .ok (.athrow, 1) := by decide +kernel
theorem dX5_checkRound_20 : decode cX5_checkRound 20 = .ok (.return_, 1) := by decide +kernel
theorem dX6_init_0 : decode cX6_init 0 = .ok (.aload_n 0, 1) := by decide +kernel
theorem dX6_init_1 : decode cX6_init 1 = .ok (.invokespecial 1, 3) := by decide +kernel
theorem dX6_init_4 : decode cX6_init 4 = .ok (.aload_n 0, 1) := by decide +kernel
theorem dX6_init_5 : decode cX6_init 5 = .ok (.sipush 144, 3) := by decide +kernel
theorem dX6_init_8 : decode cX6_init 8 = .ok (.newarray .boolean, 2) := by decide +kernel
theorem dX6_init_10 : decode cX6_init 10 = .ok (.putfield 7, 3) := by decide +kernel
theorem dX6_init_13 : decode cX6_init 13 = .ok (.aload_n 0, 1) := by decide +kernel
theorem dX6_init_14 : decode cX6_init 14 = .ok (.iconst 2, 1) := by decide +kernel
theorem dX6_init_15 : decode cX6_init 15 = .ok (.newarray .int, 2) := by decide +kernel
theorem dX6_init_17 : decode cX6_init 17 = .ok (.putfield 13, 3) := by decide +kernel
theorem dX6_init_20 : decode cX6_init 20 = .ok (.aload_n 0, 1) := by decide +kernel
theorem dX6_init_21 : decode cX6_init 21 = .ok (.bipush 6, 2) := by decide +kernel
theorem dX6_init_23 : decode cX6_init 23 = .ok (.newarray .int, 2) := by decide +kernel
theorem dX6_init_25 : decode cX6_init 25 = .ok (.putfield 17, 3) := by decide +kernel
theorem dX6_init_28 : decode cX6_init 28 = .ok (.aload_n 0, 1) := by decide +kernel
theorem dX6_init_29 : decode cX6_init 29 = .ok (.bipush 6, 2) := by decide +kernel
theorem dX6_init_31 : decode cX6_init 31 = .ok (.newarray .int, 2) := by decide +kernel
theorem dX6_init_33 : decode cX6_init 33 = .ok (.putfield 20, 3) := by decide +kernel
theorem dX6_init_36 : decode cX6_init 36 = .ok (.aload_n 0, 1) := by decide +kernel
theorem dX6_init_37 : decode cX6_init 37 = .ok (.bipush 6, 2) := by decide +kernel
theorem dX6_init_39 : decode cX6_init 39 = .ok (.newarray .int, 2) := by decide +kernel
theorem dX6_init_41 : decode cX6_init 41 = .ok (.putfield 23, 3) := by decide +kernel
theorem dX6_init_44 : decode cX6_init 44 = .ok (.aload_n 0, 1) := by decide +kernel
theorem dX6_init_45 : decode cX6_init 45 = .ok (.bipush 100, 2) := by decide +kernel
theorem dX6_init_47 : decode cX6_init 47 = .ok (.newarray .int, 2) := by decide +kernel
theorem dX6_init_49 : decode cX6_init 49 = .ok (.putfield 26, 3) := by decide +kernel
theorem dX6_init_52 : decode cX6_init 52 = .ok (.aload_n 0, 1) := by decide +kernel
theorem dX6_init_53 : decode cX6_init 53 = .ok (.bipush 100, 2) := by decide +kernel
theorem dX6_init_55 : decode cX6_init 55 = .ok (.newarray .int, 2) := by decide +kernel
theorem dX6_init_57 : decode cX6_init 57 = .ok (.putfield 29, 3) := by decide +kernel
theorem dX6_init_60 : decode cX6_init 60 = .ok (.aload_n 0, 1) := by decide +kernel
theorem dX6_init_61 : decode cX6_init 61 = .ok (.bipush 100, 2) := by decide +kernel
theorem dX6_init_63 : decode cX6_init 63 = .ok (.newarray .int, 2) := by decide +kernel
theorem dX6_init_65 : decode cX6_init 65 = .ok (.putfield 32, 3) := by decide +kernel
theorem dX6_init_68 : decode cX6_init 68 = .ok (.aload_n 0, 1) := by decide +kernel
theorem dX6_init_69 : decode cX6_init 69 = .ok (.bipush 100, 2) := by decide +kernel
theorem dX6_init_71 : decode cX6_init 71 = .ok (.newarray .int, 2) := by decide +kernel
theorem dX6_init_73 : decode cX6_init 73 = .ok (.putfield 35, 3) := by decide +kernel
theorem dX6_init_76 : decode cX6_init 76 = .ok (.aload_n 0, 1) := by decide +kernel
theorem dX6_init_77 : decode cX6_init 77 = .ok (.sipush 4096, 3) := by decide +kernel
theorem dX6_init_80 : decode cX6_init 80 = .ok (.newarray .int, 2) := by decide +kernel
theorem dX6_init_82 : decode cX6_init 82 = .ok (.putfield 38, 3) := by decide +kernel
theorem dX6_init_85 : decode cX6_init 85 = .ok (.aload_n 0, 1) := by decide +kernel
theorem dX6_init_86 : decode cX6_init 86 = .ok (.sipush 4096, 3) := by decide +kernel
theorem dX6_init_89 : decode cX6_init 89 = .ok (.newarray .int, 2) := by decide +kernel
theorem dX6_init_91 : decode cX6_init 91 = .ok (.putfield 41, 3) := by decide +kernel
theorem dX6_init_94 : decode cX6_init 94 = .ok (.aload_n 0, 1) := by decide +kernel
theorem dX6_init_95 : decode cX6_init 95 = .ok (.sipush 4096, 3) := by decide +kernel
theorem dX6_init_98 : decode cX6_init 98 = .ok (.newarray .int, 2) := by decide +kernel
theorem dX6_init_100 : decode cX6_init 100 = .ok (.putfield 44, 3) := by decide +kernel
theorem dX6_init_103 : decode cX6_init 103 = .ok (.aload_n 0, 1) := by decide +kernel
theorem dX6_init_104 : decode cX6_init 104 = .ok (.sipush 4096, 3) := by decide +kernel
theorem dX6_init_107 : decode cX6_init 107 = .ok (.newarray .boolean, 2) := by decide +kernel
theorem dX6_init_109 : decode cX6_init 109 = .ok (.putfield 47, 3) := by decide +kernel
theorem dX6_init_112 : decode cX6_init 112 = .ok (.aload_n 0, 1) := by decide +kernel
theorem dX6_init_113 : decode cX6_init 113 = .ok (.bipush 6, 2) := by decide +kernel
theorem dX6_init_115 : decode cX6_init 115 = .ok (.newarray .int, 2) := by decide +kernel
theorem dX6_init_117 : decode cX6_init 117 = .ok (.putfield 50, 3) := by decide +kernel
theorem dX6_init_120 : decode cX6_init 120 = .ok (.aload_n 0, 1) := by decide +kernel
theorem dX6_init_121 : decode cX6_init 121 = .ok (.bipush 6, 2) := by decide +kernel
theorem dX6_init_123 : decode cX6_init 123 = .ok (.newarray .int, 2) := by decide +kernel
theorem dX6_init_125 : decode cX6_init 125 = .ok (.putfield 53, 3) := by decide +kernel
theorem dX6_init_128 : decode cX6_init 128 = .ok (.aload_n 0, 1) := by decide +kernel
theorem dX6_init_129 : decode cX6_init 129 = .ok (.bipush 6, 2) := by decide +kernel
theorem dX6_init_131 : decode cX6_init 131 = .ok (.newarray .int, 2) := by decide +kernel
theorem dX6_init_133 : decode cX6_init 133 = .ok (.putfield 56, 3) := by decide +kernel
theorem dX6_init_136 : decode cX6_init 136 = .ok (.aload_n 0, 1) := by decide +kernel
theorem dX6_init_137 : decode cX6_init 137 = .ok (.bipush 36, 2) := by decide +kernel
theorem dX6_init_139 : decode cX6_init 139 = .ok (.newarray .int, 2) := by decide +kernel
theorem dX6_init_141 : decode cX6_init 141 = .ok (.putfield 59, 3) := by decide +kernel
theorem dX6_init_144 : decode cX6_init 144 = .ok (.aload_n 0, 1) := by decide +kernel
theorem dX6_init_145 : decode cX6_init 145 = .ok (.getfield 13, 3) := by decide +kernel
theorem dX6_init_148 : decode cX6_init 148 = .ok (.iconst 1, 1) := by decide +kernel
theorem dX6_init_149 : decode cX6_init 149 = .ok (.sipush 143, 3) := by decide +kernel
theorem dX6_init_152 : decode cX6_init 152 = .ok (.iastore, 1) := by decide +kernel
theorem dX6_init_153 : decode cX6_init 153 = .ok (.return_, 1) := by decide +kernel
theorem dX6_thrown_0 : decode cX6_thrown 0 = .ok (.aload_n 0, 1) := by decide +kernel
theorem dX6_thrown_1 : decode cX6_thrown 1 = .ok (.getfield 62, 3) := by decide +kernel
theorem dX6_thrown_4 : decode cX6_thrown 4 = .ok (.ireturn, 1) := by decide +kernel
theorem dX6_fails_0 : decode cX6_fails 0 = .ok (.aload_n 0, 1) := by decide +kernel
theorem dX6_fails_1 : decode cX6_fails 1 = .ok (.iload_n 1, 1) := by decide +kernel
theorem dX6_fails_2 : decode cX6_fails 2 = .ok (.putfield 62, 3) := by decide +kernel
theorem dX6_fails_5 : decode cX6_fails 5 = .ok (.iload_n 1, 1) := by decide +kernel
theorem dX6_fails_6 : decode cX6_fails 6 = .ok (.ifCond .le 7, 3) := by decide +kernel
theorem dX6_fails_9 : decode cX6_fails 9 = .ok (.iconst 1, 1) := by decide +kernel
theorem dX6_fails_10 : decode cX6_fails 10 = .ok (.goto 4, 3) := by decide +kernel
theorem dX6_fails_13 : decode cX6_fails 13 = .ok (.iconst 0, 1) := by decide +kernel
theorem dX6_fails_14 : decode cX6_fails 14 = .ok (.ireturn, 1) := by decide +kernel
theorem dX6_isIn_0 : decode cX6_isIn 0 = .ok (.iload_n 0, 1) := by decide +kernel
theorem dX6_isIn_1 : decode cX6_isIn 1 = .ok (.iload_n 1, 1) := by decide +kernel
theorem dX6_isIn_2 : decode cX6_isIn 2 = .ok (.if_icmp .lt 12, 3) := by decide +kernel
theorem dX6_isIn_5 : decode cX6_isIn 5 = .ok (.iload_n 0, 1) := by decide +kernel
theorem dX6_isIn_6 : decode cX6_isIn 6 = .ok (.iload_n 2, 1) := by decide +kernel
theorem dX6_isIn_7 : decode cX6_isIn 7 = .ok (.if_icmp .gt 7, 3) := by decide +kernel
theorem dX6_isIn_10 : decode cX6_isIn 10 = .ok (.iconst 1, 1) := by decide +kernel
theorem dX6_isIn_11 : decode cX6_isIn 11 = .ok (.goto 4, 3) := by decide +kernel
theorem dX6_isIn_14 : decode cX6_isIn 14 = .ok (.iconst 0, 1) := by decide +kernel
theorem dX6_isIn_15 : decode cX6_isIn 15 = .ok (.ireturn, 1) := by decide +kernel
set_option maxRecDepth 20000 in
theorem ggX6_isCell_X6_isIn : GoodIn wsX6_isCell wsX6_isIn := goodIn_r _ [4] (by decide +kernel) (by decide +kernel)
set_option maxRecDepth 20000 in
theorem gX6_isCell_X6_isIn : GoodIn wsX6_isCell (va_wsS RX6 66 yX6_isIn wsX6_isIn) := goodIn_app (goodIn_of _ (by decide +kernel)) ggX6_isCell_X6_isIn
theorem dX6_isCell_0 : decode cX6_isCell 0 = .ok (.iload_n 0, 1) := by decide +kernel
theorem dX6_isCell_1 : decode cX6_isCell 1 = .ok (.iconst 0, 1) := by decide +kernel
theorem dX6_isCell_2 : decode cX6_isCell 2 = .ok (.sipush 143, 3) := by decide +kernel
theorem dX6_isCell_5 : decode cX6_isCell 5 = .ok (.invokestatic 66, 3) := by decide +kernel
theorem dX6_isCell_8 : decode cX6_isCell 8 = .ok (.ireturn, 1) := by decide +kernel
set_option maxRecDepth 20000 in
theorem ggX6_isPlayer_X6_isIn : GoodIn wsX6_isPlayer wsX6_isIn := goodIn_r _ [4] (by decide +kernel) (by decide +kernel)
set_option maxRecDepth 20000 in
theorem gX6_isPlayer_X6_isIn : GoodIn wsX6_isPlayer (va_wsS RX6 66 yX6_isIn wsX6_isIn) := goodIn_app (goodIn_of _ (by decide +kernel)) ggX6_isPlayer_X6_isIn
theorem dX6_isPlayer_0 : decode cX6_isPlayer 0 = .ok (.iload_n 0, 1) := by decide +kernel
theorem dX6_isPlayer_1 : decode cX6_isPlayer 1 = .ok (.iconst 0, 1) := by decide +kernel
theorem dX6_isPlayer_2 : decode cX6_isPlayer 2 = .ok (.iconst 5, 1) := by decide +kernel
theorem dX6_isPlayer_3 : decode cX6_isPlayer 3 = .ok (.invokestatic 66, 3) := by decide +kernel
theorem dX6_isPlayer_6 : decode cX6_isPlayer 6 = .ok (.ireturn, 1) := by decide +kernel
set_option maxRecDepth 20000 in
theorem ggX6_isTeam_X6_isIn : GoodIn wsX6_isTeam wsX6_isIn := goodIn_r _ [4] (by decide +kernel) (by decide +kernel)
set_option maxRecDepth 20000 in
theorem gX6_isTeam_X6_isIn : GoodIn wsX6_isTeam (va_wsS RX6 66 yX6_isIn wsX6_isIn) := goodIn_app (goodIn_of _ (by decide +kernel)) ggX6_isTeam_X6_isIn
theorem dX6_isTeam_0 : decode cX6_isTeam 0 = .ok (.iload_n 0, 1) := by decide +kernel
theorem dX6_isTeam_1 : decode cX6_isTeam 1 = .ok (.iconst 0, 1) := by decide +kernel
theorem dX6_isTeam_2 : decode cX6_isTeam 2 = .ok (.iconst 5, 1) := by decide +kernel
theorem dX6_isTeam_3 : decode cX6_isTeam 3 = .ok (.invokestatic 66, 3) := by decide +kernel
theorem dX6_isTeam_6 : decode cX6_isTeam 6 = .ok (.ireturn, 1) := by decide +kernel
theorem dX6_side_0 : decode cX6_side 0 = .ok (.iconst 2, 1) := by decide +kernel
theorem dX6_side_1 : decode cX6_side 1 = .ok (.iload_n 0, 1) := by decide +kernel
theorem dX6_side_2 : decode cX6_side 2 = .ok (.bipush 12, 2) := by decide +kernel
theorem dX6_side_4 : decode cX6_side 4 = .ok (.irem, 1) := by decide +kernel
theorem dX6_side_5 : decode cX6_side 5 = .ok (.imul, 1) := by decide +kernel
theorem dX6_side_6 : decode cX6_side 6 = .ok (.iconst 1, 1) := by decide +kernel
theorem dX6_side_7 : decode cX6_side 7 = .ok (.iadd, 1) := by decide +kernel
theorem dX6_side_8 : decode cX6_side 8 = .ok (.istore 4, 2) := by decide +kernel
theorem dX6_side_10 : decode cX6_side 10 = .ok (.iconst 2, 1) := by decide +kernel
theorem dX6_side_11 : decode cX6_side 11 = .ok (.iload_n 0, 1) := by decide +kernel
theorem dX6_side_12 : decode cX6_side 12 = .ok (.bipush 12, 2) := by decide +kernel
theorem dX6_side_14 : decode cX6_side 14 = .ok (.idiv, 1) := by decide +kernel
theorem dX6_side_15 : decode cX6_side 15 = .ok (.imul, 1) := by decide +kernel
theorem dX6_side_16 : decode cX6_side 16 = .ok (.iconst 1, 1) := by decide +kernel
theorem dX6_side_17 : decode cX6_side 17 = .ok (.iadd, 1) := by decide +kernel
theorem dX6_side_18 : decode cX6_side 18 = .ok (.istore 5, 2) := by decide +kernel
theorem dX6_side_20 : decode cX6_side 20 = .ok (.iconst 2, 1) := by decide +kernel
theorem dX6_side_21 : decode cX6_side 21 = .ok (.iload_n 1, 1) := by decide +kernel
theorem dX6_side_22 : decode cX6_side 22 = .ok (.bipush 12, 2) := by decide +kernel
theorem dX6_side_24 : decode cX6_side 24 = .ok (.irem, 1) := by decide +kernel
theorem dX6_side_25 : decode cX6_side 25 = .ok (.imul, 1) := by decide +kernel
theorem dX6_side_26 : decode cX6_side 26 = .ok (.iconst 1, 1) := by decide +kernel
theorem dX6_side_27 : decode cX6_side 27 = .ok (.iadd, 1) := by decide +kernel
theorem dX6_side_28 : decode cX6_side 28 = .ok (.iload 4, 2) := by decide +kernel
theorem dX6_side_30 : decode cX6_side 30 = .ok (.isub, 1) := by decide +kernel
theorem dX6_side_31 : decode cX6_side 31 = .ok (.istore 6, 2) := by decide +kernel
theorem dX6_side_33 : decode cX6_side 33 = .ok (.iconst 2, 1) := by decide +kernel
theorem dX6_side_34 : decode cX6_side 34 = .ok (.iload_n 1, 1) := by decide +kernel
theorem dX6_side_35 : decode cX6_side 35 = .ok (.bipush 12, 2) := by decide +kernel
theorem dX6_side_37 : decode cX6_side 37 = .ok (.idiv, 1) := by decide +kernel
theorem dX6_side_38 : decode cX6_side 38 = .ok (.imul, 1) := by decide +kernel
theorem dX6_side_39 : decode cX6_side 39 = .ok (.iconst 1, 1) := by decide +kernel
theorem dX6_side_40 : decode cX6_side 40 = .ok (.iadd, 1) := by decide +kernel
theorem dX6_side_41 : decode cX6_side 41 = .ok (.iload 5, 2) := by decide +kernel
theorem dX6_side_43 : decode cX6_side 43 = .ok (.isub, 1) := by decide +kernel
theorem dX6_side_44 : decode cX6_side 44 = .ok (.istore 7, 2) := by decide +kernel
theorem dX6_side_46 : decode cX6_side 46 = .ok (.iload 6, 2) := by decide +kernel
theorem dX6_side_48 : decode cX6_side 48 = .ok (.iload_n 3, 1) := by decide +kernel
theorem dX6_side_49 : decode cX6_side 49 = .ok (.iload 5, 2) := by decide +kernel
theorem dX6_side_51 : decode cX6_side 51 = .ok (.isub, 1) := by decide +kernel
theorem dX6_side_52 : decode cX6_side 52 = .ok (.imul, 1) := by decide +kernel
theorem dX6_side_53 : decode cX6_side 53 = .ok (.iload 7, 2) := by decide +kernel
theorem dX6_side_55 : decode cX6_side 55 = .ok (.iload_n 2, 1) := by decide +kernel
theorem dX6_side_56 : decode cX6_side 56 = .ok (.iload 4, 2) := by decide +kernel
theorem dX6_side_58 : decode cX6_side 58 = .ok (.isub, 1) := by decide +kernel
theorem dX6_side_59 : decode cX6_side 59 = .ok (.imul, 1) := by decide +kernel
theorem dX6_side_60 : decode cX6_side 60 = .ok (.isub, 1) := by decide +kernel
theorem dX6_side_61 : decode cX6_side 61 = .ok (.istore 8, 2) := by decide +kernel
theorem dX6_side_63 : decode cX6_side 63 = .ok (.iload 8, 2) := by decide +kernel
theorem dX6_side_65 : decode cX6_side 65 = .ok (.ifCond .ge 7, 3) := by decide +kernel
theorem dX6_side_68 : decode cX6_side 68 = .ok (.iconst (-1), 1) := by decide +kernel
theorem dX6_side_69 : decode cX6_side 69 = .ok (.goto 13, 3) := by decide +kernel
theorem dX6_side_72 : decode cX6_side 72 = .ok (.iload 8, 2) := by decide +kernel
theorem dX6_side_74 : decode cX6_side 74 = .ok (.ifCond .le 7, 3) := by decide +kernel
theorem dX6_side_77 : decode cX6_side 77 = .ok (.iconst 1, 1) := by decide +kernel
theorem dX6_side_78 : decode cX6_side 78 = .ok (.goto 4, 3) := by decide +kernel
theorem dX6_side_81 : decode cX6_side 81 = .ok (.iconst 0, 1) := by decide +kernel
theorem dX6_side_82 : decode cX6_side 82 = .ok (.ireturn, 1) := by decide +kernel
set_option maxRecDepth 20000 in
theorem ggX6_isBetween_X6_isIn : GoodIn wsX6_isBetween wsX6_isIn := goodIn_r _ [4] (by decide +kernel) (by decide +kernel)
set_option maxRecDepth 20000 in
theorem gX6_isBetween_X6_isIn : GoodIn wsX6_isBetween (va_wsS RX6 66 yX6_isIn wsX6_isIn) := goodIn_app (goodIn_of _ (by decide +kernel)) ggX6_isBetween_X6_isIn
theorem dX6_isBetween_0 : decode cX6_isBetween 0 = .ok (.iload_n 0, 1) := by decide +kernel
theorem dX6_isBetween_1 : decode cX6_isBetween 1 = .ok (.iload_n 1, 1) := by decide +kernel
theorem dX6_isBetween_2 : decode cX6_isBetween 2 = .ok (.if_icmp .ge 12, 3) := by decide +kernel
theorem dX6_isBetween_5 : decode cX6_isBetween 5 = .ok (.iload_n 2, 1) := by decide +kernel
theorem dX6_isBetween_6 : decode cX6_isBetween 6 = .ok (.iload_n 0, 1) := by decide +kernel
theorem dX6_isBetween_7 : decode cX6_isBetween 7 = .ok (.iload_n 1, 1) := by decide +kernel
theorem dX6_isBetween_8 : decode cX6_isBetween 8 = .ok (.invokestatic 66, 3) := by decide +kernel
theorem dX6_isBetween_11 : decode cX6_isBetween 11 = .ok (.goto 9, 3) := by decide +kernel
theorem dX6_isBetween_14 : decode cX6_isBetween 14 = .ok (.iload_n 2, 1) := by decide +kernel
theorem dX6_isBetween_15 : decode cX6_isBetween 15 = .ok (.iload_n 1, 1) := by decide +kernel
theorem dX6_isBetween_16 : decode cX6_isBetween 16 = .ok (.iload_n 0, 1) := by decide +kernel
theorem dX6_isBetween_17 : decode cX6_isBetween 17 = .ok (.invokestatic 66, 3) := by decide +kernel
theorem dX6_isBetween_20 : decode cX6_isBetween 20 = .ok (.ireturn, 1) := by decide +kernel
set_option maxRecDepth 20000 in
theorem ggX6_leads_X6_isBetween : GoodIn wsX6_leads wsX6_isBetween := goodIn_r _ [4, 5, 6, 3, 7] (by decide +kernel) (by decide +kernel)
set_option maxRecDepth 20000 in
theorem gX6_leads_X6_isBetween : GoodIn wsX6_leads (va_wsS RX6 70 yX6_isBetween wsX6_isBetween) := goodIn_app (goodIn_of _ (by decide +kernel)) ggX6_leads_X6_isBetween
set_option maxRecDepth 20000 in
theorem ggX6_leads_X6_side : GoodIn wsX6_leads wsX6_side := goodIn_r _ [10] (by decide +kernel) (by decide +kernel)
set_option maxRecDepth 20000 in
theorem gX6_leads_X6_side : GoodIn wsX6_leads (va_wsS RX6 73 yX6_side wsX6_side) := goodIn_app (goodIn_of _ (by decide +kernel)) ggX6_leads_X6_side
theorem dX6_leads_0 : decode cX6_leads 0 = .ok (.iload_n 2, 1) := by decide +kernel
theorem dX6_leads_1 : decode cX6_leads 1 = .ok (.iload_n 0, 1) := by decide +kernel
theorem dX6_leads_2 : decode cX6_leads 2 = .ok (.if_icmp .eq 8, 3) := by decide +kernel
theorem dX6_leads_5 : decode cX6_leads 5 = .ok (.iload_n 2, 1) := by decide +kernel
theorem dX6_leads_6 : decode cX6_leads 6 = .ok (.iload_n 1, 1) := by decide +kernel
theorem dX6_leads_7 : decode cX6_leads 7 = .ok (.if_icmp .ne 5, 3) := by decide +kernel
theorem dX6_leads_10 : decode cX6_leads 10 = .ok (.iconst 1, 1) := by decide +kernel
theorem dX6_leads_11 : decode cX6_leads 11 = .ok (.ireturn, 1) := by decide +kernel
theorem dX6_leads_12 : decode cX6_leads 12 = .ok (.iload_n 0, 1) := by decide +kernel
theorem dX6_leads_13 : decode cX6_leads 13 = .ok (.bipush 12, 2) := by decide +kernel
theorem dX6_leads_15 : decode cX6_leads 15 = .ok (.irem, 1) := by decide +kernel
theorem dX6_leads_16 : decode cX6_leads 16 = .ok (.iload_n 1, 1) := by decide +kernel
theorem dX6_leads_17 : decode cX6_leads 17 = .ok (.bipush 12, 2) := by decide +kernel
theorem dX6_leads_19 : decode cX6_leads 19 = .ok (.irem, 1) := by decide +kernel
theorem dX6_leads_20 : decode cX6_leads 20 = .ok (.iload_n 2, 1) := by decide +kernel
theorem dX6_leads_21 : decode cX6_leads 21 = .ok (.bipush 12, 2) := by decide +kernel
theorem dX6_leads_23 : decode cX6_leads 23 = .ok (.irem, 1) := by decide +kernel
theorem dX6_leads_24 : decode cX6_leads 24 = .ok (.invokestatic 70, 3) := by decide +kernel
theorem dX6_leads_27 : decode cX6_leads 27 = .ok (.ifCond .eq 21, 3) := by decide +kernel
theorem dX6_leads_30 : decode cX6_leads 30 = .ok (.iload_n 0, 1) := by decide +kernel
theorem dX6_leads_31 : decode cX6_leads 31 = .ok (.bipush 12, 2) := by decide +kernel
theorem dX6_leads_33 : decode cX6_leads 33 = .ok (.idiv, 1) := by decide +kernel
theorem dX6_leads_34 : decode cX6_leads 34 = .ok (.iload_n 1, 1) := by decide +kernel
theorem dX6_leads_35 : decode cX6_leads 35 = .ok (.bipush 12, 2) := by decide +kernel
theorem dX6_leads_37 : decode cX6_leads 37 = .ok (.idiv, 1) := by decide +kernel
theorem dX6_leads_38 : decode cX6_leads 38 = .ok (.iload_n 2, 1) := by decide +kernel
theorem dX6_leads_39 : decode cX6_leads 39 = .ok (.bipush 12, 2) := by decide +kernel
theorem dX6_leads_41 : decode cX6_leads 41 = .ok (.idiv, 1) := by decide +kernel
theorem dX6_leads_42 : decode cX6_leads 42 = .ok (.invokestatic 70, 3) := by decide +kernel
theorem dX6_leads_45 : decode cX6_leads 45 = .ok (.ifCond .ne 5, 3) := by decide +kernel
theorem dX6_leads_48 : decode cX6_leads 48 = .ok (.iconst 0, 1) := by decide +kernel
theorem dX6_leads_49 : decode cX6_leads 49 = .ok (.ireturn, 1) := by decide +kernel
theorem dX6_leads_50 : decode cX6_leads 50 = .ok (.iconst 0, 1) := by decide +kernel
theorem dX6_leads_51 : decode cX6_leads 51 = .ok (.istore_n 3, 1) := by decide +kernel
theorem dX6_leads_52 : decode cX6_leads 52 = .ok (.iconst 0, 1) := by decide +kernel
theorem dX6_leads_53 : decode cX6_leads 53 = .ok (.istore 4, 2) := by decide +kernel
theorem dX6_leads_55 : decode cX6_leads 55 = .ok (.iconst 0, 1) := by decide +kernel
theorem dX6_leads_56 : decode cX6_leads 56 = .ok (.istore 5, 2) := by decide +kernel
theorem dX6_leads_58 : decode cX6_leads 58 = .ok (.iload 5, 2) := by decide +kernel
theorem dX6_leads_60 : decode cX6_leads 60 = .ok (.iconst 4, 1) := by decide +kernel
theorem dX6_leads_61 : decode cX6_leads 61 = .ok (.if_icmp .ge 74, 3) := by decide +kernel
theorem dX6_leads_64 : decode cX6_leads 64 = .ok (.iload_n 0, 1) := by decide +kernel
theorem dX6_leads_65 : decode cX6_leads 65 = .ok (.iload_n 1, 1) := by decide +kernel
theorem dX6_leads_66 : decode cX6_leads 66 = .ok (.iconst 2, 1) := by decide +kernel
theorem dX6_leads_67 : decode cX6_leads 67 = .ok (.iload_n 2, 1) := by decide +kernel
theorem dX6_leads_68 : decode cX6_leads 68 = .ok (.bipush 12, 2) := by decide +kernel
theorem dX6_leads_70 : decode cX6_leads 70 = .ok (.irem, 1) := by decide +kernel
theorem dX6_leads_71 : decode cX6_leads 71 = .ok (.imul, 1) := by decide +kernel
theorem dX6_leads_72 : decode cX6_leads 72 = .ok (.iconst 2, 1) := by decide +kernel
theorem dX6_leads_73 : decode cX6_leads 73 = .ok (.iload 5, 2) := by decide +kernel
theorem dX6_leads_75 : decode cX6_leads 75 = .ok (.iconst 2, 1) := by decide +kernel
theorem dX6_leads_76 : decode cX6_leads 76 = .ok (.irem, 1) := by decide +kernel
theorem dX6_leads_77 : decode cX6_leads 77 = .ok (.imul, 1) := by decide +kernel
theorem dX6_leads_78 : decode cX6_leads 78 = .ok (.iadd, 1) := by decide +kernel
theorem dX6_leads_79 : decode cX6_leads 79 = .ok (.iconst 2, 1) := by decide +kernel
theorem dX6_leads_80 : decode cX6_leads 80 = .ok (.iload_n 2, 1) := by decide +kernel
theorem dX6_leads_81 : decode cX6_leads 81 = .ok (.bipush 12, 2) := by decide +kernel
theorem dX6_leads_83 : decode cX6_leads 83 = .ok (.idiv, 1) := by decide +kernel
theorem dX6_leads_84 : decode cX6_leads 84 = .ok (.imul, 1) := by decide +kernel
theorem dX6_leads_85 : decode cX6_leads 85 = .ok (.iconst 2, 1) := by decide +kernel
theorem dX6_leads_86 : decode cX6_leads 86 = .ok (.iload 5, 2) := by decide +kernel
theorem dX6_leads_88 : decode cX6_leads 88 = .ok (.iconst 2, 1) := by decide +kernel
theorem dX6_leads_89 : decode cX6_leads 89 = .ok (.idiv, 1) := by decide +kernel
theorem dX6_leads_90 : decode cX6_leads 90 = .ok (.imul, 1) := by decide +kernel
theorem dX6_leads_91 : decode cX6_leads 91 = .ok (.iadd, 1) := by decide +kernel
theorem dX6_leads_92 : decode cX6_leads 92 = .ok (.invokestatic 73, 3) := by decide +kernel
theorem dX6_leads_95 : decode cX6_leads 95 = .ok (.istore 6, 2) := by decide +kernel
theorem dX6_leads_97 : decode cX6_leads 97 = .ok (.iload_n 3, 1) := by decide +kernel
theorem dX6_leads_98 : decode cX6_leads 98 = .ok (.ifCond .ne 8, 3) := by decide +kernel
theorem dX6_leads_101 : decode cX6_leads 101 = .ok (.iload 6, 2) := by decide +kernel
theorem dX6_leads_103 : decode cX6_leads 103 = .ok (.ifCond .le 7, 3) := by decide +kernel
theorem dX6_leads_106 : decode cX6_leads 106 = .ok (.iconst 1, 1) := by decide +kernel
theorem dX6_leads_107 : decode cX6_leads 107 = .ok (.goto 4, 3) := by decide +kernel
theorem dX6_leads_110 : decode cX6_leads 110 = .ok (.iconst 0, 1) := by decide +kernel
theorem dX6_leads_111 : decode cX6_leads 111 = .ok (.istore_n 3, 1) := by decide +kernel
theorem dX6_leads_112 : decode cX6_leads 112 = .ok (.iload 4, 2) := by decide +kernel
theorem dX6_leads_114 : decode cX6_leads 114 = .ok (.ifCond .ne 8, 3) := by decide +kernel
theorem dX6_leads_117 : decode cX6_leads 117 = .ok (.iload 6, 2) := by decide +kernel
theorem dX6_leads_119 : decode cX6_leads 119 = .ok (.ifCond .ge 7, 3) := by decide +kernel
theorem dX6_leads_122 : decode cX6_leads 122 = .ok (.iconst 1, 1) := by decide +kernel
theorem dX6_leads_123 : decode cX6_leads 123 = .ok (.goto 4, 3) := by decide +kernel
theorem dX6_leads_126 : decode cX6_leads 126 = .ok (.iconst 0, 1) := by decide +kernel
theorem dX6_leads_127 : decode cX6_leads 127 = .ok (.istore 4, 2) := by decide +kernel
theorem dX6_leads_129 : decode cX6_leads 129 = .ok (.iinc 5 1, 3) := by decide +kernel
theorem dX6_leads_132 : decode cX6_leads 132 = .ok (.goto (-74), 3) := by decide +kernel
theorem dX6_leads_135 : decode cX6_leads 135 = .ok (.iload_n 3, 1) := by decide +kernel
theorem dX6_leads_136 : decode cX6_leads 136 = .ok (.ifCond .eq 12, 3) := by decide +kernel
theorem dX6_leads_139 : decode cX6_leads 139 = .ok (.iload 4, 2) := by decide +kernel
theorem dX6_leads_141 : decode cX6_leads 141 = .ok (.ifCond .eq 7, 3) := by decide +kernel
theorem dX6_leads_144 : decode cX6_leads 144 = .ok (.iconst 1, 1) := by decide +kernel
theorem dX6_leads_145 : decode cX6_leads 145 = .ok (.goto 4, 3) := by decide +kernel
theorem dX6_leads_148 : decode cX6_leads 148 = .ok (.iconst 0, 1) := by decide +kernel
theorem dX6_leads_149 : decode cX6_leads 149 = .ok (.ireturn, 1) := by decide +kernel
set_option maxRecDepth 20000 in
theorem ggX6_see_X6_leads : GoodIn wsX6_see wsX6_leads := goodIn_r _ [5, 6, 7, 4, 8, 9, 10, 11, 12, 13, 14] (by decide +kernel) (by decide +kernel)
set_option maxRecDepth 20000 in
theorem gX6_see_X6_leads : GoodIn wsX6_see (va_wsS RX6 77 yX6_leads wsX6_leads) := goodIn_app (goodIn_of _ (by decide +kernel)) ggX6_see_X6_leads
theorem dX6_see_0 : decode cX6_see 0 = .ok (.iconst 1, 1) := by decide +kernel
theorem dX6_see_1 : decode cX6_see 1 = .ok (.istore_n 3, 1) := by decide +kernel
theorem dX6_see_2 : decode cX6_see 2 = .ok (.iconst 0, 1) := by decide +kernel
theorem dX6_see_3 : decode cX6_see 3 = .ok (.istore 4, 2) := by decide +kernel
theorem dX6_see_5 : decode cX6_see 5 = .ok (.iload 4, 2) := by decide +kernel
theorem dX6_see_7 : decode cX6_see 7 = .ok (.sipush 144, 3) := by decide +kernel
theorem dX6_see_10 : decode cX6_see 10 = .ok (.if_icmp .ge 39, 3) := by decide +kernel
theorem dX6_see_13 : decode cX6_see 13 = .ok (.iload_n 3, 1) := by decide +kernel
theorem dX6_see_14 : decode cX6_see 14 = .ok (.ifCond .eq 27, 3) := by decide +kernel
theorem dX6_see_17 : decode cX6_see 17 = .ok (.aload_n 0, 1) := by decide +kernel
theorem dX6_see_18 : decode cX6_see 18 = .ok (.getfield 7, 3) := by decide +kernel
theorem dX6_see_21 : decode cX6_see 21 = .ok (.iload 4, 2) := by decide +kernel
theorem dX6_see_23 : decode cX6_see 23 = .ok (.baload, 1) := by decide +kernel
theorem dX6_see_24 : decode cX6_see 24 = .ok (.ifCond .eq 13, 3) := by decide +kernel
theorem dX6_see_27 : decode cX6_see 27 = .ok (.iload_n 1, 1) := by decide +kernel
theorem dX6_see_28 : decode cX6_see 28 = .ok (.iload_n 2, 1) := by decide +kernel
theorem dX6_see_29 : decode cX6_see 29 = .ok (.iload 4, 2) := by decide +kernel
theorem dX6_see_31 : decode cX6_see 31 = .ok (.invokestatic 77, 3) := by decide +kernel
theorem dX6_see_34 : decode cX6_see 34 = .ok (.ifCond .ne 7, 3) := by decide +kernel
theorem dX6_see_37 : decode cX6_see 37 = .ok (.iconst 1, 1) := by decide +kernel
theorem dX6_see_38 : decode cX6_see 38 = .ok (.goto 4, 3) := by decide +kernel
theorem dX6_see_41 : decode cX6_see 41 = .ok (.iconst 0, 1) := by decide +kernel
theorem dX6_see_42 : decode cX6_see 42 = .ok (.istore_n 3, 1) := by decide +kernel
theorem dX6_see_43 : decode cX6_see 43 = .ok (.iinc 4 1, 3) := by decide +kernel
theorem dX6_see_46 : decode cX6_see 46 = .ok (.goto (-41), 3) := by decide +kernel
theorem dX6_see_49 : decode cX6_see 49 = .ok (.iload_n 3, 1) := by decide +kernel
theorem dX6_see_50 : decode cX6_see 50 = .ok (.ireturn, 1) := by decide +kernel
set_option maxRecDepth 20000 in
theorem ggX6_toggleBunker_X6_isCell : GoodIn wsX6_toggleBunker wsX6_isCell := goodIn_r _ [6, 7, 8, 5, 9] (by decide +kernel) (by decide +kernel)
set_option maxRecDepth 20000 in
theorem gX6_toggleBunker_X6_isCell : GoodIn wsX6_toggleBunker (va_wsS RX6 80 yX6_isCell wsX6_isCell) := goodIn_app (goodIn_of _ (by decide +kernel)) ggX6_toggleBunker_X6_isCell
set_option maxRecDepth 20000 in
theorem ggX6_toggleBunker_X6_fails : GoodIn wsX6_toggleBunker wsX6_fails := goodIn_r _ [13, 14, 15, 16, 17, 18, 19, 20, 21, 22, 23, 24, 25, 26, 27, 28, 29, 30, 31, 32, 33, 34, 35, 36, 37, 38] (by decide +kernel) (by decide +kernel)
set_option maxRecDepth 20000 in
theorem gX6_toggleBunker_X6_fails : GoodIn wsX6_toggleBunker (wsV RX6 88 RX6 yX6_fails wsX6_fails) := goodIn_app (goodIn_of _ (by decide +kernel)) ggX6_toggleBunker_X6_fails
theorem dX6_toggleBunker_0 : decode cX6_toggleBunker 0 = .ok (.aload_n 0, 1) := by decide +kernel
theorem dX6_toggleBunker_1 : decode cX6_toggleBunker 1 = .ok (.iload_n 1, 1) := by decide +kernel
theorem dX6_toggleBunker_2 : decode cX6_toggleBunker 2 = .ok (.invokestatic 80, 3) := by decide +kernel
theorem dX6_toggleBunker_5 : decode cX6_toggleBunker 5 = .ok (.ifCond .ne 7, 3) := by decide +kernel
theorem dX6_toggleBunker_8 : decode cX6_toggleBunker 8 = .ok (.iconst 1, 1) := by decide +kernel
theorem dX6_toggleBunker_9 : decode cX6_toggleBunker 9 = .ok (.goto 15, 3) := by decide +kernel
theorem dX6_toggleBunker_12 : decode cX6_toggleBunker 12 = .ok (.aload_n 0, 1) := by decide +kernel
theorem dX6_toggleBunker_13 : decode cX6_toggleBunker 13 = .ok (.getfield 84, 3) := by decide +kernel
theorem dX6_toggleBunker_16 : decode cX6_toggleBunker 16 = .ok (.ifCond .eq 7, 3) := by decide +kernel
theorem dX6_toggleBunker_19 : decode cX6_toggleBunker 19 = .ok (.iconst 2, 1) := by decide +kernel
theorem dX6_toggleBunker_20 : decode cX6_toggleBunker 20 = .ok (.goto 4, 3) := by decide +kernel
theorem dX6_toggleBunker_23 : decode cX6_toggleBunker 23 = .ok (.iconst 0, 1) := by decide +kernel
theorem dX6_toggleBunker_24 : decode cX6_toggleBunker 24 = .ok (.invokevirtual 88, 3) := by decide +kernel
theorem dX6_toggleBunker_27 : decode cX6_toggleBunker 27 = .ok (.ifCond .eq 5, 3) := by decide +kernel
theorem dX6_toggleBunker_30 : decode cX6_toggleBunker 30 = .ok (.iconst 0, 1) := by decide +kernel
theorem dX6_toggleBunker_31 : decode cX6_toggleBunker 31 = .ok (.ireturn, 1) := by decide +kernel
theorem dX6_toggleBunker_32 : decode cX6_toggleBunker 32 = .ok (.aload_n 0, 1) := by decide +kernel
theorem dX6_toggleBunker_33 : decode cX6_toggleBunker 33 = .ok (.getfield 7, 3) := by decide +kernel
theorem dX6_toggleBunker_36 : decode cX6_toggleBunker 36 = .ok (.iload_n 1, 1) := by decide +kernel
theorem dX6_toggleBunker_37 : decode cX6_toggleBunker 37 = .ok (.aload_n 0, 1) := by decide +kernel
theorem dX6_toggleBunker_38 : decode cX6_toggleBunker 38 = .ok (.getfield 7, 3) := by decide +kernel
theorem dX6_toggleBunker_41 : decode cX6_toggleBunker 41 = .ok (.iload_n 1, 1) := by decide +kernel
theorem dX6_toggleBunker_42 : decode cX6_toggleBunker 42 = .ok (.baload, 1) := by decide +kernel
theorem dX6_toggleBunker_43 : decode cX6_toggleBunker 43 = .ok (.ifCond .ne 7, 3) := by decide +kernel
theorem dX6_toggleBunker_46 : decode cX6_toggleBunker 46 = .ok (.iconst 1, 1) := by decide +kernel
theorem dX6_toggleBunker_47 : decode cX6_toggleBunker 47 = .ok (.goto 4, 3) := by decide +kernel
theorem dX6_toggleBunker_50 : decode cX6_toggleBunker 50 = .ok (.iconst 0, 1) := by decide +kernel
theorem dX6_toggleBunker_51 : decode cX6_toggleBunker 51 = .ok (.bastore, 1) := by decide +kernel
theorem dX6_toggleBunker_52 : decode cX6_toggleBunker 52 = .ok (.aload_n 0, 1) := by decide +kernel
theorem dX6_toggleBunker_53 : decode cX6_toggleBunker 53 = .ok (.getfield 7, 3) := by decide +kernel
theorem dX6_toggleBunker_56 : decode cX6_toggleBunker 56 = .ok (.iload_n 1, 1) := by decide +kernel
theorem dX6_toggleBunker_57 : decode cX6_toggleBunker 57 = .ok (.baload, 1) := by decide +kernel
theorem dX6_toggleBunker_58 : decode cX6_toggleBunker 58 = .ok (.ireturn, 1) := by decide +kernel
set_option maxRecDepth 20000 in
theorem ggX6_sees_X6_isCell : GoodIn wsX6_sees wsX6_isCell := goodIn_r _ [4, 5, 6, 3, 7] (by decide +kernel) (by decide +kernel)
set_option maxRecDepth 20000 in
theorem gX6_sees_X6_isCell : GoodIn wsX6_sees (va_wsS RX6 80 yX6_isCell wsX6_isCell) := goodIn_app (goodIn_of _ (by decide +kernel)) ggX6_sees_X6_isCell
set_option maxRecDepth 20000 in
theorem ggX6_sees_X6_fails : GoodIn wsX6_sees wsX6_fails := goodIn_r _ [11, 12, 27, 28, 29, 30, 31, 32, 33, 34, 35, 36, 37, 38, 39, 40, 41, 42, 43, 44, 45, 46, 47, 48, 49, 50] (by decide +kernel) (by decide +kernel)
set_option maxRecDepth 20000 in
theorem gX6_sees_X6_fails : GoodIn wsX6_sees (wsV RX6 88 RX6 yX6_fails wsX6_fails) := goodIn_app (goodIn_of _ (by decide +kernel)) ggX6_sees_X6_fails
set_option maxRecDepth 20000 in
theorem ggX6_sees_X6_see : GoodIn wsX6_sees wsX6_see := goodIn_r _ [16, 17, 18, 19, 3, 20, 21, 22, 23, 5, 6, 7, 24, 25, 26, 27, 28, 29, 30, 31, 32, 33, 34, 35, 36, 37, 38, 39, 40, 41, 42, 43, 44, 45, 46, 47, 48, 49, 50] (by decide +kernel) (by decide +kernel)
set_option maxRecDepth 20000 in
theorem gX6_sees_X6_see : GoodIn wsX6_sees (wsV RX6 91 RX6 yX6_see wsX6_see) := goodIn_app (goodIn_of _ (by decide +kernel)) ggX6_sees_X6_see
theorem dX6_sees_0 : decode cX6_sees 0 = .ok (.aload_n 0, 1) := by decide +kernel
theorem dX6_sees_1 : decode cX6_sees 1 = .ok (.iload_n 1, 1) := by decide +kernel
theorem dX6_sees_2 : decode cX6_sees 2 = .ok (.invokestatic 80, 3) := by decide +kernel
theorem dX6_sees_5 : decode cX6_sees 5 = .ok (.ifCond .eq 14, 3) := by decide +kernel
theorem dX6_sees_8 : decode cX6_sees 8 = .ok (.iload_n 2, 1) := by decide +kernel
theorem dX6_sees_9 : decode cX6_sees 9 = .ok (.invokestatic 80, 3) := by decide +kernel
theorem dX6_sees_12 : decode cX6_sees 12 = .ok (.ifCond .eq 7, 3) := by decide +kernel
theorem dX6_sees_15 : decode cX6_sees 15 = .ok (.iconst 0, 1) := by decide +kernel
theorem dX6_sees_16 : decode cX6_sees 16 = .ok (.goto 4, 3) := by decide +kernel
theorem dX6_sees_19 : decode cX6_sees 19 = .ok (.iconst 1, 1) := by decide +kernel
theorem dX6_sees_20 : decode cX6_sees 20 = .ok (.invokevirtual 88, 3) := by decide +kernel
theorem dX6_sees_23 : decode cX6_sees 23 = .ok (.ifCond .ne 16, 3) := by decide +kernel
theorem dX6_sees_26 : decode cX6_sees 26 = .ok (.aload_n 0, 1) := by decide +kernel
theorem dX6_sees_27 : decode cX6_sees 27 = .ok (.iload_n 1, 1) := by decide +kernel
theorem dX6_sees_28 : decode cX6_sees 28 = .ok (.iload_n 2, 1) := by decide +kernel
theorem dX6_sees_29 : decode cX6_sees 29 = .ok (.invokevirtual 91, 3) := by decide +kernel
theorem dX6_sees_32 : decode cX6_sees 32 = .ok (.ifCond .eq 7, 3) := by decide +kernel
theorem dX6_sees_35 : decode cX6_sees 35 = .ok (.iconst 1, 1) := by decide +kernel
theorem dX6_sees_36 : decode cX6_sees 36 = .ok (.goto 4, 3) := by decide +kernel
theorem dX6_sees_39 : decode cX6_sees 39 = .ok (.iconst 0, 1) := by decide +kernel
theorem dX6_sees_40 : decode cX6_sees 40 = .ok (.ireturn, 1) := by decide +kernel
set_option maxRecDepth 20000 in
theorem ggX6_view_X6_isCell : GoodIn wsX6_view wsX6_isCell := goodIn_r _ [4, 5, 6, 3, 7] (by decide +kernel) (by decide +kernel)
set_option maxRecDepth 20000 in
theorem gX6_view_X6_isCell : GoodIn wsX6_view (va_wsS RX6 80 yX6_isCell wsX6_isCell) := goodIn_app (goodIn_of _ (by decide +kernel)) ggX6_view_X6_isCell
set_option maxRecDepth 20000 in
theorem ggX6_view_X6_fails : GoodIn wsX6_view wsX6_fails := goodIn_r _ [11, 12, 27, 28, 29, 30, 31, 32, 33, 34, 35, 36, 37, 38, 39, 40, 41, 42, 43, 44, 45, 46, 47, 48, 49, 50] (by decide +kernel) (by decide +kernel)
set_option maxRecDepth 20000 in
theorem gX6_view_X6_fails : GoodIn wsX6_view (wsV RX6 88 RX6 yX6_fails wsX6_fails) := goodIn_app (goodIn_of _ (by decide +kernel)) ggX6_view_X6_fails
set_option maxRecDepth 20000 in
theorem ggX6_view_X6_see : GoodIn wsX6_view wsX6_see := goodIn_r _ [16, 17, 18, 19, 3, 20, 21, 22, 23, 5, 6, 7, 24, 25, 26, 27, 28, 29, 30, 31, 32, 33, 34, 35, 36, 37, 38, 39, 40, 41, 42, 43, 44, 45, 46, 47, 48, 49, 50] (by decide +kernel) (by decide +kernel)
set_option maxRecDepth 20000 in
theorem gX6_view_X6_see : GoodIn wsX6_view (wsV RX6 91 RX6 yX6_see wsX6_see) := goodIn_app (goodIn_of _ (by decide +kernel)) ggX6_view_X6_see
theorem dX6_view_0 : decode cX6_view 0 = .ok (.aload_n 0, 1) := by decide +kernel
theorem dX6_view_1 : decode cX6_view 1 = .ok (.iload_n 1, 1) := by decide +kernel
theorem dX6_view_2 : decode cX6_view 2 = .ok (.invokestatic 80, 3) := by decide +kernel
theorem dX6_view_5 : decode cX6_view 5 = .ok (.ifCond .eq 7, 3) := by decide +kernel
theorem dX6_view_8 : decode cX6_view 8 = .ok (.iconst 0, 1) := by decide +kernel
theorem dX6_view_9 : decode cX6_view 9 = .ok (.goto 4, 3) := by decide +kernel
theorem dX6_view_12 : decode cX6_view 12 = .ok (.iconst 1, 1) := by decide +kernel
theorem dX6_view_13 : decode cX6_view 13 = .ok (.invokevirtual 88, 3) := by decide +kernel
theorem dX6_view_16 : decode cX6_view 16 = .ok (.ifCond .eq 5, 3) := by decide +kernel
theorem dX6_view_19 : decode cX6_view 19 = .ok (.iconst 0, 1) := by decide +kernel
theorem dX6_view_20 : decode cX6_view 20 = .ok (.ireturn, 1) := by decide +kernel
theorem dX6_view_21 : decode cX6_view 21 = .ok (.iconst 0, 1) := by decide +kernel
theorem dX6_view_22 : decode cX6_view 22 = .ok (.istore_n 2, 1) := by decide +kernel
theorem dX6_view_23 : decode cX6_view 23 = .ok (.iconst 0, 1) := by decide +kernel
theorem dX6_view_24 : decode cX6_view 24 = .ok (.istore_n 3, 1) := by decide +kernel
theorem dX6_view_25 : decode cX6_view 25 = .ok (.iload_n 3, 1) := by decide +kernel
theorem dX6_view_26 : decode cX6_view 26 = .ok (.sipush 144, 3) := by decide +kernel
theorem dX6_view_29 : decode cX6_view 29 = .ok (.if_icmp .ge 26, 3) := by decide +kernel
theorem dX6_view_32 : decode cX6_view 32 = .ok (.iload_n 2, 1) := by decide +kernel
theorem dX6_view_33 : decode cX6_view 33 = .ok (.aload_n 0, 1) := by decide +kernel
theorem dX6_view_34 : decode cX6_view 34 = .ok (.iload_n 1, 1) := by decide +kernel
theorem dX6_view_35 : decode cX6_view 35 = .ok (.iload_n 3, 1) := by decide +kernel
theorem dX6_view_36 : decode cX6_view 36 = .ok (.invokevirtual 91, 3) := by decide +kernel
theorem dX6_view_39 : decode cX6_view 39 = .ok (.ifCond .eq 7, 3) := by decide +kernel
theorem dX6_view_42 : decode cX6_view 42 = .ok (.iconst 1, 1) := by decide +kernel
theorem dX6_view_43 : decode cX6_view 43 = .ok (.goto 4, 3) := by decide +kernel
theorem dX6_view_46 : decode cX6_view 46 = .ok (.iconst 0, 1) := by decide +kernel
theorem dX6_view_47 : decode cX6_view 47 = .ok (.iadd, 1) := by decide +kernel
theorem dX6_view_48 : decode cX6_view 48 = .ok (.istore_n 2, 1) := by decide +kernel
theorem dX6_view_49 : decode cX6_view 49 = .ok (.iinc 3 1, 3) := by decide +kernel
theorem dX6_view_52 : decode cX6_view 52 = .ok (.goto (-27), 3) := by decide +kernel
theorem dX6_view_55 : decode cX6_view 55 = .ok (.iload_n 2, 1) := by decide +kernel
theorem dX6_view_56 : decode cX6_view 56 = .ok (.ireturn, 1) := by decide +kernel
set_option maxRecDepth 20000 in
theorem ggX6_isReferee_X6_isIn : GoodIn wsX6_isReferee wsX6_isIn := goodIn_r _ [4] (by decide +kernel) (by decide +kernel)
set_option maxRecDepth 20000 in
theorem gX6_isReferee_X6_isIn : GoodIn wsX6_isReferee (va_wsS RX6 66 yX6_isIn wsX6_isIn) := goodIn_app (goodIn_of _ (by decide +kernel)) ggX6_isReferee_X6_isIn
theorem dX6_isReferee_0 : decode cX6_isReferee 0 = .ok (.iload_n 0, 1) := by decide +kernel
theorem dX6_isReferee_1 : decode cX6_isReferee 1 = .ok (.iconst 0, 1) := by decide +kernel
theorem dX6_isReferee_2 : decode cX6_isReferee 2 = .ok (.iconst 1, 1) := by decide +kernel
theorem dX6_isReferee_3 : decode cX6_isReferee 3 = .ok (.invokestatic 66, 3) := by decide +kernel
theorem dX6_isReferee_6 : decode cX6_isReferee 6 = .ok (.ireturn, 1) := by decide +kernel
set_option maxRecDepth 20000 in
theorem ggX6_setReferee_X6_isReferee : GoodIn wsX6_setReferee wsX6_isReferee := goodIn_r _ [5, 6, 7, 4, 8] (by decide +kernel) (by decide +kernel)
set_option maxRecDepth 20000 in
theorem gX6_setReferee_X6_isReferee : GoodIn wsX6_setReferee (va_wsS RX6 95 yX6_isReferee wsX6_isReferee) := goodIn_app (goodIn_of _ (by decide +kernel)) ggX6_setReferee_X6_isReferee
set_option maxRecDepth 20000 in
theorem ggX6_setReferee_X6_isCell : GoodIn wsX6_setReferee wsX6_isCell := goodIn_r _ [11, 6, 7, 4, 8] (by decide +kernel) (by decide +kernel)
set_option maxRecDepth 20000 in
theorem gX6_setReferee_X6_isCell : GoodIn wsX6_setReferee (va_wsS RX6 80 yX6_isCell wsX6_isCell) := goodIn_app (goodIn_of _ (by decide +kernel)) ggX6_setReferee_X6_isCell
set_option maxRecDepth 20000 in
theorem ggX6_setReferee_X6_fails : GoodIn wsX6_setReferee wsX6_fails := goodIn_r _ [15, 16, 17, 18, 19, 20, 21, 22, 23, 24, 25, 26, 27, 28, 29, 30, 31, 32, 33, 34, 35, 36, 37, 38, 39, 40] (by decide +kernel) (by decide +kernel)
set_option maxRecDepth 20000 in
theorem gX6_setReferee_X6_fails : GoodIn wsX6_setReferee (wsV RX6 88 RX6 yX6_fails wsX6_fails) := goodIn_app (goodIn_of _ (by decide +kernel)) ggX6_setReferee_X6_fails
theorem dX6_setReferee_0 : decode cX6_setReferee 0 = .ok (.aload_n 0, 1) := by decide +kernel
theorem dX6_setReferee_1 : decode cX6_setReferee 1 = .ok (.iload_n 1, 1) := by decide +kernel
theorem dX6_setReferee_2 : decode cX6_setReferee 2 = .ok (.invokestatic 95, 3) := by decide +kernel
theorem dX6_setReferee_5 : decode cX6_setReferee 5 = .ok (.ifCond .eq 14, 3) := by decide +kernel
theorem dX6_setReferee_8 : decode cX6_setReferee 8 = .ok (.iload_n 2, 1) := by decide +kernel
theorem dX6_setReferee_9 : decode cX6_setReferee 9 = .ok (.invokestatic 80, 3) := by decide +kernel
theorem dX6_setReferee_12 : decode cX6_setReferee 12 = .ok (.ifCond .eq 7, 3) := by decide +kernel
theorem dX6_setReferee_15 : decode cX6_setReferee 15 = .ok (.iconst 0, 1) := by decide +kernel
theorem dX6_setReferee_16 : decode cX6_setReferee 16 = .ok (.goto 4, 3) := by decide +kernel
theorem dX6_setReferee_19 : decode cX6_setReferee 19 = .ok (.iconst 1, 1) := by decide +kernel
theorem dX6_setReferee_20 : decode cX6_setReferee 20 = .ok (.invokevirtual 88, 3) := by decide +kernel
theorem dX6_setReferee_23 : decode cX6_setReferee 23 = .ok (.ifCond .eq 5, 3) := by decide +kernel
theorem dX6_setReferee_26 : decode cX6_setReferee 26 = .ok (.iconst 0, 1) := by decide +kernel
theorem dX6_setReferee_27 : decode cX6_setReferee 27 = .ok (.ireturn, 1) := by decide +kernel
theorem dX6_setReferee_28 : decode cX6_setReferee 28 = .ok (.aload_n 0, 1) := by decide +kernel
theorem dX6_setReferee_29 : decode cX6_setReferee 29 = .ok (.getfield 13, 3) := by decide +kernel
theorem dX6_setReferee_32 : decode cX6_setReferee 32 = .ok (.iload_n 1, 1) := by decide +kernel
theorem dX6_setReferee_33 : decode cX6_setReferee 33 = .ok (.iaload, 1) := by decide +kernel
theorem dX6_setReferee_34 : decode cX6_setReferee 34 = .ok (.istore_n 3, 1) := by decide +kernel
theorem dX6_setReferee_35 : decode cX6_setReferee 35 = .ok (.aload_n 0, 1) := by decide +kernel
theorem dX6_setReferee_36 : decode cX6_setReferee 36 = .ok (.getfield 13, 3) := by decide +kernel
theorem dX6_setReferee_39 : decode cX6_setReferee 39 = .ok (.iload_n 1, 1) := by decide +kernel
theorem dX6_setReferee_40 : decode cX6_setReferee 40 = .ok (.iload_n 2, 1) := by decide +kernel
theorem dX6_setReferee_41 : decode cX6_setReferee 41 = .ok (.iastore, 1) := by decide +kernel
theorem dX6_setReferee_42 : decode cX6_setReferee 42 = .ok (.iload_n 3, 1) := by decide +kernel
theorem dX6_setReferee_43 : decode cX6_setReferee 43 = .ok (.ireturn, 1) := by decide +kernel
set_option maxRecDepth 20000 in
theorem ggX6_begin_X6_isTeam : GoodIn wsX6_begin wsX6_isTeam := goodIn_r _ [13, 14, 15, 12, 16] (by decide +kernel) (by decide +kernel)
set_option maxRecDepth 20000 in
theorem gX6_begin_X6_isTeam : GoodIn wsX6_begin (va_wsS RX6 98 yX6_isTeam wsX6_isTeam) := goodIn_app (goodIn_of _ (by decide +kernel)) ggX6_begin_X6_isTeam
set_option maxRecDepth 20000 in
theorem ggX6_begin_X6_fails : GoodIn wsX6_begin wsX6_fails := goodIn_r _ [20, 21, 22, 23, 24, 25, 26, 27, 28, 29, 30, 31, 32, 33, 34, 35, 36, 37, 38, 39, 40, 41, 42, 43, 44, 45] (by decide +kernel) (by decide +kernel)
set_option maxRecDepth 20000 in
theorem gX6_begin_X6_fails : GoodIn wsX6_begin (wsV RX6 88 RX6 yX6_fails wsX6_fails) := goodIn_app (goodIn_of _ (by decide +kernel)) ggX6_begin_X6_fails
theorem dX6_begin_0 : decode cX6_begin 0 = .ok (.iload_n 1, 1) := by decide +kernel
theorem dX6_begin_1 : decode cX6_begin 1 = .ok (.invokestatic 98, 3) := by decide +kernel
theorem dX6_begin_4 : decode cX6_begin 4 = .ok (.ifCond .eq 14, 3) := by decide +kernel
theorem dX6_begin_7 : decode cX6_begin 7 = .ok (.iload_n 2, 1) := by decide +kernel
theorem dX6_begin_8 : decode cX6_begin 8 = .ok (.invokestatic 98, 3) := by decide +kernel
theorem dX6_begin_11 : decode cX6_begin 11 = .ok (.ifCond .eq 7, 3) := by decide +kernel
theorem dX6_begin_14 : decode cX6_begin 14 = .ok (.iconst 1, 1) := by decide +kernel
theorem dX6_begin_15 : decode cX6_begin 15 = .ok (.goto 4, 3) := by decide +kernel
theorem dX6_begin_18 : decode cX6_begin 18 = .ok (.iconst 0, 1) := by decide +kernel
theorem dX6_begin_19 : decode cX6_begin 19 = .ok (.istore_n 3, 1) := by decide +kernel
theorem dX6_begin_20 : decode cX6_begin 20 = .ok (.aload_n 0, 1) := by decide +kernel
theorem dX6_begin_21 : decode cX6_begin 21 = .ok (.iload_n 3, 1) := by decide +kernel
theorem dX6_begin_22 : decode cX6_begin 22 = .ok (.ifCond .ne 7, 3) := by decide +kernel
theorem dX6_begin_25 : decode cX6_begin 25 = .ok (.iconst 1, 1) := by decide +kernel
theorem dX6_begin_26 : decode cX6_begin 26 = .ok (.goto 24, 3) := by decide +kernel
theorem dX6_begin_29 : decode cX6_begin 29 = .ok (.iload_n 1, 1) := by decide +kernel
theorem dX6_begin_30 : decode cX6_begin 30 = .ok (.iload_n 2, 1) := by decide +kernel
theorem dX6_begin_31 : decode cX6_begin 31 = .ok (.if_icmp .ne 7, 3) := by decide +kernel
theorem dX6_begin_34 : decode cX6_begin 34 = .ok (.iconst 2, 1) := by decide +kernel
theorem dX6_begin_35 : decode cX6_begin 35 = .ok (.goto 15, 3) := by decide +kernel
theorem dX6_begin_38 : decode cX6_begin 38 = .ok (.aload_n 0, 1) := by decide +kernel
theorem dX6_begin_39 : decode cX6_begin 39 = .ok (.getfield 84, 3) := by decide +kernel
theorem dX6_begin_42 : decode cX6_begin 42 = .ok (.ifCond .eq 7, 3) := by decide +kernel
theorem dX6_begin_45 : decode cX6_begin 45 = .ok (.iconst 3, 1) := by decide +kernel
theorem dX6_begin_46 : decode cX6_begin 46 = .ok (.goto 4, 3) := by decide +kernel
theorem dX6_begin_49 : decode cX6_begin 49 = .ok (.iconst 0, 1) := by decide +kernel
theorem dX6_begin_50 : decode cX6_begin 50 = .ok (.invokevirtual 88, 3) := by decide +kernel
theorem dX6_begin_53 : decode cX6_begin 53 = .ok (.ifCond .ne 73, 3) := by decide +kernel
theorem dX6_begin_56 : decode cX6_begin 56 = .ok (.aload_n 0, 1) := by decide +kernel
theorem dX6_begin_57 : decode cX6_begin 57 = .ok (.iconst 1, 1) := by decide +kernel
theorem dX6_begin_58 : decode cX6_begin 58 = .ok (.putfield 84, 3) := by decide +kernel
theorem dX6_begin_61 : decode cX6_begin 61 = .ok (.aload_n 0, 1) := by decide +kernel
theorem dX6_begin_62 : decode cX6_begin 62 = .ok (.iload_n 1, 1) := by decide +kernel
theorem dX6_begin_63 : decode cX6_begin 63 = .ok (.putfield 101, 3) := by decide +kernel
theorem dX6_begin_66 : decode cX6_begin 66 = .ok (.aload_n 0, 1) := by decide +kernel
theorem dX6_begin_67 : decode cX6_begin 67 = .ok (.iload_n 2, 1) := by decide +kernel
theorem dX6_begin_68 : decode cX6_begin 68 = .ok (.putfield 104, 3) := by decide +kernel
theorem dX6_begin_71 : decode cX6_begin 71 = .ok (.aload_n 0, 1) := by decide +kernel
theorem dX6_begin_72 : decode cX6_begin 72 = .ok (.iconst 0, 1) := by decide +kernel
theorem dX6_begin_73 : decode cX6_begin 73 = .ok (.putfield 107, 3) := by decide +kernel
theorem dX6_begin_76 : decode cX6_begin 76 = .ok (.aload_n 0, 1) := by decide +kernel
theorem dX6_begin_77 : decode cX6_begin 77 = .ok (.iconst 0, 1) := by decide +kernel
theorem dX6_begin_78 : decode cX6_begin 78 = .ok (.putfield 110, 3) := by decide +kernel
theorem dX6_begin_81 : decode cX6_begin 81 = .ok (.aload_n 0, 1) := by decide +kernel
theorem dX6_begin_82 : decode cX6_begin 82 = .ok (.iconst 0, 1) := by decide +kernel
theorem dX6_begin_83 : decode cX6_begin 83 = .ok (.putfield 113, 3) := by decide +kernel
theorem dX6_begin_86 : decode cX6_begin 86 = .ok (.iconst 0, 1) := by decide +kernel
theorem dX6_begin_87 : decode cX6_begin 87 = .ok (.istore 4, 2) := by decide +kernel
theorem dX6_begin_89 : decode cX6_begin 89 = .ok (.iload 4, 2) := by decide +kernel
theorem dX6_begin_91 : decode cX6_begin 91 = .ok (.bipush 6, 2) := by decide +kernel
theorem dX6_begin_93 : decode cX6_begin 93 = .ok (.if_icmp .ge 33, 3) := by decide +kernel
theorem dX6_begin_96 : decode cX6_begin 96 = .ok (.aload_n 0, 1) := by decide +kernel
theorem dX6_begin_97 : decode cX6_begin 97 = .ok (.getfield 17, 3) := by decide +kernel
theorem dX6_begin_100 : decode cX6_begin 100 = .ok (.iload 4, 2) := by decide +kernel
theorem dX6_begin_102 : decode cX6_begin 102 = .ok (.iconst (-1), 1) := by decide +kernel
theorem dX6_begin_103 : decode cX6_begin 103 = .ok (.iastore, 1) := by decide +kernel
theorem dX6_begin_104 : decode cX6_begin 104 = .ok (.aload_n 0, 1) := by decide +kernel
theorem dX6_begin_105 : decode cX6_begin 105 = .ok (.getfield 20, 3) := by decide +kernel
theorem dX6_begin_108 : decode cX6_begin 108 = .ok (.iload 4, 2) := by decide +kernel
theorem dX6_begin_110 : decode cX6_begin 110 = .ok (.iconst (-1), 1) := by decide +kernel
theorem dX6_begin_111 : decode cX6_begin 111 = .ok (.iastore, 1) := by decide +kernel
theorem dX6_begin_112 : decode cX6_begin 112 = .ok (.aload_n 0, 1) := by decide +kernel
theorem dX6_begin_113 : decode cX6_begin 113 = .ok (.getfield 23, 3) := by decide +kernel
theorem dX6_begin_116 : decode cX6_begin 116 = .ok (.iload 4, 2) := by decide +kernel
theorem dX6_begin_118 : decode cX6_begin 118 = .ok (.iconst (-1), 1) := by decide +kernel
theorem dX6_begin_119 : decode cX6_begin 119 = .ok (.iastore, 1) := by decide +kernel
theorem dX6_begin_120 : decode cX6_begin 120 = .ok (.iinc 4 1, 3) := by decide +kernel
theorem dX6_begin_123 : decode cX6_begin 123 = .ok (.goto (-34), 3) := by decide +kernel
theorem dX6_begin_126 : decode cX6_begin 126 = .ok (.return_, 1) := by decide +kernel
theorem dX6_size_0 : decode cX6_size 0 = .ok (.iload_n 0, 1) := by decide +kernel
theorem dX6_size_1 : decode cX6_size 1 = .ok (.ifCond .ge 8, 3) := by decide +kernel
theorem dX6_size_4 : decode cX6_size 4 = .ok (.iload_n 0, 1) := by decide +kernel
theorem dX6_size_5 : decode cX6_size 5 = .ok (.ineg, 1) := by decide +kernel
theorem dX6_size_6 : decode cX6_size 6 = .ok (.goto 4, 3) := by decide +kernel
theorem dX6_size_9 : decode cX6_size 9 = .ok (.iload_n 0, 1) := by decide +kernel
theorem dX6_size_10 : decode cX6_size 10 = .ok (.ireturn, 1) := by decide +kernel
set_option maxRecDepth 20000 in
theorem ggX6_apart_X6_size : GoodIn wsX6_apart wsX6_size := goodIn_r _ [4] (by decide +kernel) (by decide +kernel)
set_option maxRecDepth 20000 in
theorem gX6_apart_X6_size : GoodIn wsX6_apart (va_wsS RX6 116 yX6_size wsX6_size) := goodIn_app (goodIn_of _ (by decide +kernel)) ggX6_apart_X6_size
theorem dX6_apart_0 : decode cX6_apart 0 = .ok (.iload_n 0, 1) := by decide +kernel
theorem dX6_apart_1 : decode cX6_apart 1 = .ok (.bipush 12, 2) := by decide +kernel
theorem dX6_apart_3 : decode cX6_apart 3 = .ok (.idiv, 1) := by decide +kernel
theorem dX6_apart_4 : decode cX6_apart 4 = .ok (.iload_n 1, 1) := by decide +kernel
theorem dX6_apart_5 : decode cX6_apart 5 = .ok (.bipush 12, 2) := by decide +kernel
theorem dX6_apart_7 : decode cX6_apart 7 = .ok (.idiv, 1) := by decide +kernel
theorem dX6_apart_8 : decode cX6_apart 8 = .ok (.isub, 1) := by decide +kernel
theorem dX6_apart_9 : decode cX6_apart 9 = .ok (.invokestatic 116, 3) := by decide +kernel
theorem dX6_apart_12 : decode cX6_apart 12 = .ok (.istore_n 2, 1) := by decide +kernel
theorem dX6_apart_13 : decode cX6_apart 13 = .ok (.iload_n 0, 1) := by decide +kernel
theorem dX6_apart_14 : decode cX6_apart 14 = .ok (.bipush 12, 2) := by decide +kernel
theorem dX6_apart_16 : decode cX6_apart 16 = .ok (.irem, 1) := by decide +kernel
theorem dX6_apart_17 : decode cX6_apart 17 = .ok (.iload_n 1, 1) := by decide +kernel
theorem dX6_apart_18 : decode cX6_apart 18 = .ok (.bipush 12, 2) := by decide +kernel
theorem dX6_apart_20 : decode cX6_apart 20 = .ok (.irem, 1) := by decide +kernel
theorem dX6_apart_21 : decode cX6_apart 21 = .ok (.isub, 1) := by decide +kernel
theorem dX6_apart_22 : decode cX6_apart 22 = .ok (.invokestatic 116, 3) := by decide +kernel
theorem dX6_apart_25 : decode cX6_apart 25 = .ok (.istore_n 3, 1) := by decide +kernel
theorem dX6_apart_26 : decode cX6_apart 26 = .ok (.iload_n 2, 1) := by decide +kernel
theorem dX6_apart_27 : decode cX6_apart 27 = .ok (.iload_n 3, 1) := by decide +kernel
theorem dX6_apart_28 : decode cX6_apart 28 = .ok (.if_icmp .le 7, 3) := by decide +kernel
theorem dX6_apart_31 : decode cX6_apart 31 = .ok (.iload_n 2, 1) := by decide +kernel
theorem dX6_apart_32 : decode cX6_apart 32 = .ok (.goto 4, 3) := by decide +kernel
theorem dX6_apart_35 : decode cX6_apart 35 = .ok (.iload_n 3, 1) := by decide +kernel
theorem dX6_apart_36 : decode cX6_apart 36 = .ok (.ireturn, 1) := by decide +kernel
theorem dX6_standsOn_0 : decode cX6_standsOn 0 = .ok (.iconst (-1), 1) := by decide +kernel
theorem dX6_standsOn_1 : decode cX6_standsOn 1 = .ok (.istore_n 2, 1) := by decide +kernel
theorem dX6_standsOn_2 : decode cX6_standsOn 2 = .ok (.iconst 0, 1) := by decide +kernel
theorem dX6_standsOn_3 : decode cX6_standsOn 3 = .ok (.istore_n 3, 1) := by decide +kernel
theorem dX6_standsOn_4 : decode cX6_standsOn 4 = .ok (.iload_n 3, 1) := by decide +kernel
theorem dX6_standsOn_5 : decode cX6_standsOn 5 = .ok (.bipush 6, 2) := by decide +kernel
theorem dX6_standsOn_7 : decode cX6_standsOn 7 = .ok (.if_icmp .ge 25, 3) := by decide +kernel
theorem dX6_standsOn_10 : decode cX6_standsOn 10 = .ok (.aload_n 0, 1) := by decide +kernel
theorem dX6_standsOn_11 : decode cX6_standsOn 11 = .ok (.getfield 17, 3) := by decide +kernel
theorem dX6_standsOn_14 : decode cX6_standsOn 14 = .ok (.iload_n 3, 1) := by decide +kernel
theorem dX6_standsOn_15 : decode cX6_standsOn 15 = .ok (.iaload, 1) := by decide +kernel
theorem dX6_standsOn_16 : decode cX6_standsOn 16 = .ok (.iload_n 1, 1) := by decide +kernel
theorem dX6_standsOn_17 : decode cX6_standsOn 17 = .ok (.if_icmp .ne 7, 3) := by decide +kernel
theorem dX6_standsOn_20 : decode cX6_standsOn 20 = .ok (.iload_n 3, 1) := by decide +kernel
theorem dX6_standsOn_21 : decode cX6_standsOn 21 = .ok (.goto 4, 3) := by decide +kernel
theorem dX6_standsOn_24 : decode cX6_standsOn 24 = .ok (.iload_n 2, 1) := by decide +kernel
theorem dX6_standsOn_25 : decode cX6_standsOn 25 = .ok (.istore_n 2, 1) := by decide +kernel
theorem dX6_standsOn_26 : decode cX6_standsOn 26 = .ok (.iinc 3 1, 3) := by decide +kernel
theorem dX6_standsOn_29 : decode cX6_standsOn 29 = .ok (.goto (-25), 3) := by decide +kernel
theorem dX6_standsOn_32 : decode cX6_standsOn 32 = .ok (.iload_n 2, 1) := by decide +kernel
theorem dX6_standsOn_33 : decode cX6_standsOn 33 = .ok (.ireturn, 1) := by decide +kernel
set_option maxRecDepth 20000 in
theorem ggX6_move_X6_isPlayer : GoodIn wsX6_move wsX6_isPlayer := goodIn_r _ [7, 8, 9, 6, 10] (by decide +kernel) (by decide +kernel)
set_option maxRecDepth 20000 in
theorem gX6_move_X6_isPlayer : GoodIn wsX6_move (va_wsS RX6 120 yX6_isPlayer wsX6_isPlayer) := goodIn_app (goodIn_of _ (by decide +kernel)) ggX6_move_X6_isPlayer
set_option maxRecDepth 20000 in
theorem ggX6_move_X6_isCell : GoodIn wsX6_move wsX6_isCell := goodIn_r _ [13, 8, 9, 6, 10] (by decide +kernel) (by decide +kernel)
set_option maxRecDepth 20000 in
theorem gX6_move_X6_isCell : GoodIn wsX6_move (va_wsS RX6 80 yX6_isCell wsX6_isCell) := goodIn_app (goodIn_of _ (by decide +kernel)) ggX6_move_X6_isCell
set_option maxRecDepth 20000 in
theorem ggX6_move_X6_apart : GoodIn wsX6_move wsX6_apart := goodIn_r _ [16, 17, 18, 6, 19] (by decide +kernel) (by decide +kernel)
set_option maxRecDepth 20000 in
theorem gX6_move_X6_apart : GoodIn wsX6_move (va_wsS RX6 123 yX6_apart wsX6_apart) := goodIn_app (goodIn_of _ (by decide +kernel)) ggX6_move_X6_apart
set_option maxRecDepth 20000 in
theorem ggX6_move_X6_standsOn : GoodIn wsX6_move wsX6_standsOn := goodIn_r _ [23, 2, 29, 30, 31, 32, 33, 34, 35, 36, 37, 38, 39, 40, 41, 42, 43, 44, 45, 46, 47, 48, 49, 50, 51, 52] (by decide +kernel) (by decide +kernel)
set_option maxRecDepth 20000 in
theorem gX6_move_X6_standsOn : GoodIn wsX6_move (wsV RX6 127 RX6 yX6_standsOn wsX6_standsOn) := goodIn_app (goodIn_of _ (by decide +kernel)) ggX6_move_X6_standsOn
set_option maxRecDepth 20000 in
theorem ggX6_move_X6_fails : GoodIn wsX6_move wsX6_fails := goodIn_r _ [27, 28, 29, 30, 31, 32, 33, 34, 35, 36, 37, 38, 39, 40, 41, 42, 43, 44, 45, 46, 47, 48, 49, 50, 51, 52] (by decide +kernel) (by decide +kernel)
set_option maxRecDepth 20000 in
theorem gX6_move_X6_fails : GoodIn wsX6_move (wsV RX6 88 RX6 yX6_fails wsX6_fails) := goodIn_app (goodIn_of _ (by decide +kernel)) ggX6_move_X6_fails
theorem dX6_move_0 : decode cX6_move 0 = .ok (.iload_n 1, 1) := by decide +kernel
theorem dX6_move_1 : decode cX6_move 1 = .ok (.invokestatic 120, 3) := by decide +kernel
theorem dX6_move_4 : decode cX6_move 4 = .ok (.ifCond .eq 14, 3) := by decide +kernel
theorem dX6_move_7 : decode cX6_move 7 = .ok (.iload_n 2, 1) := by decide +kernel
theorem dX6_move_8 : decode cX6_move 8 = .ok (.invokestatic 80, 3) := by decide +kernel
theorem dX6_move_11 : decode cX6_move 11 = .ok (.ifCond .eq 7, 3) := by decide +kernel
theorem dX6_move_14 : decode cX6_move 14 = .ok (.iconst 1, 1) := by decide +kernel
theorem dX6_move_15 : decode cX6_move 15 = .ok (.goto 4, 3) := by decide +kernel
theorem dX6_move_18 : decode cX6_move 18 = .ok (.iconst 0, 1) := by decide +kernel
theorem dX6_move_19 : decode cX6_move 19 = .ok (.istore_n 3, 1) := by decide +kernel
theorem dX6_move_20 : decode cX6_move 20 = .ok (.iload_n 3, 1) := by decide +kernel
theorem dX6_move_21 : decode cX6_move 21 = .ok (.ifCond .eq 67, 3) := by decide +kernel
theorem dX6_move_24 : decode cX6_move 24 = .ok (.aload_n 0, 1) := by decide +kernel
theorem dX6_move_25 : decode cX6_move 25 = .ok (.getfield 84, 3) := by decide +kernel
theorem dX6_move_28 : decode cX6_move 28 = .ok (.ifCond .eq 60, 3) := by decide +kernel
theorem dX6_move_31 : decode cX6_move 31 = .ok (.aload_n 0, 1) := by decide +kernel
theorem dX6_move_32 : decode cX6_move 32 = .ok (.getfield 17, 3) := by decide +kernel
theorem dX6_move_35 : decode cX6_move 35 = .ok (.iload_n 1, 1) := by decide +kernel
theorem dX6_move_36 : decode cX6_move 36 = .ok (.iaload, 1) := by decide +kernel
theorem dX6_move_37 : decode cX6_move 37 = .ok (.bipush (-2), 2) := by decide +kernel
theorem dX6_move_39 : decode cX6_move 39 = .ok (.if_icmp .eq 49, 3) := by decide +kernel
theorem dX6_move_42 : decode cX6_move 42 = .ok (.aload_n 0, 1) := by decide +kernel
theorem dX6_move_43 : decode cX6_move 43 = .ok (.getfield 17, 3) := by decide +kernel
theorem dX6_move_46 : decode cX6_move 46 = .ok (.iload_n 1, 1) := by decide +kernel
theorem dX6_move_47 : decode cX6_move 47 = .ok (.iaload, 1) := by decide +kernel
theorem dX6_move_48 : decode cX6_move 48 = .ok (.iconst (-1), 1) := by decide +kernel
theorem dX6_move_49 : decode cX6_move 49 = .ok (.if_icmp .eq 17, 3) := by decide +kernel
theorem dX6_move_52 : decode cX6_move 52 = .ok (.aload_n 0, 1) := by decide +kernel
theorem dX6_move_53 : decode cX6_move 53 = .ok (.getfield 17, 3) := by decide +kernel
theorem dX6_move_56 : decode cX6_move 56 = .ok (.iload_n 1, 1) := by decide +kernel
theorem dX6_move_57 : decode cX6_move 57 = .ok (.iaload, 1) := by decide +kernel
theorem dX6_move_58 : decode cX6_move 58 = .ok (.iload_n 2, 1) := by decide +kernel
theorem dX6_move_59 : decode cX6_move 59 = .ok (.invokestatic 123, 3) := by decide +kernel
theorem dX6_move_62 : decode cX6_move 62 = .ok (.iconst 1, 1) := by decide +kernel
theorem dX6_move_63 : decode cX6_move 63 = .ok (.if_icmp .ne 25, 3) := by decide +kernel
theorem dX6_move_66 : decode cX6_move 66 = .ok (.aload_n 0, 1) := by decide +kernel
theorem dX6_move_67 : decode cX6_move 67 = .ok (.getfield 7, 3) := by decide +kernel
theorem dX6_move_70 : decode cX6_move 70 = .ok (.iload_n 2, 1) := by decide +kernel
theorem dX6_move_71 : decode cX6_move 71 = .ok (.baload, 1) := by decide +kernel
theorem dX6_move_72 : decode cX6_move 72 = .ok (.ifCond .ne 16, 3) := by decide +kernel
theorem dX6_move_75 : decode cX6_move 75 = .ok (.aload_n 0, 1) := by decide +kernel
theorem dX6_move_76 : decode cX6_move 76 = .ok (.iload_n 2, 1) := by decide +kernel
theorem dX6_move_77 : decode cX6_move 77 = .ok (.invokevirtual 127, 3) := by decide +kernel
theorem dX6_move_80 : decode cX6_move 80 = .ok (.iconst (-1), 1) := by decide +kernel
theorem dX6_move_81 : decode cX6_move 81 = .ok (.if_icmp .ne 7, 3) := by decide +kernel
theorem dX6_move_84 : decode cX6_move 84 = .ok (.iconst 1, 1) := by decide +kernel
theorem dX6_move_85 : decode cX6_move 85 = .ok (.goto 4, 3) := by decide +kernel
theorem dX6_move_88 : decode cX6_move 88 = .ok (.iconst 0, 1) := by decide +kernel
theorem dX6_move_89 : decode cX6_move 89 = .ok (.istore 4, 2) := by decide +kernel
theorem dX6_move_91 : decode cX6_move 91 = .ok (.aload_n 0, 1) := by decide +kernel
theorem dX6_move_92 : decode cX6_move 92 = .ok (.iload_n 3, 1) := by decide +kernel
theorem dX6_move_93 : decode cX6_move 93 = .ok (.ifCond .ne 7, 3) := by decide +kernel
theorem dX6_move_96 : decode cX6_move 96 = .ok (.iconst 1, 1) := by decide +kernel
theorem dX6_move_97 : decode cX6_move 97 = .ok (.goto 13, 3) := by decide +kernel
theorem dX6_move_100 : decode cX6_move 100 = .ok (.iload 4, 2) := by decide +kernel
theorem dX6_move_102 : decode cX6_move 102 = .ok (.ifCond .eq 7, 3) := by decide +kernel
theorem dX6_move_105 : decode cX6_move 105 = .ok (.iconst 0, 1) := by decide +kernel
theorem dX6_move_106 : decode cX6_move 106 = .ok (.goto 4, 3) := by decide +kernel
theorem dX6_move_109 : decode cX6_move 109 = .ok (.iconst 2, 1) := by decide +kernel
theorem dX6_move_110 : decode cX6_move 110 = .ok (.invokevirtual 88, 3) := by decide +kernel
theorem dX6_move_113 : decode cX6_move 113 = .ok (.ifCond .eq 5, 3) := by decide +kernel
theorem dX6_move_116 : decode cX6_move 116 = .ok (.iconst 0, 1) := by decide +kernel
theorem dX6_move_117 : decode cX6_move 117 = .ok (.ireturn, 1) := by decide +kernel
theorem dX6_move_118 : decode cX6_move 118 = .ok (.aload_n 0, 1) := by decide +kernel
theorem dX6_move_119 : decode cX6_move 119 = .ok (.getfield 17, 3) := by decide +kernel
theorem dX6_move_122 : decode cX6_move 122 = .ok (.iload_n 1, 1) := by decide +kernel
theorem dX6_move_123 : decode cX6_move 123 = .ok (.iaload, 1) := by decide +kernel
theorem dX6_move_124 : decode cX6_move 124 = .ok (.istore 5, 2) := by decide +kernel
theorem dX6_move_126 : decode cX6_move 126 = .ok (.aload_n 0, 1) := by decide +kernel
theorem dX6_move_127 : decode cX6_move 127 = .ok (.getfield 17, 3) := by decide +kernel
theorem dX6_move_130 : decode cX6_move 130 = .ok (.iload_n 1, 1) := by decide +kernel
theorem dX6_move_131 : decode cX6_move 131 = .ok (.iload_n 2, 1) := by decide +kernel
theorem dX6_move_132 : decode cX6_move 132 = .ok (.iastore, 1) := by decide +kernel
theorem dX6_move_133 : decode cX6_move 133 = .ok (.iload 5, 2) := by decide +kernel
theorem dX6_move_135 : decode cX6_move 135 = .ok (.ireturn, 1) := by decide +kernel
set_option maxRecDepth 20000 in
theorem ggX6_shoot_X6_isPlayer : GoodIn wsX6_shoot wsX6_isPlayer := goodIn_r _ [13, 14, 15, 12, 16] (by decide +kernel) (by decide +kernel)
set_option maxRecDepth 20000 in
theorem gX6_shoot_X6_isPlayer : GoodIn wsX6_shoot (va_wsS RX6 120 yX6_isPlayer wsX6_isPlayer) := goodIn_app (goodIn_of _ (by decide +kernel)) ggX6_shoot_X6_isPlayer
set_option maxRecDepth 20000 in
theorem ggX6_shoot_X6_isCell : GoodIn wsX6_shoot wsX6_isCell := goodIn_r _ [19, 14, 15, 12, 16] (by decide +kernel) (by decide +kernel)
set_option maxRecDepth 20000 in
theorem gX6_shoot_X6_isCell : GoodIn wsX6_shoot (va_wsS RX6 80 yX6_isCell wsX6_isCell) := goodIn_app (goodIn_of _ (by decide +kernel)) ggX6_shoot_X6_isCell
set_option maxRecDepth 20000 in
theorem ggX6_shoot_X6_fails : GoodIn wsX6_shoot wsX6_fails := goodIn_r _ [23, 24, 31, 32, 33, 34, 35, 36, 37, 38, 39, 40, 41, 42, 43, 44, 45, 46, 47, 48, 49, 50, 51, 52, 53, 54] (by decide +kernel) (by decide +kernel)
set_option maxRecDepth 20000 in
theorem gX6_shoot_X6_fails : GoodIn wsX6_shoot (wsV RX6 88 RX6 yX6_fails wsX6_fails) := goodIn_app (goodIn_of _ (by decide +kernel)) ggX6_shoot_X6_fails
set_option maxRecDepth 20000 in
theorem ggX6_shoot_X6_apart : GoodIn wsX6_shoot wsX6_apart := goodIn_r _ [27, 28, 29, 12, 30] (by decide +kernel) (by decide +kernel)
set_option maxRecDepth 20000 in
theorem gX6_shoot_X6_apart : GoodIn wsX6_shoot (va_wsS RX6 123 yX6_apart wsX6_apart) := goodIn_app (goodIn_of _ (by decide +kernel)) ggX6_shoot_X6_apart
theorem dX6_shoot_0 : decode cX6_shoot 0 = .ok (.iload_n 1, 1) := by decide +kernel
theorem dX6_shoot_1 : decode cX6_shoot 1 = .ok (.invokestatic 120, 3) := by decide +kernel
theorem dX6_shoot_4 : decode cX6_shoot 4 = .ok (.ifCond .eq 14, 3) := by decide +kernel
theorem dX6_shoot_7 : decode cX6_shoot 7 = .ok (.iload_n 2, 1) := by decide +kernel
theorem dX6_shoot_8 : decode cX6_shoot 8 = .ok (.invokestatic 80, 3) := by decide +kernel
theorem dX6_shoot_11 : decode cX6_shoot 11 = .ok (.ifCond .eq 7, 3) := by decide +kernel
theorem dX6_shoot_14 : decode cX6_shoot 14 = .ok (.iconst 1, 1) := by decide +kernel
theorem dX6_shoot_15 : decode cX6_shoot 15 = .ok (.goto 4, 3) := by decide +kernel
theorem dX6_shoot_18 : decode cX6_shoot 18 = .ok (.iconst 0, 1) := by decide +kernel
theorem dX6_shoot_19 : decode cX6_shoot 19 = .ok (.istore_n 3, 1) := by decide +kernel
theorem dX6_shoot_20 : decode cX6_shoot 20 = .ok (.iload_n 3, 1) := by decide +kernel
theorem dX6_shoot_21 : decode cX6_shoot 21 = .ok (.ifCond .eq 55, 3) := by decide +kernel
theorem dX6_shoot_24 : decode cX6_shoot 24 = .ok (.aload_n 0, 1) := by decide +kernel
theorem dX6_shoot_25 : decode cX6_shoot 25 = .ok (.getfield 84, 3) := by decide +kernel
theorem dX6_shoot_28 : decode cX6_shoot 28 = .ok (.ifCond .eq 48, 3) := by decide +kernel
theorem dX6_shoot_31 : decode cX6_shoot 31 = .ok (.aload_n 0, 1) := by decide +kernel
theorem dX6_shoot_32 : decode cX6_shoot 32 = .ok (.getfield 17, 3) := by decide +kernel
theorem dX6_shoot_35 : decode cX6_shoot 35 = .ok (.iload_n 1, 1) := by decide +kernel
theorem dX6_shoot_36 : decode cX6_shoot 36 = .ok (.iaload, 1) := by decide +kernel
theorem dX6_shoot_37 : decode cX6_shoot 37 = .ok (.ifCond .lt 39, 3) := by decide +kernel
theorem dX6_shoot_40 : decode cX6_shoot 40 = .ok (.aload_n 0, 1) := by decide +kernel
theorem dX6_shoot_41 : decode cX6_shoot 41 = .ok (.getfield 23, 3) := by decide +kernel
theorem dX6_shoot_44 : decode cX6_shoot 44 = .ok (.iload_n 1, 1) := by decide +kernel
theorem dX6_shoot_45 : decode cX6_shoot 45 = .ok (.iaload, 1) := by decide +kernel
theorem dX6_shoot_46 : decode cX6_shoot 46 = .ok (.aload_n 0, 1) := by decide +kernel
theorem dX6_shoot_47 : decode cX6_shoot 47 = .ok (.getfield 107, 3) := by decide +kernel
theorem dX6_shoot_50 : decode cX6_shoot 50 = .ok (.if_icmp .eq 26, 3) := by decide +kernel
theorem dX6_shoot_53 : decode cX6_shoot 53 = .ok (.aload_n 0, 1) := by decide +kernel
theorem dX6_shoot_54 : decode cX6_shoot 54 = .ok (.getfield 17, 3) := by decide +kernel
theorem dX6_shoot_57 : decode cX6_shoot 57 = .ok (.iload_n 1, 1) := by decide +kernel
theorem dX6_shoot_58 : decode cX6_shoot 58 = .ok (.iaload, 1) := by decide +kernel
theorem dX6_shoot_59 : decode cX6_shoot 59 = .ok (.iload_n 2, 1) := by decide +kernel
theorem dX6_shoot_60 : decode cX6_shoot 60 = .ok (.if_icmp .eq 16, 3) := by decide +kernel
theorem dX6_shoot_63 : decode cX6_shoot 63 = .ok (.aload_n 0, 1) := by decide +kernel
theorem dX6_shoot_64 : decode cX6_shoot 64 = .ok (.getfield 110, 3) := by decide +kernel
theorem dX6_shoot_67 : decode cX6_shoot 67 = .ok (.bipush 100, 2) := by decide +kernel
theorem dX6_shoot_69 : decode cX6_shoot 69 = .ok (.if_icmp .ge 7, 3) := by decide +kernel
theorem dX6_shoot_72 : decode cX6_shoot 72 = .ok (.iconst 1, 1) := by decide +kernel
theorem dX6_shoot_73 : decode cX6_shoot 73 = .ok (.goto 4, 3) := by decide +kernel
theorem dX6_shoot_76 : decode cX6_shoot 76 = .ok (.iconst 0, 1) := by decide +kernel
theorem dX6_shoot_77 : decode cX6_shoot 77 = .ok (.istore 4, 2) := by decide +kernel
theorem dX6_shoot_79 : decode cX6_shoot 79 = .ok (.aload_n 0, 1) := by decide +kernel
theorem dX6_shoot_80 : decode cX6_shoot 80 = .ok (.iload_n 3, 1) := by decide +kernel
theorem dX6_shoot_81 : decode cX6_shoot 81 = .ok (.ifCond .ne 7, 3) := by decide +kernel
theorem dX6_shoot_84 : decode cX6_shoot 84 = .ok (.iconst 1, 1) := by decide +kernel
theorem dX6_shoot_85 : decode cX6_shoot 85 = .ok (.goto 13, 3) := by decide +kernel
theorem dX6_shoot_88 : decode cX6_shoot 88 = .ok (.iload 4, 2) := by decide +kernel
theorem dX6_shoot_90 : decode cX6_shoot 90 = .ok (.ifCond .eq 7, 3) := by decide +kernel
theorem dX6_shoot_93 : decode cX6_shoot 93 = .ok (.iconst 0, 1) := by decide +kernel
theorem dX6_shoot_94 : decode cX6_shoot 94 = .ok (.goto 4, 3) := by decide +kernel
theorem dX6_shoot_97 : decode cX6_shoot 97 = .ok (.iconst 2, 1) := by decide +kernel
theorem dX6_shoot_98 : decode cX6_shoot 98 = .ok (.invokevirtual 88, 3) := by decide +kernel
theorem dX6_shoot_101 : decode cX6_shoot 101 = .ok (.ifCond .eq 5, 3) := by decide +kernel
theorem dX6_shoot_104 : decode cX6_shoot 104 = .ok (.iconst 0, 1) := by decide +kernel
theorem dX6_shoot_105 : decode cX6_shoot 105 = .ok (.ireturn, 1) := by decide +kernel
theorem dX6_shoot_106 : decode cX6_shoot 106 = .ok (.aload_n 0, 1) := by decide +kernel
theorem dX6_shoot_107 : decode cX6_shoot 107 = .ok (.getfield 26, 3) := by decide +kernel
theorem dX6_shoot_110 : decode cX6_shoot 110 = .ok (.aload_n 0, 1) := by decide +kernel
theorem dX6_shoot_111 : decode cX6_shoot 111 = .ok (.getfield 110, 3) := by decide +kernel
theorem dX6_shoot_114 : decode cX6_shoot 114 = .ok (.iload_n 1, 1) := by decide +kernel
theorem dX6_shoot_115 : decode cX6_shoot 115 = .ok (.iastore, 1) := by decide +kernel
theorem dX6_shoot_116 : decode cX6_shoot 116 = .ok (.aload_n 0, 1) := by decide +kernel
theorem dX6_shoot_117 : decode cX6_shoot 117 = .ok (.getfield 29, 3) := by decide +kernel
theorem dX6_shoot_120 : decode cX6_shoot 120 = .ok (.aload_n 0, 1) := by decide +kernel
theorem dX6_shoot_121 : decode cX6_shoot 121 = .ok (.getfield 110, 3) := by decide +kernel
theorem dX6_shoot_124 : decode cX6_shoot 124 = .ok (.aload_n 0, 1) := by decide +kernel
theorem dX6_shoot_125 : decode cX6_shoot 125 = .ok (.getfield 17, 3) := by decide +kernel
theorem dX6_shoot_128 : decode cX6_shoot 128 = .ok (.iload_n 1, 1) := by decide +kernel
theorem dX6_shoot_129 : decode cX6_shoot 129 = .ok (.iaload, 1) := by decide +kernel
theorem dX6_shoot_130 : decode cX6_shoot 130 = .ok (.iastore, 1) := by decide +kernel
theorem dX6_shoot_131 : decode cX6_shoot 131 = .ok (.aload_n 0, 1) := by decide +kernel
theorem dX6_shoot_132 : decode cX6_shoot 132 = .ok (.getfield 32, 3) := by decide +kernel
theorem dX6_shoot_135 : decode cX6_shoot 135 = .ok (.aload_n 0, 1) := by decide +kernel
theorem dX6_shoot_136 : decode cX6_shoot 136 = .ok (.getfield 110, 3) := by decide +kernel
theorem dX6_shoot_139 : decode cX6_shoot 139 = .ok (.iload_n 2, 1) := by decide +kernel
theorem dX6_shoot_140 : decode cX6_shoot 140 = .ok (.iastore, 1) := by decide +kernel
theorem dX6_shoot_141 : decode cX6_shoot 141 = .ok (.aload_n 0, 1) := by decide +kernel
theorem dX6_shoot_142 : decode cX6_shoot 142 = .ok (.getfield 35, 3) := by decide +kernel
theorem dX6_shoot_145 : decode cX6_shoot 145 = .ok (.aload_n 0, 1) := by decide +kernel
theorem dX6_shoot_146 : decode cX6_shoot 146 = .ok (.getfield 110, 3) := by decide +kernel
theorem dX6_shoot_149 : decode cX6_shoot 149 = .ok (.aload_n 0, 1) := by decide +kernel
theorem dX6_shoot_150 : decode cX6_shoot 150 = .ok (.getfield 107, 3) := by decide +kernel
theorem dX6_shoot_153 : decode cX6_shoot 153 = .ok (.aload_n 0, 1) := by decide +kernel
theorem dX6_shoot_154 : decode cX6_shoot 154 = .ok (.getfield 17, 3) := by decide +kernel
theorem dX6_shoot_157 : decode cX6_shoot 157 = .ok (.iload_n 1, 1) := by decide +kernel
theorem dX6_shoot_158 : decode cX6_shoot 158 = .ok (.iaload, 1) := by decide +kernel
theorem dX6_shoot_159 : decode cX6_shoot 159 = .ok (.iload_n 2, 1) := by decide +kernel
theorem dX6_shoot_160 : decode cX6_shoot 160 = .ok (.invokestatic 123, 3) := by decide +kernel
theorem dX6_shoot_163 : decode cX6_shoot 163 = .ok (.iconst 3, 1) := by decide +kernel
theorem dX6_shoot_164 : decode cX6_shoot 164 = .ok (.iadd, 1) := by decide +kernel
theorem dX6_shoot_165 : decode cX6_shoot 165 = .ok (.iconst 4, 1) := by decide +kernel
theorem dX6_shoot_166 : decode cX6_shoot 166 = .ok (.idiv, 1) := by decide +kernel
theorem dX6_shoot_167 : decode cX6_shoot 167 = .ok (.iadd, 1) := by decide +kernel
theorem dX6_shoot_168 : decode cX6_shoot 168 = .ok (.iastore, 1) := by decide +kernel
theorem dX6_shoot_169 : decode cX6_shoot 169 = .ok (.aload_n 0, 1) := by decide +kernel
theorem dX6_shoot_170 : decode cX6_shoot 170 = .ok (.getfield 23, 3) := by decide +kernel
theorem dX6_shoot_173 : decode cX6_shoot 173 = .ok (.iload_n 1, 1) := by decide +kernel
theorem dX6_shoot_174 : decode cX6_shoot 174 = .ok (.aload_n 0, 1) := by decide +kernel
theorem dX6_shoot_175 : decode cX6_shoot 175 = .ok (.getfield 107, 3) := by decide +kernel
theorem dX6_shoot_178 : decode cX6_shoot 178 = .ok (.iastore, 1) := by decide +kernel
theorem dX6_shoot_179 : decode cX6_shoot 179 = .ok (.aload_n 0, 1) := by decide +kernel
theorem dX6_shoot_180 : decode cX6_shoot 180 = .ok (.dup, 1) := by decide +kernel
theorem dX6_shoot_181 : decode cX6_shoot 181 = .ok (.getfield 110, 3) := by decide +kernel
theorem dX6_shoot_184 : decode cX6_shoot 184 = .ok (.iconst 1, 1) := by decide +kernel
theorem dX6_shoot_185 : decode cX6_shoot 185 = .ok (.iadd, 1) := by decide +kernel
theorem dX6_shoot_186 : decode cX6_shoot 186 = .ok (.putfield 110, 3) := by decide +kernel
theorem dX6_shoot_189 : decode cX6_shoot 189 = .ok (.aload_n 0, 1) := by decide +kernel
theorem dX6_shoot_190 : decode cX6_shoot 190 = .ok (.getfield 35, 3) := by decide +kernel
theorem dX6_shoot_193 : decode cX6_shoot 193 = .ok (.aload_n 0, 1) := by decide +kernel
theorem dX6_shoot_194 : decode cX6_shoot 194 = .ok (.getfield 110, 3) := by decide +kernel
theorem dX6_shoot_197 : decode cX6_shoot 197 = .ok (.iconst 1, 1) := by decide +kernel
theorem dX6_shoot_198 : decode cX6_shoot 198 = .ok (.isub, 1) := by decide +kernel
theorem dX6_shoot_199 : decode cX6_shoot 199 = .ok (.iaload, 1) := by decide +kernel
theorem dX6_shoot_200 : decode cX6_shoot 200 = .ok (.ireturn, 1) := by decide +kernel
set_option maxRecDepth 20000 in
theorem ggX6_pass_X6_isIn : GoodIn wsX6_pass wsX6_isIn := goodIn_r _ [12] (by decide +kernel) (by decide +kernel)
set_option maxRecDepth 20000 in
theorem gX6_pass_X6_isIn : GoodIn wsX6_pass (va_wsS RX6 66 yX6_isIn wsX6_isIn) := goodIn_app (goodIn_of _ (by decide +kernel)) ggX6_pass_X6_isIn
set_option maxRecDepth 20000 in
theorem ggX6_pass_X6_fails : GoodIn wsX6_pass wsX6_fails := goodIn_r _ [16, 17, 37, 38, 39, 40, 41, 42, 43, 44, 45, 46, 47, 48, 49, 50, 51, 52, 53, 54, 55, 56, 57, 58, 59, 60] (by decide +kernel) (by decide +kernel)
set_option maxRecDepth 20000 in
theorem gX6_pass_X6_fails : GoodIn wsX6_pass (wsV RX6 88 RX6 yX6_fails wsX6_fails) := goodIn_app (goodIn_of _ (by decide +kernel)) ggX6_pass_X6_fails
set_option maxRecDepth 20000 in
theorem ggX6_pass_X6_standsOn : GoodIn wsX6_pass wsX6_standsOn := goodIn_r _ [21, 22, 37, 38, 39, 40, 41, 42, 43, 44, 45, 46, 47, 48, 49, 50, 51, 52, 53, 54, 55, 56, 57, 58, 59, 60] (by decide +kernel) (by decide +kernel)
set_option maxRecDepth 20000 in
theorem gX6_pass_X6_standsOn : GoodIn wsX6_pass (wsV RX6 127 RX6 yX6_standsOn wsX6_standsOn) := goodIn_app (goodIn_of _ (by decide +kernel)) ggX6_pass_X6_standsOn
set_option maxRecDepth 20000 in
theorem ggX6_pass_X6_see : GoodIn wsX6_pass wsX6_see := goodIn_r _ [26, 27, 28, 29, 11, 30, 31, 32, 33, 9, 10, 12, 34, 35, 36, 37, 38, 39, 40, 41, 42, 43, 44, 45, 46, 47, 48, 49, 50, 51, 52, 53, 54, 55, 56, 57, 58, 59, 60] (by decide +kernel) (by decide +kernel)
set_option maxRecDepth 20000 in
theorem gX6_pass_X6_see : GoodIn wsX6_pass (wsV RX6 91 RX6 yX6_see wsX6_see) := goodIn_app (goodIn_of _ (by decide +kernel)) ggX6_pass_X6_see
theorem dX6_pass_0 : decode cX6_pass 0 = .ok (.aload_n 0, 1) := by decide +kernel
theorem dX6_pass_1 : decode cX6_pass 1 = .ok (.iload_n 1, 1) := by decide +kernel
theorem dX6_pass_2 : decode cX6_pass 2 = .ok (.iconst 1, 1) := by decide +kernel
theorem dX6_pass_3 : decode cX6_pass 3 = .ok (.bipush 50, 2) := by decide +kernel
theorem dX6_pass_5 : decode cX6_pass 5 = .ok (.invokestatic 66, 3) := by decide +kernel
theorem dX6_pass_8 : decode cX6_pass 8 = .ok (.ifCond .ne 7, 3) := by decide +kernel
theorem dX6_pass_11 : decode cX6_pass 11 = .ok (.iconst 1, 1) := by decide +kernel
theorem dX6_pass_12 : decode cX6_pass 12 = .ok (.goto 15, 3) := by decide +kernel
theorem dX6_pass_15 : decode cX6_pass 15 = .ok (.aload_n 0, 1) := by decide +kernel
theorem dX6_pass_16 : decode cX6_pass 16 = .ok (.getfield 84, 3) := by decide +kernel
theorem dX6_pass_19 : decode cX6_pass 19 = .ok (.ifCond .eq 7, 3) := by decide +kernel
theorem dX6_pass_22 : decode cX6_pass 22 = .ok (.iconst 0, 1) := by decide +kernel
theorem dX6_pass_23 : decode cX6_pass 23 = .ok (.goto 4, 3) := by decide +kernel
theorem dX6_pass_26 : decode cX6_pass 26 = .ok (.iconst 2, 1) := by decide +kernel
theorem dX6_pass_27 : decode cX6_pass 27 = .ok (.invokevirtual 88, 3) := by decide +kernel
theorem dX6_pass_30 : decode cX6_pass 30 = .ok (.ifCond .eq 5, 3) := by decide +kernel
theorem dX6_pass_33 : decode cX6_pass 33 = .ok (.iconst 0, 1) := by decide +kernel
theorem dX6_pass_34 : decode cX6_pass 34 = .ok (.ireturn, 1) := by decide +kernel
theorem dX6_pass_35 : decode cX6_pass 35 = .ok (.iconst 0, 1) := by decide +kernel
theorem dX6_pass_36 : decode cX6_pass 36 = .ok (.istore_n 2, 1) := by decide +kernel
theorem dX6_pass_37 : decode cX6_pass 37 = .ok (.iconst 0, 1) := by decide +kernel
theorem dX6_pass_38 : decode cX6_pass 38 = .ok (.istore_n 3, 1) := by decide +kernel
theorem dX6_pass_39 : decode cX6_pass 39 = .ok (.iload_n 3, 1) := by decide +kernel
theorem dX6_pass_40 : decode cX6_pass 40 = .ok (.iload_n 1, 1) := by decide +kernel
theorem dX6_pass_41 : decode cX6_pass 41 = .ok (.if_icmp .ge 142, 3) := by decide +kernel
theorem dX6_pass_44 : decode cX6_pass 44 = .ok (.aload_n 0, 1) := by decide +kernel
theorem dX6_pass_45 : decode cX6_pass 45 = .ok (.dup, 1) := by decide +kernel
theorem dX6_pass_46 : decode cX6_pass 46 = .ok (.getfield 107, 3) := by decide +kernel
theorem dX6_pass_49 : decode cX6_pass 49 = .ok (.iconst 1, 1) := by decide +kernel
theorem dX6_pass_50 : decode cX6_pass 50 = .ok (.iadd, 1) := by decide +kernel
theorem dX6_pass_51 : decode cX6_pass 51 = .ok (.putfield 107, 3) := by decide +kernel
theorem dX6_pass_54 : decode cX6_pass 54 = .ok (.iconst 0, 1) := by decide +kernel
theorem dX6_pass_55 : decode cX6_pass 55 = .ok (.istore 4, 2) := by decide +kernel
theorem dX6_pass_57 : decode cX6_pass 57 = .ok (.iload 4, 2) := by decide +kernel
theorem dX6_pass_59 : decode cX6_pass 59 = .ok (.aload_n 0, 1) := by decide +kernel
theorem dX6_pass_60 : decode cX6_pass 60 = .ok (.getfield 110, 3) := by decide +kernel
theorem dX6_pass_63 : decode cX6_pass 63 = .ok (.if_icmp .ge 114, 3) := by decide +kernel
theorem dX6_pass_66 : decode cX6_pass 66 = .ok (.aload_n 0, 1) := by decide +kernel
theorem dX6_pass_67 : decode cX6_pass 67 = .ok (.getfield 35, 3) := by decide +kernel
theorem dX6_pass_70 : decode cX6_pass 70 = .ok (.iload 4, 2) := by decide +kernel
theorem dX6_pass_72 : decode cX6_pass 72 = .ok (.iaload, 1) := by decide +kernel
theorem dX6_pass_73 : decode cX6_pass 73 = .ok (.aload_n 0, 1) := by decide +kernel
theorem dX6_pass_74 : decode cX6_pass 74 = .ok (.getfield 107, 3) := by decide +kernel
theorem dX6_pass_77 : decode cX6_pass 77 = .ok (.if_icmp .ne 17, 3) := by decide +kernel
theorem dX6_pass_80 : decode cX6_pass 80 = .ok (.aload_n 0, 1) := by decide +kernel
theorem dX6_pass_81 : decode cX6_pass 81 = .ok (.aload_n 0, 1) := by decide +kernel
theorem dX6_pass_82 : decode cX6_pass 82 = .ok (.getfield 32, 3) := by decide +kernel
theorem dX6_pass_85 : decode cX6_pass 85 = .ok (.iload 4, 2) := by decide +kernel
theorem dX6_pass_87 : decode cX6_pass 87 = .ok (.iaload, 1) := by decide +kernel
theorem dX6_pass_88 : decode cX6_pass 88 = .ok (.invokevirtual 127, 3) := by decide +kernel
theorem dX6_pass_91 : decode cX6_pass 91 = .ok (.goto 4, 3) := by decide +kernel
theorem dX6_pass_94 : decode cX6_pass 94 = .ok (.iconst (-1), 1) := by decide +kernel
theorem dX6_pass_95 : decode cX6_pass 95 = .ok (.istore 5, 2) := by decide +kernel
theorem dX6_pass_97 : decode cX6_pass 97 = .ok (.iload 5, 2) := by decide +kernel
theorem dX6_pass_99 : decode cX6_pass 99 = .ok (.iconst (-1), 1) := by decide +kernel
theorem dX6_pass_100 : decode cX6_pass 100 = .ok (.if_icmp .eq 71, 3) := by decide +kernel
theorem dX6_pass_103 : decode cX6_pass 103 = .ok (.iload 5, 2) := by decide +kernel
theorem dX6_pass_105 : decode cX6_pass 105 = .ok (.aload_n 0, 1) := by decide +kernel
theorem dX6_pass_106 : decode cX6_pass 106 = .ok (.getfield 26, 3) := by decide +kernel
theorem dX6_pass_109 : decode cX6_pass 109 = .ok (.iload 4, 2) := by decide +kernel
theorem dX6_pass_111 : decode cX6_pass 111 = .ok (.iaload, 1) := by decide +kernel
theorem dX6_pass_112 : decode cX6_pass 112 = .ok (.if_icmp .eq 59, 3) := by decide +kernel
theorem dX6_pass_115 : decode cX6_pass 115 = .ok (.aload_n 0, 1) := by decide +kernel
theorem dX6_pass_116 : decode cX6_pass 116 = .ok (.aload_n 0, 1) := by decide +kernel
theorem dX6_pass_117 : decode cX6_pass 117 = .ok (.getfield 29, 3) := by decide +kernel
theorem dX6_pass_120 : decode cX6_pass 120 = .ok (.iload 4, 2) := by decide +kernel
theorem dX6_pass_122 : decode cX6_pass 122 = .ok (.iaload, 1) := by decide +kernel
theorem dX6_pass_123 : decode cX6_pass 123 = .ok (.aload_n 0, 1) := by decide +kernel
theorem dX6_pass_124 : decode cX6_pass 124 = .ok (.getfield 32, 3) := by decide +kernel
theorem dX6_pass_127 : decode cX6_pass 127 = .ok (.iload 4, 2) := by decide +kernel
theorem dX6_pass_129 : decode cX6_pass 129 = .ok (.iaload, 1) := by decide +kernel
theorem dX6_pass_130 : decode cX6_pass 130 = .ok (.invokevirtual 91, 3) := by decide +kernel
theorem dX6_pass_133 : decode cX6_pass 133 = .ok (.ifCond .eq 38, 3) := by decide +kernel
theorem dX6_pass_136 : decode cX6_pass 136 = .ok (.aload_n 0, 1) := by decide +kernel
theorem dX6_pass_137 : decode cX6_pass 137 = .ok (.getfield 20, 3) := by decide +kernel
theorem dX6_pass_140 : decode cX6_pass 140 = .ok (.iload 5, 2) := by decide +kernel
theorem dX6_pass_142 : decode cX6_pass 142 = .ok (.aload_n 0, 1) := by decide +kernel
theorem dX6_pass_143 : decode cX6_pass 143 = .ok (.getfield 20, 3) := by decide +kernel
theorem dX6_pass_146 : decode cX6_pass 146 = .ok (.iload 5, 2) := by decide +kernel
theorem dX6_pass_148 : decode cX6_pass 148 = .ok (.iaload, 1) := by decide +kernel
theorem dX6_pass_149 : decode cX6_pass 149 = .ok (.iconst (-1), 1) := by decide +kernel
theorem dX6_pass_150 : decode cX6_pass 150 = .ok (.if_icmp .ne 10, 3) := by decide +kernel
theorem dX6_pass_153 : decode cX6_pass 153 = .ok (.aload_n 0, 1) := by decide +kernel
theorem dX6_pass_154 : decode cX6_pass 154 = .ok (.getfield 107, 3) := by decide +kernel
theorem dX6_pass_157 : decode cX6_pass 157 = .ok (.goto 10, 3) := by decide +kernel
theorem dX6_pass_160 : decode cX6_pass 160 = .ok (.aload_n 0, 1) := by decide +kernel
theorem dX6_pass_161 : decode cX6_pass 161 = .ok (.getfield 20, 3) := by decide +kernel
theorem dX6_pass_164 : decode cX6_pass 164 = .ok (.iload 5, 2) := by decide +kernel
theorem dX6_pass_166 : decode cX6_pass 166 = .ok (.iaload, 1) := by decide +kernel
theorem dX6_pass_167 : decode cX6_pass 167 = .ok (.iastore, 1) := by decide +kernel
theorem dX6_pass_168 : decode cX6_pass 168 = .ok (.iinc 2 1, 3) := by decide +kernel
theorem dX6_pass_171 : decode cX6_pass 171 = .ok (.iinc 4 1, 3) := by decide +kernel
theorem dX6_pass_174 : decode cX6_pass 174 = .ok (.goto (-117), 3) := by decide +kernel
theorem dX6_pass_177 : decode cX6_pass 177 = .ok (.iinc 3 1, 3) := by decide +kernel
theorem dX6_pass_180 : decode cX6_pass 180 = .ok (.goto (-141), 3) := by decide +kernel
theorem dX6_pass_183 : decode cX6_pass 183 = .ok (.iload_n 2, 1) := by decide +kernel
theorem dX6_pass_184 : decode cX6_pass 184 = .ok (.ireturn, 1) := by decide +kernel
set_option maxRecDepth 20000 in
theorem ggX6_call_X6_isReferee : GoodIn wsX6_call wsX6_isReferee := goodIn_r _ [13, 14, 15, 12, 16] (by decide +kernel) (by decide +kernel)
set_option maxRecDepth 20000 in
theorem gX6_call_X6_isReferee : GoodIn wsX6_call (va_wsS RX6 95 yX6_isReferee wsX6_isReferee) := goodIn_app (goodIn_of _ (by decide +kernel)) ggX6_call_X6_isReferee
set_option maxRecDepth 20000 in
theorem ggX6_call_X6_isPlayer : GoodIn wsX6_call wsX6_isPlayer := goodIn_r _ [19, 14, 15, 12, 16] (by decide +kernel) (by decide +kernel)
set_option maxRecDepth 20000 in
theorem gX6_call_X6_isPlayer : GoodIn wsX6_call (va_wsS RX6 120 yX6_isPlayer wsX6_isPlayer) := goodIn_app (goodIn_of _ (by decide +kernel)) ggX6_call_X6_isPlayer
set_option maxRecDepth 20000 in
theorem ggX6_call_X6_see : GoodIn wsX6_call wsX6_see := goodIn_r _ [23, 24, 25, 26, 12, 27, 28, 29, 30, 14, 15, 16, 31, 32, 33, 39, 40, 41, 42, 43, 44, 45, 46, 47, 48, 49, 50, 51, 52, 53, 54, 55, 56, 57, 58, 59, 60, 61, 62] (by decide +kernel) (by decide +kernel)
set_option maxRecDepth 20000 in
theorem gX6_call_X6_see : GoodIn wsX6_call (wsV RX6 91 RX6 yX6_see wsX6_see) := goodIn_app (goodIn_of _ (by decide +kernel)) ggX6_call_X6_see
set_option maxRecDepth 20000 in
theorem ggX6_call_X6_fails : GoodIn wsX6_call wsX6_fails := goodIn_r _ [37, 38, 39, 40, 41, 42, 43, 44, 45, 46, 47, 48, 49, 50, 51, 52, 53, 54, 55, 56, 57, 58, 59, 60, 61, 62] (by decide +kernel) (by decide +kernel)
set_option maxRecDepth 20000 in
theorem gX6_call_X6_fails : GoodIn wsX6_call (wsV RX6 88 RX6 yX6_fails wsX6_fails) := goodIn_app (goodIn_of _ (by decide +kernel)) ggX6_call_X6_fails
theorem dX6_call_0 : decode cX6_call 0 = .ok (.iload_n 1, 1) := by decide +kernel
theorem dX6_call_1 : decode cX6_call 1 = .ok (.invokestatic 95, 3) := by decide +kernel
theorem dX6_call_4 : decode cX6_call 4 = .ok (.ifCond .eq 14, 3) := by decide +kernel
theorem dX6_call_7 : decode cX6_call 7 = .ok (.iload_n 2, 1) := by decide +kernel
theorem dX6_call_8 : decode cX6_call 8 = .ok (.invokestatic 120, 3) := by decide +kernel
theorem dX6_call_11 : decode cX6_call 11 = .ok (.ifCond .eq 7, 3) := by decide +kernel
theorem dX6_call_14 : decode cX6_call 14 = .ok (.iconst 1, 1) := by decide +kernel
theorem dX6_call_15 : decode cX6_call 15 = .ok (.goto 4, 3) := by decide +kernel
theorem dX6_call_18 : decode cX6_call 18 = .ok (.iconst 0, 1) := by decide +kernel
theorem dX6_call_19 : decode cX6_call 19 = .ok (.istore_n 3, 1) := by decide +kernel
theorem dX6_call_20 : decode cX6_call 20 = .ok (.iload_n 3, 1) := by decide +kernel
theorem dX6_call_21 : decode cX6_call 21 = .ok (.ifCond .eq 42, 3) := by decide +kernel
theorem dX6_call_24 : decode cX6_call 24 = .ok (.aload_n 0, 1) := by decide +kernel
theorem dX6_call_25 : decode cX6_call 25 = .ok (.getfield 84, 3) := by decide +kernel
theorem dX6_call_28 : decode cX6_call 28 = .ok (.ifCond .eq 35, 3) := by decide +kernel
theorem dX6_call_31 : decode cX6_call 31 = .ok (.aload_n 0, 1) := by decide +kernel
theorem dX6_call_32 : decode cX6_call 32 = .ok (.getfield 17, 3) := by decide +kernel
theorem dX6_call_35 : decode cX6_call 35 = .ok (.iload_n 2, 1) := by decide +kernel
theorem dX6_call_36 : decode cX6_call 36 = .ok (.iaload, 1) := by decide +kernel
theorem dX6_call_37 : decode cX6_call 37 = .ok (.ifCond .lt 26, 3) := by decide +kernel
theorem dX6_call_40 : decode cX6_call 40 = .ok (.aload_n 0, 1) := by decide +kernel
theorem dX6_call_41 : decode cX6_call 41 = .ok (.aload_n 0, 1) := by decide +kernel
theorem dX6_call_42 : decode cX6_call 42 = .ok (.getfield 13, 3) := by decide +kernel
theorem dX6_call_45 : decode cX6_call 45 = .ok (.iload_n 1, 1) := by decide +kernel
theorem dX6_call_46 : decode cX6_call 46 = .ok (.iaload, 1) := by decide +kernel
theorem dX6_call_47 : decode cX6_call 47 = .ok (.aload_n 0, 1) := by decide +kernel
theorem dX6_call_48 : decode cX6_call 48 = .ok (.getfield 17, 3) := by decide +kernel
theorem dX6_call_51 : decode cX6_call 51 = .ok (.iload_n 2, 1) := by decide +kernel
theorem dX6_call_52 : decode cX6_call 52 = .ok (.iaload, 1) := by decide +kernel
theorem dX6_call_53 : decode cX6_call 53 = .ok (.invokevirtual 91, 3) := by decide +kernel
theorem dX6_call_56 : decode cX6_call 56 = .ok (.ifCond .eq 7, 3) := by decide +kernel
theorem dX6_call_59 : decode cX6_call 59 = .ok (.iconst 1, 1) := by decide +kernel
theorem dX6_call_60 : decode cX6_call 60 = .ok (.goto 4, 3) := by decide +kernel
theorem dX6_call_63 : decode cX6_call 63 = .ok (.iconst 0, 1) := by decide +kernel
theorem dX6_call_64 : decode cX6_call 64 = .ok (.istore 4, 2) := by decide +kernel
theorem dX6_call_66 : decode cX6_call 66 = .ok (.aload_n 0, 1) := by decide +kernel
theorem dX6_call_67 : decode cX6_call 67 = .ok (.iload_n 3, 1) := by decide +kernel
theorem dX6_call_68 : decode cX6_call 68 = .ok (.ifCond .ne 7, 3) := by decide +kernel
theorem dX6_call_71 : decode cX6_call 71 = .ok (.iconst 1, 1) := by decide +kernel
theorem dX6_call_72 : decode cX6_call 72 = .ok (.goto 13, 3) := by decide +kernel
theorem dX6_call_75 : decode cX6_call 75 = .ok (.iload 4, 2) := by decide +kernel
theorem dX6_call_77 : decode cX6_call 77 = .ok (.ifCond .eq 7, 3) := by decide +kernel
theorem dX6_call_80 : decode cX6_call 80 = .ok (.iconst 0, 1) := by decide +kernel
theorem dX6_call_81 : decode cX6_call 81 = .ok (.goto 4, 3) := by decide +kernel
theorem dX6_call_84 : decode cX6_call 84 = .ok (.iconst 2, 1) := by decide +kernel
theorem dX6_call_85 : decode cX6_call 85 = .ok (.invokevirtual 88, 3) := by decide +kernel
theorem dX6_call_88 : decode cX6_call 88 = .ok (.ifCond .eq 5, 3) := by decide +kernel
theorem dX6_call_91 : decode cX6_call 91 = .ok (.iconst 0, 1) := by decide +kernel
theorem dX6_call_92 : decode cX6_call 92 = .ok (.ireturn, 1) := by decide +kernel
theorem dX6_call_93 : decode cX6_call 93 = .ok (.aload_n 0, 1) := by decide +kernel
theorem dX6_call_94 : decode cX6_call 94 = .ok (.getfield 38, 3) := by decide +kernel
theorem dX6_call_97 : decode cX6_call 97 = .ok (.aload_n 0, 1) := by decide +kernel
theorem dX6_call_98 : decode cX6_call 98 = .ok (.getfield 113, 3) := by decide +kernel
theorem dX6_call_101 : decode cX6_call 101 = .ok (.iload_n 2, 1) := by decide +kernel
theorem dX6_call_102 : decode cX6_call 102 = .ok (.iastore, 1) := by decide +kernel
theorem dX6_call_103 : decode cX6_call 103 = .ok (.aload_n 0, 1) := by decide +kernel
theorem dX6_call_104 : decode cX6_call 104 = .ok (.getfield 41, 3) := by decide +kernel
theorem dX6_call_107 : decode cX6_call 107 = .ok (.aload_n 0, 1) := by decide +kernel
theorem dX6_call_108 : decode cX6_call 108 = .ok (.getfield 113, 3) := by decide +kernel
theorem dX6_call_111 : decode cX6_call 111 = .ok (.aload_n 0, 1) := by decide +kernel
theorem dX6_call_112 : decode cX6_call 112 = .ok (.getfield 107, 3) := by decide +kernel
theorem dX6_call_115 : decode cX6_call 115 = .ok (.iastore, 1) := by decide +kernel
theorem dX6_call_116 : decode cX6_call 116 = .ok (.aload_n 0, 1) := by decide +kernel
theorem dX6_call_117 : decode cX6_call 117 = .ok (.getfield 44, 3) := by decide +kernel
theorem dX6_call_120 : decode cX6_call 120 = .ok (.aload_n 0, 1) := by decide +kernel
theorem dX6_call_121 : decode cX6_call 121 = .ok (.getfield 113, 3) := by decide +kernel
theorem dX6_call_124 : decode cX6_call 124 = .ok (.aload_n 0, 1) := by decide +kernel
theorem dX6_call_125 : decode cX6_call 125 = .ok (.getfield 17, 3) := by decide +kernel
theorem dX6_call_128 : decode cX6_call 128 = .ok (.iload_n 2, 1) := by decide +kernel
theorem dX6_call_129 : decode cX6_call 129 = .ok (.iaload, 1) := by decide +kernel
theorem dX6_call_130 : decode cX6_call 130 = .ok (.iastore, 1) := by decide +kernel
theorem dX6_call_131 : decode cX6_call 131 = .ok (.aload_n 0, 1) := by decide +kernel
theorem dX6_call_132 : decode cX6_call 132 = .ok (.getfield 47, 3) := by decide +kernel
theorem dX6_call_135 : decode cX6_call 135 = .ok (.aload_n 0, 1) := by decide +kernel
theorem dX6_call_136 : decode cX6_call 136 = .ok (.getfield 113, 3) := by decide +kernel
theorem dX6_call_139 : decode cX6_call 139 = .ok (.iconst 0, 1) := by decide +kernel
theorem dX6_call_140 : decode cX6_call 140 = .ok (.bastore, 1) := by decide +kernel
theorem dX6_call_141 : decode cX6_call 141 = .ok (.aload_n 0, 1) := by decide +kernel
theorem dX6_call_142 : decode cX6_call 142 = .ok (.getfield 17, 3) := by decide +kernel
theorem dX6_call_145 : decode cX6_call 145 = .ok (.iload_n 2, 1) := by decide +kernel
theorem dX6_call_146 : decode cX6_call 146 = .ok (.bipush (-2), 2) := by decide +kernel
theorem dX6_call_148 : decode cX6_call 148 = .ok (.iastore, 1) := by decide +kernel
theorem dX6_call_149 : decode cX6_call 149 = .ok (.aload_n 0, 1) := by decide +kernel
theorem dX6_call_150 : decode cX6_call 150 = .ok (.dup, 1) := by decide +kernel
theorem dX6_call_151 : decode cX6_call 151 = .ok (.getfield 113, 3) := by decide +kernel
theorem dX6_call_154 : decode cX6_call 154 = .ok (.iconst 1, 1) := by decide +kernel
theorem dX6_call_155 : decode cX6_call 155 = .ok (.iadd, 1) := by decide +kernel
theorem dX6_call_156 : decode cX6_call 156 = .ok (.putfield 113, 3) := by decide +kernel
theorem dX6_call_159 : decode cX6_call 159 = .ok (.aload_n 0, 1) := by decide +kernel
theorem dX6_call_160 : decode cX6_call 160 = .ok (.getfield 113, 3) := by decide +kernel
theorem dX6_call_163 : decode cX6_call 163 = .ok (.iconst 1, 1) := by decide +kernel
theorem dX6_call_164 : decode cX6_call 164 = .ok (.isub, 1) := by decide +kernel
theorem dX6_call_165 : decode cX6_call 165 = .ok (.ireturn, 1) := by decide +kernel
theorem dX6_teamOf_0 : decode cX6_teamOf 0 = .ok (.iload_n 1, 1) := by decide +kernel
theorem dX6_teamOf_1 : decode cX6_teamOf 1 = .ok (.iconst 3, 1) := by decide +kernel
theorem dX6_teamOf_2 : decode cX6_teamOf 2 = .ok (.if_icmp .ge 10, 3) := by decide +kernel
theorem dX6_teamOf_5 : decode cX6_teamOf 5 = .ok (.aload_n 0, 1) := by decide +kernel
theorem dX6_teamOf_6 : decode cX6_teamOf 6 = .ok (.getfield 101, 3) := by decide +kernel
theorem dX6_teamOf_9 : decode cX6_teamOf 9 = .ok (.goto 7, 3) := by decide +kernel
theorem dX6_teamOf_12 : decode cX6_teamOf 12 = .ok (.aload_n 0, 1) := by decide +kernel
theorem dX6_teamOf_13 : decode cX6_teamOf 13 = .ok (.getfield 104, 3) := by decide +kernel
theorem dX6_teamOf_16 : decode cX6_teamOf 16 = .ok (.ireturn, 1) := by decide +kernel
set_option maxRecDepth 20000 in
theorem ggX6_dispute_X6_isIn : GoodIn wsX6_dispute wsX6_isIn := goodIn_r _ [13] (by decide +kernel) (by decide +kernel)
set_option maxRecDepth 20000 in
theorem gX6_dispute_X6_isIn : GoodIn wsX6_dispute (va_wsS RX6 66 yX6_isIn wsX6_isIn) := goodIn_app (goodIn_of _ (by decide +kernel)) ggX6_dispute_X6_isIn
set_option maxRecDepth 20000 in
theorem ggX6_dispute_X6_fails : GoodIn wsX6_dispute wsX6_fails := goodIn_r _ [17, 18, 29, 30, 31, 32, 33, 34, 35, 36, 37, 38, 39, 40, 41, 42, 43, 44, 45, 46, 47, 48, 49, 50, 51, 52] (by decide +kernel) (by decide +kernel)
set_option maxRecDepth 20000 in
theorem gX6_dispute_X6_fails : GoodIn wsX6_dispute (wsV RX6 88 RX6 yX6_fails wsX6_fails) := goodIn_app (goodIn_of _ (by decide +kernel)) ggX6_dispute_X6_fails
set_option maxRecDepth 20000 in
theorem ggX6_dispute_X6_teamOf : GoodIn wsX6_dispute wsX6_teamOf := goodIn_r _ [22, 23, 24, 29, 30, 31, 32, 33, 34, 35, 36, 37, 38, 39, 40, 41, 42, 43, 44, 45, 46, 47, 48, 49, 50, 51, 52] (by decide +kernel) (by decide +kernel)
set_option maxRecDepth 20000 in
theorem gX6_dispute_X6_teamOf : GoodIn wsX6_dispute (wsV RX6 130 RX6 yX6_teamOf wsX6_teamOf) := goodIn_app (goodIn_of _ (by decide +kernel)) ggX6_dispute_X6_teamOf
set_option maxRecDepth 20000 in
theorem ggX6_dispute_X6_standsOn : GoodIn wsX6_dispute wsX6_standsOn := goodIn_r _ [28, 8, 29, 30, 31, 32, 33, 34, 35, 36, 37, 38, 39, 40, 41, 42, 43, 44, 45, 46, 47, 48, 49, 50, 51, 52] (by decide +kernel) (by decide +kernel)
set_option maxRecDepth 20000 in
theorem gX6_dispute_X6_standsOn : GoodIn wsX6_dispute (wsV RX6 127 RX6 yX6_standsOn wsX6_standsOn) := goodIn_app (goodIn_of _ (by decide +kernel)) ggX6_dispute_X6_standsOn
theorem dX6_dispute_0 : decode cX6_dispute 0 = .ok (.aload_n 0, 1) := by decide +kernel
theorem dX6_dispute_1 : decode cX6_dispute 1 = .ok (.getfield 84, 3) := by decide +kernel
theorem dX6_dispute_4 : decode cX6_dispute 4 = .ok (.ifCond .eq 21, 3) := by decide +kernel
theorem dX6_dispute_7 : decode cX6_dispute 7 = .ok (.iload_n 1, 1) := by decide +kernel
theorem dX6_dispute_8 : decode cX6_dispute 8 = .ok (.iconst 0, 1) := by decide +kernel
theorem dX6_dispute_9 : decode cX6_dispute 9 = .ok (.aload_n 0, 1) := by decide +kernel
theorem dX6_dispute_10 : decode cX6_dispute 10 = .ok (.getfield 113, 3) := by decide +kernel
theorem dX6_dispute_13 : decode cX6_dispute 13 = .ok (.iconst 1, 1) := by decide +kernel
theorem dX6_dispute_14 : decode cX6_dispute 14 = .ok (.isub, 1) := by decide +kernel
theorem dX6_dispute_15 : decode cX6_dispute 15 = .ok (.invokestatic 66, 3) := by decide +kernel
theorem dX6_dispute_18 : decode cX6_dispute 18 = .ok (.ifCond .eq 7, 3) := by decide +kernel
theorem dX6_dispute_21 : decode cX6_dispute 21 = .ok (.iconst 1, 1) := by decide +kernel
theorem dX6_dispute_22 : decode cX6_dispute 22 = .ok (.goto 4, 3) := by decide +kernel
theorem dX6_dispute_25 : decode cX6_dispute 25 = .ok (.iconst 0, 1) := by decide +kernel
theorem dX6_dispute_26 : decode cX6_dispute 26 = .ok (.istore_n 2, 1) := by decide +kernel
theorem dX6_dispute_27 : decode cX6_dispute 27 = .ok (.aload_n 0, 1) := by decide +kernel
theorem dX6_dispute_28 : decode cX6_dispute 28 = .ok (.iload_n 2, 1) := by decide +kernel
theorem dX6_dispute_29 : decode cX6_dispute 29 = .ok (.ifCond .ne 7, 3) := by decide +kernel
theorem dX6_dispute_32 : decode cX6_dispute 32 = .ok (.iconst 1, 1) := by decide +kernel
theorem dX6_dispute_33 : decode cX6_dispute 33 = .ok (.goto 17, 3) := by decide +kernel
theorem dX6_dispute_36 : decode cX6_dispute 36 = .ok (.aload_n 0, 1) := by decide +kernel
theorem dX6_dispute_37 : decode cX6_dispute 37 = .ok (.getfield 47, 3) := by decide +kernel
theorem dX6_dispute_40 : decode cX6_dispute 40 = .ok (.iload_n 1, 1) := by decide +kernel
theorem dX6_dispute_41 : decode cX6_dispute 41 = .ok (.baload, 1) := by decide +kernel
theorem dX6_dispute_42 : decode cX6_dispute 42 = .ok (.ifCond .eq 7, 3) := by decide +kernel
theorem dX6_dispute_45 : decode cX6_dispute 45 = .ok (.iconst 2, 1) := by decide +kernel
theorem dX6_dispute_46 : decode cX6_dispute 46 = .ok (.goto 4, 3) := by decide +kernel
theorem dX6_dispute_49 : decode cX6_dispute 49 = .ok (.iconst 0, 1) := by decide +kernel
theorem dX6_dispute_50 : decode cX6_dispute 50 = .ok (.invokevirtual 88, 3) := by decide +kernel
theorem dX6_dispute_53 : decode cX6_dispute 53 = .ok (.ifCond .eq 5, 3) := by decide +kernel
theorem dX6_dispute_56 : decode cX6_dispute 56 = .ok (.iconst 0, 1) := by decide +kernel
theorem dX6_dispute_57 : decode cX6_dispute 57 = .ok (.ireturn, 1) := by decide +kernel
theorem dX6_dispute_58 : decode cX6_dispute 58 = .ok (.aload_n 0, 1) := by decide +kernel
theorem dX6_dispute_59 : decode cX6_dispute 59 = .ok (.getfield 47, 3) := by decide +kernel
theorem dX6_dispute_62 : decode cX6_dispute 62 = .ok (.iload_n 1, 1) := by decide +kernel
theorem dX6_dispute_63 : decode cX6_dispute 63 = .ok (.iconst 1, 1) := by decide +kernel
theorem dX6_dispute_64 : decode cX6_dispute 64 = .ok (.bastore, 1) := by decide +kernel
theorem dX6_dispute_65 : decode cX6_dispute 65 = .ok (.aload_n 0, 1) := by decide +kernel
theorem dX6_dispute_66 : decode cX6_dispute 66 = .ok (.getfield 38, 3) := by decide +kernel
theorem dX6_dispute_69 : decode cX6_dispute 69 = .ok (.iload_n 1, 1) := by decide +kernel
theorem dX6_dispute_70 : decode cX6_dispute 70 = .ok (.iaload, 1) := by decide +kernel
theorem dX6_dispute_71 : decode cX6_dispute 71 = .ok (.istore_n 3, 1) := by decide +kernel
theorem dX6_dispute_72 : decode cX6_dispute 72 = .ok (.aload_n 0, 1) := by decide +kernel
theorem dX6_dispute_73 : decode cX6_dispute 73 = .ok (.getfield 20, 3) := by decide +kernel
theorem dX6_dispute_76 : decode cX6_dispute 76 = .ok (.iload_n 3, 1) := by decide +kernel
theorem dX6_dispute_77 : decode cX6_dispute 77 = .ok (.iaload, 1) := by decide +kernel
theorem dX6_dispute_78 : decode cX6_dispute 78 = .ok (.iconst (-1), 1) := by decide +kernel
theorem dX6_dispute_79 : decode cX6_dispute 79 = .ok (.if_icmp .eq 22, 3) := by decide +kernel
theorem dX6_dispute_82 : decode cX6_dispute 82 = .ok (.aload_n 0, 1) := by decide +kernel
theorem dX6_dispute_83 : decode cX6_dispute 83 = .ok (.getfield 20, 3) := by decide +kernel
theorem dX6_dispute_86 : decode cX6_dispute 86 = .ok (.iload_n 3, 1) := by decide +kernel
theorem dX6_dispute_87 : decode cX6_dispute 87 = .ok (.iaload, 1) := by decide +kernel
theorem dX6_dispute_88 : decode cX6_dispute 88 = .ok (.aload_n 0, 1) := by decide +kernel
theorem dX6_dispute_89 : decode cX6_dispute 89 = .ok (.getfield 41, 3) := by decide +kernel
theorem dX6_dispute_92 : decode cX6_dispute 92 = .ok (.iload_n 1, 1) := by decide +kernel
theorem dX6_dispute_93 : decode cX6_dispute 93 = .ok (.iaload, 1) := by decide +kernel
theorem dX6_dispute_94 : decode cX6_dispute 94 = .ok (.if_icmp .gt 7, 3) := by decide +kernel
theorem dX6_dispute_97 : decode cX6_dispute 97 = .ok (.iconst 1, 1) := by decide +kernel
theorem dX6_dispute_98 : decode cX6_dispute 98 = .ok (.goto 4, 3) := by decide +kernel
theorem dX6_dispute_101 : decode cX6_dispute 101 = .ok (.iconst 0, 1) := by decide +kernel
theorem dX6_dispute_102 : decode cX6_dispute 102 = .ok (.istore 4, 2) := by decide +kernel
theorem dX6_dispute_104 : decode cX6_dispute 104 = .ok (.iload 4, 2) := by decide +kernel
theorem dX6_dispute_106 : decode cX6_dispute 106 = .ok (.ifCond .eq 20, 3) := by decide +kernel
theorem dX6_dispute_109 : decode cX6_dispute 109 = .ok (.aload_n 0, 1) := by decide +kernel
theorem dX6_dispute_110 : decode cX6_dispute 110 = .ok (.getfield 53, 3) := by decide +kernel
theorem dX6_dispute_113 : decode cX6_dispute 113 = .ok (.aload_n 0, 1) := by decide +kernel
theorem dX6_dispute_114 : decode cX6_dispute 114 = .ok (.iload_n 3, 1) := by decide +kernel
theorem dX6_dispute_115 : decode cX6_dispute 115 = .ok (.invokevirtual 130, 3) := by decide +kernel
theorem dX6_dispute_118 : decode cX6_dispute 118 = .ok (.dup2, 1) := by decide +kernel
theorem dX6_dispute_119 : decode cX6_dispute 119 = .ok (.iaload, 1) := by decide +kernel
theorem dX6_dispute_120 : decode cX6_dispute 120 = .ok (.iconst 1, 1) := by decide +kernel
theorem dX6_dispute_121 : decode cX6_dispute 121 = .ok (.iadd, 1) := by decide +kernel
theorem dX6_dispute_122 : decode cX6_dispute 122 = .ok (.iastore, 1) := by decide +kernel
theorem dX6_dispute_123 : decode cX6_dispute 123 = .ok (.goto 33, 3) := by decide +kernel
theorem dX6_dispute_126 : decode cX6_dispute 126 = .ok (.aload_n 0, 1) := by decide +kernel
theorem dX6_dispute_127 : decode cX6_dispute 127 = .ok (.getfield 17, 3) := by decide +kernel
theorem dX6_dispute_130 : decode cX6_dispute 130 = .ok (.iload_n 3, 1) := by decide +kernel
theorem dX6_dispute_131 : decode cX6_dispute 131 = .ok (.aload_n 0, 1) := by decide +kernel
theorem dX6_dispute_132 : decode cX6_dispute 132 = .ok (.aload_n 0, 1) := by decide +kernel
theorem dX6_dispute_133 : decode cX6_dispute 133 = .ok (.getfield 44, 3) := by decide +kernel
theorem dX6_dispute_136 : decode cX6_dispute 136 = .ok (.iload_n 1, 1) := by decide +kernel
theorem dX6_dispute_137 : decode cX6_dispute 137 = .ok (.iaload, 1) := by decide +kernel
theorem dX6_dispute_138 : decode cX6_dispute 138 = .ok (.invokevirtual 127, 3) := by decide +kernel
theorem dX6_dispute_141 : decode cX6_dispute 141 = .ok (.iconst (-1), 1) := by decide +kernel
theorem dX6_dispute_142 : decode cX6_dispute 142 = .ok (.if_icmp .ne 12, 3) := by decide +kernel
theorem dX6_dispute_145 : decode cX6_dispute 145 = .ok (.aload_n 0, 1) := by decide +kernel
theorem dX6_dispute_146 : decode cX6_dispute 146 = .ok (.getfield 44, 3) := by decide +kernel
theorem dX6_dispute_149 : decode cX6_dispute 149 = .ok (.iload_n 1, 1) := by decide +kernel
theorem dX6_dispute_150 : decode cX6_dispute 150 = .ok (.iaload, 1) := by decide +kernel
theorem dX6_dispute_151 : decode cX6_dispute 151 = .ok (.goto 4, 3) := by decide +kernel
theorem dX6_dispute_154 : decode cX6_dispute 154 = .ok (.iconst (-1), 1) := by decide +kernel
theorem dX6_dispute_155 : decode cX6_dispute 155 = .ok (.iastore, 1) := by decide +kernel
theorem dX6_dispute_156 : decode cX6_dispute 156 = .ok (.iload 4, 2) := by decide +kernel
theorem dX6_dispute_158 : decode cX6_dispute 158 = .ok (.ireturn, 1) := by decide +kernel
set_option maxRecDepth 20000 in
theorem ggX6_end_X6_fails : GoodIn wsX6_end wsX6_fails := goodIn_r _ [14, 15, 16, 17, 18, 19, 20, 21, 22, 23, 24, 25, 26, 27, 28, 29, 30, 31, 32, 33, 34, 35, 36, 37, 38, 39] (by decide +kernel) (by decide +kernel)
set_option maxRecDepth 20000 in
theorem gX6_end_X6_fails : GoodIn wsX6_end (wsV RX6 88 RX6 yX6_fails wsX6_fails) := goodIn_app (goodIn_of _ (by decide +kernel)) ggX6_end_X6_fails
theorem dX6_end_0 : decode cX6_end 0 = .ok (.aload_n 0, 1) := by decide +kernel
theorem dX6_end_1 : decode cX6_end 1 = .ok (.aload_n 0, 1) := by decide +kernel
theorem dX6_end_2 : decode cX6_end 2 = .ok (.getfield 84, 3) := by decide +kernel
theorem dX6_end_5 : decode cX6_end 5 = .ok (.ifCond .eq 7, 3) := by decide +kernel
theorem dX6_end_8 : decode cX6_end 8 = .ok (.iconst 0, 1) := by decide +kernel
theorem dX6_end_9 : decode cX6_end 9 = .ok (.goto 4, 3) := by decide +kernel
theorem dX6_end_12 : decode cX6_end 12 = .ok (.iconst 1, 1) := by decide +kernel
theorem dX6_end_13 : decode cX6_end 13 = .ok (.invokevirtual 88, 3) := by decide +kernel
theorem dX6_end_16 : decode cX6_end 16 = .ok (.ifCond .eq 5, 3) := by decide +kernel
theorem dX6_end_19 : decode cX6_end 19 = .ok (.iconst 0, 1) := by decide +kernel
theorem dX6_end_20 : decode cX6_end 20 = .ok (.ireturn, 1) := by decide +kernel
theorem dX6_end_21 : decode cX6_end 21 = .ok (.aload_n 0, 1) := by decide +kernel
theorem dX6_end_22 : decode cX6_end 22 = .ok (.iconst 0, 1) := by decide +kernel
theorem dX6_end_23 : decode cX6_end 23 = .ok (.putfield 84, 3) := by decide +kernel
theorem dX6_end_26 : decode cX6_end 26 = .ok (.iconst 0, 1) := by decide +kernel
theorem dX6_end_27 : decode cX6_end 27 = .ok (.istore_n 1, 1) := by decide +kernel
theorem dX6_end_28 : decode cX6_end 28 = .ok (.iconst 0, 1) := by decide +kernel
theorem dX6_end_29 : decode cX6_end 29 = .ok (.istore_n 2, 1) := by decide +kernel
theorem dX6_end_30 : decode cX6_end 30 = .ok (.iload_n 2, 1) := by decide +kernel
theorem dX6_end_31 : decode cX6_end 31 = .ok (.bipush 6, 2) := by decide +kernel
theorem dX6_end_33 : decode cX6_end 33 = .ok (.if_icmp .ge 57, 3) := by decide +kernel
theorem dX6_end_36 : decode cX6_end 36 = .ok (.aload_n 0, 1) := by decide +kernel
theorem dX6_end_37 : decode cX6_end 37 = .ok (.getfield 17, 3) := by decide +kernel
theorem dX6_end_40 : decode cX6_end 40 = .ok (.iload_n 2, 1) := by decide +kernel
theorem dX6_end_41 : decode cX6_end 41 = .ok (.iaload, 1) := by decide +kernel
theorem dX6_end_42 : decode cX6_end 42 = .ok (.bipush (-2), 2) := by decide +kernel
theorem dX6_end_44 : decode cX6_end 44 = .ok (.if_icmp .eq 17, 3) := by decide +kernel
theorem dX6_end_47 : decode cX6_end 47 = .ok (.aload_n 0, 1) := by decide +kernel
theorem dX6_end_48 : decode cX6_end 48 = .ok (.getfield 20, 3) := by decide +kernel
theorem dX6_end_51 : decode cX6_end 51 = .ok (.iload_n 2, 1) := by decide +kernel
theorem dX6_end_52 : decode cX6_end 52 = .ok (.iaload, 1) := by decide +kernel
theorem dX6_end_53 : decode cX6_end 53 = .ok (.iconst (-1), 1) := by decide +kernel
theorem dX6_end_54 : decode cX6_end 54 = .ok (.if_icmp .ne 7, 3) := by decide +kernel
theorem dX6_end_57 : decode cX6_end 57 = .ok (.iconst 1, 1) := by decide +kernel
theorem dX6_end_58 : decode cX6_end 58 = .ok (.goto 4, 3) := by decide +kernel
theorem dX6_end_61 : decode cX6_end 61 = .ok (.iconst 0, 1) := by decide +kernel
theorem dX6_end_62 : decode cX6_end 62 = .ok (.istore_n 3, 1) := by decide +kernel
theorem dX6_end_63 : decode cX6_end 63 = .ok (.iload_n 1, 1) := by decide +kernel
theorem dX6_end_64 : decode cX6_end 64 = .ok (.iload_n 3, 1) := by decide +kernel
theorem dX6_end_65 : decode cX6_end 65 = .ok (.ifCond .ne 7, 3) := by decide +kernel
theorem dX6_end_68 : decode cX6_end 68 = .ok (.iconst 0, 1) := by decide +kernel
theorem dX6_end_69 : decode cX6_end 69 = .ok (.goto 13, 3) := by decide +kernel
theorem dX6_end_72 : decode cX6_end 72 = .ok (.iload_n 2, 1) := by decide +kernel
theorem dX6_end_73 : decode cX6_end 73 = .ok (.iconst 3, 1) := by decide +kernel
theorem dX6_end_74 : decode cX6_end 74 = .ok (.if_icmp .ge 7, 3) := by decide +kernel
theorem dX6_end_77 : decode cX6_end 77 = .ok (.iconst 1, 1) := by decide +kernel
theorem dX6_end_78 : decode cX6_end 78 = .ok (.goto 4, 3) := by decide +kernel
theorem dX6_end_81 : decode cX6_end 81 = .ok (.iconst (-1), 1) := by decide +kernel
theorem dX6_end_82 : decode cX6_end 82 = .ok (.iadd, 1) := by decide +kernel
theorem dX6_end_83 : decode cX6_end 83 = .ok (.istore_n 1, 1) := by decide +kernel
theorem dX6_end_84 : decode cX6_end 84 = .ok (.iinc 2 1, 3) := by decide +kernel
theorem dX6_end_87 : decode cX6_end 87 = .ok (.goto (-57), 3) := by decide +kernel
theorem dX6_end_90 : decode cX6_end 90 = .ok (.aload_n 0, 1) := by decide +kernel
theorem dX6_end_91 : decode cX6_end 91 = .ok (.getfield 50, 3) := by decide +kernel
theorem dX6_end_94 : decode cX6_end 94 = .ok (.aload_n 0, 1) := by decide +kernel
theorem dX6_end_95 : decode cX6_end 95 = .ok (.getfield 101, 3) := by decide +kernel
theorem dX6_end_98 : decode cX6_end 98 = .ok (.dup2, 1) := by decide +kernel
theorem dX6_end_99 : decode cX6_end 99 = .ok (.iaload, 1) := by decide +kernel
theorem dX6_end_100 : decode cX6_end 100 = .ok (.iload_n 1, 1) := by decide +kernel
theorem dX6_end_101 : decode cX6_end 101 = .ok (.ifCond .le 7, 3) := by decide +kernel
theorem dX6_end_104 : decode cX6_end 104 = .ok (.iconst 3, 1) := by decide +kernel
theorem dX6_end_105 : decode cX6_end 105 = .ok (.goto 12, 3) := by decide +kernel
theorem dX6_end_108 : decode cX6_end 108 = .ok (.iload_n 1, 1) := by decide +kernel
theorem dX6_end_109 : decode cX6_end 109 = .ok (.ifCond .ne 7, 3) := by decide +kernel
theorem dX6_end_112 : decode cX6_end 112 = .ok (.iconst 1, 1) := by decide +kernel
theorem dX6_end_113 : decode cX6_end 113 = .ok (.goto 4, 3) := by decide +kernel
theorem dX6_end_116 : decode cX6_end 116 = .ok (.iconst 0, 1) := by decide +kernel
theorem dX6_end_117 : decode cX6_end 117 = .ok (.iadd, 1) := by decide +kernel
theorem dX6_end_118 : decode cX6_end 118 = .ok (.iastore, 1) := by decide +kernel
theorem dX6_end_119 : decode cX6_end 119 = .ok (.aload_n 0, 1) := by decide +kernel
theorem dX6_end_120 : decode cX6_end 120 = .ok (.getfield 50, 3) := by decide +kernel
theorem dX6_end_123 : decode cX6_end 123 = .ok (.aload_n 0, 1) := by decide +kernel
theorem dX6_end_124 : decode cX6_end 124 = .ok (.getfield 104, 3) := by decide +kernel
theorem dX6_end_127 : decode cX6_end 127 = .ok (.dup2, 1) := by decide +kernel
theorem dX6_end_128 : decode cX6_end 128 = .ok (.iaload, 1) := by decide +kernel
theorem dX6_end_129 : decode cX6_end 129 = .ok (.iload_n 1, 1) := by decide +kernel
theorem dX6_end_130 : decode cX6_end 130 = .ok (.ifCond .ge 7, 3) := by decide +kernel
theorem dX6_end_133 : decode cX6_end 133 = .ok (.iconst 3, 1) := by decide +kernel
theorem dX6_end_134 : decode cX6_end 134 = .ok (.goto 12, 3) := by decide +kernel
theorem dX6_end_137 : decode cX6_end 137 = .ok (.iload_n 1, 1) := by decide +kernel
theorem dX6_end_138 : decode cX6_end 138 = .ok (.ifCond .ne 7, 3) := by decide +kernel
theorem dX6_end_141 : decode cX6_end 141 = .ok (.iconst 1, 1) := by decide +kernel
theorem dX6_end_142 : decode cX6_end 142 = .ok (.goto 4, 3) := by decide +kernel
theorem dX6_end_145 : decode cX6_end 145 = .ok (.iconst 0, 1) := by decide +kernel
theorem dX6_end_146 : decode cX6_end 146 = .ok (.iadd, 1) := by decide +kernel
theorem dX6_end_147 : decode cX6_end 147 = .ok (.iastore, 1) := by decide +kernel
theorem dX6_end_148 : decode cX6_end 148 = .ok (.aload_n 0, 1) := by decide +kernel
theorem dX6_end_149 : decode cX6_end 149 = .ok (.getfield 59, 3) := by decide +kernel
theorem dX6_end_152 : decode cX6_end 152 = .ok (.bipush 6, 2) := by decide +kernel
theorem dX6_end_154 : decode cX6_end 154 = .ok (.aload_n 0, 1) := by decide +kernel
theorem dX6_end_155 : decode cX6_end 155 = .ok (.getfield 101, 3) := by decide +kernel
theorem dX6_end_158 : decode cX6_end 158 = .ok (.imul, 1) := by decide +kernel
theorem dX6_end_159 : decode cX6_end 159 = .ok (.aload_n 0, 1) := by decide +kernel
theorem dX6_end_160 : decode cX6_end 160 = .ok (.getfield 104, 3) := by decide +kernel
theorem dX6_end_163 : decode cX6_end 163 = .ok (.iadd, 1) := by decide +kernel
theorem dX6_end_164 : decode cX6_end 164 = .ok (.dup2, 1) := by decide +kernel
theorem dX6_end_165 : decode cX6_end 165 = .ok (.iaload, 1) := by decide +kernel
theorem dX6_end_166 : decode cX6_end 166 = .ok (.iload_n 1, 1) := by decide +kernel
theorem dX6_end_167 : decode cX6_end 167 = .ok (.ifCond .le 7, 3) := by decide +kernel
theorem dX6_end_170 : decode cX6_end 170 = .ok (.iconst 1, 1) := by decide +kernel
theorem dX6_end_171 : decode cX6_end 171 = .ok (.goto 4, 3) := by decide +kernel
theorem dX6_end_174 : decode cX6_end 174 = .ok (.iconst 0, 1) := by decide +kernel
theorem dX6_end_175 : decode cX6_end 175 = .ok (.iadd, 1) := by decide +kernel
theorem dX6_end_176 : decode cX6_end 176 = .ok (.iastore, 1) := by decide +kernel
theorem dX6_end_177 : decode cX6_end 177 = .ok (.aload_n 0, 1) := by decide +kernel
theorem dX6_end_178 : decode cX6_end 178 = .ok (.getfield 59, 3) := by decide +kernel
theorem dX6_end_181 : decode cX6_end 181 = .ok (.bipush 6, 2) := by decide +kernel
theorem dX6_end_183 : decode cX6_end 183 = .ok (.aload_n 0, 1) := by decide +kernel
theorem dX6_end_184 : decode cX6_end 184 = .ok (.getfield 104, 3) := by decide +kernel
theorem dX6_end_187 : decode cX6_end 187 = .ok (.imul, 1) := by decide +kernel
theorem dX6_end_188 : decode cX6_end 188 = .ok (.aload_n 0, 1) := by decide +kernel
theorem dX6_end_189 : decode cX6_end 189 = .ok (.getfield 101, 3) := by decide +kernel
theorem dX6_end_192 : decode cX6_end 192 = .ok (.iadd, 1) := by decide +kernel
theorem dX6_end_193 : decode cX6_end 193 = .ok (.dup2, 1) := by decide +kernel
theorem dX6_end_194 : decode cX6_end 194 = .ok (.iaload, 1) := by decide +kernel
theorem dX6_end_195 : decode cX6_end 195 = .ok (.iload_n 1, 1) := by decide +kernel
theorem dX6_end_196 : decode cX6_end 196 = .ok (.ifCond .ge 7, 3) := by decide +kernel
theorem dX6_end_199 : decode cX6_end 199 = .ok (.iconst 1, 1) := by decide +kernel
theorem dX6_end_200 : decode cX6_end 200 = .ok (.goto 4, 3) := by decide +kernel
theorem dX6_end_203 : decode cX6_end 203 = .ok (.iconst 0, 1) := by decide +kernel
theorem dX6_end_204 : decode cX6_end 204 = .ok (.iadd, 1) := by decide +kernel
theorem dX6_end_205 : decode cX6_end 205 = .ok (.iastore, 1) := by decide +kernel
theorem dX6_end_206 : decode cX6_end 206 = .ok (.aload_n 0, 1) := by decide +kernel
theorem dX6_end_207 : decode cX6_end 207 = .ok (.getfield 56, 3) := by decide +kernel
theorem dX6_end_210 : decode cX6_end 210 = .ok (.aload_n 0, 1) := by decide +kernel
theorem dX6_end_211 : decode cX6_end 211 = .ok (.getfield 101, 3) := by decide +kernel
theorem dX6_end_214 : decode cX6_end 214 = .ok (.dup2, 1) := by decide +kernel
theorem dX6_end_215 : decode cX6_end 215 = .ok (.iaload, 1) := by decide +kernel
theorem dX6_end_216 : decode cX6_end 216 = .ok (.iload_n 1, 1) := by decide +kernel
theorem dX6_end_217 : decode cX6_end 217 = .ok (.iadd, 1) := by decide +kernel
theorem dX6_end_218 : decode cX6_end 218 = .ok (.iastore, 1) := by decide +kernel
theorem dX6_end_219 : decode cX6_end 219 = .ok (.aload_n 0, 1) := by decide +kernel
theorem dX6_end_220 : decode cX6_end 220 = .ok (.getfield 56, 3) := by decide +kernel
theorem dX6_end_223 : decode cX6_end 223 = .ok (.aload_n 0, 1) := by decide +kernel
theorem dX6_end_224 : decode cX6_end 224 = .ok (.getfield 104, 3) := by decide +kernel
theorem dX6_end_227 : decode cX6_end 227 = .ok (.dup2, 1) := by decide +kernel
theorem dX6_end_228 : decode cX6_end 228 = .ok (.iaload, 1) := by decide +kernel
theorem dX6_end_229 : decode cX6_end 229 = .ok (.iload_n 1, 1) := by decide +kernel
theorem dX6_end_230 : decode cX6_end 230 = .ok (.isub, 1) := by decide +kernel
theorem dX6_end_231 : decode cX6_end 231 = .ok (.iastore, 1) := by decide +kernel
theorem dX6_end_232 : decode cX6_end 232 = .ok (.iconst 0, 1) := by decide +kernel
theorem dX6_end_233 : decode cX6_end 233 = .ok (.istore_n 2, 1) := by decide +kernel
theorem dX6_end_234 : decode cX6_end 234 = .ok (.iload_n 2, 1) := by decide +kernel
theorem dX6_end_235 : decode cX6_end 235 = .ok (.bipush 6, 2) := by decide +kernel
theorem dX6_end_237 : decode cX6_end 237 = .ok (.if_icmp .ge 39, 3) := by decide +kernel
theorem dX6_end_240 : decode cX6_end 240 = .ok (.aload_n 0, 1) := by decide +kernel
theorem dX6_end_241 : decode cX6_end 241 = .ok (.getfield 53, 3) := by decide +kernel
theorem dX6_end_244 : decode cX6_end 244 = .ok (.iload_n 2, 1) := by decide +kernel
theorem dX6_end_245 : decode cX6_end 245 = .ok (.iaload, 1) := by decide +kernel
theorem dX6_end_246 : decode cX6_end 246 = .ok (.iconst 2, 1) := by decide +kernel
theorem dX6_end_247 : decode cX6_end 247 = .ok (.if_icmp .lt 23, 3) := by decide +kernel
theorem dX6_end_250 : decode cX6_end 250 = .ok (.aload_n 0, 1) := by decide +kernel
theorem dX6_end_251 : decode cX6_end 251 = .ok (.getfield 53, 3) := by decide +kernel
theorem dX6_end_254 : decode cX6_end 254 = .ok (.iload_n 2, 1) := by decide +kernel
theorem dX6_end_255 : decode cX6_end 255 = .ok (.dup2, 1) := by decide +kernel
theorem dX6_end_256 : decode cX6_end 256 = .ok (.iaload, 1) := by decide +kernel
theorem dX6_end_257 : decode cX6_end 257 = .ok (.iconst 2, 1) := by decide +kernel
theorem dX6_end_258 : decode cX6_end 258 = .ok (.isub, 1) := by decide +kernel
theorem dX6_end_259 : decode cX6_end 259 = .ok (.iastore, 1) := by decide +kernel
theorem dX6_end_260 : decode cX6_end 260 = .ok (.aload_n 0, 1) := by decide +kernel
theorem dX6_end_261 : decode cX6_end 261 = .ok (.getfield 50, 3) := by decide +kernel
theorem dX6_end_264 : decode cX6_end 264 = .ok (.iload_n 2, 1) := by decide +kernel
theorem dX6_end_265 : decode cX6_end 265 = .ok (.dup2, 1) := by decide +kernel
theorem dX6_end_266 : decode cX6_end 266 = .ok (.iaload, 1) := by decide +kernel
theorem dX6_end_267 : decode cX6_end 267 = .ok (.iconst 1, 1) := by decide +kernel
theorem dX6_end_268 : decode cX6_end 268 = .ok (.isub, 1) := by decide +kernel
theorem dX6_end_269 : decode cX6_end 269 = .ok (.iastore, 1) := by decide +kernel
theorem dX6_end_270 : decode cX6_end 270 = .ok (.iinc 2 1, 3) := by decide +kernel
theorem dX6_end_273 : decode cX6_end 273 = .ok (.goto (-39), 3) := by decide +kernel
theorem dX6_end_276 : decode cX6_end 276 = .ok (.iload_n 1, 1) := by decide +kernel
theorem dX6_end_277 : decode cX6_end 277 = .ok (.ireturn, 1) := by decide +kernel
theorem dX6_tick_0 : decode cX6_tick 0 = .ok (.aload_n 0, 1) := by decide +kernel
theorem dX6_tick_1 : decode cX6_tick 1 = .ok (.iconst 0, 1) := by decide +kernel
theorem dX6_tick_2 : decode cX6_tick 2 = .ok (.putfield 62, 3) := by decide +kernel
theorem dX6_tick_5 : decode cX6_tick 5 = .ok (.aload_n 0, 1) := by decide +kernel
theorem dX6_tick_6 : decode cX6_tick 6 = .ok (.getfield 84, 3) := by decide +kernel
theorem dX6_tick_9 : decode cX6_tick 9 = .ok (.ifCond .eq 10, 3) := by decide +kernel
theorem dX6_tick_12 : decode cX6_tick 12 = .ok (.aload_n 0, 1) := by decide +kernel
theorem dX6_tick_13 : decode cX6_tick 13 = .ok (.getfield 107, 3) := by decide +kernel
theorem dX6_tick_16 : decode cX6_tick 16 = .ok (.goto 4, 3) := by decide +kernel
theorem dX6_tick_19 : decode cX6_tick 19 = .ok (.iconst (-1), 1) := by decide +kernel
theorem dX6_tick_20 : decode cX6_tick 20 = .ok (.ireturn, 1) := by decide +kernel
set_option maxRecDepth 20000 in
theorem ggX6_where_X6_isPlayer : GoodIn wsX6_where wsX6_isPlayer := goodIn_r _ [6, 7, 8, 5, 9] (by decide +kernel) (by decide +kernel)
set_option maxRecDepth 20000 in
theorem gX6_where_X6_isPlayer : GoodIn wsX6_where (va_wsS RX6 120 yX6_isPlayer wsX6_isPlayer) := goodIn_app (goodIn_of _ (by decide +kernel)) ggX6_where_X6_isPlayer
set_option maxRecDepth 20000 in
theorem ggX6_where_X6_fails : GoodIn wsX6_where wsX6_fails := goodIn_r _ [13, 14, 15, 16, 17, 18, 19, 20, 21, 22, 23, 24, 25, 26, 27, 28, 29, 30, 31, 32, 33, 34, 35, 36, 37, 38] (by decide +kernel) (by decide +kernel)
set_option maxRecDepth 20000 in
theorem gX6_where_X6_fails : GoodIn wsX6_where (wsV RX6 88 RX6 yX6_fails wsX6_fails) := goodIn_app (goodIn_of _ (by decide +kernel)) ggX6_where_X6_fails
theorem dX6_where_0 : decode cX6_where 0 = .ok (.aload_n 0, 1) := by decide +kernel
theorem dX6_where_1 : decode cX6_where 1 = .ok (.iload_n 1, 1) := by decide +kernel
theorem dX6_where_2 : decode cX6_where 2 = .ok (.invokestatic 120, 3) := by decide +kernel
theorem dX6_where_5 : decode cX6_where 5 = .ok (.ifCond .eq 7, 3) := by decide +kernel
theorem dX6_where_8 : decode cX6_where 8 = .ok (.iconst 0, 1) := by decide +kernel
theorem dX6_where_9 : decode cX6_where 9 = .ok (.goto 4, 3) := by decide +kernel
theorem dX6_where_12 : decode cX6_where 12 = .ok (.iconst 1, 1) := by decide +kernel
theorem dX6_where_13 : decode cX6_where 13 = .ok (.invokevirtual 88, 3) := by decide +kernel
theorem dX6_where_16 : decode cX6_where 16 = .ok (.ifCond .eq 7, 3) := by decide +kernel
theorem dX6_where_19 : decode cX6_where 19 = .ok (.iconst 0, 1) := by decide +kernel
theorem dX6_where_20 : decode cX6_where 20 = .ok (.goto 21, 3) := by decide +kernel
theorem dX6_where_23 : decode cX6_where 23 = .ok (.aload_n 0, 1) := by decide +kernel
theorem dX6_where_24 : decode cX6_where 24 = .ok (.getfield 84, 3) := by decide +kernel
theorem dX6_where_27 : decode cX6_where 27 = .ok (.ifCond .eq 12, 3) := by decide +kernel
theorem dX6_where_30 : decode cX6_where 30 = .ok (.aload_n 0, 1) := by decide +kernel
theorem dX6_where_31 : decode cX6_where 31 = .ok (.getfield 17, 3) := by decide +kernel
theorem dX6_where_34 : decode cX6_where 34 = .ok (.iload_n 1, 1) := by decide +kernel
theorem dX6_where_35 : decode cX6_where 35 = .ok (.iaload, 1) := by decide +kernel
theorem dX6_where_36 : decode cX6_where 36 = .ok (.goto 5, 3) := by decide +kernel
theorem dX6_where_39 : decode cX6_where 39 = .ok (.bipush (-2), 2) := by decide +kernel
theorem dX6_where_41 : decode cX6_where 41 = .ok (.ireturn, 1) := by decide +kernel
set_option maxRecDepth 20000 in
theorem ggX6_hit_X6_isPlayer : GoodIn wsX6_hit wsX6_isPlayer := goodIn_r _ [6, 7, 8, 5, 9] (by decide +kernel) (by decide +kernel)
set_option maxRecDepth 20000 in
theorem gX6_hit_X6_isPlayer : GoodIn wsX6_hit (va_wsS RX6 120 yX6_isPlayer wsX6_isPlayer) := goodIn_app (goodIn_of _ (by decide +kernel)) ggX6_hit_X6_isPlayer
set_option maxRecDepth 20000 in
theorem ggX6_hit_X6_fails : GoodIn wsX6_hit wsX6_fails := goodIn_r _ [13, 14, 15, 16, 17, 18, 19, 20, 21, 22, 23, 24, 25, 26, 27, 28, 29, 30, 31, 32, 33, 34, 35, 36, 37, 38] (by decide +kernel) (by decide +kernel)
set_option maxRecDepth 20000 in
theorem gX6_hit_X6_fails : GoodIn wsX6_hit (wsV RX6 88 RX6 yX6_fails wsX6_fails) := goodIn_app (goodIn_of _ (by decide +kernel)) ggX6_hit_X6_fails
theorem dX6_hit_0 : decode cX6_hit 0 = .ok (.aload_n 0, 1) := by decide +kernel
theorem dX6_hit_1 : decode cX6_hit 1 = .ok (.iload_n 1, 1) := by decide +kernel
theorem dX6_hit_2 : decode cX6_hit 2 = .ok (.invokestatic 120, 3) := by decide +kernel
theorem dX6_hit_5 : decode cX6_hit 5 = .ok (.ifCond .eq 7, 3) := by decide +kernel
theorem dX6_hit_8 : decode cX6_hit 8 = .ok (.iconst 0, 1) := by decide +kernel
theorem dX6_hit_9 : decode cX6_hit 9 = .ok (.goto 4, 3) := by decide +kernel
theorem dX6_hit_12 : decode cX6_hit 12 = .ok (.iconst 1, 1) := by decide +kernel
theorem dX6_hit_13 : decode cX6_hit 13 = .ok (.invokevirtual 88, 3) := by decide +kernel
theorem dX6_hit_16 : decode cX6_hit 16 = .ok (.ifCond .eq 7, 3) := by decide +kernel
theorem dX6_hit_19 : decode cX6_hit 19 = .ok (.iconst 0, 1) := by decide +kernel
theorem dX6_hit_20 : decode cX6_hit 20 = .ok (.goto 20, 3) := by decide +kernel
theorem dX6_hit_23 : decode cX6_hit 23 = .ok (.aload_n 0, 1) := by decide +kernel
theorem dX6_hit_24 : decode cX6_hit 24 = .ok (.getfield 84, 3) := by decide +kernel
theorem dX6_hit_27 : decode cX6_hit 27 = .ok (.ifCond .eq 12, 3) := by decide +kernel
theorem dX6_hit_30 : decode cX6_hit 30 = .ok (.aload_n 0, 1) := by decide +kernel
theorem dX6_hit_31 : decode cX6_hit 31 = .ok (.getfield 20, 3) := by decide +kernel
theorem dX6_hit_34 : decode cX6_hit 34 = .ok (.iload_n 1, 1) := by decide +kernel
theorem dX6_hit_35 : decode cX6_hit 35 = .ok (.iaload, 1) := by decide +kernel
theorem dX6_hit_36 : decode cX6_hit 36 = .ok (.goto 4, 3) := by decide +kernel
theorem dX6_hit_39 : decode cX6_hit 39 = .ok (.iconst (-1), 1) := by decide +kernel
theorem dX6_hit_40 : decode cX6_hit 40 = .ok (.ireturn, 1) := by decide +kernel
theorem dX6_flying_0 : decode cX6_flying 0 = .ok (.aload_n 0, 1) := by decide +kernel
theorem dX6_flying_1 : decode cX6_flying 1 = .ok (.iconst 0, 1) := by decide +kernel
theorem dX6_flying_2 : decode cX6_flying 2 = .ok (.putfield 62, 3) := by decide +kernel
theorem dX6_flying_5 : decode cX6_flying 5 = .ok (.iconst 0, 1) := by decide +kernel
theorem dX6_flying_6 : decode cX6_flying 6 = .ok (.istore_n 1, 1) := by decide +kernel
theorem dX6_flying_7 : decode cX6_flying 7 = .ok (.iconst 0, 1) := by decide +kernel
theorem dX6_flying_8 : decode cX6_flying 8 = .ok (.istore_n 2, 1) := by decide +kernel
theorem dX6_flying_9 : decode cX6_flying 9 = .ok (.iload_n 2, 1) := by decide +kernel
theorem dX6_flying_10 : decode cX6_flying 10 = .ok (.aload_n 0, 1) := by decide +kernel
theorem dX6_flying_11 : decode cX6_flying 11 = .ok (.getfield 110, 3) := by decide +kernel
theorem dX6_flying_14 : decode cX6_flying 14 = .ok (.if_icmp .ge 37, 3) := by decide +kernel
theorem dX6_flying_17 : decode cX6_flying 17 = .ok (.aload_n 0, 1) := by decide +kernel
theorem dX6_flying_18 : decode cX6_flying 18 = .ok (.getfield 84, 3) := by decide +kernel
theorem dX6_flying_21 : decode cX6_flying 21 = .ok (.ifCond .eq 30, 3) := by decide +kernel
theorem dX6_flying_24 : decode cX6_flying 24 = .ok (.iload_n 1, 1) := by decide +kernel
theorem dX6_flying_25 : decode cX6_flying 25 = .ok (.aload_n 0, 1) := by decide +kernel
theorem dX6_flying_26 : decode cX6_flying 26 = .ok (.getfield 35, 3) := by decide +kernel
theorem dX6_flying_29 : decode cX6_flying 29 = .ok (.iload_n 2, 1) := by decide +kernel
theorem dX6_flying_30 : decode cX6_flying 30 = .ok (.iaload, 1) := by decide +kernel
theorem dX6_flying_31 : decode cX6_flying 31 = .ok (.aload_n 0, 1) := by decide +kernel
theorem dX6_flying_32 : decode cX6_flying 32 = .ok (.getfield 107, 3) := by decide +kernel
theorem dX6_flying_35 : decode cX6_flying 35 = .ok (.if_icmp .le 7, 3) := by decide +kernel
theorem dX6_flying_38 : decode cX6_flying 38 = .ok (.iconst 1, 1) := by decide +kernel
theorem dX6_flying_39 : decode cX6_flying 39 = .ok (.goto 4, 3) := by decide +kernel
theorem dX6_flying_42 : decode cX6_flying 42 = .ok (.iconst 0, 1) := by decide +kernel
theorem dX6_flying_43 : decode cX6_flying 43 = .ok (.iadd, 1) := by decide +kernel
theorem dX6_flying_44 : decode cX6_flying 44 = .ok (.istore_n 1, 1) := by decide +kernel
theorem dX6_flying_45 : decode cX6_flying 45 = .ok (.iinc 2 1, 3) := by decide +kernel
theorem dX6_flying_48 : decode cX6_flying 48 = .ok (.goto (-39), 3) := by decide +kernel
theorem dX6_flying_51 : decode cX6_flying 51 = .ok (.iload_n 1, 1) := by decide +kernel
theorem dX6_flying_52 : decode cX6_flying 52 = .ok (.ireturn, 1) := by decide +kernel
set_option maxRecDepth 20000 in
theorem ggX6_of_X6_isTeam : GoodIn wsX6_of wsX6_isTeam := goodIn_r _ [4, 5, 6, 3, 7] (by decide +kernel) (by decide +kernel)
set_option maxRecDepth 20000 in
theorem gX6_of_X6_isTeam : GoodIn wsX6_of (va_wsS RX6 98 yX6_isTeam wsX6_isTeam) := goodIn_app (goodIn_of _ (by decide +kernel)) ggX6_of_X6_isTeam
set_option maxRecDepth 20000 in
theorem ggX6_of_X6_fails : GoodIn wsX6_of wsX6_fails := goodIn_r _ [11, 12, 13, 14, 15, 16, 17, 18, 19, 20, 21, 22, 23, 24, 25, 26, 27, 28, 29, 30, 31, 32, 33, 34, 35, 36] (by decide +kernel) (by decide +kernel)
set_option maxRecDepth 20000 in
theorem gX6_of_X6_fails : GoodIn wsX6_of (wsV RX6 88 RX6 yX6_fails wsX6_fails) := goodIn_app (goodIn_of _ (by decide +kernel)) ggX6_of_X6_fails
theorem dX6_of_0 : decode cX6_of 0 = .ok (.aload_n 0, 1) := by decide +kernel
theorem dX6_of_1 : decode cX6_of 1 = .ok (.iload_n 2, 1) := by decide +kernel
theorem dX6_of_2 : decode cX6_of 2 = .ok (.invokestatic 98, 3) := by decide +kernel
theorem dX6_of_5 : decode cX6_of 5 = .ok (.ifCond .eq 7, 3) := by decide +kernel
theorem dX6_of_8 : decode cX6_of 8 = .ok (.iconst 0, 1) := by decide +kernel
theorem dX6_of_9 : decode cX6_of 9 = .ok (.goto 4, 3) := by decide +kernel
theorem dX6_of_12 : decode cX6_of 12 = .ok (.iconst 1, 1) := by decide +kernel
theorem dX6_of_13 : decode cX6_of 13 = .ok (.invokevirtual 88, 3) := by decide +kernel
theorem dX6_of_16 : decode cX6_of 16 = .ok (.ifCond .eq 7, 3) := by decide +kernel
theorem dX6_of_19 : decode cX6_of 19 = .ok (.iconst 0, 1) := by decide +kernel
theorem dX6_of_20 : decode cX6_of 20 = .ok (.goto 6, 3) := by decide +kernel
theorem dX6_of_23 : decode cX6_of 23 = .ok (.aload_n 1, 1) := by decide +kernel
theorem dX6_of_24 : decode cX6_of 24 = .ok (.iload_n 2, 1) := by decide +kernel
theorem dX6_of_25 : decode cX6_of 25 = .ok (.iaload, 1) := by decide +kernel
theorem dX6_of_26 : decode cX6_of 26 = .ok (.ireturn, 1) := by decide +kernel
set_option maxRecDepth 20000 in
theorem ggX6_points_X6_of : GoodIn wsX6_points wsX6_of := goodIn_r _ [6, 7, 8, 5, 9, 10, 11, 12, 13, 14, 15, 16, 17, 18, 19, 20, 21, 22, 23, 24, 25, 26, 27, 28, 29, 30, 31, 32, 33, 34, 35, 36, 37, 38, 39, 40, 41] (by decide +kernel) (by decide +kernel)
set_option maxRecDepth 20000 in
theorem gX6_points_X6_of : GoodIn wsX6_points (wsV RX6 133 RX6 yX6_of wsX6_of) := goodIn_app (goodIn_of _ (by decide +kernel)) ggX6_points_X6_of
theorem dX6_points_0 : decode cX6_points 0 = .ok (.aload_n 0, 1) := by decide +kernel
theorem dX6_points_1 : decode cX6_points 1 = .ok (.aload_n 0, 1) := by decide +kernel
theorem dX6_points_2 : decode cX6_points 2 = .ok (.getfield 50, 3) := by decide +kernel
theorem dX6_points_5 : decode cX6_points 5 = .ok (.iload_n 1, 1) := by decide +kernel
theorem dX6_points_6 : decode cX6_points 6 = .ok (.invokevirtual 133, 3) := by decide +kernel
theorem dX6_points_9 : decode cX6_points 9 = .ok (.ireturn, 1) := by decide +kernel
set_option maxRecDepth 20000 in
theorem ggX6_fines_X6_of : GoodIn wsX6_fines wsX6_of := goodIn_r _ [6, 7, 8, 5, 9, 10, 11, 12, 13, 14, 15, 16, 17, 18, 19, 20, 21, 22, 23, 24, 25, 26, 27, 28, 29, 30, 31, 32, 33, 34, 35, 36, 37, 38, 39, 40, 41] (by decide +kernel) (by decide +kernel)
set_option maxRecDepth 20000 in
theorem gX6_fines_X6_of : GoodIn wsX6_fines (wsV RX6 133 RX6 yX6_of wsX6_of) := goodIn_app (goodIn_of _ (by decide +kernel)) ggX6_fines_X6_of
theorem dX6_fines_0 : decode cX6_fines 0 = .ok (.aload_n 0, 1) := by decide +kernel
theorem dX6_fines_1 : decode cX6_fines 1 = .ok (.aload_n 0, 1) := by decide +kernel
theorem dX6_fines_2 : decode cX6_fines 2 = .ok (.getfield 53, 3) := by decide +kernel
theorem dX6_fines_5 : decode cX6_fines 5 = .ok (.iload_n 1, 1) := by decide +kernel
theorem dX6_fines_6 : decode cX6_fines 6 = .ok (.invokevirtual 133, 3) := by decide +kernel
theorem dX6_fines_9 : decode cX6_fines 9 = .ok (.ireturn, 1) := by decide +kernel
set_option maxRecDepth 20000 in
theorem ggX6_difference_X6_of : GoodIn wsX6_difference wsX6_of := goodIn_r _ [6, 7, 8, 5, 9, 10, 11, 12, 13, 14, 15, 16, 17, 18, 19, 20, 21, 22, 23, 24, 25, 26, 27, 28, 29, 30, 31, 32, 33, 34, 35, 36, 37, 38, 39, 40, 41] (by decide +kernel) (by decide +kernel)
set_option maxRecDepth 20000 in
theorem gX6_difference_X6_of : GoodIn wsX6_difference (wsV RX6 133 RX6 yX6_of wsX6_of) := goodIn_app (goodIn_of _ (by decide +kernel)) ggX6_difference_X6_of
theorem dX6_difference_0 : decode cX6_difference 0 = .ok (.aload_n 0, 1) := by decide +kernel
theorem dX6_difference_1 : decode cX6_difference 1 = .ok (.aload_n 0, 1) := by decide +kernel
theorem dX6_difference_2 : decode cX6_difference 2 = .ok (.getfield 56, 3) := by decide +kernel
theorem dX6_difference_5 : decode cX6_difference 5 = .ok (.iload_n 1, 1) := by decide +kernel
theorem dX6_difference_6 : decode cX6_difference 6 = .ok (.invokevirtual 133, 3) := by decide +kernel
theorem dX6_difference_9 : decode cX6_difference 9 = .ok (.ireturn, 1) := by decide +kernel
theorem dX6_isAhead_0 : decode cX6_isAhead 0 = .ok (.aload_n 0, 1) := by decide +kernel
theorem dX6_isAhead_1 : decode cX6_isAhead 1 = .ok (.getfield 59, 3) := by decide +kernel
theorem dX6_isAhead_4 : decode cX6_isAhead 4 = .ok (.bipush 6, 2) := by decide +kernel
theorem dX6_isAhead_6 : decode cX6_isAhead 6 = .ok (.iload_n 1, 1) := by decide +kernel
theorem dX6_isAhead_7 : decode cX6_isAhead 7 = .ok (.imul, 1) := by decide +kernel
theorem dX6_isAhead_8 : decode cX6_isAhead 8 = .ok (.iload_n 2, 1) := by decide +kernel
theorem dX6_isAhead_9 : decode cX6_isAhead 9 = .ok (.iadd, 1) := by decide +kernel
theorem dX6_isAhead_10 : decode cX6_isAhead 10 = .ok (.iaload, 1) := by decide +kernel
theorem dX6_isAhead_11 : decode cX6_isAhead 11 = .ok (.aload_n 0, 1) := by decide +kernel
theorem dX6_isAhead_12 : decode cX6_isAhead 12 = .ok (.getfield 59, 3) := by decide +kernel
theorem dX6_isAhead_15 : decode cX6_isAhead 15 = .ok (.bipush 6, 2) := by decide +kernel
theorem dX6_isAhead_17 : decode cX6_isAhead 17 = .ok (.iload_n 2, 1) := by decide +kernel
theorem dX6_isAhead_18 : decode cX6_isAhead 18 = .ok (.imul, 1) := by decide +kernel
theorem dX6_isAhead_19 : decode cX6_isAhead 19 = .ok (.iload_n 1, 1) := by decide +kernel
theorem dX6_isAhead_20 : decode cX6_isAhead 20 = .ok (.iadd, 1) := by decide +kernel
theorem dX6_isAhead_21 : decode cX6_isAhead 21 = .ok (.iaload, 1) := by decide +kernel
theorem dX6_isAhead_22 : decode cX6_isAhead 22 = .ok (.isub, 1) := by decide +kernel
theorem dX6_isAhead_23 : decode cX6_isAhead 23 = .ok (.istore_n 3, 1) := by decide +kernel
theorem dX6_isAhead_24 : decode cX6_isAhead 24 = .ok (.aload_n 0, 1) := by decide +kernel
theorem dX6_isAhead_25 : decode cX6_isAhead 25 = .ok (.getfield 50, 3) := by decide +kernel
theorem dX6_isAhead_28 : decode cX6_isAhead 28 = .ok (.iload_n 1, 1) := by decide +kernel
theorem dX6_isAhead_29 : decode cX6_isAhead 29 = .ok (.iaload, 1) := by decide +kernel
theorem dX6_isAhead_30 : decode cX6_isAhead 30 = .ok (.aload_n 0, 1) := by decide +kernel
theorem dX6_isAhead_31 : decode cX6_isAhead 31 = .ok (.getfield 50, 3) := by decide +kernel
theorem dX6_isAhead_34 : decode cX6_isAhead 34 = .ok (.iload_n 2, 1) := by decide +kernel
theorem dX6_isAhead_35 : decode cX6_isAhead 35 = .ok (.iaload, 1) := by decide +kernel
theorem dX6_isAhead_36 : decode cX6_isAhead 36 = .ok (.if_icmp .eq 24, 3) := by decide +kernel
theorem dX6_isAhead_39 : decode cX6_isAhead 39 = .ok (.aload_n 0, 1) := by decide +kernel
theorem dX6_isAhead_40 : decode cX6_isAhead 40 = .ok (.getfield 50, 3) := by decide +kernel
theorem dX6_isAhead_43 : decode cX6_isAhead 43 = .ok (.iload_n 1, 1) := by decide +kernel
theorem dX6_isAhead_44 : decode cX6_isAhead 44 = .ok (.iaload, 1) := by decide +kernel
theorem dX6_isAhead_45 : decode cX6_isAhead 45 = .ok (.aload_n 0, 1) := by decide +kernel
theorem dX6_isAhead_46 : decode cX6_isAhead 46 = .ok (.getfield 50, 3) := by decide +kernel
theorem dX6_isAhead_49 : decode cX6_isAhead 49 = .ok (.iload_n 2, 1) := by decide +kernel
theorem dX6_isAhead_50 : decode cX6_isAhead 50 = .ok (.iaload, 1) := by decide +kernel
theorem dX6_isAhead_51 : decode cX6_isAhead 51 = .ok (.if_icmp .le 7, 3) := by decide +kernel
theorem dX6_isAhead_54 : decode cX6_isAhead 54 = .ok (.iconst 1, 1) := by decide +kernel
theorem dX6_isAhead_55 : decode cX6_isAhead 55 = .ok (.goto 4, 3) := by decide +kernel
theorem dX6_isAhead_58 : decode cX6_isAhead 58 = .ok (.iconst 0, 1) := by decide +kernel
theorem dX6_isAhead_59 : decode cX6_isAhead 59 = .ok (.ireturn, 1) := by decide +kernel
theorem dX6_isAhead_60 : decode cX6_isAhead 60 = .ok (.iload_n 3, 1) := by decide +kernel
theorem dX6_isAhead_61 : decode cX6_isAhead 61 = .ok (.ifCond .eq 15, 3) := by decide +kernel
theorem dX6_isAhead_64 : decode cX6_isAhead 64 = .ok (.iload_n 3, 1) := by decide +kernel
theorem dX6_isAhead_65 : decode cX6_isAhead 65 = .ok (.ifCond .le 7, 3) := by decide +kernel
theorem dX6_isAhead_68 : decode cX6_isAhead 68 = .ok (.iconst 1, 1) := by decide +kernel
theorem dX6_isAhead_69 : decode cX6_isAhead 69 = .ok (.goto 55, 3) := by decide +kernel
theorem dX6_isAhead_72 : decode cX6_isAhead 72 = .ok (.iconst 0, 1) := by decide +kernel
theorem dX6_isAhead_73 : decode cX6_isAhead 73 = .ok (.goto 51, 3) := by decide +kernel
theorem dX6_isAhead_76 : decode cX6_isAhead 76 = .ok (.aload_n 0, 1) := by decide +kernel
theorem dX6_isAhead_77 : decode cX6_isAhead 77 = .ok (.getfield 56, 3) := by decide +kernel
theorem dX6_isAhead_80 : decode cX6_isAhead 80 = .ok (.iload_n 1, 1) := by decide +kernel
theorem dX6_isAhead_81 : decode cX6_isAhead 81 = .ok (.iaload, 1) := by decide +kernel
theorem dX6_isAhead_82 : decode cX6_isAhead 82 = .ok (.aload_n 0, 1) := by decide +kernel
theorem dX6_isAhead_83 : decode cX6_isAhead 83 = .ok (.getfield 56, 3) := by decide +kernel
theorem dX6_isAhead_86 : decode cX6_isAhead 86 = .ok (.iload_n 2, 1) := by decide +kernel
theorem dX6_isAhead_87 : decode cX6_isAhead 87 = .ok (.iaload, 1) := by decide +kernel
theorem dX6_isAhead_88 : decode cX6_isAhead 88 = .ok (.if_icmp .eq 26, 3) := by decide +kernel
theorem dX6_isAhead_91 : decode cX6_isAhead 91 = .ok (.aload_n 0, 1) := by decide +kernel
theorem dX6_isAhead_92 : decode cX6_isAhead 92 = .ok (.getfield 56, 3) := by decide +kernel
theorem dX6_isAhead_95 : decode cX6_isAhead 95 = .ok (.iload_n 1, 1) := by decide +kernel
theorem dX6_isAhead_96 : decode cX6_isAhead 96 = .ok (.iaload, 1) := by decide +kernel
theorem dX6_isAhead_97 : decode cX6_isAhead 97 = .ok (.aload_n 0, 1) := by decide +kernel
theorem dX6_isAhead_98 : decode cX6_isAhead 98 = .ok (.getfield 56, 3) := by decide +kernel
theorem dX6_isAhead_101 : decode cX6_isAhead 101 = .ok (.iload_n 2, 1) := by decide +kernel
theorem dX6_isAhead_102 : decode cX6_isAhead 102 = .ok (.iaload, 1) := by decide +kernel
theorem dX6_isAhead_103 : decode cX6_isAhead 103 = .ok (.if_icmp .le 7, 3) := by decide +kernel
theorem dX6_isAhead_106 : decode cX6_isAhead 106 = .ok (.iconst 1, 1) := by decide +kernel
theorem dX6_isAhead_107 : decode cX6_isAhead 107 = .ok (.goto 17, 3) := by decide +kernel
theorem dX6_isAhead_110 : decode cX6_isAhead 110 = .ok (.iconst 0, 1) := by decide +kernel
theorem dX6_isAhead_111 : decode cX6_isAhead 111 = .ok (.goto 13, 3) := by decide +kernel
theorem dX6_isAhead_114 : decode cX6_isAhead 114 = .ok (.iload_n 1, 1) := by decide +kernel
theorem dX6_isAhead_115 : decode cX6_isAhead 115 = .ok (.iload_n 2, 1) := by decide +kernel
theorem dX6_isAhead_116 : decode cX6_isAhead 116 = .ok (.if_icmp .ge 7, 3) := by decide +kernel
theorem dX6_isAhead_119 : decode cX6_isAhead 119 = .ok (.iconst 1, 1) := by decide +kernel
theorem dX6_isAhead_120 : decode cX6_isAhead 120 = .ok (.goto 4, 3) := by decide +kernel
theorem dX6_isAhead_123 : decode cX6_isAhead 123 = .ok (.iconst 0, 1) := by decide +kernel
theorem dX6_isAhead_124 : decode cX6_isAhead 124 = .ok (.ireturn, 1) := by decide +kernel
set_option maxRecDepth 20000 in
theorem ggX6_place_X6_isTeam : GoodIn wsX6_place wsX6_isTeam := goodIn_r _ [4, 5, 6, 3, 7] (by decide +kernel) (by decide +kernel)
set_option maxRecDepth 20000 in
theorem gX6_place_X6_isTeam : GoodIn wsX6_place (va_wsS RX6 98 yX6_isTeam wsX6_isTeam) := goodIn_app (goodIn_of _ (by decide +kernel)) ggX6_place_X6_isTeam
set_option maxRecDepth 20000 in
theorem ggX6_place_X6_fails : GoodIn wsX6_place wsX6_fails := goodIn_r _ [11, 12, 20, 21, 22, 23, 24, 25, 26, 27, 28, 29, 30, 31, 32, 33, 34, 35, 36, 37, 38, 39, 40, 41, 42, 43] (by decide +kernel) (by decide +kernel)
set_option maxRecDepth 20000 in
theorem gX6_place_X6_fails : GoodIn wsX6_place (wsV RX6 88 RX6 yX6_fails wsX6_fails) := goodIn_app (goodIn_of _ (by decide +kernel)) ggX6_place_X6_fails
set_option maxRecDepth 20000 in
theorem ggX6_place_X6_isAhead : GoodIn wsX6_place wsX6_isAhead := goodIn_r _ [16, 17, 18, 19, 20, 21, 22, 23, 24, 25, 26, 27, 28, 29, 30, 31, 32, 33, 34, 35, 36, 37, 38, 39, 40, 41, 42, 43] (by decide +kernel) (by decide +kernel)
set_option maxRecDepth 20000 in
theorem gX6_place_X6_isAhead : GoodIn wsX6_place (wsV RX6 137 RX6 yX6_isAhead wsX6_isAhead) := goodIn_app (goodIn_of _ (by decide +kernel)) ggX6_place_X6_isAhead
theorem dX6_place_0 : decode cX6_place 0 = .ok (.aload_n 0, 1) := by decide +kernel
theorem dX6_place_1 : decode cX6_place 1 = .ok (.iload_n 1, 1) := by decide +kernel
theorem dX6_place_2 : decode cX6_place 2 = .ok (.invokestatic 98, 3) := by decide +kernel
theorem dX6_place_5 : decode cX6_place 5 = .ok (.ifCond .eq 7, 3) := by decide +kernel
theorem dX6_place_8 : decode cX6_place 8 = .ok (.iconst 0, 1) := by decide +kernel
theorem dX6_place_9 : decode cX6_place 9 = .ok (.goto 4, 3) := by decide +kernel
theorem dX6_place_12 : decode cX6_place 12 = .ok (.iconst 1, 1) := by decide +kernel
theorem dX6_place_13 : decode cX6_place 13 = .ok (.invokevirtual 88, 3) := by decide +kernel
theorem dX6_place_16 : decode cX6_place 16 = .ok (.ifCond .eq 5, 3) := by decide +kernel
theorem dX6_place_19 : decode cX6_place 19 = .ok (.iconst 0, 1) := by decide +kernel
theorem dX6_place_20 : decode cX6_place 20 = .ok (.ireturn, 1) := by decide +kernel
theorem dX6_place_21 : decode cX6_place 21 = .ok (.iconst 1, 1) := by decide +kernel
theorem dX6_place_22 : decode cX6_place 22 = .ok (.istore_n 2, 1) := by decide +kernel
theorem dX6_place_23 : decode cX6_place 23 = .ok (.iconst 0, 1) := by decide +kernel
theorem dX6_place_24 : decode cX6_place 24 = .ok (.istore_n 3, 1) := by decide +kernel
theorem dX6_place_25 : decode cX6_place 25 = .ok (.iload_n 3, 1) := by decide +kernel
theorem dX6_place_26 : decode cX6_place 26 = .ok (.bipush 6, 2) := by decide +kernel
theorem dX6_place_28 : decode cX6_place 28 = .ok (.if_icmp .ge 31, 3) := by decide +kernel
theorem dX6_place_31 : decode cX6_place 31 = .ok (.iload_n 2, 1) := by decide +kernel
theorem dX6_place_32 : decode cX6_place 32 = .ok (.iload_n 3, 1) := by decide +kernel
theorem dX6_place_33 : decode cX6_place 33 = .ok (.iload_n 1, 1) := by decide +kernel
theorem dX6_place_34 : decode cX6_place 34 = .ok (.if_icmp .eq 16, 3) := by decide +kernel
theorem dX6_place_37 : decode cX6_place 37 = .ok (.aload_n 0, 1) := by decide +kernel
theorem dX6_place_38 : decode cX6_place 38 = .ok (.iload_n 3, 1) := by decide +kernel
theorem dX6_place_39 : decode cX6_place 39 = .ok (.iload_n 1, 1) := by decide +kernel
theorem dX6_place_40 : decode cX6_place 40 = .ok (.invokevirtual 137, 3) := by decide +kernel
theorem dX6_place_43 : decode cX6_place 43 = .ok (.ifCond .eq 7, 3) := by decide +kernel
theorem dX6_place_46 : decode cX6_place 46 = .ok (.iconst 1, 1) := by decide +kernel
theorem dX6_place_47 : decode cX6_place 47 = .ok (.goto 4, 3) := by decide +kernel
theorem dX6_place_50 : decode cX6_place 50 = .ok (.iconst 0, 1) := by decide +kernel
theorem dX6_place_51 : decode cX6_place 51 = .ok (.iadd, 1) := by decide +kernel
theorem dX6_place_52 : decode cX6_place 52 = .ok (.istore_n 2, 1) := by decide +kernel
theorem dX6_place_53 : decode cX6_place 53 = .ok (.iinc 3 1, 3) := by decide +kernel
theorem dX6_place_56 : decode cX6_place 56 = .ok (.goto (-31), 3) := by decide +kernel
theorem dX6_place_59 : decode cX6_place 59 = .ok (.iload_n 2, 1) := by decide +kernel
theorem dX6_place_60 : decode cX6_place 60 = .ok (.ireturn, 1) := by decide +kernel
theorem dJ9_abs_0f7a4_0 : decode cJ9_abs_0f7a4 0 = .ok (.iload_n 0, 1) := by decide +kernel
theorem dJ9_abs_0f7a4_1 : decode cJ9_abs_0f7a4 1 = .ok (.ifCond .ge 8, 3) := by decide +kernel
theorem dJ9_abs_0f7a4_4 : decode cJ9_abs_0f7a4 4 = .ok (.iload_n 0, 1) := by decide +kernel
theorem dJ9_abs_0f7a4_5 : decode cJ9_abs_0f7a4 5 = .ok (.ineg, 1) := by decide +kernel
theorem dJ9_abs_0f7a4_6 : decode cJ9_abs_0f7a4 6 = .ok (.goto 4, 3) := by decide +kernel
theorem dJ9_abs_0f7a4_9 : decode cJ9_abs_0f7a4 9 = .ok (.iload_n 0, 1) := by decide +kernel
theorem dJ9_abs_0f7a4_10 : decode cJ9_abs_0f7a4 10 = .ok (.ireturn, 1) := by decide +kernel
theorem dJ9_max_7cf53_0 : decode cJ9_max_7cf53 0 = .ok (.iload_n 0, 1) := by decide +kernel
theorem dJ9_max_7cf53_1 : decode cJ9_max_7cf53 1 = .ok (.iload_n 1, 1) := by decide +kernel
theorem dJ9_max_7cf53_2 : decode cJ9_max_7cf53 2 = .ok (.if_icmp .lt 7, 3) := by decide +kernel
theorem dJ9_max_7cf53_5 : decode cJ9_max_7cf53 5 = .ok (.iload_n 0, 1) := by decide +kernel
theorem dJ9_max_7cf53_6 : decode cJ9_max_7cf53 6 = .ok (.goto 4, 3) := by decide +kernel
theorem dJ9_max_7cf53_9 : decode cJ9_max_7cf53 9 = .ok (.iload_n 1, 1) := by decide +kernel
theorem dJ9_max_7cf53_10 : decode cJ9_max_7cf53 10 = .ok (.ireturn, 1) := by decide +kernel
theorem dJ9_min_7cf53_0 : decode cJ9_min_7cf53 0 = .ok (.iload_n 0, 1) := by decide +kernel
theorem dJ9_min_7cf53_1 : decode cJ9_min_7cf53 1 = .ok (.iload_n 1, 1) := by decide +kernel
theorem dJ9_min_7cf53_2 : decode cJ9_min_7cf53 2 = .ok (.if_icmp .gt 7, 3) := by decide +kernel
theorem dJ9_min_7cf53_5 : decode cJ9_min_7cf53 5 = .ok (.iload_n 0, 1) := by decide +kernel
theorem dJ9_min_7cf53_6 : decode cJ9_min_7cf53 6 = .ok (.goto 4, 3) := by decide +kernel
theorem dJ9_min_7cf53_9 : decode cJ9_min_7cf53 9 = .ok (.iload_n 1, 1) := by decide +kernel
theorem dJ9_min_7cf53_10 : decode cJ9_min_7cf53 10 = .ok (.ireturn, 1) := by decide +kernel
set_option maxRecDepth 20000 in
theorem ggL_toggleBunker_X5_toggleBunker : GoodIn wsL_toggleBunker wsX5_toggleBunker := goodIn_ca (goodIn_ca (goodIn_r _ [7, 8, 9, 10, 11, 12, 13, 6, 14, 15, 16, 17, 18, 19, 20, 21, 22, 23, 24, 25, 26, 27, 28, 29, 30, 31, 32, 33, 34, 35, 36, 37, 38, 39, 40, 41] (by decide +kernel) (by decide +kernel)) (goodIn_sub (fun _ h => List.mem_cons_of_mem _ (List.mem_append_left _ (List.mem_append_right _ h))) (by decide +kernel))) (goodIn_sub (fun _ h => List.mem_cons_of_mem _ (List.mem_append_right _ h)) (by decide +kernel))
set_option maxRecDepth 20000 in
theorem gL_toggleBunker_X5_toggleBunker : GoodIn wsL_toggleBunker (wsV RL 7 RX5 yX5_toggleBunker wsX5_toggleBunker) := goodIn_app (goodIn_of _ (by decide +kernel)) ggL_toggleBunker_X5_toggleBunker
theorem dL_toggleBunker_0 : decode cL_toggleBunker 0 = .ok (.aload_n 2, 1) := by decide +kernel
theorem dL_toggleBunker_1 : decode cL_toggleBunker 1 = .ok (.iconst 0, 1) := by decide +kernel
theorem dL_toggleBunker_2 : decode cL_toggleBunker 2 = .ok (.aload_n 0, 1) := by decide +kernel
theorem dL_toggleBunker_3 : decode cL_toggleBunker 3 = .ok (.iload_n 1, 1) := by decide +kernel
theorem dL_toggleBunker_4 : decode cL_toggleBunker 4 = .ok (.invokevirtual 7, 3) := by decide +kernel
theorem dL_toggleBunker_7 : decode cL_toggleBunker 7 = .ok (.ifCond .eq 7, 3) := by decide +kernel
theorem dL_toggleBunker_10 : decode cL_toggleBunker 10 = .ok (.lconst 1, 1) := by decide +kernel
theorem dL_toggleBunker_11 : decode cL_toggleBunker 11 = .ok (.goto 4, 3) := by decide +kernel
theorem dL_toggleBunker_14 : decode cL_toggleBunker 14 = .ok (.lconst 0, 1) := by decide +kernel
theorem dL_toggleBunker_15 : decode cL_toggleBunker 15 = .ok (.lastore, 1) := by decide +kernel
theorem dL_toggleBunker_16 : decode cL_toggleBunker 16 = .ok (.goto 9, 3) := by decide +kernel
theorem dL_toggleBunker_19 : decode cL_toggleBunker 19 = .ok (.astore_n 3, 1) := by decide +kernel
theorem dL_toggleBunker_20 : decode cL_toggleBunker 20 = .ok (.iconst 1, 1) := by decide +kernel
theorem dL_toggleBunker_21 : decode cL_toggleBunker 21 = .ok (.ireturn, 1) := by decide +kernel
theorem dL_toggleBunker_22 : decode cL_toggleBunker 22 = .ok (.astore_n 3, 1) := by decide +kernel
theorem dL_toggleBunker_23 : decode cL_toggleBunker 23 = .ok (.iconst 2, 1) := by decide +kernel
theorem dL_toggleBunker_24 : decode cL_toggleBunker 24 = .ok (.ireturn, 1) := by decide +kernel
theorem dL_toggleBunker_25 : decode cL_toggleBunker 25 = .ok (.iconst 0, 1) := by decide +kernel
theorem dL_toggleBunker_26 : decode cL_toggleBunker 26 = .ok (.ireturn, 1) := by decide +kernel
set_option maxRecDepth 20000 in
theorem ggL_sees_X5_sees : GoodIn wsL_sees wsX5_sees := goodIn_ca (goodIn_r _ [6, 7, 8, 9, 5, 10, 11, 12, 13, 14, 15, 16, 17, 18, 19, 20, 21, 22, 23, 24, 25, 26, 27, 28, 29, 30, 31, 32, 33, 34, 35, 36] (by decide +kernel) (by decide +kernel)) (goodIn_sub (fun _ h => List.mem_cons_of_mem _ (List.mem_append_right _ h)) (by decide +kernel))
set_option maxRecDepth 20000 in
theorem gL_sees_X5_sees : GoodIn wsL_sees (wsV RL 17 RX5 yX5_sees wsX5_sees) := goodIn_app (goodIn_of _ (by decide +kernel)) ggL_sees_X5_sees
theorem dL_sees_0 : decode cL_sees 0 = .ok (.aload_n 3, 1) := by decide +kernel
theorem dL_sees_1 : decode cL_sees 1 = .ok (.iconst 0, 1) := by decide +kernel
theorem dL_sees_2 : decode cL_sees 2 = .ok (.aload_n 0, 1) := by decide +kernel
theorem dL_sees_3 : decode cL_sees 3 = .ok (.iload_n 1, 1) := by decide +kernel
theorem dL_sees_4 : decode cL_sees 4 = .ok (.iload_n 2, 1) := by decide +kernel
theorem dL_sees_5 : decode cL_sees 5 = .ok (.invokevirtual 17, 3) := by decide +kernel
theorem dL_sees_8 : decode cL_sees 8 = .ok (.ifCond .eq 7, 3) := by decide +kernel
theorem dL_sees_11 : decode cL_sees 11 = .ok (.lconst 1, 1) := by decide +kernel
theorem dL_sees_12 : decode cL_sees 12 = .ok (.goto 4, 3) := by decide +kernel
theorem dL_sees_15 : decode cL_sees 15 = .ok (.lconst 0, 1) := by decide +kernel
theorem dL_sees_16 : decode cL_sees 16 = .ok (.lastore, 1) := by decide +kernel
theorem dL_sees_17 : decode cL_sees 17 = .ok (.goto 7, 3) := by decide +kernel
theorem dL_sees_20 : decode cL_sees 20 = .ok (.astore 4, 2) := by decide +kernel
theorem dL_sees_22 : decode cL_sees 22 = .ok (.iconst 1, 1) := by decide +kernel
theorem dL_sees_23 : decode cL_sees 23 = .ok (.ireturn, 1) := by decide +kernel
theorem dL_sees_24 : decode cL_sees 24 = .ok (.iconst 0, 1) := by decide +kernel
theorem dL_sees_25 : decode cL_sees 25 = .ok (.ireturn, 1) := by decide +kernel
set_option maxRecDepth 20000 in
theorem ggL_view_X5_view : GoodIn wsL_view wsX5_view := goodIn_ca (goodIn_r _ [6, 7, 8, 9, 5, 10, 11, 12, 13, 14, 15, 16, 17, 18, 19, 20, 21, 22, 23, 24, 25, 26, 27, 28, 29, 30, 31, 32, 33, 34, 35, 36, 37, 38, 39, 40] (by decide +kernel) (by decide +kernel)) (goodIn_sub (fun _ h => List.mem_cons_of_mem _ (List.mem_append_right _ h)) (by decide +kernel))
set_option maxRecDepth 20000 in
theorem gL_view_X5_view : GoodIn wsL_view (wsV RL 21 RX5 yX5_view wsX5_view) := goodIn_app (goodIn_of _ (by decide +kernel)) ggL_view_X5_view
theorem dL_view_0 : decode cL_view 0 = .ok (.aload_n 2, 1) := by decide +kernel
theorem dL_view_1 : decode cL_view 1 = .ok (.iconst 0, 1) := by decide +kernel
theorem dL_view_2 : decode cL_view 2 = .ok (.aload_n 0, 1) := by decide +kernel
theorem dL_view_3 : decode cL_view 3 = .ok (.iload_n 1, 1) := by decide +kernel
theorem dL_view_4 : decode cL_view 4 = .ok (.invokevirtual 21, 3) := by decide +kernel
theorem dL_view_7 : decode cL_view 7 = .ok (.i2l, 1) := by decide +kernel
theorem dL_view_8 : decode cL_view 8 = .ok (.lastore, 1) := by decide +kernel
theorem dL_view_9 : decode cL_view 9 = .ok (.goto 6, 3) := by decide +kernel
theorem dL_view_12 : decode cL_view 12 = .ok (.astore_n 3, 1) := by decide +kernel
theorem dL_view_13 : decode cL_view 13 = .ok (.iconst 1, 1) := by decide +kernel
theorem dL_view_14 : decode cL_view 14 = .ok (.ireturn, 1) := by decide +kernel
theorem dL_view_15 : decode cL_view 15 = .ok (.iconst 0, 1) := by decide +kernel
theorem dL_view_16 : decode cL_view 16 = .ok (.ireturn, 1) := by decide +kernel
set_option maxRecDepth 20000 in
theorem ggL_setReferee_X5_setReferee : GoodIn wsL_setReferee wsX5_setReferee := goodIn_ca (goodIn_r _ [6, 7, 8, 9, 5, 10, 11, 12, 13, 14, 15, 16, 17, 18, 19] (by decide +kernel) (by decide +kernel)) (goodIn_sub (fun _ h => List.mem_cons_of_mem _ (List.mem_append_right _ h)) (by decide +kernel))
set_option maxRecDepth 20000 in
theorem gL_setReferee_X5_setReferee : GoodIn wsL_setReferee (wsV RL 25 RX5 yX5_setReferee wsX5_setReferee) := goodIn_app (goodIn_of _ (by decide +kernel)) ggL_setReferee_X5_setReferee
theorem dL_setReferee_0 : decode cL_setReferee 0 = .ok (.aload_n 3, 1) := by decide +kernel
theorem dL_setReferee_1 : decode cL_setReferee 1 = .ok (.iconst 0, 1) := by decide +kernel
theorem dL_setReferee_2 : decode cL_setReferee 2 = .ok (.aload_n 0, 1) := by decide +kernel
theorem dL_setReferee_3 : decode cL_setReferee 3 = .ok (.iload_n 1, 1) := by decide +kernel
theorem dL_setReferee_4 : decode cL_setReferee 4 = .ok (.iload_n 2, 1) := by decide +kernel
theorem dL_setReferee_5 : decode cL_setReferee 5 = .ok (.invokevirtual 25, 3) := by decide +kernel
theorem dL_setReferee_8 : decode cL_setReferee 8 = .ok (.i2l, 1) := by decide +kernel
theorem dL_setReferee_9 : decode cL_setReferee 9 = .ok (.lastore, 1) := by decide +kernel
theorem dL_setReferee_10 : decode cL_setReferee 10 = .ok (.goto 7, 3) := by decide +kernel
theorem dL_setReferee_13 : decode cL_setReferee 13 = .ok (.astore 4, 2) := by decide +kernel
theorem dL_setReferee_15 : decode cL_setReferee 15 = .ok (.iconst 1, 1) := by decide +kernel
theorem dL_setReferee_16 : decode cL_setReferee 16 = .ok (.ireturn, 1) := by decide +kernel
theorem dL_setReferee_17 : decode cL_setReferee 17 = .ok (.iconst 0, 1) := by decide +kernel
theorem dL_setReferee_18 : decode cL_setReferee 18 = .ok (.ireturn, 1) := by decide +kernel
set_option maxRecDepth 20000 in
theorem ggL_begin_X5_begin : GoodIn wsL_begin wsX5_begin := goodIn_ca (goodIn_ca (goodIn_ca (goodIn_r _ [8, 9, 10, 11, 12, 13, 14, 15, 7, 16, 17, 18, 19, 20, 21, 22, 23, 24, 25, 26, 27, 28, 29, 30, 31, 32, 33, 34, 35, 36, 37, 38, 39, 40, 41, 42, 43, 44, 45, 46, 47, 48, 49, 50, 51, 52, 53, 54, 55, 56, 57, 58, 59, 60, 61, 62, 63] (by decide +kernel) (by decide +kernel)) (goodIn_sub (fun _ h => List.mem_cons_of_mem _ (List.mem_append_left _ (List.mem_append_left _ (List.mem_append_right _ h)))) (by decide +kernel))) (goodIn_sub (fun _ h => List.mem_cons_of_mem _ (List.mem_append_left _ (List.mem_append_right _ h))) (by decide +kernel))) (goodIn_sub (fun _ h => List.mem_cons_of_mem _ (List.mem_append_right _ h)) (by decide +kernel))
set_option maxRecDepth 20000 in
theorem gL_begin_X5_begin : GoodIn wsL_begin (wsV RL 29 RX5 yX5_begin wsX5_begin) := goodIn_app (goodIn_of _ (by decide +kernel)) ggL_begin_X5_begin
theorem dL_begin_0 : decode cL_begin 0 = .ok (.aload_n 0, 1) := by decide +kernel
theorem dL_begin_1 : decode cL_begin 1 = .ok (.iload_n 1, 1) := by decide +kernel
theorem dL_begin_2 : decode cL_begin 2 = .ok (.iload_n 2, 1) := by decide +kernel
theorem dL_begin_3 : decode cL_begin 3 = .ok (.invokevirtual 29, 3) := by decide +kernel
theorem dL_begin_6 : decode cL_begin 6 = .ok (.goto 12, 3) := by decide +kernel
theorem dL_begin_9 : decode cL_begin 9 = .ok (.astore_n 3, 1) := by decide +kernel
theorem dL_begin_10 : decode cL_begin 10 = .ok (.iconst 1, 1) := by decide +kernel
theorem dL_begin_11 : decode cL_begin 11 = .ok (.ireturn, 1) := by decide +kernel
theorem dL_begin_12 : decode cL_begin 12 = .ok (.astore_n 3, 1) := by decide +kernel
theorem dL_begin_13 : decode cL_begin 13 = .ok (.iconst 2, 1) := by decide +kernel
theorem dL_begin_14 : decode cL_begin 14 = .ok (.ireturn, 1) := by decide +kernel
theorem dL_begin_15 : decode cL_begin 15 = .ok (.astore_n 3, 1) := by decide +kernel
theorem dL_begin_16 : decode cL_begin 16 = .ok (.iconst 3, 1) := by decide +kernel
theorem dL_begin_17 : decode cL_begin 17 = .ok (.ireturn, 1) := by decide +kernel
theorem dL_begin_18 : decode cL_begin 18 = .ok (.iconst 0, 1) := by decide +kernel
theorem dL_begin_19 : decode cL_begin 19 = .ok (.ireturn, 1) := by decide +kernel
set_option maxRecDepth 20000 in
theorem ggL_move_X5_move : GoodIn wsL_move wsX5_move := goodIn_ca (goodIn_ca (goodIn_r _ [7, 8, 9, 10, 11, 12, 13, 6, 14, 15, 16, 17, 18, 19, 20, 21, 22, 23, 24, 25, 26, 27, 28, 29, 30, 31, 32, 33, 34, 35, 36, 37, 38, 39, 40, 41, 42, 43, 44, 45, 46, 47, 48, 49, 50, 51, 52, 53, 54, 55, 56, 57, 58, 59, 60, 61, 62, 63, 64, 65, 66, 67, 68, 69, 70, 71] (by decide +kernel) (by decide +kernel)) (goodIn_sub (fun _ h => List.mem_cons_of_mem _ (List.mem_append_left _ (List.mem_append_right _ h))) (by decide +kernel))) (goodIn_sub (fun _ h => List.mem_cons_of_mem _ (List.mem_append_right _ h)) (by decide +kernel))
set_option maxRecDepth 20000 in
theorem gL_move_X5_move : GoodIn wsL_move (wsV RL 35 RX5 yX5_move wsX5_move) := goodIn_app (goodIn_of _ (by decide +kernel)) ggL_move_X5_move
theorem dL_move_0 : decode cL_move 0 = .ok (.aload_n 3, 1) := by decide +kernel
theorem dL_move_1 : decode cL_move 1 = .ok (.iconst 0, 1) := by decide +kernel
theorem dL_move_2 : decode cL_move 2 = .ok (.aload_n 0, 1) := by decide +kernel
theorem dL_move_3 : decode cL_move 3 = .ok (.iload_n 1, 1) := by decide +kernel
theorem dL_move_4 : decode cL_move 4 = .ok (.iload_n 2, 1) := by decide +kernel
theorem dL_move_5 : decode cL_move 5 = .ok (.invokevirtual 35, 3) := by decide +kernel
theorem dL_move_8 : decode cL_move 8 = .ok (.i2l, 1) := by decide +kernel
theorem dL_move_9 : decode cL_move 9 = .ok (.lastore, 1) := by decide +kernel
theorem dL_move_10 : decode cL_move 10 = .ok (.goto 11, 3) := by decide +kernel
theorem dL_move_13 : decode cL_move 13 = .ok (.astore 4, 2) := by decide +kernel
theorem dL_move_15 : decode cL_move 15 = .ok (.iconst 1, 1) := by decide +kernel
theorem dL_move_16 : decode cL_move 16 = .ok (.ireturn, 1) := by decide +kernel
theorem dL_move_17 : decode cL_move 17 = .ok (.astore 4, 2) := by decide +kernel
theorem dL_move_19 : decode cL_move 19 = .ok (.iconst 2, 1) := by decide +kernel
theorem dL_move_20 : decode cL_move 20 = .ok (.ireturn, 1) := by decide +kernel
theorem dL_move_21 : decode cL_move 21 = .ok (.iconst 0, 1) := by decide +kernel
theorem dL_move_22 : decode cL_move 22 = .ok (.ireturn, 1) := by decide +kernel
set_option maxRecDepth 20000 in
theorem ggL_shoot_X5_shoot : GoodIn wsL_shoot wsX5_shoot := goodIn_ca (goodIn_ca (goodIn_r _ [7, 8, 9, 10, 11, 12, 6, 13, 14, 15, 16, 17, 18, 19, 20, 21, 22, 23, 24, 25, 26, 27, 28, 29, 30, 31, 32, 33, 34, 35, 36, 37, 38, 39, 40, 41, 42, 43, 44, 45, 46, 47, 48, 49, 50, 51, 52, 53, 54, 55, 56, 57, 58, 59, 60, 61, 62, 63, 64, 65, 66, 67, 68, 69, 70, 71, 72, 73, 74, 75, 76, 77, 78, 79, 80, 81, 82] (by decide +kernel) (by decide +kernel)) (goodIn_sub (fun _ h => List.mem_cons_of_mem _ (List.mem_append_left _ (List.mem_append_right _ h))) (by decide +kernel))) (goodIn_sub (fun _ h => List.mem_cons_of_mem _ (List.mem_append_right _ h)) (by decide +kernel))
set_option maxRecDepth 20000 in
theorem gL_shoot_X5_shoot : GoodIn wsL_shoot (wsV RL 38 RX5 yX5_shoot wsX5_shoot) := goodIn_app (goodIn_of _ (by decide +kernel)) ggL_shoot_X5_shoot
theorem dL_shoot_0 : decode cL_shoot 0 = .ok (.aload_n 3, 1) := by decide +kernel
theorem dL_shoot_1 : decode cL_shoot 1 = .ok (.iconst 0, 1) := by decide +kernel
theorem dL_shoot_2 : decode cL_shoot 2 = .ok (.aload_n 0, 1) := by decide +kernel
theorem dL_shoot_3 : decode cL_shoot 3 = .ok (.iload_n 1, 1) := by decide +kernel
theorem dL_shoot_4 : decode cL_shoot 4 = .ok (.iload_n 2, 1) := by decide +kernel
theorem dL_shoot_5 : decode cL_shoot 5 = .ok (.invokevirtual 38, 3) := by decide +kernel
theorem dL_shoot_8 : decode cL_shoot 8 = .ok (.i2l, 1) := by decide +kernel
theorem dL_shoot_9 : decode cL_shoot 9 = .ok (.lastore, 1) := by decide +kernel
theorem dL_shoot_10 : decode cL_shoot 10 = .ok (.goto 11, 3) := by decide +kernel
theorem dL_shoot_13 : decode cL_shoot 13 = .ok (.astore 4, 2) := by decide +kernel
theorem dL_shoot_15 : decode cL_shoot 15 = .ok (.iconst 1, 1) := by decide +kernel
theorem dL_shoot_16 : decode cL_shoot 16 = .ok (.ireturn, 1) := by decide +kernel
theorem dL_shoot_17 : decode cL_shoot 17 = .ok (.astore 4, 2) := by decide +kernel
theorem dL_shoot_19 : decode cL_shoot 19 = .ok (.iconst 2, 1) := by decide +kernel
theorem dL_shoot_20 : decode cL_shoot 20 = .ok (.ireturn, 1) := by decide +kernel
theorem dL_shoot_21 : decode cL_shoot 21 = .ok (.iconst 0, 1) := by decide +kernel
theorem dL_shoot_22 : decode cL_shoot 22 = .ok (.ireturn, 1) := by decide +kernel
set_option maxRecDepth 20000 in
theorem ggL_pass_X5_pass : GoodIn wsL_pass wsX5_pass := goodIn_ca (goodIn_ca (goodIn_r _ [7, 8, 9, 10, 11, 12, 13, 14, 6, 15, 16, 17, 18, 19, 20, 21, 22, 23, 24, 25, 26, 27, 28, 29, 30, 31, 32, 33, 34, 35, 36, 37, 38, 39, 40, 41, 42, 43, 44, 45, 46, 47, 48, 49, 50, 51, 52, 53, 54, 55, 56, 57, 58, 59, 60, 61, 62, 63, 64, 65, 66, 67, 68, 69, 70, 71, 72, 73, 74, 75, 76, 77, 78, 79, 80] (by decide +kernel) (by decide +kernel)) (goodIn_sub (fun _ h => List.mem_cons_of_mem _ (List.mem_append_left _ (List.mem_append_right _ h))) (by decide +kernel))) (goodIn_sub (fun _ h => List.mem_cons_of_mem _ (List.mem_append_right _ h)) (by decide +kernel))
set_option maxRecDepth 20000 in
theorem gL_pass_X5_pass : GoodIn wsL_pass (wsV RL 41 RX5 yX5_pass wsX5_pass) := goodIn_app (goodIn_of _ (by decide +kernel)) ggL_pass_X5_pass
theorem dL_pass_0 : decode cL_pass 0 = .ok (.aload_n 2, 1) := by decide +kernel
theorem dL_pass_1 : decode cL_pass 1 = .ok (.iconst 0, 1) := by decide +kernel
theorem dL_pass_2 : decode cL_pass 2 = .ok (.aload_n 0, 1) := by decide +kernel
theorem dL_pass_3 : decode cL_pass 3 = .ok (.iload_n 1, 1) := by decide +kernel
theorem dL_pass_4 : decode cL_pass 4 = .ok (.invokevirtual 41, 3) := by decide +kernel
theorem dL_pass_7 : decode cL_pass 7 = .ok (.i2l, 1) := by decide +kernel
theorem dL_pass_8 : decode cL_pass 8 = .ok (.lastore, 1) := by decide +kernel
theorem dL_pass_9 : decode cL_pass 9 = .ok (.goto 9, 3) := by decide +kernel
theorem dL_pass_12 : decode cL_pass 12 = .ok (.astore_n 3, 1) := by decide +kernel
theorem dL_pass_13 : decode cL_pass 13 = .ok (.iconst 1, 1) := by decide +kernel
theorem dL_pass_14 : decode cL_pass 14 = .ok (.ireturn, 1) := by decide +kernel
theorem dL_pass_15 : decode cL_pass 15 = .ok (.astore_n 3, 1) := by decide +kernel
theorem dL_pass_16 : decode cL_pass 16 = .ok (.iconst 2, 1) := by decide +kernel
theorem dL_pass_17 : decode cL_pass 17 = .ok (.ireturn, 1) := by decide +kernel
theorem dL_pass_18 : decode cL_pass 18 = .ok (.iconst 0, 1) := by decide +kernel
theorem dL_pass_19 : decode cL_pass 19 = .ok (.ireturn, 1) := by decide +kernel
set_option maxRecDepth 20000 in
theorem ggL_call_X5_call : GoodIn wsL_call wsX5_call := goodIn_ca (goodIn_ca (goodIn_r _ [7, 8, 9, 10, 11, 12, 13, 14, 6, 15, 16, 17, 18, 19, 20, 21, 22, 23, 24, 25, 26, 27, 28, 29, 30, 31, 32, 33, 34, 35, 36, 37, 38, 39, 40, 41, 42, 43, 44, 45, 46, 47, 48, 49, 50, 51, 52, 53, 54, 55, 56, 57, 58, 59, 60, 61, 62, 63, 64, 65, 66, 67, 68, 69, 70, 71, 72, 73, 74, 75, 76, 77, 78, 79, 80, 81, 82, 83, 84, 85, 86, 87, 88, 89, 90, 91, 92] (by decide +kernel) (by decide +kernel)) (goodIn_sub (fun _ h => List.mem_cons_of_mem _ (List.mem_append_left _ (List.mem_append_right _ h))) (by decide +kernel))) (goodIn_sub (fun _ h => List.mem_cons_of_mem _ (List.mem_append_right _ h)) (by decide +kernel))
set_option maxRecDepth 20000 in
theorem gL_call_X5_call : GoodIn wsL_call (wsV RL 44 RX5 yX5_call wsX5_call) := goodIn_app (goodIn_of _ (by decide +kernel)) ggL_call_X5_call
theorem dL_call_0 : decode cL_call 0 = .ok (.aload_n 3, 1) := by decide +kernel
theorem dL_call_1 : decode cL_call 1 = .ok (.iconst 0, 1) := by decide +kernel
theorem dL_call_2 : decode cL_call 2 = .ok (.aload_n 0, 1) := by decide +kernel
theorem dL_call_3 : decode cL_call 3 = .ok (.iload_n 1, 1) := by decide +kernel
theorem dL_call_4 : decode cL_call 4 = .ok (.iload_n 2, 1) := by decide +kernel
theorem dL_call_5 : decode cL_call 5 = .ok (.invokevirtual 44, 3) := by decide +kernel
theorem dL_call_8 : decode cL_call 8 = .ok (.i2l, 1) := by decide +kernel
theorem dL_call_9 : decode cL_call 9 = .ok (.lastore, 1) := by decide +kernel
theorem dL_call_10 : decode cL_call 10 = .ok (.goto 11, 3) := by decide +kernel
theorem dL_call_13 : decode cL_call 13 = .ok (.astore 4, 2) := by decide +kernel
theorem dL_call_15 : decode cL_call 15 = .ok (.iconst 1, 1) := by decide +kernel
theorem dL_call_16 : decode cL_call 16 = .ok (.ireturn, 1) := by decide +kernel
theorem dL_call_17 : decode cL_call 17 = .ok (.astore 4, 2) := by decide +kernel
theorem dL_call_19 : decode cL_call 19 = .ok (.iconst 2, 1) := by decide +kernel
theorem dL_call_20 : decode cL_call 20 = .ok (.ireturn, 1) := by decide +kernel
theorem dL_call_21 : decode cL_call 21 = .ok (.iconst 0, 1) := by decide +kernel
theorem dL_call_22 : decode cL_call 22 = .ok (.ireturn, 1) := by decide +kernel
set_option maxRecDepth 20000 in
theorem ggL_dispute_X5_dispute : GoodIn wsL_dispute wsX5_dispute := goodIn_ca (goodIn_ca (goodIn_r _ [7, 8, 9, 10, 11, 12, 13, 14, 15, 16, 17, 18, 19, 20, 21, 22, 23, 24, 25, 26, 27, 28, 29, 30, 31, 32, 33, 34, 35, 36, 37, 38, 39, 40, 41, 42, 43, 44, 45, 46, 47, 48, 49, 50, 51, 52, 53, 54, 55, 56, 57, 58, 59, 60, 61, 62, 63, 64, 65, 66, 67, 68, 69, 70, 71] (by decide +kernel) (by decide +kernel)) (goodIn_sub (fun _ h => List.mem_cons_of_mem _ (List.mem_append_left _ (List.mem_append_right _ h))) (by decide +kernel))) (goodIn_sub (fun _ h => List.mem_cons_of_mem _ (List.mem_append_right _ h)) (by decide +kernel))
set_option maxRecDepth 20000 in
theorem gL_dispute_X5_dispute : GoodIn wsL_dispute (wsV RL 47 RX5 yX5_dispute wsX5_dispute) := goodIn_app (goodIn_of _ (by decide +kernel)) ggL_dispute_X5_dispute
theorem dL_dispute_0 : decode cL_dispute 0 = .ok (.aload_n 2, 1) := by decide +kernel
theorem dL_dispute_1 : decode cL_dispute 1 = .ok (.iconst 0, 1) := by decide +kernel
theorem dL_dispute_2 : decode cL_dispute 2 = .ok (.aload_n 0, 1) := by decide +kernel
theorem dL_dispute_3 : decode cL_dispute 3 = .ok (.iload_n 1, 1) := by decide +kernel
theorem dL_dispute_4 : decode cL_dispute 4 = .ok (.invokevirtual 47, 3) := by decide +kernel
theorem dL_dispute_7 : decode cL_dispute 7 = .ok (.ifCond .eq 7, 3) := by decide +kernel
theorem dL_dispute_10 : decode cL_dispute 10 = .ok (.lconst 1, 1) := by decide +kernel
theorem dL_dispute_11 : decode cL_dispute 11 = .ok (.goto 4, 3) := by decide +kernel
theorem dL_dispute_14 : decode cL_dispute 14 = .ok (.lconst 0, 1) := by decide +kernel
theorem dL_dispute_15 : decode cL_dispute 15 = .ok (.lastore, 1) := by decide +kernel
theorem dL_dispute_16 : decode cL_dispute 16 = .ok (.goto 9, 3) := by decide +kernel
theorem dL_dispute_19 : decode cL_dispute 19 = .ok (.astore_n 3, 1) := by decide +kernel
theorem dL_dispute_20 : decode cL_dispute 20 = .ok (.iconst 1, 1) := by decide +kernel
theorem dL_dispute_21 : decode cL_dispute 21 = .ok (.ireturn, 1) := by decide +kernel
theorem dL_dispute_22 : decode cL_dispute 22 = .ok (.astore_n 3, 1) := by decide +kernel
theorem dL_dispute_23 : decode cL_dispute 23 = .ok (.iconst 2, 1) := by decide +kernel
theorem dL_dispute_24 : decode cL_dispute 24 = .ok (.ireturn, 1) := by decide +kernel
theorem dL_dispute_25 : decode cL_dispute 25 = .ok (.iconst 0, 1) := by decide +kernel
theorem dL_dispute_26 : decode cL_dispute 26 = .ok (.ireturn, 1) := by decide +kernel
set_option maxRecDepth 20000 in
theorem ggL_end_X5_end : GoodIn wsL_end wsX5_end := goodIn_ca (goodIn_r _ [6, 7, 8, 9, 10, 11, 5, 12, 13, 14, 15, 16, 17, 18, 19, 20, 21, 22, 23, 24, 25, 26, 27, 28, 29, 30, 31, 32, 33, 34, 35, 36, 37, 38, 39, 40, 41, 42, 43, 44, 45, 46, 47, 48, 49, 50, 51, 52, 53, 54, 55, 56, 57, 58, 59, 60, 61, 62, 63, 64, 65, 66, 67, 68, 69, 70, 71, 72, 73, 74, 75, 76, 77, 78, 79, 80, 81, 82, 83, 84, 85, 86, 87, 88, 89, 90, 91, 92] (by decide +kernel) (by decide +kernel)) (goodIn_sub (fun _ h => List.mem_cons_of_mem _ (List.mem_append_right _ h)) (by decide +kernel))
set_option maxRecDepth 20000 in
theorem gL_end_X5_end : GoodIn wsL_end (wsV RL 50 RX5 yX5_end wsX5_end) := goodIn_app (goodIn_of _ (by decide +kernel)) ggL_end_X5_end
theorem dL_end_0 : decode cL_end 0 = .ok (.aload_n 1, 1) := by decide +kernel
theorem dL_end_1 : decode cL_end 1 = .ok (.iconst 0, 1) := by decide +kernel
theorem dL_end_2 : decode cL_end 2 = .ok (.aload_n 0, 1) := by decide +kernel
theorem dL_end_3 : decode cL_end 3 = .ok (.invokevirtual 50, 3) := by decide +kernel
theorem dL_end_6 : decode cL_end 6 = .ok (.i2l, 1) := by decide +kernel
theorem dL_end_7 : decode cL_end 7 = .ok (.lastore, 1) := by decide +kernel
theorem dL_end_8 : decode cL_end 8 = .ok (.goto 6, 3) := by decide +kernel
theorem dL_end_11 : decode cL_end 11 = .ok (.astore_n 2, 1) := by decide +kernel
theorem dL_end_12 : decode cL_end 12 = .ok (.iconst 1, 1) := by decide +kernel
theorem dL_end_13 : decode cL_end 13 = .ok (.ireturn, 1) := by decide +kernel
theorem dL_end_14 : decode cL_end 14 = .ok (.iconst 0, 1) := by decide +kernel
theorem dL_end_15 : decode cL_end 15 = .ok (.ireturn, 1) := by decide +kernel
set_option maxRecDepth 20000 in
theorem ggL_where_X5_where : GoodIn wsL_where wsX5_where := goodIn_ca (goodIn_r _ [6, 7, 8, 9, 5, 10, 11, 12, 13, 14, 15, 16, 17, 18, 19, 20, 21, 22, 23, 24, 25, 26, 27, 28, 29, 30] (by decide +kernel) (by decide +kernel)) (goodIn_sub (fun _ h => List.mem_cons_of_mem _ (List.mem_append_right _ h)) (by decide +kernel))
set_option maxRecDepth 20000 in
theorem gL_where_X5_where : GoodIn wsL_where (wsV RL 54 RX5 yX5_where wsX5_where) := goodIn_app (goodIn_of _ (by decide +kernel)) ggL_where_X5_where
theorem dL_where_0 : decode cL_where 0 = .ok (.aload_n 2, 1) := by decide +kernel
theorem dL_where_1 : decode cL_where 1 = .ok (.iconst 0, 1) := by decide +kernel
theorem dL_where_2 : decode cL_where 2 = .ok (.aload_n 0, 1) := by decide +kernel
theorem dL_where_3 : decode cL_where 3 = .ok (.iload_n 1, 1) := by decide +kernel
theorem dL_where_4 : decode cL_where 4 = .ok (.invokevirtual 54, 3) := by decide +kernel
theorem dL_where_7 : decode cL_where 7 = .ok (.i2l, 1) := by decide +kernel
theorem dL_where_8 : decode cL_where 8 = .ok (.lastore, 1) := by decide +kernel
theorem dL_where_9 : decode cL_where 9 = .ok (.goto 6, 3) := by decide +kernel
theorem dL_where_12 : decode cL_where 12 = .ok (.astore_n 3, 1) := by decide +kernel
theorem dL_where_13 : decode cL_where 13 = .ok (.iconst 1, 1) := by decide +kernel
theorem dL_where_14 : decode cL_where 14 = .ok (.ireturn, 1) := by decide +kernel
theorem dL_where_15 : decode cL_where 15 = .ok (.iconst 0, 1) := by decide +kernel
theorem dL_where_16 : decode cL_where 16 = .ok (.ireturn, 1) := by decide +kernel
set_option maxRecDepth 20000 in
theorem ggL_hit_X5_hit : GoodIn wsL_hit wsX5_hit := goodIn_ca (goodIn_r _ [6, 7, 8, 9, 5, 10, 11, 12, 13, 14, 15, 16, 17, 18, 19, 20, 21, 22, 23, 24, 25, 26, 27, 28, 29, 30] (by decide +kernel) (by decide +kernel)) (goodIn_sub (fun _ h => List.mem_cons_of_mem _ (List.mem_append_right _ h)) (by decide +kernel))
set_option maxRecDepth 20000 in
theorem gL_hit_X5_hit : GoodIn wsL_hit (wsV RL 57 RX5 yX5_hit wsX5_hit) := goodIn_app (goodIn_of _ (by decide +kernel)) ggL_hit_X5_hit
theorem dL_hit_0 : decode cL_hit 0 = .ok (.aload_n 2, 1) := by decide +kernel
theorem dL_hit_1 : decode cL_hit 1 = .ok (.iconst 0, 1) := by decide +kernel
theorem dL_hit_2 : decode cL_hit 2 = .ok (.aload_n 0, 1) := by decide +kernel
theorem dL_hit_3 : decode cL_hit 3 = .ok (.iload_n 1, 1) := by decide +kernel
theorem dL_hit_4 : decode cL_hit 4 = .ok (.invokevirtual 57, 3) := by decide +kernel
theorem dL_hit_7 : decode cL_hit 7 = .ok (.i2l, 1) := by decide +kernel
theorem dL_hit_8 : decode cL_hit 8 = .ok (.lastore, 1) := by decide +kernel
theorem dL_hit_9 : decode cL_hit 9 = .ok (.goto 6, 3) := by decide +kernel
theorem dL_hit_12 : decode cL_hit 12 = .ok (.astore_n 3, 1) := by decide +kernel
theorem dL_hit_13 : decode cL_hit 13 = .ok (.iconst 1, 1) := by decide +kernel
theorem dL_hit_14 : decode cL_hit 14 = .ok (.ireturn, 1) := by decide +kernel
theorem dL_hit_15 : decode cL_hit 15 = .ok (.iconst 0, 1) := by decide +kernel
theorem dL_hit_16 : decode cL_hit 16 = .ok (.ireturn, 1) := by decide +kernel
set_option maxRecDepth 20000 in
theorem ggL_points_X5_points : GoodIn wsL_points wsX5_points := goodIn_ca (goodIn_r _ [6, 7, 8, 9, 5, 10, 11, 12, 13, 14, 15, 16, 17, 18, 19, 20, 21, 22, 23, 24, 25, 26] (by decide +kernel) (by decide +kernel)) (goodIn_sub (fun _ h => List.mem_cons_of_mem _ (List.mem_append_right _ h)) (by decide +kernel))
set_option maxRecDepth 20000 in
theorem gL_points_X5_points : GoodIn wsL_points (wsV RL 60 RX5 yX5_points wsX5_points) := goodIn_app (goodIn_of _ (by decide +kernel)) ggL_points_X5_points
theorem dL_points_0 : decode cL_points 0 = .ok (.aload_n 2, 1) := by decide +kernel
theorem dL_points_1 : decode cL_points 1 = .ok (.iconst 0, 1) := by decide +kernel
theorem dL_points_2 : decode cL_points 2 = .ok (.aload_n 0, 1) := by decide +kernel
theorem dL_points_3 : decode cL_points 3 = .ok (.iload_n 1, 1) := by decide +kernel
theorem dL_points_4 : decode cL_points 4 = .ok (.invokevirtual 60, 3) := by decide +kernel
theorem dL_points_7 : decode cL_points 7 = .ok (.i2l, 1) := by decide +kernel
theorem dL_points_8 : decode cL_points 8 = .ok (.lastore, 1) := by decide +kernel
theorem dL_points_9 : decode cL_points 9 = .ok (.goto 6, 3) := by decide +kernel
theorem dL_points_12 : decode cL_points 12 = .ok (.astore_n 3, 1) := by decide +kernel
theorem dL_points_13 : decode cL_points 13 = .ok (.iconst 1, 1) := by decide +kernel
theorem dL_points_14 : decode cL_points 14 = .ok (.ireturn, 1) := by decide +kernel
theorem dL_points_15 : decode cL_points 15 = .ok (.iconst 0, 1) := by decide +kernel
theorem dL_points_16 : decode cL_points 16 = .ok (.ireturn, 1) := by decide +kernel
set_option maxRecDepth 20000 in
theorem ggL_fines_X5_fines : GoodIn wsL_fines wsX5_fines := goodIn_ca (goodIn_r _ [6, 7, 8, 9, 5, 10, 11, 12, 13, 14, 15, 16, 17, 18, 19, 20, 21, 22, 23, 24, 25, 26] (by decide +kernel) (by decide +kernel)) (goodIn_sub (fun _ h => List.mem_cons_of_mem _ (List.mem_append_right _ h)) (by decide +kernel))
set_option maxRecDepth 20000 in
theorem gL_fines_X5_fines : GoodIn wsL_fines (wsV RL 63 RX5 yX5_fines wsX5_fines) := goodIn_app (goodIn_of _ (by decide +kernel)) ggL_fines_X5_fines
theorem dL_fines_0 : decode cL_fines 0 = .ok (.aload_n 2, 1) := by decide +kernel
theorem dL_fines_1 : decode cL_fines 1 = .ok (.iconst 0, 1) := by decide +kernel
theorem dL_fines_2 : decode cL_fines 2 = .ok (.aload_n 0, 1) := by decide +kernel
theorem dL_fines_3 : decode cL_fines 3 = .ok (.iload_n 1, 1) := by decide +kernel
theorem dL_fines_4 : decode cL_fines 4 = .ok (.invokevirtual 63, 3) := by decide +kernel
theorem dL_fines_7 : decode cL_fines 7 = .ok (.i2l, 1) := by decide +kernel
theorem dL_fines_8 : decode cL_fines 8 = .ok (.lastore, 1) := by decide +kernel
theorem dL_fines_9 : decode cL_fines 9 = .ok (.goto 6, 3) := by decide +kernel
theorem dL_fines_12 : decode cL_fines 12 = .ok (.astore_n 3, 1) := by decide +kernel
theorem dL_fines_13 : decode cL_fines 13 = .ok (.iconst 1, 1) := by decide +kernel
theorem dL_fines_14 : decode cL_fines 14 = .ok (.ireturn, 1) := by decide +kernel
theorem dL_fines_15 : decode cL_fines 15 = .ok (.iconst 0, 1) := by decide +kernel
theorem dL_fines_16 : decode cL_fines 16 = .ok (.ireturn, 1) := by decide +kernel
set_option maxRecDepth 20000 in
theorem ggL_difference_X5_difference : GoodIn wsL_difference wsX5_difference := goodIn_ca (goodIn_r _ [6, 7, 8, 9, 5, 10, 11, 12, 13, 14, 15, 16, 17, 18, 19, 20, 21, 22, 23, 24, 25, 26] (by decide +kernel) (by decide +kernel)) (goodIn_sub (fun _ h => List.mem_cons_of_mem _ (List.mem_append_right _ h)) (by decide +kernel))
set_option maxRecDepth 20000 in
theorem gL_difference_X5_difference : GoodIn wsL_difference (wsV RL 66 RX5 yX5_difference wsX5_difference) := goodIn_app (goodIn_of _ (by decide +kernel)) ggL_difference_X5_difference
theorem dL_difference_0 : decode cL_difference 0 = .ok (.aload_n 2, 1) := by decide +kernel
theorem dL_difference_1 : decode cL_difference 1 = .ok (.iconst 0, 1) := by decide +kernel
theorem dL_difference_2 : decode cL_difference 2 = .ok (.aload_n 0, 1) := by decide +kernel
theorem dL_difference_3 : decode cL_difference 3 = .ok (.iload_n 1, 1) := by decide +kernel
theorem dL_difference_4 : decode cL_difference 4 = .ok (.invokevirtual 66, 3) := by decide +kernel
theorem dL_difference_7 : decode cL_difference 7 = .ok (.i2l, 1) := by decide +kernel
theorem dL_difference_8 : decode cL_difference 8 = .ok (.lastore, 1) := by decide +kernel
theorem dL_difference_9 : decode cL_difference 9 = .ok (.goto 6, 3) := by decide +kernel
theorem dL_difference_12 : decode cL_difference 12 = .ok (.astore_n 3, 1) := by decide +kernel
theorem dL_difference_13 : decode cL_difference 13 = .ok (.iconst 1, 1) := by decide +kernel
theorem dL_difference_14 : decode cL_difference 14 = .ok (.ireturn, 1) := by decide +kernel
theorem dL_difference_15 : decode cL_difference 15 = .ok (.iconst 0, 1) := by decide +kernel
theorem dL_difference_16 : decode cL_difference 16 = .ok (.ireturn, 1) := by decide +kernel
set_option maxRecDepth 20000 in
theorem ggL_place_X5_place : GoodIn wsL_place wsX5_place := goodIn_ca (goodIn_r _ [6, 7, 8, 9, 5, 10, 11, 12, 13, 14, 15, 16, 17, 18, 19, 20, 21, 22, 23, 24, 25, 26, 27, 28, 29, 30, 31, 32] (by decide +kernel) (by decide +kernel)) (goodIn_sub (fun _ h => List.mem_cons_of_mem _ (List.mem_append_right _ h)) (by decide +kernel))
set_option maxRecDepth 20000 in
theorem gL_place_X5_place : GoodIn wsL_place (wsV RL 69 RX5 yX5_place wsX5_place) := goodIn_app (goodIn_of _ (by decide +kernel)) ggL_place_X5_place
theorem dL_place_0 : decode cL_place 0 = .ok (.aload_n 2, 1) := by decide +kernel
theorem dL_place_1 : decode cL_place 1 = .ok (.iconst 0, 1) := by decide +kernel
theorem dL_place_2 : decode cL_place 2 = .ok (.aload_n 0, 1) := by decide +kernel
theorem dL_place_3 : decode cL_place 3 = .ok (.iload_n 1, 1) := by decide +kernel
theorem dL_place_4 : decode cL_place 4 = .ok (.invokevirtual 69, 3) := by decide +kernel
theorem dL_place_7 : decode cL_place 7 = .ok (.i2l, 1) := by decide +kernel
theorem dL_place_8 : decode cL_place 8 = .ok (.lastore, 1) := by decide +kernel
theorem dL_place_9 : decode cL_place 9 = .ok (.goto 6, 3) := by decide +kernel
theorem dL_place_12 : decode cL_place 12 = .ok (.astore_n 3, 1) := by decide +kernel
theorem dL_place_13 : decode cL_place 13 = .ok (.iconst 1, 1) := by decide +kernel
theorem dL_place_14 : decode cL_place 14 = .ok (.ireturn, 1) := by decide +kernel
theorem dL_place_15 : decode cL_place 15 = .ok (.iconst 0, 1) := by decide +kernel
theorem dL_place_16 : decode cL_place 16 = .ok (.ireturn, 1) := by decide +kernel
set_option maxRecDepth 20000 in
theorem ggL_law_X5_init : GoodIn wsL_law wsX5_init := goodIn_r _ [9, 10, 11, 12, 13, 14, 15, 16, 17, 18, 19, 20, 21, 22, 23, 24, 25, 26, 27, 28, 29, 30, 31, 32, 33, 34, 35, 36, 37, 38, 39, 40, 41, 42, 43, 44, 45, 46, 47, 48, 49, 50, 51, 52, 53, 54, 55, 56, 57, 58, 59, 60, 61, 62, 63, 64, 65, 66, 67, 68, 69, 70, 71, 72, 73, 74, 75, 599, 571, 572, 573, 574, 600, 601, 602, 603, 604, 605, 606, 607, 608, 609, 610, 611, 612, 613, 614, 615, 616, 617, 618, 619, 620, 621] (by decide +kernel) (by decide +kernel)
set_option maxRecDepth 20000 in
theorem gL_law_X5_init : GoodIn wsL_law (wsX5_init) := ggL_law_X5_init
set_option maxRecDepth 20000 in
theorem ggL_law_X6_init : GoodIn wsL_law wsX6_init := goodIn_r _ [78, 79, 11, 12, 30, 80, 25, 81, 82, 83, 84, 85, 86, 87, 88, 89, 90, 91, 92, 93, 94, 95, 96, 575, 576, 577, 578, 579, 580, 581, 582, 583, 584, 585, 586, 587, 588, 589, 590, 591, 592, 593, 594, 595, 596, 597, 598] (by decide +kernel) (by decide +kernel)
set_option maxRecDepth 20000 in
theorem gL_law_X6_init : GoodIn wsL_law (wsX6_init) := ggL_law_X6_init
set_option maxRecDepth 20000 in
theorem ggL_law_L_toggleBunker : GoodIn wsL_law wsL_toggleBunker := goodIn_ca (goodIn_ca (goodIn_r _ [100, 101, 102, 103, 104, 105, 2, 106, 107, 108, 20, 16, 109, 110, 111, 112, 113, 114, 115, 116, 19, 117, 36, 118, 119, 120, 15, 121, 31, 571, 572, 573, 574, 600, 601, 602, 603, 604, 605, 606, 607, 599] (by decide +kernel) (by decide +kernel)) (goodIn_sub (fun _ h => List.mem_append_left _ (List.mem_append_left _ (List.mem_append_right _ h))) (by decide +kernel))) (goodIn_sub (fun _ h => List.mem_append_left _ (List.mem_append_right _ h)) (by decide +kernel))
set_option maxRecDepth 20000 in
theorem gL_law_L_toggleBunker : GoodIn wsL_law (va_wsS RL 76 yL_toggleBunker wsL_toggleBunker) := goodIn_app (goodIn_of _ (by decide +kernel)) ggL_law_L_toggleBunker
set_option maxRecDepth 20000 in
theorem ggL_law_X6_toggleBunker : GoodIn wsL_law wsX6_toggleBunker := goodIn_r _ [125, 126, 80, 127, 128, 5, 129, 130, 131, 132, 133, 134, 135, 136, 137, 575, 576, 577, 578, 579, 580, 581, 582, 583, 584, 585, 586, 587, 588, 589, 590, 591, 592, 593, 594, 595, 596, 597, 598] (by decide +kernel) (by decide +kernel)
set_option maxRecDepth 20000 in
theorem gL_law_X6_toggleBunker : GoodIn wsL_law (wsV RL 81 RX6 yX6_toggleBunker wsX6_toggleBunker) := goodIn_app (goodIn_of _ (by decide +kernel)) ggL_law_X6_toggleBunker
set_option maxRecDepth 20000 in
theorem ggL_law_X6_thrown : GoodIn wsL_law wsX6_thrown := goodIn_r _ [141, 137, 575, 576, 577, 578, 579, 580, 581, 582, 583, 584, 585, 586, 587, 588, 589, 590, 591, 592, 593, 594, 595, 596, 597, 598] (by decide +kernel) (by decide +kernel)
set_option maxRecDepth 20000 in
theorem gL_law_X6_thrown : GoodIn wsL_law (wsV RL 82 RX6 yX6_thrown wsX6_thrown) := goodIn_app (goodIn_of _ (by decide +kernel)) ggL_law_X6_thrown
set_option maxRecDepth 20000 in
theorem ggL_law_L_sees : GoodIn wsL_law wsL_sees := goodIn_ca (goodIn_r _ [144, 101, 145, 146, 147, 2, 148, 16, 109, 110, 111, 112, 113, 149, 150, 151, 15, 152, 31, 153, 154, 155, 156, 157, 158, 159, 160, 161, 162, 163, 164, 165, 571, 572, 573, 574, 599] (by decide +kernel) (by decide +kernel)) (goodIn_sub (fun _ h => List.mem_append_left _ (List.mem_append_right _ h)) (by decide +kernel))
set_option maxRecDepth 20000 in
theorem gL_law_L_sees : GoodIn wsL_law (va_wsS RL 85 yL_sees wsL_sees) := goodIn_app (goodIn_of _ (by decide +kernel)) ggL_law_L_sees
set_option maxRecDepth 20000 in
theorem ggL_law_X6_sees : GoodIn wsL_law wsX6_sees := goodIn_r _ [169, 127, 128, 5, 129, 130, 131, 132, 133, 134, 135, 136, 137, 170, 171, 172, 173, 80, 174, 175, 176, 177, 178, 179, 180, 181, 182, 575, 576, 577, 578, 579, 580, 581, 582, 583, 584, 585, 586, 587, 588, 589, 590, 591, 592, 593, 594, 595, 596, 597, 598] (by decide +kernel) (by decide +kernel)
set_option maxRecDepth 20000 in
theorem gL_law_X6_sees : GoodIn wsL_law (wsV RL 88 RX6 yX6_sees wsX6_sees) := goodIn_app (goodIn_of _ (by decide +kernel)) ggL_law_X6_sees
set_option maxRecDepth 20000 in
theorem ggL_law_L_view : GoodIn wsL_law wsL_view := goodIn_ca (goodIn_r _ [185, 101, 186, 187, 188, 2, 189, 16, 109, 110, 111, 112, 113, 190, 191, 192, 15, 193, 194, 150, 151, 152, 31, 153, 154, 155, 156, 157, 158, 159, 160, 161, 162, 163, 164, 165, 571, 572, 573, 574, 599] (by decide +kernel) (by decide +kernel)) (goodIn_sub (fun _ h => List.mem_append_left _ (List.mem_append_right _ h)) (by decide +kernel))
set_option maxRecDepth 20000 in
theorem gL_law_L_view : GoodIn wsL_law (va_wsS RL 89 yL_view wsL_view) := goodIn_app (goodIn_of _ (by decide +kernel)) ggL_law_L_view
set_option maxRecDepth 20000 in
theorem ggL_law_X6_view : GoodIn wsL_law wsX6_view := goodIn_r _ [198, 127, 128, 5, 129, 130, 131, 132, 133, 134, 135, 136, 137, 170, 171, 172, 173, 80, 174, 175, 176, 177, 178, 179, 180, 181, 182, 575, 576, 577, 578, 579, 580, 581, 582, 583, 584, 585, 586, 587, 588, 589, 590, 591, 592, 593, 594, 595, 596, 597, 598] (by decide +kernel) (by decide +kernel)
set_option maxRecDepth 20000 in
theorem gL_law_X6_view : GoodIn wsL_law (wsV RL 91 RX6 yX6_view wsX6_view) := goodIn_app (goodIn_of _ (by decide +kernel)) ggL_law_X6_view
set_option maxRecDepth 20000 in
theorem ggL_law_L_setReferee : GoodIn wsL_law wsL_setReferee := goodIn_ca (goodIn_r _ [201, 101, 202, 203, 204, 2, 205, 26, 206, 207, 208, 112, 113, 109, 110, 111, 571, 572, 573, 574] (by decide +kernel) (by decide +kernel)) (goodIn_sub (fun _ h => List.mem_append_left _ (List.mem_append_right _ h)) (by decide +kernel))
set_option maxRecDepth 20000 in
theorem gL_law_L_setReferee : GoodIn wsL_law (va_wsS RL 92 yL_setReferee wsL_setReferee) := goodIn_app (goodIn_of _ (by decide +kernel)) ggL_law_L_setReferee
set_option maxRecDepth 20000 in
theorem ggL_law_X6_setReferee : GoodIn wsL_law wsX6_setReferee := goodIn_r _ [212, 81, 213, 214, 5, 215, 130, 131, 132, 127, 128, 129, 133, 134, 135, 136, 137, 575, 576, 577, 578, 579, 580, 581, 582, 583, 584, 585, 586, 587, 588, 589, 590, 591, 592, 593, 594, 595, 596, 597, 598] (by decide +kernel) (by decide +kernel)
set_option maxRecDepth 20000 in
theorem gL_law_X6_setReferee : GoodIn wsL_law (wsV RL 94 RX6 yX6_setReferee wsX6_setReferee) := goodIn_app (goodIn_of _ (by decide +kernel)) ggL_law_X6_setReferee
set_option maxRecDepth 20000 in
theorem ggL_law_L_begin : GoodIn wsL_law wsL_begin := goodIn_ca (goodIn_ca (goodIn_ca (goodIn_r _ [218, 101, 219, 102, 220, 221, 222, 2, 223, 224, 225, 107, 108, 20, 226, 227, 228, 112, 113, 114, 115, 116, 19, 117, 36, 229, 230, 231, 232, 233, 234, 62, 63, 64, 65, 37, 38, 39, 43, 66, 47, 67, 571, 572, 573, 574, 600, 601, 602, 603, 604, 605, 606, 607, 612, 613, 614, 615, 616, 617, 618, 619, 620, 621] (by decide +kernel) (by decide +kernel)) (goodIn_sub (fun _ h => List.mem_append_right _ h) (by decide +kernel))) (goodIn_sub (fun _ h => List.mem_append_left _ (List.mem_append_left _ (List.mem_append_right _ h))) (by decide +kernel))) (goodIn_sub (fun _ h => List.mem_append_left _ (List.mem_append_right _ h)) (by decide +kernel))
set_option maxRecDepth 20000 in
theorem gL_law_L_begin : GoodIn wsL_law (va_wsS RL 95 yL_begin wsL_begin) := goodIn_app (goodIn_of _ (by decide +kernel)) ggL_law_L_begin
set_option maxRecDepth 20000 in
theorem ggL_law_X6_begin : GoodIn wsL_law wsX6_begin := goodIn_r _ [238, 126, 239, 240, 241, 242, 243, 82, 83, 84, 244, 245, 5, 246, 130, 131, 132, 133, 134, 135, 136, 137, 575, 576, 577, 578, 579, 580, 581, 582, 583, 584, 585, 586, 587, 588, 589, 590, 591, 592, 593, 594, 595, 596, 597, 598] (by decide +kernel) (by decide +kernel)
set_option maxRecDepth 20000 in
theorem gL_law_X6_begin : GoodIn wsL_law (wsV RL 98 RX6 yX6_begin wsX6_begin) := goodIn_app (goodIn_of _ (by decide +kernel)) ggL_law_X6_begin
set_option maxRecDepth 20000 in
theorem ggL_law_L_move : GoodIn wsL_law wsL_move := goodIn_ca (goodIn_ca (goodIn_r _ [249, 101, 102, 250, 251, 252, 2, 253, 107, 108, 20, 16, 254, 255, 256, 112, 113, 109, 110, 111, 257, 258, 259, 260, 114, 115, 116, 19, 117, 36, 261, 262, 263, 264, 37, 265, 266, 15, 267, 163, 164, 155, 165, 157, 158, 159, 268, 269, 270, 271, 31, 272, 273, 274, 275, 276, 277, 278, 279, 571, 572, 573, 574, 600, 601, 602, 603, 604, 605, 606, 607, 599] (by decide +kernel) (by decide +kernel)) (goodIn_sub (fun _ h => List.mem_append_left _ (List.mem_append_left _ (List.mem_append_right _ h))) (by decide +kernel))) (goodIn_sub (fun _ h => List.mem_append_left _ (List.mem_append_right _ h)) (by decide +kernel))
set_option maxRecDepth 20000 in
theorem gL_law_L_move : GoodIn wsL_law (va_wsS RL 99 yL_move wsL_move) := goodIn_app (goodIn_of _ (by decide +kernel)) ggL_law_L_move
set_option maxRecDepth 20000 in
theorem ggL_law_X6_move : GoodIn wsL_law wsX6_move := goodIn_r _ [283, 126, 82, 80, 284, 285, 5, 286, 130, 131, 132, 127, 128, 129, 287, 288, 289, 290, 291, 292, 293, 294, 295, 296, 133, 134, 135, 136, 137, 575, 576, 577, 578, 579, 580, 581, 582, 583, 584, 585, 586, 587, 588, 589, 590, 591, 592, 593, 594, 595, 596, 597, 598] (by decide +kernel) (by decide +kernel)
set_option maxRecDepth 20000 in
theorem gL_law_X6_move : GoodIn wsL_law (wsV RL 101 RX6 yX6_move wsX6_move) := goodIn_app (goodIn_of _ (by decide +kernel)) ggL_law_X6_move
set_option maxRecDepth 20000 in
theorem ggL_law_L_shoot : GoodIn wsL_law wsL_shoot := goodIn_ca (goodIn_ca (goodIn_r _ [299, 101, 102, 300, 301, 302, 2, 303, 107, 108, 20, 254, 255, 256, 112, 113, 109, 110, 111, 257, 258, 259, 260, 114, 115, 116, 19, 117, 36, 261, 262, 263, 264, 37, 304, 305, 306, 307, 39, 43, 66, 308, 309, 310, 311, 312, 266, 15, 267, 163, 164, 155, 165, 157, 158, 159, 313, 314, 315, 42, 316, 51, 317, 52, 53, 54, 571, 572, 573, 574, 600, 601, 602, 603, 604, 605, 606, 607, 612, 613, 614, 615, 616] (by decide +kernel) (by decide +kernel)) (goodIn_sub (fun _ h => List.mem_append_left _ (List.mem_append_left _ (List.mem_append_right _ h))) (by decide +kernel))) (goodIn_sub (fun _ h => List.mem_append_left _ (List.mem_append_right _ h)) (by decide +kernel))
set_option maxRecDepth 20000 in
theorem gL_law_L_shoot : GoodIn wsL_law (va_wsS RL 102 yL_shoot wsL_shoot) := goodIn_app (goodIn_of _ (by decide +kernel)) ggL_law_L_shoot
set_option maxRecDepth 20000 in
theorem ggL_law_X6_shoot : GoodIn wsL_law wsX6_shoot := goodIn_r _ [321, 126, 82, 84, 241, 242, 85, 86, 87, 88, 284, 285, 5, 286, 130, 131, 132, 127, 128, 129, 133, 134, 135, 136, 137, 287, 288, 289, 290, 291, 292, 575, 576, 577, 578, 579, 580, 581, 582, 583, 584, 585, 586, 587, 588, 589, 590, 591, 592, 593, 594, 595, 596, 597, 598] (by decide +kernel) (by decide +kernel)
set_option maxRecDepth 20000 in
theorem gL_law_X6_shoot : GoodIn wsL_law (wsV RL 104 RX6 yX6_shoot wsX6_shoot) := goodIn_app (goodIn_of _ (by decide +kernel)) ggL_law_X6_shoot
set_option maxRecDepth 20000 in
theorem ggL_law_L_pass : GoodIn wsL_law wsL_pass := goodIn_ca (goodIn_ca (goodIn_r _ [324, 219, 102, 325, 326, 327, 2, 328, 224, 225, 20, 16, 257, 258, 259, 260, 107, 108, 114, 115, 116, 19, 117, 36, 329, 330, 331, 332, 43, 66, 333, 334, 335, 336, 337, 338, 339, 340, 38, 341, 273, 274, 275, 37, 342, 150, 151, 15, 152, 31, 153, 154, 155, 156, 157, 158, 159, 160, 161, 162, 163, 164, 165, 571, 572, 573, 574, 600, 601, 602, 603, 604, 605, 606, 607, 612, 613, 614, 615, 616, 599] (by decide +kernel) (by decide +kernel)) (goodIn_sub (fun _ h => List.mem_append_right _ h) (by decide +kernel))) (goodIn_sub (fun _ h => List.mem_append_left _ (List.mem_append_left _ (List.mem_append_right _ h))) (by decide +kernel))
set_option maxRecDepth 20000 in
theorem gL_law_L_pass : GoodIn wsL_law (va_wsS RL 105 yL_pass wsL_pass) := goodIn_app (goodIn_of _ (by decide +kernel)) ggL_law_L_pass
set_option maxRecDepth 20000 in
theorem ggL_law_X6_pass : GoodIn wsL_law wsX6_pass := goodIn_r _ [346, 126, 241, 242, 88, 87, 85, 86, 83, 130, 131, 5, 132, 133, 134, 135, 136, 137, 293, 294, 295, 296, 82, 170, 171, 172, 173, 80, 174, 175, 176, 177, 178, 179, 180, 181, 182, 575, 576, 577, 578, 579, 580, 581, 582, 583, 584, 585, 586, 587, 588, 589, 590, 591, 592, 593, 594, 595, 596, 597, 598] (by decide +kernel) (by decide +kernel)
set_option maxRecDepth 20000 in
theorem gL_law_X6_pass : GoodIn wsL_law (wsV RL 107 RX6 yX6_pass wsX6_pass) := goodIn_app (goodIn_of _ (by decide +kernel)) ggL_law_X6_pass
set_option maxRecDepth 20000 in
theorem ggL_law_L_call : GoodIn wsL_law wsL_call := goodIn_ca (goodIn_ca (goodIn_r _ [349, 101, 102, 350, 351, 352, 2, 353, 107, 108, 20, 16, 26, 206, 207, 208, 112, 113, 254, 255, 256, 257, 258, 259, 260, 114, 115, 116, 19, 117, 36, 261, 262, 263, 264, 37, 149, 150, 151, 15, 152, 31, 153, 154, 155, 156, 157, 158, 159, 160, 161, 162, 163, 164, 165, 354, 355, 356, 357, 47, 67, 358, 359, 360, 361, 362, 363, 364, 46, 365, 58, 366, 59, 60, 61, 571, 572, 573, 574, 600, 601, 602, 603, 604, 605, 606, 607, 599, 617, 618, 619, 620, 621] (by decide +kernel) (by decide +kernel)) (goodIn_sub (fun _ h => List.mem_append_left _ (List.mem_append_left _ (List.mem_append_right _ h))) (by decide +kernel))) (goodIn_sub (fun _ h => List.mem_append_left _ (List.mem_append_right _ h)) (by decide +kernel))
set_option maxRecDepth 20000 in
theorem gL_law_L_call : GoodIn wsL_law (va_wsS RL 108 yL_call wsL_call) := goodIn_app (goodIn_of _ (by decide +kernel)) ggL_law_L_call
set_option maxRecDepth 20000 in
theorem ggL_law_X6_call : GoodIn wsL_law wsX6_call := goodIn_r _ [370, 126, 82, 81, 89, 243, 90, 241, 91, 92, 213, 214, 5, 215, 130, 131, 132, 284, 285, 286, 170, 171, 172, 173, 80, 174, 175, 176, 177, 178, 179, 180, 181, 182, 133, 134, 135, 136, 137, 575, 576, 577, 578, 579, 580, 581, 582, 583, 584, 585, 586, 587, 588, 589, 590, 591, 592, 593, 594, 595, 596, 597, 598] (by decide +kernel) (by decide +kernel)
set_option maxRecDepth 20000 in
theorem gL_law_X6_call : GoodIn wsL_law (wsV RL 110 RX6 yX6_call wsX6_call) := goodIn_app (goodIn_of _ (by decide +kernel)) ggL_law_X6_call
set_option maxRecDepth 20000 in
theorem ggL_law_L_dispute : GoodIn wsL_law wsL_dispute := goodIn_ca (goodIn_ca (goodIn_r _ [373, 101, 102, 374, 375, 376, 2, 377, 112, 113, 107, 108, 20, 24, 378, 379, 380, 19, 381, 47, 67, 382, 383, 384, 385, 386, 387, 388, 389, 390, 391, 38, 392, 393, 37, 341, 273, 274, 275, 394, 395, 396, 397, 233, 234, 398, 399, 400, 23, 401, 72, 571, 572, 573, 574, 600, 601, 602, 603, 604, 605, 606, 607, 617, 618, 619, 620, 621, 608, 609, 610, 611] (by decide +kernel) (by decide +kernel)) (goodIn_sub (fun _ h => List.mem_append_left _ (List.mem_append_right _ h)) (by decide +kernel))) (goodIn_sub (fun _ h => List.mem_append_left _ (List.mem_append_left _ (List.mem_append_right _ h))) (by decide +kernel))
set_option maxRecDepth 20000 in
theorem gL_law_L_dispute : GoodIn wsL_law (va_wsS RL 111 yL_dispute wsL_dispute) := goodIn_app (goodIn_of _ (by decide +kernel)) ggL_law_L_dispute
set_option maxRecDepth 20000 in
theorem ggL_law_X6_dispute : GoodIn wsL_law wsX6_dispute := goodIn_r _ [405, 126, 243, 92, 89, 83, 90, 94, 82, 91, 130, 131, 5, 132, 133, 134, 135, 136, 137, 406, 407, 408, 409, 239, 240, 293, 294, 295, 296, 575, 576, 577, 578, 579, 580, 581, 582, 583, 584, 585, 586, 587, 588, 589, 590, 591, 592, 593, 594, 595, 596, 597, 598] (by decide +kernel) (by decide +kernel)
set_option maxRecDepth 20000 in
theorem gL_law_X6_dispute : GoodIn wsL_law (wsV RL 113 RX6 yX6_dispute wsX6_dispute) := goodIn_app (goodIn_of _ (by decide +kernel)) ggL_law_X6_dispute
set_option maxRecDepth 20000 in
theorem ggL_law_L_end : GoodIn wsL_law wsL_end := goodIn_ca (goodIn_r _ [412, 102, 413, 414, 415, 2, 416, 20, 24, 257, 258, 259, 260, 107, 108, 114, 115, 116, 19, 117, 36, 417, 418, 419, 420, 37, 38, 421, 422, 423, 424, 233, 425, 426, 427, 428, 234, 429, 430, 431, 23, 432, 73, 71, 433, 434, 435, 436, 75, 437, 438, 439, 440, 72, 441, 442, 443, 444, 62, 63, 64, 65, 39, 43, 66, 47, 67, 571, 572, 573, 574, 600, 601, 602, 603, 604, 605, 606, 607, 608, 609, 610, 611, 612, 613, 614, 615, 616, 617, 618, 619, 620, 621] (by decide +kernel) (by decide +kernel)) (goodIn_sub (fun _ h => List.mem_append_left _ (List.mem_append_left _ (List.mem_append_right _ h))) (by decide +kernel))
set_option maxRecDepth 20000 in
theorem gL_law_L_end : GoodIn wsL_law (va_wsS RL 114 yL_end wsL_end) := goodIn_app (goodIn_of _ (by decide +kernel)) ggL_law_L_end
set_option maxRecDepth 20000 in
theorem ggL_law_X6_end : GoodIn wsL_law wsX6_end := goodIn_r _ [448, 126, 82, 83, 93, 239, 240, 96, 95, 94, 133, 134, 135, 5, 136, 137, 575, 576, 577, 578, 579, 580, 581, 582, 583, 584, 585, 586, 587, 588, 589, 590, 591, 592, 593, 594, 595, 596, 597, 598] (by decide +kernel) (by decide +kernel)
set_option maxRecDepth 20000 in
theorem gL_law_X6_end : GoodIn wsL_law (wsV RL 117 RX6 yX6_end wsX6_end) := goodIn_app (goodIn_of _ (by decide +kernel)) ggL_law_X6_end
set_option maxRecDepth 20000 in
theorem ggL_law_X5_tick : GoodIn wsL_law wsX5_tick := goodIn_r _ [452, 20, 453, 454, 455, 19, 456, 36, 571, 572, 573, 574, 600, 601, 602, 603, 604, 605, 606, 607] (by decide +kernel) (by decide +kernel)
set_option maxRecDepth 20000 in
theorem gL_law_X5_tick : GoodIn wsL_law (wsV RL 118 RX5 yX5_tick wsX5_tick) := goodIn_app (goodIn_of _ (by decide +kernel)) ggL_law_X5_tick
set_option maxRecDepth 20000 in
theorem ggL_law_X6_tick : GoodIn wsL_law wsX6_tick := goodIn_r _ [460, 137, 126, 241, 575, 576, 577, 578, 579, 580, 581, 582, 583, 584, 585, 586, 587, 588, 589, 590, 591, 592, 593, 594, 595, 596, 597, 598] (by decide +kernel) (by decide +kernel)
set_option maxRecDepth 20000 in
theorem gL_law_X6_tick : GoodIn wsL_law (wsV RL 121 RX6 yX6_tick wsX6_tick) := goodIn_app (goodIn_of _ (by decide +kernel)) ggL_law_X6_tick
set_option maxRecDepth 20000 in
theorem ggL_law_L_where : GoodIn wsL_law wsL_where := goodIn_ca (goodIn_r _ [463, 101, 464, 465, 466, 2, 467, 20, 254, 255, 256, 112, 113, 261, 262, 263, 19, 264, 37, 571, 572, 573, 574, 600, 601, 602, 603, 604, 605, 606, 607] (by decide +kernel) (by decide +kernel)) (goodIn_sub (fun _ h => List.mem_append_left _ (List.mem_append_right _ h)) (by decide +kernel))
set_option maxRecDepth 20000 in
theorem gL_law_L_where : GoodIn wsL_law (va_wsS RL 122 yL_where wsL_where) := goodIn_app (goodIn_of _ (by decide +kernel)) ggL_law_L_where
set_option maxRecDepth 20000 in
theorem ggL_law_X6_where : GoodIn wsL_law wsX6_where := goodIn_r _ [471, 126, 82, 284, 285, 5, 286, 130, 131, 132, 133, 134, 135, 136, 137, 575, 576, 577, 578, 579, 580, 581, 582, 583, 584, 585, 586, 587, 588, 589, 590, 591, 592, 593, 594, 595, 596, 597, 598] (by decide +kernel) (by decide +kernel)
set_option maxRecDepth 20000 in
theorem gL_law_X6_where : GoodIn wsL_law (wsV RL 124 RX6 yX6_where wsX6_where) := goodIn_app (goodIn_of _ (by decide +kernel)) ggL_law_X6_where
set_option maxRecDepth 20000 in
theorem ggL_law_L_hit : GoodIn wsL_law wsL_hit := goodIn_ca (goodIn_r _ [474, 101, 475, 476, 477, 2, 478, 20, 254, 255, 256, 112, 113, 479, 480, 481, 19, 482, 38, 571, 572, 573, 574, 600, 601, 602, 603, 604, 605, 606, 607] (by decide +kernel) (by decide +kernel)) (goodIn_sub (fun _ h => List.mem_append_left _ (List.mem_append_right _ h)) (by decide +kernel))
set_option maxRecDepth 20000 in
theorem gL_law_L_hit : GoodIn wsL_law (va_wsS RL 125 yL_hit wsL_hit) := goodIn_app (goodIn_of _ (by decide +kernel)) ggL_law_L_hit
set_option maxRecDepth 20000 in
theorem ggL_law_X6_hit : GoodIn wsL_law wsX6_hit := goodIn_r _ [486, 126, 83, 284, 285, 5, 286, 130, 131, 132, 133, 134, 135, 136, 137, 575, 576, 577, 578, 579, 580, 581, 582, 583, 584, 585, 586, 587, 588, 589, 590, 591, 592, 593, 594, 595, 596, 597, 598] (by decide +kernel) (by decide +kernel)
set_option maxRecDepth 20000 in
theorem gL_law_X6_hit : GoodIn wsL_law (wsV RL 127 RX6 yX6_hit wsX6_hit) := goodIn_app (goodIn_of _ (by decide +kernel)) ggL_law_X6_hit
set_option maxRecDepth 20000 in
theorem ggL_law_X5_flying : GoodIn wsL_law wsX5_flying := goodIn_r _ [490, 20, 491, 492, 493, 19, 494, 43, 66, 333, 36, 571, 572, 573, 574, 600, 601, 602, 603, 604, 605, 606, 607, 612, 613, 614, 615, 616] (by decide +kernel) (by decide +kernel)
set_option maxRecDepth 20000 in
theorem gL_law_X5_flying : GoodIn wsL_law (wsV RL 128 RX5 yX5_flying wsX5_flying) := goodIn_app (goodIn_of _ (by decide +kernel)) ggL_law_X5_flying
set_option maxRecDepth 20000 in
theorem ggL_law_X6_flying : GoodIn wsL_law wsX6_flying := goodIn_r _ [498, 137, 242, 126, 88, 241, 575, 576, 577, 578, 579, 580, 581, 582, 583, 584, 585, 586, 587, 588, 589, 590, 591, 592, 593, 594, 595, 596, 597, 598] (by decide +kernel) (by decide +kernel)
set_option maxRecDepth 20000 in
theorem gL_law_X6_flying : GoodIn wsL_law (wsV RL 131 RX6 yX6_flying wsX6_flying) := goodIn_app (goodIn_of _ (by decide +kernel)) ggL_law_X6_flying
set_option maxRecDepth 20000 in
theorem ggL_law_L_points : GoodIn wsL_law wsL_points := goodIn_ca (goodIn_r _ [501, 101, 502, 503, 504, 2, 505, 24, 226, 227, 228, 112, 113, 506, 507, 508, 23, 509, 71, 571, 572, 573, 574, 608, 609, 610, 611] (by decide +kernel) (by decide +kernel)) (goodIn_sub (fun _ h => List.mem_append_left _ (List.mem_append_right _ h)) (by decide +kernel))
set_option maxRecDepth 20000 in
theorem gL_law_L_points : GoodIn wsL_law (va_wsS RL 132 yL_points wsL_points) := goodIn_app (goodIn_of _ (by decide +kernel)) ggL_law_L_points
set_option maxRecDepth 20000 in
theorem ggL_law_X6_points : GoodIn wsL_law wsX6_points := goodIn_r _ [513, 93, 514, 515, 516, 5, 517, 244, 245, 246, 130, 131, 132, 133, 134, 135, 136, 137, 575, 576, 577, 578, 579, 580, 581, 582, 583, 584, 585, 586, 587, 588, 589, 590, 591, 592, 593, 594, 595, 596, 597, 598] (by decide +kernel) (by decide +kernel)
set_option maxRecDepth 20000 in
theorem gL_law_X6_points : GoodIn wsL_law (wsV RL 134 RX6 yX6_points wsX6_points) := goodIn_app (goodIn_of _ (by decide +kernel)) ggL_law_X6_points
set_option maxRecDepth 20000 in
theorem ggL_law_L_fines : GoodIn wsL_law wsL_fines := goodIn_ca (goodIn_r _ [520, 101, 521, 522, 523, 2, 524, 24, 226, 227, 228, 112, 113, 525, 526, 527, 23, 528, 72, 571, 572, 573, 574, 608, 609, 610, 611] (by decide +kernel) (by decide +kernel)) (goodIn_sub (fun _ h => List.mem_append_left _ (List.mem_append_right _ h)) (by decide +kernel))
set_option maxRecDepth 20000 in
theorem gL_law_L_fines : GoodIn wsL_law (va_wsS RL 135 yL_fines wsL_fines) := goodIn_app (goodIn_of _ (by decide +kernel)) ggL_law_L_fines
set_option maxRecDepth 20000 in
theorem ggL_law_X6_fines : GoodIn wsL_law wsX6_fines := goodIn_r _ [532, 94, 514, 515, 516, 5, 517, 244, 245, 246, 130, 131, 132, 133, 134, 135, 136, 137, 575, 576, 577, 578, 579, 580, 581, 582, 583, 584, 585, 586, 587, 588, 589, 590, 591, 592, 593, 594, 595, 596, 597, 598] (by decide +kernel) (by decide +kernel)
set_option maxRecDepth 20000 in
theorem gL_law_X6_fines : GoodIn wsL_law (wsV RL 137 RX6 yX6_fines wsX6_fines) := goodIn_app (goodIn_of _ (by decide +kernel)) ggL_law_X6_fines
set_option maxRecDepth 20000 in
theorem ggL_law_L_difference : GoodIn wsL_law wsL_difference := goodIn_ca (goodIn_r _ [535, 101, 536, 537, 538, 2, 539, 24, 226, 227, 228, 112, 113, 540, 541, 542, 23, 543, 73, 571, 572, 573, 574, 608, 609, 610, 611] (by decide +kernel) (by decide +kernel)) (goodIn_sub (fun _ h => List.mem_append_left _ (List.mem_append_right _ h)) (by decide +kernel))
set_option maxRecDepth 20000 in
theorem gL_law_L_difference : GoodIn wsL_law (va_wsS RL 138 yL_difference wsL_difference) := goodIn_app (goodIn_of _ (by decide +kernel)) ggL_law_L_difference
set_option maxRecDepth 20000 in
theorem ggL_law_X6_difference : GoodIn wsL_law wsX6_difference := goodIn_r _ [547, 95, 514, 515, 516, 5, 517, 244, 245, 246, 130, 131, 132, 133, 134, 135, 136, 137, 575, 576, 577, 578, 579, 580, 581, 582, 583, 584, 585, 586, 587, 588, 589, 590, 591, 592, 593, 594, 595, 596, 597, 598] (by decide +kernel) (by decide +kernel)
set_option maxRecDepth 20000 in
theorem gL_law_X6_difference : GoodIn wsL_law (wsV RL 140 RX6 yX6_difference wsX6_difference) := goodIn_app (goodIn_of _ (by decide +kernel)) ggL_law_X6_difference
set_option maxRecDepth 20000 in
theorem ggL_law_L_place : GoodIn wsL_law wsL_place := goodIn_ca (goodIn_r _ [550, 101, 551, 552, 553, 2, 554, 24, 226, 227, 228, 112, 113, 555, 556, 557, 23, 558, 559, 560, 561, 562, 71, 75, 73, 571, 572, 573, 574, 608, 609, 610, 611] (by decide +kernel) (by decide +kernel)) (goodIn_sub (fun _ h => List.mem_append_left _ (List.mem_append_right _ h)) (by decide +kernel))
set_option maxRecDepth 20000 in
theorem gL_law_L_place : GoodIn wsL_law (va_wsS RL 141 yL_place wsL_place) := goodIn_app (goodIn_of _ (by decide +kernel)) ggL_law_L_place
set_option maxRecDepth 20000 in
theorem ggL_law_X6_place : GoodIn wsL_law wsX6_place := goodIn_r _ [566, 244, 245, 5, 246, 130, 131, 132, 133, 134, 135, 136, 137, 567, 568, 569, 570, 96, 93, 95, 575, 576, 577, 578, 579, 580, 581, 582, 583, 584, 585, 586, 587, 588, 589, 590, 591, 592, 593, 594, 595, 596, 597, 598] (by decide +kernel) (by decide +kernel)
set_option maxRecDepth 20000 in
theorem gL_law_X6_place : GoodIn wsL_law (wsV RL 143 RX6 yX6_place wsX6_place) := goodIn_app (goodIn_of _ (by decide +kernel)) ggL_law_X6_place
end
section
theorem dL_law_0 : decode cL_law 0 = .ok (.new 8, 3) := by decide +kernel
theorem dL_law_3 : decode cL_law 3 = .ok (.dup, 1) := by decide +kernel
theorem dL_law_4 : decode cL_law 4 = .ok (.invokespecial 72, 3) := by decide +kernel
theorem dL_law_7 : decode cL_law 7 = .ok (.astore_n 1, 1) := by decide +kernel
theorem dL_law_8 : decode cL_law 8 = .ok (.new 73, 3) := by decide +kernel
theorem dL_law_11 : decode cL_law 11 = .ok (.dup, 1) := by decide +kernel
theorem dL_law_12 : decode cL_law 12 = .ok (.invokespecial 75, 3) := by decide +kernel
theorem dL_law_15 : decode cL_law 15 = .ok (.astore_n 2, 1) := by decide +kernel
theorem dL_law_16 : decode cL_law 16 = .ok (.iconst 1, 1) := by decide +kernel
theorem dL_law_17 : decode cL_law 17 = .ok (.newarray .long, 2) := by decide +kernel
theorem dL_law_19 : decode cL_law 19 = .ok (.astore_n 3, 1) := by decide +kernel
theorem dL_law_20 : decode cL_law 20 = .ok (.iconst 0, 1) := by decide +kernel
theorem dL_law_21 : decode cL_law 21 = .ok (.istore 4, 2) := by decide +kernel
theorem dL_law_23 : decode cL_law 23 = .ok (.iload 4, 2) := by decide +kernel
theorem dL_law_25 : decode cL_law 25 = .ok (.aload_n 0, 1) := by decide +kernel
theorem dL_law_26 : decode cL_law 26 = .ok (.arraylength, 1) := by decide +kernel
theorem dL_law_27 : decode cL_law 27 = .ok (.iconst 3, 1) := by decide +kernel
theorem dL_law_28 : decode cL_law 28 = .ok (.isub, 1) := by decide +kernel
theorem dL_law_29 : decode cL_law 29 = .ok (.if_icmp .gt 1144, 3) := by decide +kernel
theorem dL_law_32 : decode cL_law 32 = .ok (.aload_n 0, 1) := by decide +kernel
theorem dL_law_33 : decode cL_law 33 = .ok (.iload 4, 2) := by decide +kernel
theorem dL_law_35 : decode cL_law 35 = .ok (.iaload, 1) := by decide +kernel
theorem dL_law_36 : decode cL_law 36 = .ok (.bipush 31, 2) := by decide +kernel
theorem dL_law_38 : decode cL_law 38 = .ok (.iand, 1) := by decide +kernel
theorem dL_law_39 : decode cL_law 39 = .ok (.tableswitch 1128 0 18 #[89, 152, 227, 283, 351, 399, 467, 535, 591, 659, 722, 766, 779, 835, 891, 904, 960, 1016, 1072], 89) := by decide +kernel
theorem dL_law_128 : decode cL_law 128 = .ok (.aload_n 1, 1) := by decide +kernel
theorem dL_law_129 : decode cL_law 129 = .ok (.aload_n 0, 1) := by decide +kernel
theorem dL_law_130 : decode cL_law 130 = .ok (.iload 4, 2) := by decide +kernel
theorem dL_law_132 : decode cL_law 132 = .ok (.iconst 1, 1) := by decide +kernel
theorem dL_law_133 : decode cL_law 133 = .ok (.iadd, 1) := by decide +kernel
theorem dL_law_134 : decode cL_law 134 = .ok (.iaload, 1) := by decide +kernel
theorem dL_law_135 : decode cL_law 135 = .ok (.aload_n 3, 1) := by decide +kernel
theorem dL_law_136 : decode cL_law 136 = .ok (.invokestatic 76, 3) := by decide +kernel
theorem dL_law_139 : decode cL_law 139 = .ok (.istore 5, 2) := by decide +kernel
theorem dL_law_141 : decode cL_law 141 = .ok (.aload_n 2, 1) := by decide +kernel
theorem dL_law_142 : decode cL_law 142 = .ok (.aload_n 0, 1) := by decide +kernel
theorem dL_law_143 : decode cL_law 143 = .ok (.iload 4, 2) := by decide +kernel
theorem dL_law_145 : decode cL_law 145 = .ok (.iconst 1, 1) := by decide +kernel
theorem dL_law_146 : decode cL_law 146 = .ok (.iadd, 1) := by decide +kernel
theorem dL_law_147 : decode cL_law 147 = .ok (.iaload, 1) := by decide +kernel
theorem dL_law_148 : decode cL_law 148 = .ok (.invokevirtual 81, 3) := by decide +kernel
theorem dL_law_151 : decode cL_law 151 = .ok (.istore 6, 2) := by decide +kernel
theorem dL_law_153 : decode cL_law 153 = .ok (.aload_n 2, 1) := by decide +kernel
theorem dL_law_154 : decode cL_law 154 = .ok (.invokevirtual 82, 3) := by decide +kernel
theorem dL_law_157 : decode cL_law 157 = .ok (.iload 5, 2) := by decide +kernel
theorem dL_law_159 : decode cL_law 159 = .ok (.if_icmp .eq 5, 3) := by decide +kernel
theorem dL_law_162 : decode cL_law 162 = .ok (.iconst 0, 1) := by decide +kernel
theorem dL_law_163 : decode cL_law 163 = .ok (.ireturn, 1) := by decide +kernel
theorem dL_law_164 : decode cL_law 164 = .ok (.iload 5, 2) := by decide +kernel
theorem dL_law_166 : decode cL_law 166 = .ok (.ifCond .ne 22, 3) := by decide +kernel
theorem dL_law_169 : decode cL_law 169 = .ok (.aload_n 3, 1) := by decide +kernel
theorem dL_law_170 : decode cL_law 170 = .ok (.iconst 0, 1) := by decide +kernel
theorem dL_law_171 : decode cL_law 171 = .ok (.laload, 1) := by decide +kernel
theorem dL_law_172 : decode cL_law 172 = .ok (.iload 6, 2) := by decide +kernel
theorem dL_law_174 : decode cL_law 174 = .ok (.ifCond .eq 7, 3) := by decide +kernel
theorem dL_law_177 : decode cL_law 177 = .ok (.lconst 1, 1) := by decide +kernel
theorem dL_law_178 : decode cL_law 178 = .ok (.goto 4, 3) := by decide +kernel
theorem dL_law_181 : decode cL_law 181 = .ok (.lconst 0, 1) := by decide +kernel
theorem dL_law_182 : decode cL_law 182 = .ok (.lcmp, 1) := by decide +kernel
theorem dL_law_183 : decode cL_law 183 = .ok (.ifCond .eq 5, 3) := by decide +kernel
theorem dL_law_186 : decode cL_law 186 = .ok (.iconst 0, 1) := by decide +kernel
theorem dL_law_187 : decode cL_law 187 = .ok (.ireturn, 1) := by decide +kernel
theorem dL_law_188 : decode cL_law 188 = .ok (.goto 979, 3) := by decide +kernel
theorem dL_law_191 : decode cL_law 191 = .ok (.aload_n 1, 1) := by decide +kernel
theorem dL_law_192 : decode cL_law 192 = .ok (.aload_n 0, 1) := by decide +kernel
theorem dL_law_193 : decode cL_law 193 = .ok (.iload 4, 2) := by decide +kernel
theorem dL_law_195 : decode cL_law 195 = .ok (.iconst 1, 1) := by decide +kernel
theorem dL_law_196 : decode cL_law 196 = .ok (.iadd, 1) := by decide +kernel
theorem dL_law_197 : decode cL_law 197 = .ok (.iaload, 1) := by decide +kernel
theorem dL_law_198 : decode cL_law 198 = .ok (.aload_n 0, 1) := by decide +kernel
theorem dL_law_199 : decode cL_law 199 = .ok (.iload 4, 2) := by decide +kernel
theorem dL_law_201 : decode cL_law 201 = .ok (.iconst 2, 1) := by decide +kernel
theorem dL_law_202 : decode cL_law 202 = .ok (.iadd, 1) := by decide +kernel
theorem dL_law_203 : decode cL_law 203 = .ok (.iaload, 1) := by decide +kernel
theorem dL_law_204 : decode cL_law 204 = .ok (.aload_n 3, 1) := by decide +kernel
theorem dL_law_205 : decode cL_law 205 = .ok (.invokestatic 85, 3) := by decide +kernel
theorem dL_law_208 : decode cL_law 208 = .ok (.istore 5, 2) := by decide +kernel
theorem dL_law_210 : decode cL_law 210 = .ok (.aload_n 2, 1) := by decide +kernel
theorem dL_law_211 : decode cL_law 211 = .ok (.aload_n 0, 1) := by decide +kernel
theorem dL_law_212 : decode cL_law 212 = .ok (.iload 4, 2) := by decide +kernel
theorem dL_law_214 : decode cL_law 214 = .ok (.iconst 1, 1) := by decide +kernel
theorem dL_law_215 : decode cL_law 215 = .ok (.iadd, 1) := by decide +kernel
theorem dL_law_216 : decode cL_law 216 = .ok (.iaload, 1) := by decide +kernel
theorem dL_law_217 : decode cL_law 217 = .ok (.aload_n 0, 1) := by decide +kernel
theorem dL_law_218 : decode cL_law 218 = .ok (.iload 4, 2) := by decide +kernel
theorem dL_law_220 : decode cL_law 220 = .ok (.iconst 2, 1) := by decide +kernel
theorem dL_law_221 : decode cL_law 221 = .ok (.iadd, 1) := by decide +kernel
theorem dL_law_222 : decode cL_law 222 = .ok (.iaload, 1) := by decide +kernel
theorem dL_law_223 : decode cL_law 223 = .ok (.invokevirtual 88, 3) := by decide +kernel
theorem dL_law_226 : decode cL_law 226 = .ok (.istore 6, 2) := by decide +kernel
theorem dL_law_228 : decode cL_law 228 = .ok (.aload_n 2, 1) := by decide +kernel
theorem dL_law_229 : decode cL_law 229 = .ok (.invokevirtual 82, 3) := by decide +kernel
theorem dL_law_232 : decode cL_law 232 = .ok (.iload 5, 2) := by decide +kernel
theorem dL_law_234 : decode cL_law 234 = .ok (.if_icmp .eq 5, 3) := by decide +kernel
theorem dL_law_237 : decode cL_law 237 = .ok (.iconst 0, 1) := by decide +kernel
theorem dL_law_238 : decode cL_law 238 = .ok (.ireturn, 1) := by decide +kernel
theorem dL_law_239 : decode cL_law 239 = .ok (.iload 5, 2) := by decide +kernel
theorem dL_law_241 : decode cL_law 241 = .ok (.ifCond .ne 22, 3) := by decide +kernel
theorem dL_law_244 : decode cL_law 244 = .ok (.aload_n 3, 1) := by decide +kernel
theorem dL_law_245 : decode cL_law 245 = .ok (.iconst 0, 1) := by decide +kernel
theorem dL_law_246 : decode cL_law 246 = .ok (.laload, 1) := by decide +kernel
theorem dL_law_247 : decode cL_law 247 = .ok (.iload 6, 2) := by decide +kernel
theorem dL_law_249 : decode cL_law 249 = .ok (.ifCond .eq 7, 3) := by decide +kernel
theorem dL_law_252 : decode cL_law 252 = .ok (.lconst 1, 1) := by decide +kernel
theorem dL_law_253 : decode cL_law 253 = .ok (.goto 4, 3) := by decide +kernel
theorem dL_law_256 : decode cL_law 256 = .ok (.lconst 0, 1) := by decide +kernel
theorem dL_law_257 : decode cL_law 257 = .ok (.lcmp, 1) := by decide +kernel
theorem dL_law_258 : decode cL_law 258 = .ok (.ifCond .eq 5, 3) := by decide +kernel
theorem dL_law_261 : decode cL_law 261 = .ok (.iconst 0, 1) := by decide +kernel
theorem dL_law_262 : decode cL_law 262 = .ok (.ireturn, 1) := by decide +kernel
theorem dL_law_263 : decode cL_law 263 = .ok (.goto 904, 3) := by decide +kernel
theorem dL_law_266 : decode cL_law 266 = .ok (.aload_n 1, 1) := by decide +kernel
theorem dL_law_267 : decode cL_law 267 = .ok (.aload_n 0, 1) := by decide +kernel
theorem dL_law_268 : decode cL_law 268 = .ok (.iload 4, 2) := by decide +kernel
theorem dL_law_270 : decode cL_law 270 = .ok (.iconst 1, 1) := by decide +kernel
theorem dL_law_271 : decode cL_law 271 = .ok (.iadd, 1) := by decide +kernel
theorem dL_law_272 : decode cL_law 272 = .ok (.iaload, 1) := by decide +kernel
theorem dL_law_273 : decode cL_law 273 = .ok (.aload_n 3, 1) := by decide +kernel
theorem dL_law_274 : decode cL_law 274 = .ok (.invokestatic 89, 3) := by decide +kernel
theorem dL_law_277 : decode cL_law 277 = .ok (.istore 5, 2) := by decide +kernel
theorem dL_law_279 : decode cL_law 279 = .ok (.aload_n 2, 1) := by decide +kernel
theorem dL_law_280 : decode cL_law 280 = .ok (.aload_n 0, 1) := by decide +kernel
theorem dL_law_281 : decode cL_law 281 = .ok (.iload 4, 2) := by decide +kernel
theorem dL_law_283 : decode cL_law 283 = .ok (.iconst 1, 1) := by decide +kernel
theorem dL_law_284 : decode cL_law 284 = .ok (.iadd, 1) := by decide +kernel
theorem dL_law_285 : decode cL_law 285 = .ok (.iaload, 1) := by decide +kernel
theorem dL_law_286 : decode cL_law 286 = .ok (.invokevirtual 91, 3) := by decide +kernel
theorem dL_law_289 : decode cL_law 289 = .ok (.istore 6, 2) := by decide +kernel
theorem dL_law_291 : decode cL_law 291 = .ok (.aload_n 2, 1) := by decide +kernel
theorem dL_law_292 : decode cL_law 292 = .ok (.invokevirtual 82, 3) := by decide +kernel
theorem dL_law_295 : decode cL_law 295 = .ok (.iload 5, 2) := by decide +kernel
theorem dL_law_297 : decode cL_law 297 = .ok (.if_icmp .eq 5, 3) := by decide +kernel
theorem dL_law_300 : decode cL_law 300 = .ok (.iconst 0, 1) := by decide +kernel
theorem dL_law_301 : decode cL_law 301 = .ok (.ireturn, 1) := by decide +kernel
theorem dL_law_302 : decode cL_law 302 = .ok (.iload 5, 2) := by decide +kernel
theorem dL_law_304 : decode cL_law 304 = .ok (.ifCond .ne 15, 3) := by decide +kernel
theorem dL_law_307 : decode cL_law 307 = .ok (.aload_n 3, 1) := by decide +kernel
theorem dL_law_308 : decode cL_law 308 = .ok (.iconst 0, 1) := by decide +kernel
theorem dL_law_309 : decode cL_law 309 = .ok (.laload, 1) := by decide +kernel
theorem dL_law_310 : decode cL_law 310 = .ok (.iload 6, 2) := by decide +kernel
theorem dL_law_312 : decode cL_law 312 = .ok (.i2l, 1) := by decide +kernel
theorem dL_law_313 : decode cL_law 313 = .ok (.lcmp, 1) := by decide +kernel
theorem dL_law_314 : decode cL_law 314 = .ok (.ifCond .eq 5, 3) := by decide +kernel
theorem dL_law_317 : decode cL_law 317 = .ok (.iconst 0, 1) := by decide +kernel
theorem dL_law_318 : decode cL_law 318 = .ok (.ireturn, 1) := by decide +kernel
theorem dL_law_319 : decode cL_law 319 = .ok (.goto 848, 3) := by decide +kernel
theorem dL_law_322 : decode cL_law 322 = .ok (.aload_n 1, 1) := by decide +kernel
theorem dL_law_323 : decode cL_law 323 = .ok (.aload_n 0, 1) := by decide +kernel
theorem dL_law_324 : decode cL_law 324 = .ok (.iload 4, 2) := by decide +kernel
theorem dL_law_326 : decode cL_law 326 = .ok (.iconst 1, 1) := by decide +kernel
theorem dL_law_327 : decode cL_law 327 = .ok (.iadd, 1) := by decide +kernel
theorem dL_law_328 : decode cL_law 328 = .ok (.iaload, 1) := by decide +kernel
theorem dL_law_329 : decode cL_law 329 = .ok (.aload_n 0, 1) := by decide +kernel
theorem dL_law_330 : decode cL_law 330 = .ok (.iload 4, 2) := by decide +kernel
theorem dL_law_332 : decode cL_law 332 = .ok (.iconst 2, 1) := by decide +kernel
theorem dL_law_333 : decode cL_law 333 = .ok (.iadd, 1) := by decide +kernel
theorem dL_law_334 : decode cL_law 334 = .ok (.iaload, 1) := by decide +kernel
theorem dL_law_335 : decode cL_law 335 = .ok (.aload_n 3, 1) := by decide +kernel
theorem dL_law_336 : decode cL_law 336 = .ok (.invokestatic 92, 3) := by decide +kernel
theorem dL_law_339 : decode cL_law 339 = .ok (.istore 5, 2) := by decide +kernel
theorem dL_law_341 : decode cL_law 341 = .ok (.aload_n 2, 1) := by decide +kernel
theorem dL_law_342 : decode cL_law 342 = .ok (.aload_n 0, 1) := by decide +kernel
theorem dL_law_343 : decode cL_law 343 = .ok (.iload 4, 2) := by decide +kernel
theorem dL_law_345 : decode cL_law 345 = .ok (.iconst 1, 1) := by decide +kernel
theorem dL_law_346 : decode cL_law 346 = .ok (.iadd, 1) := by decide +kernel
theorem dL_law_347 : decode cL_law 347 = .ok (.iaload, 1) := by decide +kernel
theorem dL_law_348 : decode cL_law 348 = .ok (.aload_n 0, 1) := by decide +kernel
theorem dL_law_349 : decode cL_law 349 = .ok (.iload 4, 2) := by decide +kernel
theorem dL_law_351 : decode cL_law 351 = .ok (.iconst 2, 1) := by decide +kernel
theorem dL_law_352 : decode cL_law 352 = .ok (.iadd, 1) := by decide +kernel
theorem dL_law_353 : decode cL_law 353 = .ok (.iaload, 1) := by decide +kernel
theorem dL_law_354 : decode cL_law 354 = .ok (.invokevirtual 94, 3) := by decide +kernel
theorem dL_law_357 : decode cL_law 357 = .ok (.istore 6, 2) := by decide +kernel
theorem dL_law_359 : decode cL_law 359 = .ok (.aload_n 2, 1) := by decide +kernel
theorem dL_law_360 : decode cL_law 360 = .ok (.invokevirtual 82, 3) := by decide +kernel
theorem dL_law_363 : decode cL_law 363 = .ok (.iload 5, 2) := by decide +kernel
theorem dL_law_365 : decode cL_law 365 = .ok (.if_icmp .eq 5, 3) := by decide +kernel
theorem dL_law_368 : decode cL_law 368 = .ok (.iconst 0, 1) := by decide +kernel
theorem dL_law_369 : decode cL_law 369 = .ok (.ireturn, 1) := by decide +kernel
theorem dL_law_370 : decode cL_law 370 = .ok (.iload 5, 2) := by decide +kernel
theorem dL_law_372 : decode cL_law 372 = .ok (.ifCond .ne 15, 3) := by decide +kernel
theorem dL_law_375 : decode cL_law 375 = .ok (.aload_n 3, 1) := by decide +kernel
theorem dL_law_376 : decode cL_law 376 = .ok (.iconst 0, 1) := by decide +kernel
theorem dL_law_377 : decode cL_law 377 = .ok (.laload, 1) := by decide +kernel
theorem dL_law_378 : decode cL_law 378 = .ok (.iload 6, 2) := by decide +kernel
theorem dL_law_380 : decode cL_law 380 = .ok (.i2l, 1) := by decide +kernel
theorem dL_law_381 : decode cL_law 381 = .ok (.lcmp, 1) := by decide +kernel
theorem dL_law_382 : decode cL_law 382 = .ok (.ifCond .eq 5, 3) := by decide +kernel
theorem dL_law_385 : decode cL_law 385 = .ok (.iconst 0, 1) := by decide +kernel
theorem dL_law_386 : decode cL_law 386 = .ok (.ireturn, 1) := by decide +kernel
theorem dL_law_387 : decode cL_law 387 = .ok (.goto 780, 3) := by decide +kernel
theorem dL_law_390 : decode cL_law 390 = .ok (.aload_n 1, 1) := by decide +kernel
theorem dL_law_391 : decode cL_law 391 = .ok (.aload_n 0, 1) := by decide +kernel
theorem dL_law_392 : decode cL_law 392 = .ok (.iload 4, 2) := by decide +kernel
theorem dL_law_394 : decode cL_law 394 = .ok (.iconst 1, 1) := by decide +kernel
theorem dL_law_395 : decode cL_law 395 = .ok (.iadd, 1) := by decide +kernel
theorem dL_law_396 : decode cL_law 396 = .ok (.iaload, 1) := by decide +kernel
theorem dL_law_397 : decode cL_law 397 = .ok (.aload_n 0, 1) := by decide +kernel
theorem dL_law_398 : decode cL_law 398 = .ok (.iload 4, 2) := by decide +kernel
theorem dL_law_400 : decode cL_law 400 = .ok (.iconst 2, 1) := by decide +kernel
theorem dL_law_401 : decode cL_law 401 = .ok (.iadd, 1) := by decide +kernel
theorem dL_law_402 : decode cL_law 402 = .ok (.iaload, 1) := by decide +kernel
theorem dL_law_403 : decode cL_law 403 = .ok (.invokestatic 95, 3) := by decide +kernel
theorem dL_law_406 : decode cL_law 406 = .ok (.istore 5, 2) := by decide +kernel
theorem dL_law_408 : decode cL_law 408 = .ok (.aload_n 2, 1) := by decide +kernel
theorem dL_law_409 : decode cL_law 409 = .ok (.aload_n 0, 1) := by decide +kernel
theorem dL_law_410 : decode cL_law 410 = .ok (.iload 4, 2) := by decide +kernel
theorem dL_law_412 : decode cL_law 412 = .ok (.iconst 1, 1) := by decide +kernel
theorem dL_law_413 : decode cL_law 413 = .ok (.iadd, 1) := by decide +kernel
theorem dL_law_414 : decode cL_law 414 = .ok (.iaload, 1) := by decide +kernel
theorem dL_law_415 : decode cL_law 415 = .ok (.aload_n 0, 1) := by decide +kernel
theorem dL_law_416 : decode cL_law 416 = .ok (.iload 4, 2) := by decide +kernel
theorem dL_law_418 : decode cL_law 418 = .ok (.iconst 2, 1) := by decide +kernel
theorem dL_law_419 : decode cL_law 419 = .ok (.iadd, 1) := by decide +kernel
theorem dL_law_420 : decode cL_law 420 = .ok (.iaload, 1) := by decide +kernel
theorem dL_law_421 : decode cL_law 421 = .ok (.invokevirtual 98, 3) := by decide +kernel
theorem dL_law_424 : decode cL_law 424 = .ok (.aload_n 2, 1) := by decide +kernel
theorem dL_law_425 : decode cL_law 425 = .ok (.invokevirtual 82, 3) := by decide +kernel
theorem dL_law_428 : decode cL_law 428 = .ok (.iload 5, 2) := by decide +kernel
theorem dL_law_430 : decode cL_law 430 = .ok (.if_icmp .eq 5, 3) := by decide +kernel
theorem dL_law_433 : decode cL_law 433 = .ok (.iconst 0, 1) := by decide +kernel
theorem dL_law_434 : decode cL_law 434 = .ok (.ireturn, 1) := by decide +kernel
theorem dL_law_435 : decode cL_law 435 = .ok (.goto 732, 3) := by decide +kernel
theorem dL_law_438 : decode cL_law 438 = .ok (.aload_n 1, 1) := by decide +kernel
theorem dL_law_439 : decode cL_law 439 = .ok (.aload_n 0, 1) := by decide +kernel
theorem dL_law_440 : decode cL_law 440 = .ok (.iload 4, 2) := by decide +kernel
theorem dL_law_442 : decode cL_law 442 = .ok (.iconst 1, 1) := by decide +kernel
theorem dL_law_443 : decode cL_law 443 = .ok (.iadd, 1) := by decide +kernel
theorem dL_law_444 : decode cL_law 444 = .ok (.iaload, 1) := by decide +kernel
theorem dL_law_445 : decode cL_law 445 = .ok (.aload_n 0, 1) := by decide +kernel
theorem dL_law_446 : decode cL_law 446 = .ok (.iload 4, 2) := by decide +kernel
theorem dL_law_448 : decode cL_law 448 = .ok (.iconst 2, 1) := by decide +kernel
theorem dL_law_449 : decode cL_law 449 = .ok (.iadd, 1) := by decide +kernel
theorem dL_law_450 : decode cL_law 450 = .ok (.iaload, 1) := by decide +kernel
theorem dL_law_451 : decode cL_law 451 = .ok (.aload_n 3, 1) := by decide +kernel
theorem dL_law_452 : decode cL_law 452 = .ok (.invokestatic 99, 3) := by decide +kernel
theorem dL_law_455 : decode cL_law 455 = .ok (.istore 5, 2) := by decide +kernel
theorem dL_law_457 : decode cL_law 457 = .ok (.aload_n 2, 1) := by decide +kernel
theorem dL_law_458 : decode cL_law 458 = .ok (.aload_n 0, 1) := by decide +kernel
theorem dL_law_459 : decode cL_law 459 = .ok (.iload 4, 2) := by decide +kernel
theorem dL_law_461 : decode cL_law 461 = .ok (.iconst 1, 1) := by decide +kernel
theorem dL_law_462 : decode cL_law 462 = .ok (.iadd, 1) := by decide +kernel
theorem dL_law_463 : decode cL_law 463 = .ok (.iaload, 1) := by decide +kernel
theorem dL_law_464 : decode cL_law 464 = .ok (.aload_n 0, 1) := by decide +kernel
theorem dL_law_465 : decode cL_law 465 = .ok (.iload 4, 2) := by decide +kernel
theorem dL_law_467 : decode cL_law 467 = .ok (.iconst 2, 1) := by decide +kernel
theorem dL_law_468 : decode cL_law 468 = .ok (.iadd, 1) := by decide +kernel
theorem dL_law_469 : decode cL_law 469 = .ok (.iaload, 1) := by decide +kernel
theorem dL_law_470 : decode cL_law 470 = .ok (.invokevirtual 101, 3) := by decide +kernel
theorem dL_law_473 : decode cL_law 473 = .ok (.istore 6, 2) := by decide +kernel
theorem dL_law_475 : decode cL_law 475 = .ok (.aload_n 2, 1) := by decide +kernel
theorem dL_law_476 : decode cL_law 476 = .ok (.invokevirtual 82, 3) := by decide +kernel
theorem dL_law_479 : decode cL_law 479 = .ok (.iload 5, 2) := by decide +kernel
theorem dL_law_481 : decode cL_law 481 = .ok (.if_icmp .eq 5, 3) := by decide +kernel
theorem dL_law_484 : decode cL_law 484 = .ok (.iconst 0, 1) := by decide +kernel
theorem dL_law_485 : decode cL_law 485 = .ok (.ireturn, 1) := by decide +kernel
theorem dL_law_486 : decode cL_law 486 = .ok (.iload 5, 2) := by decide +kernel
theorem dL_law_488 : decode cL_law 488 = .ok (.ifCond .ne 15, 3) := by decide +kernel
theorem dL_law_491 : decode cL_law 491 = .ok (.aload_n 3, 1) := by decide +kernel
theorem dL_law_492 : decode cL_law 492 = .ok (.iconst 0, 1) := by decide +kernel
theorem dL_law_493 : decode cL_law 493 = .ok (.laload, 1) := by decide +kernel
theorem dL_law_494 : decode cL_law 494 = .ok (.iload 6, 2) := by decide +kernel
theorem dL_law_496 : decode cL_law 496 = .ok (.i2l, 1) := by decide +kernel
theorem dL_law_497 : decode cL_law 497 = .ok (.lcmp, 1) := by decide +kernel
theorem dL_law_498 : decode cL_law 498 = .ok (.ifCond .eq 5, 3) := by decide +kernel
theorem dL_law_501 : decode cL_law 501 = .ok (.iconst 0, 1) := by decide +kernel
theorem dL_law_502 : decode cL_law 502 = .ok (.ireturn, 1) := by decide +kernel
theorem dL_law_503 : decode cL_law 503 = .ok (.goto 664, 3) := by decide +kernel
theorem dL_law_506 : decode cL_law 506 = .ok (.aload_n 1, 1) := by decide +kernel
theorem dL_law_507 : decode cL_law 507 = .ok (.aload_n 0, 1) := by decide +kernel
theorem dL_law_508 : decode cL_law 508 = .ok (.iload 4, 2) := by decide +kernel
theorem dL_law_510 : decode cL_law 510 = .ok (.iconst 1, 1) := by decide +kernel
theorem dL_law_511 : decode cL_law 511 = .ok (.iadd, 1) := by decide +kernel
theorem dL_law_512 : decode cL_law 512 = .ok (.iaload, 1) := by decide +kernel
theorem dL_law_513 : decode cL_law 513 = .ok (.aload_n 0, 1) := by decide +kernel
theorem dL_law_514 : decode cL_law 514 = .ok (.iload 4, 2) := by decide +kernel
theorem dL_law_516 : decode cL_law 516 = .ok (.iconst 2, 1) := by decide +kernel
theorem dL_law_517 : decode cL_law 517 = .ok (.iadd, 1) := by decide +kernel
theorem dL_law_518 : decode cL_law 518 = .ok (.iaload, 1) := by decide +kernel
theorem dL_law_519 : decode cL_law 519 = .ok (.aload_n 3, 1) := by decide +kernel
theorem dL_law_520 : decode cL_law 520 = .ok (.invokestatic 102, 3) := by decide +kernel
theorem dL_law_523 : decode cL_law 523 = .ok (.istore 5, 2) := by decide +kernel
theorem dL_law_525 : decode cL_law 525 = .ok (.aload_n 2, 1) := by decide +kernel
theorem dL_law_526 : decode cL_law 526 = .ok (.aload_n 0, 1) := by decide +kernel
theorem dL_law_527 : decode cL_law 527 = .ok (.iload 4, 2) := by decide +kernel
theorem dL_law_529 : decode cL_law 529 = .ok (.iconst 1, 1) := by decide +kernel
theorem dL_law_530 : decode cL_law 530 = .ok (.iadd, 1) := by decide +kernel
theorem dL_law_531 : decode cL_law 531 = .ok (.iaload, 1) := by decide +kernel
theorem dL_law_532 : decode cL_law 532 = .ok (.aload_n 0, 1) := by decide +kernel
theorem dL_law_533 : decode cL_law 533 = .ok (.iload 4, 2) := by decide +kernel
theorem dL_law_535 : decode cL_law 535 = .ok (.iconst 2, 1) := by decide +kernel
theorem dL_law_536 : decode cL_law 536 = .ok (.iadd, 1) := by decide +kernel
theorem dL_law_537 : decode cL_law 537 = .ok (.iaload, 1) := by decide +kernel
theorem dL_law_538 : decode cL_law 538 = .ok (.invokevirtual 104, 3) := by decide +kernel
theorem dL_law_541 : decode cL_law 541 = .ok (.istore 6, 2) := by decide +kernel
theorem dL_law_543 : decode cL_law 543 = .ok (.aload_n 2, 1) := by decide +kernel
theorem dL_law_544 : decode cL_law 544 = .ok (.invokevirtual 82, 3) := by decide +kernel
theorem dL_law_547 : decode cL_law 547 = .ok (.iload 5, 2) := by decide +kernel
theorem dL_law_549 : decode cL_law 549 = .ok (.if_icmp .eq 5, 3) := by decide +kernel
theorem dL_law_552 : decode cL_law 552 = .ok (.iconst 0, 1) := by decide +kernel
theorem dL_law_553 : decode cL_law 553 = .ok (.ireturn, 1) := by decide +kernel
theorem dL_law_554 : decode cL_law 554 = .ok (.iload 5, 2) := by decide +kernel
theorem dL_law_556 : decode cL_law 556 = .ok (.ifCond .ne 15, 3) := by decide +kernel
theorem dL_law_559 : decode cL_law 559 = .ok (.aload_n 3, 1) := by decide +kernel
theorem dL_law_560 : decode cL_law 560 = .ok (.iconst 0, 1) := by decide +kernel
theorem dL_law_561 : decode cL_law 561 = .ok (.laload, 1) := by decide +kernel
theorem dL_law_562 : decode cL_law 562 = .ok (.iload 6, 2) := by decide +kernel
theorem dL_law_564 : decode cL_law 564 = .ok (.i2l, 1) := by decide +kernel
theorem dL_law_565 : decode cL_law 565 = .ok (.lcmp, 1) := by decide +kernel
theorem dL_law_566 : decode cL_law 566 = .ok (.ifCond .eq 5, 3) := by decide +kernel
theorem dL_law_569 : decode cL_law 569 = .ok (.iconst 0, 1) := by decide +kernel
theorem dL_law_570 : decode cL_law 570 = .ok (.ireturn, 1) := by decide +kernel
theorem dL_law_571 : decode cL_law 571 = .ok (.goto 596, 3) := by decide +kernel
theorem dL_law_574 : decode cL_law 574 = .ok (.aload_n 1, 1) := by decide +kernel
theorem dL_law_575 : decode cL_law 575 = .ok (.aload_n 0, 1) := by decide +kernel
theorem dL_law_576 : decode cL_law 576 = .ok (.iload 4, 2) := by decide +kernel
theorem dL_law_578 : decode cL_law 578 = .ok (.iconst 1, 1) := by decide +kernel
theorem dL_law_579 : decode cL_law 579 = .ok (.iadd, 1) := by decide +kernel
theorem dL_law_580 : decode cL_law 580 = .ok (.iaload, 1) := by decide +kernel
theorem dL_law_581 : decode cL_law 581 = .ok (.aload_n 3, 1) := by decide +kernel
theorem dL_law_582 : decode cL_law 582 = .ok (.invokestatic 105, 3) := by decide +kernel
theorem dL_law_585 : decode cL_law 585 = .ok (.istore 5, 2) := by decide +kernel
theorem dL_law_587 : decode cL_law 587 = .ok (.aload_n 2, 1) := by decide +kernel
theorem dL_law_588 : decode cL_law 588 = .ok (.aload_n 0, 1) := by decide +kernel
theorem dL_law_589 : decode cL_law 589 = .ok (.iload 4, 2) := by decide +kernel
theorem dL_law_591 : decode cL_law 591 = .ok (.iconst 1, 1) := by decide +kernel
theorem dL_law_592 : decode cL_law 592 = .ok (.iadd, 1) := by decide +kernel
theorem dL_law_593 : decode cL_law 593 = .ok (.iaload, 1) := by decide +kernel
theorem dL_law_594 : decode cL_law 594 = .ok (.invokevirtual 107, 3) := by decide +kernel
theorem dL_law_597 : decode cL_law 597 = .ok (.istore 6, 2) := by decide +kernel
theorem dL_law_599 : decode cL_law 599 = .ok (.aload_n 2, 1) := by decide +kernel
theorem dL_law_600 : decode cL_law 600 = .ok (.invokevirtual 82, 3) := by decide +kernel
theorem dL_law_603 : decode cL_law 603 = .ok (.iload 5, 2) := by decide +kernel
theorem dL_law_605 : decode cL_law 605 = .ok (.if_icmp .eq 5, 3) := by decide +kernel
theorem dL_law_608 : decode cL_law 608 = .ok (.iconst 0, 1) := by decide +kernel
theorem dL_law_609 : decode cL_law 609 = .ok (.ireturn, 1) := by decide +kernel
theorem dL_law_610 : decode cL_law 610 = .ok (.iload 5, 2) := by decide +kernel
theorem dL_law_612 : decode cL_law 612 = .ok (.ifCond .ne 15, 3) := by decide +kernel
theorem dL_law_615 : decode cL_law 615 = .ok (.aload_n 3, 1) := by decide +kernel
theorem dL_law_616 : decode cL_law 616 = .ok (.iconst 0, 1) := by decide +kernel
theorem dL_law_617 : decode cL_law 617 = .ok (.laload, 1) := by decide +kernel
theorem dL_law_618 : decode cL_law 618 = .ok (.iload 6, 2) := by decide +kernel
theorem dL_law_620 : decode cL_law 620 = .ok (.i2l, 1) := by decide +kernel
theorem dL_law_621 : decode cL_law 621 = .ok (.lcmp, 1) := by decide +kernel
theorem dL_law_622 : decode cL_law 622 = .ok (.ifCond .eq 5, 3) := by decide +kernel
theorem dL_law_625 : decode cL_law 625 = .ok (.iconst 0, 1) := by decide +kernel
theorem dL_law_626 : decode cL_law 626 = .ok (.ireturn, 1) := by decide +kernel
theorem dL_law_627 : decode cL_law 627 = .ok (.goto 540, 3) := by decide +kernel
theorem dL_law_630 : decode cL_law 630 = .ok (.aload_n 1, 1) := by decide +kernel
theorem dL_law_631 : decode cL_law 631 = .ok (.aload_n 0, 1) := by decide +kernel
theorem dL_law_632 : decode cL_law 632 = .ok (.iload 4, 2) := by decide +kernel
theorem dL_law_634 : decode cL_law 634 = .ok (.iconst 1, 1) := by decide +kernel
theorem dL_law_635 : decode cL_law 635 = .ok (.iadd, 1) := by decide +kernel
theorem dL_law_636 : decode cL_law 636 = .ok (.iaload, 1) := by decide +kernel
theorem dL_law_637 : decode cL_law 637 = .ok (.aload_n 0, 1) := by decide +kernel
theorem dL_law_638 : decode cL_law 638 = .ok (.iload 4, 2) := by decide +kernel
theorem dL_law_640 : decode cL_law 640 = .ok (.iconst 2, 1) := by decide +kernel
theorem dL_law_641 : decode cL_law 641 = .ok (.iadd, 1) := by decide +kernel
theorem dL_law_642 : decode cL_law 642 = .ok (.iaload, 1) := by decide +kernel
theorem dL_law_643 : decode cL_law 643 = .ok (.aload_n 3, 1) := by decide +kernel
theorem dL_law_644 : decode cL_law 644 = .ok (.invokestatic 108, 3) := by decide +kernel
theorem dL_law_647 : decode cL_law 647 = .ok (.istore 5, 2) := by decide +kernel
theorem dL_law_649 : decode cL_law 649 = .ok (.aload_n 2, 1) := by decide +kernel
theorem dL_law_650 : decode cL_law 650 = .ok (.aload_n 0, 1) := by decide +kernel
theorem dL_law_651 : decode cL_law 651 = .ok (.iload 4, 2) := by decide +kernel
theorem dL_law_653 : decode cL_law 653 = .ok (.iconst 1, 1) := by decide +kernel
theorem dL_law_654 : decode cL_law 654 = .ok (.iadd, 1) := by decide +kernel
theorem dL_law_655 : decode cL_law 655 = .ok (.iaload, 1) := by decide +kernel
theorem dL_law_656 : decode cL_law 656 = .ok (.aload_n 0, 1) := by decide +kernel
theorem dL_law_657 : decode cL_law 657 = .ok (.iload 4, 2) := by decide +kernel
theorem dL_law_659 : decode cL_law 659 = .ok (.iconst 2, 1) := by decide +kernel
theorem dL_law_660 : decode cL_law 660 = .ok (.iadd, 1) := by decide +kernel
theorem dL_law_661 : decode cL_law 661 = .ok (.iaload, 1) := by decide +kernel
theorem dL_law_662 : decode cL_law 662 = .ok (.invokevirtual 110, 3) := by decide +kernel
theorem dL_law_665 : decode cL_law 665 = .ok (.istore 6, 2) := by decide +kernel
theorem dL_law_667 : decode cL_law 667 = .ok (.aload_n 2, 1) := by decide +kernel
theorem dL_law_668 : decode cL_law 668 = .ok (.invokevirtual 82, 3) := by decide +kernel
theorem dL_law_671 : decode cL_law 671 = .ok (.iload 5, 2) := by decide +kernel
theorem dL_law_673 : decode cL_law 673 = .ok (.if_icmp .eq 5, 3) := by decide +kernel
theorem dL_law_676 : decode cL_law 676 = .ok (.iconst 0, 1) := by decide +kernel
theorem dL_law_677 : decode cL_law 677 = .ok (.ireturn, 1) := by decide +kernel
theorem dL_law_678 : decode cL_law 678 = .ok (.iload 5, 2) := by decide +kernel
theorem dL_law_680 : decode cL_law 680 = .ok (.ifCond .ne 15, 3) := by decide +kernel
theorem dL_law_683 : decode cL_law 683 = .ok (.aload_n 3, 1) := by decide +kernel
theorem dL_law_684 : decode cL_law 684 = .ok (.iconst 0, 1) := by decide +kernel
theorem dL_law_685 : decode cL_law 685 = .ok (.laload, 1) := by decide +kernel
theorem dL_law_686 : decode cL_law 686 = .ok (.iload 6, 2) := by decide +kernel
theorem dL_law_688 : decode cL_law 688 = .ok (.i2l, 1) := by decide +kernel
theorem dL_law_689 : decode cL_law 689 = .ok (.lcmp, 1) := by decide +kernel
theorem dL_law_690 : decode cL_law 690 = .ok (.ifCond .eq 5, 3) := by decide +kernel
theorem dL_law_693 : decode cL_law 693 = .ok (.iconst 0, 1) := by decide +kernel
theorem dL_law_694 : decode cL_law 694 = .ok (.ireturn, 1) := by decide +kernel
theorem dL_law_695 : decode cL_law 695 = .ok (.goto 472, 3) := by decide +kernel
theorem dL_law_698 : decode cL_law 698 = .ok (.aload_n 1, 1) := by decide +kernel
theorem dL_law_699 : decode cL_law 699 = .ok (.aload_n 0, 1) := by decide +kernel
theorem dL_law_700 : decode cL_law 700 = .ok (.iload 4, 2) := by decide +kernel
theorem dL_law_702 : decode cL_law 702 = .ok (.iconst 1, 1) := by decide +kernel
theorem dL_law_703 : decode cL_law 703 = .ok (.iadd, 1) := by decide +kernel
theorem dL_law_704 : decode cL_law 704 = .ok (.iaload, 1) := by decide +kernel
theorem dL_law_705 : decode cL_law 705 = .ok (.aload_n 3, 1) := by decide +kernel
theorem dL_law_706 : decode cL_law 706 = .ok (.invokestatic 111, 3) := by decide +kernel
theorem dL_law_709 : decode cL_law 709 = .ok (.istore 5, 2) := by decide +kernel
theorem dL_law_711 : decode cL_law 711 = .ok (.aload_n 2, 1) := by decide +kernel
theorem dL_law_712 : decode cL_law 712 = .ok (.aload_n 0, 1) := by decide +kernel
theorem dL_law_713 : decode cL_law 713 = .ok (.iload 4, 2) := by decide +kernel
theorem dL_law_715 : decode cL_law 715 = .ok (.iconst 1, 1) := by decide +kernel
theorem dL_law_716 : decode cL_law 716 = .ok (.iadd, 1) := by decide +kernel
theorem dL_law_717 : decode cL_law 717 = .ok (.iaload, 1) := by decide +kernel
theorem dL_law_718 : decode cL_law 718 = .ok (.invokevirtual 113, 3) := by decide +kernel
theorem dL_law_721 : decode cL_law 721 = .ok (.istore 6, 2) := by decide +kernel
theorem dL_law_723 : decode cL_law 723 = .ok (.aload_n 2, 1) := by decide +kernel
theorem dL_law_724 : decode cL_law 724 = .ok (.invokevirtual 82, 3) := by decide +kernel
theorem dL_law_727 : decode cL_law 727 = .ok (.iload 5, 2) := by decide +kernel
theorem dL_law_729 : decode cL_law 729 = .ok (.if_icmp .eq 5, 3) := by decide +kernel
theorem dL_law_732 : decode cL_law 732 = .ok (.iconst 0, 1) := by decide +kernel
theorem dL_law_733 : decode cL_law 733 = .ok (.ireturn, 1) := by decide +kernel
theorem dL_law_734 : decode cL_law 734 = .ok (.iload 5, 2) := by decide +kernel
theorem dL_law_736 : decode cL_law 736 = .ok (.ifCond .ne 22, 3) := by decide +kernel
theorem dL_law_739 : decode cL_law 739 = .ok (.aload_n 3, 1) := by decide +kernel
theorem dL_law_740 : decode cL_law 740 = .ok (.iconst 0, 1) := by decide +kernel
theorem dL_law_741 : decode cL_law 741 = .ok (.laload, 1) := by decide +kernel
theorem dL_law_742 : decode cL_law 742 = .ok (.iload 6, 2) := by decide +kernel
theorem dL_law_744 : decode cL_law 744 = .ok (.ifCond .eq 7, 3) := by decide +kernel
theorem dL_law_747 : decode cL_law 747 = .ok (.lconst 1, 1) := by decide +kernel
theorem dL_law_748 : decode cL_law 748 = .ok (.goto 4, 3) := by decide +kernel
theorem dL_law_751 : decode cL_law 751 = .ok (.lconst 0, 1) := by decide +kernel
theorem dL_law_752 : decode cL_law 752 = .ok (.lcmp, 1) := by decide +kernel
theorem dL_law_753 : decode cL_law 753 = .ok (.ifCond .eq 5, 3) := by decide +kernel
theorem dL_law_756 : decode cL_law 756 = .ok (.iconst 0, 1) := by decide +kernel
theorem dL_law_757 : decode cL_law 757 = .ok (.ireturn, 1) := by decide +kernel
theorem dL_law_758 : decode cL_law 758 = .ok (.goto 409, 3) := by decide +kernel
theorem dL_law_761 : decode cL_law 761 = .ok (.aload_n 1, 1) := by decide +kernel
theorem dL_law_762 : decode cL_law 762 = .ok (.aload_n 3, 1) := by decide +kernel
theorem dL_law_763 : decode cL_law 763 = .ok (.invokestatic 114, 3) := by decide +kernel
theorem dL_law_766 : decode cL_law 766 = .ok (.istore 5, 2) := by decide +kernel
theorem dL_law_768 : decode cL_law 768 = .ok (.aload_n 2, 1) := by decide +kernel
theorem dL_law_769 : decode cL_law 769 = .ok (.invokevirtual 117, 3) := by decide +kernel
theorem dL_law_772 : decode cL_law 772 = .ok (.istore 6, 2) := by decide +kernel
theorem dL_law_774 : decode cL_law 774 = .ok (.aload_n 2, 1) := by decide +kernel
theorem dL_law_775 : decode cL_law 775 = .ok (.invokevirtual 82, 3) := by decide +kernel
theorem dL_law_778 : decode cL_law 778 = .ok (.iload 5, 2) := by decide +kernel
theorem dL_law_780 : decode cL_law 780 = .ok (.if_icmp .eq 5, 3) := by decide +kernel
theorem dL_law_783 : decode cL_law 783 = .ok (.iconst 0, 1) := by decide +kernel
theorem dL_law_784 : decode cL_law 784 = .ok (.ireturn, 1) := by decide +kernel
theorem dL_law_785 : decode cL_law 785 = .ok (.iload 5, 2) := by decide +kernel
theorem dL_law_787 : decode cL_law 787 = .ok (.ifCond .ne 15, 3) := by decide +kernel
theorem dL_law_790 : decode cL_law 790 = .ok (.aload_n 3, 1) := by decide +kernel
theorem dL_law_791 : decode cL_law 791 = .ok (.iconst 0, 1) := by decide +kernel
theorem dL_law_792 : decode cL_law 792 = .ok (.laload, 1) := by decide +kernel
theorem dL_law_793 : decode cL_law 793 = .ok (.iload 6, 2) := by decide +kernel
theorem dL_law_795 : decode cL_law 795 = .ok (.i2l, 1) := by decide +kernel
theorem dL_law_796 : decode cL_law 796 = .ok (.lcmp, 1) := by decide +kernel
theorem dL_law_797 : decode cL_law 797 = .ok (.ifCond .eq 5, 3) := by decide +kernel
theorem dL_law_800 : decode cL_law 800 = .ok (.iconst 0, 1) := by decide +kernel
theorem dL_law_801 : decode cL_law 801 = .ok (.ireturn, 1) := by decide +kernel
theorem dL_law_802 : decode cL_law 802 = .ok (.goto 365, 3) := by decide +kernel
theorem dL_law_805 : decode cL_law 805 = .ok (.aload_n 1, 1) := by decide +kernel
theorem dL_law_806 : decode cL_law 806 = .ok (.invokevirtual 118, 3) := by decide +kernel
theorem dL_law_809 : decode cL_law 809 = .ok (.aload_n 2, 1) := by decide +kernel
theorem dL_law_810 : decode cL_law 810 = .ok (.invokevirtual 121, 3) := by decide +kernel
theorem dL_law_813 : decode cL_law 813 = .ok (.if_icmp .eq 354, 3) := by decide +kernel
theorem dL_law_816 : decode cL_law 816 = .ok (.iconst 0, 1) := by decide +kernel
theorem dL_law_817 : decode cL_law 817 = .ok (.ireturn, 1) := by decide +kernel
theorem dL_law_818 : decode cL_law 818 = .ok (.aload_n 1, 1) := by decide +kernel
theorem dL_law_819 : decode cL_law 819 = .ok (.aload_n 0, 1) := by decide +kernel
theorem dL_law_820 : decode cL_law 820 = .ok (.iload 4, 2) := by decide +kernel
theorem dL_law_822 : decode cL_law 822 = .ok (.iconst 1, 1) := by decide +kernel
theorem dL_law_823 : decode cL_law 823 = .ok (.iadd, 1) := by decide +kernel
theorem dL_law_824 : decode cL_law 824 = .ok (.iaload, 1) := by decide +kernel
theorem dL_law_825 : decode cL_law 825 = .ok (.aload_n 3, 1) := by decide +kernel
theorem dL_law_826 : decode cL_law 826 = .ok (.invokestatic 122, 3) := by decide +kernel
theorem dL_law_829 : decode cL_law 829 = .ok (.istore 5, 2) := by decide +kernel
theorem dL_law_831 : decode cL_law 831 = .ok (.aload_n 2, 1) := by decide +kernel
theorem dL_law_832 : decode cL_law 832 = .ok (.aload_n 0, 1) := by decide +kernel
theorem dL_law_833 : decode cL_law 833 = .ok (.iload 4, 2) := by decide +kernel
theorem dL_law_835 : decode cL_law 835 = .ok (.iconst 1, 1) := by decide +kernel
theorem dL_law_836 : decode cL_law 836 = .ok (.iadd, 1) := by decide +kernel
theorem dL_law_837 : decode cL_law 837 = .ok (.iaload, 1) := by decide +kernel
theorem dL_law_838 : decode cL_law 838 = .ok (.invokevirtual 124, 3) := by decide +kernel
theorem dL_law_841 : decode cL_law 841 = .ok (.istore 6, 2) := by decide +kernel
theorem dL_law_843 : decode cL_law 843 = .ok (.aload_n 2, 1) := by decide +kernel
theorem dL_law_844 : decode cL_law 844 = .ok (.invokevirtual 82, 3) := by decide +kernel
theorem dL_law_847 : decode cL_law 847 = .ok (.iload 5, 2) := by decide +kernel
theorem dL_law_849 : decode cL_law 849 = .ok (.if_icmp .eq 5, 3) := by decide +kernel
theorem dL_law_852 : decode cL_law 852 = .ok (.iconst 0, 1) := by decide +kernel
theorem dL_law_853 : decode cL_law 853 = .ok (.ireturn, 1) := by decide +kernel
theorem dL_law_854 : decode cL_law 854 = .ok (.iload 5, 2) := by decide +kernel
theorem dL_law_856 : decode cL_law 856 = .ok (.ifCond .ne 15, 3) := by decide +kernel
theorem dL_law_859 : decode cL_law 859 = .ok (.aload_n 3, 1) := by decide +kernel
theorem dL_law_860 : decode cL_law 860 = .ok (.iconst 0, 1) := by decide +kernel
theorem dL_law_861 : decode cL_law 861 = .ok (.laload, 1) := by decide +kernel
theorem dL_law_862 : decode cL_law 862 = .ok (.iload 6, 2) := by decide +kernel
theorem dL_law_864 : decode cL_law 864 = .ok (.i2l, 1) := by decide +kernel
theorem dL_law_865 : decode cL_law 865 = .ok (.lcmp, 1) := by decide +kernel
theorem dL_law_866 : decode cL_law 866 = .ok (.ifCond .eq 5, 3) := by decide +kernel
theorem dL_law_869 : decode cL_law 869 = .ok (.iconst 0, 1) := by decide +kernel
theorem dL_law_870 : decode cL_law 870 = .ok (.ireturn, 1) := by decide +kernel
theorem dL_law_871 : decode cL_law 871 = .ok (.goto 296, 3) := by decide +kernel
theorem dL_law_874 : decode cL_law 874 = .ok (.aload_n 1, 1) := by decide +kernel
theorem dL_law_875 : decode cL_law 875 = .ok (.aload_n 0, 1) := by decide +kernel
theorem dL_law_876 : decode cL_law 876 = .ok (.iload 4, 2) := by decide +kernel
theorem dL_law_878 : decode cL_law 878 = .ok (.iconst 1, 1) := by decide +kernel
theorem dL_law_879 : decode cL_law 879 = .ok (.iadd, 1) := by decide +kernel
theorem dL_law_880 : decode cL_law 880 = .ok (.iaload, 1) := by decide +kernel
theorem dL_law_881 : decode cL_law 881 = .ok (.aload_n 3, 1) := by decide +kernel
theorem dL_law_882 : decode cL_law 882 = .ok (.invokestatic 125, 3) := by decide +kernel
theorem dL_law_885 : decode cL_law 885 = .ok (.istore 5, 2) := by decide +kernel
theorem dL_law_887 : decode cL_law 887 = .ok (.aload_n 2, 1) := by decide +kernel
theorem dL_law_888 : decode cL_law 888 = .ok (.aload_n 0, 1) := by decide +kernel
theorem dL_law_889 : decode cL_law 889 = .ok (.iload 4, 2) := by decide +kernel
theorem dL_law_891 : decode cL_law 891 = .ok (.iconst 1, 1) := by decide +kernel
theorem dL_law_892 : decode cL_law 892 = .ok (.iadd, 1) := by decide +kernel
theorem dL_law_893 : decode cL_law 893 = .ok (.iaload, 1) := by decide +kernel
theorem dL_law_894 : decode cL_law 894 = .ok (.invokevirtual 127, 3) := by decide +kernel
theorem dL_law_897 : decode cL_law 897 = .ok (.istore 6, 2) := by decide +kernel
theorem dL_law_899 : decode cL_law 899 = .ok (.aload_n 2, 1) := by decide +kernel
theorem dL_law_900 : decode cL_law 900 = .ok (.invokevirtual 82, 3) := by decide +kernel
theorem dL_law_903 : decode cL_law 903 = .ok (.iload 5, 2) := by decide +kernel
theorem dL_law_905 : decode cL_law 905 = .ok (.if_icmp .eq 5, 3) := by decide +kernel
theorem dL_law_908 : decode cL_law 908 = .ok (.iconst 0, 1) := by decide +kernel
theorem dL_law_909 : decode cL_law 909 = .ok (.ireturn, 1) := by decide +kernel
theorem dL_law_910 : decode cL_law 910 = .ok (.iload 5, 2) := by decide +kernel
theorem dL_law_912 : decode cL_law 912 = .ok (.ifCond .ne 15, 3) := by decide +kernel
theorem dL_law_915 : decode cL_law 915 = .ok (.aload_n 3, 1) := by decide +kernel
theorem dL_law_916 : decode cL_law 916 = .ok (.iconst 0, 1) := by decide +kernel
theorem dL_law_917 : decode cL_law 917 = .ok (.laload, 1) := by decide +kernel
theorem dL_law_918 : decode cL_law 918 = .ok (.iload 6, 2) := by decide +kernel
theorem dL_law_920 : decode cL_law 920 = .ok (.i2l, 1) := by decide +kernel
theorem dL_law_921 : decode cL_law 921 = .ok (.lcmp, 1) := by decide +kernel
theorem dL_law_922 : decode cL_law 922 = .ok (.ifCond .eq 5, 3) := by decide +kernel
theorem dL_law_925 : decode cL_law 925 = .ok (.iconst 0, 1) := by decide +kernel
theorem dL_law_926 : decode cL_law 926 = .ok (.ireturn, 1) := by decide +kernel
theorem dL_law_927 : decode cL_law 927 = .ok (.goto 240, 3) := by decide +kernel
theorem dL_law_930 : decode cL_law 930 = .ok (.aload_n 1, 1) := by decide +kernel
theorem dL_law_931 : decode cL_law 931 = .ok (.invokevirtual 128, 3) := by decide +kernel
theorem dL_law_934 : decode cL_law 934 = .ok (.aload_n 2, 1) := by decide +kernel
theorem dL_law_935 : decode cL_law 935 = .ok (.invokevirtual 131, 3) := by decide +kernel
theorem dL_law_938 : decode cL_law 938 = .ok (.if_icmp .eq 229, 3) := by decide +kernel
theorem dL_law_941 : decode cL_law 941 = .ok (.iconst 0, 1) := by decide +kernel
theorem dL_law_942 : decode cL_law 942 = .ok (.ireturn, 1) := by decide +kernel
theorem dL_law_943 : decode cL_law 943 = .ok (.aload_n 1, 1) := by decide +kernel
theorem dL_law_944 : decode cL_law 944 = .ok (.aload_n 0, 1) := by decide +kernel
theorem dL_law_945 : decode cL_law 945 = .ok (.iload 4, 2) := by decide +kernel
theorem dL_law_947 : decode cL_law 947 = .ok (.iconst 1, 1) := by decide +kernel
theorem dL_law_948 : decode cL_law 948 = .ok (.iadd, 1) := by decide +kernel
theorem dL_law_949 : decode cL_law 949 = .ok (.iaload, 1) := by decide +kernel
theorem dL_law_950 : decode cL_law 950 = .ok (.aload_n 3, 1) := by decide +kernel
theorem dL_law_951 : decode cL_law 951 = .ok (.invokestatic 132, 3) := by decide +kernel
theorem dL_law_954 : decode cL_law 954 = .ok (.istore 5, 2) := by decide +kernel
theorem dL_law_956 : decode cL_law 956 = .ok (.aload_n 2, 1) := by decide +kernel
theorem dL_law_957 : decode cL_law 957 = .ok (.aload_n 0, 1) := by decide +kernel
theorem dL_law_958 : decode cL_law 958 = .ok (.iload 4, 2) := by decide +kernel
theorem dL_law_960 : decode cL_law 960 = .ok (.iconst 1, 1) := by decide +kernel
theorem dL_law_961 : decode cL_law 961 = .ok (.iadd, 1) := by decide +kernel
theorem dL_law_962 : decode cL_law 962 = .ok (.iaload, 1) := by decide +kernel
theorem dL_law_963 : decode cL_law 963 = .ok (.invokevirtual 134, 3) := by decide +kernel
theorem dL_law_966 : decode cL_law 966 = .ok (.istore 6, 2) := by decide +kernel
theorem dL_law_968 : decode cL_law 968 = .ok (.aload_n 2, 1) := by decide +kernel
theorem dL_law_969 : decode cL_law 969 = .ok (.invokevirtual 82, 3) := by decide +kernel
theorem dL_law_972 : decode cL_law 972 = .ok (.iload 5, 2) := by decide +kernel
theorem dL_law_974 : decode cL_law 974 = .ok (.if_icmp .eq 5, 3) := by decide +kernel
theorem dL_law_977 : decode cL_law 977 = .ok (.iconst 0, 1) := by decide +kernel
theorem dL_law_978 : decode cL_law 978 = .ok (.ireturn, 1) := by decide +kernel
theorem dL_law_979 : decode cL_law 979 = .ok (.iload 5, 2) := by decide +kernel
theorem dL_law_981 : decode cL_law 981 = .ok (.ifCond .ne 15, 3) := by decide +kernel
theorem dL_law_984 : decode cL_law 984 = .ok (.aload_n 3, 1) := by decide +kernel
theorem dL_law_985 : decode cL_law 985 = .ok (.iconst 0, 1) := by decide +kernel
theorem dL_law_986 : decode cL_law 986 = .ok (.laload, 1) := by decide +kernel
theorem dL_law_987 : decode cL_law 987 = .ok (.iload 6, 2) := by decide +kernel
theorem dL_law_989 : decode cL_law 989 = .ok (.i2l, 1) := by decide +kernel
theorem dL_law_990 : decode cL_law 990 = .ok (.lcmp, 1) := by decide +kernel
theorem dL_law_991 : decode cL_law 991 = .ok (.ifCond .eq 5, 3) := by decide +kernel
theorem dL_law_994 : decode cL_law 994 = .ok (.iconst 0, 1) := by decide +kernel
theorem dL_law_995 : decode cL_law 995 = .ok (.ireturn, 1) := by decide +kernel
theorem dL_law_996 : decode cL_law 996 = .ok (.goto 171, 3) := by decide +kernel
theorem dL_law_999 : decode cL_law 999 = .ok (.aload_n 1, 1) := by decide +kernel
theorem dL_law_1000 : decode cL_law 1000 = .ok (.aload_n 0, 1) := by decide +kernel
theorem dL_law_1001 : decode cL_law 1001 = .ok (.iload 4, 2) := by decide +kernel
theorem dL_law_1003 : decode cL_law 1003 = .ok (.iconst 1, 1) := by decide +kernel
theorem dL_law_1004 : decode cL_law 1004 = .ok (.iadd, 1) := by decide +kernel
theorem dL_law_1005 : decode cL_law 1005 = .ok (.iaload, 1) := by decide +kernel
theorem dL_law_1006 : decode cL_law 1006 = .ok (.aload_n 3, 1) := by decide +kernel
theorem dL_law_1007 : decode cL_law 1007 = .ok (.invokestatic 135, 3) := by decide +kernel
theorem dL_law_1010 : decode cL_law 1010 = .ok (.istore 5, 2) := by decide +kernel
theorem dL_law_1012 : decode cL_law 1012 = .ok (.aload_n 2, 1) := by decide +kernel
theorem dL_law_1013 : decode cL_law 1013 = .ok (.aload_n 0, 1) := by decide +kernel
theorem dL_law_1014 : decode cL_law 1014 = .ok (.iload 4, 2) := by decide +kernel
theorem dL_law_1016 : decode cL_law 1016 = .ok (.iconst 1, 1) := by decide +kernel
theorem dL_law_1017 : decode cL_law 1017 = .ok (.iadd, 1) := by decide +kernel
theorem dL_law_1018 : decode cL_law 1018 = .ok (.iaload, 1) := by decide +kernel
theorem dL_law_1019 : decode cL_law 1019 = .ok (.invokevirtual 137, 3) := by decide +kernel
theorem dL_law_1022 : decode cL_law 1022 = .ok (.istore 6, 2) := by decide +kernel
theorem dL_law_1024 : decode cL_law 1024 = .ok (.aload_n 2, 1) := by decide +kernel
theorem dL_law_1025 : decode cL_law 1025 = .ok (.invokevirtual 82, 3) := by decide +kernel
theorem dL_law_1028 : decode cL_law 1028 = .ok (.iload 5, 2) := by decide +kernel
theorem dL_law_1030 : decode cL_law 1030 = .ok (.if_icmp .eq 5, 3) := by decide +kernel
theorem dL_law_1033 : decode cL_law 1033 = .ok (.iconst 0, 1) := by decide +kernel
theorem dL_law_1034 : decode cL_law 1034 = .ok (.ireturn, 1) := by decide +kernel
theorem dL_law_1035 : decode cL_law 1035 = .ok (.iload 5, 2) := by decide +kernel
theorem dL_law_1037 : decode cL_law 1037 = .ok (.ifCond .ne 15, 3) := by decide +kernel
theorem dL_law_1040 : decode cL_law 1040 = .ok (.aload_n 3, 1) := by decide +kernel
theorem dL_law_1041 : decode cL_law 1041 = .ok (.iconst 0, 1) := by decide +kernel
theorem dL_law_1042 : decode cL_law 1042 = .ok (.laload, 1) := by decide +kernel
theorem dL_law_1043 : decode cL_law 1043 = .ok (.iload 6, 2) := by decide +kernel
theorem dL_law_1045 : decode cL_law 1045 = .ok (.i2l, 1) := by decide +kernel
theorem dL_law_1046 : decode cL_law 1046 = .ok (.lcmp, 1) := by decide +kernel
theorem dL_law_1047 : decode cL_law 1047 = .ok (.ifCond .eq 5, 3) := by decide +kernel
theorem dL_law_1050 : decode cL_law 1050 = .ok (.iconst 0, 1) := by decide +kernel
theorem dL_law_1051 : decode cL_law 1051 = .ok (.ireturn, 1) := by decide +kernel
theorem dL_law_1052 : decode cL_law 1052 = .ok (.goto 115, 3) := by decide +kernel
theorem dL_law_1055 : decode cL_law 1055 = .ok (.aload_n 1, 1) := by decide +kernel
theorem dL_law_1056 : decode cL_law 1056 = .ok (.aload_n 0, 1) := by decide +kernel
theorem dL_law_1057 : decode cL_law 1057 = .ok (.iload 4, 2) := by decide +kernel
theorem dL_law_1059 : decode cL_law 1059 = .ok (.iconst 1, 1) := by decide +kernel
theorem dL_law_1060 : decode cL_law 1060 = .ok (.iadd, 1) := by decide +kernel
theorem dL_law_1061 : decode cL_law 1061 = .ok (.iaload, 1) := by decide +kernel
theorem dL_law_1062 : decode cL_law 1062 = .ok (.aload_n 3, 1) := by decide +kernel
theorem dL_law_1063 : decode cL_law 1063 = .ok (.invokestatic 138, 3) := by decide +kernel
theorem dL_law_1066 : decode cL_law 1066 = .ok (.istore 5, 2) := by decide +kernel
theorem dL_law_1068 : decode cL_law 1068 = .ok (.aload_n 2, 1) := by decide +kernel
theorem dL_law_1069 : decode cL_law 1069 = .ok (.aload_n 0, 1) := by decide +kernel
theorem dL_law_1070 : decode cL_law 1070 = .ok (.iload 4, 2) := by decide +kernel
theorem dL_law_1072 : decode cL_law 1072 = .ok (.iconst 1, 1) := by decide +kernel
theorem dL_law_1073 : decode cL_law 1073 = .ok (.iadd, 1) := by decide +kernel
theorem dL_law_1074 : decode cL_law 1074 = .ok (.iaload, 1) := by decide +kernel
theorem dL_law_1075 : decode cL_law 1075 = .ok (.invokevirtual 140, 3) := by decide +kernel
theorem dL_law_1078 : decode cL_law 1078 = .ok (.istore 6, 2) := by decide +kernel
theorem dL_law_1080 : decode cL_law 1080 = .ok (.aload_n 2, 1) := by decide +kernel
theorem dL_law_1081 : decode cL_law 1081 = .ok (.invokevirtual 82, 3) := by decide +kernel
theorem dL_law_1084 : decode cL_law 1084 = .ok (.iload 5, 2) := by decide +kernel
theorem dL_law_1086 : decode cL_law 1086 = .ok (.if_icmp .eq 5, 3) := by decide +kernel
theorem dL_law_1089 : decode cL_law 1089 = .ok (.iconst 0, 1) := by decide +kernel
theorem dL_law_1090 : decode cL_law 1090 = .ok (.ireturn, 1) := by decide +kernel
theorem dL_law_1091 : decode cL_law 1091 = .ok (.iload 5, 2) := by decide +kernel
theorem dL_law_1093 : decode cL_law 1093 = .ok (.ifCond .ne 15, 3) := by decide +kernel
theorem dL_law_1096 : decode cL_law 1096 = .ok (.aload_n 3, 1) := by decide +kernel
theorem dL_law_1097 : decode cL_law 1097 = .ok (.iconst 0, 1) := by decide +kernel
theorem dL_law_1098 : decode cL_law 1098 = .ok (.laload, 1) := by decide +kernel
theorem dL_law_1099 : decode cL_law 1099 = .ok (.iload 6, 2) := by decide +kernel
theorem dL_law_1101 : decode cL_law 1101 = .ok (.i2l, 1) := by decide +kernel
theorem dL_law_1102 : decode cL_law 1102 = .ok (.lcmp, 1) := by decide +kernel
theorem dL_law_1103 : decode cL_law 1103 = .ok (.ifCond .eq 5, 3) := by decide +kernel
theorem dL_law_1106 : decode cL_law 1106 = .ok (.iconst 0, 1) := by decide +kernel
theorem dL_law_1107 : decode cL_law 1107 = .ok (.ireturn, 1) := by decide +kernel
theorem dL_law_1108 : decode cL_law 1108 = .ok (.goto 59, 3) := by decide +kernel
theorem dL_law_1111 : decode cL_law 1111 = .ok (.aload_n 1, 1) := by decide +kernel
theorem dL_law_1112 : decode cL_law 1112 = .ok (.aload_n 0, 1) := by decide +kernel
theorem dL_law_1113 : decode cL_law 1113 = .ok (.iload 4, 2) := by decide +kernel
theorem dL_law_1115 : decode cL_law 1115 = .ok (.iconst 1, 1) := by decide +kernel
theorem dL_law_1116 : decode cL_law 1116 = .ok (.iadd, 1) := by decide +kernel
theorem dL_law_1117 : decode cL_law 1117 = .ok (.iaload, 1) := by decide +kernel
theorem dL_law_1118 : decode cL_law 1118 = .ok (.aload_n 3, 1) := by decide +kernel
theorem dL_law_1119 : decode cL_law 1119 = .ok (.invokestatic 141, 3) := by decide +kernel
theorem dL_law_1122 : decode cL_law 1122 = .ok (.istore 5, 2) := by decide +kernel
theorem dL_law_1124 : decode cL_law 1124 = .ok (.aload_n 2, 1) := by decide +kernel
theorem dL_law_1125 : decode cL_law 1125 = .ok (.aload_n 0, 1) := by decide +kernel
theorem dL_law_1126 : decode cL_law 1126 = .ok (.iload 4, 2) := by decide +kernel
theorem dL_law_1128 : decode cL_law 1128 = .ok (.iconst 1, 1) := by decide +kernel
theorem dL_law_1129 : decode cL_law 1129 = .ok (.iadd, 1) := by decide +kernel
theorem dL_law_1130 : decode cL_law 1130 = .ok (.iaload, 1) := by decide +kernel
theorem dL_law_1131 : decode cL_law 1131 = .ok (.invokevirtual 143, 3) := by decide +kernel
theorem dL_law_1134 : decode cL_law 1134 = .ok (.istore 6, 2) := by decide +kernel
theorem dL_law_1136 : decode cL_law 1136 = .ok (.aload_n 2, 1) := by decide +kernel
theorem dL_law_1137 : decode cL_law 1137 = .ok (.invokevirtual 82, 3) := by decide +kernel
theorem dL_law_1140 : decode cL_law 1140 = .ok (.iload 5, 2) := by decide +kernel
theorem dL_law_1142 : decode cL_law 1142 = .ok (.if_icmp .eq 5, 3) := by decide +kernel
theorem dL_law_1145 : decode cL_law 1145 = .ok (.iconst 0, 1) := by decide +kernel
theorem dL_law_1146 : decode cL_law 1146 = .ok (.ireturn, 1) := by decide +kernel
theorem dL_law_1147 : decode cL_law 1147 = .ok (.iload 5, 2) := by decide +kernel
theorem dL_law_1149 : decode cL_law 1149 = .ok (.ifCond .ne 15, 3) := by decide +kernel
theorem dL_law_1152 : decode cL_law 1152 = .ok (.aload_n 3, 1) := by decide +kernel
theorem dL_law_1153 : decode cL_law 1153 = .ok (.iconst 0, 1) := by decide +kernel
theorem dL_law_1154 : decode cL_law 1154 = .ok (.laload, 1) := by decide +kernel
theorem dL_law_1155 : decode cL_law 1155 = .ok (.iload 6, 2) := by decide +kernel
theorem dL_law_1157 : decode cL_law 1157 = .ok (.i2l, 1) := by decide +kernel
theorem dL_law_1158 : decode cL_law 1158 = .ok (.lcmp, 1) := by decide +kernel
theorem dL_law_1159 : decode cL_law 1159 = .ok (.ifCond .eq 5, 3) := by decide +kernel
theorem dL_law_1162 : decode cL_law 1162 = .ok (.iconst 0, 1) := by decide +kernel
theorem dL_law_1163 : decode cL_law 1163 = .ok (.ireturn, 1) := by decide +kernel
theorem dL_law_1164 : decode cL_law 1164 = .ok (.goto 3, 3) := by decide +kernel
theorem dL_law_1167 : decode cL_law 1167 = .ok (.iinc 4 3, 3) := by decide +kernel
theorem dL_law_1170 : decode cL_law 1170 = .ok (.goto (-1147), 3) := by decide +kernel
theorem dL_law_1173 : decode cL_law 1173 = .ok (.iconst 1, 1) := by decide +kernel
theorem dL_law_1174 : decode cL_law 1174 = .ok (.ireturn, 1) := by decide +kernel
abbrev vwCl : List vw_C := [(RX0, TX0, 5), (RX1, TX1, 1), (RX2, TX2, 8), (RX3, TX3, 5), (RX4, TX4, 4), (RX5, TX5, 4), (RX6, TX6, 24)]
/-! THE CLAIM OUT OF ONE WALK OF THE LAW'S BODY. Your part is whole_start (and what it stands on); all else here is the same for every law, but numbers. -/
def R_law : String := "PaintballAtlasLaw"
def lw_P (b : Addr) (xs : List Int32) (args : Array Value) (s : State) : Prop := args = #[.ref b] ∧ s.IntsAt b xs ∧ xs.length ≤ 1536 ∧ (Jvm.Cond.and given_1 narrow_1).before args s = true
def lw_Q (_ : Array Value) (s : State) (o : Outcome) (t : State) : Prop := o = .returned (some (.int 1)) ∧ Framed s o t [] 601024 7293034
def lw_Z (below : List Frame) (a : Array Value) (s : State) : State → Prop := fun t => ∃ o, t.status = .running ∧ Ended t below o ∧ lw_Q a s o t
/-- the law's own end, with 1 on the stack, nothing written that was there before, its room as the claim has it -/
theorem lw_ret {p : Program} {l : Launch} {e : Env} {s : State} {m : MethodId} {below : List Frame} {meth : Method} {c : Code} {b : Nat} (hx : p.tables.exec = Jvm.exec) (hb : c.code = code) (hr : meth.sig.returnType = ret) (hlocks : meth.locks = false) {pc : Nat} {H : Heap} {ls : Array Slot} (hdg : decode code pc = .ok (.ireturn, 1)) : W p l e room_1 s m #[Value.ref b] below meth c H [] 601024 7293034 (lw_Z below #[Value.ref b] s) (F0 m pc ls [.int 1]) := by
  intro T hT X
  obtain ⟨fs, hret, hrun, hended, hW, hframe⟩ := X.leave (v := some (.int 1)) (hlocks := hlocks) (fun h => by rw [hr] at h; cases h)
  have hmeth' : T.vm.method? m = some meth := X.method'
  refine ⟨T.setFrames fs, ?_, .returned (some (.int 1)), hrun, hended, rfl, ⟨_, rfl⟩, hW, hframe⟩
  jvm_step X.here [X.here.top, hx, hb, hdg, hmeth', hr, ret, narrow_b1]
  (try refine ⟨rfl, ?_⟩); (try refine ⟨rfl, ?_⟩)
  first | (intro acts; rw [hret _ acts rfl rfl rfl]) | rw [hret _ _ rfl rfl rfl]
  exact Steps.refl _
/-- what holds at the law's entry: the machine, the code, the tables' words (any of lw_tbl by 'hts w (by decide +kernel)'), the script of L ints xs at the cell b, what the Statement gives of the start (any of its parts by flat_of_before) -/
def lw_At (p : Program) (s : State) (m : MethodId) (meth : Method) (c : Code) (b L : Nat) (xs : Nat → Int32) : Prop :=
  p.tables.exec = Jvm.exec ∧ c.code = code ∧ meth.sig.returnType = ret ∧ c.maxLocals = 7 ∧ s.vm.findClass R_law = some m.cls ∧ (∀ w ∈ lw_tbl, w.before #[Value.ref b] s = true) ∧ va_X b L xs s s.heap ∧ b < s.heap.size ∧ meth.locks = false ∧ (Jvm.Cond.and given_1 narrow_1).before #[Value.ref b] s = true
end
section
/-! ===== state pictures and rows of my own ===== -/
abbrev tyL (cI cZ cJ cA : ClassId) : List (ClassId × FieldType) := [(cI, .int), (cZ, .boolean), (cJ, .long), (cA, .array .int)]
abbrev pcR (D : va_G) (ty : List (ClassId × FieldType)) (ws : va_W) (sz : Nat) (U : State) : Prop := U.heap.size = sz ∧ va_P D vwCl ws U.heap ∧ va_K D vwCl ty U
abbrev pcW (D : va_G) (ty : List (ClassId × FieldType)) (ws : va_W) (sz : Nat) (U : State) : Prop := U.heap.size = sz ∧ va_P D vwCl ws U.heap ∧ va_K D vwCl ty U ∧ va_D (fun _ => True) ws
abbrev bcW (D : va_G) (ty : List (ClassId × FieldType)) (A : Nat → Prop) (ws : va_W) (t : State) : Prop := va_P D vwCl ws t.heap ∧ va_K D vwCl ty t ∧ va_D A ws
theorem pcR_bl {av : List Value} {D : va_G} {ty : List (ClassId × FieldType)} {ws : va_W} {sz : Nat} : FrameBlind (va_Pc av (pcR D ty ws sz)) := fun a U g mk q => by
  obtain ⟨q0, q1, qP, qK⟩ := q
  exact ⟨q0, q1, qP, va_K.moved (u := U) (U := U.calling g mk a) (Vm.Alike.refl U.vm) qK⟩
theorem pcW_bl {av : List Value} {D : va_G} {ty : List (ClassId × FieldType)} {ws : va_W} {sz : Nat} : FrameBlind (va_Pc av (pcW D ty ws sz)) := fun a U g mk q => by
  obtain ⟨q0, q1, qP, qK, qD⟩ := q
  exact ⟨q0, q1, qP, va_K.moved (u := U) (U := U.calling g mk a) (Vm.Alike.refl U.vm) qK, qD⟩
theorem rd_P {D : va_G} {cl : List vw_C} {ws : va_W} {H H1 : Heap} (hP : va_P D cl ws H) (hk : ∀ q : Nat, q < H.size → ¬ H.size ≤ q → H1[q]? = H[q]?) : va_P D cl ws H1 :=
  hP.kept (fun k q hq => hk q.1 (hP k q hq).lt (Nat.not_le.mpr (hP k q hq).lt))
theorem rd_free {A : Nat → Prop} {H0 H : Heap} {locs : List Loc} (hS : va_S A H0 H locs) (hA : ∀ q : Nat, H0.size ≤ q → A q) : ∀ q : Nat, H.size ≤ q → A q := fun q h => hA q (Nat.le_trans hS.1 h)
theorem nz01 {v : Int32} (h : v = 0 ∨ v = 1) : narrow .boolean (.int v) = .int v := by rcases h with rfl | rfl <;> rfl
section OWN
variable {p : Program} {l : Launch} {e : Env} {R : Room} {s : State} {m : MethodId} {args : Array Value} {below : List Frame} {meth : Method} {c : Code} {H : Heap} {locs : List Loc} {cells slots : Nat} {Q : State → Prop}
variable {cc : ByteArray} {pc : Nat} {ls : Array Slot} {rest : List Value} {D : va_G} {cl : List vw_C} {A : Nat → Prop} {a : Nat} {tys : List (ClassId × FieldType)} {ws : va_W} {H0 : Heap}
theorem tp_eq {x y : Int32} (h : x = y) (k : W p l e R s m args below meth c H locs cells slots Q (F0 m pc ls (.int y :: rest))) : W p l e R s m args below meth c H locs cells slots Q (F0 m pc ls (.int x :: rest)) := by rw [h]; exact k
theorem tp_eqv {x y : Value} (h : x = y) (k : W p l e R s m args below meth c H locs cells slots Q (F0 m pc ls (y :: rest))) : W p l e R s m args below meth c H locs cells slots Q (F0 m pc ls (x :: rest)) := by rw [h]; exact k
/-- aaload out of an array of arrays -/
theorem ald2 (hexec : p.tables.exec = Jvm.exec) (hb : c.code = cc) (hK : va_K D cl tys s) (hP : va_P D cl ws H) (q0 t0 : Nat) {cA : ClassId} {n : Nat} {f : Nat → Option Nat} {ty : FieldType} (ha : ws[q0]? = some (a, .inl (cA, n, .inr (.inr (.inr (.inr f)))))) (ht : tys[t0]? = some (cA, .array ty)) {i : Int32} (hin : vp_in i n) (hdg : decode cc pc = .ok (.aaload, 1))
    (kk : W p l e R s m args below meth c H locs cells slots Q (F0 m (pc + 1) ls (va_rf (f i.toNatClampNeg) :: rest))) : W p l e R s m args below meth c H locs cells slots Q (F0 m pc ls (.int i :: .ref a :: rest)) := by
  have hlt : i.toNatClampNeg < n := Nat.not_le.mp fun q => hin (Or.inr q)
  exact W.aald (v := va_rf (f i.toNatClampNeg)) (ty := .array ty) hexec hb (hP q0 _ ha) ((hK.2 t0 _ ht).1 n (fun j => va_rf (f j))) rfl (fun q => by cases q) (by show ¬ (i < 0 ∨ (arrV _ _ _).slots.size ≤ _); rw [arrV_size]; exact hin) (by show (arrV _ _ _).slots[_]? = _; rw [arrV_read _ _ hlt]) rfl rfl hdg kk
/-- two ways that come together with a value on the stack -/
theorem jn_v {st st2 : List Value} {ls2 : Array Slot} {pc2 : Nat} (E : Int32)
    (k1 : (∀ v : Int32, v = E → W p l e R s m args below meth c H locs cells slots Q (F0 m pc2 ls2 (.int v :: st2))) → W p l e R s m args below meth c H locs cells slots Q (F0 m pc ls st))
    (k2 : ∀ v : Int32, v = E → W p l e R s m args below meth c H locs cells slots Q (F0 m pc2 ls2 (.int v :: st2))) : W p l e R s m args below meth c H locs cells slots Q (F0 m pc ls st) := k1 k2
/-- a loop: σ its own numbers, I what holds at its head, μ what falls -/
theorem lpW {σ : Type} (I : σ → Heap → List Loc → Array Slot → Prop) (μ : σ → Nat) {st : List Value}
    (body : ∀ (x : σ) (H : Heap) (locs : List Loc) (ls : Array Slot), I x H locs ls → (∀ (y : σ) (H1 : Heap) (locs1 : List Loc) (ls1 : Array Slot), μ y < μ x → I y H1 locs1 ls1 → W p l e R s m args below meth c H1 locs1 cells slots Q (F0 m pc ls1 st)) → W p l e R s m args below meth c H locs cells slots Q (F0 m pc ls st))
    (x : σ) (hI : I x H locs ls) : W p l e R s m args below meth c H locs cells slots Q (F0 m pc ls st) := by
  have h : ∀ (n : Nat) (x : σ) (H : Heap) (locs : List Loc) (ls : Array Slot), μ x < n → I x H locs ls → W p l e R s m args below meth c H locs cells slots Q (F0 m pc ls st) := by
    intro n
    induction n with
    | zero => intro x H locs ls h; exact absurd h (Nat.not_lt_zero _)
    | succ n ih =>
      intro x H locs ls h hI
      exact body x H locs ls hI (fun y H1 locs1 ls1 hy hI1 => ih y H1 locs1 ls1 (by omega) hI1)
  exact h (μ x + 1) x H locs ls (Nat.lt_succ_self _) hI
end OWN
end
section
theorem zz_last : True := trivial
end
